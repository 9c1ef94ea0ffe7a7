theorem fg_orL_lt {mv : Nat → Nat} {x : Int32} {w : Nat} : ∀ {n : Nat}, (∀ p, p < n → mv p < 2 ^ w) → fg_orL mv x n < 2 ^ w := by
  intro n
  induction n with
  | zero => intro _; exact Nat.two_pow_pos w
  | succ n ih =>
    intro h
    refine fg_or_lt (ih (fun p hp => h p (by omega))) ?_
    split
    · exact Nat.two_pow_pos w
    · exact h n (by omega)
noncomputable def fg_oN (r : Option Nat) (f : Nat → Int32) : Int32 := match r with
  | none => -1
  | some s => f s
noncomputable def an_ask (A : fg_Tl) (town day n person fact whom : Nat) : Int32 := fg_g1 A town day n person (-1) (fun T S _ => if fact < T 0 then (if (S.2.1.1 person).testBit fact = true then -1 else fg_oN (fg_min (fun s => fg_le s (fg_df (fg_orL S.2.1.1 (nI person) (T 2)) (S.2.1.1 person)) ∧ fg_few T (S.2.1.1 person) (2 ^ fact) 0 s)) (fun s => if whom = 0 then nI s else nI (fg_lwL S.2.1.1 person s (T 2)).1)) else -1)
noncomputable def an_note (A : fg_Tl) (town day n person fact but : Nat) : Int32 := fg_g1 A town day n person (-1) (fun T S _ => if fact < T 0 then (if but < T 0 then (if fact = but then -1 else if (S.2.1.1 person).testBit fact = true then -1 else fg_o (fg_min (fun s => fg_le s (fg_df (fg_df (2 ^ T 0 - 1) (S.2.1.1 person)) (2 ^ fact)) ∧ fg_few T (S.2.1.1 person) (2 ^ fact) (2 ^ but) s))) else -1) else -1)
theorem fg_p2 {k w : Nat} (h : k < w) (hw : w ≤ 10) : 2 ^ k < 2 ^ 10 := Nat.pow_lt_pow_right (by decide) (Nat.lt_of_lt_of_le h hw)
theorem ev_Town_fewestX {E : fg_E} {d : Nat} {μ : Nat → Nat → Int32} {R : fg_T4} {Q : Option Value → fg_M → Prop} {t : Nat} {T : Nat → Nat} (ht : fg_isT t) (hT : fg_TW μ t T) (hok : fg_ok T) {pool mind need nt : Nat} (hpo : pool < 2 ^ T 0) (hm : mind < 2 ^ T 0) (hne : need < 2 ^ 10) (hnt : nt < 2 ^ 10) (hN : fg_min (fun s => fg_le s pool ∧ fg_few T mind need nt s) = none → Q (some (.int (-1))) (μ, fg_rho R, 304)) (hY : ∀ p, fg_min (fun s => fg_le s pool ∧ fg_few T mind need nt s) = some p → Q (some (.int (nI p))) (μ, fg_rho R, 304)) : fg_Ev E yy_Town_fewest (d + 2) [.ref t, .int (nI pool), .int (nI mind), .int (nI need), .int (nI nt)] (μ, fg_rho R, 304) 304 Q := by
  refine ev_Town_fewest ht hT hok hpo hm hne hnt ?_
  cases h : fg_min (fun s => fg_le s pool ∧ fg_few T mind need nt s) with
  | none => exact hN h
  | some p => exact hY p h
theorem ev_Fb_stateOfOne {E : fg_E} {d : Nat} {μ : Nat → Nat → Int32} {R : fg_T4} {Q : Option Value → fg_M → Prop} {t : Nat} {T : Nat → Nat} (ht : fg_isT t) (hT : fg_TW μ t T) (hok : fg_ok T) {f h : Nat} {Z : fg_Z} {hv lv : Nat → Nat} {o : Option Nat × Nat × Nat} (hf : fg_isF f) (hft : fg_rho R f 0 = some t) (hF : fg_FZ μ f T h Z hv lv o) (hz : fg_zok T h Z hv) {what : Nat} (hwhat : what < 2 ^ 32) (hQ : Q (some (.int (fg_one T (h, Z, hv) lv what))) (μ, fg_rho R, 304)) : fg_Ev E yy_Fb_stateOfOne (d + 4) [.ref f, .int (nI what)] (μ, fg_rho R, 304) 304 Q := by
  have hb0 := hok.1
  have hb1 := hok.2.1
  have hp := hok.p
  have hq := Nat.two_pow_pos (T 0)
  have hfb := fF_b hf
  have hz9 := hz.1
  refine fg_intro (by decide +kernel) (Nat.le_of_ble_eq_true rfl) (fg_okAs rfl) (Nat.le_refl _) ?_
  refine fg_iloadn (fg_ft (pc := 0) tb_Fb_stateOfOne 0 rfl) rfl ?_
  refine fg_bipush (fg_ft (pc := 1) tb_Fb_stateOfOne 1 rfl) ib_10 ?_
  refine fg_icmp_ltW (tgt := 12) (fg_ft (pc := 3) tb_Fb_stateOfOne 2 rfl) (by decide) (hwhat) (by decide) (fun c3 => ?_) (fun c3 => ?_)
  · refine fg_bipush (fg_ft (pc := 12) tb_Fb_stateOfOne 6 rfl) ib_m2 ?_
    exact fg_iret (fg_ft (pc := 14) tb_Fb_stateOfOne 7 rfl) rfl rfl (fg_q hQ (by unfold fg_one; first | (rw [if_neg (by omega)]; done) | (rw [if_pos (by omega), if_neg (by omega)]; done) | (rw [if_pos (by omega), if_pos (by omega), if_pos (by omega)]; done) | (rw [if_pos (by omega), if_pos (by omega), if_neg (by omega), if_pos (by omega)]; done) | (rw [if_pos (by omega), if_pos (by omega), if_neg (by omega), if_neg (by omega)]; done) | (rw [if_pos (by omega), if_pos (by omega), if_neg (by omega), if_neg (by omega), if_pos (by omega)]; done)))
  · refine fg_iloadn (fg_ft (pc := 6) tb_Fb_stateOfOne 3 rfl) rfl ?_
    refine fg_bipush (fg_ft (pc := 7) tb_Fb_stateOfOne 4 rfl) ib_40 ?_
    refine fg_icmp_ltW (tgt := 15) (fg_ft (pc := 9) tb_Fb_stateOfOne 5 rfl) (by decide) (hwhat) (by decide) (fun c9 => ?_) (fun c9 => ?_)
    · refine fg_iloadn (fg_ft (pc := 15) tb_Fb_stateOfOne 8 rfl) rfl ?_
      refine fg_bipush (fg_ft (pc := 16) tb_Fb_stateOfOne 9 rfl) ib_10 ?_
      refine fg_irem (fg_ft (pc := 18) tb_Fb_stateOfOne 10 rfl) (by decide) ?_
      rw [nI_rem (by omega) (by decide)]
      refine fg_istoren (fg_ft (pc := 19) tb_Fb_stateOfOne 11 rfl) (Nat.le_of_ble_eq_true rfl) ?_
      refine fg_aloadn (fg_ft (pc := 20) tb_Fb_stateOfOne 12 rfl) rfl ?_
      refine fg_getR (fg_ft (pc := 21) tb_Fb_stateOfOne 13 rfl) ff_Fb_194 (fF_lay hf) rfl (fg_lt (fF_lay hf) (by decide)) hft ?_
      refine fg_iloadn (fg_ft (pc := 24) tb_Fb_stateOfOne 14 rfl) rfl ?_
      refine fg_callV (fg_ft (pc := 25) tb_Fb_stateOfOne 15 rfl) cf_Fb_178 (fg_isOf (tT_lay ht) rfl (fg_lt (tT_lay ht) (by decide))) (as := [.int (nI (what % 10))]) (st := []) rfl rfl (Nat.le_of_ble_eq_true rfl) (Nat.le_refl _) (Nat.le_refl _) (ev_Town_hasPerson ht hT hok (k := (what % 10)) (by omega) ?_)
      refine fg_ifB_ne (tgt := 34) (fg_ft (pc := 28) tb_Fb_stateOfOne 16 rfl) (by decide) (fun c28 => ?_) (fun c28 => ?_)
      · refine fg_iloadn (fg_ft (pc := 34) tb_Fb_stateOfOne 19 rfl) rfl ?_
        refine fg_bipush (fg_ft (pc := 35) tb_Fb_stateOfOne 20 rfl) ib_20 ?_
        refine fg_icmp_geW (tgt := 46) (fg_ft (pc := 37) tb_Fb_stateOfOne 21 rfl) (by decide) (hwhat) (by decide) (fun c37 => ?_) (fun c37 => ?_)
        · refine fg_iloadn (fg_ft (pc := 46) tb_Fb_stateOfOne 26 rfl) rfl ?_
          refine fg_bipush (fg_ft (pc := 47) tb_Fb_stateOfOne 27 rfl) ib_30 ?_
          refine fg_icmp_geW (tgt := 60) (fg_ft (pc := 49) tb_Fb_stateOfOne 28 rfl) (by decide) (hwhat) (by decide) (fun c49 => ?_) (fun c49 => ?_)
          · refine fg_aloadn (fg_ft (pc := 60) tb_Fb_stateOfOne 33 rfl) rfl ?_
            refine fg_iloadn (fg_ft (pc := 61) tb_Fb_stateOfOne 34 rfl) rfl ?_
            refine fg_callV (fg_ft (pc := 62) tb_Fb_stateOfOne 35 rfl) cf_Fb_218 (fg_isOf (fF_lay hf) rfl (fg_lt (fF_lay hf) (by decide))) (as := [.int (nI (what % 10))]) (st := []) rfl rfl (Nat.le_of_ble_eq_true rfl) (Nat.le_refl _) (Nat.le_refl _) (ev_Folk_loavesOf ht hT hok hf hft hF hz (p := (what % 10)) (by omega) ?_)
            exact fg_iret (fg_ft (pc := 65) tb_Fb_stateOfOne 36 rfl) rfl rfl (fg_q hQ (by unfold fg_one; first | (rw [if_neg (by omega)]; done) | (rw [if_pos (by omega), if_neg (by omega)]; done) | (rw [if_pos (by omega), if_pos (by omega), if_pos (by omega)]; done) | (rw [if_pos (by omega), if_pos (by omega), if_neg (by omega), if_pos (by omega)]; done) | (rw [if_pos (by omega), if_pos (by omega), if_neg (by omega), if_neg (by omega)]; done) | (rw [if_pos (by omega), if_pos (by omega), if_neg (by omega), if_neg (by omega), if_pos (by omega)]; done)))
          · refine fg_aloadn (fg_ft (pc := 52) tb_Fb_stateOfOne 29 rfl) rfl ?_
            refine fg_iloadn (fg_ft (pc := 53) tb_Fb_stateOfOne 30 rfl) rfl ?_
            refine fg_callV (fg_ft (pc := 54) tb_Fb_stateOfOne 31 rfl) cf_Fb_215 (fg_isOf (fF_lay hf) rfl (fg_lt (fF_lay hf) (by decide))) (as := [.int (nI (what % 10))]) (st := []) rfl rfl (Nat.le_of_ble_eq_true rfl) (Nat.le_refl _) (Nat.le_refl _) (ev_Folk_half ht hT hok hf hft hF hz (p := (what % 10)) (by omega) ?_)
            refine fg_goto (tgt := 65) (fg_ft (pc := 57) tb_Fb_stateOfOne 32 rfl) (by decide) ?_
            exact fg_iret (fg_ft (pc := 65) tb_Fb_stateOfOne 36 rfl) rfl rfl (fg_q hQ (by unfold fg_one; first | (rw [if_neg (by omega)]; done) | (rw [if_pos (by omega), if_neg (by omega)]; done) | (rw [if_pos (by omega), if_pos (by omega), if_pos (by omega)]; done) | (rw [if_pos (by omega), if_pos (by omega), if_neg (by omega), if_pos (by omega)]; done) | (rw [if_pos (by omega), if_pos (by omega), if_neg (by omega), if_neg (by omega)]; done) | (rw [if_pos (by omega), if_pos (by omega), if_neg (by omega), if_neg (by omega), if_pos (by omega)]; done)))
        · refine fg_aloadn (fg_ft (pc := 40) tb_Fb_stateOfOne 22 rfl) rfl ?_
          refine fg_iloadn (fg_ft (pc := 41) tb_Fb_stateOfOne 23 rfl) rfl ?_
          refine fg_callV (fg_ft (pc := 42) tb_Fb_stateOfOne 24 rfl) cf_Fb_181 (fg_isOf (fF_lay hf) rfl (fg_lt (fF_lay hf) (by decide))) (as := [.int (nI (what % 10))]) (st := []) rfl rfl (Nat.le_of_ble_eq_true rfl) (Nat.le_refl _) (Nat.le_refl _) (ev_Folk_mind ht hT hok hf hft hF hz (p := (what % 10)) (by omega) ?_)
          exact fg_iret (fg_ft (pc := 45) tb_Fb_stateOfOne 25 rfl) rfl rfl (fg_q hQ (by unfold fg_one; first | (rw [if_neg (by omega)]; done) | (rw [if_pos (by omega), if_neg (by omega)]; done) | (rw [if_pos (by omega), if_pos (by omega), if_pos (by omega)]; done) | (rw [if_pos (by omega), if_pos (by omega), if_neg (by omega), if_pos (by omega)]; done) | (rw [if_pos (by omega), if_pos (by omega), if_neg (by omega), if_neg (by omega)]; done) | (rw [if_pos (by omega), if_pos (by omega), if_neg (by omega), if_neg (by omega), if_pos (by omega)]; done)))
      · refine fg_bipush (fg_ft (pc := 31) tb_Fb_stateOfOne 17 rfl) ib_m2 ?_
        exact fg_iret (fg_ft (pc := 33) tb_Fb_stateOfOne 18 rfl) rfl rfl (fg_q hQ (by unfold fg_one; first | (rw [if_neg (by omega)]; done) | (rw [if_pos (by omega), if_neg (by omega)]; done) | (rw [if_pos (by omega), if_pos (by omega), if_pos (by omega)]; done) | (rw [if_pos (by omega), if_pos (by omega), if_neg (by omega), if_pos (by omega)]; done) | (rw [if_pos (by omega), if_pos (by omega), if_neg (by omega), if_neg (by omega)]; done) | (rw [if_pos (by omega), if_pos (by omega), if_neg (by omega), if_neg (by omega), if_pos (by omega)]; done)))
    · refine fg_bipush (fg_ft (pc := 12) tb_Fb_stateOfOne 6 rfl) ib_m2 ?_
      exact fg_iret (fg_ft (pc := 14) tb_Fb_stateOfOne 7 rfl) rfl rfl (fg_q hQ (by unfold fg_one; first | (rw [if_neg (by omega)]; done) | (rw [if_pos (by omega), if_neg (by omega)]; done) | (rw [if_pos (by omega), if_pos (by omega), if_pos (by omega)]; done) | (rw [if_pos (by omega), if_pos (by omega), if_neg (by omega), if_pos (by omega)]; done) | (rw [if_pos (by omega), if_pos (by omega), if_neg (by omega), if_neg (by omega)]; done) | (rw [if_pos (by omega), if_pos (by omega), if_neg (by omega), if_neg (by omega), if_pos (by omega)]; done)))
theorem ev_Fb_state {E : fg_E} {d : Nat} {μ : Nat → Nat → Int32} {R : fg_T4} {Q : Option Value → fg_M → Prop} {A : fg_Tl} (hA : fg_TL μ 101 A) {town day n what : Nat} (htown : town < 2 ^ 32) (hday : day < 2 ^ 32) (hn : n < 2 ^ 32) (hwhat : what < 2 ^ 32) (hQ : ∀ (μ' : Nat → Nat → Int32) (R' : fg_T4), fg_agQ μ μ' → Q (some (.int (an_state A town day n what))) (μ', fg_rho R', 304)) : fg_Ev E yy_Fb_state (d + 12) [.ref 100, .int (nI town), .int (nI day), .int (nI n), .int (nI what)] (μ, fg_rho R, 304) 304 Q := by
  have ht2 := hA.2.2.2.1.2
  have hd3 := hA.2.2.2.2.1.2
  refine fg_intro (by decide +kernel) (Nat.le_of_ble_eq_true rfl) (fg_okAs rfl) (Nat.le_refl _) ?_
  refine fg_aloadn (fg_ft (pc := 0) tb_Fb_state 0 rfl) rfl ?_
  refine fg_iloadn (fg_ft (pc := 1) tb_Fb_state 1 rfl) rfl ?_
  refine fg_iloadn (fg_ft (pc := 2) tb_Fb_state 2 rfl) rfl ?_
  refine fg_iloadn (fg_ft (pc := 3) tb_Fb_state 3 rfl) rfl ?_
  refine fg_callV (fg_ft (pc := 4) tb_Fb_state 4 rfl) cf_Fb_184 (fg_isOf ly_100 rfl (fg_lt ly_100 (by decide))) (as := [.int (nI town), .int (nI day), .int (nI n)]) (st := []) rfl rfl (Nat.le_of_ble_eq_true rfl) (Nat.le_refl _) (Nat.le_refl _) (ev_Fb_find hA htown hday hn (fun n4 μ1 R1 ho1 hR1 => ?_) (fun S lv y4 μ1 ho1 hF1 => ?_))
  · refine fg_astoreN (fg_ft (pc := 7) tb_Fb_state 5 rfl) (Nat.le_of_ble_eq_true rfl) ?_
    refine fg_aloadN (fg_ft (pc := 9) tb_Fb_state 6 rfl) rfl ?_
    refine fg_ifnonnull_n (fg_ft (pc := 11) tb_Fb_state 7 rfl) ?_
    refine fg_bipush (fg_ft (pc := 14) tb_Fb_state 8 rfl) ib_m2 ?_
    exact fg_iret (fg_ft (pc := 16) tb_Fb_state 9 rfl) rfl rfl (fg_q (hQ _ R1 (fg_agQ_F (Or.inl rfl) ho1)) (by unfold an_state; rw [fg_g0_none n4] <;> ((repeat (first | rw [if_pos (by assumption)] | rw [if_neg (by assumption)] | rw [if_pos (by omega)] | rw [if_neg (by omega)] | rw [if_pos (by constructor <;> assumption)] | rw [if_neg (by intro hh; exact absurd hh.1 (by assumption))] | rw [if_neg (by intro hh; exact absurd hh.2 (by assumption))])); (try rfl))))
  · have ytc := fg_fnd_t y4
    have hok := (hA.2.2.2.2.2.1 town ytc).2
    have ht : fg_isT (104 + 14 * town) := fg_isT_told (by omega)
    have hT1 := fg_TL.town hA (Or.inl rfl) ytc ho1
    have hz := fg_fnd_ok hA y4
    have hb0 := hok.1
    have hb1 := hok.2.1
    have hp := hok.p
    refine fg_astore (fg_ft (pc := 7) tb_Fb_state 5 rfl) (Nat.le_of_ble_eq_true rfl) ?_
    refine fg_aload (fg_ft (pc := 9) tb_Fb_state 6 rfl) rfl ?_
    refine fg_ifnonnull (tgt := 17) (fg_ft (pc := 11) tb_Fb_state 7 rfl) (by decide) ?_
    refine fg_iload (fg_ft (pc := 17) tb_Fb_state 10 rfl) rfl ?_
    by_cases e19_0 : what = 0
    · refine fg_swN (tgt := 60) (fg_ft (pc := 19) tb_Fb_state 11 rfl) e19_0 (by decide) (by decide) (by decide) rfl (by decide) ?_
      refine fg_aload (fg_ft (pc := 60) tb_Fb_state 12 rfl) rfl ?_
      refine fg_getV (v := (nI (S.1))) (fg_ft (pc := 62) tb_Fb_state 13 rfl) ff_Fb_188 ly_273 rfl (fg_lt ly_273 (by decide)) hF1.2.1 ?_
      exact fg_iret (fg_ft (pc := 65) tb_Fb_state 14 rfl) rfl rfl (fg_q (hQ _ (some (104 + 14 * town), R.2.1, R.2.2.1, R.2.2.2) (fg_agQ_F (Or.inl rfl) ho1)) (by unfold an_state; rw [fg_g0_some y4]; (repeat (first | rw [if_pos (by assumption)] | rw [if_neg (by assumption)]))))
    by_cases e19_1 : what = 1
    · refine fg_swN (tgt := 66) (fg_ft (pc := 19) tb_Fb_state 11 rfl) e19_1 (by decide) (by decide) (by decide) rfl (by decide) ?_
      refine fg_aload (fg_ft (pc := 66) tb_Fb_state 15 rfl) rfl ?_
      refine fg_callV (fg_ft (pc := 68) tb_Fb_state 16 rfl) cf_Fb_191 (fg_isOf ly_273 rfl (fg_lt ly_273 (by decide))) (as := []) (st := []) rfl rfl (Nat.le_of_ble_eq_true rfl) (Nat.le_refl _) (Nat.le_refl _) (ev_Folk_allLoaves ht hT1 hok (Or.inl rfl) rfl hF1 hz ?_)
      exact fg_iret (fg_ft (pc := 71) tb_Fb_state 17 rfl) rfl rfl (fg_q (hQ _ (some (104 + 14 * town), R.2.1, R.2.2.1, R.2.2.2) (fg_agQ_F (Or.inl rfl) ho1)) (by unfold an_state; rw [fg_g0_some y4]; (repeat (first | rw [if_pos (by assumption)] | rw [if_neg (by assumption)]))))
    by_cases e19_2 : what = 2
    · refine fg_swN (tgt := 72) (fg_ft (pc := 19) tb_Fb_state 11 rfl) e19_2 (by decide) (by decide) (by decide) rfl (by decide) ?_
      refine fg_aload (fg_ft (pc := 72) tb_Fb_state 18 rfl) rfl ?_
      refine fg_callV (fg_ft (pc := 74) tb_Fb_state 19 rfl) cf_Fb_191 (fg_isOf ly_273 rfl (fg_lt ly_273 (by decide))) (as := []) (st := []) rfl rfl (Nat.le_of_ble_eq_true rfl) (Nat.le_refl _) (Nat.le_refl _) (ev_Folk_allLoaves ht hT1 hok (Or.inl rfl) rfl hF1 hz ?_)
      refine fg_aload (fg_ft (pc := 77) tb_Fb_state 20 rfl) rfl ?_
      refine fg_getR (fg_ft (pc := 79) tb_Fb_state 21 rfl) ff_Fb_194 ly_273 rfl (fg_lt ly_273 (by decide)) rfl ?_
      refine fg_getV (v := (nI ((A.ts town) 7))) (fg_ft (pc := 82) tb_Fb_state 22 rfl) ff_Fb_128 (tT_lay ht) rfl (fg_lt (tT_lay ht) (by decide)) hT1.1.2 ?_
      refine fg_imulN (fg_ft (pc := 85) tb_Fb_state 23 rfl) ?_
      exact fg_iret (fg_ft (pc := 86) tb_Fb_state 24 rfl) rfl rfl (fg_q (hQ _ (some (104 + 14 * town), R.2.1, R.2.2.1, R.2.2.2) (fg_agQ_F (Or.inl rfl) ho1)) (by unfold an_state; rw [fg_g0_some y4]; (repeat (first | rw [if_pos (by assumption)] | rw [if_neg (by assumption)]))))
    by_cases e19_3 : what = 3
    · refine fg_swN (tgt := 87) (fg_ft (pc := 19) tb_Fb_state 11 rfl) e19_3 (by decide) (by decide) (by decide) rfl (by decide) ?_
      refine fg_aload (fg_ft (pc := 87) tb_Fb_state 25 rfl) rfl ?_
      refine fg_callV (fg_ft (pc := 89) tb_Fb_state 26 rfl) cf_Fb_195 (fg_isOf ly_273 rfl (fg_lt ly_273 (by decide))) (as := []) (st := []) rfl rfl (Nat.le_of_ble_eq_true rfl) (Nat.le_refl _) (Nat.le_refl _) (ev_Folk_knownToAll ht hT1 hok (Or.inl rfl) rfl hF1 hz ?_)
      exact fg_iret (fg_ft (pc := 92) tb_Fb_state 27 rfl) rfl rfl (fg_q (hQ _ (some (104 + 14 * town), R.2.1, R.2.2.1, R.2.2.2) (fg_agQ_F (Or.inl rfl) ho1)) (by unfold an_state; rw [fg_g0_some y4]; (repeat (first | rw [if_pos (by assumption)] | rw [if_neg (by assumption)]))))
    by_cases e19_4 : what = 4
    · refine fg_swN (tgt := 93) (fg_ft (pc := 19) tb_Fb_state 11 rfl) e19_4 (by decide) (by decide) (by decide) rfl (by decide) ?_
      refine fg_aload (fg_ft (pc := 93) tb_Fb_state 28 rfl) rfl ?_
      refine fg_callV (fg_ft (pc := 95) tb_Fb_state 29 rfl) cf_Fb_198 (fg_isOf ly_273 rfl (fg_lt ly_273 (by decide))) (as := []) (st := []) rfl rfl (Nat.le_of_ble_eq_true rfl) (Nat.le_refl _) (Nat.le_refl _) (ev_Folk_knownToAny ht hT1 hok (Or.inl rfl) rfl hF1 hz ?_)
      exact fg_iret (fg_ft (pc := 98) tb_Fb_state 30 rfl) rfl rfl (fg_q (hQ _ (some (104 + 14 * town), R.2.1, R.2.2.1, R.2.2.2) (fg_agQ_F (Or.inl rfl) ho1)) (by unfold an_state; rw [fg_g0_some y4]; (repeat (first | rw [if_pos (by assumption)] | rw [if_neg (by assumption)]))))
    by_cases e19_5 : what = 5
    · refine fg_swN (tgt := 99) (fg_ft (pc := 19) tb_Fb_state 11 rfl) e19_5 (by decide) (by decide) (by decide) rfl (by decide) ?_
      refine fg_aload (fg_ft (pc := 99) tb_Fb_state 31 rfl) rfl ?_
      refine fg_callV (fg_ft (pc := 101) tb_Fb_state 32 rfl) cf_Fb_201 (fg_isOf ly_273 rfl (fg_lt ly_273 (by decide))) (as := []) (st := []) rfl rfl (Nat.le_of_ble_eq_true rfl) (Nat.le_refl _) (Nat.le_refl _) (ev_Folk_lost ht hT1 hok (Or.inl rfl) rfl hF1 hz ?_)
      exact fg_iret (fg_ft (pc := 104) tb_Fb_state 33 rfl) rfl rfl (fg_q (hQ _ (some (104 + 14 * town), R.2.1, R.2.2.1, R.2.2.2) (fg_agQ_F (Or.inl rfl) ho1)) (by unfold an_state; rw [fg_g0_some y4]; (repeat (first | rw [if_pos (by assumption)] | rw [if_neg (by assumption)]))))
    by_cases e19_6 : what = 6
    · refine fg_swN (tgt := 105) (fg_ft (pc := 19) tb_Fb_state 11 rfl) e19_6 (by decide) (by decide) (by decide) rfl (by decide) ?_
      refine fg_aloadn (fg_ft (pc := 105) tb_Fb_state 34 rfl) rfl ?_
      refine fg_aload (fg_ft (pc := 106) tb_Fb_state 35 rfl) rfl ?_
      refine fg_callV (fg_ft (pc := 108) tb_Fb_state 36 rfl) cf_Fb_204 (fg_isOf ly_100 rfl (fg_lt ly_100 (by decide))) (as := [.ref 273]) (st := []) rfl rfl (Nat.le_of_ble_eq_true rfl) (Nat.le_refl _) (Nat.le_refl _) (ev_Fb_eveningOf (R := (some (104 + 14 * town), R.2.1, R.2.2.1, R.2.2.2)) ht hT1 hok (h := S.1) (Z := S.2.1) (hv := S.2.2) rfl hF1 hz ?_)
      intro μ2 ho2 hF2
      have hT2 := fg_TWp.agF ht (Or.inr rfl) hT1 ho2
      have hF1b := fg_FZ.ag7 hF1 ho2
      have hF2 : fg_FS μ2 277 (A.ts town) (fg_ev (A.ts town) S) lv (none, 0, 0) := hF2
      have hz2 := fg_ev_ok hok hz
      show fg_wp _ _ _ _ _ _ _ _ _ (μ2, fg_rho (some (104 + 14 * town), some (104 + 14 * town), R.2.2.1, R.2.2.2), 304)
      refine fg_getV (v := (nI ((fg_ev (A.ts town) S).2.1.2.1))) (fg_ft (pc := 111) tb_Fb_state 37 rfl) ff_Fb_208 ly_277 rfl (fg_lt ly_277 (by decide)) hF2.2.2.2.2.2.2.1 ?_
      exact fg_iret (fg_ft (pc := 114) tb_Fb_state 38 rfl) rfl rfl (fg_q (hQ _ (some (104 + 14 * town), some (104 + 14 * town), R.2.2.1, R.2.2.2) (fg_agQ_tr (fg_agQ_F (Or.inl rfl) ho1) (fg_agQ_F (Or.inr rfl) ho2))) (by unfold an_state; rw [fg_g0_some y4]; (repeat (first | rw [if_pos (by assumption)] | rw [if_neg (by assumption)]))))
    refine fg_swO (tgt := 115) (fg_ft (pc := 19) tb_Fb_state 11 rfl) (hwhat) (by decide) (by decide) (fun i h1 h2 he => by omega) (by decide) ?_
    refine fg_aload (fg_ft (pc := 115) tb_Fb_state 39 rfl) rfl ?_
    refine fg_iload (fg_ft (pc := 117) tb_Fb_state 40 rfl) rfl ?_
    refine fg_callS (fg_ft (pc := 119) tb_Fb_state 41 rfl) cf_Fb_211 (as := [.ref 273, .int (nI what)]) (st := []) rfl rfl (Nat.le_of_ble_eq_true rfl) (Nat.le_refl _) (Nat.le_refl _) (ev_Fb_stateOfOne ht hT1 hok (Or.inl rfl) rfl hF1 hz (what := what) hwhat ?_)
    exact fg_iret (fg_ft (pc := 122) tb_Fb_state 42 rfl) rfl rfl (fg_q (hQ _ (some (104 + 14 * town), R.2.1, R.2.2.1, R.2.2.2) (fg_agQ_F (Or.inl rfl) ho1)) (by unfold an_state; rw [fg_g0_some y4]; (repeat (first | rw [if_pos (by assumption)] | rw [if_neg (by assumption)]))))
theorem ev_Fb_whole {E : fg_E} {d : Nat} {μ : Nat → Nat → Int32} {R : fg_T4} {Q : Option Value → fg_M → Prop} {A : fg_Tl} (hA : fg_TL μ 101 A) {town day n what : Nat} (htown : town < 2 ^ 32) (hday : day < 2 ^ 32) (hn : n < 2 ^ 32) (hwhat : what < 2 ^ 32) (hQ : ∀ (μ' : Nat → Nat → Int32) (R' : fg_T4), fg_agQ μ μ' → Q (some (.int (an_whole A town day n what))) (μ', fg_rho R', 304)) : fg_Ev E yy_Fb_whole (d + 12) [.ref 100, .int (nI town), .int (nI day), .int (nI n), .int (nI what)] (μ, fg_rho R, 304) 304 Q := by
  have ht2 := hA.2.2.2.1.2
  have hd3 := hA.2.2.2.2.1.2
  refine fg_intro (by decide +kernel) (Nat.le_of_ble_eq_true rfl) (fg_okAs rfl) (Nat.le_refl _) ?_
  refine fg_aloadn (fg_ft (pc := 0) tb_Fb_whole 0 rfl) rfl ?_
  refine fg_iloadn (fg_ft (pc := 1) tb_Fb_whole 1 rfl) rfl ?_
  refine fg_iloadn (fg_ft (pc := 2) tb_Fb_whole 2 rfl) rfl ?_
  refine fg_iloadn (fg_ft (pc := 3) tb_Fb_whole 3 rfl) rfl ?_
  refine fg_callV (fg_ft (pc := 4) tb_Fb_whole 4 rfl) cf_Fb_184 (fg_isOf ly_100 rfl (fg_lt ly_100 (by decide))) (as := [.int (nI town), .int (nI day), .int (nI n)]) (st := []) rfl rfl (Nat.le_of_ble_eq_true rfl) (Nat.le_refl _) (Nat.le_refl _) (ev_Fb_find hA htown hday hn (fun n4 μ1 R1 ho1 hR1 => ?_) (fun S lv y4 μ1 ho1 hF1 => ?_))
  · refine fg_astoreN (fg_ft (pc := 7) tb_Fb_whole 5 rfl) (Nat.le_of_ble_eq_true rfl) ?_
    refine fg_aloadN (fg_ft (pc := 9) tb_Fb_whole 6 rfl) rfl ?_
    refine fg_ifnonnull_n (fg_ft (pc := 11) tb_Fb_whole 7 rfl) ?_
    refine fg_iconst (fg_ft (pc := 14) tb_Fb_whole 8 rfl) ic_m1 ?_
    exact fg_iret (fg_ft (pc := 15) tb_Fb_whole 9 rfl) rfl rfl (fg_q (hQ _ R1 (fg_agQ_F (Or.inl rfl) ho1)) (by unfold an_whole; rw [fg_g0_none n4] <;> ((repeat (first | rw [if_pos (by assumption)] | rw [if_neg (by assumption)] | rw [if_pos (by omega)] | rw [if_neg (by omega)] | rw [if_pos (by constructor <;> assumption)] | rw [if_neg (by intro hh; exact absurd hh.1 (by assumption))] | rw [if_neg (by intro hh; exact absurd hh.2 (by assumption))])); (try rfl))))
  · have ytc := fg_fnd_t y4
    have hok := (hA.2.2.2.2.2.1 town ytc).2
    have ht : fg_isT (104 + 14 * town) := fg_isT_told (by omega)
    have hT1 := fg_TL.town hA (Or.inl rfl) ytc ho1
    have hz := fg_fnd_ok hA y4
    have hb0 := hok.1
    have hb1 := hok.2.1
    have hp := hok.p
    refine fg_astore (fg_ft (pc := 7) tb_Fb_whole 5 rfl) (Nat.le_of_ble_eq_true rfl) ?_
    refine fg_aload (fg_ft (pc := 9) tb_Fb_whole 6 rfl) rfl ?_
    refine fg_ifnonnull (tgt := 16) (fg_ft (pc := 11) tb_Fb_whole 7 rfl) (by decide) ?_
    refine fg_iload (fg_ft (pc := 16) tb_Fb_whole 10 rfl) rfl ?_
    by_cases e18_0 : what = 0
    · refine fg_swN (tgt := 44) (fg_ft (pc := 18) tb_Fb_whole 11 rfl) e18_0 (by decide) (by decide) (by decide) rfl (by decide) ?_
      refine fg_aload (fg_ft (pc := 44) tb_Fb_whole 12 rfl) rfl ?_
      refine fg_callV (fg_ft (pc := 46) tb_Fb_whole 13 rfl) cf_Fb_242 (fg_isOf ly_273 rfl (fg_lt ly_273 (by decide))) (as := []) (st := []) rfl rfl (Nat.le_of_ble_eq_true rfl) (Nat.le_refl _) (Nat.le_refl _) (ev_Folk_secrets ht hT1 hok (Or.inl rfl) rfl hF1 hz ?_)
      exact fg_iret (fg_ft (pc := 49) tb_Fb_whole 14 rfl) rfl rfl (fg_q (hQ _ (some (104 + 14 * town), R.2.1, R.2.2.1, R.2.2.2) (fg_agQ_F (Or.inl rfl) ho1)) (by unfold an_whole; rw [fg_g0_some y4] <;> ((repeat (first | rw [if_pos (by assumption)] | rw [if_neg (by assumption)] | rw [if_pos (by omega)] | rw [if_neg (by omega)] | rw [if_pos (by constructor <;> assumption)] | rw [if_neg (by intro hh; exact absurd hh.1 (by assumption))] | rw [if_neg (by intro hh; exact absurd hh.2 (by assumption))])); (try rfl))))
    by_cases e18_1 : what = 1
    · refine fg_swN (tgt := 50) (fg_ft (pc := 18) tb_Fb_whole 11 rfl) e18_1 (by decide) (by decide) (by decide) rfl (by decide) ?_
      refine fg_aloadn (fg_ft (pc := 50) tb_Fb_whole 15 rfl) rfl ?_
      refine fg_aload (fg_ft (pc := 51) tb_Fb_whole 16 rfl) rfl ?_
      refine fg_callV (fg_ft (pc := 53) tb_Fb_whole 17 rfl) cf_Fb_204 (fg_isOf ly_100 rfl (fg_lt ly_100 (by decide))) (as := [.ref 273]) (st := []) rfl rfl (Nat.le_of_ble_eq_true rfl) (Nat.le_refl _) (Nat.le_refl _) (ev_Fb_eveningOf (R := (some (104 + 14 * town), R.2.1, R.2.2.1, R.2.2.2)) ht hT1 hok (h := S.1) (Z := S.2.1) (hv := S.2.2) rfl hF1 hz ?_)
      intro μ2 ho2 hF2
      have hT2 := fg_TWp.agF ht (Or.inr rfl) hT1 ho2
      have hF1b := fg_FZ.ag7 hF1 ho2
      have hF2 : fg_FS μ2 277 (A.ts town) (fg_ev (A.ts town) S) lv (none, 0, 0) := hF2
      have hz2 := fg_ev_ok hok hz
      show fg_wp _ _ _ _ _ _ _ _ _ (μ2, fg_rho (some (104 + 14 * town), some (104 + 14 * town), R.2.2.1, R.2.2.2), 304)
      refine fg_getV (v := (nI ((fg_ev (A.ts town) S).2.1.2.2.1))) (fg_ft (pc := 56) tb_Fb_whole 18 rfl) ff_Fb_245 ly_277 rfl (fg_lt ly_277 (by decide)) hF2.2.2.2.2.2.2.2.1 ?_
      exact fg_iret (fg_ft (pc := 59) tb_Fb_whole 19 rfl) rfl rfl (fg_q (hQ _ (some (104 + 14 * town), some (104 + 14 * town), R.2.2.1, R.2.2.2) (fg_agQ_tr (fg_agQ_F (Or.inl rfl) ho1) (fg_agQ_F (Or.inr rfl) ho2))) (by unfold an_whole; rw [fg_g0_some y4] <;> ((repeat (first | rw [if_pos (by assumption)] | rw [if_neg (by assumption)] | rw [if_pos (by omega)] | rw [if_neg (by omega)] | rw [if_pos (by constructor <;> assumption)] | rw [if_neg (by intro hh; exact absurd hh.1 (by assumption))] | rw [if_neg (by intro hh; exact absurd hh.2 (by assumption))])); (try rfl))))
    by_cases e18_2 : what = 2
    · refine fg_swN (tgt := 60) (fg_ft (pc := 18) tb_Fb_whole 11 rfl) e18_2 (by decide) (by decide) (by decide) rfl (by decide) ?_
      refine fg_iconst (fg_ft (pc := 60) tb_Fb_whole 20 rfl) ic_1 ?_
      refine fg_aload (fg_ft (pc := 61) tb_Fb_whole 21 rfl) rfl ?_
      refine fg_getR (fg_ft (pc := 63) tb_Fb_whole 22 rfl) ff_Fb_194 ly_273 rfl (fg_lt ly_273 (by decide)) rfl ?_
      refine fg_getR (fg_ft (pc := 66) tb_Fb_whole 23 rfl) ff_Fb_119 (tT_lay ht) rfl (fg_lt (tT_lay ht) (by decide)) (tT_r5 ht) ?_
      refine fg_getV (v := (nI ((A.ts town) 4))) (fg_ft (pc := 69) tb_Fb_whole 24 rfl) ff_Fb_108 ((tT_w5 (R := (some (104 + 14 * town), R.2.1, R.2.2.1, R.2.2.2)) ht).1) rfl (fg_lt ((tT_w5 (R := (some (104 + 14 * town), R.2.1, R.2.2.1, R.2.2.2)) ht).1) (by decide)) hT1.2.2.2.2.1.2.1 ?_
      refine fg_ishl1 (fg_ft (pc := 72) tb_Fb_whole 25 rfl) (by omega) ?_
      refine fg_iconst (fg_ft (pc := 73) tb_Fb_whole 26 rfl) ic_1 ?_
      refine fg_isubN (fg_ft (pc := 74) tb_Fb_whole 27 rfl) (Nat.one_le_two_pow) ?_
      refine fg_aloadn (fg_ft (pc := 75) tb_Fb_whole 28 rfl) rfl ?_
      refine fg_aload (fg_ft (pc := 76) tb_Fb_whole 29 rfl) rfl ?_
      refine fg_callV (fg_ft (pc := 78) tb_Fb_whole 30 rfl) cf_Fb_204 (fg_isOf ly_100 rfl (fg_lt ly_100 (by decide))) (as := [.ref 273]) (st := [.int (nI ((2 ^ ((A.ts town) 4)) - 1))]) rfl rfl (Nat.le_of_ble_eq_true rfl) (Nat.le_refl _) (Nat.le_refl _) (ev_Fb_eveningOf (R := (some (104 + 14 * town), R.2.1, R.2.2.1, R.2.2.2)) ht hT1 hok (h := S.1) (Z := S.2.1) (hv := S.2.2) rfl hF1 hz ?_)
      intro μ2 ho2 hF2
      have hT2 := fg_TWp.agF ht (Or.inr rfl) hT1 ho2
      have hF1b := fg_FZ.ag7 hF1 ho2
      have hF2 : fg_FS μ2 277 (A.ts town) (fg_ev (A.ts town) S) lv (none, 0, 0) := hF2
      have hz2 := fg_ev_ok hok hz
      show fg_wp _ _ _ _ _ _ _ _ _ (μ2, fg_rho (some (104 + 14 * town), some (104 + 14 * town), R.2.2.1, R.2.2.2), 304)
      refine fg_getV (v := (nI ((fg_ev (A.ts town) S).2.1.2.2.2))) (fg_ft (pc := 81) tb_Fb_whole 31 rfl) ff_Fb_248 ly_277 rfl (fg_lt ly_277 (by decide)) hF2.2.2.2.2.2.2.2.2 ?_
      refine fg_iconst (fg_ft (pc := 84) tb_Fb_whole 32 rfl) ic_m1 ?_
      refine fg_ixor (fg_ft (pc := 85) tb_Fb_whole 33 rfl) ?_
      refine fg_iandD (fg_ft (pc := 86) tb_Fb_whole 34 rfl) ?_
      exact fg_iret (fg_ft (pc := 87) tb_Fb_whole 35 rfl) rfl rfl (fg_q (hQ _ (some (104 + 14 * town), some (104 + 14 * town), R.2.2.1, R.2.2.2) (fg_agQ_tr (fg_agQ_F (Or.inl rfl) ho1) (fg_agQ_F (Or.inr rfl) ho2))) (by unfold an_whole; rw [fg_g0_some y4] <;> ((repeat (first | rw [if_pos (by assumption)] | rw [if_neg (by assumption)] | rw [if_pos (by omega)] | rw [if_neg (by omega)] | rw [if_pos (by constructor <;> assumption)] | rw [if_neg (by intro hh; exact absurd hh.1 (by assumption))] | rw [if_neg (by intro hh; exact absurd hh.2 (by assumption))])); (try rfl))))
    refine fg_swO (tgt := 88) (fg_ft (pc := 18) tb_Fb_whole 11 rfl) (hwhat) (by decide) (by decide) (fun i h1 h2 he => by omega) (by decide) ?_
    refine fg_iconst (fg_ft (pc := 88) tb_Fb_whole 36 rfl) ic_m1 ?_
    exact fg_iret (fg_ft (pc := 89) tb_Fb_whole 37 rfl) rfl rfl (fg_q (hQ _ (some (104 + 14 * town), R.2.1, R.2.2.1, R.2.2.2) (fg_agQ_F (Or.inl rfl) ho1)) (by unfold an_whole; rw [fg_g0_some y4] <;> ((repeat (first | rw [if_pos (by assumption)] | rw [if_neg (by assumption)] | rw [if_pos (by omega)] | rw [if_neg (by omega)] | rw [if_pos (by constructor <;> assumption)] | rw [if_neg (by intro hh; exact absurd hh.1 (by assumption))] | rw [if_neg (by intro hh; exact absurd hh.2 (by assumption))])); (try rfl))))
theorem ev_Fb_days {E : fg_E} {d : Nat} {μ : Nat → Nat → Int32} {R : fg_T4} {Q : Option Value → fg_M → Prop} {A : fg_Tl} (hA : fg_TL μ 101 A) {town day n what : Nat} {seed : Int32} (htown : town < 2 ^ 32) (hday : day < 2 ^ 32) (hn : n < 2 ^ 32) (hwhat : what < 2 ^ 32) (hQ : ∀ (μ' : Nat → Nat → Int32) (R' : fg_T4), fg_agQ μ μ' → Q (some (.int (an_days A town day n seed what))) (μ', fg_rho R', 304)) : fg_Ev E yy_Fb_days (d + 12) [.ref 100, .int (nI town), .int (nI day), .int (nI n), .int seed, .int (nI what)] (μ, fg_rho R, 304) 304 Q := by
  have ht2 := hA.2.2.2.1.2
  have hd3 := hA.2.2.2.2.1.2
  refine fg_intro (by decide +kernel) (Nat.le_of_ble_eq_true rfl) (fg_okAs rfl) (Nat.le_refl _) ?_
  refine fg_aloadn (fg_ft (pc := 0) tb_Fb_days 0 rfl) rfl ?_
  refine fg_iloadn (fg_ft (pc := 1) tb_Fb_days 1 rfl) rfl ?_
  refine fg_iloadn (fg_ft (pc := 2) tb_Fb_days 2 rfl) rfl ?_
  refine fg_iloadn (fg_ft (pc := 3) tb_Fb_days 3 rfl) rfl ?_
  refine fg_callV (fg_ft (pc := 4) tb_Fb_days 4 rfl) cf_Fb_184 (fg_isOf ly_100 rfl (fg_lt ly_100 (by decide))) (as := [.int (nI town), .int (nI day), .int (nI n)]) (st := []) rfl rfl (Nat.le_of_ble_eq_true rfl) (Nat.le_refl _) (Nat.le_refl _) (ev_Fb_find hA htown hday hn (fun n4 μ1 R1 ho1 hR1 => ?_) (fun S lv y4 μ1 ho1 hF1 => ?_))
  · refine fg_astoreN (fg_ft (pc := 7) tb_Fb_days 5 rfl) (Nat.le_of_ble_eq_true rfl) ?_
    refine fg_aloadN (fg_ft (pc := 9) tb_Fb_days 6 rfl) rfl ?_
    refine fg_ifnonnull_n (fg_ft (pc := 11) tb_Fb_days 7 rfl) ?_
    refine fg_bipush (fg_ft (pc := 14) tb_Fb_days 8 rfl) ib_m2 ?_
    exact fg_iret (fg_ft (pc := 16) tb_Fb_days 9 rfl) rfl rfl (fg_q (hQ _ R1 (fg_agQ_F (Or.inl rfl) ho1)) (by unfold an_days; rw [fg_g0_none n4] <;> ((repeat (first | rw [if_pos (by assumption)] | rw [if_neg (by assumption)] | rw [if_pos (by omega)] | rw [if_neg (by omega)] | rw [if_pos (by constructor <;> assumption)] | rw [if_neg (by intro hh; exact absurd hh.1 (by assumption))] | rw [if_neg (by intro hh; exact absurd hh.2 (by assumption))])); (try rfl))))
  · have ytc := fg_fnd_t y4
    have hok := (hA.2.2.2.2.2.1 town ytc).2
    have ht : fg_isT (104 + 14 * town) := fg_isT_told (by omega)
    have hT1 := fg_TL.town hA (Or.inl rfl) ytc ho1
    have hz := fg_fnd_ok hA y4
    have hb0 := hok.1
    have hb1 := hok.2.1
    have hp := hok.p
    refine fg_astore (fg_ft (pc := 7) tb_Fb_days 5 rfl) (Nat.le_of_ble_eq_true rfl) ?_
    refine fg_aload (fg_ft (pc := 9) tb_Fb_days 6 rfl) rfl ?_
    refine fg_ifnonnull (tgt := 17) (fg_ft (pc := 11) tb_Fb_days 7 rfl) (by decide) ?_
    refine fg_aload (fg_ft (pc := 17) tb_Fb_days 10 rfl) rfl ?_
    refine fg_callV (fg_ft (pc := 19) tb_Fb_days 11 rfl) cf_Fb_191 (fg_isOf ly_273 rfl (fg_lt ly_273 (by decide))) (as := []) (st := []) rfl rfl (Nat.le_of_ble_eq_true rfl) (Nat.le_refl _) (Nat.le_refl _) (ev_Folk_allLoaves ht hT1 hok (Or.inl rfl) rfl hF1 hz ?_)
    refine fg_istore (fg_ft (pc := 22) tb_Fb_days 12 rfl) (Nat.le_of_ble_eq_true rfl) ?_
    refine fg_aloadn (fg_ft (pc := 24) tb_Fb_days 13 rfl) rfl ?_
    refine fg_getR (fg_ft (pc := 25) tb_Fb_days 14 rfl) ff_Fb_38 ly_100 rfl (fg_lt ly_100 (by decide)) (rh_100_5 (some (104 + 14 * town), R.2.1, R.2.2.1, R.2.2.2)) ?_
    refine fg_aload (fg_ft (pc := 28) tb_Fb_days 15 rfl) rfl ?_
    refine fg_callV (fg_ft (pc := 30) tb_Fb_days 16 rfl) cf_Fb_233 (fg_isOf ly_277 rfl (fg_lt ly_277 (by decide))) (as := [.ref 273]) (st := []) rfl rfl (Nat.le_of_ble_eq_true rfl) (Nat.le_refl _) (Nat.le_refl _) (ev_Folk_copyFrom (R := (some (104 + 14 * town), R.2.1, R.2.2.1, R.2.2.2)) ht hT1 hok (h := S.1) (Z := S.2.1) (hv := S.2.2) rfl hF1 hz ?_)
    intro μ2 ho2 hF2
    have hT2 := fg_TWp.agF ht (Or.inr rfl) hT1 ho2
    have hF1b := fg_FZ.ag7 hF1 ho2
    have hz2 : fg_zok (A.ts town) S.1 (S.2.1.1, 0, 0, 0) S.2.2 := fg_zok.news hz
    show fg_wp _ _ _ _ _ _ _ _ _ (μ2, fg_rho (some (104 + 14 * town), some (104 + 14 * town), R.2.2.1, R.2.2.2), 304)
    refine fg_aloadn (fg_ft (pc := 33) tb_Fb_days 17 rfl) rfl ?_
    refine fg_getR (fg_ft (pc := 34) tb_Fb_days 18 rfl) ff_Fb_38 ly_100 rfl (fg_lt ly_100 (by decide)) (rh_100_5 (some (104 + 14 * town), some (104 + 14 * town), R.2.2.1, R.2.2.2)) ?_
    refine fg_iload (fg_ft (pc := 37) tb_Fb_days 19 rfl) rfl ?_
    refine fg_callV (fg_ft (pc := 39) tb_Fb_days 20 rfl) cf_Fb_251 (fg_isOf ly_277 rfl (fg_lt ly_277 (by decide))) (as := [.int seed]) (st := []) rfl rfl (Nat.le_of_ble_eq_true rfl) (Nat.le_refl _) (Nat.le_refl _) (ev_Folk_passSeeded (R := (some (104 + 14 * town), some (104 + 14 * town), R.2.2.1, R.2.2.2)) ht hT2 hok (f := 277) (Or.inr rfl) rfl hF2 hz2 (x0 := seed) (by decide) ?_)
    intro μ3 ho3 hF3
    have hT3 := fg_TWp.agF ht (Or.inr rfl) hT2 ho3
    have hF3 : fg_FZ μ3 277 (A.ts town) (fg_sdd (A.ts town) S lv seed).2.1.1 (fg_sdd (A.ts town) S lv seed).2.1.2.1 (fg_sdd (A.ts town) S lv seed).2.1.2.2 (fg_sdd (A.ts town) S lv seed).2.2 (none, 0, 0) := hF3
    have hz3 : fg_zok (A.ts town) (fg_sdd (A.ts town) S lv seed).2.1.1 (fg_sdd (A.ts town) S lv seed).2.1.2.1 (fg_sdd (A.ts town) S lv seed).2.1.2.2 := fg_sdh_ok hok (s := (seed, (S.1, (S.2.1.1, 0, 0, 0), S.2.2), lv)) hz2 _
    show fg_wp _ _ _ _ _ _ _ _ _ (μ3, fg_rho (some (104 + 14 * town), some (104 + 14 * town), R.2.2.1, R.2.2.2), 304)
    refine fg_iload (fg_ft (pc := 42) tb_Fb_days 21 rfl) rfl ?_
    by_cases e44_0 : what = 0
    · refine fg_swN (tgt := 72) (fg_ft (pc := 44) tb_Fb_days 22 rfl) e44_0 (by decide) (by decide) (by decide) rfl (by decide) ?_
      refine fg_aloadn (fg_ft (pc := 72) tb_Fb_days 23 rfl) rfl ?_
      refine fg_getR (fg_ft (pc := 73) tb_Fb_days 24 rfl) ff_Fb_38 ly_100 rfl (fg_lt ly_100 (by decide)) (rh_100_5 (some (104 + 14 * town), some (104 + 14 * town), R.2.2.1, R.2.2.2)) ?_
      refine fg_callV (fg_ft (pc := 76) tb_Fb_days 25 rfl) cf_Fb_191 (fg_isOf ly_277 rfl (fg_lt ly_277 (by decide))) (as := []) (st := []) rfl rfl (Nat.le_of_ble_eq_true rfl) (Nat.le_refl _) (Nat.le_refl _) (ev_Folk_allLoaves ht hT3 hok (Or.inr rfl) rfl hF3 hz3 ?_)
      refine fg_iload (fg_ft (pc := 79) tb_Fb_days 26 rfl) rfl ?_
      refine fg_isub (fg_ft (pc := 81) tb_Fb_days 27 rfl) ?_
      exact fg_iret (fg_ft (pc := 82) tb_Fb_days 28 rfl) rfl rfl (fg_q (hQ _ (some (104 + 14 * town), some (104 + 14 * town), R.2.2.1, R.2.2.2) (fg_agQ_tr (fg_agQ_tr (fg_agQ_F (Or.inl rfl) ho1) (fg_agQ_F (Or.inr rfl) ho2)) (fg_agQ_F (Or.inr rfl) ho3))) (by unfold an_days; rw [fg_g0_some y4]; (repeat (first | rw [if_pos (by assumption)] | rw [if_neg (by assumption)] | rw [if_pos (by omega)] | rw [if_neg (by omega)] | rw [if_pos (by constructor <;> assumption)] | rw [if_neg (by intro hh; exact absurd hh.1 (by assumption))] | rw [if_neg (by intro hh; exact absurd hh.2 (by assumption))])); (try rfl)))
    by_cases e44_1 : what = 1
    · refine fg_swN (tgt := 83) (fg_ft (pc := 44) tb_Fb_days 22 rfl) e44_1 (by decide) (by decide) (by decide) rfl (by decide) ?_
      refine fg_aloadn (fg_ft (pc := 83) tb_Fb_days 29 rfl) rfl ?_
      refine fg_getR (fg_ft (pc := 84) tb_Fb_days 30 rfl) ff_Fb_38 ly_100 rfl (fg_lt ly_100 (by decide)) (rh_100_5 (some (104 + 14 * town), some (104 + 14 * town), R.2.2.1, R.2.2.2)) ?_
      refine fg_callV (fg_ft (pc := 87) tb_Fb_days 31 rfl) cf_Fb_195 (fg_isOf ly_277 rfl (fg_lt ly_277 (by decide))) (as := []) (st := []) rfl rfl (Nat.le_of_ble_eq_true rfl) (Nat.le_refl _) (Nat.le_refl _) (ev_Folk_knownToAll ht hT3 hok (Or.inr rfl) rfl hF3 hz3 ?_)
      exact fg_iret (fg_ft (pc := 90) tb_Fb_days 32 rfl) rfl rfl (fg_q (hQ _ (some (104 + 14 * town), some (104 + 14 * town), R.2.2.1, R.2.2.2) (fg_agQ_tr (fg_agQ_tr (fg_agQ_F (Or.inl rfl) ho1) (fg_agQ_F (Or.inr rfl) ho2)) (fg_agQ_F (Or.inr rfl) ho3))) (by unfold an_days; rw [fg_g0_some y4]; (repeat (first | rw [if_pos (by assumption)] | rw [if_neg (by assumption)] | rw [if_pos (by omega)] | rw [if_neg (by omega)] | rw [if_pos (by constructor <;> assumption)] | rw [if_neg (by intro hh; exact absurd hh.1 (by assumption))] | rw [if_neg (by intro hh; exact absurd hh.2 (by assumption))])); (try rfl)))
    by_cases e44_2 : what = 2
    · refine fg_swN (tgt := 91) (fg_ft (pc := 44) tb_Fb_days 22 rfl) e44_2 (by decide) (by decide) (by decide) rfl (by decide) ?_
      refine fg_aloadn (fg_ft (pc := 91) tb_Fb_days 33 rfl) rfl ?_
      refine fg_getR (fg_ft (pc := 92) tb_Fb_days 34 rfl) ff_Fb_38 ly_100 rfl (fg_lt ly_100 (by decide)) (rh_100_5 (some (104 + 14 * town), some (104 + 14 * town), R.2.2.1, R.2.2.2)) ?_
      refine fg_callV (fg_ft (pc := 95) tb_Fb_days 35 rfl) cf_Fb_198 (fg_isOf ly_277 rfl (fg_lt ly_277 (by decide))) (as := []) (st := []) rfl rfl (Nat.le_of_ble_eq_true rfl) (Nat.le_refl _) (Nat.le_refl _) (ev_Folk_knownToAny ht hT3 hok (Or.inr rfl) rfl hF3 hz3 ?_)
      exact fg_iret (fg_ft (pc := 98) tb_Fb_days 36 rfl) rfl rfl (fg_q (hQ _ (some (104 + 14 * town), some (104 + 14 * town), R.2.2.1, R.2.2.2) (fg_agQ_tr (fg_agQ_tr (fg_agQ_F (Or.inl rfl) ho1) (fg_agQ_F (Or.inr rfl) ho2)) (fg_agQ_F (Or.inr rfl) ho3))) (by unfold an_days; rw [fg_g0_some y4]; (repeat (first | rw [if_pos (by assumption)] | rw [if_neg (by assumption)] | rw [if_pos (by omega)] | rw [if_neg (by omega)] | rw [if_pos (by constructor <;> assumption)] | rw [if_neg (by intro hh; exact absurd hh.1 (by assumption))] | rw [if_neg (by intro hh; exact absurd hh.2 (by assumption))])); (try rfl)))
    refine fg_swO (tgt := 99) (fg_ft (pc := 44) tb_Fb_days 22 rfl) (hwhat) (by decide) (by decide) (fun i h1 h2 he => by omega) (by decide) ?_
    refine fg_iload (fg_ft (pc := 99) tb_Fb_days 37 rfl) rfl ?_
    refine fg_bipush (fg_ft (pc := 101) tb_Fb_days 38 rfl) ib_10 ?_
    refine fg_icmp_ltW (tgt := 125) (fg_ft (pc := 103) tb_Fb_days 39 rfl) (by decide) (hwhat) (by decide) (fun c103 => ?_) (fun c103 => ?_)
    · refine fg_bipush (fg_ft (pc := 125) tb_Fb_days 48 rfl) ib_m2 ?_
      exact fg_iret (fg_ft (pc := 127) tb_Fb_days 49 rfl) rfl rfl (fg_q (hQ _ (some (104 + 14 * town), some (104 + 14 * town), R.2.2.1, R.2.2.2) (fg_agQ_tr (fg_agQ_tr (fg_agQ_F (Or.inl rfl) ho1) (fg_agQ_F (Or.inr rfl) ho2)) (fg_agQ_F (Or.inr rfl) ho3))) (by unfold an_days; rw [fg_g0_some y4]; (repeat (first | rw [if_pos (by assumption)] | rw [if_neg (by assumption)] | rw [if_pos (by omega)] | rw [if_neg (by omega)] | rw [if_pos (by constructor <;> assumption)] | rw [if_neg (by intro hh; exact absurd hh.1 (by assumption))] | rw [if_neg (by intro hh; exact absurd hh.2 (by assumption))])); (try rfl)))
    · refine fg_iload (fg_ft (pc := 106) tb_Fb_days 40 rfl) rfl ?_
      refine fg_bipush (fg_ft (pc := 108) tb_Fb_days 41 rfl) ib_20 ?_
      refine fg_icmp_geW (tgt := 125) (fg_ft (pc := 110) tb_Fb_days 42 rfl) (by decide) (hwhat) (by decide) (fun c110 => ?_) (fun c110 => ?_)
      · refine fg_bipush (fg_ft (pc := 125) tb_Fb_days 48 rfl) ib_m2 ?_
        exact fg_iret (fg_ft (pc := 127) tb_Fb_days 49 rfl) rfl rfl (fg_q (hQ _ (some (104 + 14 * town), some (104 + 14 * town), R.2.2.1, R.2.2.2) (fg_agQ_tr (fg_agQ_tr (fg_agQ_F (Or.inl rfl) ho1) (fg_agQ_F (Or.inr rfl) ho2)) (fg_agQ_F (Or.inr rfl) ho3))) (by unfold an_days; rw [fg_g0_some y4]; (repeat (first | rw [if_pos (by assumption)] | rw [if_neg (by assumption)] | rw [if_pos (by omega)] | rw [if_neg (by omega)] | rw [if_pos (by constructor <;> assumption)] | rw [if_neg (by intro hh; exact absurd hh.1 (by assumption))] | rw [if_neg (by intro hh; exact absurd hh.2 (by assumption))])); (try rfl)))
      · refine fg_aloadn (fg_ft (pc := 113) tb_Fb_days 43 rfl) rfl ?_
        refine fg_getR (fg_ft (pc := 114) tb_Fb_days 44 rfl) ff_Fb_38 ly_100 rfl (fg_lt ly_100 (by decide)) (rh_100_5 (some (104 + 14 * town), some (104 + 14 * town), R.2.2.1, R.2.2.2)) ?_
        refine fg_iload (fg_ft (pc := 117) tb_Fb_days 45 rfl) rfl ?_
        refine fg_callS (fg_ft (pc := 119) tb_Fb_days 46 rfl) cf_Fb_211 (as := [.ref 277, .int (nI what)]) (st := []) rfl rfl (Nat.le_of_ble_eq_true rfl) (Nat.le_refl _) (Nat.le_refl _) (ev_Fb_stateOfOne ht hT3 hok (Or.inr rfl) rfl hF3 hz3 (what := what) hwhat ?_)
        refine fg_goto (tgt := 127) (fg_ft (pc := 122) tb_Fb_days 47 rfl) (by decide) ?_
        exact fg_iret (fg_ft (pc := 127) tb_Fb_days 49 rfl) rfl rfl (fg_q (hQ _ (some (104 + 14 * town), some (104 + 14 * town), R.2.2.1, R.2.2.2) (fg_agQ_tr (fg_agQ_tr (fg_agQ_F (Or.inl rfl) ho1) (fg_agQ_F (Or.inr rfl) ho2)) (fg_agQ_F (Or.inr rfl) ho3))) (by unfold an_days; rw [fg_g0_some y4]; (repeat (first | rw [if_pos (by assumption)] | rw [if_neg (by assumption)] | rw [if_pos (by omega)] | rw [if_neg (by omega)] | rw [if_pos (by constructor <;> assumption)] | rw [if_neg (by intro hh; exact absurd hh.1 (by assumption))] | rw [if_neg (by intro hh; exact absurd hh.2 (by assumption))])); (try rfl)))
theorem fg_min_lt {P : Nat → Prop} {s : Nat} (h : fg_min P = some s) : P s := by
  unfold fg_min at h
  by_cases he : ∃ r, fg_IsM P r
  · rw [@dif_pos _ (Classical.propDecidable _) he] at h
    have := Classical.choose_spec he
    rw [h] at this
    exact this.1
  · rw [@dif_neg _ (Classical.propDecidable _) he] at h
    cases h
theorem fg_min_le31 {pool w : Nat} {P : Nat → Prop} {s : Nat} (hp : pool < 2 ^ w) (hw : 2 ^ w ≤ 1024) (h : fg_min (fun s => fg_le s pool ∧ P s) = some s) : s < 2 ^ 31 := by
  have h1 := fg_le_le (fg_min_lt h).1
  omega
theorem ev_Fb_ask0 {E : fg_E} {d : Nat} {μ : Nat → Nat → Int32} {R : fg_T4} {Q : Option Value → fg_M → Prop} {A : fg_Tl} (hA : fg_TL μ 101 A) {town day n person fact : Nat} (htown : town < 2 ^ 32) (hday : day < 2 ^ 32) (hn : n < 2 ^ 32) (hperson : person < 2 ^ 32) (hfact : fact < 2 ^ 32) (hQ : ∀ (μ' : Nat → Nat → Int32) (R' : fg_T4), fg_agQ μ μ' → Q (some (.int (an_ask A town day n person fact 0))) (μ', fg_rho R', 304)) : fg_Ev E yy_Fb_ask (d + 12) [.ref 100, .int (nI town), .int (nI day), .int (nI n), .int (nI person), .int (nI fact), .int (nI 0)] (μ, fg_rho R, 304) 304 Q := by
  have ht2 := hA.2.2.2.1.2
  have hd3 := hA.2.2.2.2.1.2
  refine fg_intro (by decide +kernel) (Nat.le_of_ble_eq_true rfl) (fg_okAs rfl) (Nat.le_refl _) ?_
  refine fg_aloadn (fg_ft (pc := 0) tb_Fb_ask 0 rfl) rfl ?_
  refine fg_iloadn (fg_ft (pc := 1) tb_Fb_ask 1 rfl) rfl ?_
  refine fg_iloadn (fg_ft (pc := 2) tb_Fb_ask 2 rfl) rfl ?_
  refine fg_iloadn (fg_ft (pc := 3) tb_Fb_ask 3 rfl) rfl ?_
  refine fg_iload (fg_ft (pc := 4) tb_Fb_ask 4 rfl) rfl ?_
  refine fg_callV (fg_ft (pc := 6) tb_Fb_ask 5 rfl) cf_Fb_221 (fg_isOf ly_100 rfl (fg_lt ly_100 (by decide))) (as := [.int (nI town), .int (nI day), .int (nI n), .int (nI person)]) (st := []) rfl rfl (Nat.le_of_ble_eq_true rfl) (Nat.le_refl _) (Nat.le_refl _) (ev_Fb_findOne hA htown hday hn hperson (fun n4 μ1 R1 ho1 hR1 => ?_) (fun S lv y4 y5 μ1 ho1 hF1 => ?_))
  · refine fg_astoreN (fg_ft (pc := 9) tb_Fb_ask 6 rfl) (Nat.le_of_ble_eq_true rfl) ?_
    refine fg_aloadN (fg_ft (pc := 11) tb_Fb_ask 7 rfl) rfl ?_
    refine fg_ifnull (tgt := 44) (fg_ft (pc := 13) tb_Fb_ask 8 rfl) (by decide) ?_
    refine fg_iconst (fg_ft (pc := 44) tb_Fb_ask 20 rfl) ic_m1 ?_
    exact fg_iret (fg_ft (pc := 45) tb_Fb_ask 21 rfl) rfl rfl (fg_q (hQ _ R1 (fg_agQ_F (Or.inl rfl) ho1)) (by unfold an_ask; rw [fg_g1_none n4]))
  · have ytc := fg_fnd_t y4
    have hok := (hA.2.2.2.2.2.1 town ytc).2
    have ht : fg_isT (104 + 14 * town) := fg_isT_told (by omega)
    have hT1 := fg_TL.town hA (Or.inl rfl) ytc ho1
    have hz := fg_fnd_ok hA y4
    have hb0 := hok.1
    have hb1 := hok.2.1
    have hp := hok.p
    have hm2 := hz.2.1 person y5
    have hm0 : S.2.1.1 person < 2 ^ A.ts town 0 := hm2.1
    have hmc : fg_clsd (A.ts town) (S.2.1.1 person) := hm2.2
    have hm10 : S.2.1.1 person < 1024 := by omega
    refine fg_astore (fg_ft (pc := 9) tb_Fb_ask 6 rfl) (Nat.le_of_ble_eq_true rfl) ?_
    refine fg_aload (fg_ft (pc := 11) tb_Fb_ask 7 rfl) rfl ?_
    refine fg_ifnull_r (fg_ft (pc := 13) tb_Fb_ask 8 rfl) ?_
    refine fg_aload (fg_ft (pc := 16) tb_Fb_ask 9 rfl) rfl ?_
    refine fg_getR (fg_ft (pc := 18) tb_Fb_ask 10 rfl) ff_Fb_194 ly_273 rfl (fg_lt ly_273 (by decide)) rfl ?_
    refine fg_iload (fg_ft (pc := 21) tb_Fb_ask 11 rfl) rfl ?_
    refine fg_callV (fg_ft (pc := 23) tb_Fb_ask 12 rfl) cf_Fb_164 (fg_isOf (tT_lay ht) rfl (fg_lt (tT_lay ht) (by decide))) (as := [.int (nI fact)]) (st := []) rfl rfl (Nat.le_of_ble_eq_true rfl) (Nat.le_refl _) (Nat.le_refl _) (ev_Town_hasFactX ht hT1 hok (k := fact) hfact ?_)
    refine fg_ifB_eq (tgt := 44) (fg_ft (pc := 26) tb_Fb_ask 13 rfl) (by decide) (fun c26 => ?_) (fun c26 => ?_)
    · refine fg_iconst (fg_ft (pc := 44) tb_Fb_ask 20 rfl) ic_m1 ?_
      exact fg_iret (fg_ft (pc := 45) tb_Fb_ask 21 rfl) rfl rfl (fg_q (hQ _ (some (104 + 14 * town), R.2.1, R.2.2.1, R.2.2.2) (fg_agQ_F (Or.inl rfl) ho1)) (by unfold an_ask; rw [fg_g1_some y4 y5]; first | rw [if_neg c26] | rw [if_pos c26, if_pos c41] | (rw [if_pos c26, if_neg c41, nm]; rfl) | (rw [if_pos c26, if_neg c41, ym]; rfl) | exact absurd c91 (by decide) | exact absurd c91 (by omega)))
    · refine fg_aload (fg_ft (pc := 29) tb_Fb_ask 14 rfl) rfl ?_
      refine fg_iload (fg_ft (pc := 31) tb_Fb_ask 15 rfl) rfl ?_
      refine fg_callV (fg_ft (pc := 33) tb_Fb_ask 16 rfl) cf_Fb_181 (fg_isOf ly_273 rfl (fg_lt ly_273 (by decide))) (as := [.int (nI person)]) (st := []) rfl rfl (Nat.le_of_ble_eq_true rfl) (Nat.le_refl _) (Nat.le_refl _) (ev_Folk_mind ht hT1 hok (Or.inl rfl) rfl hF1 hz (p := person) (by omega) ?_)
      refine fg_iload (fg_ft (pc := 36) tb_Fb_ask 17 rfl) rfl ?_
      refine fg_callS (fg_ft (pc := 38) tb_Fb_ask 18 rfl) cf_Fb_167 (as := [.int (nI (S.2.1.1 person)), .int (nI fact)]) (st := []) rfl rfl (Nat.le_of_ble_eq_true rfl) (Nat.le_refl _) (Nat.le_refl _) (ev_Fb_isInX (s := (S.2.1.1 person)) (k := fact) (by omega) hfact ?_)
      refine fg_ifB_eq (tgt := 46) (fg_ft (pc := 41) tb_Fb_ask 19 rfl) (by decide) (fun c41 => ?_) (fun c41 => ?_)
      · refine fg_aload (fg_ft (pc := 46) tb_Fb_ask 22 rfl) rfl ?_
        refine fg_iload (fg_ft (pc := 48) tb_Fb_ask 23 rfl) rfl ?_
        refine fg_callV (fg_ft (pc := 50) tb_Fb_ask 24 rfl) cf_Fb_181 (fg_isOf ly_273 rfl (fg_lt ly_273 (by decide))) (as := [.int (nI person)]) (st := []) rfl rfl (Nat.le_of_ble_eq_true rfl) (Nat.le_refl _) (Nat.le_refl _) (ev_Folk_mind ht hT1 hok (Or.inl rfl) rfl hF1 hz (p := person) (by omega) ?_)
        refine fg_istore (fg_ft (pc := 53) tb_Fb_ask 25 rfl) (Nat.le_of_ble_eq_true rfl) ?_
        refine fg_aload (fg_ft (pc := 55) tb_Fb_ask 26 rfl) rfl ?_
        refine fg_iload (fg_ft (pc := 57) tb_Fb_ask 27 rfl) rfl ?_
        refine fg_callV (fg_ft (pc := 59) tb_Fb_ask 28 rfl) cf_Fb_308 (fg_isOf ly_273 rfl (fg_lt ly_273 (by decide))) (as := [.int (nI person)]) (st := []) rfl rfl (Nat.le_of_ble_eq_true rfl) (Nat.le_refl _) (Nat.le_refl _) (ev_Folk_knownToOthers ht hT1 hok (Or.inl rfl) rfl hF1 hz (x := (nI person)) ?_)
        refine fg_iload (fg_ft (pc := 62) tb_Fb_ask 29 rfl) rfl ?_
        refine fg_iconst (fg_ft (pc := 64) tb_Fb_ask 30 rfl) ic_m1 ?_
        refine fg_ixor (fg_ft (pc := 65) tb_Fb_ask 31 rfl) ?_
        refine fg_iandD (fg_ft (pc := 66) tb_Fb_ask 32 rfl) ?_
        refine fg_istore (fg_ft (pc := 67) tb_Fb_ask 33 rfl) (Nat.le_of_ble_eq_true rfl) ?_
        refine fg_aload (fg_ft (pc := 69) tb_Fb_ask 34 rfl) rfl ?_
        refine fg_getR (fg_ft (pc := 71) tb_Fb_ask 35 rfl) ff_Fb_194 ly_273 rfl (fg_lt ly_273 (by decide)) rfl ?_
        refine fg_iload (fg_ft (pc := 74) tb_Fb_ask 36 rfl) rfl ?_
        refine fg_iload (fg_ft (pc := 76) tb_Fb_ask 37 rfl) rfl ?_
        refine fg_iconst (fg_ft (pc := 78) tb_Fb_ask 38 rfl) ic_1 ?_
        refine fg_iload (fg_ft (pc := 79) tb_Fb_ask 39 rfl) rfl ?_
        refine fg_ishl1 (fg_ft (pc := 81) tb_Fb_ask 40 rfl) (by omega) ?_
        refine fg_iconst (fg_ft (pc := 82) tb_Fb_ask 41 rfl) ic_0 ?_
        refine fg_callV (fg_ft (pc := 83) tb_Fb_ask 42 rfl) cf_Fb_311 (fg_isOf (tT_lay ht) rfl (fg_lt (tT_lay ht) (by decide))) (as := [.int (nI (fg_df (fg_orL S.2.1.1 ((nI person)) ((A.ts town) 2)) (S.2.1.1 person))), .int (nI (S.2.1.1 person)), .int (nI (2 ^ fact)), .int (nI 0)]) (st := []) rfl rfl (Nat.le_of_ble_eq_true rfl) (Nat.le_refl _) (Nat.le_refl _) (ev_Town_fewestX ht hT1 hok (pool := (fg_df (fg_orL S.2.1.1 ((nI person)) ((A.ts town) 2)) (S.2.1.1 person))) (mind := (S.2.1.1 person)) (need := 2 ^ fact) (nt := 0) (fg_df_lt (fg_orL_lt (fun p hp => (hz.2.1 p hp).1))) hm0 (fg_p2 c26 hok.1.2) (by decide) (fun nm => ?_) (fun sm ym => ?_))
        · refine fg_istore (fg_ft (pc := 86) tb_Fb_ask 43 rfl) (Nat.le_of_ble_eq_true rfl) ?_
          refine fg_iload (fg_ft (pc := 88) tb_Fb_ask 44 rfl) rfl ?_
          refine fg_iconst (fg_ft (pc := 90) tb_Fb_ask 45 rfl) ic_m1 ?_
          refine fg_icmp_eq (tgt := 99) (fg_ft (pc := 91) tb_Fb_ask 46 rfl) (by decide) (fun c91 => ?_) (fun c91 => (absurd rfl c91))
          refine fg_iload (fg_ft (pc := 99) tb_Fb_ask 49 rfl) rfl ?_
          refine fg_goto (tgt := 113) (fg_ft (pc := 101) tb_Fb_ask 50 rfl) (by decide) ?_
          exact fg_iret (fg_ft (pc := 113) tb_Fb_ask 55 rfl) rfl rfl (fg_q (hQ _ (some (104 + 14 * town), R.2.1, R.2.2.1, R.2.2.2) (fg_agQ_F (Or.inl rfl) ho1)) (by unfold an_ask; rw [fg_g1_some y4 y5]; first | rw [if_neg c26] | rw [if_pos c26, if_pos c41] | (rw [if_pos c26, if_neg c41, nm]; rfl) | (rw [if_pos c26, if_neg c41, ym]; rfl) | exact absurd c91 (by decide) | exact absurd c91 (by omega)))
        · have hs31 := fg_min_le31 (fg_df_lt (b := S.2.1.1 person) (fg_orL_lt (x := nI person) (fun p hp => (hz.2.1 p hp).1))) hok.p ym
          refine fg_istore (fg_ft (pc := 86) tb_Fb_ask 43 rfl) (Nat.le_of_ble_eq_true rfl) ?_
          refine fg_iload (fg_ft (pc := 88) tb_Fb_ask 44 rfl) rfl ?_
          refine fg_iconst (fg_ft (pc := 90) tb_Fb_ask 45 rfl) ic_m1 ?_
          refine fg_icmp_eqM (tgt := 99) (fg_ft (pc := 91) tb_Fb_ask 46 rfl) (by decide) (Nat.lt_trans hs31 (by decide)) (fun c91 => ?_) (fun c91 => ?_)
          · refine fg_iload (fg_ft (pc := 99) tb_Fb_ask 49 rfl) rfl ?_
            refine fg_goto (tgt := 113) (fg_ft (pc := 101) tb_Fb_ask 50 rfl) (by decide) ?_
            exact fg_iret (fg_ft (pc := 113) tb_Fb_ask 55 rfl) rfl rfl (fg_q (hQ _ (some (104 + 14 * town), R.2.1, R.2.2.1, R.2.2.2) (fg_agQ_F (Or.inl rfl) ho1)) (by unfold an_ask; rw [fg_g1_some y4 y5]; first | rw [if_neg c26] | rw [if_pos c26, if_pos c41] | (rw [if_pos c26, if_neg c41, nm]; rfl) | (rw [if_pos c26, if_neg c41, ym]; rfl) | exact absurd c91 (by decide) | exact absurd c91 (by omega)))
          · refine fg_iload (fg_ft (pc := 94) tb_Fb_ask 47 rfl) rfl ?_
            refine fg_if_ne (tgt := 104) (fg_ft (pc := 96) tb_Fb_ask 48 rfl) (by decide) (fun h => absurd h (by decide)) (fun _ => ?_)
            refine fg_iload (fg_ft (pc := 99) tb_Fb_ask 49 rfl) rfl ?_
            refine fg_goto (tgt := 113) (fg_ft (pc := 101) tb_Fb_ask 50 rfl) (by decide) ?_
            exact fg_iret (fg_ft (pc := 113) tb_Fb_ask 55 rfl) rfl rfl (fg_q (hQ _ (some (104 + 14 * town), R.2.1, R.2.2.1, R.2.2.2) (fg_agQ_F (Or.inl rfl) ho1)) (by unfold an_ask; rw [fg_g1_some y4 y5]; first | rw [if_neg c26] | rw [if_pos c26, if_pos c41] | (rw [if_pos c26, if_neg c41, nm]; rfl) | (rw [if_pos c26, if_neg c41, ym]; rfl) | exact absurd c91 (by decide) | exact absurd c91 (by omega)))
      · refine fg_iconst (fg_ft (pc := 44) tb_Fb_ask 20 rfl) ic_m1 ?_
        exact fg_iret (fg_ft (pc := 45) tb_Fb_ask 21 rfl) rfl rfl (fg_q (hQ _ (some (104 + 14 * town), R.2.1, R.2.2.1, R.2.2.2) (fg_agQ_F (Or.inl rfl) ho1)) (by unfold an_ask; rw [fg_g1_some y4 y5]; first | rw [if_neg c26] | rw [if_pos c26, if_pos c41] | (rw [if_pos c26, if_neg c41, nm]; rfl) | (rw [if_pos c26, if_neg c41, ym]; rfl) | exact absurd c91 (by decide) | exact absurd c91 (by omega)))
theorem ev_Fb_ask1 {E : fg_E} {d : Nat} {μ : Nat → Nat → Int32} {R : fg_T4} {Q : Option Value → fg_M → Prop} {A : fg_Tl} (hA : fg_TL μ 101 A) {town day n person fact : Nat} (htown : town < 2 ^ 32) (hday : day < 2 ^ 32) (hn : n < 2 ^ 32) (hperson : person < 2 ^ 32) (hfact : fact < 2 ^ 32) (hQ : ∀ (μ' : Nat → Nat → Int32) (R' : fg_T4), fg_agQ μ μ' → Q (some (.int (an_ask A town day n person fact 1))) (μ', fg_rho R', 304)) : fg_Ev E yy_Fb_ask (d + 12) [.ref 100, .int (nI town), .int (nI day), .int (nI n), .int (nI person), .int (nI fact), .int (nI 1)] (μ, fg_rho R, 304) 304 Q := by
  have ht2 := hA.2.2.2.1.2
  have hd3 := hA.2.2.2.2.1.2
  refine fg_intro (by decide +kernel) (Nat.le_of_ble_eq_true rfl) (fg_okAs rfl) (Nat.le_refl _) ?_
  refine fg_aloadn (fg_ft (pc := 0) tb_Fb_ask 0 rfl) rfl ?_
  refine fg_iloadn (fg_ft (pc := 1) tb_Fb_ask 1 rfl) rfl ?_
  refine fg_iloadn (fg_ft (pc := 2) tb_Fb_ask 2 rfl) rfl ?_
  refine fg_iloadn (fg_ft (pc := 3) tb_Fb_ask 3 rfl) rfl ?_
  refine fg_iload (fg_ft (pc := 4) tb_Fb_ask 4 rfl) rfl ?_
  refine fg_callV (fg_ft (pc := 6) tb_Fb_ask 5 rfl) cf_Fb_221 (fg_isOf ly_100 rfl (fg_lt ly_100 (by decide))) (as := [.int (nI town), .int (nI day), .int (nI n), .int (nI person)]) (st := []) rfl rfl (Nat.le_of_ble_eq_true rfl) (Nat.le_refl _) (Nat.le_refl _) (ev_Fb_findOne hA htown hday hn hperson (fun n4 μ1 R1 ho1 hR1 => ?_) (fun S lv y4 y5 μ1 ho1 hF1 => ?_))
  · refine fg_astoreN (fg_ft (pc := 9) tb_Fb_ask 6 rfl) (Nat.le_of_ble_eq_true rfl) ?_
    refine fg_aloadN (fg_ft (pc := 11) tb_Fb_ask 7 rfl) rfl ?_
    refine fg_ifnull (tgt := 44) (fg_ft (pc := 13) tb_Fb_ask 8 rfl) (by decide) ?_
    refine fg_iconst (fg_ft (pc := 44) tb_Fb_ask 20 rfl) ic_m1 ?_
    exact fg_iret (fg_ft (pc := 45) tb_Fb_ask 21 rfl) rfl rfl (fg_q (hQ _ R1 (fg_agQ_F (Or.inl rfl) ho1)) (by unfold an_ask; rw [fg_g1_none n4]))
  · have ytc := fg_fnd_t y4
    have hok := (hA.2.2.2.2.2.1 town ytc).2
    have ht : fg_isT (104 + 14 * town) := fg_isT_told (by omega)
    have hT1 := fg_TL.town hA (Or.inl rfl) ytc ho1
    have hz := fg_fnd_ok hA y4
    have hb0 := hok.1
    have hb1 := hok.2.1
    have hp := hok.p
    have hm2 := hz.2.1 person y5
    have hm0 : S.2.1.1 person < 2 ^ A.ts town 0 := hm2.1
    have hmc : fg_clsd (A.ts town) (S.2.1.1 person) := hm2.2
    have hm10 : S.2.1.1 person < 1024 := by omega
    refine fg_astore (fg_ft (pc := 9) tb_Fb_ask 6 rfl) (Nat.le_of_ble_eq_true rfl) ?_
    refine fg_aload (fg_ft (pc := 11) tb_Fb_ask 7 rfl) rfl ?_
    refine fg_ifnull_r (fg_ft (pc := 13) tb_Fb_ask 8 rfl) ?_
    refine fg_aload (fg_ft (pc := 16) tb_Fb_ask 9 rfl) rfl ?_
    refine fg_getR (fg_ft (pc := 18) tb_Fb_ask 10 rfl) ff_Fb_194 ly_273 rfl (fg_lt ly_273 (by decide)) rfl ?_
    refine fg_iload (fg_ft (pc := 21) tb_Fb_ask 11 rfl) rfl ?_
    refine fg_callV (fg_ft (pc := 23) tb_Fb_ask 12 rfl) cf_Fb_164 (fg_isOf (tT_lay ht) rfl (fg_lt (tT_lay ht) (by decide))) (as := [.int (nI fact)]) (st := []) rfl rfl (Nat.le_of_ble_eq_true rfl) (Nat.le_refl _) (Nat.le_refl _) (ev_Town_hasFactX ht hT1 hok (k := fact) hfact ?_)
    refine fg_ifB_eq (tgt := 44) (fg_ft (pc := 26) tb_Fb_ask 13 rfl) (by decide) (fun c26 => ?_) (fun c26 => ?_)
    · refine fg_iconst (fg_ft (pc := 44) tb_Fb_ask 20 rfl) ic_m1 ?_
      exact fg_iret (fg_ft (pc := 45) tb_Fb_ask 21 rfl) rfl rfl (fg_q (hQ _ (some (104 + 14 * town), R.2.1, R.2.2.1, R.2.2.2) (fg_agQ_F (Or.inl rfl) ho1)) (by unfold an_ask; rw [fg_g1_some y4 y5]; first | rw [if_neg c26] | rw [if_pos c26, if_pos c41] | (rw [if_pos c26, if_neg c41, nm]; rfl) | (rw [if_pos c26, if_neg c41, ym]; rfl) | exact absurd c91 (by decide) | exact absurd c91 (by omega)))
    · refine fg_aload (fg_ft (pc := 29) tb_Fb_ask 14 rfl) rfl ?_
      refine fg_iload (fg_ft (pc := 31) tb_Fb_ask 15 rfl) rfl ?_
      refine fg_callV (fg_ft (pc := 33) tb_Fb_ask 16 rfl) cf_Fb_181 (fg_isOf ly_273 rfl (fg_lt ly_273 (by decide))) (as := [.int (nI person)]) (st := []) rfl rfl (Nat.le_of_ble_eq_true rfl) (Nat.le_refl _) (Nat.le_refl _) (ev_Folk_mind ht hT1 hok (Or.inl rfl) rfl hF1 hz (p := person) (by omega) ?_)
      refine fg_iload (fg_ft (pc := 36) tb_Fb_ask 17 rfl) rfl ?_
      refine fg_callS (fg_ft (pc := 38) tb_Fb_ask 18 rfl) cf_Fb_167 (as := [.int (nI (S.2.1.1 person)), .int (nI fact)]) (st := []) rfl rfl (Nat.le_of_ble_eq_true rfl) (Nat.le_refl _) (Nat.le_refl _) (ev_Fb_isInX (s := (S.2.1.1 person)) (k := fact) (by omega) hfact ?_)
      refine fg_ifB_eq (tgt := 46) (fg_ft (pc := 41) tb_Fb_ask 19 rfl) (by decide) (fun c41 => ?_) (fun c41 => ?_)
      · refine fg_aload (fg_ft (pc := 46) tb_Fb_ask 22 rfl) rfl ?_
        refine fg_iload (fg_ft (pc := 48) tb_Fb_ask 23 rfl) rfl ?_
        refine fg_callV (fg_ft (pc := 50) tb_Fb_ask 24 rfl) cf_Fb_181 (fg_isOf ly_273 rfl (fg_lt ly_273 (by decide))) (as := [.int (nI person)]) (st := []) rfl rfl (Nat.le_of_ble_eq_true rfl) (Nat.le_refl _) (Nat.le_refl _) (ev_Folk_mind ht hT1 hok (Or.inl rfl) rfl hF1 hz (p := person) (by omega) ?_)
        refine fg_istore (fg_ft (pc := 53) tb_Fb_ask 25 rfl) (Nat.le_of_ble_eq_true rfl) ?_
        refine fg_aload (fg_ft (pc := 55) tb_Fb_ask 26 rfl) rfl ?_
        refine fg_iload (fg_ft (pc := 57) tb_Fb_ask 27 rfl) rfl ?_
        refine fg_callV (fg_ft (pc := 59) tb_Fb_ask 28 rfl) cf_Fb_308 (fg_isOf ly_273 rfl (fg_lt ly_273 (by decide))) (as := [.int (nI person)]) (st := []) rfl rfl (Nat.le_of_ble_eq_true rfl) (Nat.le_refl _) (Nat.le_refl _) (ev_Folk_knownToOthers ht hT1 hok (Or.inl rfl) rfl hF1 hz (x := (nI person)) ?_)
        refine fg_iload (fg_ft (pc := 62) tb_Fb_ask 29 rfl) rfl ?_
        refine fg_iconst (fg_ft (pc := 64) tb_Fb_ask 30 rfl) ic_m1 ?_
        refine fg_ixor (fg_ft (pc := 65) tb_Fb_ask 31 rfl) ?_
        refine fg_iandD (fg_ft (pc := 66) tb_Fb_ask 32 rfl) ?_
        refine fg_istore (fg_ft (pc := 67) tb_Fb_ask 33 rfl) (Nat.le_of_ble_eq_true rfl) ?_
        refine fg_aload (fg_ft (pc := 69) tb_Fb_ask 34 rfl) rfl ?_
        refine fg_getR (fg_ft (pc := 71) tb_Fb_ask 35 rfl) ff_Fb_194 ly_273 rfl (fg_lt ly_273 (by decide)) rfl ?_
        refine fg_iload (fg_ft (pc := 74) tb_Fb_ask 36 rfl) rfl ?_
        refine fg_iload (fg_ft (pc := 76) tb_Fb_ask 37 rfl) rfl ?_
        refine fg_iconst (fg_ft (pc := 78) tb_Fb_ask 38 rfl) ic_1 ?_
        refine fg_iload (fg_ft (pc := 79) tb_Fb_ask 39 rfl) rfl ?_
        refine fg_ishl1 (fg_ft (pc := 81) tb_Fb_ask 40 rfl) (by omega) ?_
        refine fg_iconst (fg_ft (pc := 82) tb_Fb_ask 41 rfl) ic_0 ?_
        refine fg_callV (fg_ft (pc := 83) tb_Fb_ask 42 rfl) cf_Fb_311 (fg_isOf (tT_lay ht) rfl (fg_lt (tT_lay ht) (by decide))) (as := [.int (nI (fg_df (fg_orL S.2.1.1 ((nI person)) ((A.ts town) 2)) (S.2.1.1 person))), .int (nI (S.2.1.1 person)), .int (nI (2 ^ fact)), .int (nI 0)]) (st := []) rfl rfl (Nat.le_of_ble_eq_true rfl) (Nat.le_refl _) (Nat.le_refl _) (ev_Town_fewestX ht hT1 hok (pool := (fg_df (fg_orL S.2.1.1 ((nI person)) ((A.ts town) 2)) (S.2.1.1 person))) (mind := (S.2.1.1 person)) (need := 2 ^ fact) (nt := 0) (fg_df_lt (fg_orL_lt (fun p hp => (hz.2.1 p hp).1))) hm0 (fg_p2 c26 hok.1.2) (by decide) (fun nm => ?_) (fun sm ym => ?_))
        · refine fg_istore (fg_ft (pc := 86) tb_Fb_ask 43 rfl) (Nat.le_of_ble_eq_true rfl) ?_
          refine fg_iload (fg_ft (pc := 88) tb_Fb_ask 44 rfl) rfl ?_
          refine fg_iconst (fg_ft (pc := 90) tb_Fb_ask 45 rfl) ic_m1 ?_
          refine fg_icmp_eq (tgt := 99) (fg_ft (pc := 91) tb_Fb_ask 46 rfl) (by decide) (fun c91 => ?_) (fun c91 => (absurd rfl c91))
          refine fg_iload (fg_ft (pc := 99) tb_Fb_ask 49 rfl) rfl ?_
          refine fg_goto (tgt := 113) (fg_ft (pc := 101) tb_Fb_ask 50 rfl) (by decide) ?_
          exact fg_iret (fg_ft (pc := 113) tb_Fb_ask 55 rfl) rfl rfl (fg_q (hQ _ (some (104 + 14 * town), R.2.1, R.2.2.1, R.2.2.2) (fg_agQ_F (Or.inl rfl) ho1)) (by unfold an_ask; rw [fg_g1_some y4 y5]; first | rw [if_neg c26] | rw [if_pos c26, if_pos c41] | (rw [if_pos c26, if_neg c41, nm]; rfl) | (rw [if_pos c26, if_neg c41, ym]; rfl) | exact absurd c91 (by decide) | exact absurd c91 (by omega)))
        · have hs31 := fg_min_le31 (fg_df_lt (b := S.2.1.1 person) (fg_orL_lt (x := nI person) (fun p hp => (hz.2.1 p hp).1))) hok.p ym
          refine fg_istore (fg_ft (pc := 86) tb_Fb_ask 43 rfl) (Nat.le_of_ble_eq_true rfl) ?_
          refine fg_iload (fg_ft (pc := 88) tb_Fb_ask 44 rfl) rfl ?_
          refine fg_iconst (fg_ft (pc := 90) tb_Fb_ask 45 rfl) ic_m1 ?_
          refine fg_icmp_eqM (tgt := 99) (fg_ft (pc := 91) tb_Fb_ask 46 rfl) (by decide) (Nat.lt_trans hs31 (by decide)) (fun c91 => ?_) (fun c91 => ?_)
          · refine fg_iload (fg_ft (pc := 99) tb_Fb_ask 49 rfl) rfl ?_
            refine fg_goto (tgt := 113) (fg_ft (pc := 101) tb_Fb_ask 50 rfl) (by decide) ?_
            exact fg_iret (fg_ft (pc := 113) tb_Fb_ask 55 rfl) rfl rfl (fg_q (hQ _ (some (104 + 14 * town), R.2.1, R.2.2.1, R.2.2.2) (fg_agQ_F (Or.inl rfl) ho1)) (by unfold an_ask; rw [fg_g1_some y4 y5]; first | rw [if_neg c26] | rw [if_pos c26, if_pos c41] | (rw [if_pos c26, if_neg c41, nm]; rfl) | (rw [if_pos c26, if_neg c41, ym]; rfl) | exact absurd c91 (by decide) | exact absurd c91 (by omega)))
          · refine fg_iload (fg_ft (pc := 94) tb_Fb_ask 47 rfl) rfl ?_
            refine fg_if_ne (tgt := 104) (fg_ft (pc := 96) tb_Fb_ask 48 rfl) (by decide) (fun _ => ?_) (fun h => absurd h (by decide))
            refine fg_aload (fg_ft (pc := 104) tb_Fb_ask 51 rfl) rfl ?_
            refine fg_iload (fg_ft (pc := 106) tb_Fb_ask 52 rfl) rfl ?_
            refine fg_iload (fg_ft (pc := 108) tb_Fb_ask 53 rfl) rfl ?_
            refine fg_callV (fg_ft (pc := 110) tb_Fb_ask 54 rfl) cf_Fb_315 (fg_isOf ly_273 rfl (fg_lt ly_273 (by decide))) (as := [.int (nI sm), .int (nI person)]) (st := []) rfl rfl (Nat.le_of_ble_eq_true rfl) (Nat.le_refl _) (Nat.le_refl _) (ev_Folk_leastWhoHave ht hT1 hok (Or.inl rfl) rfl hF1 hz (p := person) (s := sm) (by omega) ?_)
            exact fg_iret (fg_ft (pc := 113) tb_Fb_ask 55 rfl) rfl rfl (fg_q (hQ _ (some (104 + 14 * town), R.2.1, R.2.2.1, R.2.2.2) (fg_agQ_F (Or.inl rfl) ho1)) (by unfold an_ask; rw [fg_g1_some y4 y5]; first | rw [if_neg c26] | rw [if_pos c26, if_pos c41] | (rw [if_pos c26, if_neg c41, nm]; rfl) | (rw [if_pos c26, if_neg c41, ym]; rfl) | exact absurd c91 (by decide) | exact absurd c91 (by omega)))
      · refine fg_iconst (fg_ft (pc := 44) tb_Fb_ask 20 rfl) ic_m1 ?_
        exact fg_iret (fg_ft (pc := 45) tb_Fb_ask 21 rfl) rfl rfl (fg_q (hQ _ (some (104 + 14 * town), R.2.1, R.2.2.1, R.2.2.2) (fg_agQ_F (Or.inl rfl) ho1)) (by unfold an_ask; rw [fg_g1_some y4 y5]; first | rw [if_neg c26] | rw [if_pos c26, if_pos c41] | (rw [if_pos c26, if_neg c41, nm]; rfl) | (rw [if_pos c26, if_neg c41, ym]; rfl) | exact absurd c91 (by decide) | exact absurd c91 (by omega)))
theorem ev_Fb_note {E : fg_E} {d : Nat} {μ : Nat → Nat → Int32} {R : fg_T4} {Q : Option Value → fg_M → Prop} {A : fg_Tl} (hA : fg_TL μ 101 A) {town day n person fact but : Nat} (htown : town < 2 ^ 32) (hday : day < 2 ^ 32) (hn : n < 2 ^ 32) (hperson : person < 2 ^ 32) (hfact : fact < 2 ^ 32) (hbut : but < 2 ^ 32) (hQ : ∀ (μ' : Nat → Nat → Int32) (R' : fg_T4), fg_agQ μ μ' → Q (some (.int (an_note A town day n person fact but))) (μ', fg_rho R', 304)) : fg_Ev E yy_Fb_note (d + 12) [.ref 100, .int (nI town), .int (nI day), .int (nI n), .int (nI person), .int (nI fact), .int (nI but)] (μ, fg_rho R, 304) 304 Q := by
  have ht2 := hA.2.2.2.1.2
  have hd3 := hA.2.2.2.2.1.2
  refine fg_intro (by decide +kernel) (Nat.le_of_ble_eq_true rfl) (fg_okAs rfl) (Nat.le_refl _) ?_
  refine fg_aloadn (fg_ft (pc := 0) tb_Fb_note 0 rfl) rfl ?_
  refine fg_iloadn (fg_ft (pc := 1) tb_Fb_note 1 rfl) rfl ?_
  refine fg_iloadn (fg_ft (pc := 2) tb_Fb_note 2 rfl) rfl ?_
  refine fg_iloadn (fg_ft (pc := 3) tb_Fb_note 3 rfl) rfl ?_
  refine fg_iload (fg_ft (pc := 4) tb_Fb_note 4 rfl) rfl ?_
  refine fg_callV (fg_ft (pc := 6) tb_Fb_note 5 rfl) cf_Fb_221 (fg_isOf ly_100 rfl (fg_lt ly_100 (by decide))) (as := [.int (nI town), .int (nI day), .int (nI n), .int (nI person)]) (st := []) rfl rfl (Nat.le_of_ble_eq_true rfl) (Nat.le_refl _) (Nat.le_refl _) (ev_Fb_findOne hA htown hday hn hperson (fun n4 μ1 R1 ho1 hR1 => ?_) (fun S lv y4 y5 μ1 ho1 hF1 => ?_))
  · refine fg_astoreN (fg_ft (pc := 9) tb_Fb_note 6 rfl) (Nat.le_of_ble_eq_true rfl) ?_
    refine fg_aloadN (fg_ft (pc := 11) tb_Fb_note 7 rfl) rfl ?_
    refine fg_ifnull (tgt := 49) (fg_ft (pc := 13) tb_Fb_note 8 rfl) (by decide) ?_
    refine fg_iconst (fg_ft (pc := 49) tb_Fb_note 22 rfl) ic_m1 ?_
    exact fg_iret (fg_ft (pc := 50) tb_Fb_note 23 rfl) rfl rfl (fg_q (hQ _ R1 (fg_agQ_F (Or.inl rfl) ho1)) (by unfold an_note; rw [fg_g1_none n4] <;> ((repeat (first | rw [if_pos (by assumption)] | rw [if_neg (by assumption)] | rw [if_pos (by omega)] | rw [if_neg (by omega)] | rw [if_pos (by constructor <;> assumption)] | rw [if_neg (by intro hh; exact absurd hh.1 (by assumption))] | rw [if_neg (by intro hh; exact absurd hh.2 (by assumption))])); (try rfl))))
  · have ytc := fg_fnd_t y4
    have hok := (hA.2.2.2.2.2.1 town ytc).2
    have ht : fg_isT (104 + 14 * town) := fg_isT_told (by omega)
    have hT1 := fg_TL.town hA (Or.inl rfl) ytc ho1
    have hz := fg_fnd_ok hA y4
    have hb0 := hok.1
    have hb1 := hok.2.1
    have hp := hok.p
    have hm2 := hz.2.1 person y5
    have hm0 : S.2.1.1 person < 2 ^ A.ts town 0 := hm2.1
    have hmc : fg_clsd (A.ts town) (S.2.1.1 person) := hm2.2
    have hm10 : S.2.1.1 person < 1024 := by omega
    refine fg_astore (fg_ft (pc := 9) tb_Fb_note 6 rfl) (Nat.le_of_ble_eq_true rfl) ?_
    refine fg_aload (fg_ft (pc := 11) tb_Fb_note 7 rfl) rfl ?_
    refine fg_ifnull_r (fg_ft (pc := 13) tb_Fb_note 8 rfl) ?_
    refine fg_aload (fg_ft (pc := 16) tb_Fb_note 9 rfl) rfl ?_
    refine fg_getR (fg_ft (pc := 18) tb_Fb_note 10 rfl) ff_Fb_194 ly_273 rfl (fg_lt ly_273 (by decide)) rfl ?_
    refine fg_iload (fg_ft (pc := 21) tb_Fb_note 11 rfl) rfl ?_
    refine fg_callV (fg_ft (pc := 23) tb_Fb_note 12 rfl) cf_Fb_164 (fg_isOf (tT_lay ht) rfl (fg_lt (tT_lay ht) (by decide))) (as := [.int (nI fact)]) (st := []) rfl rfl (Nat.le_of_ble_eq_true rfl) (Nat.le_refl _) (Nat.le_refl _) (ev_Town_hasFactX ht hT1 hok (k := fact) hfact ?_)
    refine fg_ifB_eq (tgt := 49) (fg_ft (pc := 26) tb_Fb_note 13 rfl) (by decide) (fun c26 => ?_) (fun c26 => ?_)
    · refine fg_iconst (fg_ft (pc := 49) tb_Fb_note 22 rfl) ic_m1 ?_
      exact fg_iret (fg_ft (pc := 50) tb_Fb_note 23 rfl) rfl rfl (fg_q (hQ _ (some (104 + 14 * town), R.2.1, R.2.2.1, R.2.2.2) (fg_agQ_F (Or.inl rfl) ho1)) (by unfold an_note; rw [fg_g1_some y4 y5] <;> ((repeat (first | rw [if_pos (by assumption)] | rw [if_neg (by assumption)] | rw [if_pos (by omega)] | rw [if_neg (by omega)] | rw [if_pos (by constructor <;> assumption)] | rw [if_neg (by intro hh; exact absurd hh.1 (by assumption))] | rw [if_neg (by intro hh; exact absurd hh.2 (by assumption))])); (try rfl))))
    · refine fg_aload (fg_ft (pc := 29) tb_Fb_note 14 rfl) rfl ?_
      refine fg_getR (fg_ft (pc := 31) tb_Fb_note 15 rfl) ff_Fb_194 ly_273 rfl (fg_lt ly_273 (by decide)) rfl ?_
      refine fg_iload (fg_ft (pc := 34) tb_Fb_note 16 rfl) rfl ?_
      refine fg_callV (fg_ft (pc := 36) tb_Fb_note 17 rfl) cf_Fb_164 (fg_isOf (tT_lay ht) rfl (fg_lt (tT_lay ht) (by decide))) (as := [.int (nI but)]) (st := []) rfl rfl (Nat.le_of_ble_eq_true rfl) (Nat.le_refl _) (Nat.le_refl _) (ev_Town_hasFactX ht hT1 hok (k := but) hbut ?_)
      refine fg_ifB_eq (tgt := 49) (fg_ft (pc := 39) tb_Fb_note 18 rfl) (by decide) (fun c39 => ?_) (fun c39 => ?_)
      · refine fg_iconst (fg_ft (pc := 49) tb_Fb_note 22 rfl) ic_m1 ?_
        exact fg_iret (fg_ft (pc := 50) tb_Fb_note 23 rfl) rfl rfl (fg_q (hQ _ (some (104 + 14 * town), R.2.1, R.2.2.1, R.2.2.2) (fg_agQ_F (Or.inl rfl) ho1)) (by unfold an_note; rw [fg_g1_some y4 y5] <;> ((repeat (first | rw [if_pos (by assumption)] | rw [if_neg (by assumption)] | rw [if_pos (by omega)] | rw [if_neg (by omega)] | rw [if_pos (by constructor <;> assumption)] | rw [if_neg (by intro hh; exact absurd hh.1 (by assumption))] | rw [if_neg (by intro hh; exact absurd hh.2 (by assumption))])); (try rfl))))
      · refine fg_iload (fg_ft (pc := 42) tb_Fb_note 19 rfl) rfl ?_
        refine fg_iload (fg_ft (pc := 44) tb_Fb_note 20 rfl) rfl ?_
        refine fg_icmp_neW (tgt := 51) (fg_ft (pc := 46) tb_Fb_note 21 rfl) (by decide) (hfact) (hbut) (fun c46 => ?_) (fun c46 => ?_)
        · refine fg_aload (fg_ft (pc := 51) tb_Fb_note 24 rfl) rfl ?_
          refine fg_iload (fg_ft (pc := 53) tb_Fb_note 25 rfl) rfl ?_
          refine fg_callV (fg_ft (pc := 55) tb_Fb_note 26 rfl) cf_Fb_181 (fg_isOf ly_273 rfl (fg_lt ly_273 (by decide))) (as := [.int (nI person)]) (st := []) rfl rfl (Nat.le_of_ble_eq_true rfl) (Nat.le_refl _) (Nat.le_refl _) (ev_Folk_mind ht hT1 hok (Or.inl rfl) rfl hF1 hz (p := person) (by omega) ?_)
          refine fg_istore (fg_ft (pc := 58) tb_Fb_note 27 rfl) (Nat.le_of_ble_eq_true rfl) ?_
          refine fg_iload (fg_ft (pc := 60) tb_Fb_note 28 rfl) rfl ?_
          refine fg_iload (fg_ft (pc := 62) tb_Fb_note 29 rfl) rfl ?_
          refine fg_callS (fg_ft (pc := 64) tb_Fb_note 30 rfl) cf_Fb_167 (as := [.int (nI (S.2.1.1 person)), .int (nI fact)]) (st := []) rfl rfl (Nat.le_of_ble_eq_true rfl) (Nat.le_refl _) (Nat.le_refl _) (ev_Fb_isInX (s := (S.2.1.1 person)) (k := fact) (by omega) hfact ?_)
          refine fg_ifB_eq (tgt := 72) (fg_ft (pc := 67) tb_Fb_note 31 rfl) (by decide) (fun c67 => ?_) (fun c67 => ?_)
          · have hq := Nat.two_pow_pos (A.ts town 0)
            refine fg_aload (fg_ft (pc := 72) tb_Fb_note 34 rfl) rfl ?_
            refine fg_getR (fg_ft (pc := 74) tb_Fb_note 35 rfl) ff_Fb_194 ly_273 rfl (fg_lt ly_273 (by decide)) rfl ?_
            refine fg_callV (fg_ft (pc := 77) tb_Fb_note 36 rfl) cf_Fb_318 (fg_isOf (tT_lay ht) rfl (fg_lt (tT_lay ht) (by decide))) (as := []) (st := []) rfl rfl (Nat.le_of_ble_eq_true rfl) (Nat.le_refl _) (Nat.le_refl _) (ev_Town_all ht hT1 hok ?_)
            refine fg_iload (fg_ft (pc := 80) tb_Fb_note 37 rfl) rfl ?_
            refine fg_iconst (fg_ft (pc := 82) tb_Fb_note 38 rfl) ic_m1 ?_
            refine fg_ixor (fg_ft (pc := 83) tb_Fb_note 39 rfl) ?_
            refine fg_iandD (fg_ft (pc := 84) tb_Fb_note 40 rfl) ?_
            refine fg_iconst (fg_ft (pc := 85) tb_Fb_note 41 rfl) ic_1 ?_
            refine fg_iload (fg_ft (pc := 86) tb_Fb_note 42 rfl) rfl ?_
            refine fg_ishl1 (fg_ft (pc := 88) tb_Fb_note 43 rfl) (by omega) ?_
            refine fg_iconst (fg_ft (pc := 89) tb_Fb_note 44 rfl) ic_m1 ?_
            refine fg_ixor (fg_ft (pc := 90) tb_Fb_note 45 rfl) ?_
            refine fg_iandD (fg_ft (pc := 91) tb_Fb_note 46 rfl) ?_
            refine fg_istore (fg_ft (pc := 92) tb_Fb_note 47 rfl) (Nat.le_of_ble_eq_true rfl) ?_
            refine fg_aload (fg_ft (pc := 94) tb_Fb_note 48 rfl) rfl ?_
            refine fg_getR (fg_ft (pc := 96) tb_Fb_note 49 rfl) ff_Fb_194 ly_273 rfl (fg_lt ly_273 (by decide)) rfl ?_
            refine fg_iload (fg_ft (pc := 99) tb_Fb_note 50 rfl) rfl ?_
            refine fg_iload (fg_ft (pc := 101) tb_Fb_note 51 rfl) rfl ?_
            refine fg_iconst (fg_ft (pc := 103) tb_Fb_note 52 rfl) ic_1 ?_
            refine fg_iload (fg_ft (pc := 104) tb_Fb_note 53 rfl) rfl ?_
            refine fg_ishl1 (fg_ft (pc := 106) tb_Fb_note 54 rfl) (by omega) ?_
            refine fg_iconst (fg_ft (pc := 107) tb_Fb_note 55 rfl) ic_1 ?_
            refine fg_iload (fg_ft (pc := 108) tb_Fb_note 56 rfl) rfl ?_
            refine fg_ishl1 (fg_ft (pc := 110) tb_Fb_note 57 rfl) (by omega) ?_
            refine fg_callV (fg_ft (pc := 111) tb_Fb_note 58 rfl) cf_Fb_311 (fg_isOf (tT_lay ht) rfl (fg_lt (tT_lay ht) (by decide))) (as := [.int (nI (fg_df (fg_df (2 ^ (A.ts town) 0 - 1) (S.2.1.1 person)) (2 ^ fact))), .int (nI (S.2.1.1 person)), .int (nI (2 ^ fact)), .int (nI (2 ^ but))]) (st := []) rfl rfl (Nat.le_of_ble_eq_true rfl) (Nat.le_refl _) (Nat.le_refl _) (ev_Town_fewest ht hT1 hok (pool := (fg_df (fg_df (2 ^ (A.ts town) 0 - 1) (S.2.1.1 person)) (2 ^ fact))) (mind := (S.2.1.1 person)) (need := (2 ^ fact)) (nt := (2 ^ but)) (fg_df_lt (fg_df_lt (by omega))) (by assumption) (fg_p2 c26 hok.1.2) (fg_p2 c39 hok.1.2) ?_)
            exact fg_iret (fg_ft (pc := 114) tb_Fb_note 59 rfl) rfl rfl (fg_q (hQ _ (some (104 + 14 * town), R.2.1, R.2.2.1, R.2.2.2) (fg_agQ_F (Or.inl rfl) ho1)) (by unfold an_note; rw [fg_g1_some y4 y5] <;> ((repeat (first | rw [if_pos (by assumption)] | rw [if_neg (by assumption)] | rw [if_pos (by omega)] | rw [if_neg (by omega)] | rw [if_pos (by constructor <;> assumption)] | rw [if_neg (by intro hh; exact absurd hh.1 (by assumption))] | rw [if_neg (by intro hh; exact absurd hh.2 (by assumption))])); (try rfl))))
          · refine fg_iconst (fg_ft (pc := 70) tb_Fb_note 32 rfl) ic_m1 ?_
            exact fg_iret (fg_ft (pc := 71) tb_Fb_note 33 rfl) rfl rfl (fg_q (hQ _ (some (104 + 14 * town), R.2.1, R.2.2.1, R.2.2.2) (fg_agQ_F (Or.inl rfl) ho1)) (by unfold an_note; rw [fg_g1_some y4 y5] <;> ((repeat (first | rw [if_pos (by assumption)] | rw [if_neg (by assumption)] | rw [if_pos (by omega)] | rw [if_neg (by omega)] | rw [if_pos (by constructor <;> assumption)] | rw [if_neg (by intro hh; exact absurd hh.1 (by assumption))] | rw [if_neg (by intro hh; exact absurd hh.2 (by assumption))])); (try rfl))))
        · refine fg_iconst (fg_ft (pc := 49) tb_Fb_note 22 rfl) ic_m1 ?_
          exact fg_iret (fg_ft (pc := 50) tb_Fb_note 23 rfl) rfl rfl (fg_q (hQ _ (some (104 + 14 * town), R.2.1, R.2.2.1, R.2.2.2) (fg_agQ_F (Or.inl rfl) ho1)) (by unfold an_note; rw [fg_g1_some y4 y5] <;> ((repeat (first | rw [if_pos (by assumption)] | rw [if_neg (by assumption)] | rw [if_pos (by omega)] | rw [if_neg (by omega)] | rw [if_pos (by constructor <;> assumption)] | rw [if_neg (by intro hh; exact absurd hh.1 (by assumption))] | rw [if_neg (by intro hh; exact absurd hh.2 (by assumption))])); (try rfl))))
