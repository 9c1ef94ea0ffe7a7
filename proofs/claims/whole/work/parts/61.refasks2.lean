section DV
variable {E : fg_E} {Y : fg_Y} {d n0 n1 : Nat} {Q : Option Value → fg_M → Prop} {pc : Nat} {L st : List Value} {M : fg_M}
theorem fg_idivN {a b : Nat} (hd : decode Y.2.1 pc = .ok (.idiv, 1)) (ha : a < 2 ^ 31) (hb : b < 2 ^ 31) (hn : ¬ nI b = 0) (k : fg_wp E Y d n0 n1 Q (pc + 1) L (.int (nI (a / b)) :: st) M) : fg_wp E Y d n0 n1 Q pc L (.int (nI b) :: .int (nI a) :: st) M := fg_idiv hd hn (by rw [nI_div ha hb]; exact k)
theorem fg_iremN {a b : Nat} (hd : decode Y.2.1 pc = .ok (.irem, 1)) (ha : a < 2 ^ 31) (hb : b < 2 ^ 31) (hn : ¬ nI b = 0) (k : fg_wp E Y d n0 n1 Q (pc + 1) L (.int (nI (a % b)) :: st) M) : fg_wp E Y d n0 n1 Q pc L (.int (nI b) :: .int (nI a) :: st) M := fg_irem hd hn (by rw [nI_rem ha hb]; exact k)
end DV
theorem fg_g1_cst {A : fg_Tl} {town day n person : Nat} {x : Int32} {f : (Nat → Nat) → fg_H3 → (Nat → Nat) → Int32} (h : ∀ T S lv, f T S lv = x) : fg_g1 A town day n person x f = x := by
  unfold fg_g1
  split
  · rfl
  · exact h _ _ _
theorem fg_g0_cst {A : fg_Tl} {town day n : Nat} {x : Int32} {f : (Nat → Nat) → fg_H3 → (Nat → Nat) → Int32} (h : ∀ T S lv, f T S lv = x) : fg_g0 A town day n x f = x := by
  unfold fg_g0
  split
  · rfl
  · exact h _ _ _
theorem ev_Mo_fault {E : fg_E} {d : Nat} {μ : Nat → Nat → Int32} {R : fg_T4} {Q : Option Value → fg_M → Prop} {A : fg_Tl} (hL : fg_ML (μ 288) A) (hw : fg_wA A) (h17 : μ 287 17 = -1) (h19 : μ 287 19 = nI 0) {what : Nat} (hwhat : what < 2 ^ 32) (hQ : ∀ μ' : Nat → Nat → Int32, fg_agR μ μ' → Q (some (.int (an_fault A what))) (μ', fg_rho R, 304)) : fg_Ev E yy_Mo_fault (d + 12) [.ref 287, .int (nI what)] (μ, fg_rho R, 304) 304 Q := by
  have ht2 := hw.2.1
  have hd3 := hw.2.2.1
  refine fg_intro (by decide +kernel) (Nat.le_of_ble_eq_true rfl) (fg_okAs rfl) (Nat.le_refl _) ?_
  refine fg_iloadn (fg_ft (pc := 0) tb_Mo_fault 0 rfl) rfl ?_
  refine fg_if_neW (tgt := 13) (fg_ft (pc := 1) tb_Mo_fault 1 rfl) (by decide) (hwhat) (fun c1 => ?_) (fun c1 => ?_)
  · refine fg_iloadn (fg_ft (pc := 13) tb_Mo_fault 7 rfl) rfl ?_
    refine fg_iconst (fg_ft (pc := 14) tb_Mo_fault 8 rfl) ic_1 ?_
    refine fg_icmp_neW (tgt := 27) (fg_ft (pc := 15) tb_Mo_fault 9 rfl) (by decide) (hwhat) (by decide) (fun c15 => ?_) (fun c15 => ?_)
    · refine fg_iconst (fg_ft (pc := 27) tb_Mo_fault 15 rfl) ic_m1 ?_
      exact fg_iret (fg_ft (pc := 28) tb_Mo_fault 16 rfl) rfl rfl (fg_q (hQ _ (fg_agR_rf μ)) (by unfold an_fault; ((repeat (first | rw [if_pos (by assumption)] | rw [if_neg (by assumption)] | rw [if_pos (by omega)] | rw [if_neg (by omega)] | rw [if_pos (by constructor <;> assumption)] | rw [if_neg (by intro hh; exact absurd hh.1 (by assumption))] | rw [if_neg (by intro hh; exact absurd hh.2 (by assumption))])); (try rfl))))
    · refine fg_aloadn (fg_ft (pc := 18) tb_Mo_fault 10 rfl) rfl ?_
      refine fg_getR (fg_ft (pc := 19) tb_Mo_fault 11 rfl) ff_Mo_7 ly_287 rfl (fg_lt ly_287 (by decide)) (rh_287_0 R) ?_
      refine fg_iconst (fg_ft (pc := 22) tb_Mo_fault 12 rfl) ic_4 ?_
      refine fg_ialdV (v := (A.place)) (fg_ft (pc := 23) tb_Mo_fault 13 rfl) ly_288 (fg_lt ly_288 (by decide)) (by omega) hL.1.2.2.2.2 ?_
      refine fg_goto (tgt := 28) (fg_ft (pc := 24) tb_Mo_fault 14 rfl) (by decide) ?_
      exact fg_iret (fg_ft (pc := 28) tb_Mo_fault 16 rfl) rfl rfl (fg_q (hQ _ (fg_agR_rf μ)) (by unfold an_fault; ((repeat (first | rw [if_pos (by assumption)] | rw [if_neg (by assumption)] | rw [if_pos (by omega)] | rw [if_neg (by omega)] | rw [if_pos (by constructor <;> assumption)] | rw [if_neg (by intro hh; exact absurd hh.1 (by assumption))] | rw [if_neg (by intro hh; exact absurd hh.2 (by assumption))])); (try rfl))))
  · refine fg_aloadn (fg_ft (pc := 4) tb_Mo_fault 2 rfl) rfl ?_
    refine fg_getR (fg_ft (pc := 5) tb_Mo_fault 3 rfl) ff_Mo_7 ly_287 rfl (fg_lt ly_287 (by decide)) (rh_287_0 R) ?_
    refine fg_iconst (fg_ft (pc := 8) tb_Mo_fault 4 rfl) ic_3 ?_
    refine fg_ialdV (v := (nI (A.fault))) (fg_ft (pc := 9) tb_Mo_fault 5 rfl) ly_288 (fg_lt ly_288 (by decide)) (by omega) hL.1.2.2.2.1 ?_
    refine fg_goto (tgt := 28) (fg_ft (pc := 10) tb_Mo_fault 6 rfl) (by decide) ?_
    exact fg_iret (fg_ft (pc := 28) tb_Mo_fault 16 rfl) rfl rfl (fg_q (hQ _ (fg_agR_rf μ)) (by unfold an_fault; ((repeat (first | rw [if_pos (by assumption)] | rw [if_neg (by assumption)] | rw [if_pos (by omega)] | rw [if_neg (by omega)] | rw [if_pos (by constructor <;> assumption)] | rw [if_neg (by intro hh; exact absurd hh.1 (by assumption))] | rw [if_neg (by intro hh; exact absurd hh.2 (by assumption))])); (try rfl))))
theorem ev_Mo_count {E : fg_E} {d : Nat} {μ : Nat → Nat → Int32} {R : fg_T4} {Q : Option Value → fg_M → Prop} {A : fg_Tl} (hL : fg_ML (μ 288) A) (hw : fg_wA A) (h17 : μ 287 17 = -1) (h19 : μ 287 19 = nI 0) {what : Nat} (hwhat : what < 2 ^ 32) (hQ : ∀ μ' : Nat → Nat → Int32, fg_agR μ μ' → Q (some (.int (an_count A what))) (μ', fg_rho R, 304)) : fg_Ev E yy_Mo_count (d + 12) [.ref 287, .int (nI what)] (μ, fg_rho R, 304) 304 Q := by
  have ht2 := hw.2.1
  have hd3 := hw.2.2.1
  refine fg_intro (by decide +kernel) (Nat.le_of_ble_eq_true rfl) (fg_okAs rfl) (Nat.le_refl _) ?_
  refine fg_iloadn (fg_ft (pc := 0) tb_Mo_count 0 rfl) rfl ?_
  refine fg_iconst (fg_ft (pc := 1) tb_Mo_count 1 rfl) ic_0 ?_
  refine fg_iconst (fg_ft (pc := 2) tb_Mo_count 2 rfl) ic_1 ?_
  refine fg_callS (fg_ft (pc := 3) tb_Mo_count 3 rfl) cf_Mo_110 (as := [.int (nI what), .int (nI 0), .int (nI 1)]) (st := []) rfl rfl (Nat.le_of_ble_eq_true rfl) (Nat.le_refl _) (Nat.le_refl _) (ev_Mo_isInC (k := what) (a := 0) (b := 1) (hwhat) (by omega) (by omega) ?_)
  refine fg_ifB_eq (tgt := 18) (fg_ft (pc := 6) tb_Mo_count 4 rfl) (by decide) (fun c6 => ?_) (fun c6 => ?_)
  · refine fg_bipush (fg_ft (pc := 18) tb_Mo_count 10 rfl) ib_m2 ?_
    exact fg_iret (fg_ft (pc := 20) tb_Mo_count 11 rfl) rfl rfl (fg_q (hQ _ (fg_agR_rf μ)) (by unfold an_count; first | (rw [if_neg (by omega), if_neg (by omega)]; done) | (rcases (show what = 0 ∨ what = 1 by omega) with rfl | rfl; (rw [if_pos rfl]; exact hL.1.1.symm); (rw [if_neg (by decide), if_pos rfl]; exact hL.1.2.1.symm))))
  · refine fg_aloadn (fg_ft (pc := 9) tb_Mo_count 5 rfl) rfl ?_
    refine fg_getR (fg_ft (pc := 10) tb_Mo_count 6 rfl) ff_Mo_7 ly_287 rfl (fg_lt ly_287 (by decide)) (rh_287_0 R) ?_
    refine fg_iloadn (fg_ft (pc := 13) tb_Mo_count 7 rfl) rfl ?_
    refine fg_ialdN (fg_ft (pc := 14) tb_Mo_count 8 rfl) ly_288 (fg_lt ly_288 (by decide)) (by omega) ?_
    refine fg_goto (tgt := 20) (fg_ft (pc := 15) tb_Mo_count 9 rfl) (by decide) ?_
    exact fg_iret (fg_ft (pc := 20) tb_Mo_count 11 rfl) rfl rfl (fg_q (hQ _ (fg_agR_rf μ)) (by unfold an_count; first | (rw [if_neg (by omega), if_neg (by omega)]; done) | (rcases (show what = 0 ∨ what = 1 by omega) with rfl | rfl; (rw [if_pos rfl]; exact hL.1.1.symm); (rw [if_neg (by decide), if_pos rfl]; exact hL.1.2.1.symm))))
theorem fg_df_zero {a : Nat} : fg_df a 0 = a := by
  apply Nat.eq_of_testBit_eq
  intro i
  rw [fg_df_bit, Nat.zero_testBit, Bool.not_false, Bool.and_true]
theorem ev_Mo_lonely {E : fg_E} {d : Nat} {μ : Nat → Nat → Int32} {R : fg_T4} {Q : Option Value → fg_M → Prop} {v : Nat} {T : Nat → Nat} (hM : fg_MT (μ 288) v T) (hok : fg_ok T) (hQ : Q (some (.int (nI (fg_df (2 ^ T 0 - 1) (fg_tol T (T 1)))))) (μ, fg_rho R, 304))  : fg_Ev E yy_Mo_lonely (d + 2) [.ref 287, .int (nI v)] (μ, fg_rho R, 304) 304 Q := by
  have hv0 := hM.1
  have hb0 := hok.1
  have hb1 := hok.2.1
  have hp := hok.p
  have hq := Nat.two_pow_pos (T 0)
  have loop : ∀ (n k a : Nat), T 1 - k < n → k ≤ T 1 → a = fg_df (2 ^ T 0 - 1) (fg_tol T k) → fg_wp E yy_Mo_lonely (d + 2) 304 304 Q 8 [.ref 287, .int (nI v), .int (nI a), .int (nI k)] [] (μ, fg_rho R, 304) := by
    intro n
    induction n with
    | zero => intro k a h; exact absurd h (Nat.not_lt_zero _)
    | succ n ih =>
      intro k a hn hk ha
      refine fg_iloadn (fg_ft (pc := 8) tb_Mo_lonely 6 rfl) rfl ?_
      refine fg_aloadn (fg_ft (pc := 9) tb_Mo_lonely 7 rfl) rfl ?_
      refine fg_getR (fg_ft (pc := 10) tb_Mo_lonely 8 rfl) ff_Mo_7 ly_287 rfl (fg_lt ly_287 (by decide)) (rh_287_0 R) ?_
      refine fg_iloadn (fg_ft (pc := 13) tb_Mo_lonely 9 rfl) rfl ?_
      refine fg_iconst (fg_ft (pc := 14) tb_Mo_lonely 10 rfl) ic_1 ?_
      refine fg_iaddN (fg_ft (pc := 15) tb_Mo_lonely 11 rfl) ?_
      refine fg_ialdV (v := (nI (T 1))) (fg_ft (pc := 16) tb_Mo_lonely 12 rfl) ly_288 (fg_lt ly_288 (by decide)) (by omega) (fg_MTat hM (i := v + 1) (k := 1) (by omega) (by omega)) ?_
      refine fg_icmp_geN (tgt := 62) (fg_ft (pc := 17) tb_Mo_lonely 13 rfl) (by decide) (by omega) (by omega) (fun c17 => ?_) (fun c17 => ?_)
      · refine fg_iloadn (fg_ft (pc := 62) tb_Mo_lonely 46 rfl) rfl ?_
        exact fg_iret (fg_ft (pc := 63) tb_Mo_lonely 47 rfl) rfl rfl (by rw [ha, show k = T 1 by omega]; exact hQ)
      · refine fg_iloadn (fg_ft (pc := 20) tb_Mo_lonely 14 rfl) rfl ?_
        refine fg_iconst (fg_ft (pc := 21) tb_Mo_lonely 15 rfl) ic_1 ?_
        refine fg_aloadn (fg_ft (pc := 22) tb_Mo_lonely 16 rfl) rfl ?_
        refine fg_getR (fg_ft (pc := 23) tb_Mo_lonely 17 rfl) ff_Mo_7 ly_287 rfl (fg_lt ly_287 (by decide)) (rh_287_0 R) ?_
        refine fg_iloadn (fg_ft (pc := 26) tb_Mo_lonely 18 rfl) rfl ?_
        refine fg_bipush (fg_ft (pc := 27) tb_Mo_lonely 19 rfl) ib_8 ?_
        refine fg_iaddN (fg_ft (pc := 29) tb_Mo_lonely 20 rfl) ?_
        refine fg_iconst (fg_ft (pc := 30) tb_Mo_lonely 21 rfl) ic_2 ?_
        refine fg_iloadn (fg_ft (pc := 31) tb_Mo_lonely 22 rfl) rfl ?_
        refine fg_imulN (fg_ft (pc := 32) tb_Mo_lonely 23 rfl) ?_
        refine fg_iaddN (fg_ft (pc := 33) tb_Mo_lonely 24 rfl) ?_
        refine fg_ialdV (v := (nI (T (8 + 2 * k)))) (fg_ft (pc := 34) tb_Mo_lonely 25 rfl) ly_288 (fg_lt ly_288 (by decide)) (by omega) (fg_MTat hM (i := (v + 8) + (2 * k)) (k := 8 + 2 * k) (by omega) (by omega)) ?_
        refine fg_ishl1 (fg_ft (pc := 35) tb_Mo_lonely 26 rfl) (by have := (hok.2.2.1 k (by omega)).1; omega) ?_
        refine fg_aloadn (fg_ft (pc := 36) tb_Mo_lonely 27 rfl) rfl ?_
        refine fg_getR (fg_ft (pc := 37) tb_Mo_lonely 28 rfl) ff_Mo_7 ly_287 rfl (fg_lt ly_287 (by decide)) (rh_287_0 R) ?_
        refine fg_iloadn (fg_ft (pc := 40) tb_Mo_lonely 29 rfl) rfl ?_
        refine fg_bipush (fg_ft (pc := 41) tb_Mo_lonely 30 rfl) ib_8 ?_
        refine fg_iaddN (fg_ft (pc := 43) tb_Mo_lonely 31 rfl) ?_
        refine fg_iconst (fg_ft (pc := 44) tb_Mo_lonely 32 rfl) ic_2 ?_
        refine fg_iloadn (fg_ft (pc := 45) tb_Mo_lonely 33 rfl) rfl ?_
        refine fg_imulN (fg_ft (pc := 46) tb_Mo_lonely 34 rfl) ?_
        refine fg_iaddN (fg_ft (pc := 47) tb_Mo_lonely 35 rfl) ?_
        refine fg_iconst (fg_ft (pc := 48) tb_Mo_lonely 36 rfl) ic_1 ?_
        refine fg_iaddN (fg_ft (pc := 49) tb_Mo_lonely 37 rfl) ?_
        refine fg_ialdV (v := (nI (T (9 + 2 * k)))) (fg_ft (pc := 50) tb_Mo_lonely 38 rfl) ly_288 (fg_lt ly_288 (by decide)) (by omega) (fg_MTat hM (i := ((v + 8) + (2 * k)) + 1) (k := 9 + 2 * k) (by omega) (by omega)) ?_
        refine fg_iorN (fg_ft (pc := 51) tb_Mo_lonely 39 rfl) ?_
        refine fg_iconst (fg_ft (pc := 52) tb_Mo_lonely 40 rfl) ic_m1 ?_
        refine fg_ixor (fg_ft (pc := 53) tb_Mo_lonely 41 rfl) ?_
        refine fg_iandD (fg_ft (pc := 54) tb_Mo_lonely 42 rfl) ?_
        refine fg_istoren (fg_ft (pc := 55) tb_Mo_lonely 43 rfl) (Nat.le_of_ble_eq_true rfl) ?_
        refine fg_iincN (fg_ft (pc := 56) tb_Mo_lonely 44 rfl) rfl ic_1 rfl ?_
        refine fg_goto (tgt := 8) (fg_ft (pc := 59) tb_Mo_lonely 45 rfl) (by decide) ?_
        exact ih (k + 1) _ (by omega) (by omega) (by rw [ha, ← fg_df_or2]; rfl)
  refine fg_intro (by decide +kernel) (Nat.le_of_ble_eq_true rfl) (fg_okAs rfl) (Nat.le_refl _) ?_
  refine fg_aloadn (fg_ft (pc := 0) tb_Mo_lonely 0 rfl) rfl ?_
  refine fg_iloadn (fg_ft (pc := 1) tb_Mo_lonely 1 rfl) rfl ?_
  refine fg_callV (fg_ft (pc := 2) tb_Mo_lonely 2 rfl) cf_Mo_169 (fg_isOf ly_287 rfl (fg_lt ly_287 (by decide))) (as := [.int (nI v)]) (st := []) rfl rfl (Nat.le_of_ble_eq_true rfl) (Nat.le_refl _) (Nat.le_refl _) (ev_Mo_wholeOf hM hok ?_)
  refine fg_istoren (fg_ft (pc := 5) tb_Mo_lonely 3 rfl) (Nat.le_of_ble_eq_true rfl) ?_
  refine fg_iconst (fg_ft (pc := 6) tb_Mo_lonely 4 rfl) ic_0 ?_
  refine fg_istoren (fg_ft (pc := 7) tb_Mo_lonely 5 rfl) (Nat.le_of_ble_eq_true rfl) ?_
  exact loop (T 1 + 1) 0 _ (by omega) (by omega) fg_df_zero.symm
theorem ev_Mo_town {E : fg_E} {d : Nat} {μ : Nat → Nat → Int32} {R : fg_T4} {Q : Option Value → fg_M → Prop} {A : fg_Tl} (hL : fg_ML (μ 288) A) (hw : fg_wA A) (h17 : μ 287 17 = -1) (h19 : μ 287 19 = nI 0) {town what : Nat} (htown : town < 2 ^ 32) (hwhat : what < 2 ^ 32) (hQ : ∀ μ' : Nat → Nat → Int32, fg_agR μ μ' → Q (some (.int (an_town A town what))) (μ', fg_rho R, 304)) : fg_Ev E yy_Mo_town (d + 12) [.ref 287, .int (nI town), .int (nI what)] (μ, fg_rho R, 304) 304 Q := by
  have ht2 := hw.2.1
  have hd3 := hw.2.2.1
  refine fg_intro (by decide +kernel) (Nat.le_of_ble_eq_true rfl) (fg_okAs rfl) (Nat.le_refl _) ?_
  refine fg_aloadn (fg_ft (pc := 0) tb_Mo_town 0 rfl) rfl ?_
  refine fg_iconst (fg_ft (pc := 1) tb_Mo_town 1 rfl) ic_0 ?_
  refine fg_iloadn (fg_ft (pc := 2) tb_Mo_town 2 rfl) rfl ?_
  refine fg_callV (fg_ft (pc := 3) tb_Mo_town 3 rfl) cf_Mo_156 (fg_isOf ly_287 rfl (fg_lt ly_287 (by decide))) (as := [.int (nI 0), .int (nI town)]) (st := []) rfl rfl (Nat.le_of_ble_eq_true rfl) (Nat.le_refl _) (Nat.le_refl _) (ev_Mo_isOf0 hL hw (k := town) (htown) ?_)
  refine fg_ifB_ne (tgt := 11) (fg_ft (pc := 6) tb_Mo_town 4 rfl) (by decide) (fun c6 => ?_) (fun c6 => ?_)
  · have hok := hw.2.2.2.1 town c6
    have hM0 := hL.2.2.1 town c6
    have hv0 := hM0.1
    refine fg_iconst (fg_ft (pc := 11) tb_Mo_town 7 rfl) ic_0 ?_
    refine fg_iloadn (fg_ft (pc := 12) tb_Mo_town 8 rfl) rfl ?_
    refine fg_callS (fg_ft (pc := 13) tb_Mo_town 9 rfl) cf_Mo_166 (as := [.int (nI 0), .int (nI town)]) (st := []) rfl rfl (Nat.le_of_ble_eq_true rfl) (Nat.le_refl _) (Nat.le_refl _) (ev_Mo_placeOf0 (k := town) ?_)
    refine fg_istoren (fg_ft (pc := 16) tb_Mo_town 10 rfl) (Nat.le_of_ble_eq_true rfl) ?_
    refine fg_iloadn (fg_ft (pc := 17) tb_Mo_town 11 rfl) rfl ?_
    refine fg_bipush (fg_ft (pc := 18) tb_Mo_town 12 rfl) ib_8 ?_
    refine fg_icmp_neW (tgt := 31) (fg_ft (pc := 20) tb_Mo_town 13 rfl) (by decide) (hwhat) (by decide) (fun c20 => ?_) (fun c20 => ?_)
    · refine fg_iloadn (fg_ft (pc := 31) tb_Mo_town 18 rfl) rfl ?_
      refine fg_iconst (fg_ft (pc := 32) tb_Mo_town 19 rfl) ic_0 ?_
      refine fg_bipush (fg_ft (pc := 33) tb_Mo_town 20 rfl) ib_7 ?_
      refine fg_callS (fg_ft (pc := 35) tb_Mo_town 21 rfl) cf_Mo_110 (as := [.int (nI what), .int (nI 0), .int (nI 7)]) (st := []) rfl rfl (Nat.le_of_ble_eq_true rfl) (Nat.le_refl _) (Nat.le_refl _) (ev_Mo_isInC (k := what) (a := 0) (b := 7) (hwhat) (by omega) (by omega) ?_)
      refine fg_ifB_eq (tgt := 52) (fg_ft (pc := 38) tb_Mo_town 22 rfl) (by decide) (fun c38 => ?_) (fun c38 => ?_)
      · refine fg_iconst (fg_ft (pc := 52) tb_Mo_town 30 rfl) ic_m1 ?_
        exact fg_iret (fg_ft (pc := 53) tb_Mo_town 31 rfl) rfl rfl (fg_q (hQ _ (fg_agR_rf μ)) (by unfold an_town; first | (rw [if_neg c6]; done) | (rw [if_pos c6, if_neg (show ¬ what < 8 by omega), if_pos c20]; done) | (rw [if_pos c6, if_pos (show what < 8 by omega)]; done) | (rw [if_pos c6, if_neg (show ¬ what < 8 by omega), if_neg c20]; done)))
      · refine fg_aloadn (fg_ft (pc := 41) tb_Mo_town 23 rfl) rfl ?_
        refine fg_getR (fg_ft (pc := 42) tb_Mo_town 24 rfl) ff_Mo_7 ly_287 rfl (fg_lt ly_287 (by decide)) (rh_287_0 R) ?_
        refine fg_iloadn (fg_ft (pc := 45) tb_Mo_town 25 rfl) rfl ?_
        refine fg_iloadn (fg_ft (pc := 46) tb_Mo_town 26 rfl) rfl ?_
        refine fg_iaddN (fg_ft (pc := 47) tb_Mo_town 27 rfl) ?_
        refine fg_ialdV (v := (nI ((A.ts town) what))) (fg_ft (pc := 48) tb_Mo_town 28 rfl) ly_288 (fg_lt ly_288 (by decide)) (by omega) (fg_MTat hM0 (i := (610 + 152 * town) + what) (k := what) (by omega) (by omega)) ?_
        refine fg_goto (tgt := 53) (fg_ft (pc := 49) tb_Mo_town 29 rfl) (by decide) ?_
        exact fg_iret (fg_ft (pc := 53) tb_Mo_town 31 rfl) rfl rfl (fg_q (hQ _ (fg_agR_rf μ)) (by unfold an_town; first | (rw [if_neg c6]; done) | (rw [if_pos c6, if_neg (show ¬ what < 8 by omega), if_pos c20]; done) | (rw [if_pos c6, if_pos (show what < 8 by omega)]; done) | (rw [if_pos c6, if_neg (show ¬ what < 8 by omega), if_neg c20]; done)))
    · refine fg_aloadn (fg_ft (pc := 23) tb_Mo_town 14 rfl) rfl ?_
      refine fg_iloadn (fg_ft (pc := 24) tb_Mo_town 15 rfl) rfl ?_
      refine fg_callV (fg_ft (pc := 25) tb_Mo_town 16 rfl) cf_Mo_172 (fg_isOf ly_287 rfl (fg_lt ly_287 (by decide))) (as := [.int (nI (610 + 152 * town))]) (st := []) rfl rfl (Nat.le_of_ble_eq_true rfl) (Nat.le_refl _) (Nat.le_refl _) (ev_Mo_lonely hM0 hok ?_)
      refine fg_goto (tgt := 53) (fg_ft (pc := 28) tb_Mo_town 17 rfl) (by decide) ?_
      exact fg_iret (fg_ft (pc := 53) tb_Mo_town 31 rfl) rfl rfl (fg_q (hQ _ (fg_agR_rf μ)) (by unfold an_town; first | (rw [if_neg c6]; done) | (rw [if_pos c6, if_neg (show ¬ what < 8 by omega), if_pos c20]; done) | (rw [if_pos c6, if_pos (show what < 8 by omega)]; done) | (rw [if_pos c6, if_neg (show ¬ what < 8 by omega), if_neg c20]; done)))
  · refine fg_iconst (fg_ft (pc := 9) tb_Mo_town 5 rfl) ic_m1 ?_
    exact fg_iret (fg_ft (pc := 10) tb_Mo_town 6 rfl) rfl rfl (fg_q (hQ _ (fg_agR_rf μ)) (by unfold an_town; first | (rw [if_neg c6]; done) | (rw [if_pos c6, if_neg (show ¬ what < 8 by omega), if_pos c20]; done) | (rw [if_pos c6, if_pos (show what < 8 by omega)]; done) | (rw [if_pos c6, if_neg (show ¬ what < 8 by omega), if_neg c20]; done)))
theorem ev_Mo_thing1 {E : fg_E} {d : Nat} {μ : Nat → Nat → Int32} {R : fg_T4} {Q : Option Value → fg_M → Prop} {A : fg_Tl} (hL : fg_ML (μ 288) A) (hw : fg_wA A) {town k what : Nat} (htown : town < 2 ^ 32) (hk : k < 2 ^ 32) (hwhat : what < 2 ^ 32) (hQ : ∀ μ' : Nat → Nat → Int32, fg_agR μ μ' → Q (some (.int (fg_thg A town 1 8 2 k what))) (μ', fg_rho R, 304)) : fg_Ev E yy_Mo_thing (d + 4) [.ref 287, .int (nI town), .int (nI 1), .int (nI 8), .int (nI 2), .int (nI k), .int (nI what)] (μ, fg_rho R, 304) 304 Q := by
  have ht2 := hw.2.1
  have hd3 := hw.2.2.1
  refine fg_intro (by decide +kernel) (Nat.le_of_ble_eq_true rfl) (fg_okAs rfl) (Nat.le_refl _) ?_
  refine fg_aloadn (fg_ft (pc := 0) tb_Mo_thing 0 rfl) rfl ?_
  refine fg_iconst (fg_ft (pc := 1) tb_Mo_thing 1 rfl) ic_0 ?_
  refine fg_iloadn (fg_ft (pc := 2) tb_Mo_thing 2 rfl) rfl ?_
  refine fg_callV (fg_ft (pc := 3) tb_Mo_thing 3 rfl) cf_Mo_156 (fg_isOf ly_287 rfl (fg_lt ly_287 (by decide))) (as := [.int (nI 0), .int (nI town)]) (st := []) rfl rfl (Nat.le_of_ble_eq_true rfl) (Nat.le_refl _) (Nat.le_refl _) (ev_Mo_isOf0 hL hw (k := town) (htown) ?_)
  refine fg_ifB_eq (tgt := 45) (fg_ft (pc := 6) tb_Mo_thing 4 rfl) (by decide) (fun c6 => ?_) (fun c6 => ?_)
  · refine fg_iconst (fg_ft (pc := 45) tb_Mo_thing 26 rfl) ic_m1 ?_
    exact fg_iret (fg_ft (pc := 46) tb_Mo_thing 27 rfl) rfl rfl (fg_q (hQ _ (fg_agR_rf μ)) (by unfold fg_thg; first | (rw [if_neg c6]; done) | (rw [if_pos c6, if_neg (fun hh => c29 hh.1)]; done) | (rw [if_pos c6, if_neg (fun hh => c42 hh.2)]; done) | (rw [if_pos c6, if_pos ⟨c29, c42⟩, Nat.mul_comm k 2]; done) | (rw [if_pos c6, if_pos ⟨c29, c42⟩]; done)))
  · have hok := hw.2.2.2.1 town c6
    have hM0 := hL.2.2.1 town c6
    have hv0 := hM0.1
    have hb1 := hok.2.1
    refine fg_iload (fg_ft (pc := 9) tb_Mo_thing 5 rfl) rfl ?_
    refine fg_iconst (fg_ft (pc := 11) tb_Mo_thing 6 rfl) ic_0 ?_
    refine fg_aloadn (fg_ft (pc := 12) tb_Mo_thing 7 rfl) rfl ?_
    refine fg_getR (fg_ft (pc := 13) tb_Mo_thing 8 rfl) ff_Mo_7 ly_287 rfl (fg_lt ly_287 (by decide)) (rh_287_0 R) ?_
    refine fg_iconst (fg_ft (pc := 16) tb_Mo_thing 9 rfl) ic_0 ?_
    refine fg_iloadn (fg_ft (pc := 17) tb_Mo_thing 10 rfl) rfl ?_
    refine fg_callS (fg_ft (pc := 18) tb_Mo_thing 11 rfl) cf_Mo_166 (as := [.int (nI 0), .int (nI town)]) (st := [.ref 288, .int (nI 0), .int (nI k)]) rfl rfl (Nat.le_of_ble_eq_true rfl) (Nat.le_refl _) (Nat.le_refl _) (ev_Mo_placeOf0 (k := town) ?_)
    refine fg_iloadn (fg_ft (pc := 21) tb_Mo_thing 12 rfl) rfl ?_
    refine fg_iaddN (fg_ft (pc := 22) tb_Mo_thing 13 rfl) ?_
    refine fg_ialdV (v := (nI ((A.ts town) 1))) (fg_ft (pc := 23) tb_Mo_thing 14 rfl) ly_288 (fg_lt ly_288 (by decide)) (by omega) (fg_MTat hM0 (i := (610 + 152 * town) + 1) (k := 1) (by omega) (by omega)) ?_
    refine fg_iconst (fg_ft (pc := 24) tb_Mo_thing 15 rfl) ic_1 ?_
    refine fg_isub (fg_ft (pc := 25) tb_Mo_thing 16 rfl) ?_
    refine fg_callS (fg_ft (pc := 26) tb_Mo_thing 17 rfl) cf_Mo_110 (as := [.int (nI k), .int (nI 0), .int ((nI ((A.ts town) 1)) - (nI 1))]) (st := []) rfl rfl (Nat.le_of_ble_eq_true rfl) (Nat.le_refl _) (Nat.le_refl _) (ev_Mo_isIn0 (k := k) (c := ((A.ts town) 1)) (hk) (by omega) ?_)
    refine fg_ifB_eq (tgt := 45) (fg_ft (pc := 29) tb_Mo_thing 18 rfl) (by decide) (fun c29 => ?_) (fun c29 => ?_)
    · refine fg_iconst (fg_ft (pc := 45) tb_Mo_thing 26 rfl) ic_m1 ?_
      exact fg_iret (fg_ft (pc := 46) tb_Mo_thing 27 rfl) rfl rfl (fg_q (hQ _ (fg_agR_rf μ)) (by unfold fg_thg; first | (rw [if_neg c6]; done) | (rw [if_pos c6, if_neg (fun hh => c29 hh.1)]; done) | (rw [if_pos c6, if_neg (fun hh => c42 hh.2)]; done) | (rw [if_pos c6, if_pos ⟨c29, c42⟩, Nat.mul_comm k 2]; done) | (rw [if_pos c6, if_pos ⟨c29, c42⟩]; done)))
    · refine fg_iload (fg_ft (pc := 32) tb_Mo_thing 19 rfl) rfl ?_
      refine fg_iconst (fg_ft (pc := 34) tb_Mo_thing 20 rfl) ic_0 ?_
      refine fg_iload (fg_ft (pc := 35) tb_Mo_thing 21 rfl) rfl ?_
      refine fg_iconst (fg_ft (pc := 37) tb_Mo_thing 22 rfl) ic_1 ?_
      refine fg_isub (fg_ft (pc := 38) tb_Mo_thing 23 rfl) ?_
      refine fg_callS (fg_ft (pc := 39) tb_Mo_thing 24 rfl) cf_Mo_110 (as := [.int (nI what), .int (nI 0), .int ((nI 2) - (nI 1))]) (st := []) rfl rfl (Nat.le_of_ble_eq_true rfl) (Nat.le_refl _) (Nat.le_refl _) (ev_Mo_isIn0 (k := what) (c := 2) hwhat (by decide) ?_)
      refine fg_ifB_ne (tgt := 47) (fg_ft (pc := 42) tb_Mo_thing 25 rfl) (by decide) (fun c42 => ?_) (fun c42 => ?_)
      · have hcb : k < A.ts town 1 := c29
        refine fg_aloadn (fg_ft (pc := 47) tb_Mo_thing 28 rfl) rfl ?_
        refine fg_getR (fg_ft (pc := 48) tb_Mo_thing 29 rfl) ff_Mo_7 ly_287 rfl (fg_lt ly_287 (by decide)) (rh_287_0 R) ?_
        refine fg_iconst (fg_ft (pc := 51) tb_Mo_thing 30 rfl) ic_0 ?_
        refine fg_iloadn (fg_ft (pc := 52) tb_Mo_thing 31 rfl) rfl ?_
        refine fg_callS (fg_ft (pc := 53) tb_Mo_thing 32 rfl) cf_Mo_166 (as := [.int (nI 0), .int (nI town)]) (st := [.ref 288]) rfl rfl (Nat.le_of_ble_eq_true rfl) (Nat.le_refl _) (Nat.le_refl _) (ev_Mo_placeOf0 (k := town) ?_)
        refine fg_iloadn (fg_ft (pc := 56) tb_Mo_thing 33 rfl) rfl ?_
        refine fg_iaddN (fg_ft (pc := 57) tb_Mo_thing 34 rfl) ?_
        refine fg_iload (fg_ft (pc := 58) tb_Mo_thing 35 rfl) rfl ?_
        refine fg_iload (fg_ft (pc := 60) tb_Mo_thing 36 rfl) rfl ?_
        refine fg_imulN (fg_ft (pc := 62) tb_Mo_thing 37 rfl) ?_
        refine fg_iaddN (fg_ft (pc := 63) tb_Mo_thing 38 rfl) ?_
        refine fg_iload (fg_ft (pc := 64) tb_Mo_thing 39 rfl) rfl ?_
        refine fg_iaddN (fg_ft (pc := 66) tb_Mo_thing 40 rfl) ?_
        refine fg_ialdV (v := (nI ((A.ts town) (8 + (k * 2 + what))))) (fg_ft (pc := 67) tb_Mo_thing 41 rfl) ly_288 (fg_lt ly_288 (by decide)) (by omega) (fg_MTat hM0 (i := (((610 + 152 * town) + 8) + (2 * k)) + what) (k := 8 + (k * 2 + what)) (by omega) (by omega)) ?_
        exact fg_iret (fg_ft (pc := 68) tb_Mo_thing 42 rfl) rfl rfl (fg_q (hQ _ (fg_agR_rf μ)) (by unfold fg_thg; first | (rw [if_neg c6]; done) | (rw [if_pos c6, if_neg (fun hh => c29 hh.1)]; done) | (rw [if_pos c6, if_neg (fun hh => c42 hh.2)]; done) | (rw [if_pos c6, if_pos ⟨c29, c42⟩, Nat.mul_comm k 2]; done) | (rw [if_pos c6, if_pos ⟨c29, c42⟩]; done)))
      · refine fg_iconst (fg_ft (pc := 45) tb_Mo_thing 26 rfl) ic_m1 ?_
        exact fg_iret (fg_ft (pc := 46) tb_Mo_thing 27 rfl) rfl rfl (fg_q (hQ _ (fg_agR_rf μ)) (by unfold fg_thg; first | (rw [if_neg c6]; done) | (rw [if_pos c6, if_neg (fun hh => c29 hh.1)]; done) | (rw [if_pos c6, if_neg (fun hh => c42 hh.2)]; done) | (rw [if_pos c6, if_pos ⟨c29, c42⟩, Nat.mul_comm k 2]; done) | (rw [if_pos c6, if_pos ⟨c29, c42⟩]; done)))
theorem ev_Mo_thing2 {E : fg_E} {d : Nat} {μ : Nat → Nat → Int32} {R : fg_T4} {Q : Option Value → fg_M → Prop} {A : fg_Tl} (hL : fg_ML (μ 288) A) (hw : fg_wA A) {town k what : Nat} (htown : town < 2 ^ 32) (hk : k < 2 ^ 32) (hwhat : what < 2 ^ 32) (hQ : ∀ μ' : Nat → Nat → Int32, fg_agR μ μ' → Q (some (.int (fg_thg A town 2 40 3 k what))) (μ', fg_rho R, 304)) : fg_Ev E yy_Mo_thing (d + 4) [.ref 287, .int (nI town), .int (nI 2), .int (nI 40), .int (nI 3), .int (nI k), .int (nI what)] (μ, fg_rho R, 304) 304 Q := by
  have ht2 := hw.2.1
  have hd3 := hw.2.2.1
  refine fg_intro (by decide +kernel) (Nat.le_of_ble_eq_true rfl) (fg_okAs rfl) (Nat.le_refl _) ?_
  refine fg_aloadn (fg_ft (pc := 0) tb_Mo_thing 0 rfl) rfl ?_
  refine fg_iconst (fg_ft (pc := 1) tb_Mo_thing 1 rfl) ic_0 ?_
  refine fg_iloadn (fg_ft (pc := 2) tb_Mo_thing 2 rfl) rfl ?_
  refine fg_callV (fg_ft (pc := 3) tb_Mo_thing 3 rfl) cf_Mo_156 (fg_isOf ly_287 rfl (fg_lt ly_287 (by decide))) (as := [.int (nI 0), .int (nI town)]) (st := []) rfl rfl (Nat.le_of_ble_eq_true rfl) (Nat.le_refl _) (Nat.le_refl _) (ev_Mo_isOf0 hL hw (k := town) (htown) ?_)
  refine fg_ifB_eq (tgt := 45) (fg_ft (pc := 6) tb_Mo_thing 4 rfl) (by decide) (fun c6 => ?_) (fun c6 => ?_)
  · refine fg_iconst (fg_ft (pc := 45) tb_Mo_thing 26 rfl) ic_m1 ?_
    exact fg_iret (fg_ft (pc := 46) tb_Mo_thing 27 rfl) rfl rfl (fg_q (hQ _ (fg_agR_rf μ)) (by unfold fg_thg; first | (rw [if_neg c6]; done) | (rw [if_pos c6, if_neg (fun hh => c29 hh.1)]; done) | (rw [if_pos c6, if_neg (fun hh => c42 hh.2)]; done) | (rw [if_pos c6, if_pos ⟨c29, c42⟩, Nat.mul_comm k 3]; done) | (rw [if_pos c6, if_pos ⟨c29, c42⟩]; done)))
  · have hok := hw.2.2.2.1 town c6
    have hM0 := hL.2.2.1 town c6
    have hv0 := hM0.1
    have hb1 := hok.2.1
    refine fg_iload (fg_ft (pc := 9) tb_Mo_thing 5 rfl) rfl ?_
    refine fg_iconst (fg_ft (pc := 11) tb_Mo_thing 6 rfl) ic_0 ?_
    refine fg_aloadn (fg_ft (pc := 12) tb_Mo_thing 7 rfl) rfl ?_
    refine fg_getR (fg_ft (pc := 13) tb_Mo_thing 8 rfl) ff_Mo_7 ly_287 rfl (fg_lt ly_287 (by decide)) (rh_287_0 R) ?_
    refine fg_iconst (fg_ft (pc := 16) tb_Mo_thing 9 rfl) ic_0 ?_
    refine fg_iloadn (fg_ft (pc := 17) tb_Mo_thing 10 rfl) rfl ?_
    refine fg_callS (fg_ft (pc := 18) tb_Mo_thing 11 rfl) cf_Mo_166 (as := [.int (nI 0), .int (nI town)]) (st := [.ref 288, .int (nI 0), .int (nI k)]) rfl rfl (Nat.le_of_ble_eq_true rfl) (Nat.le_refl _) (Nat.le_refl _) (ev_Mo_placeOf0 (k := town) ?_)
    refine fg_iloadn (fg_ft (pc := 21) tb_Mo_thing 12 rfl) rfl ?_
    refine fg_iaddN (fg_ft (pc := 22) tb_Mo_thing 13 rfl) ?_
    refine fg_ialdV (v := (nI ((A.ts town) 2))) (fg_ft (pc := 23) tb_Mo_thing 14 rfl) ly_288 (fg_lt ly_288 (by decide)) (by omega) (fg_MTat hM0 (i := (610 + 152 * town) + 2) (k := 2) (by omega) (by omega)) ?_
    refine fg_iconst (fg_ft (pc := 24) tb_Mo_thing 15 rfl) ic_1 ?_
    refine fg_isub (fg_ft (pc := 25) tb_Mo_thing 16 rfl) ?_
    refine fg_callS (fg_ft (pc := 26) tb_Mo_thing 17 rfl) cf_Mo_110 (as := [.int (nI k), .int (nI 0), .int ((nI ((A.ts town) 2)) - (nI 1))]) (st := []) rfl rfl (Nat.le_of_ble_eq_true rfl) (Nat.le_refl _) (Nat.le_refl _) (ev_Mo_isIn0 (k := k) (c := ((A.ts town) 2)) (hk) (by omega) ?_)
    refine fg_ifB_eq (tgt := 45) (fg_ft (pc := 29) tb_Mo_thing 18 rfl) (by decide) (fun c29 => ?_) (fun c29 => ?_)
    · refine fg_iconst (fg_ft (pc := 45) tb_Mo_thing 26 rfl) ic_m1 ?_
      exact fg_iret (fg_ft (pc := 46) tb_Mo_thing 27 rfl) rfl rfl (fg_q (hQ _ (fg_agR_rf μ)) (by unfold fg_thg; first | (rw [if_neg c6]; done) | (rw [if_pos c6, if_neg (fun hh => c29 hh.1)]; done) | (rw [if_pos c6, if_neg (fun hh => c42 hh.2)]; done) | (rw [if_pos c6, if_pos ⟨c29, c42⟩, Nat.mul_comm k 3]; done) | (rw [if_pos c6, if_pos ⟨c29, c42⟩]; done)))
    · refine fg_iload (fg_ft (pc := 32) tb_Mo_thing 19 rfl) rfl ?_
      refine fg_iconst (fg_ft (pc := 34) tb_Mo_thing 20 rfl) ic_0 ?_
      refine fg_iload (fg_ft (pc := 35) tb_Mo_thing 21 rfl) rfl ?_
      refine fg_iconst (fg_ft (pc := 37) tb_Mo_thing 22 rfl) ic_1 ?_
      refine fg_isub (fg_ft (pc := 38) tb_Mo_thing 23 rfl) ?_
      refine fg_callS (fg_ft (pc := 39) tb_Mo_thing 24 rfl) cf_Mo_110 (as := [.int (nI what), .int (nI 0), .int ((nI 3) - (nI 1))]) (st := []) rfl rfl (Nat.le_of_ble_eq_true rfl) (Nat.le_refl _) (Nat.le_refl _) (ev_Mo_isIn0 (k := what) (c := 3) hwhat (by decide) ?_)
      refine fg_ifB_ne (tgt := 47) (fg_ft (pc := 42) tb_Mo_thing 25 rfl) (by decide) (fun c42 => ?_) (fun c42 => ?_)
      · have hcb : k < A.ts town 2 := c29
        refine fg_aloadn (fg_ft (pc := 47) tb_Mo_thing 28 rfl) rfl ?_
        refine fg_getR (fg_ft (pc := 48) tb_Mo_thing 29 rfl) ff_Mo_7 ly_287 rfl (fg_lt ly_287 (by decide)) (rh_287_0 R) ?_
        refine fg_iconst (fg_ft (pc := 51) tb_Mo_thing 30 rfl) ic_0 ?_
        refine fg_iloadn (fg_ft (pc := 52) tb_Mo_thing 31 rfl) rfl ?_
        refine fg_callS (fg_ft (pc := 53) tb_Mo_thing 32 rfl) cf_Mo_166 (as := [.int (nI 0), .int (nI town)]) (st := [.ref 288]) rfl rfl (Nat.le_of_ble_eq_true rfl) (Nat.le_refl _) (Nat.le_refl _) (ev_Mo_placeOf0 (k := town) ?_)
        refine fg_iloadn (fg_ft (pc := 56) tb_Mo_thing 33 rfl) rfl ?_
        refine fg_iaddN (fg_ft (pc := 57) tb_Mo_thing 34 rfl) ?_
        refine fg_iload (fg_ft (pc := 58) tb_Mo_thing 35 rfl) rfl ?_
        refine fg_iload (fg_ft (pc := 60) tb_Mo_thing 36 rfl) rfl ?_
        refine fg_imulN (fg_ft (pc := 62) tb_Mo_thing 37 rfl) ?_
        refine fg_iaddN (fg_ft (pc := 63) tb_Mo_thing 38 rfl) ?_
        refine fg_iload (fg_ft (pc := 64) tb_Mo_thing 39 rfl) rfl ?_
        refine fg_iaddN (fg_ft (pc := 66) tb_Mo_thing 40 rfl) ?_
        refine fg_ialdV (v := (nI ((A.ts town) (40 + (k * 3 + what))))) (fg_ft (pc := 67) tb_Mo_thing 41 rfl) ly_288 (fg_lt ly_288 (by decide)) (by omega) (fg_MTat hM0 (i := (((610 + 152 * town) + 40) + (3 * k)) + what) (k := 40 + (k * 3 + what)) (by omega) (by omega)) ?_
        exact fg_iret (fg_ft (pc := 68) tb_Mo_thing 42 rfl) rfl rfl (fg_q (hQ _ (fg_agR_rf μ)) (by unfold fg_thg; first | (rw [if_neg c6]; done) | (rw [if_pos c6, if_neg (fun hh => c29 hh.1)]; done) | (rw [if_pos c6, if_neg (fun hh => c42 hh.2)]; done) | (rw [if_pos c6, if_pos ⟨c29, c42⟩, Nat.mul_comm k 3]; done) | (rw [if_pos c6, if_pos ⟨c29, c42⟩]; done)))
      · refine fg_iconst (fg_ft (pc := 45) tb_Mo_thing 26 rfl) ic_m1 ?_
        exact fg_iret (fg_ft (pc := 46) tb_Mo_thing 27 rfl) rfl rfl (fg_q (hQ _ (fg_agR_rf μ)) (by unfold fg_thg; first | (rw [if_neg c6]; done) | (rw [if_pos c6, if_neg (fun hh => c29 hh.1)]; done) | (rw [if_pos c6, if_neg (fun hh => c42 hh.2)]; done) | (rw [if_pos c6, if_pos ⟨c29, c42⟩, Nat.mul_comm k 3]; done) | (rw [if_pos c6, if_pos ⟨c29, c42⟩]; done)))
theorem ev_Mo_thing3 {E : fg_E} {d : Nat} {μ : Nat → Nat → Int32} {R : fg_T4} {Q : Option Value → fg_M → Prop} {A : fg_Tl} (hL : fg_ML (μ 288) A) (hw : fg_wA A) {town k what : Nat} (htown : town < 2 ^ 32) (hk : k < 2 ^ 32) (hwhat : what < 2 ^ 32) (hQ : ∀ μ' : Nat → Nat → Int32, fg_agR μ μ' → Q (some (.int (fg_thg A town 3 55 2 k what))) (μ', fg_rho R, 304)) : fg_Ev E yy_Mo_thing (d + 4) [.ref 287, .int (nI town), .int (nI 3), .int (nI 55), .int (nI 2), .int (nI k), .int (nI what)] (μ, fg_rho R, 304) 304 Q := by
  have ht2 := hw.2.1
  have hd3 := hw.2.2.1
  refine fg_intro (by decide +kernel) (Nat.le_of_ble_eq_true rfl) (fg_okAs rfl) (Nat.le_refl _) ?_
  refine fg_aloadn (fg_ft (pc := 0) tb_Mo_thing 0 rfl) rfl ?_
  refine fg_iconst (fg_ft (pc := 1) tb_Mo_thing 1 rfl) ic_0 ?_
  refine fg_iloadn (fg_ft (pc := 2) tb_Mo_thing 2 rfl) rfl ?_
  refine fg_callV (fg_ft (pc := 3) tb_Mo_thing 3 rfl) cf_Mo_156 (fg_isOf ly_287 rfl (fg_lt ly_287 (by decide))) (as := [.int (nI 0), .int (nI town)]) (st := []) rfl rfl (Nat.le_of_ble_eq_true rfl) (Nat.le_refl _) (Nat.le_refl _) (ev_Mo_isOf0 hL hw (k := town) (htown) ?_)
  refine fg_ifB_eq (tgt := 45) (fg_ft (pc := 6) tb_Mo_thing 4 rfl) (by decide) (fun c6 => ?_) (fun c6 => ?_)
  · refine fg_iconst (fg_ft (pc := 45) tb_Mo_thing 26 rfl) ic_m1 ?_
    exact fg_iret (fg_ft (pc := 46) tb_Mo_thing 27 rfl) rfl rfl (fg_q (hQ _ (fg_agR_rf μ)) (by unfold fg_thg; first | (rw [if_neg c6]; done) | (rw [if_pos c6, if_neg (fun hh => c29 hh.1)]; done) | (rw [if_pos c6, if_neg (fun hh => c42 hh.2)]; done) | (rw [if_pos c6, if_pos ⟨c29, c42⟩, Nat.mul_comm k 2]; done) | (rw [if_pos c6, if_pos ⟨c29, c42⟩]; done)))
  · have hok := hw.2.2.2.1 town c6
    have hM0 := hL.2.2.1 town c6
    have hv0 := hM0.1
    have hb1 := hok.2.1
    refine fg_iload (fg_ft (pc := 9) tb_Mo_thing 5 rfl) rfl ?_
    refine fg_iconst (fg_ft (pc := 11) tb_Mo_thing 6 rfl) ic_0 ?_
    refine fg_aloadn (fg_ft (pc := 12) tb_Mo_thing 7 rfl) rfl ?_
    refine fg_getR (fg_ft (pc := 13) tb_Mo_thing 8 rfl) ff_Mo_7 ly_287 rfl (fg_lt ly_287 (by decide)) (rh_287_0 R) ?_
    refine fg_iconst (fg_ft (pc := 16) tb_Mo_thing 9 rfl) ic_0 ?_
    refine fg_iloadn (fg_ft (pc := 17) tb_Mo_thing 10 rfl) rfl ?_
    refine fg_callS (fg_ft (pc := 18) tb_Mo_thing 11 rfl) cf_Mo_166 (as := [.int (nI 0), .int (nI town)]) (st := [.ref 288, .int (nI 0), .int (nI k)]) rfl rfl (Nat.le_of_ble_eq_true rfl) (Nat.le_refl _) (Nat.le_refl _) (ev_Mo_placeOf0 (k := town) ?_)
    refine fg_iloadn (fg_ft (pc := 21) tb_Mo_thing 12 rfl) rfl ?_
    refine fg_iaddN (fg_ft (pc := 22) tb_Mo_thing 13 rfl) ?_
    refine fg_ialdV (v := (nI ((A.ts town) 3))) (fg_ft (pc := 23) tb_Mo_thing 14 rfl) ly_288 (fg_lt ly_288 (by decide)) (by omega) (fg_MTat hM0 (i := (610 + 152 * town) + 3) (k := 3) (by omega) (by omega)) ?_
    refine fg_iconst (fg_ft (pc := 24) tb_Mo_thing 15 rfl) ic_1 ?_
    refine fg_isub (fg_ft (pc := 25) tb_Mo_thing 16 rfl) ?_
    refine fg_callS (fg_ft (pc := 26) tb_Mo_thing 17 rfl) cf_Mo_110 (as := [.int (nI k), .int (nI 0), .int ((nI ((A.ts town) 3)) - (nI 1))]) (st := []) rfl rfl (Nat.le_of_ble_eq_true rfl) (Nat.le_refl _) (Nat.le_refl _) (ev_Mo_isIn0 (k := k) (c := ((A.ts town) 3)) (hk) (by omega) ?_)
    refine fg_ifB_eq (tgt := 45) (fg_ft (pc := 29) tb_Mo_thing 18 rfl) (by decide) (fun c29 => ?_) (fun c29 => ?_)
    · refine fg_iconst (fg_ft (pc := 45) tb_Mo_thing 26 rfl) ic_m1 ?_
      exact fg_iret (fg_ft (pc := 46) tb_Mo_thing 27 rfl) rfl rfl (fg_q (hQ _ (fg_agR_rf μ)) (by unfold fg_thg; first | (rw [if_neg c6]; done) | (rw [if_pos c6, if_neg (fun hh => c29 hh.1)]; done) | (rw [if_pos c6, if_neg (fun hh => c42 hh.2)]; done) | (rw [if_pos c6, if_pos ⟨c29, c42⟩, Nat.mul_comm k 2]; done) | (rw [if_pos c6, if_pos ⟨c29, c42⟩]; done)))
    · refine fg_iload (fg_ft (pc := 32) tb_Mo_thing 19 rfl) rfl ?_
      refine fg_iconst (fg_ft (pc := 34) tb_Mo_thing 20 rfl) ic_0 ?_
      refine fg_iload (fg_ft (pc := 35) tb_Mo_thing 21 rfl) rfl ?_
      refine fg_iconst (fg_ft (pc := 37) tb_Mo_thing 22 rfl) ic_1 ?_
      refine fg_isub (fg_ft (pc := 38) tb_Mo_thing 23 rfl) ?_
      refine fg_callS (fg_ft (pc := 39) tb_Mo_thing 24 rfl) cf_Mo_110 (as := [.int (nI what), .int (nI 0), .int ((nI 2) - (nI 1))]) (st := []) rfl rfl (Nat.le_of_ble_eq_true rfl) (Nat.le_refl _) (Nat.le_refl _) (ev_Mo_isIn0 (k := what) (c := 2) hwhat (by decide) ?_)
      refine fg_ifB_ne (tgt := 47) (fg_ft (pc := 42) tb_Mo_thing 25 rfl) (by decide) (fun c42 => ?_) (fun c42 => ?_)
      · have hcb : k < A.ts town 3 := c29
        refine fg_aloadn (fg_ft (pc := 47) tb_Mo_thing 28 rfl) rfl ?_
        refine fg_getR (fg_ft (pc := 48) tb_Mo_thing 29 rfl) ff_Mo_7 ly_287 rfl (fg_lt ly_287 (by decide)) (rh_287_0 R) ?_
        refine fg_iconst (fg_ft (pc := 51) tb_Mo_thing 30 rfl) ic_0 ?_
        refine fg_iloadn (fg_ft (pc := 52) tb_Mo_thing 31 rfl) rfl ?_
        refine fg_callS (fg_ft (pc := 53) tb_Mo_thing 32 rfl) cf_Mo_166 (as := [.int (nI 0), .int (nI town)]) (st := [.ref 288]) rfl rfl (Nat.le_of_ble_eq_true rfl) (Nat.le_refl _) (Nat.le_refl _) (ev_Mo_placeOf0 (k := town) ?_)
        refine fg_iloadn (fg_ft (pc := 56) tb_Mo_thing 33 rfl) rfl ?_
        refine fg_iaddN (fg_ft (pc := 57) tb_Mo_thing 34 rfl) ?_
        refine fg_iload (fg_ft (pc := 58) tb_Mo_thing 35 rfl) rfl ?_
        refine fg_iload (fg_ft (pc := 60) tb_Mo_thing 36 rfl) rfl ?_
        refine fg_imulN (fg_ft (pc := 62) tb_Mo_thing 37 rfl) ?_
        refine fg_iaddN (fg_ft (pc := 63) tb_Mo_thing 38 rfl) ?_
        refine fg_iload (fg_ft (pc := 64) tb_Mo_thing 39 rfl) rfl ?_
        refine fg_iaddN (fg_ft (pc := 66) tb_Mo_thing 40 rfl) ?_
        refine fg_ialdV (v := (nI ((A.ts town) (55 + (k * 2 + what))))) (fg_ft (pc := 67) tb_Mo_thing 41 rfl) ly_288 (fg_lt ly_288 (by decide)) (by omega) (fg_MTat hM0 (i := (((610 + 152 * town) + 55) + (2 * k)) + what) (k := 55 + (k * 2 + what)) (by omega) (by omega)) ?_
        exact fg_iret (fg_ft (pc := 68) tb_Mo_thing 42 rfl) rfl rfl (fg_q (hQ _ (fg_agR_rf μ)) (by unfold fg_thg; first | (rw [if_neg c6]; done) | (rw [if_pos c6, if_neg (fun hh => c29 hh.1)]; done) | (rw [if_pos c6, if_neg (fun hh => c42 hh.2)]; done) | (rw [if_pos c6, if_pos ⟨c29, c42⟩, Nat.mul_comm k 2]; done) | (rw [if_pos c6, if_pos ⟨c29, c42⟩]; done)))
      · refine fg_iconst (fg_ft (pc := 45) tb_Mo_thing 26 rfl) ic_m1 ?_
        exact fg_iret (fg_ft (pc := 46) tb_Mo_thing 27 rfl) rfl rfl (fg_q (hQ _ (fg_agR_rf μ)) (by unfold fg_thg; first | (rw [if_neg c6]; done) | (rw [if_pos c6, if_neg (fun hh => c29 hh.1)]; done) | (rw [if_pos c6, if_neg (fun hh => c42 hh.2)]; done) | (rw [if_pos c6, if_pos ⟨c29, c42⟩, Nat.mul_comm k 2]; done) | (rw [if_pos c6, if_pos ⟨c29, c42⟩]; done)))
theorem ev_Mo_thing4 {E : fg_E} {d : Nat} {μ : Nat → Nat → Int32} {R : fg_T4} {Q : Option Value → fg_M → Prop} {A : fg_Tl} (hL : fg_ML (μ 288) A) (hw : fg_wA A) {town k what : Nat} (htown : town < 2 ^ 32) (hk : k < 2 ^ 32) (hwhat : what < 2 ^ 32) (hQ : ∀ μ' : Nat → Nat → Int32, fg_agR μ μ' → Q (some (.int (fg_thg A town 4 79 4 k what))) (μ', fg_rho R, 304)) : fg_Ev E yy_Mo_thing (d + 4) [.ref 287, .int (nI town), .int (nI 4), .int (nI 79), .int (nI 4), .int (nI k), .int (nI what)] (μ, fg_rho R, 304) 304 Q := by
  have ht2 := hw.2.1
  have hd3 := hw.2.2.1
  refine fg_intro (by decide +kernel) (Nat.le_of_ble_eq_true rfl) (fg_okAs rfl) (Nat.le_refl _) ?_
  refine fg_aloadn (fg_ft (pc := 0) tb_Mo_thing 0 rfl) rfl ?_
  refine fg_iconst (fg_ft (pc := 1) tb_Mo_thing 1 rfl) ic_0 ?_
  refine fg_iloadn (fg_ft (pc := 2) tb_Mo_thing 2 rfl) rfl ?_
  refine fg_callV (fg_ft (pc := 3) tb_Mo_thing 3 rfl) cf_Mo_156 (fg_isOf ly_287 rfl (fg_lt ly_287 (by decide))) (as := [.int (nI 0), .int (nI town)]) (st := []) rfl rfl (Nat.le_of_ble_eq_true rfl) (Nat.le_refl _) (Nat.le_refl _) (ev_Mo_isOf0 hL hw (k := town) (htown) ?_)
  refine fg_ifB_eq (tgt := 45) (fg_ft (pc := 6) tb_Mo_thing 4 rfl) (by decide) (fun c6 => ?_) (fun c6 => ?_)
  · refine fg_iconst (fg_ft (pc := 45) tb_Mo_thing 26 rfl) ic_m1 ?_
    exact fg_iret (fg_ft (pc := 46) tb_Mo_thing 27 rfl) rfl rfl (fg_q (hQ _ (fg_agR_rf μ)) (by unfold fg_thg; first | (rw [if_neg c6]; done) | (rw [if_pos c6, if_neg (fun hh => c29 hh.1)]; done) | (rw [if_pos c6, if_neg (fun hh => c42 hh.2)]; done) | (rw [if_pos c6, if_pos ⟨c29, c42⟩, Nat.mul_comm k 4]; done) | (rw [if_pos c6, if_pos ⟨c29, c42⟩]; done)))
  · have hok := hw.2.2.2.1 town c6
    have hM0 := hL.2.2.1 town c6
    have hv0 := hM0.1
    have hb1 := hok.2.1
    refine fg_iload (fg_ft (pc := 9) tb_Mo_thing 5 rfl) rfl ?_
    refine fg_iconst (fg_ft (pc := 11) tb_Mo_thing 6 rfl) ic_0 ?_
    refine fg_aloadn (fg_ft (pc := 12) tb_Mo_thing 7 rfl) rfl ?_
    refine fg_getR (fg_ft (pc := 13) tb_Mo_thing 8 rfl) ff_Mo_7 ly_287 rfl (fg_lt ly_287 (by decide)) (rh_287_0 R) ?_
    refine fg_iconst (fg_ft (pc := 16) tb_Mo_thing 9 rfl) ic_0 ?_
    refine fg_iloadn (fg_ft (pc := 17) tb_Mo_thing 10 rfl) rfl ?_
    refine fg_callS (fg_ft (pc := 18) tb_Mo_thing 11 rfl) cf_Mo_166 (as := [.int (nI 0), .int (nI town)]) (st := [.ref 288, .int (nI 0), .int (nI k)]) rfl rfl (Nat.le_of_ble_eq_true rfl) (Nat.le_refl _) (Nat.le_refl _) (ev_Mo_placeOf0 (k := town) ?_)
    refine fg_iloadn (fg_ft (pc := 21) tb_Mo_thing 12 rfl) rfl ?_
    refine fg_iaddN (fg_ft (pc := 22) tb_Mo_thing 13 rfl) ?_
    refine fg_ialdV (v := (nI ((A.ts town) 4))) (fg_ft (pc := 23) tb_Mo_thing 14 rfl) ly_288 (fg_lt ly_288 (by decide)) (by omega) (fg_MTat hM0 (i := (610 + 152 * town) + 4) (k := 4) (by omega) (by omega)) ?_
    refine fg_iconst (fg_ft (pc := 24) tb_Mo_thing 15 rfl) ic_1 ?_
    refine fg_isub (fg_ft (pc := 25) tb_Mo_thing 16 rfl) ?_
    refine fg_callS (fg_ft (pc := 26) tb_Mo_thing 17 rfl) cf_Mo_110 (as := [.int (nI k), .int (nI 0), .int ((nI ((A.ts town) 4)) - (nI 1))]) (st := []) rfl rfl (Nat.le_of_ble_eq_true rfl) (Nat.le_refl _) (Nat.le_refl _) (ev_Mo_isIn0 (k := k) (c := ((A.ts town) 4)) (hk) (by omega) ?_)
    refine fg_ifB_eq (tgt := 45) (fg_ft (pc := 29) tb_Mo_thing 18 rfl) (by decide) (fun c29 => ?_) (fun c29 => ?_)
    · refine fg_iconst (fg_ft (pc := 45) tb_Mo_thing 26 rfl) ic_m1 ?_
      exact fg_iret (fg_ft (pc := 46) tb_Mo_thing 27 rfl) rfl rfl (fg_q (hQ _ (fg_agR_rf μ)) (by unfold fg_thg; first | (rw [if_neg c6]; done) | (rw [if_pos c6, if_neg (fun hh => c29 hh.1)]; done) | (rw [if_pos c6, if_neg (fun hh => c42 hh.2)]; done) | (rw [if_pos c6, if_pos ⟨c29, c42⟩, Nat.mul_comm k 4]; done) | (rw [if_pos c6, if_pos ⟨c29, c42⟩]; done)))
    · refine fg_iload (fg_ft (pc := 32) tb_Mo_thing 19 rfl) rfl ?_
      refine fg_iconst (fg_ft (pc := 34) tb_Mo_thing 20 rfl) ic_0 ?_
      refine fg_iload (fg_ft (pc := 35) tb_Mo_thing 21 rfl) rfl ?_
      refine fg_iconst (fg_ft (pc := 37) tb_Mo_thing 22 rfl) ic_1 ?_
      refine fg_isub (fg_ft (pc := 38) tb_Mo_thing 23 rfl) ?_
      refine fg_callS (fg_ft (pc := 39) tb_Mo_thing 24 rfl) cf_Mo_110 (as := [.int (nI what), .int (nI 0), .int ((nI 4) - (nI 1))]) (st := []) rfl rfl (Nat.le_of_ble_eq_true rfl) (Nat.le_refl _) (Nat.le_refl _) (ev_Mo_isIn0 (k := what) (c := 4) hwhat (by decide) ?_)
      refine fg_ifB_ne (tgt := 47) (fg_ft (pc := 42) tb_Mo_thing 25 rfl) (by decide) (fun c42 => ?_) (fun c42 => ?_)
      · have hcb : k < A.ts town 4 := c29
        refine fg_aloadn (fg_ft (pc := 47) tb_Mo_thing 28 rfl) rfl ?_
        refine fg_getR (fg_ft (pc := 48) tb_Mo_thing 29 rfl) ff_Mo_7 ly_287 rfl (fg_lt ly_287 (by decide)) (rh_287_0 R) ?_
        refine fg_iconst (fg_ft (pc := 51) tb_Mo_thing 30 rfl) ic_0 ?_
        refine fg_iloadn (fg_ft (pc := 52) tb_Mo_thing 31 rfl) rfl ?_
        refine fg_callS (fg_ft (pc := 53) tb_Mo_thing 32 rfl) cf_Mo_166 (as := [.int (nI 0), .int (nI town)]) (st := [.ref 288]) rfl rfl (Nat.le_of_ble_eq_true rfl) (Nat.le_refl _) (Nat.le_refl _) (ev_Mo_placeOf0 (k := town) ?_)
        refine fg_iloadn (fg_ft (pc := 56) tb_Mo_thing 33 rfl) rfl ?_
        refine fg_iaddN (fg_ft (pc := 57) tb_Mo_thing 34 rfl) ?_
        refine fg_iload (fg_ft (pc := 58) tb_Mo_thing 35 rfl) rfl ?_
        refine fg_iload (fg_ft (pc := 60) tb_Mo_thing 36 rfl) rfl ?_
        refine fg_imulN (fg_ft (pc := 62) tb_Mo_thing 37 rfl) ?_
        refine fg_iaddN (fg_ft (pc := 63) tb_Mo_thing 38 rfl) ?_
        refine fg_iload (fg_ft (pc := 64) tb_Mo_thing 39 rfl) rfl ?_
        refine fg_iaddN (fg_ft (pc := 66) tb_Mo_thing 40 rfl) ?_
        refine fg_ialdV (v := (nI ((A.ts town) (79 + (k * 4 + what))))) (fg_ft (pc := 67) tb_Mo_thing 41 rfl) ly_288 (fg_lt ly_288 (by decide)) (by omega) (fg_MTat hM0 (i := (((610 + 152 * town) + 79) + (4 * k)) + what) (k := 79 + (k * 4 + what)) (by omega) (by omega)) ?_
        exact fg_iret (fg_ft (pc := 68) tb_Mo_thing 42 rfl) rfl rfl (fg_q (hQ _ (fg_agR_rf μ)) (by unfold fg_thg; first | (rw [if_neg c6]; done) | (rw [if_pos c6, if_neg (fun hh => c29 hh.1)]; done) | (rw [if_pos c6, if_neg (fun hh => c42 hh.2)]; done) | (rw [if_pos c6, if_pos ⟨c29, c42⟩, Nat.mul_comm k 4]; done) | (rw [if_pos c6, if_pos ⟨c29, c42⟩]; done)))
      · refine fg_iconst (fg_ft (pc := 45) tb_Mo_thing 26 rfl) ic_m1 ?_
        exact fg_iret (fg_ft (pc := 46) tb_Mo_thing 27 rfl) rfl rfl (fg_q (hQ _ (fg_agR_rf μ)) (by unfold fg_thg; first | (rw [if_neg c6]; done) | (rw [if_pos c6, if_neg (fun hh => c29 hh.1)]; done) | (rw [if_pos c6, if_neg (fun hh => c42 hh.2)]; done) | (rw [if_pos c6, if_pos ⟨c29, c42⟩, Nat.mul_comm k 4]; done) | (rw [if_pos c6, if_pos ⟨c29, c42⟩]; done)))
theorem ev_Mo_thing5 {E : fg_E} {d : Nat} {μ : Nat → Nat → Int32} {R : fg_T4} {Q : Option Value → fg_M → Prop} {A : fg_Tl} (hL : fg_ML (μ 288) A) (hw : fg_wA A) {town k what : Nat} (htown : town < 2 ^ 32) (hk : k < 2 ^ 32) (hwhat : what < 2 ^ 32) (hQ : ∀ μ' : Nat → Nat → Int32, fg_agR μ μ' → Q (some (.int (fg_thg A town 5 127 2 k what))) (μ', fg_rho R, 304)) : fg_Ev E yy_Mo_thing (d + 4) [.ref 287, .int (nI town), .int (nI 5), .int (nI 127), .int (nI 2), .int (nI k), .int (nI what)] (μ, fg_rho R, 304) 304 Q := by
  have ht2 := hw.2.1
  have hd3 := hw.2.2.1
  refine fg_intro (by decide +kernel) (Nat.le_of_ble_eq_true rfl) (fg_okAs rfl) (Nat.le_refl _) ?_
  refine fg_aloadn (fg_ft (pc := 0) tb_Mo_thing 0 rfl) rfl ?_
  refine fg_iconst (fg_ft (pc := 1) tb_Mo_thing 1 rfl) ic_0 ?_
  refine fg_iloadn (fg_ft (pc := 2) tb_Mo_thing 2 rfl) rfl ?_
  refine fg_callV (fg_ft (pc := 3) tb_Mo_thing 3 rfl) cf_Mo_156 (fg_isOf ly_287 rfl (fg_lt ly_287 (by decide))) (as := [.int (nI 0), .int (nI town)]) (st := []) rfl rfl (Nat.le_of_ble_eq_true rfl) (Nat.le_refl _) (Nat.le_refl _) (ev_Mo_isOf0 hL hw (k := town) (htown) ?_)
  refine fg_ifB_eq (tgt := 45) (fg_ft (pc := 6) tb_Mo_thing 4 rfl) (by decide) (fun c6 => ?_) (fun c6 => ?_)
  · refine fg_iconst (fg_ft (pc := 45) tb_Mo_thing 26 rfl) ic_m1 ?_
    exact fg_iret (fg_ft (pc := 46) tb_Mo_thing 27 rfl) rfl rfl (fg_q (hQ _ (fg_agR_rf μ)) (by unfold fg_thg; first | (rw [if_neg c6]; done) | (rw [if_pos c6, if_neg (fun hh => c29 hh.1)]; done) | (rw [if_pos c6, if_neg (fun hh => c42 hh.2)]; done) | (rw [if_pos c6, if_pos ⟨c29, c42⟩, Nat.mul_comm k 2]; done) | (rw [if_pos c6, if_pos ⟨c29, c42⟩]; done)))
  · have hok := hw.2.2.2.1 town c6
    have hM0 := hL.2.2.1 town c6
    have hv0 := hM0.1
    have hb1 := hok.2.1
    refine fg_iload (fg_ft (pc := 9) tb_Mo_thing 5 rfl) rfl ?_
    refine fg_iconst (fg_ft (pc := 11) tb_Mo_thing 6 rfl) ic_0 ?_
    refine fg_aloadn (fg_ft (pc := 12) tb_Mo_thing 7 rfl) rfl ?_
    refine fg_getR (fg_ft (pc := 13) tb_Mo_thing 8 rfl) ff_Mo_7 ly_287 rfl (fg_lt ly_287 (by decide)) (rh_287_0 R) ?_
    refine fg_iconst (fg_ft (pc := 16) tb_Mo_thing 9 rfl) ic_0 ?_
    refine fg_iloadn (fg_ft (pc := 17) tb_Mo_thing 10 rfl) rfl ?_
    refine fg_callS (fg_ft (pc := 18) tb_Mo_thing 11 rfl) cf_Mo_166 (as := [.int (nI 0), .int (nI town)]) (st := [.ref 288, .int (nI 0), .int (nI k)]) rfl rfl (Nat.le_of_ble_eq_true rfl) (Nat.le_refl _) (Nat.le_refl _) (ev_Mo_placeOf0 (k := town) ?_)
    refine fg_iloadn (fg_ft (pc := 21) tb_Mo_thing 12 rfl) rfl ?_
    refine fg_iaddN (fg_ft (pc := 22) tb_Mo_thing 13 rfl) ?_
    refine fg_ialdV (v := (nI ((A.ts town) 5))) (fg_ft (pc := 23) tb_Mo_thing 14 rfl) ly_288 (fg_lt ly_288 (by decide)) (by omega) (fg_MTat hM0 (i := (610 + 152 * town) + 5) (k := 5) (by omega) (by omega)) ?_
    refine fg_iconst (fg_ft (pc := 24) tb_Mo_thing 15 rfl) ic_1 ?_
    refine fg_isub (fg_ft (pc := 25) tb_Mo_thing 16 rfl) ?_
    refine fg_callS (fg_ft (pc := 26) tb_Mo_thing 17 rfl) cf_Mo_110 (as := [.int (nI k), .int (nI 0), .int ((nI ((A.ts town) 5)) - (nI 1))]) (st := []) rfl rfl (Nat.le_of_ble_eq_true rfl) (Nat.le_refl _) (Nat.le_refl _) (ev_Mo_isIn0 (k := k) (c := ((A.ts town) 5)) (hk) (by omega) ?_)
    refine fg_ifB_eq (tgt := 45) (fg_ft (pc := 29) tb_Mo_thing 18 rfl) (by decide) (fun c29 => ?_) (fun c29 => ?_)
    · refine fg_iconst (fg_ft (pc := 45) tb_Mo_thing 26 rfl) ic_m1 ?_
      exact fg_iret (fg_ft (pc := 46) tb_Mo_thing 27 rfl) rfl rfl (fg_q (hQ _ (fg_agR_rf μ)) (by unfold fg_thg; first | (rw [if_neg c6]; done) | (rw [if_pos c6, if_neg (fun hh => c29 hh.1)]; done) | (rw [if_pos c6, if_neg (fun hh => c42 hh.2)]; done) | (rw [if_pos c6, if_pos ⟨c29, c42⟩, Nat.mul_comm k 2]; done) | (rw [if_pos c6, if_pos ⟨c29, c42⟩]; done)))
    · refine fg_iload (fg_ft (pc := 32) tb_Mo_thing 19 rfl) rfl ?_
      refine fg_iconst (fg_ft (pc := 34) tb_Mo_thing 20 rfl) ic_0 ?_
      refine fg_iload (fg_ft (pc := 35) tb_Mo_thing 21 rfl) rfl ?_
      refine fg_iconst (fg_ft (pc := 37) tb_Mo_thing 22 rfl) ic_1 ?_
      refine fg_isub (fg_ft (pc := 38) tb_Mo_thing 23 rfl) ?_
      refine fg_callS (fg_ft (pc := 39) tb_Mo_thing 24 rfl) cf_Mo_110 (as := [.int (nI what), .int (nI 0), .int ((nI 2) - (nI 1))]) (st := []) rfl rfl (Nat.le_of_ble_eq_true rfl) (Nat.le_refl _) (Nat.le_refl _) (ev_Mo_isIn0 (k := what) (c := 2) hwhat (by decide) ?_)
      refine fg_ifB_ne (tgt := 47) (fg_ft (pc := 42) tb_Mo_thing 25 rfl) (by decide) (fun c42 => ?_) (fun c42 => ?_)
      · have hcb : k < A.ts town 5 := c29
        refine fg_aloadn (fg_ft (pc := 47) tb_Mo_thing 28 rfl) rfl ?_
        refine fg_getR (fg_ft (pc := 48) tb_Mo_thing 29 rfl) ff_Mo_7 ly_287 rfl (fg_lt ly_287 (by decide)) (rh_287_0 R) ?_
        refine fg_iconst (fg_ft (pc := 51) tb_Mo_thing 30 rfl) ic_0 ?_
        refine fg_iloadn (fg_ft (pc := 52) tb_Mo_thing 31 rfl) rfl ?_
        refine fg_callS (fg_ft (pc := 53) tb_Mo_thing 32 rfl) cf_Mo_166 (as := [.int (nI 0), .int (nI town)]) (st := [.ref 288]) rfl rfl (Nat.le_of_ble_eq_true rfl) (Nat.le_refl _) (Nat.le_refl _) (ev_Mo_placeOf0 (k := town) ?_)
        refine fg_iloadn (fg_ft (pc := 56) tb_Mo_thing 33 rfl) rfl ?_
        refine fg_iaddN (fg_ft (pc := 57) tb_Mo_thing 34 rfl) ?_
        refine fg_iload (fg_ft (pc := 58) tb_Mo_thing 35 rfl) rfl ?_
        refine fg_iload (fg_ft (pc := 60) tb_Mo_thing 36 rfl) rfl ?_
        refine fg_imulN (fg_ft (pc := 62) tb_Mo_thing 37 rfl) ?_
        refine fg_iaddN (fg_ft (pc := 63) tb_Mo_thing 38 rfl) ?_
        refine fg_iload (fg_ft (pc := 64) tb_Mo_thing 39 rfl) rfl ?_
        refine fg_iaddN (fg_ft (pc := 66) tb_Mo_thing 40 rfl) ?_
        refine fg_ialdV (v := (nI ((A.ts town) (127 + (k * 2 + what))))) (fg_ft (pc := 67) tb_Mo_thing 41 rfl) ly_288 (fg_lt ly_288 (by decide)) (by omega) (fg_MTat hM0 (i := (((610 + 152 * town) + 127) + (2 * k)) + what) (k := 127 + (k * 2 + what)) (by omega) (by omega)) ?_
        exact fg_iret (fg_ft (pc := 68) tb_Mo_thing 42 rfl) rfl rfl (fg_q (hQ _ (fg_agR_rf μ)) (by unfold fg_thg; first | (rw [if_neg c6]; done) | (rw [if_pos c6, if_neg (fun hh => c29 hh.1)]; done) | (rw [if_pos c6, if_neg (fun hh => c42 hh.2)]; done) | (rw [if_pos c6, if_pos ⟨c29, c42⟩, Nat.mul_comm k 2]; done) | (rw [if_pos c6, if_pos ⟨c29, c42⟩]; done)))
      · refine fg_iconst (fg_ft (pc := 45) tb_Mo_thing 26 rfl) ic_m1 ?_
        exact fg_iret (fg_ft (pc := 46) tb_Mo_thing 27 rfl) rfl rfl (fg_q (hQ _ (fg_agR_rf μ)) (by unfold fg_thg; first | (rw [if_neg c6]; done) | (rw [if_pos c6, if_neg (fun hh => c29 hh.1)]; done) | (rw [if_pos c6, if_neg (fun hh => c42 hh.2)]; done) | (rw [if_pos c6, if_pos ⟨c29, c42⟩, Nat.mul_comm k 2]; done) | (rw [if_pos c6, if_pos ⟨c29, c42⟩]; done)))
theorem ev_Mo_thing6 {E : fg_E} {d : Nat} {μ : Nat → Nat → Int32} {R : fg_T4} {Q : Option Value → fg_M → Prop} {A : fg_Tl} (hL : fg_ML (μ 288) A) (hw : fg_wA A) {town k what : Nat} (htown : town < 2 ^ 32) (hk : k < 2 ^ 32) (hwhat : what < 2 ^ 32) (hQ : ∀ μ' : Nat → Nat → Int32, fg_agR μ μ' → Q (some (.int (fg_thg A town 6 139 2 k what))) (μ', fg_rho R, 304)) : fg_Ev E yy_Mo_thing (d + 4) [.ref 287, .int (nI town), .int (nI 6), .int (nI 139), .int (nI 2), .int (nI k), .int (nI what)] (μ, fg_rho R, 304) 304 Q := by
  have ht2 := hw.2.1
  have hd3 := hw.2.2.1
  refine fg_intro (by decide +kernel) (Nat.le_of_ble_eq_true rfl) (fg_okAs rfl) (Nat.le_refl _) ?_
  refine fg_aloadn (fg_ft (pc := 0) tb_Mo_thing 0 rfl) rfl ?_
  refine fg_iconst (fg_ft (pc := 1) tb_Mo_thing 1 rfl) ic_0 ?_
  refine fg_iloadn (fg_ft (pc := 2) tb_Mo_thing 2 rfl) rfl ?_
  refine fg_callV (fg_ft (pc := 3) tb_Mo_thing 3 rfl) cf_Mo_156 (fg_isOf ly_287 rfl (fg_lt ly_287 (by decide))) (as := [.int (nI 0), .int (nI town)]) (st := []) rfl rfl (Nat.le_of_ble_eq_true rfl) (Nat.le_refl _) (Nat.le_refl _) (ev_Mo_isOf0 hL hw (k := town) (htown) ?_)
  refine fg_ifB_eq (tgt := 45) (fg_ft (pc := 6) tb_Mo_thing 4 rfl) (by decide) (fun c6 => ?_) (fun c6 => ?_)
  · refine fg_iconst (fg_ft (pc := 45) tb_Mo_thing 26 rfl) ic_m1 ?_
    exact fg_iret (fg_ft (pc := 46) tb_Mo_thing 27 rfl) rfl rfl (fg_q (hQ _ (fg_agR_rf μ)) (by unfold fg_thg; first | (rw [if_neg c6]; done) | (rw [if_pos c6, if_neg (fun hh => c29 hh.1)]; done) | (rw [if_pos c6, if_neg (fun hh => c42 hh.2)]; done) | (rw [if_pos c6, if_pos ⟨c29, c42⟩, Nat.mul_comm k 2]; done) | (rw [if_pos c6, if_pos ⟨c29, c42⟩]; done)))
  · have hok := hw.2.2.2.1 town c6
    have hM0 := hL.2.2.1 town c6
    have hv0 := hM0.1
    have hb1 := hok.2.1
    refine fg_iload (fg_ft (pc := 9) tb_Mo_thing 5 rfl) rfl ?_
    refine fg_iconst (fg_ft (pc := 11) tb_Mo_thing 6 rfl) ic_0 ?_
    refine fg_aloadn (fg_ft (pc := 12) tb_Mo_thing 7 rfl) rfl ?_
    refine fg_getR (fg_ft (pc := 13) tb_Mo_thing 8 rfl) ff_Mo_7 ly_287 rfl (fg_lt ly_287 (by decide)) (rh_287_0 R) ?_
    refine fg_iconst (fg_ft (pc := 16) tb_Mo_thing 9 rfl) ic_0 ?_
    refine fg_iloadn (fg_ft (pc := 17) tb_Mo_thing 10 rfl) rfl ?_
    refine fg_callS (fg_ft (pc := 18) tb_Mo_thing 11 rfl) cf_Mo_166 (as := [.int (nI 0), .int (nI town)]) (st := [.ref 288, .int (nI 0), .int (nI k)]) rfl rfl (Nat.le_of_ble_eq_true rfl) (Nat.le_refl _) (Nat.le_refl _) (ev_Mo_placeOf0 (k := town) ?_)
    refine fg_iloadn (fg_ft (pc := 21) tb_Mo_thing 12 rfl) rfl ?_
    refine fg_iaddN (fg_ft (pc := 22) tb_Mo_thing 13 rfl) ?_
    refine fg_ialdV (v := (nI ((A.ts town) 6))) (fg_ft (pc := 23) tb_Mo_thing 14 rfl) ly_288 (fg_lt ly_288 (by decide)) (by omega) (fg_MTat hM0 (i := (610 + 152 * town) + 6) (k := 6) (by omega) (by omega)) ?_
    refine fg_iconst (fg_ft (pc := 24) tb_Mo_thing 15 rfl) ic_1 ?_
    refine fg_isub (fg_ft (pc := 25) tb_Mo_thing 16 rfl) ?_
    refine fg_callS (fg_ft (pc := 26) tb_Mo_thing 17 rfl) cf_Mo_110 (as := [.int (nI k), .int (nI 0), .int ((nI ((A.ts town) 6)) - (nI 1))]) (st := []) rfl rfl (Nat.le_of_ble_eq_true rfl) (Nat.le_refl _) (Nat.le_refl _) (ev_Mo_isIn0 (k := k) (c := ((A.ts town) 6)) (hk) (by omega) ?_)
    refine fg_ifB_eq (tgt := 45) (fg_ft (pc := 29) tb_Mo_thing 18 rfl) (by decide) (fun c29 => ?_) (fun c29 => ?_)
    · refine fg_iconst (fg_ft (pc := 45) tb_Mo_thing 26 rfl) ic_m1 ?_
      exact fg_iret (fg_ft (pc := 46) tb_Mo_thing 27 rfl) rfl rfl (fg_q (hQ _ (fg_agR_rf μ)) (by unfold fg_thg; first | (rw [if_neg c6]; done) | (rw [if_pos c6, if_neg (fun hh => c29 hh.1)]; done) | (rw [if_pos c6, if_neg (fun hh => c42 hh.2)]; done) | (rw [if_pos c6, if_pos ⟨c29, c42⟩, Nat.mul_comm k 2]; done) | (rw [if_pos c6, if_pos ⟨c29, c42⟩]; done)))
    · refine fg_iload (fg_ft (pc := 32) tb_Mo_thing 19 rfl) rfl ?_
      refine fg_iconst (fg_ft (pc := 34) tb_Mo_thing 20 rfl) ic_0 ?_
      refine fg_iload (fg_ft (pc := 35) tb_Mo_thing 21 rfl) rfl ?_
      refine fg_iconst (fg_ft (pc := 37) tb_Mo_thing 22 rfl) ic_1 ?_
      refine fg_isub (fg_ft (pc := 38) tb_Mo_thing 23 rfl) ?_
      refine fg_callS (fg_ft (pc := 39) tb_Mo_thing 24 rfl) cf_Mo_110 (as := [.int (nI what), .int (nI 0), .int ((nI 2) - (nI 1))]) (st := []) rfl rfl (Nat.le_of_ble_eq_true rfl) (Nat.le_refl _) (Nat.le_refl _) (ev_Mo_isIn0 (k := what) (c := 2) hwhat (by decide) ?_)
      refine fg_ifB_ne (tgt := 47) (fg_ft (pc := 42) tb_Mo_thing 25 rfl) (by decide) (fun c42 => ?_) (fun c42 => ?_)
      · have hcb : k < A.ts town 6 := c29
        refine fg_aloadn (fg_ft (pc := 47) tb_Mo_thing 28 rfl) rfl ?_
        refine fg_getR (fg_ft (pc := 48) tb_Mo_thing 29 rfl) ff_Mo_7 ly_287 rfl (fg_lt ly_287 (by decide)) (rh_287_0 R) ?_
        refine fg_iconst (fg_ft (pc := 51) tb_Mo_thing 30 rfl) ic_0 ?_
        refine fg_iloadn (fg_ft (pc := 52) tb_Mo_thing 31 rfl) rfl ?_
        refine fg_callS (fg_ft (pc := 53) tb_Mo_thing 32 rfl) cf_Mo_166 (as := [.int (nI 0), .int (nI town)]) (st := [.ref 288]) rfl rfl (Nat.le_of_ble_eq_true rfl) (Nat.le_refl _) (Nat.le_refl _) (ev_Mo_placeOf0 (k := town) ?_)
        refine fg_iloadn (fg_ft (pc := 56) tb_Mo_thing 33 rfl) rfl ?_
        refine fg_iaddN (fg_ft (pc := 57) tb_Mo_thing 34 rfl) ?_
        refine fg_iload (fg_ft (pc := 58) tb_Mo_thing 35 rfl) rfl ?_
        refine fg_iload (fg_ft (pc := 60) tb_Mo_thing 36 rfl) rfl ?_
        refine fg_imulN (fg_ft (pc := 62) tb_Mo_thing 37 rfl) ?_
        refine fg_iaddN (fg_ft (pc := 63) tb_Mo_thing 38 rfl) ?_
        refine fg_iload (fg_ft (pc := 64) tb_Mo_thing 39 rfl) rfl ?_
        refine fg_iaddN (fg_ft (pc := 66) tb_Mo_thing 40 rfl) ?_
        refine fg_ialdV (v := (nI ((A.ts town) (139 + (k * 2 + what))))) (fg_ft (pc := 67) tb_Mo_thing 41 rfl) ly_288 (fg_lt ly_288 (by decide)) (by omega) (fg_MTat hM0 (i := (((610 + 152 * town) + 139) + (2 * k)) + what) (k := 139 + (k * 2 + what)) (by omega) (by omega)) ?_
        exact fg_iret (fg_ft (pc := 68) tb_Mo_thing 42 rfl) rfl rfl (fg_q (hQ _ (fg_agR_rf μ)) (by unfold fg_thg; first | (rw [if_neg c6]; done) | (rw [if_pos c6, if_neg (fun hh => c29 hh.1)]; done) | (rw [if_pos c6, if_neg (fun hh => c42 hh.2)]; done) | (rw [if_pos c6, if_pos ⟨c29, c42⟩, Nat.mul_comm k 2]; done) | (rw [if_pos c6, if_pos ⟨c29, c42⟩]; done)))
      · refine fg_iconst (fg_ft (pc := 45) tb_Mo_thing 26 rfl) ic_m1 ?_
        exact fg_iret (fg_ft (pc := 46) tb_Mo_thing 27 rfl) rfl rfl (fg_q (hQ _ (fg_agR_rf μ)) (by unfold fg_thg; first | (rw [if_neg c6]; done) | (rw [if_pos c6, if_neg (fun hh => c29 hh.1)]; done) | (rw [if_pos c6, if_neg (fun hh => c42 hh.2)]; done) | (rw [if_pos c6, if_pos ⟨c29, c42⟩, Nat.mul_comm k 2]; done) | (rw [if_pos c6, if_pos ⟨c29, c42⟩]; done)))
theorem ev_Mo_rule {E : fg_E} {d : Nat} {μ : Nat → Nat → Int32} {R : fg_T4} {Q : Option Value → fg_M → Prop} {A : fg_Tl} (hL : fg_ML (μ 288) A) (hw : fg_wA A) (h17 : μ 287 17 = -1) (h19 : μ 287 19 = nI 0) {town k what : Nat} (htown : town < 2 ^ 32) (hk : k < 2 ^ 32) (hwhat : what < 2 ^ 32) (hQ : ∀ μ' : Nat → Nat → Int32, fg_agR μ μ' → Q (some (.int (an_rule A town k what))) (μ', fg_rho R, 304)) : fg_Ev E yy_Mo_rule (d + 12) [.ref 287, .int (nI town), .int (nI k), .int (nI what)] (μ, fg_rho R, 304) 304 Q := by
  have ht2 := hw.2.1
  have hd3 := hw.2.2.1
  refine fg_intro (by decide +kernel) (Nat.le_of_ble_eq_true rfl) (fg_okAs rfl) (Nat.le_refl _) ?_
  refine fg_aloadn (fg_ft (pc := 0) tb_Mo_rule 0 rfl) rfl ?_
  refine fg_iloadn (fg_ft (pc := 1) tb_Mo_rule 1 rfl) rfl ?_
  refine fg_iconst (fg_ft (pc := 2) tb_Mo_rule 2 rfl) ic_1 ?_
  refine fg_bipush (fg_ft (pc := 3) tb_Mo_rule 3 rfl) ib_8 ?_
  refine fg_iconst (fg_ft (pc := 5) tb_Mo_rule 4 rfl) ic_2 ?_
  refine fg_iloadn (fg_ft (pc := 6) tb_Mo_rule 5 rfl) rfl ?_
  refine fg_iloadn (fg_ft (pc := 7) tb_Mo_rule 6 rfl) rfl ?_
  refine fg_callV (fg_ft (pc := 8) tb_Mo_rule 7 rfl) cf_Mo_175 (fg_isOf ly_287 rfl (fg_lt ly_287 (by decide))) (as := [.int (nI town), .int (nI 1), .int (nI 8), .int (nI 2), .int (nI k), .int (nI what)]) (st := []) rfl rfl (Nat.le_of_ble_eq_true rfl) (Nat.le_refl _) (Nat.le_refl _) (ev_Mo_thing1 hL hw htown hk hwhat ?_)
  intro μ1 ha1
  show fg_wp _ _ _ _ _ _ _ _ _ (μ1, fg_rho R, 304)
  exact fg_iret (fg_ft (pc := 11) tb_Mo_rule 8 rfl) rfl rfl (hQ _ ha1)
theorem ev_Mo_person {E : fg_E} {d : Nat} {μ : Nat → Nat → Int32} {R : fg_T4} {Q : Option Value → fg_M → Prop} {A : fg_Tl} (hL : fg_ML (μ 288) A) (hw : fg_wA A) (h17 : μ 287 17 = -1) (h19 : μ 287 19 = nI 0) {town k what : Nat} (htown : town < 2 ^ 32) (hk : k < 2 ^ 32) (hwhat : what < 2 ^ 32) (hQ : ∀ μ' : Nat → Nat → Int32, fg_agR μ μ' → Q (some (.int (an_person A town k what))) (μ', fg_rho R, 304)) : fg_Ev E yy_Mo_person (d + 12) [.ref 287, .int (nI town), .int (nI k), .int (nI what)] (μ, fg_rho R, 304) 304 Q := by
  have ht2 := hw.2.1
  have hd3 := hw.2.2.1
  refine fg_intro (by decide +kernel) (Nat.le_of_ble_eq_true rfl) (fg_okAs rfl) (Nat.le_refl _) ?_
  refine fg_aloadn (fg_ft (pc := 0) tb_Mo_person 0 rfl) rfl ?_
  refine fg_iloadn (fg_ft (pc := 1) tb_Mo_person 1 rfl) rfl ?_
  refine fg_iconst (fg_ft (pc := 2) tb_Mo_person 2 rfl) ic_2 ?_
  refine fg_bipush (fg_ft (pc := 3) tb_Mo_person 3 rfl) ib_40 ?_
  refine fg_iconst (fg_ft (pc := 5) tb_Mo_person 4 rfl) ic_3 ?_
  refine fg_iloadn (fg_ft (pc := 6) tb_Mo_person 5 rfl) rfl ?_
  refine fg_iloadn (fg_ft (pc := 7) tb_Mo_person 6 rfl) rfl ?_
  refine fg_callV (fg_ft (pc := 8) tb_Mo_person 7 rfl) cf_Mo_175 (fg_isOf ly_287 rfl (fg_lt ly_287 (by decide))) (as := [.int (nI town), .int (nI 2), .int (nI 40), .int (nI 3), .int (nI k), .int (nI what)]) (st := []) rfl rfl (Nat.le_of_ble_eq_true rfl) (Nat.le_refl _) (Nat.le_refl _) (ev_Mo_thing2 hL hw htown hk hwhat ?_)
  intro μ1 ha1
  show fg_wp _ _ _ _ _ _ _ _ _ (μ1, fg_rho R, 304)
  exact fg_iret (fg_ft (pc := 11) tb_Mo_person 8 rfl) rfl rfl (hQ _ ha1)
theorem ev_Mo_sign {E : fg_E} {d : Nat} {μ : Nat → Nat → Int32} {R : fg_T4} {Q : Option Value → fg_M → Prop} {A : fg_Tl} (hL : fg_ML (μ 288) A) (hw : fg_wA A) (h17 : μ 287 17 = -1) (h19 : μ 287 19 = nI 0) {town k what : Nat} (htown : town < 2 ^ 32) (hk : k < 2 ^ 32) (hwhat : what < 2 ^ 32) (hQ : ∀ μ' : Nat → Nat → Int32, fg_agR μ μ' → Q (some (.int (an_sign A town k what))) (μ', fg_rho R, 304)) : fg_Ev E yy_Mo_sign (d + 12) [.ref 287, .int (nI town), .int (nI k), .int (nI what)] (μ, fg_rho R, 304) 304 Q := by
  have ht2 := hw.2.1
  have hd3 := hw.2.2.1
  refine fg_intro (by decide +kernel) (Nat.le_of_ble_eq_true rfl) (fg_okAs rfl) (Nat.le_refl _) ?_
  refine fg_aloadn (fg_ft (pc := 0) tb_Mo_sign 0 rfl) rfl ?_
  refine fg_iloadn (fg_ft (pc := 1) tb_Mo_sign 1 rfl) rfl ?_
  refine fg_iconst (fg_ft (pc := 2) tb_Mo_sign 2 rfl) ic_3 ?_
  refine fg_bipush (fg_ft (pc := 3) tb_Mo_sign 3 rfl) ib_55 ?_
  refine fg_iconst (fg_ft (pc := 5) tb_Mo_sign 4 rfl) ic_2 ?_
  refine fg_iloadn (fg_ft (pc := 6) tb_Mo_sign 5 rfl) rfl ?_
  refine fg_iloadn (fg_ft (pc := 7) tb_Mo_sign 6 rfl) rfl ?_
  refine fg_callV (fg_ft (pc := 8) tb_Mo_sign 7 rfl) cf_Mo_175 (fg_isOf ly_287 rfl (fg_lt ly_287 (by decide))) (as := [.int (nI town), .int (nI 3), .int (nI 55), .int (nI 2), .int (nI k), .int (nI what)]) (st := []) rfl rfl (Nat.le_of_ble_eq_true rfl) (Nat.le_refl _) (Nat.le_refl _) (ev_Mo_thing3 hL hw htown hk hwhat ?_)
  intro μ1 ha1
  show fg_wp _ _ _ _ _ _ _ _ _ (μ1, fg_rho R, 304)
  exact fg_iret (fg_ft (pc := 11) tb_Mo_sign 8 rfl) rfl rfl (hQ _ ha1)
theorem ev_Mo_meet {E : fg_E} {d : Nat} {μ : Nat → Nat → Int32} {R : fg_T4} {Q : Option Value → fg_M → Prop} {A : fg_Tl} (hL : fg_ML (μ 288) A) (hw : fg_wA A) (h17 : μ 287 17 = -1) (h19 : μ 287 19 = nI 0) {town k what : Nat} (htown : town < 2 ^ 32) (hk : k < 2 ^ 32) (hwhat : what < 2 ^ 32) (hQ : ∀ μ' : Nat → Nat → Int32, fg_agR μ μ' → Q (some (.int (an_meet A town k what))) (μ', fg_rho R, 304)) : fg_Ev E yy_Mo_meet (d + 12) [.ref 287, .int (nI town), .int (nI k), .int (nI what)] (μ, fg_rho R, 304) 304 Q := by
  have ht2 := hw.2.1
  have hd3 := hw.2.2.1
  refine fg_intro (by decide +kernel) (Nat.le_of_ble_eq_true rfl) (fg_okAs rfl) (Nat.le_refl _) ?_
  refine fg_aloadn (fg_ft (pc := 0) tb_Mo_meet 0 rfl) rfl ?_
  refine fg_iloadn (fg_ft (pc := 1) tb_Mo_meet 1 rfl) rfl ?_
  refine fg_iconst (fg_ft (pc := 2) tb_Mo_meet 2 rfl) ic_4 ?_
  refine fg_bipush (fg_ft (pc := 3) tb_Mo_meet 3 rfl) ib_79 ?_
  refine fg_iconst (fg_ft (pc := 5) tb_Mo_meet 4 rfl) ic_4 ?_
  refine fg_iloadn (fg_ft (pc := 6) tb_Mo_meet 5 rfl) rfl ?_
  refine fg_iloadn (fg_ft (pc := 7) tb_Mo_meet 6 rfl) rfl ?_
  refine fg_callV (fg_ft (pc := 8) tb_Mo_meet 7 rfl) cf_Mo_175 (fg_isOf ly_287 rfl (fg_lt ly_287 (by decide))) (as := [.int (nI town), .int (nI 4), .int (nI 79), .int (nI 4), .int (nI k), .int (nI what)]) (st := []) rfl rfl (Nat.le_of_ble_eq_true rfl) (Nat.le_refl _) (Nat.le_refl _) (ev_Mo_thing4 hL hw htown hk hwhat ?_)
  intro μ1 ha1
  show fg_wp _ _ _ _ _ _ _ _ _ (μ1, fg_rho R, 304)
  exact fg_iret (fg_ft (pc := 11) tb_Mo_meet 8 rfl) rfl rfl (hQ _ ha1)
theorem ev_Mo_skill0 {E : fg_E} {d : Nat} {μ : Nat → Nat → Int32} {R : fg_T4} {Q : Option Value → fg_M → Prop} {A : fg_Tl} (hL : fg_ML (μ 288) A) (hw : fg_wA A) (h17 : μ 287 17 = -1) (h19 : μ 287 19 = nI 0) {town k what : Nat} (htown : town < 2 ^ 32) (hk : k < 2 ^ 32) (hwhat : what < 2 ^ 32) (hQ : ∀ μ' : Nat → Nat → Int32, fg_agR μ μ' → Q (some (.int (an_skill A town k 0 what))) (μ', fg_rho R, 304)) : fg_Ev E yy_Mo_skill (d + 12) [.ref 287, .int (nI town), .int (nI k), .int (nI 0), .int (nI what)] (μ, fg_rho R, 304) 304 Q := by
  have ht2 := hw.2.1
  have hd3 := hw.2.2.1
  refine fg_intro (by decide +kernel) (Nat.le_of_ble_eq_true rfl) (fg_okAs rfl) (Nat.le_refl _) ?_
  refine fg_aloadn (fg_ft (pc := 0) tb_Mo_skill 0 rfl) rfl ?_
  refine fg_iloadn (fg_ft (pc := 1) tb_Mo_skill 1 rfl) rfl ?_
  refine fg_iloadn (fg_ft (pc := 2) tb_Mo_skill 2 rfl) rfl ?_
  refine fg_if_eq (tgt := 11) (fg_ft (pc := 3) tb_Mo_skill 3 rfl) (by decide) (fun _ => ?_) (fun h => absurd h (by decide))
  refine fg_iconst (fg_ft (pc := 11) tb_Mo_skill 6 rfl) ic_5 ?_
  refine fg_iloadn (fg_ft (pc := 12) tb_Mo_skill 7 rfl) rfl ?_
  refine fg_if_eq (tgt := 22) (fg_ft (pc := 13) tb_Mo_skill 8 rfl) (by decide) (fun _ => ?_) (fun h => absurd h (by decide))
  refine fg_bipush (fg_ft (pc := 22) tb_Mo_skill 11 rfl) ib_127 ?_
  refine fg_iconst (fg_ft (pc := 24) tb_Mo_skill 12 rfl) ic_2 ?_
  refine fg_iloadn (fg_ft (pc := 25) tb_Mo_skill 13 rfl) rfl ?_
  refine fg_iload (fg_ft (pc := 26) tb_Mo_skill 14 rfl) rfl ?_
  refine fg_callV (fg_ft (pc := 28) tb_Mo_skill 15 rfl) cf_Mo_175 (fg_isOf ly_287 rfl (fg_lt ly_287 (by decide))) (as := [.int (nI town), .int (nI 5), .int (nI 127), .int (nI 2), .int (nI k), .int (nI what)]) (st := []) rfl rfl (Nat.le_of_ble_eq_true rfl) (Nat.le_refl _) (Nat.le_refl _) (ev_Mo_thing5 hL hw htown hk hwhat ?_)
  intro μ1 ha1
  show fg_wp _ _ _ _ _ _ _ _ _ (μ1, fg_rho R, 304)
  exact fg_iret (fg_ft (pc := 31) tb_Mo_skill 16 rfl) rfl rfl (fg_q (hQ _ ha1) (by unfold an_skill; rw [if_pos (by decide)]))
theorem ev_Mo_skill1 {E : fg_E} {d : Nat} {μ : Nat → Nat → Int32} {R : fg_T4} {Q : Option Value → fg_M → Prop} {A : fg_Tl} (hL : fg_ML (μ 288) A) (hw : fg_wA A) (h17 : μ 287 17 = -1) (h19 : μ 287 19 = nI 0) {town k what : Nat} (htown : town < 2 ^ 32) (hk : k < 2 ^ 32) (hwhat : what < 2 ^ 32) (hQ : ∀ μ' : Nat → Nat → Int32, fg_agR μ μ' → Q (some (.int (an_skill A town k 1 what))) (μ', fg_rho R, 304)) : fg_Ev E yy_Mo_skill (d + 12) [.ref 287, .int (nI town), .int (nI k), .int (nI 1), .int (nI what)] (μ, fg_rho R, 304) 304 Q := by
  have ht2 := hw.2.1
  have hd3 := hw.2.2.1
  refine fg_intro (by decide +kernel) (Nat.le_of_ble_eq_true rfl) (fg_okAs rfl) (Nat.le_refl _) ?_
  refine fg_aloadn (fg_ft (pc := 0) tb_Mo_skill 0 rfl) rfl ?_
  refine fg_iloadn (fg_ft (pc := 1) tb_Mo_skill 1 rfl) rfl ?_
  refine fg_iloadn (fg_ft (pc := 2) tb_Mo_skill 2 rfl) rfl ?_
  refine fg_if_eq (tgt := 11) (fg_ft (pc := 3) tb_Mo_skill 3 rfl) (by decide) (fun h => absurd h (by decide)) (fun _ => ?_)
  refine fg_bipush (fg_ft (pc := 6) tb_Mo_skill 4 rfl) ib_6 ?_
  refine fg_goto (tgt := 12) (fg_ft (pc := 8) tb_Mo_skill 5 rfl) (by decide) ?_
  refine fg_iloadn (fg_ft (pc := 12) tb_Mo_skill 7 rfl) rfl ?_
  refine fg_if_eq (tgt := 22) (fg_ft (pc := 13) tb_Mo_skill 8 rfl) (by decide) (fun h => absurd h (by decide)) (fun _ => ?_)
  refine fg_sipush (fg_ft (pc := 16) tb_Mo_skill 9 rfl) is_139 ?_
  refine fg_goto (tgt := 24) (fg_ft (pc := 19) tb_Mo_skill 10 rfl) (by decide) ?_
  refine fg_iconst (fg_ft (pc := 24) tb_Mo_skill 12 rfl) ic_2 ?_
  refine fg_iloadn (fg_ft (pc := 25) tb_Mo_skill 13 rfl) rfl ?_
  refine fg_iload (fg_ft (pc := 26) tb_Mo_skill 14 rfl) rfl ?_
  refine fg_callV (fg_ft (pc := 28) tb_Mo_skill 15 rfl) cf_Mo_175 (fg_isOf ly_287 rfl (fg_lt ly_287 (by decide))) (as := [.int (nI town), .int (nI 6), .int (nI 139), .int (nI 2), .int (nI k), .int (nI what)]) (st := []) rfl rfl (Nat.le_of_ble_eq_true rfl) (Nat.le_refl _) (Nat.le_refl _) (ev_Mo_thing6 hL hw htown hk hwhat ?_)
  intro μ1 ha1
  show fg_wp _ _ _ _ _ _ _ _ _ (μ1, fg_rho R, 304)
  exact fg_iret (fg_ft (pc := 31) tb_Mo_skill 16 rfl) rfl rfl (fg_q (hQ _ ha1) (by unfold an_skill; rw [if_neg (by decide)]))
theorem ev_Mo_act {E : fg_E} {d : Nat} {μ : Nat → Nat → Int32} {R : fg_T4} {Q : Option Value → fg_M → Prop} {A : fg_Tl} (hL : fg_ML (μ 288) A) (hw : fg_wA A) (h17 : μ 287 17 = -1) (h19 : μ 287 19 = nI 0) {day act what : Nat} (hday : day < 2 ^ 32) (hact : act < 2 ^ 32) (hwhat : what < 2 ^ 32) (hQ : ∀ μ' : Nat → Nat → Int32, fg_agR μ μ' → Q (some (.int (an_act A day act what))) (μ', fg_rho R, 304)) : fg_Ev E yy_Mo_act (d + 12) [.ref 287, .int (nI day), .int (nI act), .int (nI what)] (μ, fg_rho R, 304) 304 Q := by
  have ht2 := hw.2.1
  have hd3 := hw.2.2.1
  refine fg_intro (by decide +kernel) (Nat.le_of_ble_eq_true rfl) (fg_okAs rfl) (Nat.le_refl _) ?_
  refine fg_aloadn (fg_ft (pc := 0) tb_Mo_act 0 rfl) rfl ?_
  refine fg_iconst (fg_ft (pc := 1) tb_Mo_act 1 rfl) ic_1 ?_
  refine fg_iloadn (fg_ft (pc := 2) tb_Mo_act 2 rfl) rfl ?_
  refine fg_callV (fg_ft (pc := 3) tb_Mo_act 3 rfl) cf_Mo_156 (fg_isOf ly_287 rfl (fg_lt ly_287 (by decide))) (as := [.int (nI 1), .int (nI day)]) (st := []) rfl rfl (Nat.le_of_ble_eq_true rfl) (Nat.le_refl _) (Nat.le_refl _) (ev_Mo_isOf1 hL hw (k := day) (hday) ?_)
  refine fg_ifB_ne (tgt := 12) (fg_ft (pc := 6) tb_Mo_act 4 rfl) (by decide) (fun c6 => ?_) (fun c6 => ?_)
  · have hD := hL.2.2.2 day c6
    have hn30 := (hw.2.2.2.2 day c6).1
    refine fg_iconst (fg_ft (pc := 12) tb_Mo_act 7 rfl) ic_1 ?_
    refine fg_iloadn (fg_ft (pc := 13) tb_Mo_act 8 rfl) rfl ?_
    refine fg_callS (fg_ft (pc := 14) tb_Mo_act 9 rfl) cf_Mo_166 (as := [.int (nI 1), .int (nI day)]) (st := []) rfl rfl (Nat.le_of_ble_eq_true rfl) (Nat.le_refl _) (Nat.le_refl _) (ev_Mo_placeOf1 (k := day) ?_)
    refine fg_istore (fg_ft (pc := 17) tb_Mo_act 10 rfl) (Nat.le_of_ble_eq_true rfl) ?_
    refine fg_iloadn (fg_ft (pc := 19) tb_Mo_act 11 rfl) rfl ?_
    refine fg_iconst (fg_ft (pc := 20) tb_Mo_act 12 rfl) ic_m1 ?_
    refine fg_icmp_neM (tgt := 41) (fg_ft (pc := 21) tb_Mo_act 13 rfl) (by decide) (hact) (fun c21 => ?_) (fun c21 => ?_)
    · refine fg_iloadn (fg_ft (pc := 41) tb_Mo_act 23 rfl) rfl ?_
      refine fg_iconst (fg_ft (pc := 42) tb_Mo_act 24 rfl) ic_0 ?_
      refine fg_aloadn (fg_ft (pc := 43) tb_Mo_act 25 rfl) rfl ?_
      refine fg_getR (fg_ft (pc := 44) tb_Mo_act 26 rfl) ff_Mo_7 ly_287 rfl (fg_lt ly_287 (by decide)) (rh_287_0 R) ?_
      refine fg_iload (fg_ft (pc := 47) tb_Mo_act 27 rfl) rfl ?_
      refine fg_ialdV (v := (nI (A.nd day))) (fg_ft (pc := 49) tb_Mo_act 28 rfl) ly_288 (fg_lt ly_288 (by decide)) (by omega) hD.1 ?_
      refine fg_iconst (fg_ft (pc := 50) tb_Mo_act 29 rfl) ic_1 ?_
      refine fg_isub (fg_ft (pc := 51) tb_Mo_act 30 rfl) ?_
      refine fg_callS (fg_ft (pc := 52) tb_Mo_act 31 rfl) cf_Mo_110 (as := [.int (nI act), .int (nI 0), .int ((nI (A.nd day)) - (nI 1))]) (st := []) rfl rfl (Nat.le_of_ble_eq_true rfl) (Nat.le_refl _) (Nat.le_refl _) (ev_Mo_isIn0 (k := act) (c := (A.nd day)) (hact) (by omega) ?_)
      refine fg_ifB_eq (tgt := 85) (fg_ft (pc := 55) tb_Mo_act 32 rfl) (by decide) (fun c55 => ?_) (fun c55 => ?_)
      · refine fg_bipush (fg_ft (pc := 85) tb_Mo_act 51 rfl) ib_m2 ?_
        exact fg_iret (fg_ft (pc := 87) tb_Mo_act 52 rfl) rfl rfl (fg_q (hQ _ (fg_agR_rf μ)) (by unfold an_act; first | (rw [if_neg c6]; done) | (rw [if_pos c6, if_pos ⟨c21, c25⟩]; done) | (rw [if_pos c6, if_neg (fun hh => c25 hh.2), if_neg (by omega)]; done) | (rw [if_pos c6, if_neg (fun hh => c21 hh.1), if_pos ⟨c55, by omega⟩]; done) | (rw [if_pos c6, if_neg (fun hh => c21 hh.1), if_neg (by omega)]; done)))
      · refine fg_iloadn (fg_ft (pc := 58) tb_Mo_act 33 rfl) rfl ?_
        refine fg_iconst (fg_ft (pc := 59) tb_Mo_act 34 rfl) ic_0 ?_
        refine fg_iconst (fg_ft (pc := 60) tb_Mo_act 35 rfl) ic_3 ?_
        refine fg_callS (fg_ft (pc := 61) tb_Mo_act 36 rfl) cf_Mo_110 (as := [.int (nI what), .int (nI 0), .int (nI 3)]) (st := []) rfl rfl (Nat.le_of_ble_eq_true rfl) (Nat.le_refl _) (Nat.le_refl _) (ev_Mo_isInC (k := what) (a := 0) (b := 3) (hwhat) (by omega) (by omega) ?_)
        refine fg_ifB_eq (tgt := 85) (fg_ft (pc := 64) tb_Mo_act 37 rfl) (by decide) (fun c64 => ?_) (fun c64 => ?_)
        · refine fg_bipush (fg_ft (pc := 85) tb_Mo_act 51 rfl) ib_m2 ?_
          exact fg_iret (fg_ft (pc := 87) tb_Mo_act 52 rfl) rfl rfl (fg_q (hQ _ (fg_agR_rf μ)) (by unfold an_act; first | (rw [if_neg c6]; done) | (rw [if_pos c6, if_pos ⟨c21, c25⟩]; done) | (rw [if_pos c6, if_neg (fun hh => c25 hh.2), if_neg (by omega)]; done) | (rw [if_pos c6, if_neg (fun hh => c21 hh.1), if_pos ⟨c55, by omega⟩]; done) | (rw [if_pos c6, if_neg (fun hh => c21 hh.1), if_neg (by omega)]; done)))
        · refine fg_aloadn (fg_ft (pc := 67) tb_Mo_act 38 rfl) rfl ?_
          refine fg_getR (fg_ft (pc := 68) tb_Mo_act 39 rfl) ff_Mo_7 ly_287 rfl (fg_lt ly_287 (by decide)) (rh_287_0 R) ?_
          refine fg_iload (fg_ft (pc := 71) tb_Mo_act 40 rfl) rfl ?_
          refine fg_iconst (fg_ft (pc := 73) tb_Mo_act 41 rfl) ic_1 ?_
          refine fg_iaddN (fg_ft (pc := 74) tb_Mo_act 42 rfl) ?_
          refine fg_iconst (fg_ft (pc := 75) tb_Mo_act 43 rfl) ic_4 ?_
          refine fg_iloadn (fg_ft (pc := 76) tb_Mo_act 44 rfl) rfl ?_
          refine fg_imulN (fg_ft (pc := 77) tb_Mo_act 45 rfl) ?_
          refine fg_iaddN (fg_ft (pc := 78) tb_Mo_act 46 rfl) ?_
          refine fg_iloadn (fg_ft (pc := 79) tb_Mo_act 47 rfl) rfl ?_
          refine fg_iaddN (fg_ft (pc := 80) tb_Mo_act 48 rfl) ?_
          refine fg_ialdV (v := (A.ds day (1 + (act * 4 + what)))) (fg_ft (pc := 81) tb_Mo_act 49 rfl) ly_288 (fg_lt ly_288 (by decide)) (by omega) (by rw [show (914 + 122 * day + 1) + (4 * act) + what = 914 + 122 * day + (1 + (act * 4 + what)) by omega]; exact hD.2 (act * 4 + what) (by omega)) ?_
          refine fg_goto (tgt := 87) (fg_ft (pc := 82) tb_Mo_act 50 rfl) (by decide) ?_
          exact fg_iret (fg_ft (pc := 87) tb_Mo_act 52 rfl) rfl rfl (fg_q (hQ _ (fg_agR_rf μ)) (by unfold an_act; first | (rw [if_neg c6]; done) | (rw [if_pos c6, if_pos ⟨c21, c25⟩]; done) | (rw [if_pos c6, if_neg (fun hh => c25 hh.2), if_neg (by omega)]; done) | (rw [if_pos c6, if_neg (fun hh => c21 hh.1), if_pos ⟨c55, by omega⟩]; done) | (rw [if_pos c6, if_neg (fun hh => c21 hh.1), if_neg (by omega)]; done)))
    · refine fg_iloadn (fg_ft (pc := 24) tb_Mo_act 14 rfl) rfl ?_
      refine fg_if_neW (tgt := 38) (fg_ft (pc := 25) tb_Mo_act 15 rfl) (by decide) (hwhat) (fun c25 => ?_) (fun c25 => ?_)
      · refine fg_bipush (fg_ft (pc := 38) tb_Mo_act 21 rfl) ib_m2 ?_
        exact fg_iret (fg_ft (pc := 40) tb_Mo_act 22 rfl) rfl rfl (fg_q (hQ _ (fg_agR_rf μ)) (by unfold an_act; first | (rw [if_neg c6]; done) | (rw [if_pos c6, if_pos ⟨c21, c25⟩]; done) | (rw [if_pos c6, if_neg (fun hh => c25 hh.2), if_neg (by omega)]; done) | (rw [if_pos c6, if_neg (fun hh => c21 hh.1), if_pos ⟨c55, by omega⟩]; done) | (rw [if_pos c6, if_neg (fun hh => c21 hh.1), if_neg (by omega)]; done)))
      · refine fg_aloadn (fg_ft (pc := 28) tb_Mo_act 16 rfl) rfl ?_
        refine fg_getR (fg_ft (pc := 29) tb_Mo_act 17 rfl) ff_Mo_7 ly_287 rfl (fg_lt ly_287 (by decide)) (rh_287_0 R) ?_
        refine fg_iload (fg_ft (pc := 32) tb_Mo_act 18 rfl) rfl ?_
        refine fg_ialdV (v := (nI (A.nd day))) (fg_ft (pc := 34) tb_Mo_act 19 rfl) ly_288 (fg_lt ly_288 (by decide)) (by omega) hD.1 ?_
        refine fg_goto (tgt := 40) (fg_ft (pc := 35) tb_Mo_act 20 rfl) (by decide) ?_
        exact fg_iret (fg_ft (pc := 40) tb_Mo_act 22 rfl) rfl rfl (fg_q (hQ _ (fg_agR_rf μ)) (by unfold an_act; first | (rw [if_neg c6]; done) | (rw [if_pos c6, if_pos ⟨c21, c25⟩]; done) | (rw [if_pos c6, if_neg (fun hh => c25 hh.2), if_neg (by omega)]; done) | (rw [if_pos c6, if_neg (fun hh => c21 hh.1), if_pos ⟨c55, by omega⟩]; done) | (rw [if_pos c6, if_neg (fun hh => c21 hh.1), if_neg (by omega)]; done)))
  · refine fg_bipush (fg_ft (pc := 9) tb_Mo_act 5 rfl) ib_m2 ?_
    exact fg_iret (fg_ft (pc := 11) tb_Mo_act 6 rfl) rfl rfl (fg_q (hQ _ (fg_agR_rf μ)) (by unfold an_act; first | (rw [if_neg c6]; done) | (rw [if_pos c6, if_pos ⟨c21, c25⟩]; done) | (rw [if_pos c6, if_neg (fun hh => c25 hh.2), if_neg (by omega)]; done) | (rw [if_pos c6, if_neg (fun hh => c21 hh.1), if_pos ⟨c55, by omega⟩]; done) | (rw [if_pos c6, if_neg (fun hh => c21 hh.1), if_neg (by omega)]; done)))
theorem ev_Mo_reach {E : fg_E} {d : Nat} {μ : Nat → Nat → Int32} {R : fg_T4} {Q : Option Value → fg_M → Prop} {A : fg_Tl} (hL : fg_ML (μ 288) A) (hw : fg_wA A) (h17 : μ 287 17 = -1) (h19 : μ 287 19 = nI 0) {town facts : Nat} (htown : town < 2 ^ 32) (hfacts : facts < 2 ^ 32) (hQ : ∀ μ' : Nat → Nat → Int32, fg_agR μ μ' → Q (some (.int (an_reach A town facts))) (μ', fg_rho R, 304)) : fg_Ev E yy_Mo_reach (d + 12) [.ref 287, .int (nI town), .int (nI facts)] (μ, fg_rho R, 304) 304 Q := by
  have ht2 := hw.2.1
  have hd3 := hw.2.2.1
  refine fg_intro (by decide +kernel) (Nat.le_of_ble_eq_true rfl) (fg_okAs rfl) (Nat.le_refl _) ?_
  refine fg_aloadn (fg_ft (pc := 0) tb_Mo_reach 0 rfl) rfl ?_
  refine fg_iconst (fg_ft (pc := 1) tb_Mo_reach 1 rfl) ic_0 ?_
  refine fg_iloadn (fg_ft (pc := 2) tb_Mo_reach 2 rfl) rfl ?_
  refine fg_callV (fg_ft (pc := 3) tb_Mo_reach 3 rfl) cf_Mo_156 (fg_isOf ly_287 rfl (fg_lt ly_287 (by decide))) (as := [.int (nI 0), .int (nI town)]) (st := []) rfl rfl (Nat.le_of_ble_eq_true rfl) (Nat.le_refl _) (Nat.le_refl _) (ev_Mo_isOf0 hL hw (k := town) (htown) ?_)
  refine fg_ifB_eq (tgt := 22) (fg_ft (pc := 6) tb_Mo_reach 4 rfl) (by decide) (fun c6 => ?_) (fun c6 => ?_)
  · refine fg_iconst (fg_ft (pc := 22) tb_Mo_reach 12 rfl) ic_m1 ?_
    exact fg_iret (fg_ft (pc := 23) tb_Mo_reach 13 rfl) rfl rfl (fg_q (hQ _ (fg_agR_rf μ)) (by unfold an_reach; ((repeat (first | rw [if_pos (by assumption)] | rw [if_neg (by assumption)] | rw [if_pos (by omega)] | rw [if_neg (by omega)] | rw [if_pos (by constructor <;> assumption)] | rw [if_neg (by intro hh; exact absurd hh.1 (by assumption))] | rw [if_neg (by intro hh; exact absurd hh.2 (by assumption))])); (try rfl))))
  · have hok := hw.2.2.2.1 town c6
    have hM0 := hL.2.2.1 town c6
    have hv0 := hM0.1
    refine fg_aloadn (fg_ft (pc := 9) tb_Mo_reach 5 rfl) rfl ?_
    refine fg_iconst (fg_ft (pc := 10) tb_Mo_reach 6 rfl) ic_0 ?_
    refine fg_iloadn (fg_ft (pc := 11) tb_Mo_reach 7 rfl) rfl ?_
    refine fg_callS (fg_ft (pc := 12) tb_Mo_reach 8 rfl) cf_Mo_166 (as := [.int (nI 0), .int (nI town)]) (st := [.ref 287]) rfl rfl (Nat.le_of_ble_eq_true rfl) (Nat.le_refl _) (Nat.le_refl _) (ev_Mo_placeOf0 (k := town) ?_)
    refine fg_iloadn (fg_ft (pc := 15) tb_Mo_reach 9 rfl) rfl ?_
    refine fg_callV (fg_ft (pc := 16) tb_Mo_reach 10 rfl) cf_Mo_273 (fg_isOf ly_287 rfl (fg_lt ly_287 (by decide))) (as := [.int (nI (610 + 152 * town)), .int (nI facts)]) (st := []) rfl rfl (Nat.le_of_ble_eq_true rfl) (Nat.le_refl _) (Nat.le_refl _) (ev_Mo_areFacts hM0 hok (k := facts) (hfacts) ?_)
    refine fg_ifB_ne (tgt := 24) (fg_ft (pc := 19) tb_Mo_reach 11 rfl) (by decide) (fun c19 => ?_) (fun c19 => ?_)
    · refine fg_aloadn (fg_ft (pc := 24) tb_Mo_reach 14 rfl) rfl ?_
      refine fg_iconst (fg_ft (pc := 25) tb_Mo_reach 15 rfl) ic_0 ?_
      refine fg_iloadn (fg_ft (pc := 26) tb_Mo_reach 16 rfl) rfl ?_
      refine fg_callS (fg_ft (pc := 27) tb_Mo_reach 17 rfl) cf_Mo_166 (as := [.int (nI 0), .int (nI town)]) (st := [.ref 287]) rfl rfl (Nat.le_of_ble_eq_true rfl) (Nat.le_refl _) (Nat.le_refl _) (ev_Mo_placeOf0 (k := town) ?_)
      refine fg_callV (fg_ft (pc := 30) tb_Mo_reach 18 rfl) cf_Mo_197 (fg_isOf ly_287 rfl (fg_lt ly_287 (by decide))) (as := [.int (nI (610 + 152 * town))]) (st := []) rfl rfl (Nat.le_of_ble_eq_true rfl) (Nat.le_refl _) (Nat.le_refl _) (ev_Mo_closes hM0 hok ?_)
      intro μ1 hc1 hC1
      have hM1 := hM0.ag (hc1 288 (by decide))
      show fg_wp _ _ _ _ _ _ _ _ _ (μ1, fg_rho R, 304)
      refine fg_aloadn (fg_ft (pc := 33) tb_Mo_reach 19 rfl) rfl ?_
      refine fg_iconst (fg_ft (pc := 34) tb_Mo_reach 20 rfl) ic_0 ?_
      refine fg_iloadn (fg_ft (pc := 35) tb_Mo_reach 21 rfl) rfl ?_
      refine fg_callS (fg_ft (pc := 36) tb_Mo_reach 22 rfl) cf_Mo_166 (as := [.int (nI 0), .int (nI town)]) (st := [.ref 287]) rfl rfl (Nat.le_of_ble_eq_true rfl) (Nat.le_refl _) (Nat.le_refl _) (ev_Mo_placeOf0 (k := town) ?_)
      refine fg_iloadn (fg_ft (pc := 39) tb_Mo_reach 23 rfl) rfl ?_
      refine fg_callV (fg_ft (pc := 40) tb_Mo_reach 24 rfl) cf_Mo_206 (fg_isOf ly_287 rfl (fg_lt ly_287 (by decide))) (as := [.int (nI (610 + 152 * town)), .int (nI facts)]) (st := []) rfl rfl (Nat.le_of_ble_eq_true rfl) (Nat.le_refl _) (Nat.le_refl _) (ev_Mo_follow hM1 hok hC1 (s := facts) (c19) ?_)
      exact fg_iret (fg_ft (pc := 43) tb_Mo_reach 25 rfl) rfl rfl (fg_q (hQ _ (fg_agR_A (fg_agA_C hc1))) (by unfold an_reach; ((repeat (first | rw [if_pos (by assumption)] | rw [if_neg (by assumption)] | rw [if_pos (by omega)] | rw [if_neg (by omega)] | rw [if_pos (by constructor <;> assumption)] | rw [if_neg (by intro hh; exact absurd hh.1 (by assumption))] | rw [if_neg (by intro hh; exact absurd hh.2 (by assumption))])); (try rfl))))
    · refine fg_iconst (fg_ft (pc := 22) tb_Mo_reach 12 rfl) ic_m1 ?_
      exact fg_iret (fg_ft (pc := 23) tb_Mo_reach 13 rfl) rfl rfl (fg_q (hQ _ (fg_agR_rf μ)) (by unfold an_reach; ((repeat (first | rw [if_pos (by assumption)] | rw [if_neg (by assumption)] | rw [if_pos (by omega)] | rw [if_neg (by omega)] | rw [if_pos (by constructor <;> assumption)] | rw [if_neg (by intro hh; exact absurd hh.1 (by assumption))] | rw [if_neg (by intro hh; exact absurd hh.2 (by assumption))])); (try rfl))))
theorem ev_Mo_stop {E : fg_E} {d : Nat} {μ : Nat → Nat → Int32} {R : fg_T4} {Q : Option Value → fg_M → Prop} {A : fg_Tl} (hL : fg_ML (μ 288) A) (hw : fg_wA A) (h17 : μ 287 17 = -1) (h19 : μ 287 19 = nI 0) {town day : Nat} (htown : town < 2 ^ 32) (hday : day < 2 ^ 32) (hQ : ∀ μ' : Nat → Nat → Int32, fg_agR μ μ' → Q (some (.int (an_stop A town day))) (μ', fg_rho R, 304)) : fg_Ev E yy_Mo_stop (d + 12) [.ref 287, .int (nI town), .int (nI day)] (μ, fg_rho R, 304) 304 Q := by
  have ht2 := hw.2.1
  have hd3 := hw.2.2.1
  refine fg_intro (by decide +kernel) (Nat.le_of_ble_eq_true rfl) (fg_okAs rfl) (Nat.le_refl _) ?_
  refine fg_aloadn (fg_ft (pc := 0) tb_Mo_stop 0 rfl) rfl ?_
  refine fg_iconst (fg_ft (pc := 1) tb_Mo_stop 1 rfl) ic_0 ?_
  refine fg_iloadn (fg_ft (pc := 2) tb_Mo_stop 2 rfl) rfl ?_
  refine fg_callV (fg_ft (pc := 3) tb_Mo_stop 3 rfl) cf_Mo_156 (fg_isOf ly_287 rfl (fg_lt ly_287 (by decide))) (as := [.int (nI 0), .int (nI town)]) (st := []) rfl rfl (Nat.le_of_ble_eq_true rfl) (Nat.le_refl _) (Nat.le_refl _) (ev_Mo_isOf0 hL hw (k := town) (htown) ?_)
  refine fg_ifB_eq (tgt := 33) (fg_ft (pc := 6) tb_Mo_stop 4 rfl) (by decide) (fun c6 => ?_) (fun c6 => ?_)
  · refine fg_iconst (fg_ft (pc := 33) tb_Mo_stop 18 rfl) ic_m1 ?_
    exact fg_iret (fg_ft (pc := 34) tb_Mo_stop 19 rfl) rfl rfl (fg_q (hQ _ (fg_agR_rf μ)) (by unfold an_stop; first | (rw [if_neg c6]; done) | (rw [if_pos c6, if_neg c15]; done) | (rw [if_pos c6, if_pos c15, show min 99 (A.nd day) = A.nd day by have := (hw.2.2.2.2 day c15).1; omega]; done)))
  · refine fg_aloadn (fg_ft (pc := 9) tb_Mo_stop 5 rfl) rfl ?_
    refine fg_iconst (fg_ft (pc := 10) tb_Mo_stop 6 rfl) ic_1 ?_
    refine fg_iloadn (fg_ft (pc := 11) tb_Mo_stop 7 rfl) rfl ?_
    refine fg_callV (fg_ft (pc := 12) tb_Mo_stop 8 rfl) cf_Mo_156 (fg_isOf ly_287 rfl (fg_lt ly_287 (by decide))) (as := [.int (nI 1), .int (nI day)]) (st := []) rfl rfl (Nat.le_of_ble_eq_true rfl) (Nat.le_refl _) (Nat.le_refl _) (ev_Mo_isOf1 hL hw (k := day) (hday) ?_)
    refine fg_ifB_eq (tgt := 33) (fg_ft (pc := 15) tb_Mo_stop 9 rfl) (by decide) (fun c15 => ?_) (fun c15 => ?_)
    · refine fg_iconst (fg_ft (pc := 33) tb_Mo_stop 18 rfl) ic_m1 ?_
      exact fg_iret (fg_ft (pc := 34) tb_Mo_stop 19 rfl) rfl rfl (fg_q (hQ _ (fg_agR_rf μ)) (by unfold an_stop; first | (rw [if_neg c6]; done) | (rw [if_pos c6, if_neg c15]; done) | (rw [if_pos c6, if_pos c15, show min 99 (A.nd day) = A.nd day by have := (hw.2.2.2.2 day c15).1; omega]; done)))
    · refine fg_aloadn (fg_ft (pc := 18) tb_Mo_stop 10 rfl) rfl ?_
      refine fg_iconst (fg_ft (pc := 19) tb_Mo_stop 11 rfl) ic_0 ?_
      refine fg_iloadn (fg_ft (pc := 20) tb_Mo_stop 12 rfl) rfl ?_
      refine fg_callS (fg_ft (pc := 21) tb_Mo_stop 13 rfl) cf_Mo_166 (as := [.int (nI 0), .int (nI town)]) (st := [.ref 287]) rfl rfl (Nat.le_of_ble_eq_true rfl) (Nat.le_refl _) (Nat.le_refl _) (ev_Mo_placeOf0 (k := town) ?_)
      refine fg_iloadn (fg_ft (pc := 24) tb_Mo_stop 14 rfl) rfl ?_
      refine fg_bipush (fg_ft (pc := 25) tb_Mo_stop 15 rfl) ib_99 ?_
      refine fg_callV (fg_ft (pc := 27) tb_Mo_stop 16 rfl) cf_Mo_246 (fg_isOf ly_287 rfl (fg_lt ly_287 (by decide))) (as := [.int (nI (610 + 152 * town)), .int (nI day), .int (nI 99)]) (st := []) rfl rfl (Nat.le_of_ble_eq_true rfl) (Nat.le_refl _) (Nat.le_refl _) (ev_Mo_runs (v := (610 + 152 * town)) (T := (A.ts town)) (hL.2.2.1 town c6) (hw.2.2.2.1 town c6) h17 h19 hL hw (day := day) (most := 99) c15 (by decide) ?_)
      intro μ1 S lv n1 y1 ha1 hC1 hrun hS1
      show fg_wp _ _ _ _ _ _ _ _ _ (μ1, fg_rho R, 304)
      refine fg_goto (tgt := 34) (fg_ft (pc := 30) tb_Mo_stop 17 rfl) (by decide) ?_
      exact fg_iret (fg_ft (pc := 34) tb_Mo_stop 19 rfl) rfl rfl (fg_q (hQ _ (fg_agR_A ha1)) (by unfold an_stop; first | (rw [if_neg c6]; done) | (rw [if_pos c6, if_neg c15]; done) | (rw [if_pos c6, if_pos c15, show min 99 (A.nd day) = A.nd day by have := (hw.2.2.2.2 day c15).1; omega]; done)))
theorem ev_Mo_evening {E : fg_E} {d : Nat} {μ : Nat → Nat → Int32} {R : fg_T4} {Q : Option Value → fg_M → Prop} {A : fg_Tl} (hL : fg_ML (μ 288) A) (hw : fg_wA A) (h17 : μ 287 17 = -1) (h19 : μ 287 19 = nI 0) {town day n person : Nat} (htown : town < 2 ^ 32) (hday : day < 2 ^ 32) (hn : n < 2 ^ 32) (hperson : person < 2 ^ 32) (hQ : ∀ μ' : Nat → Nat → Int32, fg_agR μ μ' → Q (some (.int (an_evening A town day n person))) (μ', fg_rho R, 304)) : fg_Ev E yy_Mo_evening (d + 12) [.ref 287, .int (nI town), .int (nI day), .int (nI n), .int (nI person)] (μ, fg_rho R, 304) 304 Q := by
  have ht2 := hw.2.1
  have hd3 := hw.2.2.1
  refine fg_intro (by decide +kernel) (Nat.le_of_ble_eq_true rfl) (fg_okAs rfl) (Nat.le_refl _) ?_
  refine fg_aloadn (fg_ft (pc := 0) tb_Mo_evening 0 rfl) rfl ?_
  refine fg_iloadn (fg_ft (pc := 1) tb_Mo_evening 1 rfl) rfl ?_
  refine fg_iloadn (fg_ft (pc := 2) tb_Mo_evening 2 rfl) rfl ?_
  refine fg_iloadn (fg_ft (pc := 3) tb_Mo_evening 3 rfl) rfl ?_
  refine fg_iload (fg_ft (pc := 4) tb_Mo_evening 4 rfl) rfl ?_
  refine fg_callV (fg_ft (pc := 6) tb_Mo_evening 5 rfl) cf_Mo_258 (fg_isOf ly_287 rfl (fg_lt ly_287 (by decide))) (as := [.int (nI town), .int (nI day), .int (nI n), .int (nI person)]) (st := []) rfl rfl (Nat.le_of_ble_eq_true rfl) (Nat.le_refl _) (Nat.le_refl _) (ev_Mo_isOne hL hw h17 h19 htown hday hn hperson (fun n4 μ1 ha1 => ?_) (fun S lv y4 y5 μ1 n1 y1 ha1 hC1 hS1 => ?_))
  · refine fg_if_ne (tgt := 14) (fg_ft (pc := 9) tb_Mo_evening 6 rfl) (by decide) (fun h => absurd h (by decide)) (fun _ => ?_)
    refine fg_iconst (fg_ft (pc := 12) tb_Mo_evening 7 rfl) ic_m1 ?_
    exact fg_iret (fg_ft (pc := 13) tb_Mo_evening 8 rfl) rfl rfl (fg_q (hQ _ (fg_agR_A ha1)) (by unfold an_evening; rw [fg_g1_none n4] <;> ((repeat (first | rw [if_pos (by assumption)] | rw [if_neg (by assumption)] | rw [if_pos (by omega)] | rw [if_neg (by omega)] | rw [if_pos (by constructor <;> assumption)] | rw [if_neg (by intro hh; exact absurd hh.1 (by assumption))] | rw [if_neg (by intro hh; exact absurd hh.2 (by assumption))])); (try rfl))))
  · have ytc := fg_fnd_t y4
    have hok := hw.2.2.2.1 town ytc
    have hM1 := (hL.2.2.1 town ytc).ag ha1.m
    have hz : fg_zok (A.ts town) S.1 (S.2.1.1, 0, 0, 0) S.2.2 := fg_zok.news (fg_fnd_okW hw y4)
    have hv0 := hM1.1
    have hb0 := hok.1
    have hb1 := hok.2.1
    have hp := hok.p
    have hz9 := hz.1
    have hm2 := hz.2.1 person y5
    have hm0 : S.2.1.1 person < 2 ^ A.ts town 0 := hm2.1
    have hmc : fg_clsd (A.ts town) (S.2.1.1 person) := hm2.2
    have hm10 : S.2.1.1 person < 1024 := by omega
    refine fg_if_ne (tgt := 14) (fg_ft (pc := 9) tb_Mo_evening 6 rfl) (by decide) (fun _ => ?_) (fun h => absurd h (by decide))
    refine fg_aloadn (fg_ft (pc := 14) tb_Mo_evening 9 rfl) rfl ?_
    refine fg_iconst (fg_ft (pc := 15) tb_Mo_evening 10 rfl) ic_0 ?_
    refine fg_iloadn (fg_ft (pc := 16) tb_Mo_evening 11 rfl) rfl ?_
    refine fg_callS (fg_ft (pc := 17) tb_Mo_evening 12 rfl) cf_Mo_166 (as := [.int (nI 0), .int (nI town)]) (st := [.ref 287]) rfl rfl (Nat.le_of_ble_eq_true rfl) (Nat.le_refl _) (Nat.le_refl _) (ev_Mo_placeOf0 (k := town) ?_)
    refine fg_callV (fg_ft (pc := 20) tb_Mo_evening 13 rfl) cf_Mo_255 (fg_isOf ly_287 rfl (fg_lt ly_287 (by decide))) (as := [.int (nI (610 + 152 * town))]) (st := []) rfl rfl (Nat.le_of_ble_eq_true rfl) (Nat.le_refl _) (Nat.le_refl _) (ev_Mo_toEvening hM1 hok hC1 (h := S.1) (Z := (S.2.1.1, 0, 0, 0)) (hv := S.2.2) (lv := lv) (o := ((none : Option Nat), 0, 0)) (n0 := n1) (y := y1) hS1 hz (fun q hq => by cases hq) (by decide) (by decide) ?_)
    intro μ2 hag2 hS2
    have hM2 := hM1.agP hag2
    have hC2 := hC1.agP hag2
    have hS2 : fg_MS μ2 (A.ts town) (fg_ev (A.ts town) S) lv ((none : Option Nat), 0, 0) n1 y1 := hS2
    have hz2 := fg_ev_ok hok (S := S) hz
    show fg_wp _ _ _ _ _ _ _ _ _ (μ2, fg_rho R, 304)
    refine fg_aloadn (fg_ft (pc := 23) tb_Mo_evening 14 rfl) rfl ?_
    refine fg_getR (fg_ft (pc := 24) tb_Mo_evening 15 rfl) ff_Mo_23 ly_287 rfl (fg_lt ly_287 (by decide)) (rh_287_12 R) ?_
    refine fg_iload (fg_ft (pc := 27) tb_Mo_evening 16 rfl) rfl ?_
    refine fg_ialdV (v := (nI ((fg_ev (A.ts town) S).2.1.1 person))) (fg_ft (pc := 29) tb_Mo_evening 17 rfl) ly_292 (fg_lt ly_292 (by decide)) (by omega) (hS2.2.1 _ (by omega)) ?_
    exact fg_iret (fg_ft (pc := 30) tb_Mo_evening 18 rfl) rfl rfl (fg_q (hQ _ (fg_agR_tr (fg_agR_A ha1) (fg_agR_P hag2))) (by unfold an_evening; rw [fg_g1_some y4 y5] <;> ((repeat (first | rw [if_pos (by assumption)] | rw [if_neg (by assumption)] | rw [if_pos (by omega)] | rw [if_neg (by omega)] | rw [if_pos (by constructor <;> assumption)] | rw [if_neg (by intro hh; exact absurd hh.1 (by assumption))] | rw [if_neg (by intro hh; exact absurd hh.2 (by assumption))])); (try rfl))))
theorem ev_Mo_finds {E : fg_E} {d : Nat} {μ : Nat → Nat → Int32} {R : fg_T4} {Q : Option Value → fg_M → Prop} {A : fg_Tl} (hL : fg_ML (μ 288) A) (hw : fg_wA A) (h17 : μ 287 17 = -1) (h19 : μ 287 19 = nI 0) {town day n person : Nat} (htown : town < 2 ^ 32) (hday : day < 2 ^ 32) (hn : n < 2 ^ 32) (hperson : person < 2 ^ 32) (hQ : ∀ μ' : Nat → Nat → Int32, fg_agR μ μ' → Q (some (.int (an_finds A town day n person))) (μ', fg_rho R, 304)) : fg_Ev E yy_Mo_finds (d + 12) [.ref 287, .int (nI town), .int (nI day), .int (nI n), .int (nI person)] (μ, fg_rho R, 304) 304 Q := by
  have ht2 := hw.2.1
  have hd3 := hw.2.2.1
  refine fg_intro (by decide +kernel) (Nat.le_of_ble_eq_true rfl) (fg_okAs rfl) (Nat.le_refl _) ?_
  refine fg_aloadn (fg_ft (pc := 0) tb_Mo_finds 0 rfl) rfl ?_
  refine fg_iloadn (fg_ft (pc := 1) tb_Mo_finds 1 rfl) rfl ?_
  refine fg_iloadn (fg_ft (pc := 2) tb_Mo_finds 2 rfl) rfl ?_
  refine fg_iloadn (fg_ft (pc := 3) tb_Mo_finds 3 rfl) rfl ?_
  refine fg_iload (fg_ft (pc := 4) tb_Mo_finds 4 rfl) rfl ?_
  refine fg_callV (fg_ft (pc := 6) tb_Mo_finds 5 rfl) cf_Mo_258 (fg_isOf ly_287 rfl (fg_lt ly_287 (by decide))) (as := [.int (nI town), .int (nI day), .int (nI n), .int (nI person)]) (st := []) rfl rfl (Nat.le_of_ble_eq_true rfl) (Nat.le_refl _) (Nat.le_refl _) (ev_Mo_isOne hL hw h17 h19 htown hday hn hperson (fun n4 μ1 ha1 => ?_) (fun S lv y4 y5 μ1 n1 y1 ha1 hC1 hS1 => ?_))
  · refine fg_if_ne (tgt := 14) (fg_ft (pc := 9) tb_Mo_finds 6 rfl) (by decide) (fun h => absurd h (by decide)) (fun _ => ?_)
    refine fg_iconst (fg_ft (pc := 12) tb_Mo_finds 7 rfl) ic_m1 ?_
    exact fg_iret (fg_ft (pc := 13) tb_Mo_finds 8 rfl) rfl rfl (fg_q (hQ _ (fg_agR_A ha1)) (by unfold an_finds; rw [fg_g1_none n4] <;> ((repeat (first | rw [if_pos (by assumption)] | rw [if_neg (by assumption)] | rw [if_pos (by omega)] | rw [if_neg (by omega)] | rw [if_pos (by constructor <;> assumption)] | rw [if_neg (by intro hh; exact absurd hh.1 (by assumption))] | rw [if_neg (by intro hh; exact absurd hh.2 (by assumption))])); (try rfl))))
  · have ytc := fg_fnd_t y4
    have hok := hw.2.2.2.1 town ytc
    have hM1 := (hL.2.2.1 town ytc).ag ha1.m
    have hz : fg_zok (A.ts town) S.1 (S.2.1.1, 0, 0, 0) S.2.2 := fg_zok.news (fg_fnd_okW hw y4)
    have hv0 := hM1.1
    have hb0 := hok.1
    have hb1 := hok.2.1
    have hp := hok.p
    have hz9 := hz.1
    have hm2 := hz.2.1 person y5
    have hm0 : S.2.1.1 person < 2 ^ A.ts town 0 := hm2.1
    have hmc : fg_clsd (A.ts town) (S.2.1.1 person) := hm2.2
    have hm10 : S.2.1.1 person < 1024 := by omega
    refine fg_if_ne (tgt := 14) (fg_ft (pc := 9) tb_Mo_finds 6 rfl) (by decide) (fun _ => ?_) (fun h => absurd h (by decide))
    refine fg_aloadn (fg_ft (pc := 14) tb_Mo_finds 9 rfl) rfl ?_
    refine fg_getR (fg_ft (pc := 15) tb_Mo_finds 10 rfl) ff_Mo_23 ly_287 rfl (fg_lt ly_287 (by decide)) (rh_287_12 R) ?_
    refine fg_iload (fg_ft (pc := 18) tb_Mo_finds 11 rfl) rfl ?_
    refine fg_ialdV (v := (nI (S.2.1.1 person))) (fg_ft (pc := 20) tb_Mo_finds 12 rfl) ly_292 (fg_lt ly_292 (by decide)) (by omega) (hS1.2.1 _ (by omega)) ?_
    refine fg_istore (fg_ft (pc := 21) tb_Mo_finds 13 rfl) (Nat.le_of_ble_eq_true rfl) ?_
    refine fg_aloadn (fg_ft (pc := 23) tb_Mo_finds 14 rfl) rfl ?_
    refine fg_iconst (fg_ft (pc := 24) tb_Mo_finds 15 rfl) ic_0 ?_
    refine fg_iloadn (fg_ft (pc := 25) tb_Mo_finds 16 rfl) rfl ?_
    refine fg_callS (fg_ft (pc := 26) tb_Mo_finds 17 rfl) cf_Mo_166 (as := [.int (nI 0), .int (nI town)]) (st := [.ref 287]) rfl rfl (Nat.le_of_ble_eq_true rfl) (Nat.le_refl _) (Nat.le_refl _) (ev_Mo_placeOf0 (k := town) ?_)
    refine fg_callV (fg_ft (pc := 29) tb_Mo_finds 18 rfl) cf_Mo_255 (fg_isOf ly_287 rfl (fg_lt ly_287 (by decide))) (as := [.int (nI (610 + 152 * town))]) (st := []) rfl rfl (Nat.le_of_ble_eq_true rfl) (Nat.le_refl _) (Nat.le_refl _) (ev_Mo_toEvening hM1 hok hC1 (h := S.1) (Z := (S.2.1.1, 0, 0, 0)) (hv := S.2.2) (lv := lv) (o := ((none : Option Nat), 0, 0)) (n0 := n1) (y := y1) hS1 hz (fun q hq => by cases hq) (by decide) (by decide) ?_)
    intro μ2 hag2 hS2
    have hM2 := hM1.agP hag2
    have hC2 := hC1.agP hag2
    have hS2 : fg_MS μ2 (A.ts town) (fg_ev (A.ts town) S) lv ((none : Option Nat), 0, 0) n1 y1 := hS2
    have hz2 := fg_ev_ok hok (S := S) hz
    show fg_wp _ _ _ _ _ _ _ _ _ (μ2, fg_rho R, 304)
    refine fg_aloadn (fg_ft (pc := 32) tb_Mo_finds 19 rfl) rfl ?_
    refine fg_getR (fg_ft (pc := 33) tb_Mo_finds 20 rfl) ff_Mo_23 ly_287 rfl (fg_lt ly_287 (by decide)) (rh_287_12 R) ?_
    refine fg_iload (fg_ft (pc := 36) tb_Mo_finds 21 rfl) rfl ?_
    refine fg_ialdV (v := (nI ((fg_ev (A.ts town) S).2.1.1 person))) (fg_ft (pc := 38) tb_Mo_finds 22 rfl) ly_292 (fg_lt ly_292 (by decide)) (by omega) (hS2.2.1 _ (by omega)) ?_
    refine fg_iload (fg_ft (pc := 39) tb_Mo_finds 23 rfl) rfl ?_
    refine fg_iconst (fg_ft (pc := 41) tb_Mo_finds 24 rfl) ic_m1 ?_
    refine fg_ixor (fg_ft (pc := 42) tb_Mo_finds 25 rfl) ?_
    refine fg_iandD (fg_ft (pc := 43) tb_Mo_finds 26 rfl) ?_
    exact fg_iret (fg_ft (pc := 44) tb_Mo_finds 27 rfl) rfl rfl (fg_q (hQ _ (fg_agR_tr (fg_agR_A ha1) (fg_agR_P hag2))) (by unfold an_finds; rw [fg_g1_some y4 y5] <;> ((repeat (first | rw [if_pos (by assumption)] | rw [if_neg (by assumption)] | rw [if_pos (by omega)] | rw [if_neg (by omega)] | rw [if_pos (by constructor <;> assumption)] | rw [if_neg (by intro hh; exact absurd hh.1 (by assumption))] | rw [if_neg (by intro hh; exact absurd hh.2 (by assumption))])); (try rfl))))
theorem ev_Mo_keeps {E : fg_E} {d : Nat} {μ : Nat → Nat → Int32} {R : fg_T4} {Q : Option Value → fg_M → Prop} {A : fg_Tl} (hL : fg_ML (μ 288) A) (hw : fg_wA A) (h17 : μ 287 17 = -1) (h19 : μ 287 19 = nI 0) {town day n person gone kept : Nat} (htown : town < 2 ^ 32) (hday : day < 2 ^ 32) (hn : n < 2 ^ 32) (hperson : person < 2 ^ 32) (hgone : gone < 2 ^ 32) (hkept : kept < 2 ^ 32) (hQ : ∀ μ' : Nat → Nat → Int32, fg_agR μ μ' → Q (some (.int (an_keeps A town day n person gone kept))) (μ', fg_rho R, 304)) : fg_Ev E yy_Mo_keeps (d + 12) [.ref 287, .int (nI town), .int (nI day), .int (nI n), .int (nI person), .int (nI gone), .int (nI kept)] (μ, fg_rho R, 304) 304 Q := by
  have ht2 := hw.2.1
  have hd3 := hw.2.2.1
  refine fg_intro (by decide +kernel) (Nat.le_of_ble_eq_true rfl) (fg_okAs rfl) (Nat.le_refl _) ?_
  refine fg_aloadn (fg_ft (pc := 0) tb_Mo_keeps 0 rfl) rfl ?_
  refine fg_iloadn (fg_ft (pc := 1) tb_Mo_keeps 1 rfl) rfl ?_
  refine fg_iloadn (fg_ft (pc := 2) tb_Mo_keeps 2 rfl) rfl ?_
  refine fg_iloadn (fg_ft (pc := 3) tb_Mo_keeps 3 rfl) rfl ?_
  refine fg_iload (fg_ft (pc := 4) tb_Mo_keeps 4 rfl) rfl ?_
  refine fg_callV (fg_ft (pc := 6) tb_Mo_keeps 5 rfl) cf_Mo_258 (fg_isOf ly_287 rfl (fg_lt ly_287 (by decide))) (as := [.int (nI town), .int (nI day), .int (nI n), .int (nI person)]) (st := []) rfl rfl (Nat.le_of_ble_eq_true rfl) (Nat.le_refl _) (Nat.le_refl _) (ev_Mo_isOne hL hw h17 h19 htown hday hn hperson (fun n4 μ1 ha1 => ?_) (fun S lv y4 y5 μ1 n1 y1 ha1 hC1 hS1 => ?_))
  · refine fg_if_eq (tgt := 40) (fg_ft (pc := 9) tb_Mo_keeps 6 rfl) (by decide) (fun _ => ?_) (fun h => absurd h (by decide))
    refine fg_iconst (fg_ft (pc := 40) tb_Mo_keeps 21 rfl) ic_m1 ?_
    exact fg_iret (fg_ft (pc := 41) tb_Mo_keeps 22 rfl) rfl rfl (fg_q (hQ _ (fg_agR_A ha1)) (by unfold an_keeps; rw [fg_g1_none n4] <;> ((repeat (first | rw [if_pos (by assumption)] | rw [if_neg (by assumption)] | rw [if_pos (by omega)] | rw [if_neg (by omega)] | rw [if_pos (by constructor <;> assumption)] | rw [if_neg (by intro hh; exact absurd hh.1 (by assumption))] | rw [if_neg (by intro hh; exact absurd hh.2 (by assumption))])); (try rfl))))
  · have ytc := fg_fnd_t y4
    have hok := hw.2.2.2.1 town ytc
    have hM1 := (hL.2.2.1 town ytc).ag ha1.m
    have hz : fg_zok (A.ts town) S.1 (S.2.1.1, 0, 0, 0) S.2.2 := fg_zok.news (fg_fnd_okW hw y4)
    have hv0 := hM1.1
    have hb0 := hok.1
    have hb1 := hok.2.1
    have hp := hok.p
    have hz9 := hz.1
    have hm2 := hz.2.1 person y5
    have hm0 : S.2.1.1 person < 2 ^ A.ts town 0 := hm2.1
    have hmc : fg_clsd (A.ts town) (S.2.1.1 person) := hm2.2
    have hm10 : S.2.1.1 person < 1024 := by omega
    refine fg_if_eq (tgt := 40) (fg_ft (pc := 9) tb_Mo_keeps 6 rfl) (by decide) (fun h => absurd h (by decide)) (fun _ => ?_)
    refine fg_aloadn (fg_ft (pc := 12) tb_Mo_keeps 7 rfl) rfl ?_
    refine fg_iconst (fg_ft (pc := 13) tb_Mo_keeps 8 rfl) ic_0 ?_
    refine fg_iloadn (fg_ft (pc := 14) tb_Mo_keeps 9 rfl) rfl ?_
    refine fg_callS (fg_ft (pc := 15) tb_Mo_keeps 10 rfl) cf_Mo_166 (as := [.int (nI 0), .int (nI town)]) (st := [.ref 287]) rfl rfl (Nat.le_of_ble_eq_true rfl) (Nat.le_refl _) (Nat.le_refl _) (ev_Mo_placeOf0 (k := town) ?_)
    refine fg_iload (fg_ft (pc := 18) tb_Mo_keeps 11 rfl) rfl ?_
    refine fg_callV (fg_ft (pc := 20) tb_Mo_keeps 12 rfl) cf_Mo_273 (fg_isOf ly_287 rfl (fg_lt ly_287 (by decide))) (as := [.int (nI (610 + 152 * town)), .int (nI gone)]) (st := []) rfl rfl (Nat.le_of_ble_eq_true rfl) (Nat.le_refl _) (Nat.le_refl _) (ev_Mo_areFacts hM1 hok (k := gone) (hgone) ?_)
    refine fg_ifB_eq (tgt := 40) (fg_ft (pc := 23) tb_Mo_keeps 13 rfl) (by decide) (fun c23 => ?_) (fun c23 => ?_)
    · refine fg_iconst (fg_ft (pc := 40) tb_Mo_keeps 21 rfl) ic_m1 ?_
      exact fg_iret (fg_ft (pc := 41) tb_Mo_keeps 22 rfl) rfl rfl (fg_q (hQ _ (fg_agR_A ha1)) (by unfold an_keeps; rw [fg_g1_some y4 y5] <;> ((repeat (first | rw [if_pos (by assumption)] | rw [if_neg (by assumption)] | rw [if_pos (by omega)] | rw [if_neg (by omega)] | rw [if_pos (by constructor <;> assumption)] | rw [if_neg (by intro hh; exact absurd hh.1 (by assumption))] | rw [if_neg (by intro hh; exact absurd hh.2 (by assumption))])); (try rfl))))
    · refine fg_aloadn (fg_ft (pc := 26) tb_Mo_keeps 14 rfl) rfl ?_
      refine fg_iconst (fg_ft (pc := 27) tb_Mo_keeps 15 rfl) ic_0 ?_
      refine fg_iloadn (fg_ft (pc := 28) tb_Mo_keeps 16 rfl) rfl ?_
      refine fg_callS (fg_ft (pc := 29) tb_Mo_keeps 17 rfl) cf_Mo_166 (as := [.int (nI 0), .int (nI town)]) (st := [.ref 287]) rfl rfl (Nat.le_of_ble_eq_true rfl) (Nat.le_refl _) (Nat.le_refl _) (ev_Mo_placeOf0 (k := town) ?_)
      refine fg_iload (fg_ft (pc := 32) tb_Mo_keeps 18 rfl) rfl ?_
      refine fg_callV (fg_ft (pc := 34) tb_Mo_keeps 19 rfl) cf_Mo_273 (fg_isOf ly_287 rfl (fg_lt ly_287 (by decide))) (as := [.int (nI (610 + 152 * town)), .int (nI kept)]) (st := []) rfl rfl (Nat.le_of_ble_eq_true rfl) (Nat.le_refl _) (Nat.le_refl _) (ev_Mo_areFacts hM1 hok (k := kept) (hkept) ?_)
      refine fg_ifB_ne (tgt := 42) (fg_ft (pc := 37) tb_Mo_keeps 20 rfl) (by decide) (fun c37 => ?_) (fun c37 => ?_)
      · refine fg_aloadn (fg_ft (pc := 42) tb_Mo_keeps 23 rfl) rfl ?_
        refine fg_aloadn (fg_ft (pc := 43) tb_Mo_keeps 24 rfl) rfl ?_
        refine fg_getR (fg_ft (pc := 44) tb_Mo_keeps 25 rfl) ff_Mo_23 ly_287 rfl (fg_lt ly_287 (by decide)) (rh_287_12 R) ?_
        refine fg_iload (fg_ft (pc := 47) tb_Mo_keeps 26 rfl) rfl ?_
        refine fg_ialdV (v := (nI (S.2.1.1 person))) (fg_ft (pc := 49) tb_Mo_keeps 27 rfl) ly_292 (fg_lt ly_292 (by decide)) (by omega) (hS1.2.1 _ (by omega)) ?_
        refine fg_iload (fg_ft (pc := 50) tb_Mo_keeps 28 rfl) rfl ?_
        refine fg_iload (fg_ft (pc := 52) tb_Mo_keeps 29 rfl) rfl ?_
        refine fg_callV (fg_ft (pc := 54) tb_Mo_keeps 30 rfl) cf_Mo_188 (fg_isOf ly_287 rfl (fg_lt ly_287 (by decide))) (as := [.int (nI (S.2.1.1 person)), .int (nI gone), .int (nI kept)]) (st := []) rfl rfl (Nat.le_of_ble_eq_true rfl) (Nat.le_refl _) (Nat.le_refl _) (ev_Mo_bestPart hM1 hok hC1 (mind := (S.2.1.1 person)) (gone := gone) (kept := kept) (by assumption) (by omega) ?_)
        exact fg_iret (fg_ft (pc := 57) tb_Mo_keeps 31 rfl) rfl rfl (fg_q (hQ _ (fg_agR_A ha1)) (by unfold an_keeps; rw [fg_g1_some y4 y5] <;> ((repeat (first | rw [if_pos (by assumption)] | rw [if_neg (by assumption)] | rw [if_pos (by omega)] | rw [if_neg (by omega)] | rw [if_pos (by constructor <;> assumption)] | rw [if_neg (by intro hh; exact absurd hh.1 (by assumption))] | rw [if_neg (by intro hh; exact absurd hh.2 (by assumption))])); (try rfl))))
      · refine fg_iconst (fg_ft (pc := 40) tb_Mo_keeps 21 rfl) ic_m1 ?_
        exact fg_iret (fg_ft (pc := 41) tb_Mo_keeps 22 rfl) rfl rfl (fg_q (hQ _ (fg_agR_A ha1)) (by unfold an_keeps; rw [fg_g1_some y4 y5] <;> ((repeat (first | rw [if_pos (by assumption)] | rw [if_neg (by assumption)] | rw [if_pos (by omega)] | rw [if_neg (by omega)] | rw [if_pos (by constructor <;> assumption)] | rw [if_neg (by intro hh; exact absurd hh.1 (by assumption))] | rw [if_neg (by intro hh; exact absurd hh.2 (by assumption))])); (try rfl))))
theorem ev_Mo_honest {E : fg_E} {d : Nat} {μ : Nat → Nat → Int32} {R : fg_T4} {Q : Option Value → fg_M → Prop} {A : fg_Tl} (hL : fg_ML (μ 288) A) (hw : fg_wA A) (h17 : μ 287 17 = -1) (h19 : μ 287 19 = nI 0) {town day n person facts : Nat} (htown : town < 2 ^ 32) (hday : day < 2 ^ 32) (hn : n < 2 ^ 32) (hperson : person < 2 ^ 32) (hfacts : facts < 2 ^ 32) (hQ : ∀ μ' : Nat → Nat → Int32, fg_agR μ μ' → Q (some (.int (an_honest A town day n person facts))) (μ', fg_rho R, 304)) : fg_Ev E yy_Mo_honest (d + 12) [.ref 287, .int (nI town), .int (nI day), .int (nI n), .int (nI person), .int (nI facts)] (μ, fg_rho R, 304) 304 Q := by
  have ht2 := hw.2.1
  have hd3 := hw.2.2.1
  refine fg_intro (by decide +kernel) (Nat.le_of_ble_eq_true rfl) (fg_okAs rfl) (Nat.le_refl _) ?_
  refine fg_aloadn (fg_ft (pc := 0) tb_Mo_honest 0 rfl) rfl ?_
  refine fg_iloadn (fg_ft (pc := 1) tb_Mo_honest 1 rfl) rfl ?_
  refine fg_iloadn (fg_ft (pc := 2) tb_Mo_honest 2 rfl) rfl ?_
  refine fg_iloadn (fg_ft (pc := 3) tb_Mo_honest 3 rfl) rfl ?_
  refine fg_iload (fg_ft (pc := 4) tb_Mo_honest 4 rfl) rfl ?_
  refine fg_callV (fg_ft (pc := 6) tb_Mo_honest 5 rfl) cf_Mo_258 (fg_isOf ly_287 rfl (fg_lt ly_287 (by decide))) (as := [.int (nI town), .int (nI day), .int (nI n), .int (nI person)]) (st := []) rfl rfl (Nat.le_of_ble_eq_true rfl) (Nat.le_refl _) (Nat.le_refl _) (ev_Mo_isOne hL hw h17 h19 htown hday hn hperson (fun n4 μ1 ha1 => ?_) (fun S lv y4 y5 μ1 n1 y1 ha1 hC1 hS1 => ?_))
  · refine fg_if_eq (tgt := 41) (fg_ft (pc := 9) tb_Mo_honest 6 rfl) (by decide) (fun _ => ?_) (fun h => absurd h (by decide))
    refine fg_iconst (fg_ft (pc := 41) tb_Mo_honest 23 rfl) ic_m1 ?_
    exact fg_iret (fg_ft (pc := 42) tb_Mo_honest 24 rfl) rfl rfl (fg_q (hQ _ (fg_agR_A ha1)) (by unfold an_honest; rw [fg_g1_none n4] <;> ((repeat (first | rw [if_pos (by assumption)] | rw [if_neg (by assumption)] | rw [if_pos (by omega)] | rw [if_neg (by omega)] | rw [if_pos (by constructor <;> assumption)] | rw [if_neg (by intro hh; exact absurd hh.1 (by assumption))] | rw [if_neg (by intro hh; exact absurd hh.2 (by assumption))])); (try rfl))))
  · have ytc := fg_fnd_t y4
    have hok := hw.2.2.2.1 town ytc
    have hM1 := (hL.2.2.1 town ytc).ag ha1.m
    have hz : fg_zok (A.ts town) S.1 (S.2.1.1, 0, 0, 0) S.2.2 := fg_zok.news (fg_fnd_okW hw y4)
    have hv0 := hM1.1
    have hb0 := hok.1
    have hb1 := hok.2.1
    have hp := hok.p
    have hz9 := hz.1
    have hm2 := hz.2.1 person y5
    have hm0 : S.2.1.1 person < 2 ^ A.ts town 0 := hm2.1
    have hmc : fg_clsd (A.ts town) (S.2.1.1 person) := hm2.2
    have hm10 : S.2.1.1 person < 1024 := by omega
    refine fg_if_eq (tgt := 41) (fg_ft (pc := 9) tb_Mo_honest 6 rfl) (by decide) (fun h => absurd h (by decide)) (fun _ => ?_)
    refine fg_aloadn (fg_ft (pc := 12) tb_Mo_honest 7 rfl) rfl ?_
    refine fg_iconst (fg_ft (pc := 13) tb_Mo_honest 8 rfl) ic_0 ?_
    refine fg_iloadn (fg_ft (pc := 14) tb_Mo_honest 9 rfl) rfl ?_
    refine fg_callS (fg_ft (pc := 15) tb_Mo_honest 10 rfl) cf_Mo_166 (as := [.int (nI 0), .int (nI town)]) (st := [.ref 287]) rfl rfl (Nat.le_of_ble_eq_true rfl) (Nat.le_refl _) (Nat.le_refl _) (ev_Mo_placeOf0 (k := town) ?_)
    refine fg_iload (fg_ft (pc := 18) tb_Mo_honest 11 rfl) rfl ?_
    refine fg_callV (fg_ft (pc := 20) tb_Mo_honest 12 rfl) cf_Mo_273 (fg_isOf ly_287 rfl (fg_lt ly_287 (by decide))) (as := [.int (nI (610 + 152 * town)), .int (nI facts)]) (st := []) rfl rfl (Nat.le_of_ble_eq_true rfl) (Nat.le_refl _) (Nat.le_refl _) (ev_Mo_areFacts hM1 hok (k := facts) (hfacts) ?_)
    refine fg_ifB_eq (tgt := 41) (fg_ft (pc := 23) tb_Mo_honest 13 rfl) (by decide) (fun c23 => ?_) (fun c23 => ?_)
    · refine fg_iconst (fg_ft (pc := 41) tb_Mo_honest 23 rfl) ic_m1 ?_
      exact fg_iret (fg_ft (pc := 42) tb_Mo_honest 24 rfl) rfl rfl (fg_q (hQ _ (fg_agR_A ha1)) (by unfold an_honest; rw [fg_g1_some y4 y5] <;> ((repeat (first | rw [if_pos (by assumption)] | rw [if_neg (by assumption)] | rw [if_pos (by omega)] | rw [if_neg (by omega)] | rw [if_pos (by constructor <;> assumption)] | rw [if_neg (by intro hh; exact absurd hh.1 (by assumption))] | rw [if_neg (by intro hh; exact absurd hh.2 (by assumption))])); (try rfl))))
    · refine fg_iload (fg_ft (pc := 26) tb_Mo_honest 14 rfl) rfl ?_
      refine fg_aloadn (fg_ft (pc := 28) tb_Mo_honest 15 rfl) rfl ?_
      refine fg_getR (fg_ft (pc := 29) tb_Mo_honest 16 rfl) ff_Mo_23 ly_287 rfl (fg_lt ly_287 (by decide)) (rh_287_12 R) ?_
      refine fg_iload (fg_ft (pc := 32) tb_Mo_honest 17 rfl) rfl ?_
      refine fg_ialdV (v := (nI (S.2.1.1 person))) (fg_ft (pc := 34) tb_Mo_honest 18 rfl) ly_292 (fg_lt ly_292 (by decide)) (by omega) (hS1.2.1 _ (by omega)) ?_
      refine fg_iconst (fg_ft (pc := 35) tb_Mo_honest 19 rfl) ic_m1 ?_
      refine fg_ixor (fg_ft (pc := 36) tb_Mo_honest 20 rfl) ?_
      refine fg_iandD (fg_ft (pc := 37) tb_Mo_honest 21 rfl) ?_
      refine fg_goto (tgt := 42) (fg_ft (pc := 38) tb_Mo_honest 22 rfl) (by decide) ?_
      exact fg_iret (fg_ft (pc := 42) tb_Mo_honest 24 rfl) rfl rfl (fg_q (hQ _ (fg_agR_A ha1)) (by unfold an_honest; rw [fg_g1_some y4 y5] <;> ((repeat (first | rw [if_pos (by assumption)] | rw [if_neg (by assumption)] | rw [if_pos (by omega)] | rw [if_neg (by omega)] | rw [if_pos (by constructor <;> assumption)] | rw [if_neg (by intro hh; exact absurd hh.1 (by assumption))] | rw [if_neg (by intro hh; exact absurd hh.2 (by assumption))])); (try rfl))))
theorem ev_Mo_gone {E : fg_E} {d : Nat} {μ : Nat → Nat → Int32} {R : fg_T4} {Q : Option Value → fg_M → Prop} {A : fg_Tl} (hL : fg_ML (μ 288) A) (hw : fg_wA A) (h17 : μ 287 17 = -1) (h19 : μ 287 19 = nI 0) {town day n person fact kind : Nat} (htown : town < 2 ^ 32) (hday : day < 2 ^ 32) (hn : n < 2 ^ 32) (hperson : person < 2 ^ 32) (hfact : fact < 2 ^ 32) (hkind : kind < 2 ^ 32) (hQ : ∀ μ' : Nat → Nat → Int32, fg_agR μ μ' → Q (some (.int (an_gone A town day n person fact kind))) (μ', fg_rho R, 304)) : fg_Ev E yy_Mo_gone (d + 12) [.ref 287, .int (nI town), .int (nI day), .int (nI n), .int (nI person), .int (nI fact), .int (nI kind)] (μ, fg_rho R, 304) 304 Q := by
  have ht2 := hw.2.1
  have hd3 := hw.2.2.1
  refine fg_intro (by decide +kernel) (Nat.le_of_ble_eq_true rfl) (fg_okAs rfl) (Nat.le_refl _) ?_
  refine fg_iload (fg_ft (pc := 0) tb_Mo_gone 0 rfl) rfl ?_
  refine fg_iconst (fg_ft (pc := 2) tb_Mo_gone 1 rfl) ic_0 ?_
  refine fg_iconst (fg_ft (pc := 3) tb_Mo_gone 2 rfl) ic_2 ?_
  refine fg_callS (fg_ft (pc := 4) tb_Mo_gone 3 rfl) cf_Mo_110 (as := [.int (nI kind), .int (nI 0), .int (nI 2)]) (st := []) rfl rfl (Nat.le_of_ble_eq_true rfl) (Nat.le_refl _) (Nat.le_refl _) (ev_Mo_isInC (k := kind) (a := 0) (b := 2) (hkind) (by omega) (by omega) ?_)
  refine fg_ifB_eq (tgt := 24) (fg_ft (pc := 7) tb_Mo_gone 4 rfl) (by decide) (fun c7 => ?_) (fun c7 => ?_)
  · refine fg_iconst (fg_ft (pc := 24) tb_Mo_gone 13 rfl) ic_m1 ?_
    exact fg_iret (fg_ft (pc := 25) tb_Mo_gone 14 rfl) rfl rfl (fg_q (hQ _ (fg_agR_rf μ)) (by unfold an_gone; rw [fg_g1_cst (by intro T S lv; (repeat (first | rw [if_neg (by omega)] | rw [if_pos (by omega)])); (try (split <;> first | rfl | rw [if_neg (by omega)] | (exfalso; omega))))]))
  · refine fg_aloadn (fg_ft (pc := 10) tb_Mo_gone 5 rfl) rfl ?_
    refine fg_iloadn (fg_ft (pc := 11) tb_Mo_gone 6 rfl) rfl ?_
    refine fg_iloadn (fg_ft (pc := 12) tb_Mo_gone 7 rfl) rfl ?_
    refine fg_iloadn (fg_ft (pc := 13) tb_Mo_gone 8 rfl) rfl ?_
    refine fg_iload (fg_ft (pc := 14) tb_Mo_gone 9 rfl) rfl ?_
    refine fg_iload (fg_ft (pc := 16) tb_Mo_gone 10 rfl) rfl ?_
    refine fg_callV (fg_ft (pc := 18) tb_Mo_gone 11 rfl) cf_Mo_269 (fg_isOf ly_287 rfl (fg_lt ly_287 (by decide))) (as := [.int (nI town), .int (nI day), .int (nI n), .int (nI person), .int (nI fact)]) (st := []) rfl rfl (Nat.le_of_ble_eq_true rfl) (Nat.le_refl _) (Nat.le_refl _) (ev_Mo_hasFact hL hw h17 h19 htown hday hn hperson hfact (fun n4 μ1 ha1 => ?_) (fun S lv y4 y5 y6 μ1 n1 y1 ha1 hC1 hS1 => ?_))
    · refine fg_if_ne (tgt := 26) (fg_ft (pc := 21) tb_Mo_gone 12 rfl) (by decide) (fun h => absurd h (by decide)) (fun _ => ?_)
      refine fg_iconst (fg_ft (pc := 24) tb_Mo_gone 13 rfl) ic_m1 ?_
      exact fg_iret (fg_ft (pc := 25) tb_Mo_gone 14 rfl) rfl rfl (fg_q (hQ _ (fg_agR_A ha1)) (by rcases n4 with n4 | ⟨S, lv, y4, y5, y6⟩; (unfold an_gone; rw [fg_g1_none n4]); (unfold an_gone; rw [fg_g1_some y4 y5] <;> ((repeat (first | rw [if_pos (by assumption)] | rw [if_neg (by assumption)] | rw [if_pos (by omega)] | rw [if_neg (by omega)] | rw [if_pos (by constructor <;> assumption)] | rw [if_neg (by intro hh; exact absurd hh.1 (by assumption))] | rw [if_neg (by intro hh; exact absurd hh.2 (by assumption))])); (try rfl)))))
    · have ytc := fg_fnd_t y4
      have hok := hw.2.2.2.1 town ytc
      have hM1 := (hL.2.2.1 town ytc).ag ha1.m
      have hz : fg_zok (A.ts town) S.1 (S.2.1.1, 0, 0, 0) S.2.2 := fg_zok.news (fg_fnd_okW hw y4)
      have hv0 := hM1.1
      have hb0 := hok.1
      have hb1 := hok.2.1
      have hp := hok.p
      have hz9 := hz.1
      have hm2 := hz.2.1 person y5
      have hm0 : S.2.1.1 person < 2 ^ A.ts town 0 := hm2.1
      have hmc : fg_clsd (A.ts town) (S.2.1.1 person) := hm2.2
      have hm10 : S.2.1.1 person < 1024 := by omega
      have hfT : fact < A.ts town 0 := fg_bit_lt hm0 y6
      refine fg_if_ne (tgt := 26) (fg_ft (pc := 21) tb_Mo_gone 12 rfl) (by decide) (fun _ => ?_) (fun h => absurd h (by decide))
      refine fg_aloadn (fg_ft (pc := 26) tb_Mo_gone 15 rfl) rfl ?_
      refine fg_getR (fg_ft (pc := 27) tb_Mo_gone 16 rfl) ff_Mo_23 ly_287 rfl (fg_lt ly_287 (by decide)) (rh_287_12 R) ?_
      refine fg_iload (fg_ft (pc := 30) tb_Mo_gone 17 rfl) rfl ?_
      refine fg_ialdV (v := (nI (S.2.1.1 person))) (fg_ft (pc := 32) tb_Mo_gone 18 rfl) ly_292 (fg_lt ly_292 (by decide)) (by omega) (hS1.2.1 _ (by omega)) ?_
      refine fg_aloadn (fg_ft (pc := 33) tb_Mo_gone 19 rfl) rfl ?_
      refine fg_iconst (fg_ft (pc := 34) tb_Mo_gone 20 rfl) ic_0 ?_
      refine fg_iloadn (fg_ft (pc := 35) tb_Mo_gone 21 rfl) rfl ?_
      refine fg_callS (fg_ft (pc := 36) tb_Mo_gone 22 rfl) cf_Mo_166 (as := [.int (nI 0), .int (nI town)]) (st := [.ref 287, .int (nI (S.2.1.1 person))]) rfl rfl (Nat.le_of_ble_eq_true rfl) (Nat.le_refl _) (Nat.le_refl _) (ev_Mo_placeOf0 (k := town) ?_)
      refine fg_aloadn (fg_ft (pc := 39) tb_Mo_gone 23 rfl) rfl ?_
      refine fg_getR (fg_ft (pc := 40) tb_Mo_gone 24 rfl) ff_Mo_23 ly_287 rfl (fg_lt ly_287 (by decide)) (rh_287_12 R) ?_
      refine fg_iload (fg_ft (pc := 43) tb_Mo_gone 25 rfl) rfl ?_
      refine fg_ialdV (v := (nI (S.2.1.1 person))) (fg_ft (pc := 45) tb_Mo_gone 26 rfl) ly_292 (fg_lt ly_292 (by decide)) (by omega) (hS1.2.1 _ (by omega)) ?_
      refine fg_iload (fg_ft (pc := 46) tb_Mo_gone 27 rfl) rfl ?_
      refine fg_iload (fg_ft (pc := 48) tb_Mo_gone 28 rfl) rfl ?_
      refine fg_callV (fg_ft (pc := 50) tb_Mo_gone 29 rfl) cf_Mo_236 (fg_isOf ly_287 rfl (fg_lt ly_287 (by decide))) (as := [.int (nI (610 + 152 * town)), .int (nI (S.2.1.1 person)), .int (nI fact), .int (nI kind)]) (st := [.int (nI (S.2.1.1 person))]) rfl rfl (Nat.le_of_ble_eq_true rfl) (Nat.le_refl _) (Nat.le_refl _) (ev_Mo_forget hM1 hok hC1 (m := (S.2.1.1 person)) (f := fact) (kd := kind) (by assumption) (y6) (by omega) ?_)
      refine fg_iconst (fg_ft (pc := 53) tb_Mo_gone 30 rfl) ic_m1 ?_
      refine fg_ixor (fg_ft (pc := 54) tb_Mo_gone 31 rfl) ?_
      refine fg_iandD (fg_ft (pc := 55) tb_Mo_gone 32 rfl) ?_
      exact fg_iret (fg_ft (pc := 56) tb_Mo_gone 33 rfl) rfl rfl (fg_q (hQ _ (fg_agR_A ha1)) (by unfold an_gone; rw [fg_g1_some y4 y5] <;> ((repeat (first | rw [if_pos (by assumption)] | rw [if_neg (by assumption)] | rw [if_pos (by omega)] | rw [if_neg (by omega)] | rw [if_pos (by constructor <;> assumption)] | rw [if_neg (by intro hh; exact absurd hh.1 (by assumption))] | rw [if_neg (by intro hh; exact absurd hh.2 (by assumption))])); (try rfl))))
