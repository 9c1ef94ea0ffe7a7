noncomputable abbrev fg_Zm (T : Nat → Nat) (o : Option Nat × Nat × Nat) (h : Nat) (Z : fg_Z) : fg_Z := fg_mz T h o.2.2 (fg_oz T h o Z (T 2)) (T 4)
theorem fg_ph_ge {T : Nat → Nat} {o : Option Nat × Nat × Nat} {h : Nat} {Z : fg_Z} {hv : Nat → Nat} (hh : 9 ≤ h) : fg_ph T o (h, Z, hv) = (h, Z, hv) := by
  unfold fg_ph; rw [if_neg (show ¬ h < 9 by omega)]
theorem fg_ph_9 {T : Nat → Nat} {o : Option Nat × Nat × Nat} {h : Nat} {Z : fg_Z} {hv : Nat → Nat} (hh : h + 1 = 9) : fg_ph T o (h, Z, hv) = (h + 1, fg_hz T hv (fg_Zm T o (h + 1) Z) (T 2), fg_h0 hv (T 2)) := by
  unfold fg_ph; rw [if_pos (show h < 9 by omega), if_pos (show h + 1 = 9 from hh)]; simp only [hh]
theorem fg_ph_lt {T : Nat → Nat} {o : Option Nat × Nat × Nat} {h : Nat} {Z : fg_Z} {hv : Nat → Nat} (hh : h + 1 < 9) : fg_ph T o (h, Z, hv) = (h + 1, fg_Zm T o (h + 1) Z, hv) := by
  unfold fg_ph; rw [if_pos (show h < 9 by omega), if_neg (show ¬ h + 1 = 9 by omega)]
theorem fg_h0_u {hv : Nat → Nat} {n : Nat} : fg_up1 (fg_h0 hv n) n 0 = fg_h0 hv (n + 1) := by
  funext p
  unfold fg_up1 fg_h0
  rcases Nat.lt_trichotomy p n with h | h | h
  · rw [if_neg (by omega), if_pos h, if_pos (by omega)]
  · rw [if_pos h, if_pos (by omega)]
  · rw [if_neg (by omega), if_neg (by omega), if_neg (by omega)]
abbrev fg_FS (μ : Nat → Nat → Int32) (f : Nat) (T : Nat → Nat) (S : fg_H3) (lv : Nat → Nat) (o : Option Nat × Nat × Nat) : Prop := fg_FZ μ f T S.1 S.2.1 S.2.2 lv o
theorem ev_Folk_passHour {E : fg_E} {d : Nat} {μ : Nat → Nat → Int32} {R : fg_T4} {Q : Option Value → fg_M → Prop} {t : Nat} {T : Nat → Nat} (ht : fg_isT t) (hT : fg_TW μ t T) (hok : fg_ok T) {f h : Nat} {Z : fg_Z} {hv lv : Nat → Nat} {o : Option Nat × Nat × Nat} (hf : fg_isF f) (hft : fg_rho R f 0 = some t) (hF : fg_FZ μ f T h Z hv lv o) (hz : fg_zok T h Z hv) (hsh : o.2.2 < 2 ^ 31) (hQ : ∀ μ' : Nat → Nat → Int32, fg_agF f μ μ' → fg_FS μ' f T (fg_ph T o (h, Z, hv)) lv o → Q none (μ', fg_rho R, 304)) : fg_Ev E yy_Folk_passHour (d + 5) [.ref f] (μ, fg_rho R, 304) 304 Q := by
  have hb0 := hok.1
  have hb1 := hok.2.1
  have hp := hok.p
  have hq := Nat.two_pow_pos (T 0)
  have hfb := fF_b hf
  have hz9 := hz.1
  have loop2 : h + 1 = 9 → ∀ (m n : Nat) (ν : Nat → Nat → Int32), T 2 - n < m → n ≤ T 2 → fg_agF f μ ν → fg_FZ ν f T (h + 1) (fg_hz T hv (fg_Zm T o (h + 1) Z) n) (fg_h0 hv n) lv o → ∀ v2 : Value, fg_wp E yy_Folk_passHour (d + 5) 304 304 Q 97 [.ref f, .int (nI n), v2] [] (ν, fg_rho R, 304) := by
    intro h9 m
    induction m with
    | zero => intro n ν h; exact absurd h (Nat.not_lt_zero _)
    | succ m ih =>
      intro n ν hm hn hag hN v2
      have hTn := fg_TWp.agF ht hf hT hag
      have hzn : fg_zok T (h + 1) (fg_hz T hv (fg_Zm T o (h + 1) Z) n) (fg_h0 hv n) := by rw [h9]; exact fg_zok.hz hok (fg_zok.mz hok (fg_zok.oz hok (⟨by omega, hz.2⟩ : fg_zok T 9 Z hv) _ (Nat.le_refl _)) _ (Nat.le_refl _)) n hn
      refine fg_aloadn (fg_ft (pc := 97) tb_Folk_passHour 52 rfl) rfl ?_
      refine fg_getV (v := (nI (h + 1))) (fg_ft (pc := 98) tb_Folk_passHour 53 rfl) ff_Folk_49 (fF_lay hf) rfl (fg_lt (fF_lay hf) (by decide)) hN.2.1 ?_
      refine fg_bipush (fg_ft (pc := 101) tb_Folk_passHour 54 rfl) ib_9 ?_
      refine fg_icmp_neN (tgt := 138) (fg_ft (pc := 103) tb_Folk_passHour 55 rfl) (by decide) (by omega) (by decide) (fun c103 => (absurd h9 c103)) (fun c103 => ?_)
      refine fg_iloadn (fg_ft (pc := 106) tb_Folk_passHour 56 rfl) rfl ?_
      refine fg_aloadn (fg_ft (pc := 107) tb_Folk_passHour 57 rfl) rfl ?_
      refine fg_getV (v := (nI (T 2))) (fg_ft (pc := 108) tb_Folk_passHour 58 rfl) ff_Folk_46 (fF_lay hf) rfl (fg_lt (fF_lay hf) (by decide)) hN.1 ?_
      refine fg_icmp_geN (tgt := 138) (fg_ft (pc := 111) tb_Folk_passHour 59 rfl) (by decide) (by omega) (by omega) (fun c111 => ?_) (fun c111 => ?_)
      · exact fg_vret (fg_ft (pc := 138) tb_Folk_passHour 74 rfl) rfl rfl (hQ ν hag (by rw [fg_ph_9 h9]; rw [show n = T 2 by omega] at hN; exact hN))
      · refine fg_aloadn (fg_ft (pc := 114) tb_Folk_passHour 60 rfl) rfl ?_
        refine fg_iloadn (fg_ft (pc := 115) tb_Folk_passHour 61 rfl) rfl ?_
        refine fg_aloadn (fg_ft (pc := 116) tb_Folk_passHour 62 rfl) rfl ?_
        refine fg_getR (fg_ft (pc := 117) tb_Folk_passHour 63 rfl) ff_Folk_19 (fF_lay hf) rfl (fg_lt (fF_lay hf) (by decide)) (fF_r2 hf) ?_
        refine fg_iloadn (fg_ft (pc := 120) tb_Folk_passHour 64 rfl) rfl ?_
        refine fg_ialdV (v := (nI ((fg_h0 hv n) n))) (fg_ft (pc := 121) tb_Folk_passHour 65 rfl) (fF_l2 hf) (fg_lt (fF_l2 hf) (by decide)) (by omega) (hN.2.2.2.1 _ (by omega)) ?_
        refine fg_callV (fg_ft (pc := 122) tb_Folk_passHour 66 rfl) cf_Folk_150 (fg_isOf (fF_lay hf) rfl (fg_lt (fF_lay hf) (by decide))) (as := [.int (nI n), .int (nI ((fg_h0 hv n) n))]) (st := []) rfl rfl (Nat.le_of_ble_eq_true rfl) (Nat.le_refl _) (Nat.le_refl _) (ev_Folk_learn ht hTn hok hf hft hN hzn (p := n) (s := ((fg_h0 hv n) n)) (by omega) (hzn.2.2 n (by omega)) ?_)
        intro ν2 ho2 hN2
        rw [show fg_h0 hv n n = hv n from if_neg (Nat.lt_irrefl n)] at hN2
        show fg_wp _ _ _ _ _ _ _ _ _ (ν2, fg_rho R, 304)
        refine fg_aloadn (fg_ft (pc := 125) tb_Folk_passHour 67 rfl) rfl ?_
        refine fg_getR (fg_ft (pc := 126) tb_Folk_passHour 68 rfl) ff_Folk_19 (fF_lay hf) rfl (fg_lt (fF_lay hf) (by decide)) (fF_r2 hf) ?_
        refine fg_iloadn (fg_ft (pc := 129) tb_Folk_passHour 69 rfl) rfl ?_
        refine fg_iconst (fg_ft (pc := 130) tb_Folk_passHour 70 rfl) ic_0 ?_
        refine fg_iastN (fg_ft (pc := 131) tb_Folk_passHour 71 rfl) (fF_l2 hf) (fg_lt (fF_l2 hf) (by decide)) (by omega) ?_
        show fg_wp _ _ _ _ _ _ _ _ _ (fg_u2 ν2 (f + 2) n (nI 0), fg_rho R, 304)
        refine fg_iincN (fg_ft (pc := 132) tb_Folk_passHour 72 rfl) rfl ic_1 rfl ?_
        refine fg_goto (tgt := 97) (fg_ft (pc := 135) tb_Folk_passHour 73 rfl) (by decide) ?_
        exact ih (n + 1) _ (by omega) (by omega) (fg_agF_tr hag (fg_agF_tr ho2 (fg_agF_u (by omega) (by omega)))) (fg_h0_u ▸ (show fg_FZ _ f T (h + 1) (fg_hz T hv (fg_Zm T o (h + 1) Z) (n + 1)) (fg_up1 (fg_h0 hv n) n 0) lv o from by simp only [fg_hz]; have h5 := hN2.setHalf (p := n) (m := 0); rw [show fg_lz T (h + 1) n (hv n) (fg_hz T hv (fg_Zm T o (h + 1) Z) n) = fg_lz T 9 n (hv n) (fg_hz T hv (fg_Zm T o (h + 1) Z) n) from by rw [h9]] at h5; exact h5)) _
  have loop1 : h < 9 → ∀ (m n : Nat) (ν : Nat → Nat → Int32), T 2 - n < m → n ≤ T 2 → fg_agF f μ ν → fg_FZ ν f T (h + 1) (fg_oz T (h + 1) o Z n) hv lv o → ∀ v2 : Value, fg_wp E yy_Folk_passHour (d + 5) 304 304 Q 29 [.ref f, .int (nI n), v2] [] (ν, fg_rho R, 304) := by
    intro hh9 m
    induction m with
    | zero => intro n ν h; exact absurd h (Nat.not_lt_zero _)
    | succ m ih =>
      intro n ν hm hn hag hN v2
      have hTn := fg_TWp.agF ht hf hT hag
      have hzn := fg_zok.oz hok (⟨by omega, hz.2⟩ : fg_zok T (h + 1) Z hv) (o := o) n hn
      refine fg_iloadn (fg_ft (pc := 29) tb_Folk_passHour 16 rfl) rfl ?_
      refine fg_aloadn (fg_ft (pc := 30) tb_Folk_passHour 17 rfl) rfl ?_
      refine fg_getV (v := (nI (T 2))) (fg_ft (pc := 31) tb_Folk_passHour 18 rfl) ff_Folk_46 (fF_lay hf) rfl (fg_lt (fF_lay hf) (by decide)) hN.1 ?_
      refine fg_icmp_geN (tgt := 91) (fg_ft (pc := 34) tb_Folk_passHour 19 rfl) (by decide) (by omega) (by omega) (fun c34 => ?_) (fun c34 => ?_)
      · refine fg_aloadn (fg_ft (pc := 91) tb_Folk_passHour 48 rfl) rfl ?_
        refine fg_callV (fg_ft (pc := 92) tb_Folk_passHour 49 rfl) cf_Folk_158 (fg_isOf (fF_lay hf) rfl (fg_lt (fF_lay hf) (by decide))) (as := []) (st := []) rfl rfl (Nat.le_of_ble_eq_true rfl) (Nat.le_refl _) (Nat.le_refl _) (ev_Folk_holdMeetings ht hTn hok hf hft hN hzn hsh ?_)
        intro ν3 ho3 hN3
        show fg_wp _ _ _ _ _ _ _ _ _ (ν3, fg_rho R, 304)
        refine fg_iconst (fg_ft (pc := 95) tb_Folk_passHour 50 rfl) ic_0 ?_
        refine fg_istoren (fg_ft (pc := 96) tb_Folk_passHour 51 rfl) (Nat.le_of_ble_eq_true rfl) ?_
        rw [show n = T 2 by omega] at hN3
        rcases Nat.decEq (h + 1) 9 with h9 | h9
        · refine fg_aloadn (fg_ft (pc := 97) tb_Folk_passHour 52 rfl) rfl ?_
          refine fg_getV (v := (nI (h + 1))) (fg_ft (pc := 98) tb_Folk_passHour 53 rfl) ff_Folk_49 (fF_lay hf) rfl (fg_lt (fF_lay hf) (by decide)) hN3.2.1 ?_
          refine fg_bipush (fg_ft (pc := 101) tb_Folk_passHour 54 rfl) ib_9 ?_
          refine fg_icmp_neN (tgt := 138) (fg_ft (pc := 103) tb_Folk_passHour 55 rfl) (by decide) (by omega) (by decide) (fun c103 => ?_) (fun c103 => (absurd c103 h9))
          exact fg_vret (fg_ft (pc := 138) tb_Folk_passHour 74 rfl) rfl rfl (hQ ν3 (fg_agF_tr hag ho3) (by rw [fg_ph_lt (by omega)]; exact hN3))
        · exact loop2 h9 (T 2 + 1) 0 ν3 (by omega) (by omega) (fg_agF_tr hag ho3) (by rw [show fg_h0 hv 0 = hv from funext fun p => if_neg (Nat.not_lt_zero p)]; exact hN3) _
      · refine fg_aloadn (fg_ft (pc := 37) tb_Folk_passHour 20 rfl) rfl ?_
        refine fg_getR (fg_ft (pc := 38) tb_Folk_passHour 21 rfl) ff_Folk_9 (fF_lay hf) rfl (fg_lt (fF_lay hf) (by decide)) hft ?_
        refine fg_getR (fg_ft (pc := 41) tb_Folk_passHour 22 rfl) ff_Folk_29 (tT_lay ht) rfl (fg_lt (tT_lay ht) (by decide)) (tT_r3 ht) ?_
        refine fg_iloadn (fg_ft (pc := 44) tb_Folk_passHour 23 rfl) rfl ?_
        refine fg_iconst (fg_ft (pc := 45) tb_Folk_passHour 24 rfl) ic_2 ?_
        refine fg_callV (fg_ft (pc := 46) tb_Folk_passHour 25 rfl) cf_Folk_84 (fg_isOf ((tT_w3 (R := R) ht).1) rfl (fg_lt ((tT_w3 (R := R) ht).1) (by decide))) (as := [.int (nI n), .int (nI 2)]) (st := []) rfl rfl (Nat.le_of_ble_eq_true rfl) (Nat.le_refl _) (Nat.le_refl _) (ev_Rows_cell (tT_w3 (R := R) ht) hTn.2.2.1.1 hTn.2.2.1.2.1 (by have := hok.2.1; omega) (by decide) (by have := hok.2.1; omega) (i := n) (j := 2) (by omega) (by decide) (hTn.person2 (by omega)) ?_)
        refine fg_iloadn (fg_ft (pc := 49) tb_Folk_passHour 26 rfl) rfl ?_
        refine fg_aloadn (fg_ft (pc := 50) tb_Folk_passHour 27 rfl) rfl ?_
        refine fg_getV (v := (fg_o o.1)) (fg_ft (pc := 51) tb_Folk_passHour 28 rfl) ff_Folk_25 (fF_lay hf) rfl (fg_lt (fF_lay hf) (by decide)) hN.2.2.2.2.2.1.1 ?_
        refine fg_icmp_ne (tgt := 64) (fg_ft (pc := 54) tb_Folk_passHour 29 rfl) (by decide) (fun c54 => ?_) (fun c54 => ?_)
        · refine fg_iconst (fg_ft (pc := 64) tb_Folk_passHour 33 rfl) ic_0 ?_
          refine fg_iconst (fg_ft (pc := 65) tb_Folk_passHour 34 rfl) ic_m1 ?_
          refine fg_ixor (fg_ft (pc := 66) tb_Folk_passHour 35 rfl) ?_
          refine fg_iandD (fg_ft (pc := 67) tb_Folk_passHour 36 rfl) ?_
          refine fg_istoren (fg_ft (pc := 68) tb_Folk_passHour 37 rfl) (Nat.le_of_ble_eq_true rfl) ?_
          refine fg_iloadn (fg_ft (pc := 69) tb_Folk_passHour 38 rfl) rfl ?_
          refine fg_aloadn (fg_ft (pc := 70) tb_Folk_passHour 39 rfl) rfl ?_
          refine fg_getV (v := (nI (h + 1))) (fg_ft (pc := 71) tb_Folk_passHour 40 rfl) ff_Folk_49 (fF_lay hf) rfl (fg_lt (fF_lay hf) (by decide)) hN.2.1 ?_
          refine fg_callSN (fg_ft (pc := 74) tb_Folk_passHour 41 rfl) cf_Folk_90 (as := [.int (nI (fg_df (T (42 + 3 * n)) 0)), .int (nI (h + 1))]) (st := []) rfl rfl (Nat.le_of_ble_eq_true rfl) (Nat.le_refl _) (Nat.le_refl _) (ev_Fb_isIn (s := (fg_df (T (42 + 3 * n)) 0)) (k := (h + 1)) (fg_df_le31 (by have h3 := (hok.2.2.2.1 n (by omega)).2.2; omega)) (by omega) ?_)
          refine fg_ifB_eq (tgt := 85) (fg_ft (pc := 77) tb_Folk_passHour 42 rfl) (by decide) (fun c77 => ?_) (fun c77 => ?_)
          · refine fg_iincN (fg_ft (pc := 85) tb_Folk_passHour 46 rfl) rfl ic_1 rfl ?_
            refine fg_goto (tgt := 29) (fg_ft (pc := 88) tb_Folk_passHour 47 rfl) (by decide) ?_
            exact ih (n + 1) ν (by omega) (by omega) hag (by simp only [fg_oz]; rw [if_neg (by first | (rw [if_pos c54]; exact c77) | (rw [if_neg c54]; exact c77))]; exact hN) _
          · refine fg_aloadn (fg_ft (pc := 80) tb_Folk_passHour 43 rfl) rfl ?_
            refine fg_iloadn (fg_ft (pc := 81) tb_Folk_passHour 44 rfl) rfl ?_
            refine fg_callV (fg_ft (pc := 82) tb_Folk_passHour 45 rfl) cf_Folk_154 (fg_isOf (fF_lay hf) rfl (fg_lt (fF_lay hf) (by decide))) (as := [.int (nI n)]) (st := []) rfl rfl (Nat.le_of_ble_eq_true rfl) (Nat.le_refl _) (Nat.le_refl _) (ev_Folk_seeSigns ht hTn hok hf hft hN hzn (p := n) (by omega) ?_)
            intro ν2 ho2 hN2
            show fg_wp _ _ _ _ _ _ _ _ _ (ν2, fg_rho R, 304)
            refine fg_iincN (fg_ft (pc := 85) tb_Folk_passHour 46 rfl) rfl ic_1 rfl ?_
            refine fg_goto (tgt := 29) (fg_ft (pc := 88) tb_Folk_passHour 47 rfl) (by decide) ?_
            exact ih (n + 1) ν2 (by omega) (by omega) (fg_agF_tr hag ho2) (by simp only [fg_oz]; rw [if_pos (by first | (rw [if_pos c54]; exact c77) | (rw [if_neg c54]; exact c77))]; exact hN2) _
        · refine fg_aloadn (fg_ft (pc := 57) tb_Folk_passHour 30 rfl) rfl ?_
          refine fg_getV (v := (nI (o.2.1))) (fg_ft (pc := 58) tb_Folk_passHour 31 rfl) ff_Folk_59 (fF_lay hf) rfl (fg_lt (fF_lay hf) (by decide)) hN.2.2.2.2.2.1.2.1 ?_
          refine fg_goto (tgt := 65) (fg_ft (pc := 61) tb_Folk_passHour 32 rfl) (by decide) ?_
          refine fg_iconst (fg_ft (pc := 65) tb_Folk_passHour 34 rfl) ic_m1 ?_
          refine fg_ixor (fg_ft (pc := 66) tb_Folk_passHour 35 rfl) ?_
          refine fg_iandD (fg_ft (pc := 67) tb_Folk_passHour 36 rfl) ?_
          refine fg_istoren (fg_ft (pc := 68) tb_Folk_passHour 37 rfl) (Nat.le_of_ble_eq_true rfl) ?_
          refine fg_iloadn (fg_ft (pc := 69) tb_Folk_passHour 38 rfl) rfl ?_
          refine fg_aloadn (fg_ft (pc := 70) tb_Folk_passHour 39 rfl) rfl ?_
          refine fg_getV (v := (nI (h + 1))) (fg_ft (pc := 71) tb_Folk_passHour 40 rfl) ff_Folk_49 (fF_lay hf) rfl (fg_lt (fF_lay hf) (by decide)) hN.2.1 ?_
          refine fg_callSN (fg_ft (pc := 74) tb_Folk_passHour 41 rfl) cf_Folk_90 (as := [.int (nI (fg_df (T (42 + 3 * n)) (o.2.1))), .int (nI (h + 1))]) (st := []) rfl rfl (Nat.le_of_ble_eq_true rfl) (Nat.le_refl _) (Nat.le_refl _) (ev_Fb_isIn (s := (fg_df (T (42 + 3 * n)) (o.2.1))) (k := (h + 1)) (fg_df_le31 (by have h3 := (hok.2.2.2.1 n (by omega)).2.2; omega)) (by omega) ?_)
          refine fg_ifB_eq (tgt := 85) (fg_ft (pc := 77) tb_Folk_passHour 42 rfl) (by decide) (fun c77 => ?_) (fun c77 => ?_)
          · refine fg_iincN (fg_ft (pc := 85) tb_Folk_passHour 46 rfl) rfl ic_1 rfl ?_
            refine fg_goto (tgt := 29) (fg_ft (pc := 88) tb_Folk_passHour 47 rfl) (by decide) ?_
            exact ih (n + 1) ν (by omega) (by omega) hag (by simp only [fg_oz]; rw [if_neg (by first | (rw [if_pos c54]; exact c77) | (rw [if_neg c54]; exact c77))]; exact hN) _
          · refine fg_aloadn (fg_ft (pc := 80) tb_Folk_passHour 43 rfl) rfl ?_
            refine fg_iloadn (fg_ft (pc := 81) tb_Folk_passHour 44 rfl) rfl ?_
            refine fg_callV (fg_ft (pc := 82) tb_Folk_passHour 45 rfl) cf_Folk_154 (fg_isOf (fF_lay hf) rfl (fg_lt (fF_lay hf) (by decide))) (as := [.int (nI n)]) (st := []) rfl rfl (Nat.le_of_ble_eq_true rfl) (Nat.le_refl _) (Nat.le_refl _) (ev_Folk_seeSigns ht hTn hok hf hft hN hzn (p := n) (by omega) ?_)
            intro ν2 ho2 hN2
            show fg_wp _ _ _ _ _ _ _ _ _ (ν2, fg_rho R, 304)
            refine fg_iincN (fg_ft (pc := 85) tb_Folk_passHour 46 rfl) rfl ic_1 rfl ?_
            refine fg_goto (tgt := 29) (fg_ft (pc := 88) tb_Folk_passHour 47 rfl) (by decide) ?_
            exact ih (n + 1) ν2 (by omega) (by omega) (fg_agF_tr hag ho2) (by simp only [fg_oz]; rw [if_pos (by first | (rw [if_pos c54]; exact c77) | (rw [if_neg c54]; exact c77))]; exact hN2) _
  refine fg_intro (by decide +kernel) (Nat.le_of_ble_eq_true rfl) (fg_okAs rfl) (Nat.le_refl _) ?_
  refine fg_aloadn (fg_ft (pc := 0) tb_Folk_passHour 0 rfl) rfl ?_
  refine fg_getV (v := (nI h)) (fg_ft (pc := 1) tb_Folk_passHour 1 rfl) ff_Folk_49 (fF_lay hf) rfl (fg_lt (fF_lay hf) (by decide)) hF.2.1 ?_
  refine fg_bipush (fg_ft (pc := 4) tb_Folk_passHour 2 rfl) ib_9 ?_
  refine fg_icmp_geN (tgt := 16) (fg_ft (pc := 6) tb_Folk_passHour 3 rfl) (by decide) (by omega) (by decide) (fun c6 => ?_) (fun c6 => ?_)
  · exact fg_vret (fg_ft (pc := 16) tb_Folk_passHour 7 rfl) rfl rfl (hQ μ (fg_agF_rf f μ) (by rw [fg_ph_ge c6]; exact hF))
  · refine fg_aloadn (fg_ft (pc := 9) tb_Folk_passHour 4 rfl) rfl ?_
    refine fg_getR (fg_ft (pc := 10) tb_Folk_passHour 5 rfl) ff_Folk_9 (fF_lay hf) rfl (fg_lt (fF_lay hf) (by decide)) hft ?_
    refine fg_ifnonnull (tgt := 17) (fg_ft (pc := 13) tb_Folk_passHour 6 rfl) (by decide) ?_
    refine fg_aloadn (fg_ft (pc := 17) tb_Folk_passHour 8 rfl) rfl ?_
    refine fg_dup (fg_ft (pc := 18) tb_Folk_passHour 9 rfl) rfl ?_
    refine fg_getV (v := (nI h)) (fg_ft (pc := 19) tb_Folk_passHour 10 rfl) ff_Folk_49 (fF_lay hf) rfl (fg_lt (fF_lay hf) (by decide)) hF.2.1 ?_
    refine fg_iconst (fg_ft (pc := 22) tb_Folk_passHour 11 rfl) ic_1 ?_
    refine fg_iaddN (fg_ft (pc := 23) tb_Folk_passHour 12 rfl) ?_
    refine fg_putI (fg_ft (pc := 24) tb_Folk_passHour 13 rfl) ff_Folk_49 (fF_lay hf) rfl (fg_lt (fF_lay hf) (by decide)) (fg_nokI _) (fun _ _ h => by cases h; rfl) ?_
    show fg_wp _ _ _ _ _ _ _ _ _ (fg_u2 μ f 2 (nI (h + 1)), fg_rho R, 304)
    refine fg_iconst (fg_ft (pc := 27) tb_Folk_passHour 14 rfl) ic_0 ?_
    refine fg_istoren (fg_ft (pc := 28) tb_Folk_passHour 15 rfl) (Nat.le_of_ble_eq_true rfl) ?_
    exact loop1 c6 (T 2 + 1) 0 _ (by omega) (by omega) (fg_agF_u (by omega) (by omega)) hF.setHour _
theorem ev_Folk_passDay {E : fg_E} {d : Nat} {μ : Nat → Nat → Int32} {R : fg_T4} {Q : Option Value → fg_M → Prop} {t : Nat} {T : Nat → Nat} (ht : fg_isT t) (hT : fg_TW μ t T) (hok : fg_ok T) {f h : Nat} {Z : fg_Z} {hv lv : Nat → Nat} {o : Option Nat × Nat × Nat} (hf : fg_isF f) (hft : fg_rho R f 0 = some t) (hF : fg_FZ μ f T h Z hv lv o) (hz : fg_zok T h Z hv) (hsh : o.2.2 < 2 ^ 31) (hQ : ∀ μ' : Nat → Nat → Int32, fg_agF f μ μ' → fg_FS μ' f T (fg_pn T o (9 - h) (h, Z, hv)) lv o → Q none (μ', fg_rho R, 304)) : fg_Ev E yy_Folk_passDay (d + 6) [.ref f] (μ, fg_rho R, 304) 304 Q := by
  have hb0 := hok.1
  have hb1 := hok.2.1
  have hp := hok.p
  have hq := Nat.two_pow_pos (T 0)
  have hfb := fF_b hf
  have hz9 := hz.1
  have loop : ∀ (m n : Nat) (ν : Nat → Nat → Int32), 9 - h - n < m → n ≤ 9 - h → fg_agF f μ ν → fg_FS ν f T (fg_pn T o n (h, Z, hv)) lv o → fg_wp E yy_Folk_passDay (d + 6) 304 304 Q 8 [.ref f, .int (nI (9 - h - n))] [] (ν, fg_rho R, 304) := by
    intro m
    induction m with
    | zero => intro n ν h; exact absurd h (Nat.not_lt_zero _)
    | succ m ih =>
      intro n ν hm hn hag hN
      have hTn := fg_TWp.agF ht hf hT hag
      have hzn := fg_pn_ok hok (o := o) n (h, Z, hv) hz
      refine fg_iloadn (fg_ft (pc := 8) tb_Folk_passDay 5 rfl) rfl ?_
      refine fg_if_leN (tgt := 22) (fg_ft (pc := 9) tb_Folk_passDay 6 rfl) (by decide) (by omega) (fun c9 => ?_) (fun c9 => ?_)
      · exact fg_vret (fg_ft (pc := 22) tb_Folk_passDay 11 rfl) rfl rfl (hQ ν hag (by rw [show n = 9 - h by omega] at hN; exact hN))
      · refine fg_aloadn (fg_ft (pc := 12) tb_Folk_passDay 7 rfl) rfl ?_
        refine fg_callV (fg_ft (pc := 13) tb_Folk_passDay 8 rfl) cf_Folk_129 (fg_isOf (fF_lay hf) rfl (fg_lt (fF_lay hf) (by decide))) (as := []) (st := []) rfl rfl (Nat.le_of_ble_eq_true rfl) (Nat.le_refl _) (Nat.le_refl _) (ev_Folk_passHour ht hTn hok hf hft hN hzn hsh ?_)
        intro ν2 ho2 hN2
        show fg_wp _ _ _ _ _ _ _ _ _ (ν2, fg_rho R, 304)
        refine fg_iinc (fg_ft (pc := 16) tb_Folk_passDay 9 rfl) rfl (v := nI (9 - h - (n + 1))) ((fg_dec (by omega)).trans (congrArg nI (by omega))) ?_
        refine fg_goto (tgt := 8) (fg_ft (pc := 19) tb_Folk_passDay 10 rfl) (by decide) ?_
        exact ih (n + 1) ν2 (by omega) (by omega) (fg_agF_tr hag ho2) (by rw [fg_pn_succ]; exact hN2)
  refine fg_intro (by decide +kernel) (Nat.le_of_ble_eq_true rfl) (fg_okAs rfl) (Nat.le_refl _) ?_
  refine fg_bipush (fg_ft (pc := 0) tb_Folk_passDay 0 rfl) ib_9 ?_
  refine fg_aloadn (fg_ft (pc := 2) tb_Folk_passDay 1 rfl) rfl ?_
  refine fg_getV (v := (nI h)) (fg_ft (pc := 3) tb_Folk_passDay 2 rfl) ff_Folk_49 (fF_lay hf) rfl (fg_lt (fF_lay hf) (by decide)) hF.2.1 ?_
  refine fg_isubN (fg_ft (pc := 6) tb_Folk_passDay 3 rfl) (by omega) ?_
  refine fg_istoren (fg_ft (pc := 7) tb_Folk_passDay 4 rfl) (Nat.le_of_ble_eq_true rfl) ?_
  exact loop (9 - h + 1) 0 μ (by omega) (by omega) (fg_agF_rf f μ) hF

noncomputable def fg_ch (T : Nat → Nat) (o : Option Nat × Nat × Nat) (p k : Nat) : Nat → fg_H3 → fg_H3
  | 0, S => S
  | n + 1, S => if p < T 2 ∧ (S.2.1.1 p).testBit k = true then S else fg_ch T o p k n (fg_ph T o S)
theorem fg_ch_ok {T : Nat → Nat} (hok : fg_ok T) {o : Option Nat × Nat × Nat} {p k : Nat} : ∀ n (S : fg_H3), fg_zok T S.1 S.2.1 S.2.2 → fg_zok T (fg_ch T o p k n S).1 (fg_ch T o p k n S).2.1 (fg_ch T o p k n S).2.2 := by
  intro n
  induction n with
  | zero => intro S h; exact h
  | succ n ih =>
    intro S h
    unfold fg_ch
    split
    · exact h
    · exact ih _ (fg_zok.ph hok h)
theorem ev_Folk_comesToHave {E : fg_E} {d : Nat} {μ : Nat → Nat → Int32} {R : fg_T4} {Q : Option Value → fg_M → Prop} {t : Nat} {T : Nat → Nat} (ht : fg_isT t) (hT : fg_TW μ t T) (hok : fg_ok T) {f h : Nat} {Z : fg_Z} {hv lv : Nat → Nat} {o : Option Nat × Nat × Nat} (hf : fg_isF f) (hft : fg_rho R f 0 = some t) (hF : fg_FZ μ f T h Z hv lv o) (hz : fg_zok T h Z hv) {p k : Nat} (hp31 : p < 2 ^ 31) (hk31 : k < 2 ^ 31) (hsh : o.2.2 < 2 ^ 31) (hQ : ∀ μ' : Nat → Nat → Int32, fg_agF f μ μ' → fg_FS μ' f T (fg_ch T o p k (9 - h) (h, Z, hv)) lv o → Q (some (.int (fg_bI (p < T 2 ∧ ((fg_ch T o p k (9 - h) (h, Z, hv)).2.1.1 p).testBit k = true)))) (μ', fg_rho R, 304)) : fg_Ev E yy_Folk_comesToHave (d + 6) [.ref f, .int (nI p), .int (nI k)] (μ, fg_rho R, 304) 304 Q := by
  have hb0 := hok.1
  have hb1 := hok.2.1
  have hp := hok.p
  have hq := Nat.two_pow_pos (T 0)
  have hfb := fF_b hf
  have hz9 := hz.1
  have loop : ∀ (n : Nat) (S : fg_H3) (ν : Nat → Nat → Int32), fg_zok T S.1 S.2.1 S.2.2 → fg_agF f μ ν → fg_FS ν f T S lv o → n ≤ 9 → (∀ μ' : Nat → Nat → Int32, fg_agF f μ μ' → fg_FS μ' f T (fg_ch T o p k n S) lv o → Q (some (.int (fg_bI (p < T 2 ∧ ((fg_ch T o p k n S).2.1.1 p).testBit k = true)))) (μ', fg_rho R, 304)) → fg_wp E yy_Folk_comesToHave (d + 6) 304 304 Q 8 [.ref f, .int (nI p), .int (nI k), .int (nI n)] [] (ν, fg_rho R, 304) := by
    intro n
    induction n with
    | zero =>
      intro S ν hzn hag hN hn hQ3
      have hTn := fg_TWp.agF ht hf hT hag
      refine fg_iloadn (fg_ft (pc := 8) tb_Folk_comesToHave 5 rfl) rfl ?_
      refine fg_if_leN (tgt := 31) (fg_ft (pc := 9) tb_Folk_comesToHave 6 rfl) (by decide) (by decide) (fun c9 => ?_) (fun c9 => (absurd c9 (by decide)))
      refine fg_aloadn (fg_ft (pc := 31) tb_Folk_comesToHave 16 rfl) rfl ?_
      refine fg_iloadn (fg_ft (pc := 32) tb_Folk_comesToHave 17 rfl) rfl ?_
      refine fg_iloadn (fg_ft (pc := 33) tb_Folk_comesToHave 18 rfl) rfl ?_
      refine fg_callV (fg_ft (pc := 34) tb_Folk_comesToHave 19 rfl) cf_Folk_110 (fg_isOf (fF_lay hf) rfl (fg_lt (fF_lay hf) (by decide))) (as := [.int (nI p), .int (nI k)]) (st := []) rfl rfl (Nat.le_of_ble_eq_true rfl) (Nat.le_refl _) (Nat.le_refl _) (ev_Folk_has ht hTn hok hf hft hN hzn (p := p) (k := k) (hp31) (hk31) ?_)
      exact fg_zret (fg_ft (pc := 37) tb_Folk_comesToHave 20 rfl) rfl (fg_bN _) rfl (hQ3 ν hag hN)
    | succ n ih =>
      intro S ν hzn hag hN hn hQ3
      have hTn := fg_TWp.agF ht hf hT hag
      refine fg_iloadn (fg_ft (pc := 8) tb_Folk_comesToHave 5 rfl) rfl ?_
      refine fg_if_leN (tgt := 31) (fg_ft (pc := 9) tb_Folk_comesToHave 6 rfl) (by decide) (by omega) (fun c9 => (absurd c9 (by omega))) (fun c9 => ?_)
      refine fg_aloadn (fg_ft (pc := 12) tb_Folk_comesToHave 7 rfl) rfl ?_
      refine fg_iloadn (fg_ft (pc := 13) tb_Folk_comesToHave 8 rfl) rfl ?_
      refine fg_iloadn (fg_ft (pc := 14) tb_Folk_comesToHave 9 rfl) rfl ?_
      refine fg_callV (fg_ft (pc := 15) tb_Folk_comesToHave 10 rfl) cf_Folk_110 (fg_isOf (fF_lay hf) rfl (fg_lt (fF_lay hf) (by decide))) (as := [.int (nI p), .int (nI k)]) (st := []) rfl rfl (Nat.le_of_ble_eq_true rfl) (Nat.le_refl _) (Nat.le_refl _) (ev_Folk_has ht hTn hok hf hft hN hzn (p := p) (k := k) (hp31) (hk31) ?_)
      refine fg_ifB_ne (tgt := 31) (fg_ft (pc := 18) tb_Folk_comesToHave 11 rfl) (by decide) (fun c18 => ?_) (fun c18 => ?_)
      · refine fg_aloadn (fg_ft (pc := 31) tb_Folk_comesToHave 16 rfl) rfl ?_
        refine fg_iloadn (fg_ft (pc := 32) tb_Folk_comesToHave 17 rfl) rfl ?_
        refine fg_iloadn (fg_ft (pc := 33) tb_Folk_comesToHave 18 rfl) rfl ?_
        refine fg_callV (fg_ft (pc := 34) tb_Folk_comesToHave 19 rfl) cf_Folk_110 (fg_isOf (fF_lay hf) rfl (fg_lt (fF_lay hf) (by decide))) (as := [.int (nI p), .int (nI k)]) (st := []) rfl rfl (Nat.le_of_ble_eq_true rfl) (Nat.le_refl _) (Nat.le_refl _) (ev_Folk_has ht hTn hok hf hft hN hzn (p := p) (k := k) (hp31) (hk31) ?_)
        exact fg_zret (fg_ft (pc := 37) tb_Folk_comesToHave 20 rfl) rfl (fg_bN _) rfl ((by simp only [fg_ch] at hQ3; rw [if_pos c18] at hQ3; exact hQ3 ν hag hN))
      · refine fg_aloadn (fg_ft (pc := 21) tb_Folk_comesToHave 12 rfl) rfl ?_
        refine fg_callV (fg_ft (pc := 22) tb_Folk_comesToHave 13 rfl) cf_Folk_129 (fg_isOf (fF_lay hf) rfl (fg_lt (fF_lay hf) (by decide))) (as := []) (st := []) rfl rfl (Nat.le_of_ble_eq_true rfl) (Nat.le_refl _) (Nat.le_refl _) (ev_Folk_passHour ht hTn hok hf hft hN hzn hsh ?_)
        intro ν2 ho2 hN2
        show fg_wp _ _ _ _ _ _ _ _ _ (ν2, fg_rho R, 304)
        refine fg_iinc (fg_ft (pc := 25) tb_Folk_comesToHave 14 rfl) rfl (v := nI n) (fg_dec (by omega)) ?_
        refine fg_goto (tgt := 8) (fg_ft (pc := 28) tb_Folk_comesToHave 15 rfl) (by decide) ?_
        refine ih (fg_ph T o S) ν2 (fg_zok.ph hok hzn) (fg_agF_tr hag ho2) hN2 (by omega) ?_
        simp only [fg_ch] at hQ3
        rw [if_neg c18] at hQ3
        exact hQ3
  refine fg_intro (by decide +kernel) (Nat.le_of_ble_eq_true rfl) (fg_okAs rfl) (Nat.le_refl _) ?_
  refine fg_bipush (fg_ft (pc := 0) tb_Folk_comesToHave 0 rfl) ib_9 ?_
  refine fg_aloadn (fg_ft (pc := 2) tb_Folk_comesToHave 1 rfl) rfl ?_
  refine fg_getV (v := (nI h)) (fg_ft (pc := 3) tb_Folk_comesToHave 2 rfl) ff_Folk_49 (fF_lay hf) rfl (fg_lt (fF_lay hf) (by decide)) hF.2.1 ?_
  refine fg_isubN (fg_ft (pc := 6) tb_Folk_comesToHave 3 rfl) (by omega) ?_
  refine fg_istoren (fg_ft (pc := 7) tb_Folk_comesToHave 4 rfl) (Nat.le_of_ble_eq_true rfl) ?_
  exact loop (9 - h) (h, Z, hv) μ hz (fg_agF_rf f μ) hF (by omega) hQ
