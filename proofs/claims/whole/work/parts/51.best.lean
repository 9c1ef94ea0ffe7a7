theorem ev_Fb_safe {E : fg_E} {d : Nat} {μ : Nat → Nat → Int32} {R : fg_T4} {Q : Option Value → fg_M → Prop} {A : fg_Tl} (hA : fg_TL μ 101 A) {town day n person fact : Nat} {what : Int32} (htown : town < 2 ^ 32) (hday : day < 2 ^ 32) (hn : n < 2 ^ 32) (hperson : person < 2 ^ 32) (hfact : fact < 2 ^ 32) (hQ : ∀ (μ' : Nat → Nat → Int32) (R' : fg_T4), fg_agQ μ μ' → Q (some (.int (an_safe A town day n person fact what))) (μ', fg_rho R', 304)) : fg_Ev E yy_Fb_safe (d + 12) [.ref 100, .int (nI town), .int (nI day), .int (nI n), .int (nI person), .int (nI fact), .int what] (μ, fg_rho R, 304) 304 Q := by
  have ht2 := hA.2.2.2.1.2
  have hd3 := hA.2.2.2.2.1.2
  refine fg_intro (by decide +kernel) (Nat.le_of_ble_eq_true rfl) (fg_okAs rfl) (Nat.le_refl _) ?_
  refine fg_aloadn (fg_ft (pc := 0) tb_Fb_safe 0 rfl) rfl ?_
  refine fg_iloadn (fg_ft (pc := 1) tb_Fb_safe 1 rfl) rfl ?_
  refine fg_iloadn (fg_ft (pc := 2) tb_Fb_safe 2 rfl) rfl ?_
  refine fg_iloadn (fg_ft (pc := 3) tb_Fb_safe 3 rfl) rfl ?_
  refine fg_iload (fg_ft (pc := 4) tb_Fb_safe 4 rfl) rfl ?_
  refine fg_callV (fg_ft (pc := 6) tb_Fb_safe 5 rfl) cf_Fb_221 (fg_isOf ly_100 rfl (fg_lt ly_100 (by decide))) (as := [.int (nI town), .int (nI day), .int (nI n), .int (nI person)]) (st := []) rfl rfl (Nat.le_of_ble_eq_true rfl) (Nat.le_refl _) (Nat.le_refl _) (ev_Fb_findOne hA htown hday hn hperson (fun n4 μ1 R1 ho1 hR1 => ?_) (fun S lv y4 y5 μ1 ho1 hF1 => ?_))
  · refine fg_astoreN (fg_ft (pc := 9) tb_Fb_safe 6 rfl) (Nat.le_of_ble_eq_true rfl) ?_
    refine fg_aloadN (fg_ft (pc := 11) tb_Fb_safe 7 rfl) rfl ?_
    refine fg_ifnull (tgt := 43) (fg_ft (pc := 13) tb_Fb_safe 8 rfl) (by decide) ?_
    refine fg_iconst (fg_ft (pc := 43) tb_Fb_safe 21 rfl) ic_m1 ?_
    exact fg_iret (fg_ft (pc := 44) tb_Fb_safe 22 rfl) rfl rfl (fg_q (hQ _ R1 (fg_agQ_F (Or.inl rfl) ho1)) (by unfold an_safe; rw [fg_g1_none n4] <;> ((repeat (first | rw [if_pos (by assumption)] | rw [if_neg (by assumption)] | rw [if_pos (by omega)] | rw [if_neg (by omega)] | rw [if_pos (by constructor <;> assumption)] | rw [if_neg (by intro hh; exact absurd hh.1 (by assumption))] | rw [if_neg (by intro hh; exact absurd hh.2 (by assumption))])); (try rfl))))
  · have ytc := fg_fnd_t y4
    have hok := (hA.2.2.2.2.2.1 town ytc).2
    have ht : fg_isT (104 + 14 * town) := fg_isT_told (by omega)
    have hT1 := fg_TL.town hA (Or.inl rfl) ytc ho1
    have hz := fg_fnd_ok hA y4
    have hb0 := hok.1
    have hb1 := hok.2.1
    have hp := hok.p
    have hm2 := hz.2.1 person y5
    have hm0 : S.2.1.1 person < 2 ^ A.ts town 0 := hm2.1
    have hmc : fg_clsd (A.ts town) (S.2.1.1 person) := hm2.2
    have hm10 : S.2.1.1 person < 1024 := by omega
    refine fg_astore (fg_ft (pc := 9) tb_Fb_safe 6 rfl) (Nat.le_of_ble_eq_true rfl) ?_
    refine fg_aload (fg_ft (pc := 11) tb_Fb_safe 7 rfl) rfl ?_
    refine fg_ifnull_r (fg_ft (pc := 13) tb_Fb_safe 8 rfl) ?_
    refine fg_aload (fg_ft (pc := 16) tb_Fb_safe 9 rfl) rfl ?_
    refine fg_getR (fg_ft (pc := 18) tb_Fb_safe 10 rfl) ff_Fb_194 ly_273 rfl (fg_lt ly_273 (by decide)) rfl ?_
    refine fg_iload (fg_ft (pc := 21) tb_Fb_safe 11 rfl) rfl ?_
    refine fg_callV (fg_ft (pc := 23) tb_Fb_safe 12 rfl) cf_Fb_164 (fg_isOf (tT_lay ht) rfl (fg_lt (tT_lay ht) (by decide))) (as := [.int (nI fact)]) (st := []) rfl rfl (Nat.le_of_ble_eq_true rfl) (Nat.le_refl _) (Nat.le_refl _) (ev_Town_hasFactX ht hT1 hok (k := fact) hfact ?_)
    refine fg_ifB_eq (tgt := 43) (fg_ft (pc := 26) tb_Fb_safe 13 rfl) (by decide) (fun c26 => ?_) (fun c26 => ?_)
    · refine fg_iconst (fg_ft (pc := 43) tb_Fb_safe 21 rfl) ic_m1 ?_
      exact fg_iret (fg_ft (pc := 44) tb_Fb_safe 22 rfl) rfl rfl (fg_q (hQ _ (some (104 + 14 * town), R.2.1, R.2.2.1, R.2.2.2) (fg_agQ_F (Or.inl rfl) ho1)) (by unfold an_safe; rw [fg_g1_some y4 y5]; first | rw [if_neg c26] | (rw [if_pos c26]; exact fg_srch_none (fun j hj hh => hh (fg_hbe_mono hok hz y5 (Nat.two_pow_pos _) (fg_clsd0 hok) (fg_BF_lt hok hm0 hj) (fg_BF_cl hok hmc hj) (fun i hi => by rw [Nat.zero_testBit] at hi; cases hi) c40.2)))))
    · refine fg_aloadn (fg_ft (pc := 29) tb_Fb_safe 14 rfl) rfl ?_
      refine fg_aload (fg_ft (pc := 30) tb_Fb_safe 15 rfl) rfl ?_
      refine fg_iload (fg_ft (pc := 32) tb_Fb_safe 16 rfl) rfl ?_
      refine fg_iconst (fg_ft (pc := 34) tb_Fb_safe 17 rfl) ic_0 ?_
      refine fg_iload (fg_ft (pc := 35) tb_Fb_safe 18 rfl) rfl ?_
      refine fg_callV (fg_ft (pc := 37) tb_Fb_safe 19 rfl) cf_Fb_277 (fg_isOf ly_100 rfl (fg_lt ly_100 (by decide))) (as := [.ref 273, .int (nI person), .int (nI 0), .int (nI fact)]) (st := []) rfl rfl (Nat.le_of_ble_eq_true rfl) (Nat.le_refl _) (Nat.le_refl _) (ev_Fb_hasByEvening (R := (some (104 + 14 * town), R.2.1, R.2.2.1, R.2.2.2)) ht (fg_TWp.agX ht hT1 (fg_agX_rf μ1)) hok (h := S.1) (Z := S.2.1) (hv := S.2.2) rfl (hF1.agX (fg_agX_rf μ1)) hz (p := person) (m := 0) (k := fact) y5 (Nat.two_pow_pos _) (fg_clsd0 hok) (by omega) ?_)
      intro μh1 hh1
      have hTz1 := fg_TWp.agX ht hT1 (fg_agX_tr (fg_agX_rf μ1) (fg_agX_F hh1))
      have hFz1 := hF1.agX (fg_agX_tr (fg_agX_rf μ1) (fg_agX_F hh1))
      show fg_wp _ _ _ _ _ _ _ _ _ (μh1, fg_rho (some (104 + 14 * town), some (104 + 14 * town), R.2.2.1, R.2.2.2), 304)
      refine fg_ifB_eq (tgt := 45) (fg_ft (pc := 40) tb_Fb_safe 20 rfl) (by decide) (fun c40 => ?_) (fun c40 => ?_)
      · refine fg_aloadn (fg_ft (pc := 45) tb_Fb_safe 23 rfl) rfl ?_
        refine fg_getR (fg_ft (pc := 46) tb_Fb_safe 24 rfl) ff_Fb_44 ly_100 rfl (fg_lt ly_100 (by decide)) (rh_100_6 (some (104 + 14 * town), some (104 + 14 * town), R.2.2.1, R.2.2.2)) ?_
        refine fg_aload (fg_ft (pc := 49) tb_Fb_safe 25 rfl) rfl ?_
        refine fg_getR (fg_ft (pc := 51) tb_Fb_safe 26 rfl) ff_Fb_194 ly_273 rfl (fg_lt ly_273 (by decide)) rfl ?_
        refine fg_aload (fg_ft (pc := 54) tb_Fb_safe 27 rfl) rfl ?_
        refine fg_iload (fg_ft (pc := 56) tb_Fb_safe 28 rfl) rfl ?_
        refine fg_callV (fg_ft (pc := 58) tb_Fb_safe 29 rfl) cf_Fb_181 (fg_isOf ly_273 rfl (fg_lt ly_273 (by decide))) (as := [.int (nI person)]) (st := [.ref (104 + 14 * town), .ref 281]) rfl rfl (Nat.le_of_ble_eq_true rfl) (Nat.le_refl _) (Nat.le_refl _) (ev_Folk_mind ht hTz1 hok (Or.inl rfl) rfl hFz1 hz (p := person) (by omega) ?_)
        refine fg_bipush (fg_ft (pc := 61) tb_Fb_safe 30 rfl) ib_10 ?_
        refine fg_callV (fg_ft (pc := 63) tb_Fb_safe 31 rfl) cf_Fb_267 (fg_isOf ly_281 rfl (fg_lt ly_281 (by decide))) (as := [.ref (104 + 14 * town), .int (nI (S.2.1.1 person)), .int (nI 10)]) (st := []) rfl rfl (Nat.le_of_ble_eq_true rfl) (Nat.le_refl _) (Nat.le_refl _) (ev_Search_startX (R := (some (104 + 14 * town), some (104 + 14 * town), R.2.2.1, R.2.2.2)) ht (fg_TWp.agX ht hT1 (fg_agX_tr (fg_agX_rf μ1) (fg_agX_F hh1))) hok (m := (S.2.1.1 person)) (mst := 10) hm0 ?_)
        intro μs hos hsk
        show fg_wp _ _ _ _ _ _ _ _ _ (μs, fg_rho (some (104 + 14 * town), some (104 + 14 * town), some (104 + 14 * town), R.2.2.2), 304)
        refine fg_istore (fg_ft (pc := 66) tb_Fb_safe 32 rfl) (Nat.le_of_ble_eq_true rfl) ?_
        refine fg_sipush (fg_ft (pc := 68) tb_Fb_safe 33 rfl) is_1024 ?_
        refine fg_istore (fg_ft (pc := 71) tb_Fb_safe 34 rfl) (Nat.le_of_ble_eq_true rfl) ?_
        have loop : ∀ (m k l : Nat) (ν : Nat → Nat → Int32), l < m → l + k = 1024 → fg_agQ μ ν → fg_agX μ1 ν → fg_SK ν (A.ts town) (S.2.1.1 person) 10 k → (∀ j, j < k → ¬ ¬ fg_hbe (A.ts town) S person ((fg_BF (A.ts town) (S.2.1.1 person) 10).2.1 j) fact) → fg_wp E yy_Fb_safe (d + 12) 304 304 Q 73 [.ref 100, .int (nI town), .int (nI day), .int (nI n), .int (nI person), .int (nI fact), .int what, .ref 273, .int (nI ((fg_BF (A.ts town) (S.2.1.1 person) 10).2.1 k)), .int (nI l)] [] (ν, fg_rho (some (104 + 14 * town), some (104 + 14 * town), some (104 + 14 * town), R.2.2.2), 304) := by
          intro m
          induction m with
          | zero => intro k l ν h; exact absurd h (Nat.not_lt_zero _)
          | succ m ih =>
            intro k l ν hm hlk haq hax hsk hno
            have hsl := fg_SK_lt hok hm0 hsk
            have hmk := fg_BF_lt hok hm0 hsl.2.1
            have hck := fg_BF_cl hok hmc hsl.2.1
            refine fg_iload (fg_ft (pc := 73) tb_Fb_safe 35 rfl) rfl ?_
            refine fg_if_leN (tgt := 114) (fg_ft (pc := 75) tb_Fb_safe 36 rfl) (by decide) (by omega) (fun c75 => (absurd c75 (by omega))) (fun c75 => ?_)
            refine fg_iload (fg_ft (pc := 78) tb_Fb_safe 37 rfl) rfl ?_
            refine fg_iconst (fg_ft (pc := 80) tb_Fb_safe 38 rfl) ic_m1 ?_
            refine fg_icmp_eqM (tgt := 114) (fg_ft (pc := 81) tb_Fb_safe 39 rfl) (by decide) ((by omega)) (fun c81 => (absurd c81 (by omega))) (fun c81 => ?_)
            refine fg_aloadn (fg_ft (pc := 84) tb_Fb_safe 40 rfl) rfl ?_
            refine fg_aload (fg_ft (pc := 85) tb_Fb_safe 41 rfl) rfl ?_
            refine fg_iload (fg_ft (pc := 87) tb_Fb_safe 42 rfl) rfl ?_
            refine fg_iload (fg_ft (pc := 89) tb_Fb_safe 43 rfl) rfl ?_
            refine fg_iload (fg_ft (pc := 91) tb_Fb_safe 44 rfl) rfl ?_
            refine fg_callV (fg_ft (pc := 93) tb_Fb_safe 45 rfl) cf_Fb_277 (fg_isOf ly_100 rfl (fg_lt ly_100 (by decide))) (as := [.ref 273, .int (nI person), .int (nI ((fg_BF (A.ts town) (S.2.1.1 person) 10).2.1 k)), .int (nI fact)]) (st := []) rfl rfl (Nat.le_of_ble_eq_true rfl) (Nat.le_refl _) (Nat.le_refl _) (ev_Fb_hasByEvening (R := (some (104 + 14 * town), some (104 + 14 * town), some (104 + 14 * town), R.2.2.2)) ht (fg_TWp.agX ht hT1 hax) hok (h := S.1) (Z := S.2.1) (hv := S.2.2) rfl (hF1.agX hax) hz (p := person) (m := ((fg_BF (A.ts town) (S.2.1.1 person) 10).2.1 k)) (k := fact) y5 (hmk) (hck) (by omega) ?_)
            intro μh2 hh2
            have hTz2 := fg_TWp.agX ht hT1 (fg_agX_tr hax (fg_agX_F hh2))
            have hFz2 := hF1.agX (fg_agX_tr hax (fg_agX_F hh2))
            show fg_wp _ _ _ _ _ _ _ _ _ (μh2, fg_rho (some (104 + 14 * town), some (104 + 14 * town), some (104 + 14 * town), R.2.2.2), 304)
            refine fg_ifB_eq (tgt := 114) (fg_ft (pc := 96) tb_Fb_safe 46 rfl) (by decide) (fun c96 => ?_) (fun c96 => ?_)
            · refine fg_aloadn (fg_ft (pc := 114) tb_Fb_safe 53 rfl) rfl ?_
              refine fg_getR (fg_ft (pc := 115) tb_Fb_safe 54 rfl) ff_Fb_44 ly_100 rfl (fg_lt ly_100 (by decide)) (rh_100_6 (some (104 + 14 * town), some (104 + 14 * town), some (104 + 14 * town), R.2.2.2)) ?_
              refine fg_iload (fg_ft (pc := 118) tb_Fb_safe 55 rfl) rfl ?_
              refine fg_iload (fg_ft (pc := 120) tb_Fb_safe 56 rfl) rfl ?_
              refine fg_callV (fg_ft (pc := 122) tb_Fb_safe 57 rfl) cf_Fb_274 (fg_isOf ly_281 rfl (fg_lt ly_281 (by decide))) (as := [.int (nI ((fg_BF (A.ts town) (S.2.1.1 person) 10).2.1 k)), .int what]) (st := []) rfl rfl (Nat.le_of_ble_eq_true rfl) (Nat.le_refl _) (Nat.le_refl _) (ev_Search_tellX (R := (some (104 + 14 * town), some (104 + 14 * town), some (104 + 14 * town), R.2.2.2)) hok hm0 (hsk.fr (fg_F7_S hh2)) (x := what) ?_)
              exact fg_iret (fg_ft (pc := 125) tb_Fb_safe 58 rfl) rfl rfl (fg_q (hQ _ (some (104 + 14 * town), some (104 + 14 * town), some (104 + 14 * town), R.2.2.2) (fg_agQ_tr haq (fg_agQ_F (Or.inr rfl) hh2))) (by unfold an_safe; rw [fg_g1_some y4 y5]; rw [if_pos c26]; exact fg_srch_some hsl.2.1 (fun hh => c96 ⟨y5, hh⟩) hno))
            · refine fg_aloadn (fg_ft (pc := 99) tb_Fb_safe 47 rfl) rfl ?_
              refine fg_getR (fg_ft (pc := 100) tb_Fb_safe 48 rfl) ff_Fb_44 ly_100 rfl (fg_lt ly_100 (by decide)) (rh_100_6 (some (104 + 14 * town), some (104 + 14 * town), some (104 + 14 * town), R.2.2.2)) ?_
              refine fg_callV (fg_ft (pc := 103) tb_Fb_safe 49 rfl) cf_Fb_271 (fg_isOf ly_281 rfl (fg_lt ly_281 (by decide))) (as := []) (st := []) rfl rfl (Nat.le_of_ble_eq_true rfl) (Nat.le_refl _) (Nat.le_refl _) (ev_Search_nextX (R := (some (104 + 14 * town), some (104 + 14 * town), some (104 + 14 * town), R.2.2.2)) ht (fg_TWp.agX ht hT1 (fg_agX_tr hax (fg_agX_F hh2))) hok rfl hm0 (by decide) (hsk.fr (fg_F7_S hh2)) (fun μ2 hos2 hsk2 => ?_) (fun μ2 hos2 hsr2 hle2 => ?_))
              · refine fg_istore (fg_ft (pc := 106) tb_Fb_safe 50 rfl) (Nat.le_of_ble_eq_true rfl) ?_
                refine fg_iinc (fg_ft (pc := 108) tb_Fb_safe 51 rfl) rfl (v := nI (l - 1)) (fg_dec (by omega)) ?_
                refine fg_goto (tgt := 73) (fg_ft (pc := 111) tb_Fb_safe 52 rfl) (by decide) ?_
                exact ih (k + 1) (l - 1) μ2 (by omega) (by omega) (fg_agQ_tr (fg_agQ_tr haq (fg_agQ_F (Or.inr rfl) hh2)) (fg_agQ_S hos2)) (fg_agX_tr (fg_agX_tr hax (fg_agX_F hh2)) (fg_agX_S hos2)) hsk2 (fun j hj => by
                  rcases Nat.lt_or_ge j k with g | g
                  · exact hno j g
                  · obtain rfl : j = k := by omega
                    exact fun hh => hh c96.2)
              · refine fg_istore (fg_ft (pc := 106) tb_Fb_safe 50 rfl) (Nat.le_of_ble_eq_true rfl) ?_
                refine fg_iinc (fg_ft (pc := 108) tb_Fb_safe 51 rfl) rfl (v := nI (l - 1)) (fg_dec (by omega)) ?_
                refine fg_goto (tgt := 73) (fg_ft (pc := 111) tb_Fb_safe 52 rfl) (by decide) ?_
                refine fg_iload (fg_ft (pc := 73) tb_Fb_safe 35 rfl) rfl ?_
                refine fg_if_leN (tgt := 114) (fg_ft (pc := 75) tb_Fb_safe 36 rfl) (by decide) (by omega) (fun c75 => ?_) (fun c75 => ?_)
                · refine fg_aloadn (fg_ft (pc := 114) tb_Fb_safe 53 rfl) rfl ?_
                  refine fg_getR (fg_ft (pc := 115) tb_Fb_safe 54 rfl) ff_Fb_44 ly_100 rfl (fg_lt ly_100 (by decide)) (rh_100_6 (some (104 + 14 * town), some (104 + 14 * town), some (104 + 14 * town), R.2.2.2)) ?_
                  refine fg_iload (fg_ft (pc := 118) tb_Fb_safe 55 rfl) rfl ?_
                  refine fg_iload (fg_ft (pc := 120) tb_Fb_safe 56 rfl) rfl ?_
                  refine fg_callV (fg_ft (pc := 122) tb_Fb_safe 57 rfl) cf_Fb_274 (fg_isOf ly_281 rfl (fg_lt ly_281 (by decide))) (as := [.int (-1), .int what]) (st := []) rfl rfl (Nat.le_of_ble_eq_true rfl) (Nat.le_refl _) (Nat.le_refl _) (ev_Search_tellNone ?_)
                  exact fg_iret (fg_ft (pc := 125) tb_Fb_safe 58 rfl) rfl rfl (fg_q (hQ _ (some (104 + 14 * town), some (104 + 14 * town), some (104 + 14 * town), R.2.2.2) (fg_agQ_tr (fg_agQ_tr haq (fg_agQ_F (Or.inr rfl) hh2)) (fg_agQ_S hos2))) (by unfold an_safe; rw [fg_g1_some y4 y5]; rw [if_pos c26]; exact fg_srch_none (fun j hj => by
          rcases Nat.lt_or_ge j k with g | g
          · exact hno j g
          · obtain rfl : j = k := by omega
            exact fun hh => hh c96.2)))
                · refine fg_iload (fg_ft (pc := 78) tb_Fb_safe 37 rfl) rfl ?_
                  refine fg_iconst (fg_ft (pc := 80) tb_Fb_safe 38 rfl) ic_m1 ?_
                  refine fg_icmp_eq (tgt := 114) (fg_ft (pc := 81) tb_Fb_safe 39 rfl) (by decide) (fun c81 => ?_) (fun c81 => (absurd rfl c81))
                  refine fg_aloadn (fg_ft (pc := 114) tb_Fb_safe 53 rfl) rfl ?_
                  refine fg_getR (fg_ft (pc := 115) tb_Fb_safe 54 rfl) ff_Fb_44 ly_100 rfl (fg_lt ly_100 (by decide)) (rh_100_6 (some (104 + 14 * town), some (104 + 14 * town), some (104 + 14 * town), R.2.2.2)) ?_
                  refine fg_iload (fg_ft (pc := 118) tb_Fb_safe 55 rfl) rfl ?_
                  refine fg_iload (fg_ft (pc := 120) tb_Fb_safe 56 rfl) rfl ?_
                  refine fg_callV (fg_ft (pc := 122) tb_Fb_safe 57 rfl) cf_Fb_274 (fg_isOf ly_281 rfl (fg_lt ly_281 (by decide))) (as := [.int (-1), .int what]) (st := []) rfl rfl (Nat.le_of_ble_eq_true rfl) (Nat.le_refl _) (Nat.le_refl _) (ev_Search_tellNone ?_)
                  exact fg_iret (fg_ft (pc := 125) tb_Fb_safe 58 rfl) rfl rfl (fg_q (hQ _ (some (104 + 14 * town), some (104 + 14 * town), some (104 + 14 * town), R.2.2.2) (fg_agQ_tr (fg_agQ_tr haq (fg_agQ_F (Or.inr rfl) hh2)) (fg_agQ_S hos2))) (by unfold an_safe; rw [fg_g1_some y4 y5]; rw [if_pos c26]; exact fg_srch_none (fun j hj => by
          rcases Nat.lt_or_ge j k with g | g
          · exact hno j g
          · obtain rfl : j = k := by omega
            exact fun hh => hh c96.2)))
        exact loop 1025 0 1024 μs (by decide) (by decide) (fg_agQ_tr (fg_agQ_tr (fg_agQ_F (Or.inl rfl) ho1) (fg_agQ_F (Or.inr rfl) hh1)) (fg_agQ_S hos)) (fg_agX_tr (fg_agX_tr (fg_agX_rf μ1) (fg_agX_F hh1)) (fg_agX_S hos)) hsk (fun j hj => absurd hj (Nat.not_lt_zero _))
      · refine fg_iconst (fg_ft (pc := 43) tb_Fb_safe 21 rfl) ic_m1 ?_
        exact fg_iret (fg_ft (pc := 44) tb_Fb_safe 22 rfl) rfl rfl (fg_q (hQ _ (some (104 + 14 * town), some (104 + 14 * town), R.2.2.1, R.2.2.2) (fg_agQ_tr (fg_agQ_F (Or.inl rfl) ho1) (fg_agQ_F (Or.inr rfl) hh1))) (by unfold an_safe; rw [fg_g1_some y4 y5]; first | rw [if_neg c26] | (rw [if_pos c26]; exact fg_srch_none (fun j hj hh => hh (fg_hbe_mono hok hz y5 (Nat.two_pow_pos _) (fg_clsd0 hok) (fg_BF_lt hok hm0 hj) (fg_BF_cl hok hmc hj) (fun i hi => by rw [Nat.zero_testBit] at hi; cases hi) c40.2)))))
theorem fg_bk_1 {T : Nat → Nat} {B : fg_BQ} {n : Nat} (h : fg_w T (B.2.1 (fg_bk T B n)) < fg_w T (B.2.1 n)) : fg_bk T B (n + 1) = n := if_pos h
theorem fg_bk_0 {T : Nat → Nat} {B : fg_BQ} {n : Nat} (h : ¬ fg_w T (B.2.1 (fg_bk T B n)) < fg_w T (B.2.1 n)) : fg_bk T B (n + 1) = fg_bk T B n := if_neg h
theorem ev_Fb_bestMind {E : fg_E} {d : Nat} {μ : Nat → Nat → Int32} {R : fg_T4} {Q : Option Value → fg_M → Prop} {t : Nat} {T : Nat → Nat} (ht : fg_isT t) (hT : fg_TW μ t T) (hok : fg_ok T) {h : Nat} {Z : fg_Z} {hv lv : Nat → Nat} {o : Option Nat × Nat × Nat} (hft : fg_rho R 273 0 = some t) (hF : fg_FZ μ 273 T h Z hv lv o) (hz : fg_zok T h Z hv) {p m : Nat} (hpT : p < T 2) (hm4 : m < 4) (hQ : ∀ μ' : Nat → Nat → Int32, fg_agS μ μ' → fg_SR μ' (fg_BF T (Z.1 p) m) → Q (some (.int (nI ((fg_BF T (Z.1 p) m).2.1 (fg_bm T (Z.1 p) m))))) (μ', fg_rho (R.1, R.2.1, some t, R.2.2.2), 304)) : fg_Ev E yy_Fb_bestMind (d + 7) [.ref 100, .ref 273, .int (nI p), .int (nI m)] (μ, fg_rho R, 304) 304 Q := by
  have hb0 := hok.1
  have hb1 := hok.2.1
  have hp := hok.p
  have hq := Nat.two_pow_pos (T 0)
  have hm0 : Z.1 p < 2 ^ T 0 := (hz.2.1 p hpT).1
  refine fg_intro (by decide +kernel) (Nat.le_of_ble_eq_true rfl) (fg_okAs rfl) (Nat.le_refl _) ?_
  refine fg_aloadn (fg_ft (pc := 0) tb_Fb_bestMind 0 rfl) rfl ?_
  refine fg_getR (fg_ft (pc := 1) tb_Fb_bestMind 1 rfl) ff_Fb_44 ly_100 rfl (fg_lt ly_100 (by decide)) (rh_100_6 R) ?_
  refine fg_aloadn (fg_ft (pc := 4) tb_Fb_bestMind 2 rfl) rfl ?_
  refine fg_getR (fg_ft (pc := 5) tb_Fb_bestMind 3 rfl) ff_Fb_194 ly_273 rfl (fg_lt ly_273 (by decide)) hft ?_
  refine fg_aloadn (fg_ft (pc := 8) tb_Fb_bestMind 4 rfl) rfl ?_
  refine fg_iloadn (fg_ft (pc := 9) tb_Fb_bestMind 5 rfl) rfl ?_
  refine fg_callV (fg_ft (pc := 10) tb_Fb_bestMind 6 rfl) cf_Fb_181 (fg_isOf ly_273 rfl (fg_lt ly_273 (by decide))) (as := [.int (nI p)]) (st := [.ref t, .ref 281]) rfl rfl (Nat.le_of_ble_eq_true rfl) (Nat.le_refl _) (Nat.le_refl _) (ev_Folk_mind ht hT hok (Or.inl rfl) hft hF hz (p := p) (by omega) ?_)
  refine fg_iloadn (fg_ft (pc := 13) tb_Fb_bestMind 7 rfl) rfl ?_
  refine fg_callV (fg_ft (pc := 14) tb_Fb_bestMind 8 rfl) cf_Fb_267 (fg_isOf ly_281 rfl (fg_lt ly_281 (by decide))) (as := [.ref t, .int (nI (Z.1 p)), .int (nI m)]) (st := []) rfl rfl (Nat.le_of_ble_eq_true rfl) (Nat.le_refl _) (Nat.le_refl _) (ev_Search_startX ht hT hok (m := Z.1 p) (mst := m) hm0 ?_)
  intro μs hos hsk
  have hTs := fg_TWp.agX ht hT (fg_agX_S hos)
  have hFs := hF.agX (fg_agX_S hos)
  have hb00 := fg_BF_lt hok hm0 (i := 0) (mst := m) (fg_SK_lt hok hm0 hsk).2.1
  show fg_wp _ _ _ _ _ _ _ _ _ (μs, fg_rho (R.1, R.2.1, some t, R.2.2.2), 304)
  refine fg_istore (fg_ft (pc := 17) tb_Fb_bestMind 9 rfl) (Nat.le_of_ble_eq_true rfl) ?_
  refine fg_aloadn (fg_ft (pc := 19) tb_Fb_bestMind 10 rfl) rfl ?_
  refine fg_getR (fg_ft (pc := 20) tb_Fb_bestMind 11 rfl) ff_Fb_194 ly_273 rfl (fg_lt ly_273 (by decide)) (show fg_rho (R.1, R.2.1, some t, R.2.2.2) 273 0 = some t from hft) ?_
  refine fg_iload (fg_ft (pc := 23) tb_Fb_bestMind 12 rfl) rfl ?_
  refine fg_callV (fg_ft (pc := 25) tb_Fb_bestMind 13 rfl) cf_Fb_226 (fg_isOf (tT_lay ht) rfl (fg_lt (tT_lay ht) (by decide))) (as := [.int (nI ((fg_BF T (Z.1 p) m).2.1 0))]) (st := []) rfl rfl (Nat.le_of_ble_eq_true rfl) (Nat.le_refl _) (Nat.le_refl _) (ev_Town_worthOf ht hTs hok (m := ((fg_BF T (Z.1 p) m).2.1 0)) (by omega) ?_)
  refine fg_istore (fg_ft (pc := 28) tb_Fb_bestMind 14 rfl) (Nat.le_of_ble_eq_true rfl) ?_
  refine fg_iload (fg_ft (pc := 30) tb_Fb_bestMind 15 rfl) rfl ?_
  refine fg_istore (fg_ft (pc := 32) tb_Fb_bestMind 16 rfl) (Nat.le_of_ble_eq_true rfl) ?_
  refine fg_sipush (fg_ft (pc := 34) tb_Fb_bestMind 17 rfl) is_1024 ?_
  refine fg_istore (fg_ft (pc := 37) tb_Fb_bestMind 18 rfl) (Nat.le_of_ble_eq_true rfl) ?_
  have loop : ∀ (q k l : Nat) (ν : Nat → Nat → Int32) (v8 : Value), l < q → l + k = 1024 → fg_agS μ ν → fg_SK ν T (Z.1 p) m k → fg_wp E yy_Fb_bestMind (d + 7) 304 304 Q 39 [.ref 100, .ref 273, .int (nI p), .int (nI m), .int (nI ((fg_BF T (Z.1 p) m).2.1 (fg_bk T (fg_BF T (Z.1 p) m) k))), .int (fg_w T ((fg_BF T (Z.1 p) m).2.1 (fg_bk T (fg_BF T (Z.1 p) m) k))), .int (nI ((fg_BF T (Z.1 p) m).2.1 k)), .int (nI l), v8] [] (ν, fg_rho (R.1, R.2.1, some t, R.2.2.2), 304) := by
    intro q
    induction q with
    | zero => intro k l ν v8 h; exact absurd h (Nat.not_lt_zero _)
    | succ q ih =>
      intro k l ν v8 hq hlk hag hsk
      have hsl := fg_SK_lt hok hm0 hsk
      have hmk := fg_BF_lt hok hm0 hsl.2.1
      have hTn := fg_TWp.agX ht hT (fg_agX_S hag)
      have hFn := hF.agX (fg_agX_S hag)
      refine fg_iload (fg_ft (pc := 39) tb_Fb_bestMind 19 rfl) rfl ?_
      refine fg_if_leN (tgt := 91) (fg_ft (pc := 41) tb_Fb_bestMind 20 rfl) (by decide) (by omega) (fun c41 => (absurd c41 (by omega))) (fun c41 => ?_)
      refine fg_iload (fg_ft (pc := 44) tb_Fb_bestMind 21 rfl) rfl ?_
      refine fg_iconst (fg_ft (pc := 46) tb_Fb_bestMind 22 rfl) ic_m1 ?_
      refine fg_icmp_eqM (tgt := 91) (fg_ft (pc := 47) tb_Fb_bestMind 23 rfl) (by decide) ((by omega)) (fun c47 => (absurd c47 (by omega))) (fun c47 => ?_)
      refine fg_aloadn (fg_ft (pc := 50) tb_Fb_bestMind 24 rfl) rfl ?_
      refine fg_getR (fg_ft (pc := 51) tb_Fb_bestMind 25 rfl) ff_Fb_194 ly_273 rfl (fg_lt ly_273 (by decide)) (show fg_rho (R.1, R.2.1, some t, R.2.2.2) 273 0 = some t from hft) ?_
      refine fg_iload (fg_ft (pc := 54) tb_Fb_bestMind 26 rfl) rfl ?_
      refine fg_callV (fg_ft (pc := 56) tb_Fb_bestMind 27 rfl) cf_Fb_226 (fg_isOf (tT_lay ht) rfl (fg_lt (tT_lay ht) (by decide))) (as := [.int (nI ((fg_BF T (Z.1 p) m).2.1 k))]) (st := []) rfl rfl (Nat.le_of_ble_eq_true rfl) (Nat.le_refl _) (Nat.le_refl _) (ev_Town_worthOf ht hTn hok (m := ((fg_BF T (Z.1 p) m).2.1 k)) (by omega) ?_)
      refine fg_istore (fg_ft (pc := 59) tb_Fb_bestMind 28 rfl) (Nat.le_of_ble_eq_true rfl) ?_
      refine fg_iload (fg_ft (pc := 61) tb_Fb_bestMind 29 rfl) rfl ?_
      refine fg_iload (fg_ft (pc := 63) tb_Fb_bestMind 30 rfl) rfl ?_
      refine fg_icmp_le (tgt := 76) (fg_ft (pc := 65) tb_Fb_bestMind 31 rfl) (by decide) (fun c65 => ?_) (fun c65 => ?_)
      · refine fg_aloadn (fg_ft (pc := 76) tb_Fb_bestMind 36 rfl) rfl ?_
        refine fg_getR (fg_ft (pc := 77) tb_Fb_bestMind 37 rfl) ff_Fb_44 ly_100 rfl (fg_lt ly_100 (by decide)) (rh_100_6 (R.1, R.2.1, some t, R.2.2.2)) ?_
        refine fg_callV (fg_ft (pc := 80) tb_Fb_bestMind 38 rfl) cf_Fb_271 (fg_isOf ly_281 rfl (fg_lt ly_281 (by decide))) (as := []) (st := []) rfl rfl (Nat.le_of_ble_eq_true rfl) (Nat.le_refl _) (Nat.le_refl _) (ev_Search_nextX (R := (R.1, R.2.1, some t, R.2.2.2)) ht hTn hok rfl hm0 (by omega) hsk (fun μ2 hos2 hsk2 => ?_) (fun μ2 hos2 hsr2 hle2 => ?_))
        · refine fg_istore (fg_ft (pc := 83) tb_Fb_bestMind 39 rfl) (Nat.le_of_ble_eq_true rfl) ?_
          refine fg_iinc (fg_ft (pc := 85) tb_Fb_bestMind 40 rfl) rfl (v := nI (l - 1)) (fg_dec (by omega)) ?_
          refine fg_goto (tgt := 39) (fg_ft (pc := 88) tb_Fb_bestMind 41 rfl) (by decide) ?_
          have zq9 : fg_bk T (fg_BF T (Z.1 p) m) (k + 1) = fg_bk T (fg_BF T (Z.1 p) m) k := fg_bk_0 (Int32.not_lt.mpr c65)
          have q9 := ih (k + 1) (l - 1) μ2 (.int (fg_w T ((fg_BF T (Z.1 p) m).2.1 k))) (by omega) (by omega) (fg_agS_tr hag hos2) hsk2
          rw [zq9] at q9
          exact q9
        · refine fg_istore (fg_ft (pc := 83) tb_Fb_bestMind 39 rfl) (Nat.le_of_ble_eq_true rfl) ?_
          refine fg_iinc (fg_ft (pc := 85) tb_Fb_bestMind 40 rfl) rfl (v := nI (l - 1)) (fg_dec (by omega)) ?_
          refine fg_goto (tgt := 39) (fg_ft (pc := 88) tb_Fb_bestMind 41 rfl) (by decide) ?_
          refine fg_iload (fg_ft (pc := 39) tb_Fb_bestMind 19 rfl) rfl ?_
          refine fg_if_leN (tgt := 91) (fg_ft (pc := 41) tb_Fb_bestMind 20 rfl) (by decide) (by omega) (fun c41 => ?_) (fun c41 => ?_)
          · refine fg_iload (fg_ft (pc := 91) tb_Fb_bestMind 42 rfl) rfl ?_
            exact fg_iret (fg_ft (pc := 93) tb_Fb_bestMind 43 rfl) rfl rfl (by have q9 := hQ μ2 (fg_agS_tr hag hos2) hsr2; have zq9 : fg_bk T (fg_BF T (Z.1 p) m) (k + 1) = fg_bk T (fg_BF T (Z.1 p) m) k := fg_bk_0 (Int32.not_lt.mpr c65); unfold fg_bm at q9; rw [hle2, zq9] at q9; exact q9)
          · refine fg_iload (fg_ft (pc := 44) tb_Fb_bestMind 21 rfl) rfl ?_
            refine fg_iconst (fg_ft (pc := 46) tb_Fb_bestMind 22 rfl) ic_m1 ?_
            refine fg_icmp_eq (tgt := 91) (fg_ft (pc := 47) tb_Fb_bestMind 23 rfl) (by decide) (fun c47 => ?_) (fun c47 => (absurd rfl c47))
            refine fg_iload (fg_ft (pc := 91) tb_Fb_bestMind 42 rfl) rfl ?_
            exact fg_iret (fg_ft (pc := 93) tb_Fb_bestMind 43 rfl) rfl rfl (by have q9 := hQ μ2 (fg_agS_tr hag hos2) hsr2; have zq9 : fg_bk T (fg_BF T (Z.1 p) m) (k + 1) = fg_bk T (fg_BF T (Z.1 p) m) k := fg_bk_0 (Int32.not_lt.mpr c65); unfold fg_bm at q9; rw [hle2, zq9] at q9; exact q9)
      · refine fg_iload (fg_ft (pc := 68) tb_Fb_bestMind 32 rfl) rfl ?_
        refine fg_istore (fg_ft (pc := 70) tb_Fb_bestMind 33 rfl) (Nat.le_of_ble_eq_true rfl) ?_
        refine fg_iload (fg_ft (pc := 72) tb_Fb_bestMind 34 rfl) rfl ?_
        refine fg_istore (fg_ft (pc := 74) tb_Fb_bestMind 35 rfl) (Nat.le_of_ble_eq_true rfl) ?_
        refine fg_aloadn (fg_ft (pc := 76) tb_Fb_bestMind 36 rfl) rfl ?_
        refine fg_getR (fg_ft (pc := 77) tb_Fb_bestMind 37 rfl) ff_Fb_44 ly_100 rfl (fg_lt ly_100 (by decide)) (rh_100_6 (R.1, R.2.1, some t, R.2.2.2)) ?_
        refine fg_callV (fg_ft (pc := 80) tb_Fb_bestMind 38 rfl) cf_Fb_271 (fg_isOf ly_281 rfl (fg_lt ly_281 (by decide))) (as := []) (st := []) rfl rfl (Nat.le_of_ble_eq_true rfl) (Nat.le_refl _) (Nat.le_refl _) (ev_Search_nextX (R := (R.1, R.2.1, some t, R.2.2.2)) ht hTn hok rfl hm0 (by omega) hsk (fun μ2 hos2 hsk2 => ?_) (fun μ2 hos2 hsr2 hle2 => ?_))
        · refine fg_istore (fg_ft (pc := 83) tb_Fb_bestMind 39 rfl) (Nat.le_of_ble_eq_true rfl) ?_
          refine fg_iinc (fg_ft (pc := 85) tb_Fb_bestMind 40 rfl) rfl (v := nI (l - 1)) (fg_dec (by omega)) ?_
          refine fg_goto (tgt := 39) (fg_ft (pc := 88) tb_Fb_bestMind 41 rfl) (by decide) ?_
          have zq9 : fg_bk T (fg_BF T (Z.1 p) m) (k + 1) = k := fg_bk_1 (Int32.not_le.mp c65)
          have q9 := ih (k + 1) (l - 1) μ2 (.int (fg_w T ((fg_BF T (Z.1 p) m).2.1 k))) (by omega) (by omega) (fg_agS_tr hag hos2) hsk2
          rw [zq9] at q9
          exact q9
        · refine fg_istore (fg_ft (pc := 83) tb_Fb_bestMind 39 rfl) (Nat.le_of_ble_eq_true rfl) ?_
          refine fg_iinc (fg_ft (pc := 85) tb_Fb_bestMind 40 rfl) rfl (v := nI (l - 1)) (fg_dec (by omega)) ?_
          refine fg_goto (tgt := 39) (fg_ft (pc := 88) tb_Fb_bestMind 41 rfl) (by decide) ?_
          refine fg_iload (fg_ft (pc := 39) tb_Fb_bestMind 19 rfl) rfl ?_
          refine fg_if_leN (tgt := 91) (fg_ft (pc := 41) tb_Fb_bestMind 20 rfl) (by decide) (by omega) (fun c41 => ?_) (fun c41 => ?_)
          · refine fg_iload (fg_ft (pc := 91) tb_Fb_bestMind 42 rfl) rfl ?_
            exact fg_iret (fg_ft (pc := 93) tb_Fb_bestMind 43 rfl) rfl rfl (by have q9 := hQ μ2 (fg_agS_tr hag hos2) hsr2; have zq9 : fg_bk T (fg_BF T (Z.1 p) m) (k + 1) = k := fg_bk_1 (Int32.not_le.mp c65); unfold fg_bm at q9; rw [hle2, zq9] at q9; exact q9)
          · refine fg_iload (fg_ft (pc := 44) tb_Fb_bestMind 21 rfl) rfl ?_
            refine fg_iconst (fg_ft (pc := 46) tb_Fb_bestMind 22 rfl) ic_m1 ?_
            refine fg_icmp_eq (tgt := 91) (fg_ft (pc := 47) tb_Fb_bestMind 23 rfl) (by decide) (fun c47 => ?_) (fun c47 => (absurd rfl c47))
            refine fg_iload (fg_ft (pc := 91) tb_Fb_bestMind 42 rfl) rfl ?_
            exact fg_iret (fg_ft (pc := 93) tb_Fb_bestMind 43 rfl) rfl rfl (by have q9 := hQ μ2 (fg_agS_tr hag hos2) hsr2; have zq9 : fg_bk T (fg_BF T (Z.1 p) m) (k + 1) = k := fg_bk_1 (Int32.not_le.mp c65); unfold fg_bm at q9; rw [hle2, zq9] at q9; exact q9)
  exact loop 1025 0 1024 μs _ (by decide) (by decide) hos hsk
theorem ev_Fb_best {E : fg_E} {d : Nat} {μ : Nat → Nat → Int32} {R : fg_T4} {Q : Option Value → fg_M → Prop} {A : fg_Tl} (hA : fg_TL μ 101 A) {town day n person m : Nat} {what : Int32} (htown : town < 2 ^ 32) (hday : day < 2 ^ 32) (hn : n < 2 ^ 32) (hperson : person < 2 ^ 32) (hm : m < 2 ^ 32) (hQ : ∀ (μ' : Nat → Nat → Int32) (R' : fg_T4), fg_agQ μ μ' → Q (some (.int (an_best A town day n person m what))) (μ', fg_rho R', 304)) : fg_Ev E yy_Fb_best (d + 12) [.ref 100, .int (nI town), .int (nI day), .int (nI n), .int (nI person), .int (nI m), .int what] (μ, fg_rho R, 304) 304 Q := by
  have ht2 := hA.2.2.2.1.2
  have hd3 := hA.2.2.2.2.1.2
  refine fg_intro (by decide +kernel) (Nat.le_of_ble_eq_true rfl) (fg_okAs rfl) (Nat.le_refl _) ?_
  refine fg_aloadn (fg_ft (pc := 0) tb_Fb_best 0 rfl) rfl ?_
  refine fg_iloadn (fg_ft (pc := 1) tb_Fb_best 1 rfl) rfl ?_
  refine fg_iloadn (fg_ft (pc := 2) tb_Fb_best 2 rfl) rfl ?_
  refine fg_iloadn (fg_ft (pc := 3) tb_Fb_best 3 rfl) rfl ?_
  refine fg_iload (fg_ft (pc := 4) tb_Fb_best 4 rfl) rfl ?_
  refine fg_callV (fg_ft (pc := 6) tb_Fb_best 5 rfl) cf_Fb_221 (fg_isOf ly_100 rfl (fg_lt ly_100 (by decide))) (as := [.int (nI town), .int (nI day), .int (nI n), .int (nI person)]) (st := []) rfl rfl (Nat.le_of_ble_eq_true rfl) (Nat.le_refl _) (Nat.le_refl _) (ev_Fb_findOne hA htown hday hn hperson (fun n4 μ1 R1 ho1 hR1 => ?_) (fun S lv y4 y5 μ1 ho1 hF1 => ?_))
  · refine fg_astoreN (fg_ft (pc := 9) tb_Fb_best 6 rfl) (Nat.le_of_ble_eq_true rfl) ?_
    refine fg_aloadN (fg_ft (pc := 11) tb_Fb_best 7 rfl) rfl ?_
    refine fg_ifnull (tgt := 27) (fg_ft (pc := 13) tb_Fb_best 8 rfl) (by decide) ?_
    refine fg_ldc (fg_ft (pc := 27) tb_Fb_best 14 rfl) fd_Fb_225 ?_
    exact fg_iret (fg_ft (pc := 29) tb_Fb_best 15 rfl) rfl rfl (fg_q (hQ _ R1 (fg_agQ_F (Or.inl rfl) ho1)) (by unfold an_best; rw [fg_g1_none n4] <;> (first | (rw [if_neg (show ¬ m < 4 by omega)]; done) | (rw [if_pos (show m < 4 by omega)]; done) | (rw [if_pos (show m < 4 by omega), if_pos c45]; done) | (rw [if_pos (show m < 4 by omega), if_neg c45, if_pos c75]; done) | (rw [if_pos (show m < 4 by omega), if_neg c45, if_neg c75]; done))))
  · have ytc := fg_fnd_t y4
    have hok := (hA.2.2.2.2.2.1 town ytc).2
    have ht : fg_isT (104 + 14 * town) := fg_isT_told (by omega)
    have hT1 := fg_TL.town hA (Or.inl rfl) ytc ho1
    have hz := fg_fnd_ok hA y4
    have hb0 := hok.1
    have hb1 := hok.2.1
    have hp := hok.p
    have hm2 := hz.2.1 person y5
    have hm0 : S.2.1.1 person < 2 ^ A.ts town 0 := hm2.1
    have hmc : fg_clsd (A.ts town) (S.2.1.1 person) := hm2.2
    have hm10 : S.2.1.1 person < 1024 := by omega
    refine fg_astore (fg_ft (pc := 9) tb_Fb_best 6 rfl) (Nat.le_of_ble_eq_true rfl) ?_
    refine fg_aload (fg_ft (pc := 11) tb_Fb_best 7 rfl) rfl ?_
    refine fg_ifnull_r (fg_ft (pc := 13) tb_Fb_best 8 rfl) ?_
    refine fg_iload (fg_ft (pc := 16) tb_Fb_best 9 rfl) rfl ?_
    refine fg_if_ltW (tgt := 27) (fg_ft (pc := 18) tb_Fb_best 10 rfl) (by decide) (hm) (fun c18 => ?_) (fun c18 => ?_)
    · refine fg_ldc (fg_ft (pc := 27) tb_Fb_best 14 rfl) fd_Fb_225 ?_
      exact fg_iret (fg_ft (pc := 29) tb_Fb_best 15 rfl) rfl rfl (fg_q (hQ _ (some (104 + 14 * town), R.2.1, R.2.2.1, R.2.2.2) (fg_agQ_F (Or.inl rfl) ho1)) (by unfold an_best; rw [fg_g1_some y4 y5] <;> (first | (rw [if_neg (show ¬ m < 4 by omega)]; done) | (rw [if_pos (show m < 4 by omega)]; done) | (rw [if_pos (show m < 4 by omega), if_pos c45]; done) | (rw [if_pos (show m < 4 by omega), if_neg c45, if_pos c75]; done) | (rw [if_pos (show m < 4 by omega), if_neg c45, if_neg c75]; done))))
    · refine fg_iload (fg_ft (pc := 21) tb_Fb_best 11 rfl) rfl ?_
      refine fg_iconst (fg_ft (pc := 23) tb_Fb_best 12 rfl) ic_3 ?_
      refine fg_icmp_leW (tgt := 30) (fg_ft (pc := 24) tb_Fb_best 13 rfl) (by decide) (hm) (by decide) (fun c24 => ?_) (fun c24 => ?_)
      · refine fg_aloadn (fg_ft (pc := 30) tb_Fb_best 16 rfl) rfl ?_
        refine fg_aload (fg_ft (pc := 31) tb_Fb_best 17 rfl) rfl ?_
        refine fg_iload (fg_ft (pc := 33) tb_Fb_best 18 rfl) rfl ?_
        refine fg_iload (fg_ft (pc := 35) tb_Fb_best 19 rfl) rfl ?_
        refine fg_callV (fg_ft (pc := 37) tb_Fb_best 20 rfl) cf_Fb_285 (fg_isOf ly_100 rfl (fg_lt ly_100 (by decide))) (as := [.ref 273, .int (nI person), .int (nI m)]) (st := []) rfl rfl (Nat.le_of_ble_eq_true rfl) (Nat.le_refl _) (Nat.le_refl _) (ev_Fb_bestMind (R := (some (104 + 14 * town), R.2.1, R.2.2.1, R.2.2.2)) ht hT1 hok (h := S.1) (Z := S.2.1) (hv := S.2.2) rfl hF1 hz (p := person) (m := m) y5 (by omega) ?_)
        intro μ2 hos hsr
        have hT2 := fg_TWp.agX ht hT1 (fg_agX_S hos)
        have hF2 := hF1.agX (fg_agX_S hos)
        have hbk : (fg_bm (A.ts town) (S.2.1.1 person) m) < (fg_BF (A.ts town) (S.2.1.1 person) m).1 := fg_bk_lt _ (fg_BF_ok hok hm0).2.2.2.1
        have hbl := fg_BF_lt hok hm0 hbk
        show fg_wp _ _ _ _ _ _ _ _ _ (μ2, fg_rho (some (104 + 14 * town), R.2.1, some (104 + 14 * town), R.2.2.2), 304)
        refine fg_istore (fg_ft (pc := 40) tb_Fb_best 21 rfl) (Nat.le_of_ble_eq_true rfl) ?_
        refine fg_iload (fg_ft (pc := 42) tb_Fb_best 22 rfl) rfl ?_
        refine fg_iconst (fg_ft (pc := 44) tb_Fb_best 23 rfl) ic_1 ?_
        refine fg_icmp_ne (tgt := 59) (fg_ft (pc := 45) tb_Fb_best 24 rfl) (by decide) (fun c45 => ?_) (fun c45 => ?_)
        · refine fg_aloadn (fg_ft (pc := 59) tb_Fb_best 30 rfl) rfl ?_
          refine fg_getR (fg_ft (pc := 60) tb_Fb_best 31 rfl) ff_Fb_44 ly_100 rfl (fg_lt ly_100 (by decide)) (rh_100_6 (some (104 + 14 * town), R.2.1, some (104 + 14 * town), R.2.2.2)) ?_
          refine fg_iload (fg_ft (pc := 63) tb_Fb_best 32 rfl) rfl ?_
          refine fg_iload (fg_ft (pc := 65) tb_Fb_best 33 rfl) rfl ?_
          refine fg_callV (fg_ft (pc := 67) tb_Fb_best 34 rfl) cf_Fb_274 (fg_isOf ly_281 rfl (fg_lt ly_281 (by decide))) (as := [.int (nI ((fg_BF (A.ts town) (S.2.1.1 person) m).2.1 (fg_bm (A.ts town) (S.2.1.1 person) m))), .int what]) (st := []) rfl rfl (Nat.le_of_ble_eq_true rfl) (Nat.le_refl _) (Nat.le_refl _) (ev_Search_tell (R := (some (104 + 14 * town), R.2.1, some (104 + 14 * town), R.2.2.2)) hok.1.2 (fg_BF_ok hok hm0) hbk hsr (x := what) ?_)
          refine fg_istore (fg_ft (pc := 70) tb_Fb_best 35 rfl) (Nat.le_of_ble_eq_true rfl) ?_
          refine fg_iload (fg_ft (pc := 72) tb_Fb_best 36 rfl) rfl ?_
          refine fg_iconst (fg_ft (pc := 74) tb_Fb_best 37 rfl) ic_m1 ?_
          refine fg_icmp_ne (tgt := 83) (fg_ft (pc := 75) tb_Fb_best 38 rfl) (by decide) (fun c75 => ?_) (fun c75 => ?_)
          · refine fg_iload (fg_ft (pc := 83) tb_Fb_best 41 rfl) rfl ?_
            exact fg_iret (fg_ft (pc := 85) tb_Fb_best 42 rfl) rfl rfl (fg_q (hQ _ (some (104 + 14 * town), R.2.1, some (104 + 14 * town), R.2.2.2) (fg_agQ_tr (fg_agQ_F (Or.inl rfl) ho1) (fg_agQ_S hos))) (by unfold an_best; rw [fg_g1_some y4 y5] <;> (first | (rw [if_neg (show ¬ m < 4 by omega)]; done) | (rw [if_pos (show m < 4 by omega)]; done) | (rw [if_pos (show m < 4 by omega), if_pos c45]; done) | (rw [if_pos (show m < 4 by omega), if_neg c45, if_pos c75]; done) | (rw [if_pos (show m < 4 by omega), if_neg c45, if_neg c75]; done))))
          · refine fg_ldc (fg_ft (pc := 78) tb_Fb_best 39 rfl) fd_Fb_225 ?_
            refine fg_goto (tgt := 85) (fg_ft (pc := 80) tb_Fb_best 40 rfl) (by decide) ?_
            exact fg_iret (fg_ft (pc := 85) tb_Fb_best 42 rfl) rfl rfl (fg_q (hQ _ (some (104 + 14 * town), R.2.1, some (104 + 14 * town), R.2.2.2) (fg_agQ_tr (fg_agQ_F (Or.inl rfl) ho1) (fg_agQ_S hos))) (by unfold an_best; rw [fg_g1_some y4 y5] <;> (first | (rw [if_neg (show ¬ m < 4 by omega)]; done) | (rw [if_pos (show m < 4 by omega)]; done) | (rw [if_pos (show m < 4 by omega), if_pos c45]; done) | (rw [if_pos (show m < 4 by omega), if_neg c45, if_pos c75]; done) | (rw [if_pos (show m < 4 by omega), if_neg c45, if_neg c75]; done))))
        · refine fg_aload (fg_ft (pc := 48) tb_Fb_best 25 rfl) rfl ?_
          refine fg_getR (fg_ft (pc := 50) tb_Fb_best 26 rfl) ff_Fb_194 ly_273 rfl (fg_lt ly_273 (by decide)) rfl ?_
          refine fg_iload (fg_ft (pc := 53) tb_Fb_best 27 rfl) rfl ?_
          refine fg_callV (fg_ft (pc := 55) tb_Fb_best 28 rfl) cf_Fb_226 (fg_isOf (tT_lay ht) rfl (fg_lt (tT_lay ht) (by decide))) (as := [.int (nI ((fg_BF (A.ts town) (S.2.1.1 person) m).2.1 (fg_bm (A.ts town) (S.2.1.1 person) m)))]) (st := []) rfl rfl (Nat.le_of_ble_eq_true rfl) (Nat.le_refl _) (Nat.le_refl _) (ev_Town_worthOf ht hT2 hok (m := ((fg_BF (A.ts town) (S.2.1.1 person) m).2.1 (fg_bm (A.ts town) (S.2.1.1 person) m))) (by omega) ?_)
          exact fg_iret (fg_ft (pc := 58) tb_Fb_best 29 rfl) rfl rfl (fg_q (hQ _ (some (104 + 14 * town), R.2.1, some (104 + 14 * town), R.2.2.2) (fg_agQ_tr (fg_agQ_F (Or.inl rfl) ho1) (fg_agQ_S hos))) (by unfold an_best; rw [fg_g1_some y4 y5] <;> (first | (rw [if_neg (show ¬ m < 4 by omega)]; done) | (rw [if_pos (show m < 4 by omega)]; done) | (rw [if_pos (show m < 4 by omega), if_pos c45]; done) | (rw [if_pos (show m < 4 by omega), if_neg c45, if_pos c75]; done) | (rw [if_pos (show m < 4 by omega), if_neg c45, if_neg c75]; done))))
      · refine fg_ldc (fg_ft (pc := 27) tb_Fb_best 14 rfl) fd_Fb_225 ?_
        exact fg_iret (fg_ft (pc := 29) tb_Fb_best 15 rfl) rfl rfl (fg_q (hQ _ (some (104 + 14 * town), R.2.1, R.2.2.1, R.2.2.2) (fg_agQ_F (Or.inl rfl) ho1)) (by unfold an_best; rw [fg_g1_some y4 y5] <;> (first | (rw [if_neg (show ¬ m < 4 by omega)]; done) | (rw [if_pos (show m < 4 by omega)]; done) | (rw [if_pos (show m < 4 by omega), if_pos c45]; done) | (rw [if_pos (show m < 4 by omega), if_neg c45, if_pos c75]; done) | (rw [if_pos (show m < 4 by omega), if_neg c45, if_neg c75]; done))))
theorem ev_Fb_gap {E : fg_E} {d : Nat} {μ : Nat → Nat → Int32} {R : fg_T4} {Q : Option Value → fg_M → Prop} {A : fg_Tl} (hA : fg_TL μ 101 A) {town day n person m : Nat} (htown : town < 2 ^ 32) (hday : day < 2 ^ 32) (hn : n < 2 ^ 32) (hperson : person < 2 ^ 32) (hm : m < 2 ^ 32) (hQ : ∀ (μ' : Nat → Nat → Int32) (R' : fg_T4), fg_agQ μ μ' → Q (some (.int (an_gap A town day n person m))) (μ', fg_rho R', 304)) : fg_Ev E yy_Fb_gap (d + 12) [.ref 100, .int (nI town), .int (nI day), .int (nI n), .int (nI person), .int (nI m)] (μ, fg_rho R, 304) 304 Q := by
  have ht2 := hA.2.2.2.1.2
  have hd3 := hA.2.2.2.2.1.2
  refine fg_intro (by decide +kernel) (Nat.le_of_ble_eq_true rfl) (fg_okAs rfl) (Nat.le_refl _) ?_
  refine fg_aloadn (fg_ft (pc := 0) tb_Fb_gap 0 rfl) rfl ?_
  refine fg_iloadn (fg_ft (pc := 1) tb_Fb_gap 1 rfl) rfl ?_
  refine fg_iloadn (fg_ft (pc := 2) tb_Fb_gap 2 rfl) rfl ?_
  refine fg_iloadn (fg_ft (pc := 3) tb_Fb_gap 3 rfl) rfl ?_
  refine fg_iload (fg_ft (pc := 4) tb_Fb_gap 4 rfl) rfl ?_
  refine fg_callV (fg_ft (pc := 6) tb_Fb_gap 5 rfl) cf_Fb_221 (fg_isOf ly_100 rfl (fg_lt ly_100 (by decide))) (as := [.int (nI town), .int (nI day), .int (nI n), .int (nI person)]) (st := []) rfl rfl (Nat.le_of_ble_eq_true rfl) (Nat.le_refl _) (Nat.le_refl _) (ev_Fb_findOne hA htown hday hn hperson (fun n4 μ1 R1 ho1 hR1 => ?_) (fun S lv y4 y5 μ1 ho1 hF1 => ?_))
  · refine fg_astoreN (fg_ft (pc := 9) tb_Fb_gap 6 rfl) (Nat.le_of_ble_eq_true rfl) ?_
    refine fg_aloadN (fg_ft (pc := 11) tb_Fb_gap 7 rfl) rfl ?_
    refine fg_ifnull (tgt := 27) (fg_ft (pc := 13) tb_Fb_gap 8 rfl) (by decide) ?_
    refine fg_iconst (fg_ft (pc := 27) tb_Fb_gap 14 rfl) ic_m1 ?_
    exact fg_iret (fg_ft (pc := 28) tb_Fb_gap 15 rfl) rfl rfl (fg_q (hQ _ R1 (fg_agQ_F (Or.inl rfl) ho1)) (by unfold an_gap; rw [fg_g1_none n4] <;> (first | (rw [if_neg (show ¬ m < 4 by omega)]; done) | (rw [if_pos (show m < 4 by omega)]; done) | (rw [if_pos (show m < 4 by omega), if_pos c45]; done) | (rw [if_pos (show m < 4 by omega), if_neg c45, if_pos c75]; done) | (rw [if_pos (show m < 4 by omega), if_neg c45, if_neg c75]; done))))
  · have ytc := fg_fnd_t y4
    have hok := (hA.2.2.2.2.2.1 town ytc).2
    have ht : fg_isT (104 + 14 * town) := fg_isT_told (by omega)
    have hT1 := fg_TL.town hA (Or.inl rfl) ytc ho1
    have hz := fg_fnd_ok hA y4
    have hb0 := hok.1
    have hb1 := hok.2.1
    have hp := hok.p
    have hm2 := hz.2.1 person y5
    have hm0 : S.2.1.1 person < 2 ^ A.ts town 0 := hm2.1
    have hmc : fg_clsd (A.ts town) (S.2.1.1 person) := hm2.2
    have hm10 : S.2.1.1 person < 1024 := by omega
    refine fg_astore (fg_ft (pc := 9) tb_Fb_gap 6 rfl) (Nat.le_of_ble_eq_true rfl) ?_
    refine fg_aload (fg_ft (pc := 11) tb_Fb_gap 7 rfl) rfl ?_
    refine fg_ifnull_r (fg_ft (pc := 13) tb_Fb_gap 8 rfl) ?_
    refine fg_iload (fg_ft (pc := 16) tb_Fb_gap 9 rfl) rfl ?_
    refine fg_if_ltW (tgt := 27) (fg_ft (pc := 18) tb_Fb_gap 10 rfl) (by decide) (hm) (fun c18 => ?_) (fun c18 => ?_)
    · refine fg_iconst (fg_ft (pc := 27) tb_Fb_gap 14 rfl) ic_m1 ?_
      exact fg_iret (fg_ft (pc := 28) tb_Fb_gap 15 rfl) rfl rfl (fg_q (hQ _ (some (104 + 14 * town), R.2.1, R.2.2.1, R.2.2.2) (fg_agQ_F (Or.inl rfl) ho1)) (by unfold an_gap; rw [fg_g1_some y4 y5] <;> (first | (rw [if_neg (show ¬ m < 4 by omega)]; done) | (rw [if_pos (show m < 4 by omega)]; done) | (rw [if_pos (show m < 4 by omega), if_pos c45]; done) | (rw [if_pos (show m < 4 by omega), if_neg c45, if_pos c75]; done) | (rw [if_pos (show m < 4 by omega), if_neg c45, if_neg c75]; done))))
    · refine fg_iload (fg_ft (pc := 21) tb_Fb_gap 11 rfl) rfl ?_
      refine fg_iconst (fg_ft (pc := 23) tb_Fb_gap 12 rfl) ic_3 ?_
      refine fg_icmp_leW (tgt := 29) (fg_ft (pc := 24) tb_Fb_gap 13 rfl) (by decide) (hm) (by decide) (fun c24 => ?_) (fun c24 => ?_)
      · refine fg_aload (fg_ft (pc := 29) tb_Fb_gap 16 rfl) rfl ?_
        refine fg_getR (fg_ft (pc := 31) tb_Fb_gap 17 rfl) ff_Fb_194 ly_273 rfl (fg_lt ly_273 (by decide)) rfl ?_
        refine fg_aloadn (fg_ft (pc := 34) tb_Fb_gap 18 rfl) rfl ?_
        refine fg_aload (fg_ft (pc := 35) tb_Fb_gap 19 rfl) rfl ?_
        refine fg_iload (fg_ft (pc := 37) tb_Fb_gap 20 rfl) rfl ?_
        refine fg_iload (fg_ft (pc := 39) tb_Fb_gap 21 rfl) rfl ?_
        refine fg_callV (fg_ft (pc := 41) tb_Fb_gap 22 rfl) cf_Fb_285 (fg_isOf ly_100 rfl (fg_lt ly_100 (by decide))) (as := [.ref 273, .int (nI person), .int (nI m)]) (st := [.ref (104 + 14 * town)]) rfl rfl (Nat.le_of_ble_eq_true rfl) (Nat.le_refl _) (Nat.le_refl _) (ev_Fb_bestMind (R := (some (104 + 14 * town), R.2.1, R.2.2.1, R.2.2.2)) ht hT1 hok (h := S.1) (Z := S.2.1) (hv := S.2.2) rfl hF1 hz (p := person) (m := m) y5 (by omega) ?_)
        intro μ2 hos hsr
        have hT2 := fg_TWp.agX ht hT1 (fg_agX_S hos)
        have hF2 := hF1.agX (fg_agX_S hos)
        have hbk : (fg_bm (A.ts town) (S.2.1.1 person) m) < (fg_BF (A.ts town) (S.2.1.1 person) m).1 := fg_bk_lt _ (fg_BF_ok hok hm0).2.2.2.1
        have hbl := fg_BF_lt hok hm0 hbk
        show fg_wp _ _ _ _ _ _ _ _ _ (μ2, fg_rho (some (104 + 14 * town), R.2.1, some (104 + 14 * town), R.2.2.2), 304)
        refine fg_callV (fg_ft (pc := 44) tb_Fb_gap 23 rfl) cf_Fb_226 (fg_isOf (tT_lay ht) rfl (fg_lt (tT_lay ht) (by decide))) (as := [.int (nI ((fg_BF (A.ts town) (S.2.1.1 person) m).2.1 (fg_bm (A.ts town) (S.2.1.1 person) m)))]) (st := []) rfl rfl (Nat.le_of_ble_eq_true rfl) (Nat.le_refl _) (Nat.le_refl _) (ev_Town_worthOf ht hT2 hok (m := ((fg_BF (A.ts town) (S.2.1.1 person) m).2.1 (fg_bm (A.ts town) (S.2.1.1 person) m))) (by omega) ?_)
        refine fg_istore (fg_ft (pc := 47) tb_Fb_gap 24 rfl) (Nat.le_of_ble_eq_true rfl) ?_
        refine fg_aload (fg_ft (pc := 49) tb_Fb_gap 25 rfl) rfl ?_
        refine fg_getR (fg_ft (pc := 51) tb_Fb_gap 26 rfl) ff_Fb_194 ly_273 rfl (fg_lt ly_273 (by decide)) rfl ?_
        refine fg_aload (fg_ft (pc := 54) tb_Fb_gap 27 rfl) rfl ?_
        refine fg_iload (fg_ft (pc := 56) tb_Fb_gap 28 rfl) rfl ?_
        refine fg_callV (fg_ft (pc := 58) tb_Fb_gap 29 rfl) cf_Fb_181 (fg_isOf ly_273 rfl (fg_lt ly_273 (by decide))) (as := [.int (nI person)]) (st := [.ref (104 + 14 * town)]) rfl rfl (Nat.le_of_ble_eq_true rfl) (Nat.le_refl _) (Nat.le_refl _) (ev_Folk_mind ht hT2 hok (Or.inl rfl) rfl hF2 hz (p := person) (by omega) ?_)
        refine fg_callV (fg_ft (pc := 61) tb_Fb_gap 30 rfl) cf_Fb_289 (fg_isOf (tT_lay ht) rfl (fg_lt (tT_lay ht) (by decide))) (as := [.int (nI (S.2.1.1 person))]) (st := []) rfl rfl (Nat.le_of_ble_eq_true rfl) (Nat.le_refl _) (Nat.le_refl _) (ev_Town_mostWorth (R := (some (104 + 14 * town), R.2.1, some (104 + 14 * town), R.2.2.2)) ht hT2 hok (mind := (S.2.1.1 person)) hm0 hmc ?_)
        refine fg_iload (fg_ft (pc := 64) tb_Fb_gap 31 rfl) rfl ?_
        refine fg_isub (fg_ft (pc := 66) tb_Fb_gap 32 rfl) ?_
        exact fg_iret (fg_ft (pc := 67) tb_Fb_gap 33 rfl) rfl rfl (fg_q (hQ _ (some (104 + 14 * town), R.2.1, some (104 + 14 * town), R.2.2.2) (fg_agQ_tr (fg_agQ_F (Or.inl rfl) ho1) (fg_agQ_S hos))) (by unfold an_gap; rw [fg_g1_some y4 y5] <;> (first | (rw [if_neg (show ¬ m < 4 by omega)]; done) | (rw [if_pos (show m < 4 by omega)]; done) | (rw [if_pos (show m < 4 by omega), if_pos c45]; done) | (rw [if_pos (show m < 4 by omega), if_neg c45, if_pos c75]; done) | (rw [if_pos (show m < 4 by omega), if_neg c45, if_neg c75]; done))))
      · refine fg_iconst (fg_ft (pc := 27) tb_Fb_gap 14 rfl) ic_m1 ?_
        exact fg_iret (fg_ft (pc := 28) tb_Fb_gap 15 rfl) rfl rfl (fg_q (hQ _ (some (104 + 14 * town), R.2.1, R.2.2.1, R.2.2.2) (fg_agQ_F (Or.inl rfl) ho1)) (by unfold an_gap; rw [fg_g1_some y4 y5] <;> (first | (rw [if_neg (show ¬ m < 4 by omega)]; done) | (rw [if_pos (show m < 4 by omega)]; done) | (rw [if_pos (show m < 4 by omega), if_pos c45]; done) | (rw [if_pos (show m < 4 by omega), if_neg c45, if_pos c75]; done) | (rw [if_pos (show m < 4 by omega), if_neg c45, if_neg c75]; done))))
