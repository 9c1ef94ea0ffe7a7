theorem fg_nadd (a b : Nat) : nI (a + b) - nI a = nI b := by
  rw [← nI_add, Int32.add_comm, Int32.add_sub_cancel]
theorem ev_Mo_days {E : fg_E} {d : Nat} {μ : Nat → Nat → Int32} {R : fg_T4} {Q : Option Value → fg_M → Prop} {A : fg_Tl} (hL : fg_ML (μ 288) A) (hw : fg_wA A) (h17 : μ 287 17 = -1) (h19 : μ 287 19 = nI 0) {town day n what : Nat} {seed : Int32} (htown : town < 2 ^ 32) (hday : day < 2 ^ 32) (hn : n < 2 ^ 32) (hwhat : what < 2 ^ 32) (hQ : ∀ μ' : Nat → Nat → Int32, fg_agR μ μ' → Q (some (.int (an_days A town day n seed what))) (μ', fg_rho R, 304)) : fg_Ev E yy_Mo_days (d + 12) [.ref 287, .int (nI town), .int (nI day), .int (nI n), .int seed, .int (nI what)] (μ, fg_rho R, 304) 304 Q := by
  have ht2 := hw.2.1
  have hd3 := hw.2.2.1
  refine fg_intro (by decide +kernel) (Nat.le_of_ble_eq_true rfl) (fg_okAs rfl) (Nat.le_refl _) ?_
  refine fg_aloadn (fg_ft (pc := 0) tb_Mo_days 0 rfl) rfl ?_
  refine fg_iloadn (fg_ft (pc := 1) tb_Mo_days 1 rfl) rfl ?_
  refine fg_iloadn (fg_ft (pc := 2) tb_Mo_days 2 rfl) rfl ?_
  refine fg_iloadn (fg_ft (pc := 3) tb_Mo_days 3 rfl) rfl ?_
  refine fg_callV (fg_ft (pc := 4) tb_Mo_days 4 rfl) cf_Mo_249 (fg_isOf ly_287 rfl (fg_lt ly_287 (by decide))) (as := [.int (nI town), .int (nI day), .int (nI n)]) (st := []) rfl rfl (Nat.le_of_ble_eq_true rfl) (Nat.le_refl _) (Nat.le_refl _) (ev_Mo_isState hL hw h17 h19 htown hday hn (fun n4 μ1 ha1 => ?_) (fun S lv y4 μ1 n1 y1 ha1 hC1 hS1 => ?_))
  · refine fg_if_ne (tgt := 13) (fg_ft (pc := 7) tb_Mo_days 5 rfl) (by decide) (fun h => absurd h (by decide)) (fun _ => ?_)
    refine fg_bipush (fg_ft (pc := 10) tb_Mo_days 6 rfl) ib_m2 ?_
    exact fg_iret (fg_ft (pc := 12) tb_Mo_days 7 rfl) rfl rfl (fg_q (hQ _ (fg_agR_A ha1)) (by unfold an_days; rw [fg_g0_none n4]))
  · have ytc := fg_fnd_t y4
    have hok := hw.2.2.2.1 town ytc
    have hM1 := (hL.2.2.1 town ytc).ag ha1.m
    have hz : fg_zok (A.ts town) S.1 (S.2.1.1, 0, 0, 0) S.2.2 := fg_zok.news (fg_fnd_okW hw y4)
    have hv0 := hM1.1
    have hb0 := hok.1
    have hb1 := hok.2.1
    have hp := hok.p
    have hz9 := hz.1
    refine fg_if_ne (tgt := 13) (fg_ft (pc := 7) tb_Mo_days 5 rfl) (by decide) (fun _ => ?_) (fun h => absurd h (by decide))
    refine fg_iconst (fg_ft (pc := 13) tb_Mo_days 8 rfl) ic_0 ?_
    refine fg_iloadn (fg_ft (pc := 14) tb_Mo_days 9 rfl) rfl ?_
    refine fg_callS (fg_ft (pc := 15) tb_Mo_days 10 rfl) cf_Mo_166 (as := [.int (nI 0), .int (nI town)]) (st := []) rfl rfl (Nat.le_of_ble_eq_true rfl) (Nat.le_refl _) (Nat.le_refl _) (ev_Mo_placeOf0 (k := town) ?_)
    refine fg_istore (fg_ft (pc := 18) tb_Mo_days 11 rfl) (Nat.le_of_ble_eq_true rfl) ?_
    refine fg_iload (fg_ft (pc := 20) tb_Mo_days 12 rfl) rfl ?_
    refine fg_iconst (fg_ft (pc := 22) tb_Mo_days 13 rfl) ic_0 ?_
    refine fg_iconst (fg_ft (pc := 23) tb_Mo_days 14 rfl) ic_2 ?_
    refine fg_callS (fg_ft (pc := 24) tb_Mo_days 15 rfl) cf_Mo_110 (as := [.int (nI what), .int (nI 0), .int (nI 2)]) (st := []) rfl rfl (Nat.le_of_ble_eq_true rfl) (Nat.le_refl _) (Nat.le_refl _) (ev_Mo_isInC (k := what) (a := 0) (b := 2) (hwhat) (by omega) (by omega) ?_)
    refine fg_ifB_ne (tgt := 55) (fg_ft (pc := 27) tb_Mo_days 16 rfl) (by decide) (fun c27 => ?_) (fun c27 => ?_)
    · refine fg_aloadn (fg_ft (pc := 55) tb_Mo_days 31 rfl) rfl ?_
      refine fg_iload (fg_ft (pc := 56) tb_Mo_days 32 rfl) rfl ?_
      refine fg_putI (fg_ft (pc := 58) tb_Mo_days 33 rfl) ff_Mo_336 ly_287 rfl (fg_lt ly_287 (by decide)) (fg_nokI _) (fun _ _ h => by cases h; rfl) ?_
      show fg_wp _ _ _ _ _ _ _ _ _ (fg_u2 μ1 287 34 seed, fg_rho R, 304)
      refine fg_iconst (fg_ft (pc := 61) tb_Mo_days 34 rfl) ic_0 ?_
      refine fg_istore (fg_ft (pc := 62) tb_Mo_days 35 rfl) (Nat.le_of_ble_eq_true rfl) ?_
      have inner : ∀ (s : fg_SD), fg_zok (A.ts town) s.2.1.1 s.2.1.2.1 s.2.1.2.2 → (∀ (ν' : Nat → Nat → Int32) (c' : Nat), fg_agD μ1 ν' → fg_MS ν' (A.ts town) (fg_sdp (A.ts town) (A.ts town 2) s).2.1 (fg_sdp (A.ts town) (A.ts town 2) s).2.2 ((none : Option Nat), 0, 0) n1 y1 → ν' 287 34 = (fg_sdp (A.ts town) (A.ts town 2) s).1 → fg_sumL (A.ts town 2) (fg_sdp (A.ts town) (A.ts town 2) s).2.2 5 = fg_sumL (A.ts town 2) lv 5 + c' → ∀ v8 : Value, fg_wp E yy_Mo_days (d + 12) 304 304 Q 138 [.ref 287, .int (nI town), .int (nI day), .int (nI n), .int seed, .int (nI what), .int (nI (610 + 152 * town)), .int (nI c'), v8] [] (ν', fg_rho R, 304)) → ∀ (m p : Nat) (ν : Nat → Nat → Int32) (c : Nat), A.ts town 2 - p < m → p ≤ A.ts town 2 → fg_agD μ1 ν → fg_MS ν (A.ts town) (fg_sdp (A.ts town) p s).2.1 (fg_sdp (A.ts town) p s).2.2 ((none : Option Nat), 0, 0) n1 y1 → ν 287 34 = (fg_sdp (A.ts town) p s).1 → fg_sumL (A.ts town 2) (fg_sdp (A.ts town) p s).2.2 5 = fg_sumL (A.ts town 2) lv 5 + c → fg_wp E yy_Mo_days (d + 12) 304 304 Q 76 [.ref 287, .int (nI town), .int (nI day), .int (nI n), .int seed, .int (nI what), .int (nI (610 + 152 * town)), .int (nI c), .int (nI p)] [] (ν, fg_rho R, 304) := by
        intro s hz0 hcont m
        induction m with
        | zero => intro p ν c h; exact absurd h (Nat.not_lt_zero _)
        | succ m ih =>
          intro p ν c hm hp9 hag hSn hxn hsum
          have hMn := hM1.agD hag
          have hCn := hC1.agD hag
          have hzn := fg_sdp_ok hok hz0 p
          refine fg_iload (fg_ft (pc := 76) tb_Mo_days 42 rfl) rfl ?_
          refine fg_aloadn (fg_ft (pc := 78) tb_Mo_days 43 rfl) rfl ?_
          refine fg_getR (fg_ft (pc := 79) tb_Mo_days 44 rfl) ff_Mo_7 ly_287 rfl (fg_lt ly_287 (by decide)) (rh_287_0 R) ?_
          refine fg_iload (fg_ft (pc := 82) tb_Mo_days 45 rfl) rfl ?_
          refine fg_iconst (fg_ft (pc := 84) tb_Mo_days 46 rfl) ic_2 ?_
          refine fg_iaddN (fg_ft (pc := 85) tb_Mo_days 47 rfl) ?_
          refine fg_ialdV (v := (nI ((A.ts town) 2))) (fg_ft (pc := 86) tb_Mo_days 48 rfl) ly_288 (fg_lt ly_288 (by decide)) (by omega) (fg_MTat hMn (i := (610 + 152 * town) + 2) (k := 2) (by omega) (by omega)) ?_
          refine fg_icmp_geN (tgt := 138) (fg_ft (pc := 87) tb_Mo_days 49 rfl) (by decide) (by omega) (by omega) (fun c87 => ?_) (fun c87 => ?_)
          · obtain rfl : p = A.ts town 2 := by omega
            exact hcont ν c hag hSn hxn hsum _
          · refine fg_aloadn (fg_ft (pc := 90) tb_Mo_days 50 rfl) rfl ?_
            refine fg_bipush (fg_ft (pc := 91) tb_Mo_days 51 rfl) ib_100 ?_
            refine fg_callV (fg_ft (pc := 93) tb_Mo_days 52 rfl) cf_Mo_340 (fg_isOf ly_287 rfl (fg_lt ly_287 (by decide))) (as := [.int (nI 100)]) (st := []) rfl rfl (Nat.le_of_ble_eq_true rfl) (Nat.le_refl _) (Nat.le_refl _) (ev_Mo_drawn (n := 100) (x := (fg_sdp (A.ts town) p s).1) (by decide) (by decide) hxn ?_)
            have hMx : fg_MT ((fg_u2 ν 287 34 (fg_dr (fg_sdp (A.ts town) p s).1)) 288) (610 + 152 * town) (A.ts town) := hMn.agD fg_agD_x
            have hCx : fg_MC (fg_u2 ν 287 34 (fg_dr (fg_sdp (A.ts town) p s).1)) (A.ts town) := hCn.agD fg_agD_x
            have hSx : fg_MS (fg_u2 ν 287 34 (fg_dr (fg_sdp (A.ts town) p s).1)) (A.ts town) (fg_sdp (A.ts town) p s).2.1 (fg_sdp (A.ts town) p s).2.2 ((none : Option Nat), 0, 0) n1 y1 := hSn.x34
            show fg_wp _ _ _ _ _ _ _ _ _ (fg_u2 ν 287 34 (fg_dr (fg_sdp (A.ts town) p s).1), fg_rho R, 304)
            refine fg_aloadn (fg_ft (pc := 96) tb_Mo_days 53 rfl) rfl ?_
            refine fg_iload (fg_ft (pc := 97) tb_Mo_days 54 rfl) rfl ?_
            refine fg_iload (fg_ft (pc := 99) tb_Mo_days 55 rfl) rfl ?_
            refine fg_iconst (fg_ft (pc := 101) tb_Mo_days 56 rfl) ic_0 ?_
            refine fg_callV (fg_ft (pc := 102) tb_Mo_days 57 rfl) cf_Mo_203 (fg_isOf ly_287 rfl (fg_lt ly_287 (by decide))) (as := [.int (nI (610 + 152 * town)), .int (nI p), .int (nI 0)]) (st := [.int (nI (fg_bl (fg_dr (fg_sdp (A.ts town) p s).1) 100))]) rfl rfl (Nat.le_of_ble_eq_true rfl) (Nat.le_refl _) (Nat.le_refl _) (ev_Mo_kept hMx hok (p := p) (w := 0) (k := 40 + 3 * p) (by omega) (by omega) (by omega) ?_)
            refine fg_icmp_geN (tgt := 132) (fg_ft (pc := 105) tb_Mo_days 58 rfl) (by decide) (fg_bl_lt) (by have h3 := (hok.2.2.2.1 p (by omega)).1; omega) (fun c105 => ?_) (fun c105 => ?_)
            · refine fg_iincN (fg_ft (pc := 132) tb_Mo_days 70 rfl) rfl ic_1 rfl ?_
              refine fg_goto (tgt := 76) (fg_ft (pc := 135) tb_Mo_days 71 rfl) (by decide) ?_
              have e9 : fg_sdp (A.ts town) (p + 1) s = (fg_dr (fg_sdp (A.ts town) p s).1, (fg_sdp (A.ts town) p s).2) := (if_neg (fun hh => by first | exact absurd hh.1 (by omega) | exact hh.2 c115) : fg_sd1 (A.ts town) p (fg_sdp (A.ts town) p s) = _)
              refine ih (p + 1) _ c (by omega) (by omega) (fg_agD_tr hag fg_agD_x) ?_ ?_ ?_
              · rw [e9]; exact hSx
              · rw [e9]; exact fg_u2eq (f := ν) (a := 287) (k := 34) (x := fg_dr (fg_sdp (A.ts town) p s).1)
              · rw [e9]; exact hsum
            · refine fg_aloadn (fg_ft (pc := 108) tb_Mo_days 59 rfl) rfl ?_
              refine fg_getR (fg_ft (pc := 109) tb_Mo_days 60 rfl) ff_Mo_23 ly_287 rfl (fg_lt ly_287 (by decide)) (rh_287_12 R) ?_
              refine fg_iload (fg_ft (pc := 112) tb_Mo_days 61 rfl) rfl ?_
              refine fg_ialdV (v := (nI ((fg_sdp (A.ts town) p s).2.1.2.1.1 p))) (fg_ft (pc := 114) tb_Mo_days 62 rfl) ly_292 (fg_lt ly_292 (by decide)) (by omega) ((fg_u2ne (f := ν) (a := 287) (k := 34) (b := 292) (j := p) (x := (fg_dr (fg_sdp (A.ts town) p s).1)) (by decide)).trans (hSn.2.1 _ (by omega))) ?_
              refine fg_if_neN (tgt := 121) (fg_ft (pc := 115) tb_Mo_days 63 rfl) (by decide) (by have := (hzn.2.1 p (by omega)).1; omega) (fun c115 => ?_) (fun c115 => ?_)
              · have hmn := (hzn.2.1 p (by omega)).1
                obtain ⟨kk, hkk⟩ := fg_fa_some (m := ((fg_sdp (A.ts town) p s).2.1.2.1.1 p)) (at' := (fg_bl (fg_dr (fg_dr (fg_sdp (A.ts town) p s).1)) (fg_pc ((fg_sdp (A.ts town) p s).2.1.2.1.1 p)))) (by omega) (by have hp0 : fg_pc ((fg_sdp (A.ts town) p s).2.1.2.1.1 p) ≠ 0 := fun h0 => c115 (fg_pc0 (by omega) h0); unfold fg_bl; rw [if_neg hp0]; exact Nat.mod_lt _ (by omega))
                refine fg_aloadn (fg_ft (pc := 121) tb_Mo_days 65 rfl) rfl ?_
                refine fg_iload (fg_ft (pc := 122) tb_Mo_days 66 rfl) rfl ?_
                refine fg_iload (fg_ft (pc := 124) tb_Mo_days 67 rfl) rfl ?_
                refine fg_callV (fg_ft (pc := 126) tb_Mo_days 68 rfl) cf_Mo_343 (fg_isOf ly_287 rfl (fg_lt ly_287 (by decide))) (as := [.int (nI (610 + 152 * town)), .int (nI p)]) (st := []) rfl rfl (Nat.le_of_ble_eq_true rfl) (Nat.le_refl _) (Nat.le_refl _) (ev_Mo_eatsOne hMx hok hCx (h := (fg_sdp (A.ts town) p s).2.1.1) (Z := (fg_sdp (A.ts town) p s).2.1.2.1) (hv := (fg_sdp (A.ts town) p s).2.1.2.2) (lv := (fg_sdp (A.ts town) p s).2.2) hSx hzn (p := p) (kk := kk) (x := fg_dr (fg_sdp (A.ts town) p s).1) (by omega) c115 (fg_u2eq (f := ν) (a := 287) (k := 34) (x := fg_dr (fg_sdp (A.ts town) p s).1)) hkk ?_)
                intro ν3 hag3 hS3 hx3
                show fg_wp _ _ _ _ _ _ _ _ _ (ν3, fg_rho R, 304)
                refine fg_iincN (fg_ft (pc := 129) tb_Mo_days 69 rfl) rfl ic_1 rfl ?_
                refine fg_iincN (fg_ft (pc := 132) tb_Mo_days 70 rfl) rfl ic_1 rfl ?_
                refine fg_goto (tgt := 76) (fg_ft (pc := 135) tb_Mo_days 71 rfl) (by decide) ?_
                have e9 : fg_sdp (A.ts town) (p + 1) s = (fg_dr (fg_dr (fg_sdp (A.ts town) p s).1), ((fg_sdp (A.ts town) p s).2.1.1, (fg_up1 (fg_sdp (A.ts town) p s).2.1.2.1.1 p (fg_fgt (A.ts town) ((fg_sdp (A.ts town) p s).2.1.2.1.1 p) kk 1), (fg_sdp (A.ts town) p s).2.1.2.1.2), (fg_sdp (A.ts town) p s).2.1.2.2), fg_up1 (fg_sdp (A.ts town) p s).2.2 p ((fg_sdp (A.ts town) p s).2.2 p + 1)) := (if_pos ⟨by omega, c115⟩ : fg_sd1 (A.ts town) p (fg_sdp (A.ts town) p s) = _).trans (by rw [hkk]; rfl)
                refine ih (p + 1) ν3 (c + 1) (by omega) (by omega) (fg_agD_tr hag (fg_agD_tr fg_agD_x hag3)) ?_ ?_ ?_
                · rw [e9]; exact hS3
                · rw [e9]; exact hx3
                · rw [e9]
                  show fg_sumL (A.ts town 2) (fg_up1 (fg_sdp (A.ts town) p s).2.2 p ((fg_sdp (A.ts town) p s).2.2 p + 1)) 5 = _
                  rw [fg_sumL_up (by omega), if_pos (by omega)]; omega
              · refine fg_goto (tgt := 132) (fg_ft (pc := 118) tb_Mo_days 64 rfl) (by decide) ?_
                refine fg_iincN (fg_ft (pc := 132) tb_Mo_days 70 rfl) rfl ic_1 rfl ?_
                refine fg_goto (tgt := 76) (fg_ft (pc := 135) tb_Mo_days 71 rfl) (by decide) ?_
                have e9 : fg_sdp (A.ts town) (p + 1) s = (fg_dr (fg_sdp (A.ts town) p s).1, (fg_sdp (A.ts town) p s).2) := (if_neg (fun hh => by first | exact absurd hh.1 (by omega) | exact hh.2 c115) : fg_sd1 (A.ts town) p (fg_sdp (A.ts town) p s) = _)
                refine ih (p + 1) _ c (by omega) (by omega) (fg_agD_tr hag fg_agD_x) ?_ ?_ ?_
                · rw [e9]; exact hSx
                · rw [e9]; exact fg_u2eq (f := ν) (a := 287) (k := 34) (x := fg_dr (fg_sdp (A.ts town) p s).1)
                · rw [e9]; exact hsum
      have outer : ∀ (m k : Nat) (ν : Nat → Nat → Int32) (c : Nat) (v8 : Value), 9 - S.1 - k < m → k ≤ 9 - S.1 → fg_agD μ1 ν → fg_MS ν (A.ts town) (fg_sdh (A.ts town) (none, 0, 0) k (seed, (S.1, (S.2.1.1, 0, 0, 0), S.2.2), lv)).2.1 (fg_sdh (A.ts town) (none, 0, 0) k (seed, (S.1, (S.2.1.1, 0, 0, 0), S.2.2), lv)).2.2 ((none : Option Nat), 0, 0) n1 y1 → ν 287 34 = (fg_sdh (A.ts town) (none, 0, 0) k (seed, (S.1, (S.2.1.1, 0, 0, 0), S.2.2), lv)).1 → (fg_sdh (A.ts town) (none, 0, 0) k (seed, (S.1, (S.2.1.1, 0, 0, 0), S.2.2), lv)).2.1.1 = S.1 + k → fg_sumL (A.ts town 2) (fg_sdh (A.ts town) (none, 0, 0) k (seed, (S.1, (S.2.1.1, 0, 0, 0), S.2.2), lv)).2.2 5 = fg_sumL (A.ts town 2) lv 5 + c → fg_wp E yy_Mo_days (d + 12) 304 304 Q 64 [.ref 287, .int (nI town), .int (nI day), .int (nI n), .int seed, .int (nI what), .int (nI (610 + 152 * town)), .int (nI c), v8] [] (ν, fg_rho R, 304) := by
        intro m
        induction m with
        | zero => intro k ν c v8 h; exact absurd h (Nat.not_lt_zero _)
        | succ m ih =>
          intro k ν c v8 hm hk9 hag hSn hxn hhk hsum
          have hMn := hM1.agD hag
          have hCn := hC1.agD hag
          have hzn := fg_sdh_ok hok (o := (none, 0, 0)) (s := (seed, (S.1, (S.2.1.1, 0, 0, 0), S.2.2), lv)) hz k
          refine fg_aloadn (fg_ft (pc := 64) tb_Mo_days 36 rfl) rfl ?_
          refine fg_getV (v := (nI ((fg_sdh (A.ts town) (none, 0, 0) k (seed, (S.1, (S.2.1.1, 0, 0, 0), S.2.2), lv)).2.1.1))) (fg_ft (pc := 65) tb_Mo_days 37 rfl) ff_Mo_200 ly_287 rfl (fg_lt ly_287 (by decide)) hSn.1 ?_
          refine fg_bipush (fg_ft (pc := 68) tb_Mo_days 38 rfl) ib_9 ?_
          refine fg_icmp_geN (tgt := 147) (fg_ft (pc := 70) tb_Mo_days 39 rfl) (by decide) (by omega) (by decide) (fun c70 => ?_) (fun c70 => ?_)
          · refine fg_iload (fg_ft (pc := 147) tb_Mo_days 76 rfl) rfl ?_
            refine fg_if_neW (tgt := 157) (fg_ft (pc := 149) tb_Mo_days 77 rfl) (by decide) (hwhat) (fun c149 => ?_) (fun c149 => ?_)
            · refine fg_iload (fg_ft (pc := 157) tb_Mo_days 80 rfl) rfl ?_
              refine fg_iconst (fg_ft (pc := 159) tb_Mo_days 81 rfl) ic_3 ?_
              refine fg_icmp_geW (tgt := 176) (fg_ft (pc := 160) tb_Mo_days 82 rfl) (by decide) (hwhat) (by decide) (fun c160 => ?_) (fun c160 => ?_)
              · refine fg_aloadn (fg_ft (pc := 176) tb_Mo_days 90 rfl) rfl ?_
                refine fg_getR (fg_ft (pc := 177) tb_Mo_days 91 rfl) ff_Mo_23 ly_287 rfl (fg_lt ly_287 (by decide)) (rh_287_12 R) ?_
                refine fg_iload (fg_ft (pc := 180) tb_Mo_days 92 rfl) rfl ?_
                refine fg_bipush (fg_ft (pc := 182) tb_Mo_days 93 rfl) ib_10 ?_
                refine fg_isubN (fg_ft (pc := 184) tb_Mo_days 94 rfl) (by omega) ?_
                refine fg_ialdV (v := (nI ((fg_sdh (A.ts town) (none, 0, 0) k (seed, (S.1, (S.2.1.1, 0, 0, 0), S.2.2), lv)).2.1.2.1.1 (what - 10)))) (fg_ft (pc := 185) tb_Mo_days 95 rfl) ly_292 (fg_lt ly_292 (by decide)) (by omega) (hSn.2.1 _ (by omega)) ?_
                exact fg_iret (fg_ft (pc := 186) tb_Mo_days 96 rfl) rfl rfl (fg_q (hQ ν (fg_agR_tr (fg_agR_A ha1) (fg_agR_D hag))) (by unfold an_days; rw [fg_g0_some y4] <;> (rw [if_neg (by omega), if_neg (by omega), if_neg (by omega), if_pos (by omega), (show fg_sdd (A.ts town) S lv seed = (fg_sdh (A.ts town) (none, 0, 0) k (seed, (S.1, (S.2.1.1, 0, 0, 0), S.2.2), lv)) by unfold fg_sdd; rw [show 9 - S.1 = k by omega])]; unfold fg_one; rw [if_pos (by omega), show what % 10 = what - 10 by omega, if_pos (by omega), if_pos (by omega)])))
              · refine fg_aloadn (fg_ft (pc := 163) tb_Mo_days 83 rfl) rfl ?_
                refine fg_iload (fg_ft (pc := 164) tb_Mo_days 84 rfl) rfl ?_
                refine fg_iload (fg_ft (pc := 166) tb_Mo_days 85 rfl) rfl ?_
                refine fg_iconst (fg_ft (pc := 168) tb_Mo_days 86 rfl) ic_1 ?_
                refine fg_isubN (fg_ft (pc := 169) tb_Mo_days 87 rfl) (by omega) ?_
                refine fg_callV (fg_ft (pc := 170) tb_Mo_days 88 rfl) cf_Mo_252 (fg_isOf ly_287 rfl (fg_lt ly_287 (by decide))) (as := [.int (nI (610 + 152 * town)), .int (nI (what - 1))]) (st := []) rfl rfl (Nat.le_of_ble_eq_true rfl) (Nat.le_refl _) (Nat.le_refl _) (ev_Mo_together hMn hok hCn (h := (fg_sdh (A.ts town) (none, 0, 0) k (seed, (S.1, (S.2.1.1, 0, 0, 0), S.2.2), lv)).2.1.1) (Z := (fg_sdh (A.ts town) (none, 0, 0) k (seed, (S.1, (S.2.1.1, 0, 0, 0), S.2.2), lv)).2.1.2.1) (hv := (fg_sdh (A.ts town) (none, 0, 0) k (seed, (S.1, (S.2.1.1, 0, 0, 0), S.2.2), lv)).2.1.2.2) (lv := (fg_sdh (A.ts town) (none, 0, 0) k (seed, (S.1, (S.2.1.1, 0, 0, 0), S.2.2), lv)).2.2) (o := ((none : Option Nat), 0, 0)) (n0 := n1) (y := y1) hSn hzn (sort := what - 1) (by omega) ?_)
                refine fg_goto (tgt := 186) (fg_ft (pc := 173) tb_Mo_days 89 rfl) (by decide) ?_
                exact fg_iret (fg_ft (pc := 186) tb_Mo_days 96 rfl) rfl rfl (fg_q (hQ ν (fg_agR_tr (fg_agR_A ha1) (fg_agR_D hag))) (by unfold an_days; rw [fg_g0_some y4] <;> (rw [(show fg_sdd (A.ts town) S lv seed = (fg_sdh (A.ts town) (none, 0, 0) k (seed, (S.1, (S.2.1.1, 0, 0, 0), S.2.2), lv)) by unfold fg_sdd; rw [show 9 - S.1 = k by omega])]; rcases (show what = 1 ∨ what = 2 by omega) with rfl | rfl <;> rfl)))
            · refine fg_iload (fg_ft (pc := 152) tb_Mo_days 78 rfl) rfl ?_
              refine fg_goto (tgt := 186) (fg_ft (pc := 154) tb_Mo_days 79 rfl) (by decide) ?_
              exact fg_iret (fg_ft (pc := 186) tb_Mo_days 96 rfl) rfl rfl (fg_q (hQ ν (fg_agR_tr (fg_agR_A ha1) (fg_agR_D hag))) (by unfold an_days; rw [fg_g0_some y4] <;> (rw [if_pos c149, (show fg_sdd (A.ts town) S lv seed = (fg_sdh (A.ts town) (none, 0, 0) k (seed, (S.1, (S.2.1.1, 0, 0, 0), S.2.2), lv)) by unfold fg_sdd; rw [show 9 - S.1 = k by omega]), hsum]; exact fg_nadd _ _)))
          · refine fg_iconst (fg_ft (pc := 73) tb_Mo_days 40 rfl) ic_0 ?_
            refine fg_istore (fg_ft (pc := 74) tb_Mo_days 41 rfl) (Nat.le_of_ble_eq_true rfl) ?_
            refine inner (fg_sdh (A.ts town) (none, 0, 0) k (seed, (S.1, (S.2.1.1, 0, 0, 0), S.2.2), lv)) hzn ?_ (A.ts town 2 + 1) 0 ν c (by omega) (by omega) hag hSn hxn hsum
            intro ν2 c2 hag2 hS2 hx2 hsum2 v9
            have hM2 := hM1.agD hag2
            have hC2 := hC1.agD hag2
            have hz2 := fg_sdp_ok hok hzn (A.ts town 2)
            refine fg_aloadn (fg_ft (pc := 138) tb_Mo_days 72 rfl) rfl ?_
            refine fg_iload (fg_ft (pc := 139) tb_Mo_days 73 rfl) rfl ?_
            refine fg_callV (fg_ft (pc := 141) tb_Mo_days 74 rfl) cf_Mo_227 (fg_isOf ly_287 rfl (fg_lt ly_287 (by decide))) (as := [.int (nI (610 + 152 * town))]) (st := []) rfl rfl (Nat.le_of_ble_eq_true rfl) (Nat.le_refl _) (Nat.le_refl _) (ev_Mo_passHour hM2 hok hC2 (h := (fg_sdp (A.ts town) (A.ts town 2) (fg_sdh (A.ts town) (none, 0, 0) k (seed, (S.1, (S.2.1.1, 0, 0, 0), S.2.2), lv))).2.1.1) (Z := (fg_sdp (A.ts town) (A.ts town 2) (fg_sdh (A.ts town) (none, 0, 0) k (seed, (S.1, (S.2.1.1, 0, 0, 0), S.2.2), lv))).2.1.2.1) (hv := (fg_sdp (A.ts town) (A.ts town 2) (fg_sdh (A.ts town) (none, 0, 0) k (seed, (S.1, (S.2.1.1, 0, 0, 0), S.2.2), lv))).2.1.2.2) (lv := (fg_sdp (A.ts town) (A.ts town 2) (fg_sdh (A.ts town) (none, 0, 0) k (seed, (S.1, (S.2.1.1, 0, 0, 0), S.2.2), lv))).2.2) (o := ((none : Option Nat), 0, 0)) (n0 := n1) (y := y1) hS2 hz2 (fun q9 hq9 => by cases hq9) (by decide) (by decide) (by rw [fg_sdp_h]; omega) ?_)
            intro ν3 hag3 hS3
            show fg_wp _ _ _ _ _ _ _ _ _ (ν3, fg_rho R, 304)
            refine fg_goto (tgt := 64) (fg_ft (pc := 144) tb_Mo_days 75 rfl) (by decide) ?_
            exact ih (k + 1) ν3 c2 _ (by omega) (by omega) (fg_agD_tr hag2 (fg_agD_P hag3)) hS3 ((hag3.2 34 (by decide) (by decide) (by decide)).trans hx2) ((fg_ph_h (by rw [fg_sdp_h]; omega)).trans (by rw [fg_sdp_h, hhk]; omega)) hsum2
      exact outer (9 - S.1 + 1) 0 _ 0 _ (by omega) (by omega) fg_agD_x hS1.x34 (fg_u2eq (f := μ1) (a := 287) (k := 34) (x := seed)) rfl rfl
    · refine fg_iload (fg_ft (pc := 30) tb_Mo_days 17 rfl) rfl ?_
      refine fg_bipush (fg_ft (pc := 32) tb_Mo_days 18 rfl) ib_10 ?_
      refine fg_bipush (fg_ft (pc := 34) tb_Mo_days 19 rfl) ib_9 ?_
      refine fg_aloadn (fg_ft (pc := 36) tb_Mo_days 20 rfl) rfl ?_
      refine fg_getR (fg_ft (pc := 37) tb_Mo_days 21 rfl) ff_Mo_7 ly_287 rfl (fg_lt ly_287 (by decide)) (rh_287_0 R) ?_
      refine fg_iload (fg_ft (pc := 40) tb_Mo_days 22 rfl) rfl ?_
      refine fg_iconst (fg_ft (pc := 42) tb_Mo_days 23 rfl) ic_2 ?_
      refine fg_iaddN (fg_ft (pc := 43) tb_Mo_days 24 rfl) ?_
      refine fg_ialdV (v := (nI ((A.ts town) 2))) (fg_ft (pc := 44) tb_Mo_days 25 rfl) ly_288 (fg_lt ly_288 (by decide)) (by omega) (fg_MTat hM1 (i := (610 + 152 * town) + 2) (k := 2) (by omega) (by omega)) ?_
      refine fg_iaddN (fg_ft (pc := 45) tb_Mo_days 26 rfl) ?_
      refine fg_callS (fg_ft (pc := 46) tb_Mo_days 27 rfl) cf_Mo_110 (as := [.int (nI what), .int (nI 10), .int (nI (9 + ((A.ts town) 2)))]) (st := []) rfl rfl (Nat.le_of_ble_eq_true rfl) (Nat.le_refl _) (Nat.le_refl _) (ev_Mo_isInC (k := what) (a := 10) (b := (9 + ((A.ts town) 2))) (hwhat) (by omega) (by omega) ?_)
      refine fg_ifB_ne (tgt := 55) (fg_ft (pc := 49) tb_Mo_days 28 rfl) (by decide) (fun c49 => ?_) (fun c49 => ?_)
      · refine fg_aloadn (fg_ft (pc := 55) tb_Mo_days 31 rfl) rfl ?_
        refine fg_iload (fg_ft (pc := 56) tb_Mo_days 32 rfl) rfl ?_
        refine fg_putI (fg_ft (pc := 58) tb_Mo_days 33 rfl) ff_Mo_336 ly_287 rfl (fg_lt ly_287 (by decide)) (fg_nokI _) (fun _ _ h => by cases h; rfl) ?_
        show fg_wp _ _ _ _ _ _ _ _ _ (fg_u2 μ1 287 34 seed, fg_rho R, 304)
        refine fg_iconst (fg_ft (pc := 61) tb_Mo_days 34 rfl) ic_0 ?_
        refine fg_istore (fg_ft (pc := 62) tb_Mo_days 35 rfl) (Nat.le_of_ble_eq_true rfl) ?_
        have inner : ∀ (s : fg_SD), fg_zok (A.ts town) s.2.1.1 s.2.1.2.1 s.2.1.2.2 → (∀ (ν' : Nat → Nat → Int32) (c' : Nat), fg_agD μ1 ν' → fg_MS ν' (A.ts town) (fg_sdp (A.ts town) (A.ts town 2) s).2.1 (fg_sdp (A.ts town) (A.ts town 2) s).2.2 ((none : Option Nat), 0, 0) n1 y1 → ν' 287 34 = (fg_sdp (A.ts town) (A.ts town 2) s).1 → fg_sumL (A.ts town 2) (fg_sdp (A.ts town) (A.ts town 2) s).2.2 5 = fg_sumL (A.ts town 2) lv 5 + c' → ∀ v8 : Value, fg_wp E yy_Mo_days (d + 12) 304 304 Q 138 [.ref 287, .int (nI town), .int (nI day), .int (nI n), .int seed, .int (nI what), .int (nI (610 + 152 * town)), .int (nI c'), v8] [] (ν', fg_rho R, 304)) → ∀ (m p : Nat) (ν : Nat → Nat → Int32) (c : Nat), A.ts town 2 - p < m → p ≤ A.ts town 2 → fg_agD μ1 ν → fg_MS ν (A.ts town) (fg_sdp (A.ts town) p s).2.1 (fg_sdp (A.ts town) p s).2.2 ((none : Option Nat), 0, 0) n1 y1 → ν 287 34 = (fg_sdp (A.ts town) p s).1 → fg_sumL (A.ts town 2) (fg_sdp (A.ts town) p s).2.2 5 = fg_sumL (A.ts town 2) lv 5 + c → fg_wp E yy_Mo_days (d + 12) 304 304 Q 76 [.ref 287, .int (nI town), .int (nI day), .int (nI n), .int seed, .int (nI what), .int (nI (610 + 152 * town)), .int (nI c), .int (nI p)] [] (ν, fg_rho R, 304) := by
          intro s hz0 hcont m
          induction m with
          | zero => intro p ν c h; exact absurd h (Nat.not_lt_zero _)
          | succ m ih =>
            intro p ν c hm hp9 hag hSn hxn hsum
            have hMn := hM1.agD hag
            have hCn := hC1.agD hag
            have hzn := fg_sdp_ok hok hz0 p
            refine fg_iload (fg_ft (pc := 76) tb_Mo_days 42 rfl) rfl ?_
            refine fg_aloadn (fg_ft (pc := 78) tb_Mo_days 43 rfl) rfl ?_
            refine fg_getR (fg_ft (pc := 79) tb_Mo_days 44 rfl) ff_Mo_7 ly_287 rfl (fg_lt ly_287 (by decide)) (rh_287_0 R) ?_
            refine fg_iload (fg_ft (pc := 82) tb_Mo_days 45 rfl) rfl ?_
            refine fg_iconst (fg_ft (pc := 84) tb_Mo_days 46 rfl) ic_2 ?_
            refine fg_iaddN (fg_ft (pc := 85) tb_Mo_days 47 rfl) ?_
            refine fg_ialdV (v := (nI ((A.ts town) 2))) (fg_ft (pc := 86) tb_Mo_days 48 rfl) ly_288 (fg_lt ly_288 (by decide)) (by omega) (fg_MTat hMn (i := (610 + 152 * town) + 2) (k := 2) (by omega) (by omega)) ?_
            refine fg_icmp_geN (tgt := 138) (fg_ft (pc := 87) tb_Mo_days 49 rfl) (by decide) (by omega) (by omega) (fun c87 => ?_) (fun c87 => ?_)
            · obtain rfl : p = A.ts town 2 := by omega
              exact hcont ν c hag hSn hxn hsum _
            · refine fg_aloadn (fg_ft (pc := 90) tb_Mo_days 50 rfl) rfl ?_
              refine fg_bipush (fg_ft (pc := 91) tb_Mo_days 51 rfl) ib_100 ?_
              refine fg_callV (fg_ft (pc := 93) tb_Mo_days 52 rfl) cf_Mo_340 (fg_isOf ly_287 rfl (fg_lt ly_287 (by decide))) (as := [.int (nI 100)]) (st := []) rfl rfl (Nat.le_of_ble_eq_true rfl) (Nat.le_refl _) (Nat.le_refl _) (ev_Mo_drawn (n := 100) (x := (fg_sdp (A.ts town) p s).1) (by decide) (by decide) hxn ?_)
              have hMx : fg_MT ((fg_u2 ν 287 34 (fg_dr (fg_sdp (A.ts town) p s).1)) 288) (610 + 152 * town) (A.ts town) := hMn.agD fg_agD_x
              have hCx : fg_MC (fg_u2 ν 287 34 (fg_dr (fg_sdp (A.ts town) p s).1)) (A.ts town) := hCn.agD fg_agD_x
              have hSx : fg_MS (fg_u2 ν 287 34 (fg_dr (fg_sdp (A.ts town) p s).1)) (A.ts town) (fg_sdp (A.ts town) p s).2.1 (fg_sdp (A.ts town) p s).2.2 ((none : Option Nat), 0, 0) n1 y1 := hSn.x34
              show fg_wp _ _ _ _ _ _ _ _ _ (fg_u2 ν 287 34 (fg_dr (fg_sdp (A.ts town) p s).1), fg_rho R, 304)
              refine fg_aloadn (fg_ft (pc := 96) tb_Mo_days 53 rfl) rfl ?_
              refine fg_iload (fg_ft (pc := 97) tb_Mo_days 54 rfl) rfl ?_
              refine fg_iload (fg_ft (pc := 99) tb_Mo_days 55 rfl) rfl ?_
              refine fg_iconst (fg_ft (pc := 101) tb_Mo_days 56 rfl) ic_0 ?_
              refine fg_callV (fg_ft (pc := 102) tb_Mo_days 57 rfl) cf_Mo_203 (fg_isOf ly_287 rfl (fg_lt ly_287 (by decide))) (as := [.int (nI (610 + 152 * town)), .int (nI p), .int (nI 0)]) (st := [.int (nI (fg_bl (fg_dr (fg_sdp (A.ts town) p s).1) 100))]) rfl rfl (Nat.le_of_ble_eq_true rfl) (Nat.le_refl _) (Nat.le_refl _) (ev_Mo_kept hMx hok (p := p) (w := 0) (k := 40 + 3 * p) (by omega) (by omega) (by omega) ?_)
              refine fg_icmp_geN (tgt := 132) (fg_ft (pc := 105) tb_Mo_days 58 rfl) (by decide) (fg_bl_lt) (by have h3 := (hok.2.2.2.1 p (by omega)).1; omega) (fun c105 => ?_) (fun c105 => ?_)
              · refine fg_iincN (fg_ft (pc := 132) tb_Mo_days 70 rfl) rfl ic_1 rfl ?_
                refine fg_goto (tgt := 76) (fg_ft (pc := 135) tb_Mo_days 71 rfl) (by decide) ?_
                have e9 : fg_sdp (A.ts town) (p + 1) s = (fg_dr (fg_sdp (A.ts town) p s).1, (fg_sdp (A.ts town) p s).2) := (if_neg (fun hh => by first | exact absurd hh.1 (by omega) | exact hh.2 c115) : fg_sd1 (A.ts town) p (fg_sdp (A.ts town) p s) = _)
                refine ih (p + 1) _ c (by omega) (by omega) (fg_agD_tr hag fg_agD_x) ?_ ?_ ?_
                · rw [e9]; exact hSx
                · rw [e9]; exact fg_u2eq (f := ν) (a := 287) (k := 34) (x := fg_dr (fg_sdp (A.ts town) p s).1)
                · rw [e9]; exact hsum
              · refine fg_aloadn (fg_ft (pc := 108) tb_Mo_days 59 rfl) rfl ?_
                refine fg_getR (fg_ft (pc := 109) tb_Mo_days 60 rfl) ff_Mo_23 ly_287 rfl (fg_lt ly_287 (by decide)) (rh_287_12 R) ?_
                refine fg_iload (fg_ft (pc := 112) tb_Mo_days 61 rfl) rfl ?_
                refine fg_ialdV (v := (nI ((fg_sdp (A.ts town) p s).2.1.2.1.1 p))) (fg_ft (pc := 114) tb_Mo_days 62 rfl) ly_292 (fg_lt ly_292 (by decide)) (by omega) ((fg_u2ne (f := ν) (a := 287) (k := 34) (b := 292) (j := p) (x := (fg_dr (fg_sdp (A.ts town) p s).1)) (by decide)).trans (hSn.2.1 _ (by omega))) ?_
                refine fg_if_neN (tgt := 121) (fg_ft (pc := 115) tb_Mo_days 63 rfl) (by decide) (by have := (hzn.2.1 p (by omega)).1; omega) (fun c115 => ?_) (fun c115 => ?_)
                · have hmn := (hzn.2.1 p (by omega)).1
                  obtain ⟨kk, hkk⟩ := fg_fa_some (m := ((fg_sdp (A.ts town) p s).2.1.2.1.1 p)) (at' := (fg_bl (fg_dr (fg_dr (fg_sdp (A.ts town) p s).1)) (fg_pc ((fg_sdp (A.ts town) p s).2.1.2.1.1 p)))) (by omega) (by have hp0 : fg_pc ((fg_sdp (A.ts town) p s).2.1.2.1.1 p) ≠ 0 := fun h0 => c115 (fg_pc0 (by omega) h0); unfold fg_bl; rw [if_neg hp0]; exact Nat.mod_lt _ (by omega))
                  refine fg_aloadn (fg_ft (pc := 121) tb_Mo_days 65 rfl) rfl ?_
                  refine fg_iload (fg_ft (pc := 122) tb_Mo_days 66 rfl) rfl ?_
                  refine fg_iload (fg_ft (pc := 124) tb_Mo_days 67 rfl) rfl ?_
                  refine fg_callV (fg_ft (pc := 126) tb_Mo_days 68 rfl) cf_Mo_343 (fg_isOf ly_287 rfl (fg_lt ly_287 (by decide))) (as := [.int (nI (610 + 152 * town)), .int (nI p)]) (st := []) rfl rfl (Nat.le_of_ble_eq_true rfl) (Nat.le_refl _) (Nat.le_refl _) (ev_Mo_eatsOne hMx hok hCx (h := (fg_sdp (A.ts town) p s).2.1.1) (Z := (fg_sdp (A.ts town) p s).2.1.2.1) (hv := (fg_sdp (A.ts town) p s).2.1.2.2) (lv := (fg_sdp (A.ts town) p s).2.2) hSx hzn (p := p) (kk := kk) (x := fg_dr (fg_sdp (A.ts town) p s).1) (by omega) c115 (fg_u2eq (f := ν) (a := 287) (k := 34) (x := fg_dr (fg_sdp (A.ts town) p s).1)) hkk ?_)
                  intro ν3 hag3 hS3 hx3
                  show fg_wp _ _ _ _ _ _ _ _ _ (ν3, fg_rho R, 304)
                  refine fg_iincN (fg_ft (pc := 129) tb_Mo_days 69 rfl) rfl ic_1 rfl ?_
                  refine fg_iincN (fg_ft (pc := 132) tb_Mo_days 70 rfl) rfl ic_1 rfl ?_
                  refine fg_goto (tgt := 76) (fg_ft (pc := 135) tb_Mo_days 71 rfl) (by decide) ?_
                  have e9 : fg_sdp (A.ts town) (p + 1) s = (fg_dr (fg_dr (fg_sdp (A.ts town) p s).1), ((fg_sdp (A.ts town) p s).2.1.1, (fg_up1 (fg_sdp (A.ts town) p s).2.1.2.1.1 p (fg_fgt (A.ts town) ((fg_sdp (A.ts town) p s).2.1.2.1.1 p) kk 1), (fg_sdp (A.ts town) p s).2.1.2.1.2), (fg_sdp (A.ts town) p s).2.1.2.2), fg_up1 (fg_sdp (A.ts town) p s).2.2 p ((fg_sdp (A.ts town) p s).2.2 p + 1)) := (if_pos ⟨by omega, c115⟩ : fg_sd1 (A.ts town) p (fg_sdp (A.ts town) p s) = _).trans (by rw [hkk]; rfl)
                  refine ih (p + 1) ν3 (c + 1) (by omega) (by omega) (fg_agD_tr hag (fg_agD_tr fg_agD_x hag3)) ?_ ?_ ?_
                  · rw [e9]; exact hS3
                  · rw [e9]; exact hx3
                  · rw [e9]
                    show fg_sumL (A.ts town 2) (fg_up1 (fg_sdp (A.ts town) p s).2.2 p ((fg_sdp (A.ts town) p s).2.2 p + 1)) 5 = _
                    rw [fg_sumL_up (by omega), if_pos (by omega)]; omega
                · refine fg_goto (tgt := 132) (fg_ft (pc := 118) tb_Mo_days 64 rfl) (by decide) ?_
                  refine fg_iincN (fg_ft (pc := 132) tb_Mo_days 70 rfl) rfl ic_1 rfl ?_
                  refine fg_goto (tgt := 76) (fg_ft (pc := 135) tb_Mo_days 71 rfl) (by decide) ?_
                  have e9 : fg_sdp (A.ts town) (p + 1) s = (fg_dr (fg_sdp (A.ts town) p s).1, (fg_sdp (A.ts town) p s).2) := (if_neg (fun hh => by first | exact absurd hh.1 (by omega) | exact hh.2 c115) : fg_sd1 (A.ts town) p (fg_sdp (A.ts town) p s) = _)
                  refine ih (p + 1) _ c (by omega) (by omega) (fg_agD_tr hag fg_agD_x) ?_ ?_ ?_
                  · rw [e9]; exact hSx
                  · rw [e9]; exact fg_u2eq (f := ν) (a := 287) (k := 34) (x := fg_dr (fg_sdp (A.ts town) p s).1)
                  · rw [e9]; exact hsum
        have outer : ∀ (m k : Nat) (ν : Nat → Nat → Int32) (c : Nat) (v8 : Value), 9 - S.1 - k < m → k ≤ 9 - S.1 → fg_agD μ1 ν → fg_MS ν (A.ts town) (fg_sdh (A.ts town) (none, 0, 0) k (seed, (S.1, (S.2.1.1, 0, 0, 0), S.2.2), lv)).2.1 (fg_sdh (A.ts town) (none, 0, 0) k (seed, (S.1, (S.2.1.1, 0, 0, 0), S.2.2), lv)).2.2 ((none : Option Nat), 0, 0) n1 y1 → ν 287 34 = (fg_sdh (A.ts town) (none, 0, 0) k (seed, (S.1, (S.2.1.1, 0, 0, 0), S.2.2), lv)).1 → (fg_sdh (A.ts town) (none, 0, 0) k (seed, (S.1, (S.2.1.1, 0, 0, 0), S.2.2), lv)).2.1.1 = S.1 + k → fg_sumL (A.ts town 2) (fg_sdh (A.ts town) (none, 0, 0) k (seed, (S.1, (S.2.1.1, 0, 0, 0), S.2.2), lv)).2.2 5 = fg_sumL (A.ts town 2) lv 5 + c → fg_wp E yy_Mo_days (d + 12) 304 304 Q 64 [.ref 287, .int (nI town), .int (nI day), .int (nI n), .int seed, .int (nI what), .int (nI (610 + 152 * town)), .int (nI c), v8] [] (ν, fg_rho R, 304) := by
          intro m
          induction m with
          | zero => intro k ν c v8 h; exact absurd h (Nat.not_lt_zero _)
          | succ m ih =>
            intro k ν c v8 hm hk9 hag hSn hxn hhk hsum
            have hMn := hM1.agD hag
            have hCn := hC1.agD hag
            have hzn := fg_sdh_ok hok (o := (none, 0, 0)) (s := (seed, (S.1, (S.2.1.1, 0, 0, 0), S.2.2), lv)) hz k
            refine fg_aloadn (fg_ft (pc := 64) tb_Mo_days 36 rfl) rfl ?_
            refine fg_getV (v := (nI ((fg_sdh (A.ts town) (none, 0, 0) k (seed, (S.1, (S.2.1.1, 0, 0, 0), S.2.2), lv)).2.1.1))) (fg_ft (pc := 65) tb_Mo_days 37 rfl) ff_Mo_200 ly_287 rfl (fg_lt ly_287 (by decide)) hSn.1 ?_
            refine fg_bipush (fg_ft (pc := 68) tb_Mo_days 38 rfl) ib_9 ?_
            refine fg_icmp_geN (tgt := 147) (fg_ft (pc := 70) tb_Mo_days 39 rfl) (by decide) (by omega) (by decide) (fun c70 => ?_) (fun c70 => ?_)
            · refine fg_iload (fg_ft (pc := 147) tb_Mo_days 76 rfl) rfl ?_
              refine fg_if_neW (tgt := 157) (fg_ft (pc := 149) tb_Mo_days 77 rfl) (by decide) (hwhat) (fun c149 => ?_) (fun c149 => ?_)
              · refine fg_iload (fg_ft (pc := 157) tb_Mo_days 80 rfl) rfl ?_
                refine fg_iconst (fg_ft (pc := 159) tb_Mo_days 81 rfl) ic_3 ?_
                refine fg_icmp_geW (tgt := 176) (fg_ft (pc := 160) tb_Mo_days 82 rfl) (by decide) (hwhat) (by decide) (fun c160 => ?_) (fun c160 => ?_)
                · refine fg_aloadn (fg_ft (pc := 176) tb_Mo_days 90 rfl) rfl ?_
                  refine fg_getR (fg_ft (pc := 177) tb_Mo_days 91 rfl) ff_Mo_23 ly_287 rfl (fg_lt ly_287 (by decide)) (rh_287_12 R) ?_
                  refine fg_iload (fg_ft (pc := 180) tb_Mo_days 92 rfl) rfl ?_
                  refine fg_bipush (fg_ft (pc := 182) tb_Mo_days 93 rfl) ib_10 ?_
                  refine fg_isubN (fg_ft (pc := 184) tb_Mo_days 94 rfl) (by omega) ?_
                  refine fg_ialdV (v := (nI ((fg_sdh (A.ts town) (none, 0, 0) k (seed, (S.1, (S.2.1.1, 0, 0, 0), S.2.2), lv)).2.1.2.1.1 (what - 10)))) (fg_ft (pc := 185) tb_Mo_days 95 rfl) ly_292 (fg_lt ly_292 (by decide)) (by omega) (hSn.2.1 _ (by omega)) ?_
                  exact fg_iret (fg_ft (pc := 186) tb_Mo_days 96 rfl) rfl rfl (fg_q (hQ ν (fg_agR_tr (fg_agR_A ha1) (fg_agR_D hag))) (by unfold an_days; rw [fg_g0_some y4] <;> (rw [if_neg (by omega), if_neg (by omega), if_neg (by omega), if_pos (by omega), (show fg_sdd (A.ts town) S lv seed = (fg_sdh (A.ts town) (none, 0, 0) k (seed, (S.1, (S.2.1.1, 0, 0, 0), S.2.2), lv)) by unfold fg_sdd; rw [show 9 - S.1 = k by omega])]; unfold fg_one; rw [if_pos (by omega), show what % 10 = what - 10 by omega, if_pos (by omega), if_pos (by omega)])))
                · refine fg_aloadn (fg_ft (pc := 163) tb_Mo_days 83 rfl) rfl ?_
                  refine fg_iload (fg_ft (pc := 164) tb_Mo_days 84 rfl) rfl ?_
                  refine fg_iload (fg_ft (pc := 166) tb_Mo_days 85 rfl) rfl ?_
                  refine fg_iconst (fg_ft (pc := 168) tb_Mo_days 86 rfl) ic_1 ?_
                  refine fg_isubN (fg_ft (pc := 169) tb_Mo_days 87 rfl) (by omega) ?_
                  refine fg_callV (fg_ft (pc := 170) tb_Mo_days 88 rfl) cf_Mo_252 (fg_isOf ly_287 rfl (fg_lt ly_287 (by decide))) (as := [.int (nI (610 + 152 * town)), .int (nI (what - 1))]) (st := []) rfl rfl (Nat.le_of_ble_eq_true rfl) (Nat.le_refl _) (Nat.le_refl _) (ev_Mo_together hMn hok hCn (h := (fg_sdh (A.ts town) (none, 0, 0) k (seed, (S.1, (S.2.1.1, 0, 0, 0), S.2.2), lv)).2.1.1) (Z := (fg_sdh (A.ts town) (none, 0, 0) k (seed, (S.1, (S.2.1.1, 0, 0, 0), S.2.2), lv)).2.1.2.1) (hv := (fg_sdh (A.ts town) (none, 0, 0) k (seed, (S.1, (S.2.1.1, 0, 0, 0), S.2.2), lv)).2.1.2.2) (lv := (fg_sdh (A.ts town) (none, 0, 0) k (seed, (S.1, (S.2.1.1, 0, 0, 0), S.2.2), lv)).2.2) (o := ((none : Option Nat), 0, 0)) (n0 := n1) (y := y1) hSn hzn (sort := what - 1) (by omega) ?_)
                  refine fg_goto (tgt := 186) (fg_ft (pc := 173) tb_Mo_days 89 rfl) (by decide) ?_
                  exact fg_iret (fg_ft (pc := 186) tb_Mo_days 96 rfl) rfl rfl (fg_q (hQ ν (fg_agR_tr (fg_agR_A ha1) (fg_agR_D hag))) (by unfold an_days; rw [fg_g0_some y4] <;> (rw [(show fg_sdd (A.ts town) S lv seed = (fg_sdh (A.ts town) (none, 0, 0) k (seed, (S.1, (S.2.1.1, 0, 0, 0), S.2.2), lv)) by unfold fg_sdd; rw [show 9 - S.1 = k by omega])]; rcases (show what = 1 ∨ what = 2 by omega) with rfl | rfl <;> rfl)))
              · refine fg_iload (fg_ft (pc := 152) tb_Mo_days 78 rfl) rfl ?_
                refine fg_goto (tgt := 186) (fg_ft (pc := 154) tb_Mo_days 79 rfl) (by decide) ?_
                exact fg_iret (fg_ft (pc := 186) tb_Mo_days 96 rfl) rfl rfl (fg_q (hQ ν (fg_agR_tr (fg_agR_A ha1) (fg_agR_D hag))) (by unfold an_days; rw [fg_g0_some y4] <;> (rw [if_pos c149, (show fg_sdd (A.ts town) S lv seed = (fg_sdh (A.ts town) (none, 0, 0) k (seed, (S.1, (S.2.1.1, 0, 0, 0), S.2.2), lv)) by unfold fg_sdd; rw [show 9 - S.1 = k by omega]), hsum]; exact fg_nadd _ _)))
            · refine fg_iconst (fg_ft (pc := 73) tb_Mo_days 40 rfl) ic_0 ?_
              refine fg_istore (fg_ft (pc := 74) tb_Mo_days 41 rfl) (Nat.le_of_ble_eq_true rfl) ?_
              refine inner (fg_sdh (A.ts town) (none, 0, 0) k (seed, (S.1, (S.2.1.1, 0, 0, 0), S.2.2), lv)) hzn ?_ (A.ts town 2 + 1) 0 ν c (by omega) (by omega) hag hSn hxn hsum
              intro ν2 c2 hag2 hS2 hx2 hsum2 v9
              have hM2 := hM1.agD hag2
              have hC2 := hC1.agD hag2
              have hz2 := fg_sdp_ok hok hzn (A.ts town 2)
              refine fg_aloadn (fg_ft (pc := 138) tb_Mo_days 72 rfl) rfl ?_
              refine fg_iload (fg_ft (pc := 139) tb_Mo_days 73 rfl) rfl ?_
              refine fg_callV (fg_ft (pc := 141) tb_Mo_days 74 rfl) cf_Mo_227 (fg_isOf ly_287 rfl (fg_lt ly_287 (by decide))) (as := [.int (nI (610 + 152 * town))]) (st := []) rfl rfl (Nat.le_of_ble_eq_true rfl) (Nat.le_refl _) (Nat.le_refl _) (ev_Mo_passHour hM2 hok hC2 (h := (fg_sdp (A.ts town) (A.ts town 2) (fg_sdh (A.ts town) (none, 0, 0) k (seed, (S.1, (S.2.1.1, 0, 0, 0), S.2.2), lv))).2.1.1) (Z := (fg_sdp (A.ts town) (A.ts town 2) (fg_sdh (A.ts town) (none, 0, 0) k (seed, (S.1, (S.2.1.1, 0, 0, 0), S.2.2), lv))).2.1.2.1) (hv := (fg_sdp (A.ts town) (A.ts town 2) (fg_sdh (A.ts town) (none, 0, 0) k (seed, (S.1, (S.2.1.1, 0, 0, 0), S.2.2), lv))).2.1.2.2) (lv := (fg_sdp (A.ts town) (A.ts town 2) (fg_sdh (A.ts town) (none, 0, 0) k (seed, (S.1, (S.2.1.1, 0, 0, 0), S.2.2), lv))).2.2) (o := ((none : Option Nat), 0, 0)) (n0 := n1) (y := y1) hS2 hz2 (fun q9 hq9 => by cases hq9) (by decide) (by decide) (by rw [fg_sdp_h]; omega) ?_)
              intro ν3 hag3 hS3
              show fg_wp _ _ _ _ _ _ _ _ _ (ν3, fg_rho R, 304)
              refine fg_goto (tgt := 64) (fg_ft (pc := 144) tb_Mo_days 75 rfl) (by decide) ?_
              exact ih (k + 1) ν3 c2 _ (by omega) (by omega) (fg_agD_tr hag2 (fg_agD_P hag3)) hS3 ((hag3.2 34 (by decide) (by decide) (by decide)).trans hx2) ((fg_ph_h (by rw [fg_sdp_h]; omega)).trans (by rw [fg_sdp_h, hhk]; omega)) hsum2
        exact outer (9 - S.1 + 1) 0 _ 0 _ (by omega) (by omega) fg_agD_x hS1.x34 (fg_u2eq (f := μ1) (a := 287) (k := 34) (x := seed)) rfl rfl
      · refine fg_bipush (fg_ft (pc := 52) tb_Mo_days 29 rfl) ib_m2 ?_
        exact fg_iret (fg_ft (pc := 54) tb_Mo_days 30 rfl) rfl rfl (fg_q (hQ _ (fg_agR_A ha1)) (by unfold an_days; rw [fg_g0_some y4] <;> (rw [if_neg (by omega), if_neg (by omega), if_neg (by omega)]; (split; (unfold fg_one; rw [if_pos (by omega), if_neg (by omega)]); rfl))))
