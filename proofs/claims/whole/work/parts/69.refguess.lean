theorem fg_gsg_comm {T : Nat → Nat} {can cannot m : Nat} (a b : Nat) (s : Nat × Nat × Nat) : fg_gsg T can cannot m a (fg_gsg T can cannot m b s) = fg_gsg T can cannot m b (fg_gsg T can cannot m a s) := by
  obtain ⟨M, p, w⟩ := s
  unfold fg_gsg
  rcases Classical.em (fg_gsP T can cannot a) with h1 | h1
  · rcases Classical.em (fg_gsP T can cannot b) with h2 | h2
    · have hif : ∀ (q : Nat) (t : Nat × Nat × Nat), fg_gsP T can cannot q → fg_ifP (t.1 ≤ fg_pc q + 1 ∧ fg_gsP T can cannot q) (fg_pc q + 1, if t.1 < fg_pc q + 1 then 1 else t.2.1 + 1, fg_df (if t.1 < fg_pc q + 1 then m else t.2.2) q) t = if t.1 ≤ fg_pc q + 1 then (fg_pc q + 1, if t.1 < fg_pc q + 1 then 1 else t.2.1 + 1, fg_df (if t.1 < fg_pc q + 1 then m else t.2.2) q) else t := by
        intro q t hq
        by_cases c : t.1 ≤ fg_pc q + 1
        · rw [fg_ifT ⟨c, hq⟩, if_pos c]
        · rw [fg_ifF (fun hh => c hh.1), if_neg c]
      rw [hif b _ h2, hif a _ h1, hif a _ h1, hif b _ h2]
      have hdf : ∀ x : Nat, fg_df (fg_df x b) a = fg_df (fg_df x a) b := fun x => by
        rw [← fg_df_or2, ← fg_df_or2, Nat.or_comm]
      rcases Nat.lt_trichotomy (fg_pc a) (fg_pc b) with g | g | g
      · by_cases c1 : M ≤ fg_pc b + 1
        · simp only [if_pos c1]
          rw [if_neg (show ¬ fg_pc b + 1 ≤ fg_pc a + 1 by omega)]
          by_cases c2 : M ≤ fg_pc a + 1
          · simp only [if_pos c2]
            simp only [if_pos (show fg_pc a + 1 ≤ fg_pc b + 1 by omega), if_pos (show fg_pc a + 1 < fg_pc b + 1 by omega), if_pos (show M < fg_pc b + 1 by omega)]
          · simp only [if_neg c2, if_pos c1]
        · have c2 : ¬ M ≤ fg_pc a + 1 := by omega
          simp only [if_neg c1, if_neg c2]
      · by_cases c1 : M ≤ fg_pc b + 1
        · have c2 : M ≤ fg_pc a + 1 := by omega
          simp only [if_pos c1, if_pos c2]
          simp only [g, if_pos (Nat.le_refl (fg_pc b + 1)), if_neg (Nat.lt_irrefl (fg_pc b + 1)), hdf]
        · have c2 : ¬ M ≤ fg_pc a + 1 := by omega
          simp only [if_neg c1, if_neg c2]
      · by_cases c2 : M ≤ fg_pc a + 1
        · simp only [if_pos c2]
          rw [if_neg (show ¬ fg_pc a + 1 ≤ fg_pc b + 1 by omega)]
          by_cases c1 : M ≤ fg_pc b + 1
          · simp only [if_pos c1]
            simp only [if_pos (show fg_pc b + 1 ≤ fg_pc a + 1 by omega), if_pos (show fg_pc b + 1 < fg_pc a + 1 by omega), if_pos (show M < fg_pc a + 1 by omega)]
          · simp only [if_neg c1, if_pos c2]
        · have c1 : ¬ M ≤ fg_pc b + 1 := by omega
          simp only [if_neg c1, if_neg c2]
    · simp only [fg_ifF (fun hh => h2 (And.right hh))]
  · simp only [fg_ifF (fun hh => h1 (And.right hh))]
noncomputable def fg_gF (T : Nat → Nat) (can cannot m : Nat) : Nat → Nat × Nat × Nat → Nat × Nat × Nat := fg_sf m (fg_gsg T can cannot m)
theorem fg_gs_ub {T : Nat → Nat} {can cannot m : Nat} : fg_gs T can cannot m = fg_ub (fg_gF T can cannot m) (m + 1) (0, 0, 0) := by
  unfold fg_gs
  exact fg_db_ub (fg_sf_comm fg_gsg_comm) _ _
theorem fg_gF_0 {T : Nat → Nat} {can cannot m q : Nat} {s : Nat × Nat × Nat} (h : ¬ fg_le q m ∨ ¬ fg_gsP T can cannot q ∨ fg_pc q + 1 < s.1) : fg_gF T can cannot m q s = s := by
  unfold fg_gF fg_sf
  by_cases c : fg_df q m = 0
  · rw [if_pos c]
    refine fg_ifF (fun hh => ?_)
    rcases h with h | h | h
    · exact h (fg_df0.mp c)
    · exact h hh.2
    · have := hh.1; omega
  · rw [if_neg c]
theorem fg_gF_1 {T : Nat → Nat} {can cannot m q : Nat} {s : Nat × Nat × Nat} (h1 : fg_le q m) (h2 : fg_gsP T can cannot q) (h3 : s.1 ≤ fg_pc q + 1) : fg_gF T can cannot m q s = (fg_pc q + 1, if s.1 < fg_pc q + 1 then 1 else s.2.1 + 1, fg_df (if s.1 < fg_pc q + 1 then m else s.2.2) q) := by
  unfold fg_gF fg_sf
  rw [if_pos (fg_df0.mpr h1)]
  exact fg_ifT ⟨h3, h2⟩
theorem fg_and_df {w m q : Nat} (h : fg_le w m) : w &&& fg_df m q = fg_df w q := by
  apply Nat.eq_of_testBit_eq
  intro i
  rw [Nat.testBit_and, fg_df_bit, fg_df_bit]
  have := h i
  cases hw : w.testBit i
  · rfl
  · rw [this hw]; rfl
theorem fg_mo_neg {M : Nat} (hM : M < 2 ^ 31) : ¬ 0 ≤ fg_mo M ↔ M = 0 := by
  cases M with
  | zero => exact ⟨fun _ => rfl, fun _ => by show ¬ (0 : Int32) ≤ -1; decide⟩
  | succ n =>
    refine ⟨fun h => absurd ?_ h, fun h => absurd h (by omega)⟩
    show (0 : Int32) ≤ nI n
    rw [Int32.le_iff_toInt_le, fg_t0, fg_tI (by omega)]
    omega
theorem ev_Mo_guess {E : fg_E} {d : Nat} {μ : Nat → Nat → Int32} {R : fg_T4} {Q : Option Value → fg_M → Prop} {A : fg_Tl} (hL : fg_ML (μ 288) A) (hw : fg_wA A) (h17 : μ 287 17 = -1) (h19 : μ 287 19 = nI 0) {town day n person can cannot what : Nat} (htown : town < 2 ^ 32) (hday : day < 2 ^ 32) (hn : n < 2 ^ 32) (hperson : person < 2 ^ 32) (hcan : can < 2 ^ 32) (hcannot : cannot < 2 ^ 32) (hwhat : what < 2 ^ 32) (hQ : ∀ μ' : Nat → Nat → Int32, fg_agR μ μ' → Q (some (.int (an_guess A town day n person can cannot what))) (μ', fg_rho R, 304)) : fg_Ev E yy_Mo_guess (d + 12) [.ref 287, .int (nI town), .int (nI day), .int (nI n), .int (nI person), .int (nI can), .int (nI cannot), .int (nI what)] (μ, fg_rho R, 304) 304 Q := by
  have ht2 := hw.2.1
  have hd3 := hw.2.2.1
  refine fg_intro (by decide +kernel) (Nat.le_of_ble_eq_true rfl) (fg_okAs rfl) (Nat.le_refl _) ?_
  refine fg_iload (fg_ft (pc := 0) tb_Mo_guess 0 rfl) rfl ?_
  refine fg_iconst (fg_ft (pc := 2) tb_Mo_guess 1 rfl) ic_0 ?_
  refine fg_iconst (fg_ft (pc := 3) tb_Mo_guess 2 rfl) ic_2 ?_
  refine fg_callS (fg_ft (pc := 4) tb_Mo_guess 3 rfl) cf_Mo_110 (as := [.int (nI what), .int (nI 0), .int (nI 2)]) (st := []) rfl rfl (Nat.le_of_ble_eq_true rfl) (Nat.le_refl _) (Nat.le_refl _) (ev_Mo_isInC (k := what) (a := 0) (b := 2) (hwhat) (by omega) (by omega) ?_)
  refine fg_ifB_eq (tgt := 22) (fg_ft (pc := 7) tb_Mo_guess 4 rfl) (by decide) (fun c7 => ?_) (fun c7 => ?_)
  · refine fg_iconst (fg_ft (pc := 22) tb_Mo_guess 12 rfl) ic_m1 ?_
    exact fg_iret (fg_ft (pc := 23) tb_Mo_guess 13 rfl) rfl rfl (fg_q (hQ _ (fg_agR_rf μ)) (by unfold an_guess; rw [fg_g1_cst (by intro T S lv; rw [if_neg (by omega)])]))
  · refine fg_aloadn (fg_ft (pc := 10) tb_Mo_guess 5 rfl) rfl ?_
    refine fg_iloadn (fg_ft (pc := 11) tb_Mo_guess 6 rfl) rfl ?_
    refine fg_iloadn (fg_ft (pc := 12) tb_Mo_guess 7 rfl) rfl ?_
    refine fg_iloadn (fg_ft (pc := 13) tb_Mo_guess 8 rfl) rfl ?_
    refine fg_iload (fg_ft (pc := 14) tb_Mo_guess 9 rfl) rfl ?_
    refine fg_callV (fg_ft (pc := 16) tb_Mo_guess 10 rfl) cf_Mo_258 (fg_isOf ly_287 rfl (fg_lt ly_287 (by decide))) (as := [.int (nI town), .int (nI day), .int (nI n), .int (nI person)]) (st := []) rfl rfl (Nat.le_of_ble_eq_true rfl) (Nat.le_refl _) (Nat.le_refl _) (ev_Mo_isOne hL hw h17 h19 htown hday hn hperson (fun n4 μ1 ha1 => ?_) (fun S lv y4 y5 μ1 n1 y1 ha1 hC1 hS1 => ?_))
    · refine fg_if_ne (tgt := 24) (fg_ft (pc := 19) tb_Mo_guess 11 rfl) (by decide) (fun h => absurd h (by decide)) (fun _ => ?_)
      refine fg_iconst (fg_ft (pc := 22) tb_Mo_guess 12 rfl) ic_m1 ?_
      exact fg_iret (fg_ft (pc := 23) tb_Mo_guess 13 rfl) rfl rfl (fg_q (hQ _ (fg_agR_A ha1)) (by unfold an_guess; rw [fg_g1_none n4]))
    · have ytc := fg_fnd_t y4
      have hok := hw.2.2.2.1 town ytc
      have hM1 := (hL.2.2.1 town ytc).ag ha1.m
      have hz : fg_zok (A.ts town) S.1 (S.2.1.1, 0, 0, 0) S.2.2 := fg_zok.news (fg_fnd_okW hw y4)
      have hv0 := hM1.1
      have hb0 := hok.1
      have hb1 := hok.2.1
      have hp := hok.p
      have hz9 := hz.1
      have hm2 := hz.2.1 person y5
      have hm0 : S.2.1.1 person < 2 ^ A.ts town 0 := hm2.1
      have hmc : fg_clsd (A.ts town) (S.2.1.1 person) := hm2.2
      have hm10 : S.2.1.1 person < 1024 := by omega
      refine fg_if_ne (tgt := 24) (fg_ft (pc := 19) tb_Mo_guess 11 rfl) (by decide) (fun _ => ?_) (fun h => absurd h (by decide))
      refine fg_iconst (fg_ft (pc := 24) tb_Mo_guess 14 rfl) ic_0 ?_
      refine fg_iloadn (fg_ft (pc := 25) tb_Mo_guess 15 rfl) rfl ?_
      refine fg_callS (fg_ft (pc := 26) tb_Mo_guess 16 rfl) cf_Mo_166 (as := [.int (nI 0), .int (nI town)]) (st := []) rfl rfl (Nat.le_of_ble_eq_true rfl) (Nat.le_refl _) (Nat.le_refl _) (ev_Mo_placeOf0 (k := town) ?_)
      refine fg_istore (fg_ft (pc := 29) tb_Mo_guess 17 rfl) (Nat.le_of_ble_eq_true rfl) ?_
      refine fg_iconst (fg_ft (pc := 31) tb_Mo_guess 18 rfl) ic_1 ?_
      refine fg_aloadn (fg_ft (pc := 32) tb_Mo_guess 19 rfl) rfl ?_
      refine fg_getR (fg_ft (pc := 33) tb_Mo_guess 20 rfl) ff_Mo_7 ly_287 rfl (fg_lt ly_287 (by decide)) (rh_287_0 R) ?_
      refine fg_iload (fg_ft (pc := 36) tb_Mo_guess 21 rfl) rfl ?_
      refine fg_iconst (fg_ft (pc := 38) tb_Mo_guess 22 rfl) ic_5 ?_
      refine fg_iaddN (fg_ft (pc := 39) tb_Mo_guess 23 rfl) ?_
      refine fg_ialdV (v := (nI ((A.ts town) 5))) (fg_ft (pc := 40) tb_Mo_guess 24 rfl) ly_288 (fg_lt ly_288 (by decide)) (by omega) (fg_MTat hM1 (i := (610 + 152 * town) + 5) (k := 5) (by omega) (by omega)) ?_
      refine fg_ishl1 (fg_ft (pc := 41) tb_Mo_guess 25 rfl) (by omega) ?_
      refine fg_iconst (fg_ft (pc := 42) tb_Mo_guess 26 rfl) ic_1 ?_
      refine fg_isubN (fg_ft (pc := 43) tb_Mo_guess 27 rfl) (Nat.one_le_two_pow) ?_
      refine fg_istore (fg_ft (pc := 44) tb_Mo_guess 28 rfl) (Nat.le_of_ble_eq_true rfl) ?_
      refine fg_iload (fg_ft (pc := 46) tb_Mo_guess 29 rfl) rfl ?_
      refine fg_if_ltW (tgt := 69) (fg_ft (pc := 48) tb_Mo_guess 30 rfl) (by decide) (hcan) (fun c48 => ?_) (fun c48 => ?_)
      · refine fg_iconst (fg_ft (pc := 69) tb_Mo_guess 41 rfl) ic_m1 ?_
        exact fg_iret (fg_ft (pc := 70) tb_Mo_guess 42 rfl) rfl rfl (fg_q (hQ _ (fg_agR_A ha1)) (by unfold an_guess; rw [fg_g1_some y4 y5] <;> (rw [if_pos (show what < 3 by omega)]; have h64 : 2 ^ A.ts town 5 ≤ 64 := Nat.pow_le_pow_right (n := 2) (by decide) (show A.ts town 5 ≤ 6 by omega); first | (rw [if_neg (show ¬ can < 2 ^ A.ts town 5 by omega)]; done) | (split; (rw [if_neg (show ¬ cannot < 2 ^ A.ts town 5 by omega)]); rfl) | (split; (split; (rename_i g1 g2; exact absurd (fg_df0.mpr (fg_le_all.mpr (fg_or_lt g1 g2))) c66); rfl); rfl))))
      · refine fg_iload (fg_ft (pc := 51) tb_Mo_guess 31 rfl) rfl ?_
        refine fg_if_ltW (tgt := 69) (fg_ft (pc := 53) tb_Mo_guess 32 rfl) (by decide) (hcannot) (fun c53 => ?_) (fun c53 => ?_)
        · refine fg_iconst (fg_ft (pc := 69) tb_Mo_guess 41 rfl) ic_m1 ?_
          exact fg_iret (fg_ft (pc := 70) tb_Mo_guess 42 rfl) rfl rfl (fg_q (hQ _ (fg_agR_A ha1)) (by unfold an_guess; rw [fg_g1_some y4 y5] <;> (rw [if_pos (show what < 3 by omega)]; have h64 : 2 ^ A.ts town 5 ≤ 64 := Nat.pow_le_pow_right (n := 2) (by decide) (show A.ts town 5 ≤ 6 by omega); first | (rw [if_neg (show ¬ can < 2 ^ A.ts town 5 by omega)]; done) | (split; (rw [if_neg (show ¬ cannot < 2 ^ A.ts town 5 by omega)]); rfl) | (split; (split; (rename_i g1 g2; exact absurd (fg_df0.mpr (fg_le_all.mpr (fg_or_lt g1 g2))) c66); rfl); rfl))))
        · have hor : can ||| cannot < 2 ^ 31 := Nat.or_lt_two_pow (by omega) (by omega)
          have hdfo : fg_df (can ||| cannot) (2 ^ A.ts town 5 - 1) < 2 ^ 31 := fg_df_le31 hor
          refine fg_iload (fg_ft (pc := 56) tb_Mo_guess 33 rfl) rfl ?_
          refine fg_iload (fg_ft (pc := 58) tb_Mo_guess 34 rfl) rfl ?_
          refine fg_iorN (fg_ft (pc := 60) tb_Mo_guess 35 rfl) ?_
          refine fg_iload (fg_ft (pc := 61) tb_Mo_guess 36 rfl) rfl ?_
          refine fg_iconst (fg_ft (pc := 63) tb_Mo_guess 37 rfl) ic_m1 ?_
          refine fg_ixor (fg_ft (pc := 64) tb_Mo_guess 38 rfl) ?_
          refine fg_iandD (fg_ft (pc := 65) tb_Mo_guess 39 rfl) ?_
          refine fg_if_eqN (tgt := 71) (fg_ft (pc := 66) tb_Mo_guess 40 rfl) (by decide) (by omega) (fun c66 => ?_) (fun c66 => ?_)
          · have h64 : 2 ^ A.ts town 5 ≤ 64 := Nat.pow_le_pow_right (n := 2) (by decide) (show A.ts town 5 ≤ 6 by omega)
            have hcn : can ||| cannot < 2 ^ A.ts town 5 := fg_le_all.mp (fg_df0.mp c66)
            have hcT : can < 2 ^ A.ts town 5 := fg_le_lt (fg_le_or1 can cannot) hcn
            have hnT : cannot < 2 ^ A.ts town 5 := fg_le_lt (fg_le_or2 can cannot) hcn
            have hpcm := fg_pc_le (S.2.1.1 person)
            refine fg_iconst (fg_ft (pc := 71) tb_Mo_guess 43 rfl) ic_m1 ?_
            refine fg_istore (fg_ft (pc := 72) tb_Mo_guess 44 rfl) (Nat.le_of_ble_eq_true rfl) ?_
            refine fg_iconst (fg_ft (pc := 74) tb_Mo_guess 45 rfl) ic_0 ?_
            refine fg_istore (fg_ft (pc := 75) tb_Mo_guess 46 rfl) (Nat.le_of_ble_eq_true rfl) ?_
            refine fg_iconst (fg_ft (pc := 77) tb_Mo_guess 47 rfl) ic_0 ?_
            refine fg_istore (fg_ft (pc := 78) tb_Mo_guess 48 rfl) (Nat.le_of_ble_eq_true rfl) ?_
            refine fg_iconst (fg_ft (pc := 80) tb_Mo_guess 49 rfl) ic_0 ?_
            refine fg_istore (fg_ft (pc := 81) tb_Mo_guess 50 rfl) (Nat.le_of_ble_eq_true rfl) ?_
            have loop : ∀ (m q M p w : Nat) (v14 v15 v16 : Value), (S.2.1.1 person) + 1 - q < m → q ≤ (S.2.1.1 person) + 1 → M ≤ 13 → fg_le w (S.2.1.1 person) → fg_ub (fg_gF (A.ts town) can cannot (S.2.1.1 person)) q (0, 0, 0) = (M, p, w) → fg_wp E yy_Mo_guess (d + 12) 304 304 Q 83 [.ref 287, .int (nI town), .int (nI day), .int (nI n), .int (nI person), .int (nI can), .int (nI cannot), .int (nI what), .int (nI (610 + 152 * town)), .int (nI ((2 ^ ((A.ts town) 5)) - 1)), .int (fg_mo M), .int (nI p), .int (nI w), .int (nI q), v14, v15, v16] [] (μ1, fg_rho R, 304) := by
              intro m
              induction m with
              | zero => intro q M p w v14 v15 v16 h; exact absurd h (Nat.not_lt_zero _)
              | succ m ih =>
                intro q M p w v14 v15 v16 hm hq hM hwm hub
                have hpq := fg_pc_le q
                refine fg_iload (fg_ft (pc := 83) tb_Mo_guess 51 rfl) rfl ?_
                refine fg_aloadn (fg_ft (pc := 85) tb_Mo_guess 52 rfl) rfl ?_
                refine fg_getR (fg_ft (pc := 86) tb_Mo_guess 53 rfl) ff_Mo_23 ly_287 rfl (fg_lt ly_287 (by decide)) (rh_287_12 R) ?_
                refine fg_iload (fg_ft (pc := 89) tb_Mo_guess 54 rfl) rfl ?_
                refine fg_ialdV (v := (nI (S.2.1.1 person))) (fg_ft (pc := 91) tb_Mo_guess 55 rfl) ly_292 (fg_lt ly_292 (by decide)) (by omega) (hS1.2.1 _ (by omega)) ?_
                refine fg_icmp_gtN (tgt := 243) (fg_ft (pc := 92) tb_Mo_guess 56 rfl) (by decide) (by omega) (by omega) (fun c92 => ?_) (fun c92 => ?_)
                · have hgs : (fg_gs (A.ts town) can cannot (S.2.1.1 person)) = (M, p, w) := by rw [fg_gs_ub, show (S.2.1.1 person) + 1 = q by omega]; exact hub
                  refine fg_iload (fg_ft (pc := 243) tb_Mo_guess 132 rfl) rfl ?_
                  refine fg_if_ge (tgt := 250) (fg_ft (pc := 245) tb_Mo_guess 133 rfl) (by decide) (fun c245 => ?_) (fun c245 => ?_)
                  · refine fg_iload (fg_ft (pc := 250) tb_Mo_guess 136 rfl) rfl ?_
                    refine fg_if_neW (tgt := 271) (fg_ft (pc := 252) tb_Mo_guess 137 rfl) (by decide) (hwhat) (fun c252 => ?_) (fun c252 => ?_)
                    · refine fg_iload (fg_ft (pc := 271) tb_Mo_guess 146 rfl) rfl ?_
                      refine fg_iconst (fg_ft (pc := 273) tb_Mo_guess 147 rfl) ic_1 ?_
                      refine fg_icmp_neW (tgt := 282) (fg_ft (pc := 274) tb_Mo_guess 148 rfl) (by decide) (hwhat) (by decide) (fun c274 => ?_) (fun c274 => ?_)
                      · refine fg_iload (fg_ft (pc := 282) tb_Mo_guess 151 rfl) rfl ?_
                        exact fg_iret (fg_ft (pc := 284) tb_Mo_guess 152 rfl) rfl rfl (fg_q (hQ _ (fg_agR_A ha1)) (by unfold an_guess; rw [fg_g1_some y4 y5] <;> (rw [if_pos (show what < 3 by omega), if_pos hcT, if_pos hnT, hgs]; dsimp only; first | (rw [if_pos ((fg_mo_neg (by omega)).mp c245)]; done) | (rw [if_neg (show ¬ M = 0 from fun z => (fg_mo_neg (by omega)).mpr z c245), if_pos c252]; done) | (rw [if_neg (show ¬ M = 0 from fun z => (fg_mo_neg (by omega)).mpr z c245), if_neg c252, if_pos c274]; done) | (rw [if_neg (show ¬ M = 0 from fun z => (fg_mo_neg (by omega)).mpr z c245), if_neg c252, if_neg c274]; done))))
                      · refine fg_iload (fg_ft (pc := 277) tb_Mo_guess 149 rfl) rfl ?_
                        refine fg_goto (tgt := 284) (fg_ft (pc := 279) tb_Mo_guess 150 rfl) (by decide) ?_
                        exact fg_iret (fg_ft (pc := 284) tb_Mo_guess 152 rfl) rfl rfl (fg_q (hQ _ (fg_agR_A ha1)) (by unfold an_guess; rw [fg_g1_some y4 y5] <;> (rw [if_pos (show what < 3 by omega), if_pos hcT, if_pos hnT, hgs]; dsimp only; first | (rw [if_pos ((fg_mo_neg (by omega)).mp c245)]; done) | (rw [if_neg (show ¬ M = 0 from fun z => (fg_mo_neg (by omega)).mpr z c245), if_pos c252]; done) | (rw [if_neg (show ¬ M = 0 from fun z => (fg_mo_neg (by omega)).mpr z c245), if_neg c252, if_pos c274]; done) | (rw [if_neg (show ¬ M = 0 from fun z => (fg_mo_neg (by omega)).mpr z c245), if_neg c252, if_neg c274]; done))))
                    · refine fg_aloadn (fg_ft (pc := 255) tb_Mo_guess 138 rfl) rfl ?_
                      refine fg_getR (fg_ft (pc := 256) tb_Mo_guess 139 rfl) ff_Mo_23 ly_287 rfl (fg_lt ly_287 (by decide)) (rh_287_12 R) ?_
                      refine fg_iload (fg_ft (pc := 259) tb_Mo_guess 140 rfl) rfl ?_
                      refine fg_ialdV (v := (nI (S.2.1.1 person))) (fg_ft (pc := 261) tb_Mo_guess 141 rfl) ly_292 (fg_lt ly_292 (by decide)) (by omega) (hS1.2.1 _ (by omega)) ?_
                      refine fg_callS (fg_ft (pc := 262) tb_Mo_guess 142 rfl) cf_Mo_185 (as := [.int (nI (S.2.1.1 person))]) (st := []) rfl rfl (Nat.le_of_ble_eq_true rfl) (Nat.le_refl _) (Nat.le_refl _) (ev_Mo_many (s := (S.2.1.1 person)) (by omega) ?_)
                      refine fg_iload (fg_ft (pc := 265) tb_Mo_guess 143 rfl) rfl ?_
                      refine fg_isub (fg_ft (pc := 267) tb_Mo_guess 144 rfl) ?_
                      refine fg_goto (tgt := 284) (fg_ft (pc := 268) tb_Mo_guess 145 rfl) (by decide) ?_
                      exact fg_iret (fg_ft (pc := 284) tb_Mo_guess 152 rfl) rfl rfl (fg_q (hQ _ (fg_agR_A ha1)) (by unfold an_guess; rw [fg_g1_some y4 y5] <;> (rw [if_pos (show what < 3 by omega), if_pos hcT, if_pos hnT, hgs]; dsimp only; first | (rw [if_pos ((fg_mo_neg (by omega)).mp c245)]; done) | (rw [if_neg (show ¬ M = 0 from fun z => (fg_mo_neg (by omega)).mpr z c245), if_pos c252]; done) | (rw [if_neg (show ¬ M = 0 from fun z => (fg_mo_neg (by omega)).mpr z c245), if_neg c252, if_pos c274]; done) | (rw [if_neg (show ¬ M = 0 from fun z => (fg_mo_neg (by omega)).mpr z c245), if_neg c252, if_neg c274]; done))))
                  · refine fg_iconst (fg_ft (pc := 248) tb_Mo_guess 134 rfl) ic_m1 ?_
                    exact fg_iret (fg_ft (pc := 249) tb_Mo_guess 135 rfl) rfl rfl (fg_q (hQ _ (fg_agR_A ha1)) (by unfold an_guess; rw [fg_g1_some y4 y5] <;> (rw [if_pos (show what < 3 by omega), if_pos hcT, if_pos hnT, hgs]; dsimp only; first | (rw [if_pos ((fg_mo_neg (by omega)).mp c245)]; done) | (rw [if_neg (show ¬ M = 0 from fun z => (fg_mo_neg (by omega)).mpr z c245), if_pos c252]; done) | (rw [if_neg (show ¬ M = 0 from fun z => (fg_mo_neg (by omega)).mpr z c245), if_neg c252, if_pos c274]; done) | (rw [if_neg (show ¬ M = 0 from fun z => (fg_mo_neg (by omega)).mpr z c245), if_neg c252, if_neg c274]; done))))
                · refine fg_iload (fg_ft (pc := 95) tb_Mo_guess 57 rfl) rfl ?_
                  refine fg_aloadn (fg_ft (pc := 97) tb_Mo_guess 58 rfl) rfl ?_
                  refine fg_getR (fg_ft (pc := 98) tb_Mo_guess 59 rfl) ff_Mo_23 ly_287 rfl (fg_lt ly_287 (by decide)) (rh_287_12 R) ?_
                  refine fg_iload (fg_ft (pc := 101) tb_Mo_guess 60 rfl) rfl ?_
                  refine fg_ialdV (v := (nI (S.2.1.1 person))) (fg_ft (pc := 103) tb_Mo_guess 61 rfl) ly_292 (fg_lt ly_292 (by decide)) (by omega) (hS1.2.1 _ (by omega)) ?_
                  refine fg_iconst (fg_ft (pc := 104) tb_Mo_guess 62 rfl) ic_m1 ?_
                  refine fg_ixor (fg_ft (pc := 105) tb_Mo_guess 63 rfl) ?_
                  refine fg_iandD (fg_ft (pc := 106) tb_Mo_guess 64 rfl) ?_
                  refine fg_if_neN (tgt := 237) (fg_ft (pc := 107) tb_Mo_guess 65 rfl) (by decide) (fg_df_le31 (by omega)) (fun c107 => ?_) (fun c107 => ?_)
                  · refine fg_iincN (fg_ft (pc := 237) tb_Mo_guess 130 rfl) rfl ic_1 rfl ?_
                    refine fg_goto (tgt := 83) (fg_ft (pc := 240) tb_Mo_guess 131 rfl) (by decide) ?_
                    exact ih (q + 1) M p w _ _ _ (by omega) (by omega) hM hwm (by show fg_gF (A.ts town) can cannot (S.2.1.1 person) q _ = _; rw [hub]; exact fg_gF_0 (by first | exact Or.inl (fun hh => c107 (fg_df0.mpr hh)) | exact Or.inr (Or.inl (fun hh => c117 hh.1)) | exact Or.inr (Or.inl (fun hh => c143 hh.2.1)) | exact Or.inr (Or.inl (fun hh => c151 hh.2.2)) | exact Or.inr (Or.inr (by have z9 := mt (fg_mo_le (M := M) (z := fg_pc q) (by omega) (by omega)).mpr; have z8 := (fg_mo_lt (M := M) (z := fg_pc q) (by omega) (by omega)).mp (Int32.not_le.mp c161); exact z8)))) 
                  · have hq0 : q < 2 ^ A.ts town 0 := fg_le_lt (fg_df0.mp c107) hm0
                    refine fg_aloadn (fg_ft (pc := 110) tb_Mo_guess 66 rfl) rfl ?_
                    refine fg_getR (fg_ft (pc := 111) tb_Mo_guess 67 rfl) ff_Mo_20 ly_287 rfl (fg_lt ly_287 (by decide)) (rh_287_11 R) ?_
                    refine fg_iload (fg_ft (pc := 114) tb_Mo_guess 68 rfl) rfl ?_
                    refine fg_zaldV (v := (fg_bI (fg_clsd (A.ts town) q))) (fg_ft (pc := 116) tb_Mo_guess 69 rfl) ly_291 (fg_lt ly_291 (by decide)) (by omega) (hC1 q (by omega)) ?_
                    refine fg_ifB_ne (tgt := 123) (fg_ft (pc := 117) tb_Mo_guess 70 rfl) (by decide) (fun c117 => ?_) (fun c117 => ?_)
                    · refine fg_aloadn (fg_ft (pc := 123) tb_Mo_guess 72 rfl) rfl ?_
                      refine fg_iload (fg_ft (pc := 124) tb_Mo_guess 73 rfl) rfl ?_
                      refine fg_iconst (fg_ft (pc := 126) tb_Mo_guess 74 rfl) ic_5 ?_
                      refine fg_bipush (fg_ft (pc := 127) tb_Mo_guess 75 rfl) ib_127 ?_
                      refine fg_iload (fg_ft (pc := 129) tb_Mo_guess 76 rfl) rfl ?_
                      refine fg_callV (fg_ft (pc := 131) tb_Mo_guess 77 rfl) cf_Mo_262 (fg_isOf ly_287 rfl (fg_lt ly_287 (by decide))) (as := [.int (nI (610 + 152 * town)), .int (nI 5), .int (nI 127), .int (nI q)]) (st := []) rfl rfl (Nat.le_of_ble_eq_true rfl) (Nat.le_refl _) (Nat.le_refl _) (ev_Mo_fullOfS hM1 hok (m := q) (by omega) ?_)
                      refine fg_istore (fg_ft (pc := 134) tb_Mo_guess 78 rfl) (Nat.le_of_ble_eq_true rfl) ?_
                      refine fg_iload (fg_ft (pc := 136) tb_Mo_guess 79 rfl) rfl ?_
                      refine fg_iload (fg_ft (pc := 138) tb_Mo_guess 80 rfl) rfl ?_
                      refine fg_iconst (fg_ft (pc := 140) tb_Mo_guess 81 rfl) ic_m1 ?_
                      refine fg_ixor (fg_ft (pc := 141) tb_Mo_guess 82 rfl) ?_
                      refine fg_iandD (fg_ft (pc := 142) tb_Mo_guess 83 rfl) ?_
                      refine fg_if_neN (tgt := 237) (fg_ft (pc := 143) tb_Mo_guess 84 rfl) (by decide) (fg_df_le31 (by omega)) (fun c143 => ?_) (fun c143 => ?_)
                      · refine fg_iincN (fg_ft (pc := 237) tb_Mo_guess 130 rfl) rfl ic_1 rfl ?_
                        refine fg_goto (tgt := 83) (fg_ft (pc := 240) tb_Mo_guess 131 rfl) (by decide) ?_
                        exact ih (q + 1) M p w _ _ _ (by omega) (by omega) hM hwm (by show fg_gF (A.ts town) can cannot (S.2.1.1 person) q _ = _; rw [hub]; exact fg_gF_0 (by first | exact Or.inl (fun hh => c107 (fg_df0.mpr hh)) | exact Or.inr (Or.inl (fun hh => c117 hh.1)) | exact Or.inr (Or.inl (fun hh => c143 hh.2.1)) | exact Or.inr (Or.inl (fun hh => c151 hh.2.2)) | exact Or.inr (Or.inr (by have z9 := mt (fg_mo_le (M := M) (z := fg_pc q) (by omega) (by omega)).mpr; have z8 := (fg_mo_lt (M := M) (z := fg_pc q) (by omega) (by omega)).mp (Int32.not_le.mp c161); exact z8)))) 
                      · refine fg_iload (fg_ft (pc := 146) tb_Mo_guess 85 rfl) rfl ?_
                        refine fg_iload (fg_ft (pc := 148) tb_Mo_guess 86 rfl) rfl ?_
                        refine fg_iandN (fg_ft (pc := 150) tb_Mo_guess 87 rfl) ?_
                        refine fg_if_neN (tgt := 237) (fg_ft (pc := 151) tb_Mo_guess 88 rfl) (by decide) (Nat.lt_of_le_of_lt Nat.and_le_left (by omega)) (fun c151 => ?_) (fun c151 => ?_)
                        · refine fg_iincN (fg_ft (pc := 237) tb_Mo_guess 130 rfl) rfl ic_1 rfl ?_
                          refine fg_goto (tgt := 83) (fg_ft (pc := 240) tb_Mo_guess 131 rfl) (by decide) ?_
                          exact ih (q + 1) M p w _ _ _ (by omega) (by omega) hM hwm (by show fg_gF (A.ts town) can cannot (S.2.1.1 person) q _ = _; rw [hub]; exact fg_gF_0 (by first | exact Or.inl (fun hh => c107 (fg_df0.mpr hh)) | exact Or.inr (Or.inl (fun hh => c117 hh.1)) | exact Or.inr (Or.inl (fun hh => c143 hh.2.1)) | exact Or.inr (Or.inl (fun hh => c151 hh.2.2)) | exact Or.inr (Or.inr (by have z9 := mt (fg_mo_le (M := M) (z := fg_pc q) (by omega) (by omega)).mpr; have z8 := (fg_mo_lt (M := M) (z := fg_pc q) (by omega) (by omega)).mp (Int32.not_le.mp c161); exact z8)))) 
                        · refine fg_iload (fg_ft (pc := 154) tb_Mo_guess 89 rfl) rfl ?_
                          refine fg_callS (fg_ft (pc := 156) tb_Mo_guess 90 rfl) cf_Mo_185 (as := [.int (nI q)]) (st := []) rfl rfl (Nat.le_of_ble_eq_true rfl) (Nat.le_refl _) (Nat.le_refl _) (ev_Mo_many (s := q) (by omega) ?_)
                          refine fg_iload (fg_ft (pc := 159) tb_Mo_guess 91 rfl) rfl ?_
                          refine fg_icmp_ge (tgt := 167) (fg_ft (pc := 161) tb_Mo_guess 92 rfl) (by decide) (fun c161 => ?_) (fun c161 => ?_)
                          · refine fg_aloadn (fg_ft (pc := 167) tb_Mo_guess 94 rfl) rfl ?_
                            refine fg_getR (fg_ft (pc := 168) tb_Mo_guess 95 rfl) ff_Mo_23 ly_287 rfl (fg_lt ly_287 (by decide)) (rh_287_12 R) ?_
                            refine fg_iload (fg_ft (pc := 171) tb_Mo_guess 96 rfl) rfl ?_
                            refine fg_ialdV (v := (nI (S.2.1.1 person))) (fg_ft (pc := 173) tb_Mo_guess 97 rfl) ly_292 (fg_lt ly_292 (by decide)) (by omega) (hS1.2.1 _ (by omega)) ?_
                            refine fg_iload (fg_ft (pc := 174) tb_Mo_guess 98 rfl) rfl ?_
                            refine fg_iconst (fg_ft (pc := 176) tb_Mo_guess 99 rfl) ic_m1 ?_
                            refine fg_ixor (fg_ft (pc := 177) tb_Mo_guess 100 rfl) ?_
                            refine fg_iandD (fg_ft (pc := 178) tb_Mo_guess 101 rfl) ?_
                            refine fg_istore (fg_ft (pc := 179) tb_Mo_guess 102 rfl) (Nat.le_of_ble_eq_true rfl) ?_
                            refine fg_iload (fg_ft (pc := 181) tb_Mo_guess 103 rfl) rfl ?_
                            refine fg_callS (fg_ft (pc := 183) tb_Mo_guess 104 rfl) cf_Mo_185 (as := [.int (nI q)]) (st := []) rfl rfl (Nat.le_of_ble_eq_true rfl) (Nat.le_refl _) (Nat.le_refl _) (ev_Mo_many (s := q) (by omega) ?_)
                            refine fg_iload (fg_ft (pc := 186) tb_Mo_guess 105 rfl) rfl ?_
                            refine fg_icmp_le (tgt := 195) (fg_ft (pc := 188) tb_Mo_guess 106 rfl) (by decide) (fun c188 => ?_) (fun c188 => ?_)
                            · refine fg_iconst (fg_ft (pc := 195) tb_Mo_guess 109 rfl) ic_0 ?_
                              refine fg_istore (fg_ft (pc := 196) tb_Mo_guess 110 rfl) (Nat.le_of_ble_eq_true rfl) ?_
                              refine fg_iload (fg_ft (pc := 198) tb_Mo_guess 111 rfl) rfl ?_
                              refine fg_if_eq (tgt := 208) (fg_ft (pc := 200) tb_Mo_guess 112 rfl) (by decide) (fun _ => ?_) (fun h => absurd h (by decide))
                              refine fg_iload (fg_ft (pc := 208) tb_Mo_guess 115 rfl) rfl ?_
                              refine fg_iload (fg_ft (pc := 210) tb_Mo_guess 116 rfl) rfl ?_
                              refine fg_iandN (fg_ft (pc := 212) tb_Mo_guess 117 rfl) ?_
                              refine fg_istore (fg_ft (pc := 213) tb_Mo_guess 118 rfl) (Nat.le_of_ble_eq_true rfl) ?_
                              refine fg_iload (fg_ft (pc := 215) tb_Mo_guess 119 rfl) rfl ?_
                              refine fg_if_eq (tgt := 224) (fg_ft (pc := 217) tb_Mo_guess 120 rfl) (by decide) (fun _ => ?_) (fun h => absurd h (by decide))
                              refine fg_iload (fg_ft (pc := 224) tb_Mo_guess 123 rfl) rfl ?_
                              refine fg_iconst (fg_ft (pc := 226) tb_Mo_guess 124 rfl) ic_1 ?_
                              refine fg_iaddN (fg_ft (pc := 227) tb_Mo_guess 125 rfl) ?_
                              refine fg_istore (fg_ft (pc := 228) tb_Mo_guess 126 rfl) (Nat.le_of_ble_eq_true rfl) ?_
                              refine fg_iload (fg_ft (pc := 230) tb_Mo_guess 127 rfl) rfl ?_
                              refine fg_callS (fg_ft (pc := 232) tb_Mo_guess 128 rfl) cf_Mo_185 (as := [.int (nI q)]) (st := []) rfl rfl (Nat.le_of_ble_eq_true rfl) (Nat.le_refl _) (Nat.le_refl _) (ev_Mo_many (s := q) (by omega) ?_)
                              refine fg_istore (fg_ft (pc := 235) tb_Mo_guess 129 rfl) (Nat.le_of_ble_eq_true rfl) ?_
                              refine fg_iincN (fg_ft (pc := 237) tb_Mo_guess 130 rfl) rfl ic_1 rfl ?_
                              refine fg_goto (tgt := 83) (fg_ft (pc := 240) tb_Mo_guess 131 rfl) (by decide) ?_
                              have hge : M ≤ fg_pc q + 1 := by
                                have z8 := mt (fg_mo_lt (M := M) (z := fg_pc q) (by omega) (by omega)).mpr (Int32.not_lt.mpr c161)
                                omega
                              have hgt : ¬ M < fg_pc q + 1 := by
                                have z8 := (fg_mo_le (M := M) (z := fg_pc q) (by omega) (by omega)).mp c188
                                omega
                              exact ih (q + 1) (fg_pc q + 1) (p + 1) (w &&& (fg_df (S.2.1.1 person) q)) _ _ _ (by omega) (by omega) (by omega) (fg_le_tr (by rw [fg_and_df hwm]; exact fg_df_le _ _) hwm) (by show fg_gF (A.ts town) can cannot (S.2.1.1 person) q _ = _; rw [hub, fg_gF_1 (fg_df0.mp c107) ⟨c117, c143, c151⟩ hge]; dsimp only; rw [if_neg hgt, if_neg hgt]; rw [fg_and_df hwm])
                            · refine fg_iconst (fg_ft (pc := 191) tb_Mo_guess 107 rfl) ic_1 ?_
                              refine fg_goto (tgt := 196) (fg_ft (pc := 192) tb_Mo_guess 108 rfl) (by decide) ?_
                              refine fg_istore (fg_ft (pc := 196) tb_Mo_guess 110 rfl) (Nat.le_of_ble_eq_true rfl) ?_
                              refine fg_iload (fg_ft (pc := 198) tb_Mo_guess 111 rfl) rfl ?_
                              refine fg_if_eq (tgt := 208) (fg_ft (pc := 200) tb_Mo_guess 112 rfl) (by decide) (fun h => absurd h (by decide)) (fun _ => ?_)
                              refine fg_iload (fg_ft (pc := 203) tb_Mo_guess 113 rfl) rfl ?_
                              refine fg_goto (tgt := 213) (fg_ft (pc := 205) tb_Mo_guess 114 rfl) (by decide) ?_
                              refine fg_istore (fg_ft (pc := 213) tb_Mo_guess 118 rfl) (Nat.le_of_ble_eq_true rfl) ?_
                              refine fg_iload (fg_ft (pc := 215) tb_Mo_guess 119 rfl) rfl ?_
                              refine fg_if_eq (tgt := 224) (fg_ft (pc := 217) tb_Mo_guess 120 rfl) (by decide) (fun h => absurd h (by decide)) (fun _ => ?_)
                              refine fg_iconst (fg_ft (pc := 220) tb_Mo_guess 121 rfl) ic_1 ?_
                              refine fg_goto (tgt := 228) (fg_ft (pc := 221) tb_Mo_guess 122 rfl) (by decide) ?_
                              refine fg_istore (fg_ft (pc := 228) tb_Mo_guess 126 rfl) (Nat.le_of_ble_eq_true rfl) ?_
                              refine fg_iload (fg_ft (pc := 230) tb_Mo_guess 127 rfl) rfl ?_
                              refine fg_callS (fg_ft (pc := 232) tb_Mo_guess 128 rfl) cf_Mo_185 (as := [.int (nI q)]) (st := []) rfl rfl (Nat.le_of_ble_eq_true rfl) (Nat.le_refl _) (Nat.le_refl _) (ev_Mo_many (s := q) (by omega) ?_)
                              refine fg_istore (fg_ft (pc := 235) tb_Mo_guess 129 rfl) (Nat.le_of_ble_eq_true rfl) ?_
                              refine fg_iincN (fg_ft (pc := 237) tb_Mo_guess 130 rfl) rfl ic_1 rfl ?_
                              refine fg_goto (tgt := 83) (fg_ft (pc := 240) tb_Mo_guess 131 rfl) (by decide) ?_
                              have hge : M ≤ fg_pc q + 1 := by
                                have z8 := mt (fg_mo_lt (M := M) (z := fg_pc q) (by omega) (by omega)).mpr (Int32.not_lt.mpr c161)
                                omega
                              have hgt : M < fg_pc q + 1 := by
                                have z8 := mt (fg_mo_le (M := M) (z := fg_pc q) (by omega) (by omega)).mpr c188
                                omega
                              exact ih (q + 1) (fg_pc q + 1) (1) (fg_df (S.2.1.1 person) q) _ _ _ (by omega) (by omega) (by omega) (fg_df_le _ _) (by show fg_gF (A.ts town) can cannot (S.2.1.1 person) q _ = _; rw [hub, fg_gF_1 (fg_df0.mp c107) ⟨c117, c143, c151⟩ hge]; dsimp only; rw [if_pos hgt, if_pos hgt])
                          · refine fg_goto (tgt := 237) (fg_ft (pc := 164) tb_Mo_guess 93 rfl) (by decide) ?_
                            refine fg_iincN (fg_ft (pc := 237) tb_Mo_guess 130 rfl) rfl ic_1 rfl ?_
                            refine fg_goto (tgt := 83) (fg_ft (pc := 240) tb_Mo_guess 131 rfl) (by decide) ?_
                            exact ih (q + 1) M p w _ _ _ (by omega) (by omega) hM hwm (by show fg_gF (A.ts town) can cannot (S.2.1.1 person) q _ = _; rw [hub]; exact fg_gF_0 (by first | exact Or.inl (fun hh => c107 (fg_df0.mpr hh)) | exact Or.inr (Or.inl (fun hh => c117 hh.1)) | exact Or.inr (Or.inl (fun hh => c143 hh.2.1)) | exact Or.inr (Or.inl (fun hh => c151 hh.2.2)) | exact Or.inr (Or.inr (by have z9 := mt (fg_mo_le (M := M) (z := fg_pc q) (by omega) (by omega)).mpr; have z8 := (fg_mo_lt (M := M) (z := fg_pc q) (by omega) (by omega)).mp (Int32.not_le.mp c161); exact z8)))) 
                    · refine fg_goto (tgt := 237) (fg_ft (pc := 120) tb_Mo_guess 71 rfl) (by decide) ?_
                      refine fg_iincN (fg_ft (pc := 237) tb_Mo_guess 130 rfl) rfl ic_1 rfl ?_
                      refine fg_goto (tgt := 83) (fg_ft (pc := 240) tb_Mo_guess 131 rfl) (by decide) ?_
                      exact ih (q + 1) M p w _ _ _ (by omega) (by omega) hM hwm (by show fg_gF (A.ts town) can cannot (S.2.1.1 person) q _ = _; rw [hub]; exact fg_gF_0 (by first | exact Or.inl (fun hh => c107 (fg_df0.mpr hh)) | exact Or.inr (Or.inl (fun hh => c117 hh.1)) | exact Or.inr (Or.inl (fun hh => c143 hh.2.1)) | exact Or.inr (Or.inl (fun hh => c151 hh.2.2)) | exact Or.inr (Or.inr (by have z9 := mt (fg_mo_le (M := M) (z := fg_pc q) (by omega) (by omega)).mpr; have z8 := (fg_mo_lt (M := M) (z := fg_pc q) (by omega) (by omega)).mp (Int32.not_le.mp c161); exact z8)))) 
            exact loop ((S.2.1.1 person) + 2) 0 0 0 0 _ _ _ (by omega) (by omega) (by decide) (fun i hi => absurd hi fg_z0) rfl
          · refine fg_iconst (fg_ft (pc := 69) tb_Mo_guess 41 rfl) ic_m1 ?_
            exact fg_iret (fg_ft (pc := 70) tb_Mo_guess 42 rfl) rfl rfl (fg_q (hQ _ (fg_agR_A ha1)) (by unfold an_guess; rw [fg_g1_some y4 y5] <;> (rw [if_pos (show what < 3 by omega)]; have h64 : 2 ^ A.ts town 5 ≤ 64 := Nat.pow_le_pow_right (n := 2) (by decide) (show A.ts town 5 ≤ 6 by omega); first | (rw [if_neg (show ¬ can < 2 ^ A.ts town 5 by omega)]; done) | (split; (rw [if_neg (show ¬ cannot < 2 ^ A.ts town 5 by omega)]); rfl) | (split; (split; (rename_i g1 g2; exact absurd (fg_df0.mpr (fg_le_all.mpr (fg_or_lt g1 g2))) c66); rfl); rfl))))
theorem ev_Mo_when {E : fg_E} {d : Nat} {μ : Nat → Nat → Int32} {R : fg_T4} {Q : Option Value → fg_M → Prop} {A : fg_Tl} (hL : fg_ML (μ 288) A) (hw : fg_wA A) (h17 : μ 287 17 = -1) (h19 : μ 287 19 = nI 0) {town day person fact : Nat} (htown : town < 2 ^ 32) (hday : day < 2 ^ 32) (hperson : person < 2 ^ 32) (hfact : fact < 2 ^ 32) (hQ : ∀ μ' : Nat → Nat → Int32, fg_agR μ μ' → Q (some (.int (an_when A town day person fact))) (μ', fg_rho R, 304)) : fg_Ev E yy_Mo_when (d + 12) [.ref 287, .int (nI town), .int (nI day), .int (nI person), .int (nI fact)] (μ, fg_rho R, 304) 304 Q := by
  have ht2 := hw.2.1
  have hd3 := hw.2.2.1
  refine fg_intro (by decide +kernel) (Nat.le_of_ble_eq_true rfl) (fg_okAs rfl) (Nat.le_refl _) ?_
  refine fg_aloadn (fg_ft (pc := 0) tb_Mo_when 0 rfl) rfl ?_
  refine fg_iconst (fg_ft (pc := 1) tb_Mo_when 1 rfl) ic_0 ?_
  refine fg_iloadn (fg_ft (pc := 2) tb_Mo_when 2 rfl) rfl ?_
  refine fg_callV (fg_ft (pc := 3) tb_Mo_when 3 rfl) cf_Mo_156 (fg_isOf ly_287 rfl (fg_lt ly_287 (by decide))) (as := [.int (nI 0), .int (nI town)]) (st := []) rfl rfl (Nat.le_of_ble_eq_true rfl) (Nat.le_refl _) (Nat.le_refl _) (ev_Mo_isOf0 hL hw (k := town) (htown) ?_)
  refine fg_ifB_eq (tgt := 45) (fg_ft (pc := 6) tb_Mo_when 4 rfl) (by decide) (fun c6 => ?_) (fun c6 => ?_)
  · refine fg_iconst (fg_ft (pc := 45) tb_Mo_when 24 rfl) ic_m1 ?_
    exact fg_iret (fg_ft (pc := 46) tb_Mo_when 25 rfl) rfl rfl (fg_q (hQ _ (fg_agR_rf μ)) (by unfold an_when; first | rw [if_neg c6] | rw [if_pos c6, if_neg c15] | rw [if_pos c6, if_pos c15, if_neg c28] | rw [if_pos c6, if_pos c15, if_pos c28, if_neg c42]))
  · refine fg_aloadn (fg_ft (pc := 9) tb_Mo_when 5 rfl) rfl ?_
    refine fg_iconst (fg_ft (pc := 10) tb_Mo_when 6 rfl) ic_1 ?_
    refine fg_iloadn (fg_ft (pc := 11) tb_Mo_when 7 rfl) rfl ?_
    refine fg_callV (fg_ft (pc := 12) tb_Mo_when 8 rfl) cf_Mo_156 (fg_isOf ly_287 rfl (fg_lt ly_287 (by decide))) (as := [.int (nI 1), .int (nI day)]) (st := []) rfl rfl (Nat.le_of_ble_eq_true rfl) (Nat.le_refl _) (Nat.le_refl _) (ev_Mo_isOf1 hL hw (k := day) (hday) ?_)
    refine fg_ifB_eq (tgt := 45) (fg_ft (pc := 15) tb_Mo_when 9 rfl) (by decide) (fun c15 => ?_) (fun c15 => ?_)
    · refine fg_iconst (fg_ft (pc := 45) tb_Mo_when 24 rfl) ic_m1 ?_
      exact fg_iret (fg_ft (pc := 46) tb_Mo_when 25 rfl) rfl rfl (fg_q (hQ _ (fg_agR_rf μ)) (by unfold an_when; first | rw [if_neg c6] | rw [if_pos c6, if_neg c15] | rw [if_pos c6, if_pos c15, if_neg c28] | rw [if_pos c6, if_pos c15, if_pos c28, if_neg c42]))
    · have hok := hw.2.2.2.1 town c6
      refine fg_aloadn (fg_ft (pc := 18) tb_Mo_when 10 rfl) rfl ?_
      refine fg_iconst (fg_ft (pc := 19) tb_Mo_when 11 rfl) ic_0 ?_
      refine fg_iloadn (fg_ft (pc := 20) tb_Mo_when 12 rfl) rfl ?_
      refine fg_callS (fg_ft (pc := 21) tb_Mo_when 13 rfl) cf_Mo_166 (as := [.int (nI 0), .int (nI town)]) (st := [.ref 287]) rfl rfl (Nat.le_of_ble_eq_true rfl) (Nat.le_refl _) (Nat.le_refl _) (ev_Mo_placeOf0 (k := town) ?_)
      refine fg_iloadn (fg_ft (pc := 24) tb_Mo_when 14 rfl) rfl ?_
      refine fg_callV (fg_ft (pc := 25) tb_Mo_when 15 rfl) cf_Mo_230 (fg_isOf ly_287 rfl (fg_lt ly_287 (by decide))) (as := [.int (nI (610 + 152 * town)), .int (nI person)]) (st := []) rfl rfl (Nat.le_of_ble_eq_true rfl) (Nat.le_refl _) (Nat.le_refl _) (ev_Mo_isPerson (hL.2.2.1 town c6) hok (k := person) (hperson) ?_)
      refine fg_ifB_eq (tgt := 45) (fg_ft (pc := 28) tb_Mo_when 16 rfl) (by decide) (fun c28 => ?_) (fun c28 => ?_)
      · refine fg_iconst (fg_ft (pc := 45) tb_Mo_when 24 rfl) ic_m1 ?_
        exact fg_iret (fg_ft (pc := 46) tb_Mo_when 25 rfl) rfl rfl (fg_q (hQ _ (fg_agR_rf μ)) (by unfold an_when; first | rw [if_neg c6] | rw [if_pos c6, if_neg c15] | rw [if_pos c6, if_pos c15, if_neg c28] | rw [if_pos c6, if_pos c15, if_pos c28, if_neg c42]))
      · refine fg_aloadn (fg_ft (pc := 31) tb_Mo_when 17 rfl) rfl ?_
        refine fg_iconst (fg_ft (pc := 32) tb_Mo_when 18 rfl) ic_0 ?_
        refine fg_iloadn (fg_ft (pc := 33) tb_Mo_when 19 rfl) rfl ?_
        refine fg_callS (fg_ft (pc := 34) tb_Mo_when 20 rfl) cf_Mo_166 (as := [.int (nI 0), .int (nI town)]) (st := [.ref 287]) rfl rfl (Nat.le_of_ble_eq_true rfl) (Nat.le_refl _) (Nat.le_refl _) (ev_Mo_placeOf0 (k := town) ?_)
        refine fg_iload (fg_ft (pc := 37) tb_Mo_when 21 rfl) rfl ?_
        refine fg_callV (fg_ft (pc := 39) tb_Mo_when 22 rfl) cf_Mo_233 (fg_isOf ly_287 rfl (fg_lt ly_287 (by decide))) (as := [.int (nI (610 + 152 * town)), .int (nI fact)]) (st := []) rfl rfl (Nat.le_of_ble_eq_true rfl) (Nat.le_refl _) (Nat.le_refl _) (ev_Mo_isFact (hL.2.2.1 town c6) hok (k := fact) (hfact) ?_)
        refine fg_ifB_ne (tgt := 47) (fg_ft (pc := 42) tb_Mo_when 23 rfl) (by decide) (fun c42 => ?_) (fun c42 => ?_)
        · have hok := hw.2.2.2.1 town c6
          have hM0 := hL.2.2.1 town c6
          have hdk := (hw.2.2.2.2 day c15).2
          have hn30 := (hw.2.2.2.2 day c15).1
          have hb0 := hok.1
          have hb1 := hok.2.1
          have hp := hok.p
          refine fg_iconst (fg_ft (pc := 47) tb_Mo_when 26 rfl) ic_0 ?_
          refine fg_iloadn (fg_ft (pc := 48) tb_Mo_when 27 rfl) rfl ?_
          refine fg_callS (fg_ft (pc := 49) tb_Mo_when 28 rfl) cf_Mo_166 (as := [.int (nI 0), .int (nI town)]) (st := []) rfl rfl (Nat.le_of_ble_eq_true rfl) (Nat.le_refl _) (Nat.le_refl _) (ev_Mo_placeOf0 (k := town) ?_)
          refine fg_istore (fg_ft (pc := 52) tb_Mo_when 29 rfl) (Nat.le_of_ble_eq_true rfl) ?_
          refine fg_iconst (fg_ft (pc := 54) tb_Mo_when 30 rfl) ic_1 ?_
          refine fg_iloadn (fg_ft (pc := 55) tb_Mo_when 31 rfl) rfl ?_
          refine fg_callS (fg_ft (pc := 56) tb_Mo_when 32 rfl) cf_Mo_166 (as := [.int (nI 1), .int (nI day)]) (st := []) rfl rfl (Nat.le_of_ble_eq_true rfl) (Nat.le_refl _) (Nat.le_refl _) (ev_Mo_placeOf1 (k := day) ?_)
          refine fg_istore (fg_ft (pc := 59) tb_Mo_when 33 rfl) (Nat.le_of_ble_eq_true rfl) ?_
          refine fg_aloadn (fg_ft (pc := 61) tb_Mo_when 34 rfl) rfl ?_
          refine fg_iload (fg_ft (pc := 62) tb_Mo_when 35 rfl) rfl ?_
          refine fg_callV (fg_ft (pc := 64) tb_Mo_when 36 rfl) cf_Mo_240 (fg_isOf ly_287 rfl (fg_lt ly_287 (by decide))) (as := [.int (nI (610 + 152 * town))]) (st := []) rfl rfl (Nat.le_of_ble_eq_true rfl) (Nat.le_refl _) (Nat.le_refl _) (ev_Mo_anew hM0 hok h17 h19 ?_)
          intro μ1 n1 y1 ha1 hC1 hS1
          have hM1 := hM0.ag ha1.m
          have hz := fg_runs_ok hok (D := A.ds day) 0 _ _ rfl
          show fg_wp _ _ _ _ _ _ _ _ _ (μ1, fg_rho R, 304)
          refine fg_aloadn (fg_ft (pc := 67) tb_Mo_when 37 rfl) rfl ?_
          refine fg_iloadn (fg_ft (pc := 68) tb_Mo_when 38 rfl) rfl ?_
          refine fg_iload (fg_ft (pc := 69) tb_Mo_when 39 rfl) rfl ?_
          refine fg_callV (fg_ft (pc := 71) tb_Mo_when 40 rfl) cf_Mo_212 (fg_isOf ly_287 rfl (fg_lt ly_287 (by decide))) (as := [.int (nI person), .int (nI fact)]) (st := []) rfl rfl (Nat.le_of_ble_eq_true rfl) (Nat.le_refl _) (Nat.le_refl _) (ev_Mo_knows (Mv := (fg_S0 (A.ts town)).2.1.1) (T := (A.ts town)) (hS1.2.1) (p := person) (f := fact) (by omega) (by omega) (fg_km hok hz (by omega)) ?_)
          refine fg_istore (fg_ft (pc := 74) tb_Mo_when 41 rfl) (Nat.le_of_ble_eq_true rfl) ?_
          refine fg_iconst (fg_ft (pc := 76) tb_Mo_when 42 rfl) ic_0 ?_
          refine fg_istore (fg_ft (pc := 77) tb_Mo_when 43 rfl) (Nat.le_of_ble_eq_true rfl) ?_
          have loop : ∀ (m k : Nat) (S : fg_H3) (lv : Nat → Nat) (ν : Nat → Nat → Int32) (n2 : Int32), A.nd day - k < m → k ≤ A.nd day → fg_agA μ ν → fg_MC ν (A.ts town) → fg_runs (A.ts town) (A.ds day) k = some (S, lv) → fg_MS ν (A.ts town) S lv ((none : Option Nat), 0, 0) n2 y1 → (∀ b, b < k → ¬ fg_whP (A.ts town) (A.ds day) person fact b) → fg_wp E yy_Mo_when (d + 12) 304 304 Q 79 [.ref 287, .int (nI town), .int (nI day), .int (nI person), .int (nI fact), .int (nI (610 + 152 * town)), .int (nI (914 + 122 * day)), .int (fg_bI ((S.2.1.1 person).testBit fact = true)), .int (nI k)] [] (ν, fg_rho R, 304) := by
            intro m
            induction m with
            | zero => intro k S lv ν n2 h; exact absurd h (Nat.not_lt_zero _)
            | succ m ih =>
              intro k S lv ν n2 hm hk hag hCn hrun hN hno
              have hMn := hM0.ag hag.m
              have hLn := hL.ag hag.m
              have hnd := (hLn.2.2.2 day c15).1
              have hcell := (hLn.2.2.2 day c15).2
              have hzn := fg_runs_ok hok k S lv hrun
              refine fg_iload (fg_ft (pc := 79) tb_Mo_when 44 rfl) rfl ?_
              refine fg_aloadn (fg_ft (pc := 81) tb_Mo_when 45 rfl) rfl ?_
              refine fg_getR (fg_ft (pc := 82) tb_Mo_when 46 rfl) ff_Mo_7 ly_287 rfl (fg_lt ly_287 (by decide)) (rh_287_0 R) ?_
              refine fg_iload (fg_ft (pc := 85) tb_Mo_when 47 rfl) rfl ?_
              refine fg_ialdV (v := (nI (A.nd day))) (fg_ft (pc := 87) tb_Mo_when 48 rfl) ly_288 (fg_lt ly_288 (by decide)) (by omega) hnd ?_
              refine fg_icmp_geN (tgt := 142) (fg_ft (pc := 88) tb_Mo_when 49 rfl) (by decide) (by omega) (by omega) (fun c88 => ?_) (fun c88 => ?_)
              · refine fg_iconst (fg_ft (pc := 142) tb_Mo_when 77 rfl) ic_m1 ?_
                exact fg_iret (fg_ft (pc := 143) tb_Mo_when 78 rfl) rfl rfl (fg_q (hQ _ (fg_agR_A hag)) (by unfold an_when; rw [if_pos c6, if_pos c15, if_pos c28, if_pos c42]; rw [fg_fst_none (A.nd day) (fun b hb => hno b (by omega))]; rfl))
              · refine fg_aloadn (fg_ft (pc := 91) tb_Mo_when 50 rfl) rfl ?_
                refine fg_iload (fg_ft (pc := 92) tb_Mo_when 51 rfl) rfl ?_
                refine fg_iload (fg_ft (pc := 94) tb_Mo_when 52 rfl) rfl ?_
                refine fg_iconst (fg_ft (pc := 96) tb_Mo_when 53 rfl) ic_1 ?_
                refine fg_iaddN (fg_ft (pc := 97) tb_Mo_when 54 rfl) ?_
                refine fg_iconst (fg_ft (pc := 98) tb_Mo_when 55 rfl) ic_4 ?_
                refine fg_iload (fg_ft (pc := 99) tb_Mo_when 56 rfl) rfl ?_
                refine fg_imulN (fg_ft (pc := 101) tb_Mo_when 57 rfl) ?_
                refine fg_iaddN (fg_ft (pc := 102) tb_Mo_when 58 rfl) ?_
                refine fg_callV (fg_ft (pc := 103) tb_Mo_when 59 rfl) cf_Mo_243 (fg_isOf ly_287 rfl (fg_lt ly_287 (by decide))) (as := [.int (nI (610 + 152 * town)), .int (nI (((914 + 122 * day) + 1) + (4 * k)))]) (st := []) rfl rfl (Nat.le_of_ble_eq_true rfl) (Nat.le_refl _) (Nat.le_refl _) (ev_Mo_does hMn hok hCn (h := S.1) (Z := S.2.1) (hv := S.2.2) (lv := lv) (o := ((none : Option Nat), 0, 0)) (n0 := n2) (y := y1) hN hzn (fun q hq => by cases hq) (by decide) (by decide) (dd := 914 + 122 * day + 1 + 4 * k) (by omega) (D := A.ds day) (k := k) (hdk.ac (by omega)) (fun i hi => by rw [show 914 + 122 * day + 1 + 4 * k + i = 914 + 122 * day + (1 + (k * 4 + i)) by omega]; exact hcell (k * 4 + i) (by omega)) (fun z0 => ?_) (fun S' lv' z1 μ2 n3 hag2 hN2 => ?_))
                · have zz := (fg_runs_some hrun).trans z0
                  refine fg_if_eq (tgt := 142) (fg_ft (pc := 106) tb_Mo_when 60 rfl) (by decide) (fun _ => ?_) (fun h => absurd h (by decide))
                  refine fg_iconst (fg_ft (pc := 142) tb_Mo_when 77 rfl) ic_m1 ?_
                  exact fg_iret (fg_ft (pc := 143) tb_Mo_when 78 rfl) rfl rfl (fg_q (hQ _ (fg_agR_A hag)) (by unfold an_when; rw [if_pos c6, if_pos c15, if_pos c28, if_pos c42]; rw [fg_fst_none (A.nd day) (fun b hb => (Nat.lt_or_ge b k).elim (hno b) (fg_wh_no zz b))]; rfl))
                · have zz := (fg_runs_some hrun).trans z1
                  have hM2 := hMn.agP hag2
                  have hC2 := hCn.agP hag2
                  have hz2 := fg_runs_ok hok (k + 1) S' lv' zz
                  refine fg_if_eq (tgt := 142) (fg_ft (pc := 106) tb_Mo_when 60 rfl) (by decide) (fun h => absurd h (by decide)) (fun _ => ?_)
                  refine fg_iload (fg_ft (pc := 109) tb_Mo_when 61 rfl) rfl ?_
                  refine fg_ifB_eq (tgt := 127) (fg_ft (pc := 111) tb_Mo_when 62 rfl) (by decide) (fun c111 => ?_) (fun c111 => ?_)
                  · refine fg_aloadn (fg_ft (pc := 127) tb_Mo_when 70 rfl) rfl ?_
                    refine fg_iloadn (fg_ft (pc := 128) tb_Mo_when 71 rfl) rfl ?_
                    refine fg_iload (fg_ft (pc := 129) tb_Mo_when 72 rfl) rfl ?_
                    refine fg_callV (fg_ft (pc := 131) tb_Mo_when 73 rfl) cf_Mo_212 (fg_isOf ly_287 rfl (fg_lt ly_287 (by decide))) (as := [.int (nI person), .int (nI fact)]) (st := []) rfl rfl (Nat.le_of_ble_eq_true rfl) (Nat.le_refl _) (Nat.le_refl _) (ev_Mo_knows (Mv := S'.2.1.1) (T := (A.ts town)) (hN2.2.1) (p := person) (f := fact) (by omega) (by omega) (fg_km hok hz2 (by omega)) ?_)
                    refine fg_istore (fg_ft (pc := 134) tb_Mo_when 74 rfl) (Nat.le_of_ble_eq_true rfl) ?_
                    refine fg_iincN (fg_ft (pc := 136) tb_Mo_when 75 rfl) rfl ic_1 rfl ?_
                    refine fg_goto (tgt := 79) (fg_ft (pc := 139) tb_Mo_when 76 rfl) (by decide) ?_
                    exact ih (k + 1) S' lv' μ2 n3 (by omega) (by omega) (fg_agA_tr hag (fg_agA_P hag2)) hC2 zz hN2 (fun b hb => by
                      rcases Nat.lt_or_ge b k with g | g
                      · exact hno b g
                      · obtain rfl : b = k := by omega
                        rintro ⟨S1, lv1, S2, lv2, w1, w2, w3, w4⟩
                        rw [hrun] at w1; cases w1
                        rw [zz] at w2; cases w2
                        first | exact c111 w3 | exact w4 c121)
                  · refine fg_aloadn (fg_ft (pc := 114) tb_Mo_when 63 rfl) rfl ?_
                    refine fg_iloadn (fg_ft (pc := 115) tb_Mo_when 64 rfl) rfl ?_
                    refine fg_iload (fg_ft (pc := 116) tb_Mo_when 65 rfl) rfl ?_
                    refine fg_callV (fg_ft (pc := 118) tb_Mo_when 66 rfl) cf_Mo_212 (fg_isOf ly_287 rfl (fg_lt ly_287 (by decide))) (as := [.int (nI person), .int (nI fact)]) (st := []) rfl rfl (Nat.le_of_ble_eq_true rfl) (Nat.le_refl _) (Nat.le_refl _) (ev_Mo_knows (Mv := S'.2.1.1) (T := (A.ts town)) (hN2.2.1) (p := person) (f := fact) (by omega) (by omega) (fg_km hok hz2 (by omega)) ?_)
                    refine fg_ifB_ne (tgt := 127) (fg_ft (pc := 121) tb_Mo_when 67 rfl) (by decide) (fun c121 => ?_) (fun c121 => ?_)
                    · refine fg_aloadn (fg_ft (pc := 127) tb_Mo_when 70 rfl) rfl ?_
                      refine fg_iloadn (fg_ft (pc := 128) tb_Mo_when 71 rfl) rfl ?_
                      refine fg_iload (fg_ft (pc := 129) tb_Mo_when 72 rfl) rfl ?_
                      refine fg_callV (fg_ft (pc := 131) tb_Mo_when 73 rfl) cf_Mo_212 (fg_isOf ly_287 rfl (fg_lt ly_287 (by decide))) (as := [.int (nI person), .int (nI fact)]) (st := []) rfl rfl (Nat.le_of_ble_eq_true rfl) (Nat.le_refl _) (Nat.le_refl _) (ev_Mo_knows (Mv := S'.2.1.1) (T := (A.ts town)) (hN2.2.1) (p := person) (f := fact) (by omega) (by omega) (fg_km hok hz2 (by omega)) ?_)
                      refine fg_istore (fg_ft (pc := 134) tb_Mo_when 74 rfl) (Nat.le_of_ble_eq_true rfl) ?_
                      refine fg_iincN (fg_ft (pc := 136) tb_Mo_when 75 rfl) rfl ic_1 rfl ?_
                      refine fg_goto (tgt := 79) (fg_ft (pc := 139) tb_Mo_when 76 rfl) (by decide) ?_
                      exact ih (k + 1) S' lv' μ2 n3 (by omega) (by omega) (fg_agA_tr hag (fg_agA_P hag2)) hC2 zz hN2 (fun b hb => by
                        rcases Nat.lt_or_ge b k with g | g
                        · exact hno b g
                        · obtain rfl : b = k := by omega
                          rintro ⟨S1, lv1, S2, lv2, w1, w2, w3, w4⟩
                          rw [hrun] at w1; cases w1
                          rw [zz] at w2; cases w2
                          first | exact c111 w3 | exact w4 c121)
                    · refine fg_iload (fg_ft (pc := 124) tb_Mo_when 68 rfl) rfl ?_
                      exact fg_iret (fg_ft (pc := 126) tb_Mo_when 69 rfl) rfl rfl (fg_q (hQ _ (fg_agR_A (fg_agA_tr hag (fg_agA_P hag2)))) (by unfold an_when; rw [if_pos c6, if_pos c15, if_pos c28, if_pos c42]; rw [fg_fst_some (a := k) ⟨S, lv, S', lv', hrun, zz, c111, c121⟩ (A.nd day) hno (by omega)]; rfl))
          exact loop (A.nd day + 1) 0 (fg_S0 (A.ts town)) (fun _ => 0) μ1 n1 (by omega) (by omega) ha1 hC1 rfl hS1 (fun b hb => absurd hb (Nat.not_lt_zero _))
        · refine fg_iconst (fg_ft (pc := 45) tb_Mo_when 24 rfl) ic_m1 ?_
          exact fg_iret (fg_ft (pc := 46) tb_Mo_when 25 rfl) rfl rfl (fg_q (hQ _ (fg_agR_rf μ)) (by unfold an_when; first | rw [if_neg c6] | rw [if_pos c6, if_neg c15] | rw [if_pos c6, if_pos c15, if_neg c28] | rw [if_pos c6, if_pos c15, if_pos c28, if_neg c42]))
