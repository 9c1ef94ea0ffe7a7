theorem ev_Mo_best {E : fg_E} {d : Nat} {μ : Nat → Nat → Int32} {R : fg_T4} {Q : Option Value → fg_M → Prop} {A : fg_Tl} (hL : fg_ML (μ 288) A) (hw : fg_wA A) (h17 : μ 287 17 = -1) (h19 : μ 287 19 = nI 0) {town day n person m : Nat} {what : Int32} (htown : town < 2 ^ 32) (hday : day < 2 ^ 32) (hn : n < 2 ^ 32) (hperson : person < 2 ^ 32) (hm : m < 2 ^ 32) (hQ : ∀ μ' : Nat → Nat → Int32, fg_agR μ μ' → Q (some (.int (an_best A town day n person m what))) (μ', fg_rho R, 304)) : fg_Ev E yy_Mo_best (d + 12) [.ref 287, .int (nI town), .int (nI day), .int (nI n), .int (nI person), .int (nI m), .int what] (μ, fg_rho R, 304) 304 Q := by
  have ht2 := hw.2.1
  have hd3 := hw.2.2.1
  refine fg_intro (by decide +kernel) (Nat.le_of_ble_eq_true rfl) (fg_okAs rfl) (Nat.le_refl _) ?_
  refine fg_iload (fg_ft (pc := 0) tb_Mo_best 0 rfl) rfl ?_
  refine fg_iconst (fg_ft (pc := 2) tb_Mo_best 1 rfl) ic_0 ?_
  refine fg_iconst (fg_ft (pc := 3) tb_Mo_best 2 rfl) ic_3 ?_
  refine fg_callS (fg_ft (pc := 4) tb_Mo_best 3 rfl) cf_Mo_110 (as := [.int (nI m), .int (nI 0), .int (nI 3)]) (st := []) rfl rfl (Nat.le_of_ble_eq_true rfl) (Nat.le_refl _) (Nat.le_refl _) (ev_Mo_isInC (k := m) (a := 0) (b := 3) (hm) (by omega) (by omega) ?_)
  refine fg_ifB_eq (tgt := 22) (fg_ft (pc := 7) tb_Mo_best 4 rfl) (by decide) (fun c7 => ?_) (fun c7 => ?_)
  · refine fg_ldcw (fg_ft (pc := 22) tb_Mo_best 12 rfl) fd_Mo_265 ?_
    exact fg_iret (fg_ft (pc := 25) tb_Mo_best 13 rfl) rfl rfl (fg_q (hQ _ (fg_agR_rf μ)) (by unfold an_best; rw [fg_g1_cst (by intro T S lv; rw [if_neg (by omega)])]))
  · refine fg_aloadn (fg_ft (pc := 10) tb_Mo_best 5 rfl) rfl ?_
    refine fg_iloadn (fg_ft (pc := 11) tb_Mo_best 6 rfl) rfl ?_
    refine fg_iloadn (fg_ft (pc := 12) tb_Mo_best 7 rfl) rfl ?_
    refine fg_iloadn (fg_ft (pc := 13) tb_Mo_best 8 rfl) rfl ?_
    refine fg_iload (fg_ft (pc := 14) tb_Mo_best 9 rfl) rfl ?_
    refine fg_callV (fg_ft (pc := 16) tb_Mo_best 10 rfl) cf_Mo_258 (fg_isOf ly_287 rfl (fg_lt ly_287 (by decide))) (as := [.int (nI town), .int (nI day), .int (nI n), .int (nI person)]) (st := []) rfl rfl (Nat.le_of_ble_eq_true rfl) (Nat.le_refl _) (Nat.le_refl _) (ev_Mo_isOne hL hw h17 h19 htown hday hn hperson (fun n4 μ1 ha1 => ?_) (fun S lv y4 y5 μ1 n1 y1 ha1 hC1 hS1 => ?_))
    · refine fg_if_ne (tgt := 26) (fg_ft (pc := 19) tb_Mo_best 11 rfl) (by decide) (fun h => absurd h (by decide)) (fun _ => ?_)
      refine fg_ldcw (fg_ft (pc := 22) tb_Mo_best 12 rfl) fd_Mo_265 ?_
      exact fg_iret (fg_ft (pc := 25) tb_Mo_best 13 rfl) rfl rfl (fg_q (hQ _ (fg_agR_A ha1)) (by unfold an_best; rw [fg_g1_none n4]))
    · have ytc := fg_fnd_t y4
      have hok := hw.2.2.2.1 town ytc
      have hM1 := (hL.2.2.1 town ytc).ag ha1.m
      have hz : fg_zok (A.ts town) S.1 (S.2.1.1, 0, 0, 0) S.2.2 := fg_zok.news (fg_fnd_okW hw y4)
      have hv0 := hM1.1
      have hb0 := hok.1
      have hb1 := hok.2.1
      have hp := hok.p
      have hz9 := hz.1
      have hm2 := hz.2.1 person y5
      have hm0 : S.2.1.1 person < 2 ^ A.ts town 0 := hm2.1
      have hmc : fg_clsd (A.ts town) (S.2.1.1 person) := hm2.2
      have hm10 : S.2.1.1 person < 1024 := by omega
      refine fg_if_ne (tgt := 26) (fg_ft (pc := 19) tb_Mo_best 11 rfl) (by decide) (fun _ => ?_) (fun h => absurd h (by decide))
      refine fg_iconst (fg_ft (pc := 26) tb_Mo_best 14 rfl) ic_0 ?_
      refine fg_iloadn (fg_ft (pc := 27) tb_Mo_best 15 rfl) rfl ?_
      refine fg_callS (fg_ft (pc := 28) tb_Mo_best 16 rfl) cf_Mo_166 (as := [.int (nI 0), .int (nI town)]) (st := []) rfl rfl (Nat.le_of_ble_eq_true rfl) (Nat.le_refl _) (Nat.le_refl _) (ev_Mo_placeOf0 (k := town) ?_)
      refine fg_istore (fg_ft (pc := 31) tb_Mo_best 17 rfl) (Nat.le_of_ble_eq_true rfl) ?_
      refine fg_aloadn (fg_ft (pc := 33) tb_Mo_best 18 rfl) rfl ?_
      refine fg_iload (fg_ft (pc := 34) tb_Mo_best 19 rfl) rfl ?_
      refine fg_aloadn (fg_ft (pc := 36) tb_Mo_best 20 rfl) rfl ?_
      refine fg_getR (fg_ft (pc := 37) tb_Mo_best 21 rfl) ff_Mo_23 ly_287 rfl (fg_lt ly_287 (by decide)) (rh_287_12 R) ?_
      refine fg_iload (fg_ft (pc := 40) tb_Mo_best 22 rfl) rfl ?_
      refine fg_ialdV (v := (nI (S.2.1.1 person))) (fg_ft (pc := 42) tb_Mo_best 23 rfl) ly_292 (fg_lt ly_292 (by decide)) (by omega) (hS1.2.1 _ (by omega)) ?_
      refine fg_iload (fg_ft (pc := 43) tb_Mo_best 24 rfl) rfl ?_
      refine fg_callV (fg_ft (pc := 45) tb_Mo_best 25 rfl) cf_Mo_282 (fg_isOf ly_287 rfl (fg_lt ly_287 (by decide))) (as := [.int (nI (610 + 152 * town)), .int (nI (S.2.1.1 person)), .int (nI m)]) (st := []) rfl rfl (Nat.le_of_ble_eq_true rfl) (Nat.le_refl _) (Nat.le_refl _) (ev_Mo_goesOn hM1 hok hC1 (m := (S.2.1.1 person)) (mst := m) hm0 (by omega) ?_)
      intro μg hagg hLR
      have hMg := hM1.agL hagg
      have hCg := hC1.agL hagg
      have hSg := hS1.agL hagg
      have hBo := fg_BF_ok hok hm0 (mst := m)
      have hlen := fg_bok_len hBo hok.1.2
      show fg_wp _ _ _ _ _ _ _ _ _ (μg, fg_rho R, 304)
      refine fg_aloadn (fg_ft (pc := 48) tb_Mo_best 26 rfl) rfl ?_
      refine fg_iload (fg_ft (pc := 49) tb_Mo_best 27 rfl) rfl ?_
      refine fg_callV (fg_ft (pc := 51) tb_Mo_best 28 rfl) cf_Mo_294 (fg_isOf ly_287 rfl (fg_lt ly_287 (by decide))) (as := [.int (nI (610 + 152 * town))]) (st := []) rfl rfl (Nat.le_of_ble_eq_true rfl) (Nat.le_refl _) (Nat.le_refl _) (ev_Mo_bestInLine hMg hok hBo hLR ?_)
      have hkb := fg_bk_lt (T := A.ts town) (B := (fg_BF (A.ts town) (S.2.1.1 person) m)) _ hBo.2.2.2.1
      have hf31 := fg_bok_far31 hBo hok.1.2 hkb
      have hwk := fg_p10 (hBo.1 _ hkb) hok.1.2
      refine fg_istore (fg_ft (pc := 54) tb_Mo_best 29 rfl) (Nat.le_of_ble_eq_true rfl) ?_
      refine fg_iload (fg_ft (pc := 56) tb_Mo_best 30 rfl) rfl ?_
      refine fg_iconst (fg_ft (pc := 58) tb_Mo_best 31 rfl) ic_1 ?_
      refine fg_icmp_ne (tgt := 76) (fg_ft (pc := 59) tb_Mo_best 32 rfl) (by decide) (fun c59 => ?_) (fun c59 => ?_)
      · refine fg_iload (fg_ft (pc := 76) tb_Mo_best 41 rfl) rfl ?_
        refine fg_if_eq (tgt := 101) (fg_ft (pc := 78) tb_Mo_best 42 rfl) (by decide) (fun c78 => ?_) (fun c78 => ?_)
        · refine fg_aloadn (fg_ft (pc := 101) tb_Mo_best 53 rfl) rfl ?_
          refine fg_iload (fg_ft (pc := 102) tb_Mo_best 54 rfl) rfl ?_
          refine fg_iload (fg_ft (pc := 104) tb_Mo_best 55 rfl) rfl ?_
          refine fg_callV (fg_ft (pc := 106) tb_Mo_best 56 rfl) cf_Mo_285 (fg_isOf ly_287 rfl (fg_lt ly_287 (by decide))) (as := [.int (nI (fg_bk (A.ts town) (fg_BF (A.ts town) (S.2.1.1 person) m) (fg_BF (A.ts town) (S.2.1.1 person) m).1)), .int what]) (st := []) rfl rfl (Nat.le_of_ble_eq_true rfl) (Nat.le_refl _) (Nat.le_refl _) (ev_Mo_toldOf hok.1.2 hBo (k := fg_bk (A.ts town) (fg_BF (A.ts town) (S.2.1.1 person) m) (fg_BF (A.ts town) (S.2.1.1 person) m).1) hkb hLR (x := what) ?_)
          refine fg_goto (tgt := 115) (fg_ft (pc := 109) tb_Mo_best 57 rfl) (by decide) ?_
          exact fg_iret (fg_ft (pc := 115) tb_Mo_best 59 rfl) rfl rfl (fg_q (hQ _ (fg_agR_tr (fg_agR_A ha1) (fg_agR_L hagg))) (by unfold an_best; rw [fg_g1_some y4 y5] <;> (rw [if_pos (by omega)]; rw [if_neg c59]; exact if_neg (fg_tell_ne hok.1.2 hBo hkb (by first | exact Or.inl c78 | exact Or.inr ((fg_inRow hf31).mp c98))))))
        · refine fg_iload (fg_ft (pc := 81) tb_Mo_best 43 rfl) rfl ?_
          refine fg_bipush (fg_ft (pc := 83) tb_Mo_best 44 rfl) ib_10 ?_
          refine fg_bipush (fg_ft (pc := 85) tb_Mo_best 45 rfl) ib_9 ?_
          refine fg_aloadn (fg_ft (pc := 87) tb_Mo_best 46 rfl) rfl ?_
          refine fg_getR (fg_ft (pc := 88) tb_Mo_best 47 rfl) ff_Mo_45 ly_287 rfl (fg_lt ly_287 (by decide)) (rh_287_24 R) ?_
          refine fg_iload (fg_ft (pc := 91) tb_Mo_best 48 rfl) rfl ?_
          refine fg_ialdV (v := (nI ((fg_BF (A.ts town) (S.2.1.1 person) m).2.2.2.2 (fg_bk (A.ts town) (fg_BF (A.ts town) (S.2.1.1 person) m) (fg_BF (A.ts town) (S.2.1.1 person) m).1)))) (fg_ft (pc := 93) tb_Mo_best 49 rfl) ly_298 (fg_lt ly_298 (by decide)) (by omega) (hLR.2.1 _ (by omega)).2.1 ?_
          refine fg_iaddN (fg_ft (pc := 94) tb_Mo_best 50 rfl) ?_
          refine fg_callS (fg_ft (pc := 95) tb_Mo_best 51 rfl) cf_Mo_110 (as := [.int what, .int (nI 10), .int (nI (9 + ((fg_BF (A.ts town) (S.2.1.1 person) m).2.2.2.2 (fg_bk (A.ts town) (fg_BF (A.ts town) (S.2.1.1 person) m) (fg_BF (A.ts town) (S.2.1.1 person) m).1))))]) (st := []) rfl rfl (Nat.le_of_ble_eq_true rfl) (Nat.le_refl _) (Nat.le_refl _) (ev_Mo_isIn (x := what) (a := (nI 10)) (b := (nI (9 + ((fg_BF (A.ts town) (S.2.1.1 person) m).2.2.2.2 (fg_bk (A.ts town) (fg_BF (A.ts town) (S.2.1.1 person) m) (fg_BF (A.ts town) (S.2.1.1 person) m).1))))) ?_)
          refine fg_ifB_eq (tgt := 112) (fg_ft (pc := 98) tb_Mo_best 52 rfl) (by decide) (fun c98 => ?_) (fun c98 => ?_)
          · refine fg_ldcw (fg_ft (pc := 112) tb_Mo_best 58 rfl) fd_Mo_265 ?_
            exact fg_iret (fg_ft (pc := 115) tb_Mo_best 59 rfl) rfl rfl (fg_q (hQ _ (fg_agR_tr (fg_agR_A ha1) (fg_agR_L hagg))) (by unfold an_best; rw [fg_g1_some y4 y5] <;> (rw [if_pos (by omega)]; rw [if_neg c59]; exact if_pos (fg_tellN c78 (fun hh => c98 ((fg_inRow hf31).mpr hh))))))
          · refine fg_aloadn (fg_ft (pc := 101) tb_Mo_best 53 rfl) rfl ?_
            refine fg_iload (fg_ft (pc := 102) tb_Mo_best 54 rfl) rfl ?_
            refine fg_iload (fg_ft (pc := 104) tb_Mo_best 55 rfl) rfl ?_
            refine fg_callV (fg_ft (pc := 106) tb_Mo_best 56 rfl) cf_Mo_285 (fg_isOf ly_287 rfl (fg_lt ly_287 (by decide))) (as := [.int (nI (fg_bk (A.ts town) (fg_BF (A.ts town) (S.2.1.1 person) m) (fg_BF (A.ts town) (S.2.1.1 person) m).1)), .int what]) (st := []) rfl rfl (Nat.le_of_ble_eq_true rfl) (Nat.le_refl _) (Nat.le_refl _) (ev_Mo_toldOf hok.1.2 hBo (k := fg_bk (A.ts town) (fg_BF (A.ts town) (S.2.1.1 person) m) (fg_BF (A.ts town) (S.2.1.1 person) m).1) hkb hLR (x := what) ?_)
            refine fg_goto (tgt := 115) (fg_ft (pc := 109) tb_Mo_best 57 rfl) (by decide) ?_
            exact fg_iret (fg_ft (pc := 115) tb_Mo_best 59 rfl) rfl rfl (fg_q (hQ _ (fg_agR_tr (fg_agR_A ha1) (fg_agR_L hagg))) (by unfold an_best; rw [fg_g1_some y4 y5] <;> (rw [if_pos (by omega)]; rw [if_neg c59]; exact if_neg (fg_tell_ne hok.1.2 hBo hkb (by first | exact Or.inl c78 | exact Or.inr ((fg_inRow hf31).mp c98))))))
      · refine fg_aloadn (fg_ft (pc := 62) tb_Mo_best 33 rfl) rfl ?_
        refine fg_iload (fg_ft (pc := 63) tb_Mo_best 34 rfl) rfl ?_
        refine fg_aloadn (fg_ft (pc := 65) tb_Mo_best 35 rfl) rfl ?_
        refine fg_getR (fg_ft (pc := 66) tb_Mo_best 36 rfl) ff_Mo_36 ly_287 rfl (fg_lt ly_287 (by decide)) (rh_287_21 R) ?_
        refine fg_iload (fg_ft (pc := 69) tb_Mo_best 37 rfl) rfl ?_
        refine fg_ialdV (v := (nI ((fg_BF (A.ts town) (S.2.1.1 person) m).2.1 (fg_bk (A.ts town) (fg_BF (A.ts town) (S.2.1.1 person) m) (fg_BF (A.ts town) (S.2.1.1 person) m).1)))) (fg_ft (pc := 71) tb_Mo_best 38 rfl) ly_295 (fg_lt ly_295 (by decide)) (by omega) (hLR.2.1 _ (by omega)).1 ?_
        refine fg_callV (fg_ft (pc := 72) tb_Mo_best 39 rfl) cf_Mo_266 (fg_isOf ly_287 rfl (fg_lt ly_287 (by decide))) (as := [.int (nI (610 + 152 * town)), .int (nI ((fg_BF (A.ts town) (S.2.1.1 person) m).2.1 (fg_bk (A.ts town) (fg_BF (A.ts town) (S.2.1.1 person) m) (fg_BF (A.ts town) (S.2.1.1 person) m).1)))]) (st := []) rfl rfl (Nat.le_of_ble_eq_true rfl) (Nat.le_refl _) (Nat.le_refl _) (ev_Mo_worthOf hMg hok (m := ((fg_BF (A.ts town) (S.2.1.1 person) m).2.1 (fg_bk (A.ts town) (fg_BF (A.ts town) (S.2.1.1 person) m) (fg_BF (A.ts town) (S.2.1.1 person) m).1))) (hwk) ?_)
        exact fg_iret (fg_ft (pc := 75) tb_Mo_best 40 rfl) rfl rfl (fg_q (hQ _ (fg_agR_tr (fg_agR_A ha1) (fg_agR_L hagg))) (by unfold an_best; rw [fg_g1_some y4 y5] <;> (rw [if_pos (by omega)]; rw [if_pos c59]; rfl)))
def fg_mxI (T : Nat → Nat) (mind s : Nat) (x : Int32) : Prop := (∃ p, fg_le p mind ∧ fg_clsd T p ∧ x = fg_w T p) ∧ ∀ p, p < s → fg_le p mind → fg_clsd T p → fg_w T p ≤ x
theorem fg_mxI_0 {T : Nat → Nat} {mind s : Nat} {x : Int32} (h : fg_mxI T mind s x) (hn : ¬ (fg_le s mind ∧ fg_clsd T s) ∨ fg_w T s ≤ x) : fg_mxI T mind (s + 1) x := by
  refine ⟨h.1, fun p hp h1 h2 => ?_⟩
  rcases Nat.lt_or_ge p s with g | g
  · exact h.2 p g h1 h2
  · obtain rfl : p = s := by omega
    exact hn.elim (fun hh => absurd ⟨h1, h2⟩ hh) id
theorem fg_mxI_1 {T : Nat → Nat} {mind s : Nat} {x : Int32} (h : fg_mxI T mind s x) (h1 : fg_le s mind) (h2 : fg_clsd T s) (hx : x < fg_w T s) : fg_mxI T mind (s + 1) (fg_w T s) := by
  refine ⟨⟨s, h1, h2, rfl⟩, fun p hp g1 g2 => ?_⟩
  rcases Nat.lt_or_ge p s with g | g
  · exact Int32.le_trans (h.2 p g g1 g2) (Int32.le_of_lt hx)
  · obtain rfl : p = s := by omega
    exact Int32.le_refl _
theorem fg_mxI_end {T : Nat → Nat} {mind : Nat} {x : Int32} (h : fg_mxI T mind (mind + 1) x) : fg_mxw T mind = x := fg_mxw_of ⟨h.1, fun p h1 h2 => h.2 p (by have := fg_le_le h1; omega) h1 h2⟩
theorem ev_Mo_gap {E : fg_E} {d : Nat} {μ : Nat → Nat → Int32} {R : fg_T4} {Q : Option Value → fg_M → Prop} {A : fg_Tl} (hL : fg_ML (μ 288) A) (hw : fg_wA A) (h17 : μ 287 17 = -1) (h19 : μ 287 19 = nI 0) {town day n person m : Nat} (htown : town < 2 ^ 32) (hday : day < 2 ^ 32) (hn : n < 2 ^ 32) (hperson : person < 2 ^ 32) (hm : m < 2 ^ 32) (hQ : ∀ μ' : Nat → Nat → Int32, fg_agR μ μ' → Q (some (.int (an_gap A town day n person m))) (μ', fg_rho R, 304)) : fg_Ev E yy_Mo_gap (d + 12) [.ref 287, .int (nI town), .int (nI day), .int (nI n), .int (nI person), .int (nI m)] (μ, fg_rho R, 304) 304 Q := by
  have ht2 := hw.2.1
  have hd3 := hw.2.2.1
  refine fg_intro (by decide +kernel) (Nat.le_of_ble_eq_true rfl) (fg_okAs rfl) (Nat.le_refl _) ?_
  refine fg_iload (fg_ft (pc := 0) tb_Mo_gap 0 rfl) rfl ?_
  refine fg_iconst (fg_ft (pc := 2) tb_Mo_gap 1 rfl) ic_0 ?_
  refine fg_iconst (fg_ft (pc := 3) tb_Mo_gap 2 rfl) ic_3 ?_
  refine fg_callS (fg_ft (pc := 4) tb_Mo_gap 3 rfl) cf_Mo_110 (as := [.int (nI m), .int (nI 0), .int (nI 3)]) (st := []) rfl rfl (Nat.le_of_ble_eq_true rfl) (Nat.le_refl _) (Nat.le_refl _) (ev_Mo_isInC (k := m) (a := 0) (b := 3) (hm) (by omega) (by omega) ?_)
  refine fg_ifB_eq (tgt := 22) (fg_ft (pc := 7) tb_Mo_gap 4 rfl) (by decide) (fun c7 => ?_) (fun c7 => ?_)
  · refine fg_iconst (fg_ft (pc := 22) tb_Mo_gap 12 rfl) ic_m1 ?_
    exact fg_iret (fg_ft (pc := 23) tb_Mo_gap 13 rfl) rfl rfl (fg_q (hQ _ (fg_agR_rf μ)) (by unfold an_gap; rw [fg_g1_cst (by intro T S lv; rw [if_neg (by omega)])]))
  · refine fg_aloadn (fg_ft (pc := 10) tb_Mo_gap 5 rfl) rfl ?_
    refine fg_iloadn (fg_ft (pc := 11) tb_Mo_gap 6 rfl) rfl ?_
    refine fg_iloadn (fg_ft (pc := 12) tb_Mo_gap 7 rfl) rfl ?_
    refine fg_iloadn (fg_ft (pc := 13) tb_Mo_gap 8 rfl) rfl ?_
    refine fg_iload (fg_ft (pc := 14) tb_Mo_gap 9 rfl) rfl ?_
    refine fg_callV (fg_ft (pc := 16) tb_Mo_gap 10 rfl) cf_Mo_258 (fg_isOf ly_287 rfl (fg_lt ly_287 (by decide))) (as := [.int (nI town), .int (nI day), .int (nI n), .int (nI person)]) (st := []) rfl rfl (Nat.le_of_ble_eq_true rfl) (Nat.le_refl _) (Nat.le_refl _) (ev_Mo_isOne hL hw h17 h19 htown hday hn hperson (fun n4 μ1 ha1 => ?_) (fun S lv y4 y5 μ1 n1 y1 ha1 hC1 hS1 => ?_))
    · refine fg_if_ne (tgt := 24) (fg_ft (pc := 19) tb_Mo_gap 11 rfl) (by decide) (fun h => absurd h (by decide)) (fun _ => ?_)
      refine fg_iconst (fg_ft (pc := 22) tb_Mo_gap 12 rfl) ic_m1 ?_
      exact fg_iret (fg_ft (pc := 23) tb_Mo_gap 13 rfl) rfl rfl (fg_q (hQ _ (fg_agR_A ha1)) (by unfold an_gap; rw [fg_g1_none n4]))
    · have ytc := fg_fnd_t y4
      have hok := hw.2.2.2.1 town ytc
      have hM1 := (hL.2.2.1 town ytc).ag ha1.m
      have hz : fg_zok (A.ts town) S.1 (S.2.1.1, 0, 0, 0) S.2.2 := fg_zok.news (fg_fnd_okW hw y4)
      have hv0 := hM1.1
      have hb0 := hok.1
      have hb1 := hok.2.1
      have hp := hok.p
      have hz9 := hz.1
      have hm2 := hz.2.1 person y5
      have hm0 : S.2.1.1 person < 2 ^ A.ts town 0 := hm2.1
      have hmc : fg_clsd (A.ts town) (S.2.1.1 person) := hm2.2
      have hm10 : S.2.1.1 person < 1024 := by omega
      refine fg_if_ne (tgt := 24) (fg_ft (pc := 19) tb_Mo_gap 11 rfl) (by decide) (fun _ => ?_) (fun h => absurd h (by decide))
      refine fg_iconst (fg_ft (pc := 24) tb_Mo_gap 14 rfl) ic_0 ?_
      refine fg_iloadn (fg_ft (pc := 25) tb_Mo_gap 15 rfl) rfl ?_
      refine fg_callS (fg_ft (pc := 26) tb_Mo_gap 16 rfl) cf_Mo_166 (as := [.int (nI 0), .int (nI town)]) (st := []) rfl rfl (Nat.le_of_ble_eq_true rfl) (Nat.le_refl _) (Nat.le_refl _) (ev_Mo_placeOf0 (k := town) ?_)
      refine fg_istore (fg_ft (pc := 29) tb_Mo_gap 17 rfl) (Nat.le_of_ble_eq_true rfl) ?_
      refine fg_aloadn (fg_ft (pc := 31) tb_Mo_gap 18 rfl) rfl ?_
      refine fg_iload (fg_ft (pc := 32) tb_Mo_gap 19 rfl) rfl ?_
      refine fg_aloadn (fg_ft (pc := 34) tb_Mo_gap 20 rfl) rfl ?_
      refine fg_getR (fg_ft (pc := 35) tb_Mo_gap 21 rfl) ff_Mo_23 ly_287 rfl (fg_lt ly_287 (by decide)) (rh_287_12 R) ?_
      refine fg_iload (fg_ft (pc := 38) tb_Mo_gap 22 rfl) rfl ?_
      refine fg_ialdV (v := (nI (S.2.1.1 person))) (fg_ft (pc := 40) tb_Mo_gap 23 rfl) ly_292 (fg_lt ly_292 (by decide)) (by omega) (hS1.2.1 _ (by omega)) ?_
      refine fg_callV (fg_ft (pc := 41) tb_Mo_gap 24 rfl) cf_Mo_266 (fg_isOf ly_287 rfl (fg_lt ly_287 (by decide))) (as := [.int (nI (610 + 152 * town)), .int (nI (S.2.1.1 person))]) (st := []) rfl rfl (Nat.le_of_ble_eq_true rfl) (Nat.le_refl _) (Nat.le_refl _) (ev_Mo_worthOf hM1 hok (m := (S.2.1.1 person)) (hm10) ?_)
      refine fg_istore (fg_ft (pc := 44) tb_Mo_gap 25 rfl) (Nat.le_of_ble_eq_true rfl) ?_
      refine fg_iconst (fg_ft (pc := 46) tb_Mo_gap 26 rfl) ic_0 ?_
      refine fg_istore (fg_ft (pc := 47) tb_Mo_gap 27 rfl) (Nat.le_of_ble_eq_true rfl) ?_
      have loop : ∀ (k p : Nat) (x : Int32), (S.2.1.1 person) + 1 - p < k → p ≤ (S.2.1.1 person) + 1 → fg_mxI (A.ts town) (S.2.1.1 person) p x → fg_wp E yy_Mo_gap (d + 12) 304 304 Q 49 [.ref 287, .int (nI town), .int (nI day), .int (nI n), .int (nI person), .int (nI m), .int (nI (610 + 152 * town)), .int x, .int (nI p)] [] (μ1, fg_rho R, 304) := by
        intro k
        induction k with
        | zero => intro p x h; exact absurd h (Nat.not_lt_zero _)
        | succ k ih =>
          intro p x hk hp hI
          refine fg_iload (fg_ft (pc := 49) tb_Mo_gap 28 rfl) rfl ?_
          refine fg_aloadn (fg_ft (pc := 51) tb_Mo_gap 29 rfl) rfl ?_
          refine fg_getR (fg_ft (pc := 52) tb_Mo_gap 30 rfl) ff_Mo_23 ly_287 rfl (fg_lt ly_287 (by decide)) (rh_287_12 R) ?_
          refine fg_iload (fg_ft (pc := 55) tb_Mo_gap 31 rfl) rfl ?_
          refine fg_ialdV (v := (nI (S.2.1.1 person))) (fg_ft (pc := 57) tb_Mo_gap 32 rfl) ly_292 (fg_lt ly_292 (by decide)) (by omega) (hS1.2.1 _ (by omega)) ?_
          refine fg_icmp_gtN (tgt := 123) (fg_ft (pc := 58) tb_Mo_gap 33 rfl) (by decide) (by omega) (by omega) (fun c58 => ?_) (fun c58 => ?_)
          · have hmx : fg_mxw (A.ts town) (S.2.1.1 person) = x := fg_mxI_end (by rw [show (S.2.1.1 person) + 1 = p by omega]; exact hI)
            refine fg_aloadn (fg_ft (pc := 123) tb_Mo_gap 64 rfl) rfl ?_
            refine fg_iload (fg_ft (pc := 124) tb_Mo_gap 65 rfl) rfl ?_
            refine fg_aloadn (fg_ft (pc := 126) tb_Mo_gap 66 rfl) rfl ?_
            refine fg_getR (fg_ft (pc := 127) tb_Mo_gap 67 rfl) ff_Mo_23 ly_287 rfl (fg_lt ly_287 (by decide)) (rh_287_12 R) ?_
            refine fg_iload (fg_ft (pc := 130) tb_Mo_gap 68 rfl) rfl ?_
            refine fg_ialdV (v := (nI (S.2.1.1 person))) (fg_ft (pc := 132) tb_Mo_gap 69 rfl) ly_292 (fg_lt ly_292 (by decide)) (by omega) (hS1.2.1 _ (by omega)) ?_
            refine fg_iload (fg_ft (pc := 133) tb_Mo_gap 70 rfl) rfl ?_
            refine fg_callV (fg_ft (pc := 135) tb_Mo_gap 71 rfl) cf_Mo_282 (fg_isOf ly_287 rfl (fg_lt ly_287 (by decide))) (as := [.int (nI (610 + 152 * town)), .int (nI (S.2.1.1 person)), .int (nI m)]) (st := []) rfl rfl (Nat.le_of_ble_eq_true rfl) (Nat.le_refl _) (Nat.le_refl _) (ev_Mo_goesOn hM1 hok hC1 (m := (S.2.1.1 person)) (mst := m) hm0 (by omega) ?_)
            intro μg hagg hLR
            have hMg := hM1.agL hagg
            have hCg := hC1.agL hagg
            have hSg := hS1.agL hagg
            have hBo := fg_BF_ok hok hm0 (mst := m)
            have hlen := fg_bok_len hBo hok.1.2
            show fg_wp _ _ _ _ _ _ _ _ _ (μg, fg_rho R, 304)
            refine fg_iload (fg_ft (pc := 138) tb_Mo_gap 72 rfl) rfl ?_
            refine fg_aloadn (fg_ft (pc := 140) tb_Mo_gap 73 rfl) rfl ?_
            refine fg_iload (fg_ft (pc := 141) tb_Mo_gap 74 rfl) rfl ?_
            refine fg_aloadn (fg_ft (pc := 143) tb_Mo_gap 75 rfl) rfl ?_
            refine fg_getR (fg_ft (pc := 144) tb_Mo_gap 76 rfl) ff_Mo_36 ly_287 rfl (fg_lt ly_287 (by decide)) (rh_287_21 R) ?_
            refine fg_aloadn (fg_ft (pc := 147) tb_Mo_gap 77 rfl) rfl ?_
            refine fg_iload (fg_ft (pc := 148) tb_Mo_gap 78 rfl) rfl ?_
            refine fg_callV (fg_ft (pc := 150) tb_Mo_gap 79 rfl) cf_Mo_294 (fg_isOf ly_287 rfl (fg_lt ly_287 (by decide))) (as := [.int (nI (610 + 152 * town))]) (st := [.ref 295, .int (nI (610 + 152 * town)), .ref 287, .int x]) rfl rfl (Nat.le_of_ble_eq_true rfl) (Nat.le_refl _) (Nat.le_refl _) (ev_Mo_bestInLine hMg hok hBo hLR ?_)
            have hkb := fg_bk_lt (T := A.ts town) (B := (fg_BF (A.ts town) (S.2.1.1 person) m)) _ hBo.2.2.2.1
            have hwk := fg_p10 (hBo.1 _ hkb) hok.1.2
            refine fg_ialdV (v := (nI ((fg_BF (A.ts town) (S.2.1.1 person) m).2.1 (fg_bk (A.ts town) (fg_BF (A.ts town) (S.2.1.1 person) m) (fg_BF (A.ts town) (S.2.1.1 person) m).1)))) (fg_ft (pc := 153) tb_Mo_gap 80 rfl) ly_295 (fg_lt ly_295 (by decide)) (by omega) (hLR.2.1 _ (by omega)).1 ?_
            refine fg_callV (fg_ft (pc := 154) tb_Mo_gap 81 rfl) cf_Mo_266 (fg_isOf ly_287 rfl (fg_lt ly_287 (by decide))) (as := [.int (nI (610 + 152 * town)), .int (nI ((fg_BF (A.ts town) (S.2.1.1 person) m).2.1 (fg_bk (A.ts town) (fg_BF (A.ts town) (S.2.1.1 person) m) (fg_BF (A.ts town) (S.2.1.1 person) m).1)))]) (st := [.int x]) rfl rfl (Nat.le_of_ble_eq_true rfl) (Nat.le_refl _) (Nat.le_refl _) (ev_Mo_worthOf hMg hok (m := ((fg_BF (A.ts town) (S.2.1.1 person) m).2.1 (fg_bk (A.ts town) (fg_BF (A.ts town) (S.2.1.1 person) m) (fg_BF (A.ts town) (S.2.1.1 person) m).1))) (hwk) ?_)
            refine fg_isub (fg_ft (pc := 157) tb_Mo_gap 82 rfl) ?_
            exact fg_iret (fg_ft (pc := 158) tb_Mo_gap 83 rfl) rfl rfl (fg_q (hQ _ (fg_agR_tr (fg_agR_A ha1) (fg_agR_L hagg))) (by unfold an_gap; rw [fg_g1_some y4 y5] <;> (rw [if_pos (by omega), hmx]; rfl)))
          · refine fg_iload (fg_ft (pc := 61) tb_Mo_gap 34 rfl) rfl ?_
            refine fg_aloadn (fg_ft (pc := 63) tb_Mo_gap 35 rfl) rfl ?_
            refine fg_getR (fg_ft (pc := 64) tb_Mo_gap 36 rfl) ff_Mo_23 ly_287 rfl (fg_lt ly_287 (by decide)) (rh_287_12 R) ?_
            refine fg_iload (fg_ft (pc := 67) tb_Mo_gap 37 rfl) rfl ?_
            refine fg_ialdV (v := (nI (S.2.1.1 person))) (fg_ft (pc := 69) tb_Mo_gap 38 rfl) ly_292 (fg_lt ly_292 (by decide)) (by omega) (hS1.2.1 _ (by omega)) ?_
            refine fg_iconst (fg_ft (pc := 70) tb_Mo_gap 39 rfl) ic_m1 ?_
            refine fg_ixor (fg_ft (pc := 71) tb_Mo_gap 40 rfl) ?_
            refine fg_iandD (fg_ft (pc := 72) tb_Mo_gap 41 rfl) ?_
            refine fg_if_neN (tgt := 117) (fg_ft (pc := 73) tb_Mo_gap 42 rfl) (by decide) (fg_df_le31 (by omega)) (fun c73 => ?_) (fun c73 => ?_)
            · refine fg_iincN (fg_ft (pc := 117) tb_Mo_gap 62 rfl) rfl ic_1 rfl ?_
              refine fg_goto (tgt := 49) (fg_ft (pc := 120) tb_Mo_gap 63 rfl) (by decide) ?_
              exact ih (p + 1) x (by omega) (by omega) (fg_mxI_0 hI (by first | exact Or.inl (fun hh => c73 (fg_df0.mpr hh.1)) | exact Or.inl (fun hh => c83 hh.2) | exact Or.inr c99))
            · refine fg_aloadn (fg_ft (pc := 76) tb_Mo_gap 43 rfl) rfl ?_
              refine fg_getR (fg_ft (pc := 77) tb_Mo_gap 44 rfl) ff_Mo_20 ly_287 rfl (fg_lt ly_287 (by decide)) (rh_287_11 R) ?_
              refine fg_iload (fg_ft (pc := 80) tb_Mo_gap 45 rfl) rfl ?_
              refine fg_zaldV (v := (fg_bI (fg_clsd (A.ts town) p))) (fg_ft (pc := 82) tb_Mo_gap 46 rfl) ly_291 (fg_lt ly_291 (by decide)) (by omega) (hC1 p (by omega)) ?_
              refine fg_ifB_ne (tgt := 89) (fg_ft (pc := 83) tb_Mo_gap 47 rfl) (by decide) (fun c83 => ?_) (fun c83 => ?_)
              · refine fg_aloadn (fg_ft (pc := 89) tb_Mo_gap 49 rfl) rfl ?_
                refine fg_iload (fg_ft (pc := 90) tb_Mo_gap 50 rfl) rfl ?_
                refine fg_iload (fg_ft (pc := 92) tb_Mo_gap 51 rfl) rfl ?_
                refine fg_callV (fg_ft (pc := 94) tb_Mo_gap 52 rfl) cf_Mo_266 (fg_isOf ly_287 rfl (fg_lt ly_287 (by decide))) (as := [.int (nI (610 + 152 * town)), .int (nI p)]) (st := []) rfl rfl (Nat.le_of_ble_eq_true rfl) (Nat.le_refl _) (Nat.le_refl _) (ev_Mo_worthOf hM1 hok (m := p) (by omega) ?_)
                refine fg_iload (fg_ft (pc := 97) tb_Mo_gap 53 rfl) rfl ?_
                refine fg_icmp_le (tgt := 113) (fg_ft (pc := 99) tb_Mo_gap 54 rfl) (by decide) (fun c99 => ?_) (fun c99 => ?_)
                · refine fg_iload (fg_ft (pc := 113) tb_Mo_gap 60 rfl) rfl ?_
                  refine fg_istore (fg_ft (pc := 115) tb_Mo_gap 61 rfl) (Nat.le_of_ble_eq_true rfl) ?_
                  refine fg_iincN (fg_ft (pc := 117) tb_Mo_gap 62 rfl) rfl ic_1 rfl ?_
                  refine fg_goto (tgt := 49) (fg_ft (pc := 120) tb_Mo_gap 63 rfl) (by decide) ?_
                  exact ih (p + 1) x (by omega) (by omega) (fg_mxI_0 hI (by first | exact Or.inl (fun hh => c73 (fg_df0.mpr hh.1)) | exact Or.inl (fun hh => c83 hh.2) | exact Or.inr c99))
                · refine fg_aloadn (fg_ft (pc := 102) tb_Mo_gap 55 rfl) rfl ?_
                  refine fg_iload (fg_ft (pc := 103) tb_Mo_gap 56 rfl) rfl ?_
                  refine fg_iload (fg_ft (pc := 105) tb_Mo_gap 57 rfl) rfl ?_
                  refine fg_callV (fg_ft (pc := 107) tb_Mo_gap 58 rfl) cf_Mo_266 (fg_isOf ly_287 rfl (fg_lt ly_287 (by decide))) (as := [.int (nI (610 + 152 * town)), .int (nI p)]) (st := []) rfl rfl (Nat.le_of_ble_eq_true rfl) (Nat.le_refl _) (Nat.le_refl _) (ev_Mo_worthOf hM1 hok (m := p) (by omega) ?_)
                  refine fg_goto (tgt := 115) (fg_ft (pc := 110) tb_Mo_gap 59 rfl) (by decide) ?_
                  refine fg_istore (fg_ft (pc := 115) tb_Mo_gap 61 rfl) (Nat.le_of_ble_eq_true rfl) ?_
                  refine fg_iincN (fg_ft (pc := 117) tb_Mo_gap 62 rfl) rfl ic_1 rfl ?_
                  refine fg_goto (tgt := 49) (fg_ft (pc := 120) tb_Mo_gap 63 rfl) (by decide) ?_
                  exact ih (p + 1) _ (by omega) (by omega) (fg_mxI_1 hI (fg_df0.mp c73) c83 (Int32.not_le.mp c99))
              · refine fg_goto (tgt := 117) (fg_ft (pc := 86) tb_Mo_gap 48 rfl) (by decide) ?_
                refine fg_iincN (fg_ft (pc := 117) tb_Mo_gap 62 rfl) rfl ic_1 rfl ?_
                refine fg_goto (tgt := 49) (fg_ft (pc := 120) tb_Mo_gap 63 rfl) (by decide) ?_
                exact ih (p + 1) x (by omega) (by omega) (fg_mxI_0 hI (by first | exact Or.inl (fun hh => c73 (fg_df0.mpr hh.1)) | exact Or.inl (fun hh => c83 hh.2) | exact Or.inr c99))
      exact loop ((S.2.1.1 person) + 2) 0 _ (by omega) (by omega) ⟨⟨_, fg_le_rf _, hmc, rfl⟩, fun q hq => absurd hq (Nat.not_lt_zero _)⟩
