def fg_agO (μ μ' : Nat → Nat → Int32) : Prop := ∀ a, a ≠ 302 → a ≠ 303 → ∀ j, μ' a j = μ a j
theorem fg_agO_tr {μ μ' μ'' : Nat → Nat → Int32} (h1 : fg_agO μ μ') (h2 : fg_agO μ' μ'') : fg_agO μ μ'' := fun a a1 a2 j => (h2 a a1 a2 j).trans (h1 a a1 a2 j)
theorem fg_agR_O {μ μ' : Nat → Nat → Int32} (h : fg_agO μ μ') : fg_agR μ μ' := ⟨fun a ha j => h a (by omega) (by omega) j, h 287 (by decide) (by decide) 17, h 287 (by decide) (by decide) 19⟩
theorem fg_MS.agO {μ μ' : Nat → Nat → Int32} {T : Nat → Nat} {S : fg_H3} {lv : Nat → Nat} {o : Option Nat × Nat × Nat} {n0 y : Int32} (H : fg_MS μ T S lv o n0 y) (e : fg_agO μ μ') : fg_MS μ' T S lv o n0 y := by
  obtain ⟨h1, h2, h3, h4, h5, h6, h7, h8, h9⟩ := H
  have e7 := e 287 (by decide) (by decide)
  exact ⟨(e7 _).trans h1, fun q hq => (e 292 (by decide) (by decide) _).trans (h2 q hq), fun q hq => (e 293 (by decide) (by decide) _).trans (h3 q hq), fun q hq => (e 294 (by decide) (by decide) _).trans (h4 q hq), (e7 _).trans h5, (e7 _).trans h6, (e7 _).trans h7, h8.elim Or.inl (fun z => Or.inr ((e7 _).trans z)), (e7 _).trans h9⟩
theorem fg_pow5 {k : Nat} (hk : k ≤ 5) : k ^ k ≤ 3125 := by
  rcases (show k = 0 ∨ k = 1 ∨ k = 2 ∨ k = 3 ∨ k = 4 ∨ k = 5 by omega) with rfl | rfl | rfl | rfl | rfl | rfl <;> decide
theorem ev_Mo_order {E : fg_E} {d : Nat} {μ : Nat → Nat → Int32} {R : fg_T4} {Q : Option Value → fg_M → Prop} {A : fg_Tl} (hL : fg_ML (μ 288) A) (hw : fg_wA A) (h17 : μ 287 17 = -1) (h19 : μ 287 19 = nI 0) {town day n person facts kind spot : Nat} (htown : town < 2 ^ 32) (hday : day < 2 ^ 32) (hn : n < 2 ^ 32) (hperson : person < 2 ^ 32) (hfacts : facts < 2 ^ 32) (hkind : kind < 2 ^ 32) (hspot : spot < 2 ^ 32) (hQ : ∀ μ' : Nat → Nat → Int32, fg_agR μ μ' → Q (some (.int (an_order A town day n person facts kind spot))) (μ', fg_rho R, 304)) : fg_Ev E yy_Mo_order (d + 12) [.ref 287, .int (nI town), .int (nI day), .int (nI n), .int (nI person), .int (nI facts), .int (nI kind), .int (nI spot)] (μ, fg_rho R, 304) 304 Q := by
  have ht2 := hw.2.1
  have hd3 := hw.2.2.1
  refine fg_intro (by decide +kernel) (Nat.le_of_ble_eq_true rfl) (fg_okAs rfl) (Nat.le_refl _) ?_
  refine fg_iload (fg_ft (pc := 0) tb_Mo_order 0 rfl) rfl ?_
  refine fg_iconst (fg_ft (pc := 2) tb_Mo_order 1 rfl) ic_0 ?_
  refine fg_iconst (fg_ft (pc := 3) tb_Mo_order 2 rfl) ic_2 ?_
  refine fg_callS (fg_ft (pc := 4) tb_Mo_order 3 rfl) cf_Mo_110 (as := [.int (nI kind), .int (nI 0), .int (nI 2)]) (st := []) rfl rfl (Nat.le_of_ble_eq_true rfl) (Nat.le_refl _) (Nat.le_refl _) (ev_Mo_isInC (k := kind) (a := 0) (b := 2) (hkind) (by omega) (by omega) ?_)
  refine fg_ifB_eq (tgt := 43) (fg_ft (pc := 7) tb_Mo_order 4 rfl) (by decide) (fun c7 => ?_) (fun c7 => ?_)
  · refine fg_iconst (fg_ft (pc := 43) tb_Mo_order 24 rfl) ic_m1 ?_
    exact fg_iret (fg_ft (pc := 44) tb_Mo_order 25 rfl) rfl rfl (fg_q (hQ _ (fg_agR_rf μ)) (by unfold an_order; rw [fg_g1_cst (by intro T S lv; exact fg_ifF (fun hh => by have := hh.1; omega))]))
  · refine fg_aloadn (fg_ft (pc := 10) tb_Mo_order 5 rfl) rfl ?_
    refine fg_iloadn (fg_ft (pc := 11) tb_Mo_order 6 rfl) rfl ?_
    refine fg_iloadn (fg_ft (pc := 12) tb_Mo_order 7 rfl) rfl ?_
    refine fg_iloadn (fg_ft (pc := 13) tb_Mo_order 8 rfl) rfl ?_
    refine fg_iload (fg_ft (pc := 14) tb_Mo_order 9 rfl) rfl ?_
    refine fg_callV (fg_ft (pc := 16) tb_Mo_order 10 rfl) cf_Mo_258 (fg_isOf ly_287 rfl (fg_lt ly_287 (by decide))) (as := [.int (nI town), .int (nI day), .int (nI n), .int (nI person)]) (st := []) rfl rfl (Nat.le_of_ble_eq_true rfl) (Nat.le_refl _) (Nat.le_refl _) (ev_Mo_isOne hL hw h17 h19 htown hday hn hperson (fun n4 μ1 ha1 => ?_) (fun S lv y4 y5 μ1 n1 y1 ha1 hC1 hS1 => ?_))
    · refine fg_if_eq (tgt := 43) (fg_ft (pc := 19) tb_Mo_order 11 rfl) (by decide) (fun _ => ?_) (fun h => absurd h (by decide))
      refine fg_iconst (fg_ft (pc := 43) tb_Mo_order 24 rfl) ic_m1 ?_
      exact fg_iret (fg_ft (pc := 44) tb_Mo_order 25 rfl) rfl rfl (fg_q (hQ _ (fg_agR_A ha1)) (by unfold an_order; rw [fg_g1_none n4]))
    · have ytc := fg_fnd_t y4
      have hok := hw.2.2.2.1 town ytc
      have hM1 := (hL.2.2.1 town ytc).ag ha1.m
      have hz : fg_zok (A.ts town) S.1 (S.2.1.1, 0, 0, 0) S.2.2 := fg_zok.news (fg_fnd_okW hw y4)
      have hv0 := hM1.1
      have hb0 := hok.1
      have hb1 := hok.2.1
      have hp := hok.p
      have hz9 := hz.1
      have hm2 := hz.2.1 person y5
      have hm0 : S.2.1.1 person < 2 ^ A.ts town 0 := hm2.1
      have hmc : fg_clsd (A.ts town) (S.2.1.1 person) := hm2.2
      have hm10 : S.2.1.1 person < 1024 := by omega
      refine fg_if_eq (tgt := 43) (fg_ft (pc := 19) tb_Mo_order 11 rfl) (by decide) (fun h => absurd h (by decide)) (fun _ => ?_)
      refine fg_iload (fg_ft (pc := 22) tb_Mo_order 12 rfl) rfl ?_
      refine fg_iconst (fg_ft (pc := 24) tb_Mo_order 13 rfl) ic_1 ?_
      refine fg_icmp_ltW (tgt := 43) (fg_ft (pc := 25) tb_Mo_order 14 rfl) (by decide) (hfacts) (by decide) (fun c25 => ?_) (fun c25 => ?_)
      · refine fg_iconst (fg_ft (pc := 43) tb_Mo_order 24 rfl) ic_m1 ?_
        exact fg_iret (fg_ft (pc := 44) tb_Mo_order 25 rfl) rfl rfl (fg_q (hQ _ (fg_agR_A ha1)) (by unfold an_order; rw [fg_g1_some y4 y5] <;> (exact fg_ifF (fun hh => by first | exact c40 hh.2.2.1 | (have h3 := hh.2.1; have h4 := fg_le_lt (fg_df0.mp hh.2.2.1) hm0; omega) | exact absurd hh.2.2.2.1 (by omega) | exact absurd hh.2.2.2.2 (by omega)))))
      · refine fg_iload (fg_ft (pc := 28) tb_Mo_order 15 rfl) rfl ?_
        refine fg_aloadn (fg_ft (pc := 30) tb_Mo_order 16 rfl) rfl ?_
        refine fg_getR (fg_ft (pc := 31) tb_Mo_order 17 rfl) ff_Mo_23 ly_287 rfl (fg_lt ly_287 (by decide)) (rh_287_12 R) ?_
        refine fg_iload (fg_ft (pc := 34) tb_Mo_order 18 rfl) rfl ?_
        refine fg_ialdV (v := (nI (S.2.1.1 person))) (fg_ft (pc := 36) tb_Mo_order 19 rfl) ly_292 (fg_lt ly_292 (by decide)) (by omega) (hS1.2.1 _ (by omega)) ?_
        refine fg_iconst (fg_ft (pc := 37) tb_Mo_order 20 rfl) ic_m1 ?_
        refine fg_ixor (fg_ft (pc := 38) tb_Mo_order 21 rfl) ?_
        refine fg_iandD (fg_ft (pc := 39) tb_Mo_order 22 rfl) ?_
        refine fg_if_eqN (tgt := 45) (fg_ft (pc := 40) tb_Mo_order 23 rfl) (by decide) (fg_df_le31 (by omega)) (fun c40 => ?_) (fun c40 => ?_)
        · have hfa : facts < 2 ^ A.ts town 0 := fg_le_lt (fg_df0.mp c40) hm0
          have hfa10 : facts < 1024 := by omega
          have hpc12 := fg_pc_le facts
          have hk0 : 0 < fg_pc facts := Nat.pos_of_ne_zero (fun h0 => by have := fg_pc0 hfa10 h0; omega)
          refine fg_iconst (fg_ft (pc := 45) tb_Mo_order 26 rfl) ic_0 ?_
          refine fg_iloadn (fg_ft (pc := 46) tb_Mo_order 27 rfl) rfl ?_
          refine fg_callS (fg_ft (pc := 47) tb_Mo_order 28 rfl) cf_Mo_166 (as := [.int (nI 0), .int (nI town)]) (st := []) rfl rfl (Nat.le_of_ble_eq_true rfl) (Nat.le_refl _) (Nat.le_refl _) (ev_Mo_placeOf0 (k := town) ?_)
          refine fg_istore (fg_ft (pc := 50) tb_Mo_order 29 rfl) (Nat.le_of_ble_eq_true rfl) ?_
          refine fg_iload (fg_ft (pc := 52) tb_Mo_order 30 rfl) rfl ?_
          refine fg_callS (fg_ft (pc := 54) tb_Mo_order 31 rfl) cf_Mo_185 (as := [.int (nI facts)]) (st := []) rfl rfl (Nat.le_of_ble_eq_true rfl) (Nat.le_refl _) (Nat.le_refl _) (ev_Mo_many (s := facts) (by omega) ?_)
          refine fg_istore (fg_ft (pc := 57) tb_Mo_order 32 rfl) (Nat.le_of_ble_eq_true rfl) ?_
          refine fg_iload (fg_ft (pc := 59) tb_Mo_order 33 rfl) rfl ?_
          refine fg_iconst (fg_ft (pc := 61) tb_Mo_order 34 rfl) ic_5 ?_
          refine fg_icmp_gtN (tgt := 78) (fg_ft (pc := 62) tb_Mo_order 35 rfl) (by decide) (by omega) (by decide) (fun c62 => ?_) (fun c62 => ?_)
          · refine fg_iconst (fg_ft (pc := 78) tb_Mo_order 43 rfl) ic_m1 ?_
            exact fg_iret (fg_ft (pc := 79) tb_Mo_order 44 rfl) rfl rfl (fg_q (hQ _ (fg_agR_A ha1)) (by unfold an_order; rw [fg_g1_some y4 y5] <;> (exact fg_ifF (fun hh => by first | exact c40 hh.2.2.1 | (have h3 := hh.2.1; have h4 := fg_le_lt (fg_df0.mp hh.2.2.1) hm0; omega) | exact absurd hh.2.2.2.1 (by omega) | exact absurd hh.2.2.2.2 (by omega)))))
          · refine fg_iload (fg_ft (pc := 65) tb_Mo_order 36 rfl) rfl ?_
            refine fg_iconst (fg_ft (pc := 67) tb_Mo_order 37 rfl) ic_0 ?_
            refine fg_iload (fg_ft (pc := 68) tb_Mo_order 38 rfl) rfl ?_
            refine fg_iconst (fg_ft (pc := 70) tb_Mo_order 39 rfl) ic_1 ?_
            refine fg_isubN (fg_ft (pc := 71) tb_Mo_order 40 rfl) (by omega) ?_
            refine fg_callS (fg_ft (pc := 72) tb_Mo_order 41 rfl) cf_Mo_110 (as := [.int (nI spot), .int (nI 0), .int (nI ((fg_pc facts) - 1))]) (st := []) rfl rfl (Nat.le_of_ble_eq_true rfl) (Nat.le_refl _) (Nat.le_refl _) (ev_Mo_isInC (k := spot) (a := 0) (b := ((fg_pc facts) - 1)) (hspot) (by omega) (by omega) ?_)
            refine fg_ifB_ne (tgt := 80) (fg_ft (pc := 75) tb_Mo_order 42 rfl) (by decide) (fun c75 => ?_) (fun c75 => ?_)
            · refine fg_iconst (fg_ft (pc := 80) tb_Mo_order 45 rfl) ic_0 ?_
              refine fg_istore (fg_ft (pc := 81) tb_Mo_order 46 rfl) (Nat.le_of_ble_eq_true rfl) ?_
              refine fg_iconst (fg_ft (pc := 83) tb_Mo_order 47 rfl) ic_0 ?_
              refine fg_istore (fg_ft (pc := 84) tb_Mo_order 48 rfl) (Nat.le_of_ble_eq_true rfl) ?_
              have hcond : fg_oC (A.ts town) (S.2.1.1 person) facts kind spot := ⟨by omega, fun h0 => by omega, c40, by omega, by omega⟩
              have hpw := fg_pow5 (k := fg_pc facts) (by omega)
              have codes : ∀ (m c : Nat) (ν : Nat → Nat → Int32) (v10 v12 v13 v14 v15 v16 : Value), fg_pc facts ^ fg_pc facts - c < m → c ≤ fg_pc facts ^ fg_pc facts → fg_agO μ1 ν → (∀ j, j < fg_pc facts → ν 302 j = nI (fg_fi facts j)) → (∀ q, q < c → ¬ fg_GD (A.ts town) kind facts (fg_pc facts) (S.2.1.1 person) 0 (fg_dg (fg_pc facts) (fg_pc facts) q)) → fg_wp E yy_Mo_order (d + 12) 304 304 Q 127 [.ref 287, .int (nI town), .int (nI day), .int (nI n), .int (nI person), .int (nI facts), .int (nI kind), .int (nI spot), .int (nI (610 + 152 * town)), .int (nI (fg_pc facts)), v10, .int (nI c), v12, v13, v14, v15, v16] [] (ν, fg_rho R, 304) := by
                intro m
                induction m with
                | zero => intro c ν v10 v12 v13 v14 v15 v16 h; exact absurd h (Nat.not_lt_zero _)
                | succ m ih =>
                  intro c ν v10 v12 v13 v14 v15 v16 hm hc hag h302 hno
                  have hMn := hM1.ag (hag 288 (by decide) (by decide))
                  have hCn := hC1.ag (hag 291 (by decide) (by decide))
                  have hSn := hS1.agO hag
                  refine fg_iload (fg_ft (pc := 127) tb_Mo_order 69 rfl) rfl ?_
                  refine fg_iload (fg_ft (pc := 129) tb_Mo_order 70 rfl) rfl ?_
                  refine fg_callS (fg_ft (pc := 131) tb_Mo_order 71 rfl) cf_Mo_300 (as := [.int (nI (fg_pc facts))]) (st := [.int (nI c)]) rfl rfl (Nat.le_of_ble_eq_true rfl) (Nat.le_refl _) (Nat.le_refl _) (ev_Mo_power (k := fg_pc facts) (by omega) ?_)
                  refine fg_icmp_geN (tgt := 282) (fg_ft (pc := 134) tb_Mo_order 72 rfl) (by decide) (by omega) (by omega) (fun c134 => ?_) (fun c134 => ?_)
                  · refine fg_iconst (fg_ft (pc := 282) tb_Mo_order 146 rfl) ic_m1 ?_
                    exact fg_iret (fg_ft (pc := 283) tb_Mo_order 147 rfl) rfl rfl (fg_q (hQ _ (fg_agR_tr (fg_agR_A ha1) (fg_agR_O hag))) (by unfold an_order; rw [fg_g1_some y4 y5] <;> (rw [fg_ifT hcond]; exact fg_or_noco hok hfa hk0 (by omega) (fun q hq => hno q (by omega)))))
                  · refine fg_aloadn (fg_ft (pc := 137) tb_Mo_order 73 rfl) rfl ?_
                    refine fg_iload (fg_ft (pc := 138) tb_Mo_order 74 rfl) rfl ?_
                    refine fg_iload (fg_ft (pc := 140) tb_Mo_order 75 rfl) rfl ?_
                    refine fg_callV (fg_ft (pc := 142) tb_Mo_order 76 rfl) cf_Mo_303 (fg_isOf ly_287 rfl (fg_lt ly_287 (by decide))) (as := [.int (nI (fg_pc facts)), .int (nI c)]) (st := []) rfl rfl (Nat.le_of_ble_eq_true rfl) (Nat.le_refl _) (Nat.le_refl _) (ev_Mo_isRow (k := fg_pc facts) (c := c) hk0 (by omega) (by omega) ?_)
                    intro ν2 hg2 hdg
                    have hag2 : fg_agO μ1 ν2 := fg_agO_tr hag (fun a _ a2 j => hg2 a a2 j)
                    have h3022 : ∀ j, j < fg_pc facts → ν2 302 j = nI (fg_fi facts j) := fun j hj => (hg2 302 (by decide) _).trans (h302 j hj)
                    have hM2 := hM1.ag (hag2 288 (by decide) (by decide))
                    have hC2 := hC1.ag (hag2 291 (by decide) (by decide))
                    have hS2 := hS1.agO hag2
                    show fg_wp _ _ _ _ _ _ _ _ _ (ν2, fg_rho R, 304)
                    refine fg_ifB_ne (tgt := 151) (fg_ft (pc := 145) tb_Mo_order 77 rfl) (by decide) (fun c145 => ?_) (fun c145 => ?_)
                    · refine fg_aloadn (fg_ft (pc := 151) tb_Mo_order 79 rfl) rfl ?_
                      refine fg_getR (fg_ft (pc := 152) tb_Mo_order 80 rfl) ff_Mo_23 ly_287 rfl (fg_lt ly_287 (by decide)) (rh_287_12 R) ?_
                      refine fg_iload (fg_ft (pc := 155) tb_Mo_order 81 rfl) rfl ?_
                      refine fg_ialdV (v := (nI (S.2.1.1 person))) (fg_ft (pc := 157) tb_Mo_order 82 rfl) ly_292 (fg_lt ly_292 (by decide)) (by omega) (hS2.2.1 _ (by omega)) ?_
                      refine fg_istore (fg_ft (pc := 158) tb_Mo_order 83 rfl) (Nat.le_of_ble_eq_true rfl) ?_
                      refine fg_iconst (fg_ft (pc := 160) tb_Mo_order 84 rfl) ic_1 ?_
                      refine fg_istore (fg_ft (pc := 161) tb_Mo_order 85 rfl) (Nat.le_of_ble_eq_true rfl) ?_
                      refine fg_iconst (fg_ft (pc := 163) tb_Mo_order 86 rfl) ic_0 ?_
                      refine fg_istore (fg_ft (pc := 164) tb_Mo_order 87 rfl) (Nat.le_of_ble_eq_true rfl) ?_
                      have run : ∀ (q i mi : Nat) (w15 w16 : Value), fg_pc facts - i < q → i ≤ fg_pc facts → mi < 2 ^ A.ts town 0 → (fg_sim (A.ts town) kind facts (fg_pc facts) (S.2.1.1 person) (fg_dg (fg_pc facts) (fg_pc facts) c) ↔ fg_sim (A.ts town) kind facts (fg_pc facts - i) mi (fun j => fg_dg (fg_pc facts) (fg_pc facts) c (i + j))) → fg_wp E yy_Mo_order (d + 12) 304 304 Q 166 [.ref 287, .int (nI town), .int (nI day), .int (nI n), .int (nI person), .int (nI facts), .int (nI kind), .int (nI spot), .int (nI (610 + 152 * town)), .int (nI (fg_pc facts)), v10, .int (nI c), .int (nI mi), .int (nI 1), .int (nI i), w15, w16] [] (ν2, fg_rho R, 304) := by
                        intro q
                        induction q with
                        | zero => intro i mi w15 w16 h; exact absurd h (Nat.not_lt_zero _)
                        | succ q jh =>
                          intro i mi w15 w16 hq hi hmi hsim
                          have hdi : fg_dg (fg_pc facts) (fg_pc facts) c i < fg_pc facts := Nat.mod_lt _ hk0
                          have hfi := fg_fi_is hfa10 hdi
                          have hfl : fg_fgt (A.ts town) mi (fg_fi facts (fg_dg (fg_pc facts) (fg_pc facts) c i)) kind < 2 ^ A.ts town 0 := fg_fgt_lt hok hmi
                          have hml := fg_p10 hmi hok.1.2
                          have hfl10 := fg_p10 hfl hok.1.2
                          have hstep : i < fg_pc facts → (fg_sim (A.ts town) kind facts (fg_pc facts - i) mi (fun j => fg_dg (fg_pc facts) (fg_pc facts) c (i + j)) ↔ ¬ fg_w (A.ts town) (fg_fgt (A.ts town) mi (fg_fi facts (fg_dg (fg_pc facts) (fg_pc facts) c i)) kind) < fg_w (A.ts town) mi ∧ fg_sim (A.ts town) kind facts (fg_pc facts - (i + 1)) (fg_fgt (A.ts town) mi (fg_fi facts (fg_dg (fg_pc facts) (fg_pc facts) c i)) kind) (fun j => fg_dg (fg_pc facts) (fg_pc facts) c (i + 1 + j))) := fun hik => by
                            rw [show fg_pc facts - i = fg_pc facts - (i + 1) + 1 by omega]
                            have ef : (fun j => fg_dg (fg_pc facts) (fg_pc facts) c (i + (j + 1))) = (fun j => fg_dg (fg_pc facts) (fg_pc facts) c (i + 1 + j)) := funext (fun j => by rw [show i + (j + 1) = i + 1 + j by omega])
                            rw [← ef]
                            exact Iff.rfl
                          refine fg_iload (fg_ft (pc := 166) tb_Mo_order 88 rfl) rfl ?_
                          refine fg_iload (fg_ft (pc := 168) tb_Mo_order 89 rfl) rfl ?_
                          refine fg_icmp_geN (tgt := 258) (fg_ft (pc := 170) tb_Mo_order 90 rfl) (by decide) (by omega) (by omega) (fun c170 => ?_) (fun c170 => ?_)
                          · refine fg_iload (fg_ft (pc := 258) tb_Mo_order 134 rfl) rfl ?_
                            refine fg_if_eq (tgt := 276) (fg_ft (pc := 260) tb_Mo_order 135 rfl) (by decide) (fun h => absurd h (by decide)) (fun _ => ?_)
                            refine fg_aloadn (fg_ft (pc := 263) tb_Mo_order 136 rfl) rfl ?_
                            refine fg_getR (fg_ft (pc := 264) tb_Mo_order 137 rfl) ff_Mo_57 ly_287 rfl (fg_lt ly_287 (by decide)) (rh_287_29 R) ?_
                            refine fg_aloadn (fg_ft (pc := 267) tb_Mo_order 138 rfl) rfl ?_
                            refine fg_getR (fg_ft (pc := 268) tb_Mo_order 139 rfl) ff_Mo_60 ly_287 rfl (fg_lt ly_287 (by decide)) (rh_287_30 R) ?_
                            refine fg_iload (fg_ft (pc := 271) tb_Mo_order 140 rfl) rfl ?_
                            refine fg_ialdV (v := (nI (fg_dg (fg_pc facts) (fg_pc facts) c spot))) (fg_ft (pc := 273) tb_Mo_order 141 rfl) ly_303 (fg_lt ly_303 (by decide)) (by omega) (hdg _ (by omega)) ?_
                            refine fg_ialdV (v := (nI (fg_fi facts (fg_dg (fg_pc facts) (fg_pc facts) c spot)))) (fg_ft (pc := 274) tb_Mo_order 142 rfl) ly_302 (fg_lt ly_302 (by decide)) (by have := Nat.mod_lt c hk0; have h9 : fg_dg (fg_pc facts) (fg_pc facts) c spot < fg_pc facts := Nat.mod_lt _ hk0; omega) (h3022 _ (Nat.mod_lt _ hk0)) ?_
                            exact fg_iret (fg_ft (pc := 275) tb_Mo_order 143 rfl) rfl rfl (fg_q (hQ _ (fg_agR_tr (fg_agR_A ha1) (fg_agR_O hag2))) (by unfold an_order; rw [fg_g1_some y4 y5] <;> (rw [fg_ifT hcond]; exact fg_or_code hok hfa (by omega) (by omega) (by omega) ((fg_GD_row hk0 (by omega)).mpr ⟨c145, hsim.mpr (by rw [show fg_pc facts - i = 0 by omega]; trivial)⟩) hno)))
                          · refine fg_iload (fg_ft (pc := 173) tb_Mo_order 91 rfl) rfl ?_
                            refine fg_if_eq (tgt := 258) (fg_ft (pc := 175) tb_Mo_order 92 rfl) (by decide) (fun h => absurd h (by decide)) (fun _ => ?_)
                            refine fg_aloadn (fg_ft (pc := 178) tb_Mo_order 93 rfl) rfl ?_
                            refine fg_getR (fg_ft (pc := 179) tb_Mo_order 94 rfl) ff_Mo_57 ly_287 rfl (fg_lt ly_287 (by decide)) (rh_287_29 R) ?_
                            refine fg_aloadn (fg_ft (pc := 182) tb_Mo_order 95 rfl) rfl ?_
                            refine fg_getR (fg_ft (pc := 183) tb_Mo_order 96 rfl) ff_Mo_60 ly_287 rfl (fg_lt ly_287 (by decide)) (rh_287_30 R) ?_
                            refine fg_iload (fg_ft (pc := 186) tb_Mo_order 97 rfl) rfl ?_
                            refine fg_ialdV (v := (nI (fg_dg (fg_pc facts) (fg_pc facts) c i))) (fg_ft (pc := 188) tb_Mo_order 98 rfl) ly_303 (fg_lt ly_303 (by decide)) (by omega) (hdg _ (by omega)) ?_
                            refine fg_ialdV (v := (nI (fg_fi facts (fg_dg (fg_pc facts) (fg_pc facts) c i)))) (fg_ft (pc := 189) tb_Mo_order 99 rfl) ly_302 (fg_lt ly_302 (by decide)) (by omega) (h3022 _ (Nat.mod_lt _ hk0)) ?_
                            refine fg_istore (fg_ft (pc := 190) tb_Mo_order 100 rfl) (Nat.le_of_ble_eq_true rfl) ?_
                            refine fg_iload (fg_ft (pc := 192) tb_Mo_order 101 rfl) rfl ?_
                            refine fg_iload (fg_ft (pc := 194) tb_Mo_order 102 rfl) rfl ?_
                            refine fg_ishrN (fg_ft (pc := 196) tb_Mo_order 103 rfl) (by omega) (by omega) ?_
                            refine fg_iconst (fg_ft (pc := 197) tb_Mo_order 104 rfl) ic_1 ?_
                            refine fg_iandN (fg_ft (pc := 198) tb_Mo_order 105 rfl) ?_
                            refine fg_iconst (fg_ft (pc := 199) tb_Mo_order 106 rfl) ic_1 ?_
                            refine fg_icmpbit_ne (tgt := 218) (fg_ft (pc := 200) tb_Mo_order 107 rfl) (by decide) (fun c200 => ?_) (fun c200 => ?_)
                            · refine fg_iload (fg_ft (pc := 218) tb_Mo_order 115 rfl) rfl ?_
                              refine fg_top (y := nI (fg_fgt (A.ts town) mi (fg_fi facts (fg_dg (fg_pc facts) (fg_pc facts) c i)) kind)) (by unfold fg_fgt; rw [if_neg (by rw [c200]; decide)]) ?_
                              refine fg_istore (fg_ft (pc := 220) tb_Mo_order 116 rfl) (Nat.le_of_ble_eq_true rfl) ?_
                              refine fg_aloadn (fg_ft (pc := 222) tb_Mo_order 117 rfl) rfl ?_
                              refine fg_iload (fg_ft (pc := 223) tb_Mo_order 118 rfl) rfl ?_
                              refine fg_iload (fg_ft (pc := 225) tb_Mo_order 119 rfl) rfl ?_
                              refine fg_callV (fg_ft (pc := 227) tb_Mo_order 120 rfl) cf_Mo_266 (fg_isOf ly_287 rfl (fg_lt ly_287 (by decide))) (as := [.int (nI (610 + 152 * town)), .int (nI (fg_fgt (A.ts town) mi (fg_fi facts (fg_dg (fg_pc facts) (fg_pc facts) c i)) kind))]) (st := []) rfl rfl (Nat.le_of_ble_eq_true rfl) (Nat.le_refl _) (Nat.le_refl _) (ev_Mo_worthOf hM2 hok (m := (fg_fgt (A.ts town) mi (fg_fi facts (fg_dg (fg_pc facts) (fg_pc facts) c i)) kind)) (hfl10) ?_)
                              refine fg_aloadn (fg_ft (pc := 230) tb_Mo_order 121 rfl) rfl ?_
                              refine fg_iload (fg_ft (pc := 231) tb_Mo_order 122 rfl) rfl ?_
                              refine fg_iload (fg_ft (pc := 233) tb_Mo_order 123 rfl) rfl ?_
                              refine fg_callV (fg_ft (pc := 235) tb_Mo_order 124 rfl) cf_Mo_266 (fg_isOf ly_287 rfl (fg_lt ly_287 (by decide))) (as := [.int (nI (610 + 152 * town)), .int (nI mi)]) (st := [.int (fg_w (A.ts town) (fg_fgt (A.ts town) mi (fg_fi facts (fg_dg (fg_pc facts) (fg_pc facts) c i)) kind))]) rfl rfl (Nat.le_of_ble_eq_true rfl) (Nat.le_refl _) (Nat.le_refl _) (ev_Mo_worthOf hM2 hok (m := mi) (hml) ?_)
                              refine fg_icmp_lt (tgt := 245) (fg_ft (pc := 238) tb_Mo_order 125 rfl) (by decide) (fun c238 => ?_) (fun c238 => ?_)
                              · refine fg_iconst (fg_ft (pc := 245) tb_Mo_order 128 rfl) ic_0 ?_
                                refine fg_istore (fg_ft (pc := 246) tb_Mo_order 129 rfl) (Nat.le_of_ble_eq_true rfl) ?_
                                refine fg_iload (fg_ft (pc := 248) tb_Mo_order 130 rfl) rfl ?_
                                refine fg_istore (fg_ft (pc := 250) tb_Mo_order 131 rfl) (Nat.le_of_ble_eq_true rfl) ?_
                                refine fg_iincN (fg_ft (pc := 252) tb_Mo_order 132 rfl) rfl ic_1 rfl ?_
                                refine fg_goto (tgt := 166) (fg_ft (pc := 255) tb_Mo_order 133 rfl) (by decide) ?_
                                refine fg_iload (fg_ft (pc := 166) tb_Mo_order 88 rfl) rfl ?_
                                refine fg_iload (fg_ft (pc := 168) tb_Mo_order 89 rfl) rfl ?_
                                refine fg_icmp_geN (tgt := 258) (fg_ft (pc := 170) tb_Mo_order 90 rfl) (by decide) (by omega) (by omega) (fun c170 => ?_) (fun c170 => ?_)
                                · refine fg_iload (fg_ft (pc := 258) tb_Mo_order 134 rfl) rfl ?_
                                  refine fg_if_eq (tgt := 276) (fg_ft (pc := 260) tb_Mo_order 135 rfl) (by decide) (fun _ => ?_) (fun h => absurd h (by decide))
                                  refine fg_iincN (fg_ft (pc := 276) tb_Mo_order 144 rfl) rfl ic_1 rfl ?_
                                  refine fg_goto (tgt := 127) (fg_ft (pc := 279) tb_Mo_order 145 rfl) (by decide) ?_
                                  exact ih (c + 1) ν2 _ _ _ _ _ _ (by omega) (by omega) hag2 h3022 (fun q hq => by
                                    rcases Nat.lt_or_ge q c with z | z
                                    · exact hno q z
                                    · obtain rfl : q = c := by omega
                                      exact fun hh => absurd (((hstep (by omega)).mp (hsim.mp ((fg_GD_row hk0 (by omega)).mp hh).2)).1) (fun hz => hz c238))
                                · refine fg_iload (fg_ft (pc := 173) tb_Mo_order 91 rfl) rfl ?_
                                  refine fg_if_eq (tgt := 258) (fg_ft (pc := 175) tb_Mo_order 92 rfl) (by decide) (fun _ => ?_) (fun h => absurd h (by decide))
                                  refine fg_iload (fg_ft (pc := 258) tb_Mo_order 134 rfl) rfl ?_
                                  refine fg_if_eq (tgt := 276) (fg_ft (pc := 260) tb_Mo_order 135 rfl) (by decide) (fun _ => ?_) (fun h => absurd h (by decide))
                                  refine fg_iincN (fg_ft (pc := 276) tb_Mo_order 144 rfl) rfl ic_1 rfl ?_
                                  refine fg_goto (tgt := 127) (fg_ft (pc := 279) tb_Mo_order 145 rfl) (by decide) ?_
                                  exact ih (c + 1) ν2 _ _ _ _ _ _ (by omega) (by omega) hag2 h3022 (fun q hq => by
                                    rcases Nat.lt_or_ge q c with z | z
                                    · exact hno q z
                                    · obtain rfl : q = c := by omega
                                      exact fun hh => absurd (((hstep (by omega)).mp (hsim.mp ((fg_GD_row hk0 (by omega)).mp hh).2)).1) (fun hz => hz c238))
                              · refine fg_iconst (fg_ft (pc := 241) tb_Mo_order 126 rfl) ic_1 ?_
                                refine fg_goto (tgt := 246) (fg_ft (pc := 242) tb_Mo_order 127 rfl) (by decide) ?_
                                refine fg_istore (fg_ft (pc := 246) tb_Mo_order 129 rfl) (Nat.le_of_ble_eq_true rfl) ?_
                                refine fg_iload (fg_ft (pc := 248) tb_Mo_order 130 rfl) rfl ?_
                                refine fg_istore (fg_ft (pc := 250) tb_Mo_order 131 rfl) (Nat.le_of_ble_eq_true rfl) ?_
                                refine fg_iincN (fg_ft (pc := 252) tb_Mo_order 132 rfl) rfl ic_1 rfl ?_
                                refine fg_goto (tgt := 166) (fg_ft (pc := 255) tb_Mo_order 133 rfl) (by decide) ?_
                                exact jh (i + 1) _ _ _ (by omega) (by omega) hfl (hsim.trans ((hstep (by omega)).trans ⟨fun hh => hh.2, fun hh => ⟨by first | exact c238 | exact Int32.not_lt.mpr c238, hh⟩⟩))
                            · refine fg_aloadn (fg_ft (pc := 203) tb_Mo_order 108 rfl) rfl ?_
                              refine fg_iload (fg_ft (pc := 204) tb_Mo_order 109 rfl) rfl ?_
                              refine fg_iload (fg_ft (pc := 206) tb_Mo_order 110 rfl) rfl ?_
                              refine fg_iload (fg_ft (pc := 208) tb_Mo_order 111 rfl) rfl ?_
                              refine fg_iload (fg_ft (pc := 210) tb_Mo_order 112 rfl) rfl ?_
                              refine fg_callV (fg_ft (pc := 212) tb_Mo_order 113 rfl) cf_Mo_236 (fg_isOf ly_287 rfl (fg_lt ly_287 (by decide))) (as := [.int (nI (610 + 152 * town)), .int (nI mi), .int (nI (fg_fi facts (fg_dg (fg_pc facts) (fg_pc facts) c i))), .int (nI kind)]) (st := []) rfl rfl (Nat.le_of_ble_eq_true rfl) (Nat.le_refl _) (Nat.le_refl _) (ev_Mo_forget hM2 hok hC2 (m := mi) (f := (fg_fi facts (fg_dg (fg_pc facts) (fg_pc facts) c i))) (kd := kind) (hmi) (c200) (by omega) ?_)
                              refine fg_goto (tgt := 220) (fg_ft (pc := 215) tb_Mo_order 114 rfl) (by decide) ?_
                              refine fg_istore (fg_ft (pc := 220) tb_Mo_order 116 rfl) (Nat.le_of_ble_eq_true rfl) ?_
                              refine fg_aloadn (fg_ft (pc := 222) tb_Mo_order 117 rfl) rfl ?_
                              refine fg_iload (fg_ft (pc := 223) tb_Mo_order 118 rfl) rfl ?_
                              refine fg_iload (fg_ft (pc := 225) tb_Mo_order 119 rfl) rfl ?_
                              refine fg_callV (fg_ft (pc := 227) tb_Mo_order 120 rfl) cf_Mo_266 (fg_isOf ly_287 rfl (fg_lt ly_287 (by decide))) (as := [.int (nI (610 + 152 * town)), .int (nI (fg_fgt (A.ts town) mi (fg_fi facts (fg_dg (fg_pc facts) (fg_pc facts) c i)) kind))]) (st := []) rfl rfl (Nat.le_of_ble_eq_true rfl) (Nat.le_refl _) (Nat.le_refl _) (ev_Mo_worthOf hM2 hok (m := (fg_fgt (A.ts town) mi (fg_fi facts (fg_dg (fg_pc facts) (fg_pc facts) c i)) kind)) (hfl10) ?_)
                              refine fg_aloadn (fg_ft (pc := 230) tb_Mo_order 121 rfl) rfl ?_
                              refine fg_iload (fg_ft (pc := 231) tb_Mo_order 122 rfl) rfl ?_
                              refine fg_iload (fg_ft (pc := 233) tb_Mo_order 123 rfl) rfl ?_
                              refine fg_callV (fg_ft (pc := 235) tb_Mo_order 124 rfl) cf_Mo_266 (fg_isOf ly_287 rfl (fg_lt ly_287 (by decide))) (as := [.int (nI (610 + 152 * town)), .int (nI mi)]) (st := [.int (fg_w (A.ts town) (fg_fgt (A.ts town) mi (fg_fi facts (fg_dg (fg_pc facts) (fg_pc facts) c i)) kind))]) rfl rfl (Nat.le_of_ble_eq_true rfl) (Nat.le_refl _) (Nat.le_refl _) (ev_Mo_worthOf hM2 hok (m := mi) (hml) ?_)
                              refine fg_icmp_lt (tgt := 245) (fg_ft (pc := 238) tb_Mo_order 125 rfl) (by decide) (fun c238 => ?_) (fun c238 => ?_)
                              · refine fg_iconst (fg_ft (pc := 245) tb_Mo_order 128 rfl) ic_0 ?_
                                refine fg_istore (fg_ft (pc := 246) tb_Mo_order 129 rfl) (Nat.le_of_ble_eq_true rfl) ?_
                                refine fg_iload (fg_ft (pc := 248) tb_Mo_order 130 rfl) rfl ?_
                                refine fg_istore (fg_ft (pc := 250) tb_Mo_order 131 rfl) (Nat.le_of_ble_eq_true rfl) ?_
                                refine fg_iincN (fg_ft (pc := 252) tb_Mo_order 132 rfl) rfl ic_1 rfl ?_
                                refine fg_goto (tgt := 166) (fg_ft (pc := 255) tb_Mo_order 133 rfl) (by decide) ?_
                                refine fg_iload (fg_ft (pc := 166) tb_Mo_order 88 rfl) rfl ?_
                                refine fg_iload (fg_ft (pc := 168) tb_Mo_order 89 rfl) rfl ?_
                                refine fg_icmp_geN (tgt := 258) (fg_ft (pc := 170) tb_Mo_order 90 rfl) (by decide) (by omega) (by omega) (fun c170 => ?_) (fun c170 => ?_)
                                · refine fg_iload (fg_ft (pc := 258) tb_Mo_order 134 rfl) rfl ?_
                                  refine fg_if_eq (tgt := 276) (fg_ft (pc := 260) tb_Mo_order 135 rfl) (by decide) (fun _ => ?_) (fun h => absurd h (by decide))
                                  refine fg_iincN (fg_ft (pc := 276) tb_Mo_order 144 rfl) rfl ic_1 rfl ?_
                                  refine fg_goto (tgt := 127) (fg_ft (pc := 279) tb_Mo_order 145 rfl) (by decide) ?_
                                  exact ih (c + 1) ν2 _ _ _ _ _ _ (by omega) (by omega) hag2 h3022 (fun q hq => by
                                    rcases Nat.lt_or_ge q c with z | z
                                    · exact hno q z
                                    · obtain rfl : q = c := by omega
                                      exact fun hh => absurd (((hstep (by omega)).mp (hsim.mp ((fg_GD_row hk0 (by omega)).mp hh).2)).1) (fun hz => hz c238))
                                · refine fg_iload (fg_ft (pc := 173) tb_Mo_order 91 rfl) rfl ?_
                                  refine fg_if_eq (tgt := 258) (fg_ft (pc := 175) tb_Mo_order 92 rfl) (by decide) (fun _ => ?_) (fun h => absurd h (by decide))
                                  refine fg_iload (fg_ft (pc := 258) tb_Mo_order 134 rfl) rfl ?_
                                  refine fg_if_eq (tgt := 276) (fg_ft (pc := 260) tb_Mo_order 135 rfl) (by decide) (fun _ => ?_) (fun h => absurd h (by decide))
                                  refine fg_iincN (fg_ft (pc := 276) tb_Mo_order 144 rfl) rfl ic_1 rfl ?_
                                  refine fg_goto (tgt := 127) (fg_ft (pc := 279) tb_Mo_order 145 rfl) (by decide) ?_
                                  exact ih (c + 1) ν2 _ _ _ _ _ _ (by omega) (by omega) hag2 h3022 (fun q hq => by
                                    rcases Nat.lt_or_ge q c with z | z
                                    · exact hno q z
                                    · obtain rfl : q = c := by omega
                                      exact fun hh => absurd (((hstep (by omega)).mp (hsim.mp ((fg_GD_row hk0 (by omega)).mp hh).2)).1) (fun hz => hz c238))
                              · refine fg_iconst (fg_ft (pc := 241) tb_Mo_order 126 rfl) ic_1 ?_
                                refine fg_goto (tgt := 246) (fg_ft (pc := 242) tb_Mo_order 127 rfl) (by decide) ?_
                                refine fg_istore (fg_ft (pc := 246) tb_Mo_order 129 rfl) (Nat.le_of_ble_eq_true rfl) ?_
                                refine fg_iload (fg_ft (pc := 248) tb_Mo_order 130 rfl) rfl ?_
                                refine fg_istore (fg_ft (pc := 250) tb_Mo_order 131 rfl) (Nat.le_of_ble_eq_true rfl) ?_
                                refine fg_iincN (fg_ft (pc := 252) tb_Mo_order 132 rfl) rfl ic_1 rfl ?_
                                refine fg_goto (tgt := 166) (fg_ft (pc := 255) tb_Mo_order 133 rfl) (by decide) ?_
                                exact jh (i + 1) _ _ _ (by omega) (by omega) hfl (hsim.trans ((hstep (by omega)).trans ⟨fun hh => hh.2, fun hh => ⟨by first | exact c238 | exact Int32.not_lt.mpr c238, hh⟩⟩))
                      exact run (fg_pc facts + 1) 0 (S.2.1.1 person) _ _ (by omega) (by omega) hm0 (by rw [Nat.sub_zero, show (fun j => fg_dg (fg_pc facts) (fg_pc facts) c (0 + j)) = fg_dg (fg_pc facts) (fg_pc facts) c from funext (fun j => by rw [Nat.zero_add])])
                    · refine fg_goto (tgt := 276) (fg_ft (pc := 148) tb_Mo_order 78 rfl) (by decide) ?_
                      refine fg_iincN (fg_ft (pc := 276) tb_Mo_order 144 rfl) rfl ic_1 rfl ?_
                      refine fg_goto (tgt := 127) (fg_ft (pc := 279) tb_Mo_order 145 rfl) (by decide) ?_
                      exact ih (c + 1) ν2 _ _ _ _ _ _ (by omega) (by omega) hag2 h3022 (fun q hq => by
                        rcases Nat.lt_or_ge q c with z | z
                        · exact hno q z
                        · obtain rfl : q = c := by omega
                          exact fun hh => c145 ((fg_GD_row hk0 (by omega)).mp hh).1)
              have list : ∀ (m f : Nat) (ν : Nat → Nat → Int32), 10 - f < m → f ≤ 10 → fg_agO μ1 ν → (∀ q, q < f → facts.testBit q = true → ν 302 (fg_pcw q facts) = nI q) → ∀ v12 v13 v14 v15 v16 : Value, fg_wp E yy_Mo_order (d + 12) 304 304 Q 86 [.ref 287, .int (nI town), .int (nI day), .int (nI n), .int (nI person), .int (nI facts), .int (nI kind), .int (nI spot), .int (nI (610 + 152 * town)), .int (nI (fg_pc facts)), .int (nI (fg_pcw f facts)), .int (nI f), v12, v13, v14, v15, v16] [] (ν, fg_rho R, 304) := by
                intro m
                induction m with
                | zero => intro f ν h; exact absurd h (Nat.not_lt_zero _)
                | succ m ih =>
                  intro f ν hm hf hag h302 v12 v13 v14 v15 v16
                  refine fg_iload (fg_ft (pc := 86) tb_Mo_order 49 rfl) rfl ?_
                  refine fg_bipush (fg_ft (pc := 88) tb_Mo_order 50 rfl) ib_10 ?_
                  refine fg_icmp_geN (tgt := 124) (fg_ft (pc := 90) tb_Mo_order 51 rfl) (by decide) (by omega) (by decide) (fun c90 => ?_) (fun c90 => ?_)
                  · refine fg_iconst (fg_ft (pc := 124) tb_Mo_order 67 rfl) ic_0 ?_
                    refine fg_istore (fg_ft (pc := 125) tb_Mo_order 68 rfl) (Nat.le_of_ble_eq_true rfl) ?_
                    exact codes (fg_pc facts ^ fg_pc facts + 1) 0 ν _ _ _ _ _ _ (by omega) (Nat.zero_le _) hag (fun j hj => by
                      have h9 := fg_fi_is hfa10 hj
                      have := h302 (fg_fi facts j) (by omega) h9.2.1
                      rw [h9.2.2] at this
                      exact this) (fun q hq => absurd hq (Nat.not_lt_zero _))
                  · refine fg_iload (fg_ft (pc := 93) tb_Mo_order 52 rfl) rfl ?_
                    refine fg_iload (fg_ft (pc := 95) tb_Mo_order 53 rfl) rfl ?_
                    refine fg_ishrN (fg_ft (pc := 97) tb_Mo_order 54 rfl) (by omega) (by omega) ?_
                    refine fg_iconst (fg_ft (pc := 98) tb_Mo_order 55 rfl) ic_1 ?_
                    refine fg_iandN (fg_ft (pc := 99) tb_Mo_order 56 rfl) ?_
                    refine fg_ifbit_ne (tgt := 106) (fg_ft (pc := 100) tb_Mo_order 57 rfl) (by decide) (fun c100 => ?_) (fun c100 => ?_)
                    · refine fg_aloadn (fg_ft (pc := 106) tb_Mo_order 59 rfl) rfl ?_
                      refine fg_getR (fg_ft (pc := 107) tb_Mo_order 60 rfl) ff_Mo_57 ly_287 rfl (fg_lt ly_287 (by decide)) (rh_287_29 R) ?_
                      refine fg_iload (fg_ft (pc := 110) tb_Mo_order 61 rfl) rfl ?_
                      refine fg_iload (fg_ft (pc := 112) tb_Mo_order 62 rfl) rfl ?_
                      refine fg_iastN (fg_ft (pc := 114) tb_Mo_order 63 rfl) ly_302 (fg_lt ly_302 (by decide)) (by have := fg_pcw_in hfa10 c100; omega) ?_
                      show fg_wp _ _ _ _ _ _ _ _ _ (fg_u2 ν 302 (fg_pcw f facts) (nI f), fg_rho R, 304)
                      refine fg_iincN (fg_ft (pc := 115) tb_Mo_order 64 rfl) rfl ic_1 rfl ?_
                      refine fg_iincN (fg_ft (pc := 118) tb_Mo_order 65 rfl) rfl ic_1 rfl ?_
                      refine fg_goto (tgt := 86) (fg_ft (pc := 121) tb_Mo_order 66 rfl) (by decide) ?_
                      have q9 := ih (f + 1) (fg_u2 ν 302 (fg_pcw f facts) (nI f)) (by omega) (by omega) (fg_agO_tr hag (fun a a1 _ j => fg_u2ne a1)) (fun q hq hb => by
                        rcases Nat.decEq q f with z | z
                        · exact (fg_u2ns (fun ee => z (fg_pcw_inj hb c100 ee))).trans (h302 q (by omega) hb)
                        · rw [z]; exact fg_u2eq)
                      rw [show fg_pcw (f + 1) facts = fg_pcw f facts + 1 by show fg_pcw f facts + (facts.testBit f).toNat = _; rw [c100]; rfl] at q9
                      exact q9 _ _ _ _ _
                    · refine fg_goto (tgt := 118) (fg_ft (pc := 103) tb_Mo_order 58 rfl) (by decide) ?_
                      refine fg_iincN (fg_ft (pc := 118) tb_Mo_order 65 rfl) rfl ic_1 rfl ?_
                      refine fg_goto (tgt := 86) (fg_ft (pc := 121) tb_Mo_order 66 rfl) (by decide) ?_
                      have q9 := ih (f + 1) ν (by omega) (by omega) hag (fun q hq hb => by
                        rcases Nat.decEq q f with z | z
                        · exact h302 q (by omega) hb
                        · subst z; rw [c100] at hb; exact Bool.noConfusion hb)
                      rw [show fg_pcw (f + 1) facts = fg_pcw f facts by show fg_pcw f facts + (facts.testBit f).toNat = _; rw [c100]; rfl] at q9
                      exact q9 _ _ _ _ _
              exact list 11 0 μ1 (by omega) (by omega) (fun _ _ _ _ => rfl) (fun q hq => absurd hq (Nat.not_lt_zero _)) _ _ _ _ _
            · refine fg_iconst (fg_ft (pc := 78) tb_Mo_order 43 rfl) ic_m1 ?_
              exact fg_iret (fg_ft (pc := 79) tb_Mo_order 44 rfl) rfl rfl (fg_q (hQ _ (fg_agR_A ha1)) (by unfold an_order; rw [fg_g1_some y4 y5] <;> (exact fg_ifF (fun hh => by first | exact c40 hh.2.2.1 | (have h3 := hh.2.1; have h4 := fg_le_lt (fg_df0.mp hh.2.2.1) hm0; omega) | exact absurd hh.2.2.2.1 (by omega) | exact absurd hh.2.2.2.2 (by omega)))))
        · refine fg_iconst (fg_ft (pc := 43) tb_Mo_order 24 rfl) ic_m1 ?_
          exact fg_iret (fg_ft (pc := 44) tb_Mo_order 25 rfl) rfl rfl (fg_q (hQ _ (fg_agR_A ha1)) (by unfold an_order; rw [fg_g1_some y4 y5] <;> (exact fg_ifF (fun hh => by first | exact c40 hh.2.2.1 | (have h3 := hh.2.1; have h4 := fg_le_lt (fg_df0.mp hh.2.2.1) hm0; omega) | exact absurd hh.2.2.2.1 (by omega) | exact absurd hh.2.2.2.2 (by omega)))))
