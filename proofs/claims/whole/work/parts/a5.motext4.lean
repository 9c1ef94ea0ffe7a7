/-! a text is told: the reference, from its first step -/
theorem fg_wA.hd {A : fg_Tl} (h : fg_wA A) {l k : Nat} {p : Int32} (hl : l ≤ 600) : fg_wA (A.hd l k p) := ⟨hl, h.2⟩
theorem pz_b_lt (c : Nat → Int32) (j : Nat) : pz_b c j < 256 := Nat.mod_lt _ (by decide)
theorem rz_tx_72_0 {E : fg_E} {d : Nat} {μ : Nat → Nat → Int32} {R : fg_T4} {Q : Option Value → fg_M → Prop} {A : fg_Tl} {a p : Nat} {v3 v4 v5 : Value} (ha : a < 2 ^ 32) (hw : fg_wA A) (hML : fg_ML (μ 288) (A.hd 0 0 (-1))) (hl2 : μ 287 2 = nI A.len) (hby : ∀ j, j < A.len → μ 288 (10 + j) = nI ((pz_b A.tape) j)) (hp : p < 2) (hpe : (a = 4294967295 → p = A.tc) ∧ (¬ a = 4294967295 → p = a ∧ a < A.tc)) (hQ : ∀ μ' : Nat → Nat → Int32, fg_agY μ μ' → fg_ML (μ' 288) (an_tx1 A 0 p (pz_rd (pz_b A.tape) A.len 0)).2 → Q (some (.int (an_tx1 A 0 p (pz_rd (pz_b A.tape) A.len 0)).1)) (μ', fg_rho R, 304)) : fg_wp E yy_Mo_text (d + 10) 304 304 Q 72 [.ref 287, .int (nI 0), .int (nI a), v3, v4, v5] [] (μ, fg_rho R, 304) := by
  refine fg_aloadn (fg_ft (pc := 72) tb_Mo_text 45 rfl) rfl ?_
  refine fg_iconst (fg_ft (pc := 73) tb_Mo_text 46 rfl) ic_0 ?_
  refine fg_putI (fg_ft (pc := 74) tb_Mo_text 47 rfl) ff_Mo_74 ly_287 rfl (fg_lt ly_287 (by decide)) (fg_nokI _) (fun _ _ h => by cases h; rfl) ?_
  show fg_wp _ _ _ _ _ _ _ _ _ (fg_u2 μ 287 3 (nI 0), fg_rho R, 304)
  refine fg_aloadn (fg_ft (pc := 77) tb_Mo_text 48 rfl) rfl ?_
  refine fg_iconst (fg_ft (pc := 78) tb_Mo_text 49 rfl) ic_0 ?_
  refine fg_putI (fg_ft (pc := 79) tb_Mo_text 50 rfl) ff_Mo_103 ly_287 rfl (fg_lt ly_287 (by decide)) ⟨by decide, by decide⟩ (fun _ _ h => by cases h; rfl) ?_
  show fg_wp _ _ _ _ _ _ _ _ _ (fg_u2 (fg_u2 μ 287 3 (nI 0)) 287 8 (nI 0), fg_rho R, 304)
  refine fg_aloadn (fg_ft (pc := 82) tb_Mo_text 51 rfl) rfl ?_
  refine fg_iconst (fg_ft (pc := 83) tb_Mo_text 52 rfl) ic_0 ?_
  refine fg_putI (fg_ft (pc := 84) tb_Mo_text 53 rfl) ff_Mo_125 ly_287 rfl (fg_lt ly_287 (by decide)) (fg_nokI _) (fun _ _ h => by cases h; rfl) ?_
  show fg_wp _ _ _ _ _ _ _ _ _ (fg_u2 (fg_u2 (fg_u2 μ 287 3 (nI 0)) 287 8 (nI 0)) 287 9 (nI 0), fg_rho R, 304)
  refine fg_iconst (fg_ft (pc := 87) tb_Mo_text 54 rfl) ic_0 ?_
  refine fg_istoren (fg_ft (pc := 88) tb_Mo_text 55 rfl) (Nat.le_of_ble_eq_true rfl) ?_
  refine rz_tx_clr0 (fun ν0 hag0 hz0 => ?_)
  refine fg_iloadn (fg_ft (pc := 109) tb_Mo_text 66 rfl) rfl ?_
  refine fg_if_ne (tgt := 129) (fg_ft (pc := 110) tb_Mo_text 67 rfl) (by decide) (fun h => absurd h (by decide)) (fun _ => ?_)
  refine fg_aloadn (fg_ft (pc := 113) tb_Mo_text 68 rfl) rfl ?_
  refine fg_getR (fg_ft (pc := 114) tb_Mo_text 69 rfl) ff_Mo_17 ly_287 rfl (fg_lt ly_287 (by decide)) (rh_287_10 R) ?_
  refine fg_iconst (fg_ft (pc := 117) tb_Mo_text 70 rfl) ic_0 ?_
  refine fg_bipush (fg_ft (pc := 118) tb_Mo_text 71 rfl) ib_6 ?_
  refine fg_iastN (fg_ft (pc := 120) tb_Mo_text 72 rfl) ly_290 (fg_lt ly_290 (by decide)) (by omega) ?_
  show fg_wp _ _ _ _ _ _ _ _ _ (fg_u2 ν0 290 0 (nI 6), fg_rho R, 304)
  refine fg_aloadn (fg_ft (pc := 121) tb_Mo_text 73 rfl) rfl ?_
  refine fg_getR (fg_ft (pc := 122) tb_Mo_text 74 rfl) ff_Mo_17 ly_287 rfl (fg_lt ly_287 (by decide)) (rh_287_10 R) ?_
  refine fg_bipush (fg_ft (pc := 125) tb_Mo_text 75 rfl) ib_7 ?_
  refine fg_iconst (fg_ft (pc := 127) tb_Mo_text 76 rfl) ic_4 ?_
  refine fg_iastN (fg_ft (pc := 128) tb_Mo_text 77 rfl) ly_290 (fg_lt ly_290 (by decide)) (by omega) ?_
  show fg_wp _ _ _ _ _ _ _ _ _ (fg_u2 (fg_u2 ν0 290 0 (nI 6)) 290 7 (nI 4), fg_rho R, 304)
  have hlo : ∀ a9 j, (a9 ≠ 287 ∨ j ≤ 2 ∨ 9 < j) → a9 ≠ 290 → (fg_u2 (fg_u2 ν0 290 0 (nI 6)) 290 7 (nI 4)) a9 j = μ a9 j := fun a9 j g1 g2 => (fg_u2ne g2).trans ((fg_u2ne g2).trans ((hag0 a9 g2 j).trans ((fg_u2nx (by omega)).trans ((fg_u2nx (by omega)).trans (fg_u2nx (by omega))))))
  have hn3 : (fg_u2 (fg_u2 ν0 290 0 (nI 6)) 290 7 (nI 4)) 287 3 = nI 0 := (fg_u2ne (by decide)).trans ((fg_u2ne (by decide)).trans ((hag0 287 (by decide) 3).trans ((fg_u2ns (by decide)).trans ((fg_u2ns (by decide)).trans fg_u2eq))))
  have hn8 : (fg_u2 (fg_u2 ν0 290 0 (nI 6)) 290 7 (nI 4)) 287 8 = nI 0 := (fg_u2ne (by decide)).trans ((fg_u2ne (by decide)).trans ((hag0 287 (by decide) 8).trans ((fg_u2ns (by decide)).trans fg_u2eq)))
  have hn9 : (fg_u2 (fg_u2 ν0 290 0 (nI 6)) 290 7 (nI 4)) 287 9 = nI 0 := (fg_u2ne (by decide)).trans ((fg_u2ne (by decide)).trans ((hag0 287 (by decide) 9).trans fg_u2eq))
  have hC9 : ∀ k, k < 152 → (fg_u2 (fg_u2 ν0 290 0 (nI 6)) 290 7 (nI 4)) 290 k = nI (pz_C0 0 k) := fun k hk => by
      show _ = nI (fg_T0 k)
      unfold fg_T0
      rcases Nat.decEq k 7 with e7 | e7
      · rcases Nat.decEq k 0 with e0 | e0
        · rw [fg_u2ns e7, fg_u2ns e0, if_neg e0, if_neg e7]; exact hz0 k hk
        · rw [e0]; exact (fg_u2ns (by decide)).trans fg_u2eq
      · rw [e7]; exact fg_u2eq
  refine fg_aloadn (fg_ft (pc := 129) tb_Mo_text 78 rfl) rfl ?_
  refine fg_callV (fg_ft (pc := 130) tb_Mo_text 79 rfl) cf_Mo_118 (fg_isOf ly_287 rfl (fg_lt ly_287 (by decide))) (as := []) (st := []) rfl rfl (Nat.le_of_ble_eq_true rfl) (Nat.le_refl _) (Nat.le_refl _) (ev_Mo_advance (b := (pz_b A.tape)) (len := A.len) (n0 := 0) ((hlo 287 2 (by omega) (by decide)).trans hl2) hw.1 (fun j hj => (hlo 288 (10 + j) (by omega) (by decide)).trans (hby j hj)) (pz_b_lt A.tape) hn3 (Nat.zero_le _) ?_)
  intro ν2 hag2 h23 h24 h25 h26 h27
  show fg_wp _ _ _ _ _ _ _ _ _ (ν2, fg_rho R, 304)
  have hRZ : rz_RZ ν2 (pz_b A.tape) A.len (0, 0, 0, 0, pz_C0 0) := ⟨⟨(hag2 287 2 (by omega)).trans (hlo 287 2 (by omega) (by decide) |>.trans hl2), fun i hi => (hag2 288 (10 + i) (by omega)).trans ((hlo 288 (10 + i) (by omega) (by decide)).trans (hby i hi))⟩, ⟨h23, h24, h25, h26, h27⟩, (hag2 287 8 (by omega)).trans (hn8.trans (fg_bF (by decide)).symm), (hag2 288 3 (by omega)).trans ((hlo 288 3 (by omega) (by decide)).trans hML.1.2.2.2.1), (hag2 288 4 (by omega)).trans ((hlo 288 4 (by omega) (by decide)).trans hML.1.2.2.2.2), (hag2 287 9 (by omega)).trans hn9, fun k hk => (hag2 290 k (by omega)).trans (hC9 k hk), by show 0 < 5; decide, by show 0 ≤ 600; decide, by show 0 < 100; decide⟩
  have hY2 : fg_agY μ ν2 := ⟨fun a9 a1 a2 a3 j => (hag2 a9 j (by omega)).trans (hlo a9 j (by omega) a3), fun j hj => (hag2 287 j (by omega)).trans (hlo 287 j (by omega) (by decide)), fun j hj => (hag2 288 j (by omega)).trans (hlo 288 j (by omega) (by decide))⟩
  exact rz_tx_loop_0 (μ := μ) hw.1 (pz_b_lt A.tape) A.len 0 (0, 0, pz_C0 0, 0) (0, 0, 0, 0, pz_C0 0) ν2 (by omega) hRZ (rz_Rg_0 rfl) (fun _ => pz_I9_0 (by decide)) (fun k k1 k2 k3 => by show (if k = 0 then 6 else if k = 7 then 4 else 0) ≤ 0; rw [if_neg (by have := k2 rfl; omega), if_neg (by omega)]; exact Nat.le_refl _) (fun ν3 Z3 ag3 h3 hRe hfin => rz_tx_end0 (sX := pz_rs (pz_K (pz_b A.tape) A.len) (pz_V (pz_b A.tape) A.len) (pz_S (pz_b A.tape) A.len) A.len 0) (A := A) (m0 := μ 288) hw.1 (pz_b_lt A.tape) h3 ha hw hML (fun j j1 j2 => (ag3 288 j (by omega) (by omega) (by decide)).trans ((hag2 288 j (by omega)).trans (hlo 288 j (by omega) (by decide)))) hRe hfin (fun z => pz_rs_I9 (by decide) z) rfl hp hpe (fun ν4 g4 g5 => hQ ν4 (fg_agY_tr (fg_agY_tr hY2 ag3.y) g4) g5))
theorem rz_tx_72_1 {E : fg_E} {d : Nat} {μ : Nat → Nat → Int32} {R : fg_T4} {Q : Option Value → fg_M → Prop} {A : fg_Tl} {a p : Nat} {v3 v4 v5 : Value} (ha : a < 2 ^ 32) (hw : fg_wA A) (hML : fg_ML (μ 288) (A.hd 0 0 (-1))) (hl2 : μ 287 2 = nI A.len) (hby : ∀ j, j < A.len → μ 288 (10 + j) = nI ((pz_b A.tape) j)) (hp : p < 3) (hpe : (a = 4294967295 → p = A.dc) ∧ (¬ a = 4294967295 → p = a ∧ a < A.dc)) (hQ : ∀ μ' : Nat → Nat → Int32, fg_agY μ μ' → fg_ML (μ' 288) (an_tx1 A 1 p (pz_rd (pz_b A.tape) A.len 1)).2 → Q (some (.int (an_tx1 A 1 p (pz_rd (pz_b A.tape) A.len 1)).1)) (μ', fg_rho R, 304)) : fg_wp E yy_Mo_text (d + 10) 304 304 Q 72 [.ref 287, .int (nI 1), .int (nI a), v3, v4, v5] [] (μ, fg_rho R, 304) := by
  refine fg_aloadn (fg_ft (pc := 72) tb_Mo_text 45 rfl) rfl ?_
  refine fg_iconst (fg_ft (pc := 73) tb_Mo_text 46 rfl) ic_0 ?_
  refine fg_putI (fg_ft (pc := 74) tb_Mo_text 47 rfl) ff_Mo_74 ly_287 rfl (fg_lt ly_287 (by decide)) (fg_nokI _) (fun _ _ h => by cases h; rfl) ?_
  show fg_wp _ _ _ _ _ _ _ _ _ (fg_u2 μ 287 3 (nI 0), fg_rho R, 304)
  refine fg_aloadn (fg_ft (pc := 77) tb_Mo_text 48 rfl) rfl ?_
  refine fg_iconst (fg_ft (pc := 78) tb_Mo_text 49 rfl) ic_0 ?_
  refine fg_putI (fg_ft (pc := 79) tb_Mo_text 50 rfl) ff_Mo_103 ly_287 rfl (fg_lt ly_287 (by decide)) ⟨by decide, by decide⟩ (fun _ _ h => by cases h; rfl) ?_
  show fg_wp _ _ _ _ _ _ _ _ _ (fg_u2 (fg_u2 μ 287 3 (nI 0)) 287 8 (nI 0), fg_rho R, 304)
  refine fg_aloadn (fg_ft (pc := 82) tb_Mo_text 51 rfl) rfl ?_
  refine fg_iconst (fg_ft (pc := 83) tb_Mo_text 52 rfl) ic_0 ?_
  refine fg_putI (fg_ft (pc := 84) tb_Mo_text 53 rfl) ff_Mo_125 ly_287 rfl (fg_lt ly_287 (by decide)) (fg_nokI _) (fun _ _ h => by cases h; rfl) ?_
  show fg_wp _ _ _ _ _ _ _ _ _ (fg_u2 (fg_u2 (fg_u2 μ 287 3 (nI 0)) 287 8 (nI 0)) 287 9 (nI 0), fg_rho R, 304)
  refine fg_iconst (fg_ft (pc := 87) tb_Mo_text 54 rfl) ic_0 ?_
  refine fg_istoren (fg_ft (pc := 88) tb_Mo_text 55 rfl) (Nat.le_of_ble_eq_true rfl) ?_
  refine rz_tx_clr1 (fun ν0 hag0 hz0 => ?_)
  refine fg_iloadn (fg_ft (pc := 109) tb_Mo_text 66 rfl) rfl ?_
  refine fg_if_ne (tgt := 129) (fg_ft (pc := 110) tb_Mo_text 67 rfl) (by decide) (fun _ => ?_) (fun h => absurd h (by decide))
  have hlo : ∀ a9 j, (a9 ≠ 287 ∨ j ≤ 2 ∨ 9 < j) → a9 ≠ 290 → ν0 a9 j = μ a9 j := fun a9 j g1 g2 => (hag0 a9 g2 j).trans ((fg_u2nx (by omega)).trans ((fg_u2nx (by omega)).trans (fg_u2nx (by omega))))
  have hn3 : ν0 287 3 = nI 0 := (hag0 287 (by decide) 3).trans ((fg_u2ns (by decide)).trans ((fg_u2ns (by decide)).trans fg_u2eq))
  have hn8 : ν0 287 8 = nI 0 := (hag0 287 (by decide) 8).trans ((fg_u2ns (by decide)).trans fg_u2eq)
  have hn9 : ν0 287 9 = nI 0 := (hag0 287 (by decide) 9).trans fg_u2eq
  have hC9 : ∀ k, k < 152 → ν0 290 k = nI (pz_C0 1 k) := fun k hk => hz0 k hk
  refine fg_aloadn (fg_ft (pc := 129) tb_Mo_text 78 rfl) rfl ?_
  refine fg_callV (fg_ft (pc := 130) tb_Mo_text 79 rfl) cf_Mo_118 (fg_isOf ly_287 rfl (fg_lt ly_287 (by decide))) (as := []) (st := []) rfl rfl (Nat.le_of_ble_eq_true rfl) (Nat.le_refl _) (Nat.le_refl _) (ev_Mo_advance (b := (pz_b A.tape)) (len := A.len) (n0 := 0) ((hlo 287 2 (by omega) (by decide)).trans hl2) hw.1 (fun j hj => (hlo 288 (10 + j) (by omega) (by decide)).trans (hby j hj)) (pz_b_lt A.tape) hn3 (Nat.zero_le _) ?_)
  intro ν2 hag2 h23 h24 h25 h26 h27
  show fg_wp _ _ _ _ _ _ _ _ _ (ν2, fg_rho R, 304)
  have hRZ : rz_RZ ν2 (pz_b A.tape) A.len (0, 0, 0, 0, pz_C0 1) := ⟨⟨(hag2 287 2 (by omega)).trans (hlo 287 2 (by omega) (by decide) |>.trans hl2), fun i hi => (hag2 288 (10 + i) (by omega)).trans ((hlo 288 (10 + i) (by omega) (by decide)).trans (hby i hi))⟩, ⟨h23, h24, h25, h26, h27⟩, (hag2 287 8 (by omega)).trans (hn8.trans (fg_bF (by decide)).symm), (hag2 288 3 (by omega)).trans ((hlo 288 3 (by omega) (by decide)).trans hML.1.2.2.2.1), (hag2 288 4 (by omega)).trans ((hlo 288 4 (by omega) (by decide)).trans hML.1.2.2.2.2), (hag2 287 9 (by omega)).trans hn9, fun k hk => (hag2 290 k (by omega)).trans (hC9 k hk), by show 0 < 5; decide, by show 0 ≤ 600; decide, by show 0 < 100; decide⟩
  have hY2 : fg_agY μ ν2 := ⟨fun a9 a1 a2 a3 j => (hag2 a9 j (by omega)).trans (hlo a9 j (by omega) a3), fun j hj => (hag2 287 j (by omega)).trans (hlo 287 j (by omega) (by decide)), fun j hj => (hag2 288 j (by omega)).trans (hlo 288 j (by omega) (by decide))⟩
  exact rz_tx_loop_1 (μ := μ) hw.1 (pz_b_lt A.tape) A.len 0 (0, 0, pz_C0 1, 0) (0, 0, 0, 0, pz_C0 1) ν2 (by omega) hRZ (rz_Rg_0 rfl) (fun _ => pz_I9_0 (by decide)) (fun k k1 k2 k3 => by exact Nat.le_refl _) (fun ν3 Z3 ag3 h3 hRe hfin => rz_tx_end1 (sX := pz_rs (pz_K (pz_b A.tape) A.len) (pz_V (pz_b A.tape) A.len) (pz_S (pz_b A.tape) A.len) A.len 1) (A := A) (m0 := μ 288) hw.1 (pz_b_lt A.tape) h3 ha hw hML (fun j j1 j2 => (ag3 288 j (by omega) (by omega) (by decide)).trans ((hag2 288 j (by omega)).trans (hlo 288 j (by omega) (by decide)))) hRe hfin (fun z => pz_rs_I9 (by decide) z) rfl hp hpe (fun ν4 g4 g5 => hQ ν4 (fg_agY_tr (fg_agY_tr hY2 ag3.y) g4) g5))
theorem ev_Mo_text_0 {E : fg_E} {d : Nat} {μ : Nat → Nat → Int32} {R : fg_T4} {Q : Option Value → fg_M → Prop} {A : fg_Tl} {a : Nat} (hL : fg_ML (μ 288) A) (hw : fg_wA A) (ha : a < 2 ^ 32) (hQ : ∀ μ' : Nat → Nat → Int32, fg_agY μ μ' → fg_ML (μ' 288) (an_text A 0 a).2 → Q (some (.int (an_text A 0 a).1)) (μ', fg_rho R, 304)) : fg_Ev E yy_Mo_text (d + 10) [.ref 287, .int (nI 0), .int (nI a)] (μ, fg_rho R, 304) 304 Q := by
  have t2 := hw.2.1
  have d3 := hw.2.2.1
  refine fg_intro (by decide +kernel) (Nat.le_of_ble_eq_true rfl) (fg_okAs rfl) (Nat.le_refl _) ?_
  refine fg_aloadn (fg_ft (pc := 0) tb_Mo_text 0 rfl) rfl ?_
  refine fg_aloadn (fg_ft (pc := 1) tb_Mo_text 1 rfl) rfl ?_
  refine fg_getR (fg_ft (pc := 2) tb_Mo_text 2 rfl) ff_Mo_7 ly_287 rfl (fg_lt ly_287 (by decide)) (rh_287_0 R) ?_
  refine fg_iconst (fg_ft (pc := 5) tb_Mo_text 3 rfl) ic_2 ?_
  refine fg_ialdV (v := (nI (A.len))) (fg_ft (pc := 6) tb_Mo_text 4 rfl) ly_288 (fg_lt ly_288 (by decide)) (by omega) hL.1.2.2.1 ?_
  refine fg_putI (fg_ft (pc := 7) tb_Mo_text 5 rfl) ff_Mo_63 ly_287 rfl (fg_lt ly_287 (by decide)) (fg_nokI _) (fun _ _ h => by cases h; rfl) ?_
  show fg_wp _ _ _ _ _ _ _ _ _ (fg_u2 μ 287 2 (nI (A.len)), fg_rho R, 304)
  refine fg_aloadn (fg_ft (pc := 10) tb_Mo_text 6 rfl) rfl ?_
  refine fg_getR (fg_ft (pc := 11) tb_Mo_text 7 rfl) ff_Mo_7 ly_287 rfl (fg_lt ly_287 (by decide)) (rh_287_0 R) ?_
  refine fg_iconst (fg_ft (pc := 14) tb_Mo_text 8 rfl) ic_2 ?_
  refine fg_iconst (fg_ft (pc := 15) tb_Mo_text 9 rfl) ic_0 ?_
  refine fg_iastN (fg_ft (pc := 16) tb_Mo_text 10 rfl) ly_288 (fg_lt ly_288 (by decide)) (by omega) ?_
  show fg_wp _ _ _ _ _ _ _ _ _ (fg_u2 (fg_u2 μ 287 2 (nI (A.len))) 288 2 (nI 0), fg_rho R, 304)
  refine fg_aloadn (fg_ft (pc := 17) tb_Mo_text 11 rfl) rfl ?_
  refine fg_getR (fg_ft (pc := 18) tb_Mo_text 12 rfl) ff_Mo_7 ly_287 rfl (fg_lt ly_287 (by decide)) (rh_287_0 R) ?_
  refine fg_iconst (fg_ft (pc := 21) tb_Mo_text 13 rfl) ic_3 ?_
  refine fg_iconst (fg_ft (pc := 22) tb_Mo_text 14 rfl) ic_0 ?_
  refine fg_iastN (fg_ft (pc := 23) tb_Mo_text 15 rfl) ly_288 (fg_lt ly_288 (by decide)) (by omega) ?_
  show fg_wp _ _ _ _ _ _ _ _ _ (fg_u2 (fg_u2 (fg_u2 μ 287 2 (nI (A.len))) 288 2 (nI 0)) 288 3 (nI 0), fg_rho R, 304)
  refine fg_aloadn (fg_ft (pc := 24) tb_Mo_text 16 rfl) rfl ?_
  refine fg_getR (fg_ft (pc := 25) tb_Mo_text 17 rfl) ff_Mo_7 ly_287 rfl (fg_lt ly_287 (by decide)) (rh_287_0 R) ?_
  refine fg_iconst (fg_ft (pc := 28) tb_Mo_text 18 rfl) ic_4 ?_
  refine fg_iconst (fg_ft (pc := 29) tb_Mo_text 19 rfl) ic_m1 ?_
  refine fg_iastN (fg_ft (pc := 30) tb_Mo_text 20 rfl) ly_288 (fg_lt ly_288 (by decide)) (by omega) ?_
  show fg_wp _ _ _ _ _ _ _ _ _ (fg_u2 (fg_u2 (fg_u2 (fg_u2 μ 287 2 (nI (A.len))) 288 2 (nI 0)) 288 3 (nI 0)) 288 4 (-1), fg_rho R, 304)
  have hfr1 : ∀ a9 j, (a9 ≠ 287 ∨ j ≠ 2) → (a9 ≠ 288 ∨ (j ≠ 2 ∧ j ≠ 3 ∧ j ≠ 4)) → (fg_u2 (fg_u2 (fg_u2 (fg_u2 μ 287 2 (nI A.len)) 288 2 (nI 0)) 288 3 (nI 0)) 288 4 (-1)) a9 j = μ a9 j := fun a9 j g1 g2 => (fg_u2nx (by omega)).trans ((fg_u2nx (by omega)).trans ((fg_u2nx (by omega)).trans (fg_u2nx (by omega))))
  have hY1 : fg_agY μ (fg_u2 (fg_u2 (fg_u2 (fg_u2 μ 287 2 (nI A.len)) 288 2 (nI 0)) 288 3 (nI 0)) 288 4 (-1)) := ⟨fun a9 a1 a2 a3 j => hfr1 a9 j (by omega) (by omega), fun j hj => hfr1 287 j (by omega) (by omega), fun j hj => hfr1 288 j (by omega) (by omega)⟩
  have hML1 : fg_ML ((fg_u2 (fg_u2 (fg_u2 (fg_u2 μ 287 2 (nI A.len)) 288 2 (nI 0)) 288 3 (nI 0)) 288 4 (-1)) 288) (A.hd 0 0 (-1)) := by
    obtain ⟨⟨g0, g1, g2, g3, g4⟩, g5, g6, g7⟩ := hL
    have t2 := hw.2.1
    have d3 := hw.2.2.1
    exact ⟨⟨(hfr1 288 0 (by omega) (by omega)).trans g0, (hfr1 288 1 (by omega) (by omega)).trans g1, (fg_u2ns (by decide)).trans ((fg_u2ns (by decide)).trans fg_u2eq), (fg_u2ns (by decide)).trans fg_u2eq, fg_u2eq⟩, fun j hj => absurd (show j < 0 from hj) (Nat.not_lt_zero _), fun k hk => ⟨(g6 k hk).1, fun i hi => (hfr1 288 _ (by omega) (by omega)).trans ((g6 k hk).2 i hi)⟩, fun k hk => ⟨(hfr1 288 _ (by omega) (by omega)).trans (g7 k hk).1, fun i hi => (hfr1 288 _ (by omega) (by omega)).trans ((g7 k hk).2 i hi)⟩⟩
  have hl21 : (fg_u2 (fg_u2 (fg_u2 (fg_u2 μ 287 2 (nI A.len)) 288 2 (nI 0)) 288 3 (nI 0)) 288 4 (-1)) 287 2 = nI A.len := (fg_u2ne (by decide)).trans ((fg_u2ne (by decide)).trans ((fg_u2ne (by decide)).trans fg_u2eq))
  have hby1 : ∀ j, j < A.len → (fg_u2 (fg_u2 (fg_u2 (fg_u2 μ 287 2 (nI A.len)) 288 2 (nI 0)) 288 3 (nI 0)) 288 4 (-1)) 288 (10 + j) = nI ((pz_b A.tape) j) := fun j hj => (hfr1 288 (10 + j) (by omega) (by omega)).trans (hL.2.1 j hj)
  refine fg_iloadn (fg_ft (pc := 31) tb_Mo_text 21 rfl) rfl ?_
  refine fg_iconst (fg_ft (pc := 32) tb_Mo_text 22 rfl) ic_0 ?_
  refine fg_iconst (fg_ft (pc := 33) tb_Mo_text 23 rfl) ic_1 ?_
  refine fg_callS (fg_ft (pc := 34) tb_Mo_text 24 rfl) cf_Mo_110 (as := [.int (nI 0), .int (nI 0), .int (nI 1)]) (st := []) rfl rfl (Nat.le_of_ble_eq_true rfl) (Nat.le_refl _) (Nat.le_refl _) (ev_Mo_isInC (k := 0) (a := 0) (b := 1) (by decide) (by omega) (by omega) ?_)
  refine fg_ifB_eq (tgt := 69) (fg_ft (pc := 37) tb_Mo_text 25 rfl) (by decide) (fun c37 => (absurd (by decide) c37)) (fun c37 => ?_)
  refine fg_iloadn (fg_ft (pc := 40) tb_Mo_text 26 rfl) rfl ?_
  refine fg_iconst (fg_ft (pc := 41) tb_Mo_text 27 rfl) ic_m1 ?_
  refine fg_icmp_neM (tgt := 60) (fg_ft (pc := 42) tb_Mo_text 28 rfl) (by decide) (ha) (fun c42 => ?_) (fun c42 => ?_)
  · refine fg_aloadn (fg_ft (pc := 60) tb_Mo_text 38 rfl) rfl ?_
    refine fg_iloadn (fg_ft (pc := 61) tb_Mo_text 39 rfl) rfl ?_
    refine fg_iloadn (fg_ft (pc := 62) tb_Mo_text 40 rfl) rfl ?_
    refine fg_callV (fg_ft (pc := 63) tb_Mo_text 41 rfl) cf_Mo_156 (fg_isOf ly_287 rfl (fg_lt ly_287 (by decide))) (as := [.int (nI 0), .int (nI a)]) (st := []) rfl rfl (Nat.le_of_ble_eq_true rfl) (Nat.le_refl _) (Nat.le_refl _) (ev_Mo_isOf0 hML1 (hw.hd (Nat.zero_le _)) (k := a) ha ?_)
    refine fg_ifB_ne (tgt := 72) (fg_ft (pc := 66) tb_Mo_text 42 rfl) (by decide) (fun c66 => ?_) (fun c66 => ?_)
    · obtain ⟨p, hsome, hp, hpe⟩ : ∃ p, fg_plf A 0 a = some p ∧ p < 2 ∧ (a = 4294967295 → p = A.tc) ∧ (¬ a = 4294967295 → p = a ∧ a < A.tc) := by
        have t2 := hw.2.1
        have d3 := hw.2.2.1
        unfold fg_plf
        simp only [if_true]
        first
        | exact ⟨A.tc, by rw [if_pos (by assumption), if_pos (by omega)], by omega, fun _ => rfl, fun g => absurd (by assumption) g⟩
        | exact ⟨a, by rw [if_neg (by assumption), if_pos (by assumption)], Nat.lt_of_lt_of_le (show a < A.tc by assumption) (by omega), fun g => absurd g (by assumption), fun _ => ⟨rfl, by assumption⟩⟩
      have htx := an_text_s hsome
      exact rz_tx_72_0 (A := A) ha hw hML1 hl21 hby1 hp hpe (fun ν g1 g2 => fg_q (hQ ν (fg_agY_tr hY1 g1) (by rw [htx]; exact g2)) (by rw [htx]))
    · have hnone : an_text A 0 a = (-2, A.hd 0 0 (-1)) := an_text_n (by unfold fg_plf; simp only [if_true]; first | (rw [if_pos (by assumption)]; exact if_neg (by omega)) | (rw [if_neg (by assumption)]; exact if_neg (by assumption)))
      refine fg_bipush (fg_ft (pc := 69) tb_Mo_text 43 rfl) ib_m2 ?_
      exact fg_iret (fg_ft (pc := 71) tb_Mo_text 44 rfl) rfl rfl (fg_q (hQ _ hY1 (by rw [hnone]; exact hML1)) (by rw [hnone]))
  · refine fg_aloadn (fg_ft (pc := 45) tb_Mo_text 29 rfl) rfl ?_
    refine fg_getR (fg_ft (pc := 46) tb_Mo_text 30 rfl) ff_Mo_7 ly_287 rfl (fg_lt ly_287 (by decide)) (rh_287_0 R) ?_
    refine fg_iloadn (fg_ft (pc := 49) tb_Mo_text 31 rfl) rfl ?_
    refine fg_ialdV (v := (nI (A.tc))) (fg_ft (pc := 50) tb_Mo_text 32 rfl) ly_288 (fg_lt ly_288 (by decide)) (by omega) (hML1.1.1) ?_
    refine fg_iloadn (fg_ft (pc := 51) tb_Mo_text 33 rfl) rfl ?_
    refine fg_iconst (fg_ft (pc := 52) tb_Mo_text 34 rfl) ic_2 ?_
    refine fg_iaddN (fg_ft (pc := 53) tb_Mo_text 35 rfl) ?_
    refine fg_icmp_ltN (tgt := 72) (fg_ft (pc := 54) tb_Mo_text 36 rfl) (by decide) (by omega) (by omega) (fun c54 => ?_) (fun c54 => ?_)
    · obtain ⟨p, hsome, hp, hpe⟩ : ∃ p, fg_plf A 0 a = some p ∧ p < 2 ∧ (a = 4294967295 → p = A.tc) ∧ (¬ a = 4294967295 → p = a ∧ a < A.tc) := by
        have t2 := hw.2.1
        have d3 := hw.2.2.1
        unfold fg_plf
        simp only [if_true]
        first
        | exact ⟨A.tc, by rw [if_pos (by assumption), if_pos (by omega)], by omega, fun _ => rfl, fun g => absurd (by assumption) g⟩
        | exact ⟨a, by rw [if_neg (by assumption), if_pos (by assumption)], Nat.lt_of_lt_of_le (show a < A.tc by assumption) (by omega), fun g => absurd g (by assumption), fun _ => ⟨rfl, by assumption⟩⟩
      have htx := an_text_s hsome
      exact rz_tx_72_0 (A := A) ha hw hML1 hl21 hby1 hp hpe (fun ν g1 g2 => fg_q (hQ ν (fg_agY_tr hY1 g1) (by rw [htx]; exact g2)) (by rw [htx]))
    · refine fg_goto (tgt := 69) (fg_ft (pc := 57) tb_Mo_text 37 rfl) (by decide) ?_
      have hnone : an_text A 0 a = (-2, A.hd 0 0 (-1)) := an_text_n (by unfold fg_plf; simp only [if_true]; first | (rw [if_pos (by assumption)]; exact if_neg (by omega)) | (rw [if_neg (by assumption)]; exact if_neg (by assumption)))
      refine fg_bipush (fg_ft (pc := 69) tb_Mo_text 43 rfl) ib_m2 ?_
      exact fg_iret (fg_ft (pc := 71) tb_Mo_text 44 rfl) rfl rfl (fg_q (hQ _ hY1 (by rw [hnone]; exact hML1)) (by rw [hnone]))
theorem ev_Mo_text_1 {E : fg_E} {d : Nat} {μ : Nat → Nat → Int32} {R : fg_T4} {Q : Option Value → fg_M → Prop} {A : fg_Tl} {a : Nat} (hL : fg_ML (μ 288) A) (hw : fg_wA A) (ha : a < 2 ^ 32) (hQ : ∀ μ' : Nat → Nat → Int32, fg_agY μ μ' → fg_ML (μ' 288) (an_text A 1 a).2 → Q (some (.int (an_text A 1 a).1)) (μ', fg_rho R, 304)) : fg_Ev E yy_Mo_text (d + 10) [.ref 287, .int (nI 1), .int (nI a)] (μ, fg_rho R, 304) 304 Q := by
  have t2 := hw.2.1
  have d3 := hw.2.2.1
  refine fg_intro (by decide +kernel) (Nat.le_of_ble_eq_true rfl) (fg_okAs rfl) (Nat.le_refl _) ?_
  refine fg_aloadn (fg_ft (pc := 0) tb_Mo_text 0 rfl) rfl ?_
  refine fg_aloadn (fg_ft (pc := 1) tb_Mo_text 1 rfl) rfl ?_
  refine fg_getR (fg_ft (pc := 2) tb_Mo_text 2 rfl) ff_Mo_7 ly_287 rfl (fg_lt ly_287 (by decide)) (rh_287_0 R) ?_
  refine fg_iconst (fg_ft (pc := 5) tb_Mo_text 3 rfl) ic_2 ?_
  refine fg_ialdV (v := (nI (A.len))) (fg_ft (pc := 6) tb_Mo_text 4 rfl) ly_288 (fg_lt ly_288 (by decide)) (by omega) hL.1.2.2.1 ?_
  refine fg_putI (fg_ft (pc := 7) tb_Mo_text 5 rfl) ff_Mo_63 ly_287 rfl (fg_lt ly_287 (by decide)) (fg_nokI _) (fun _ _ h => by cases h; rfl) ?_
  show fg_wp _ _ _ _ _ _ _ _ _ (fg_u2 μ 287 2 (nI (A.len)), fg_rho R, 304)
  refine fg_aloadn (fg_ft (pc := 10) tb_Mo_text 6 rfl) rfl ?_
  refine fg_getR (fg_ft (pc := 11) tb_Mo_text 7 rfl) ff_Mo_7 ly_287 rfl (fg_lt ly_287 (by decide)) (rh_287_0 R) ?_
  refine fg_iconst (fg_ft (pc := 14) tb_Mo_text 8 rfl) ic_2 ?_
  refine fg_iconst (fg_ft (pc := 15) tb_Mo_text 9 rfl) ic_0 ?_
  refine fg_iastN (fg_ft (pc := 16) tb_Mo_text 10 rfl) ly_288 (fg_lt ly_288 (by decide)) (by omega) ?_
  show fg_wp _ _ _ _ _ _ _ _ _ (fg_u2 (fg_u2 μ 287 2 (nI (A.len))) 288 2 (nI 0), fg_rho R, 304)
  refine fg_aloadn (fg_ft (pc := 17) tb_Mo_text 11 rfl) rfl ?_
  refine fg_getR (fg_ft (pc := 18) tb_Mo_text 12 rfl) ff_Mo_7 ly_287 rfl (fg_lt ly_287 (by decide)) (rh_287_0 R) ?_
  refine fg_iconst (fg_ft (pc := 21) tb_Mo_text 13 rfl) ic_3 ?_
  refine fg_iconst (fg_ft (pc := 22) tb_Mo_text 14 rfl) ic_0 ?_
  refine fg_iastN (fg_ft (pc := 23) tb_Mo_text 15 rfl) ly_288 (fg_lt ly_288 (by decide)) (by omega) ?_
  show fg_wp _ _ _ _ _ _ _ _ _ (fg_u2 (fg_u2 (fg_u2 μ 287 2 (nI (A.len))) 288 2 (nI 0)) 288 3 (nI 0), fg_rho R, 304)
  refine fg_aloadn (fg_ft (pc := 24) tb_Mo_text 16 rfl) rfl ?_
  refine fg_getR (fg_ft (pc := 25) tb_Mo_text 17 rfl) ff_Mo_7 ly_287 rfl (fg_lt ly_287 (by decide)) (rh_287_0 R) ?_
  refine fg_iconst (fg_ft (pc := 28) tb_Mo_text 18 rfl) ic_4 ?_
  refine fg_iconst (fg_ft (pc := 29) tb_Mo_text 19 rfl) ic_m1 ?_
  refine fg_iastN (fg_ft (pc := 30) tb_Mo_text 20 rfl) ly_288 (fg_lt ly_288 (by decide)) (by omega) ?_
  show fg_wp _ _ _ _ _ _ _ _ _ (fg_u2 (fg_u2 (fg_u2 (fg_u2 μ 287 2 (nI (A.len))) 288 2 (nI 0)) 288 3 (nI 0)) 288 4 (-1), fg_rho R, 304)
  have hfr1 : ∀ a9 j, (a9 ≠ 287 ∨ j ≠ 2) → (a9 ≠ 288 ∨ (j ≠ 2 ∧ j ≠ 3 ∧ j ≠ 4)) → (fg_u2 (fg_u2 (fg_u2 (fg_u2 μ 287 2 (nI A.len)) 288 2 (nI 0)) 288 3 (nI 0)) 288 4 (-1)) a9 j = μ a9 j := fun a9 j g1 g2 => (fg_u2nx (by omega)).trans ((fg_u2nx (by omega)).trans ((fg_u2nx (by omega)).trans (fg_u2nx (by omega))))
  have hY1 : fg_agY μ (fg_u2 (fg_u2 (fg_u2 (fg_u2 μ 287 2 (nI A.len)) 288 2 (nI 0)) 288 3 (nI 0)) 288 4 (-1)) := ⟨fun a9 a1 a2 a3 j => hfr1 a9 j (by omega) (by omega), fun j hj => hfr1 287 j (by omega) (by omega), fun j hj => hfr1 288 j (by omega) (by omega)⟩
  have hML1 : fg_ML ((fg_u2 (fg_u2 (fg_u2 (fg_u2 μ 287 2 (nI A.len)) 288 2 (nI 0)) 288 3 (nI 0)) 288 4 (-1)) 288) (A.hd 0 0 (-1)) := by
    obtain ⟨⟨g0, g1, g2, g3, g4⟩, g5, g6, g7⟩ := hL
    have t2 := hw.2.1
    have d3 := hw.2.2.1
    exact ⟨⟨(hfr1 288 0 (by omega) (by omega)).trans g0, (hfr1 288 1 (by omega) (by omega)).trans g1, (fg_u2ns (by decide)).trans ((fg_u2ns (by decide)).trans fg_u2eq), (fg_u2ns (by decide)).trans fg_u2eq, fg_u2eq⟩, fun j hj => absurd (show j < 0 from hj) (Nat.not_lt_zero _), fun k hk => ⟨(g6 k hk).1, fun i hi => (hfr1 288 _ (by omega) (by omega)).trans ((g6 k hk).2 i hi)⟩, fun k hk => ⟨(hfr1 288 _ (by omega) (by omega)).trans (g7 k hk).1, fun i hi => (hfr1 288 _ (by omega) (by omega)).trans ((g7 k hk).2 i hi)⟩⟩
  have hl21 : (fg_u2 (fg_u2 (fg_u2 (fg_u2 μ 287 2 (nI A.len)) 288 2 (nI 0)) 288 3 (nI 0)) 288 4 (-1)) 287 2 = nI A.len := (fg_u2ne (by decide)).trans ((fg_u2ne (by decide)).trans ((fg_u2ne (by decide)).trans fg_u2eq))
  have hby1 : ∀ j, j < A.len → (fg_u2 (fg_u2 (fg_u2 (fg_u2 μ 287 2 (nI A.len)) 288 2 (nI 0)) 288 3 (nI 0)) 288 4 (-1)) 288 (10 + j) = nI ((pz_b A.tape) j) := fun j hj => (hfr1 288 (10 + j) (by omega) (by omega)).trans (hL.2.1 j hj)
  refine fg_iloadn (fg_ft (pc := 31) tb_Mo_text 21 rfl) rfl ?_
  refine fg_iconst (fg_ft (pc := 32) tb_Mo_text 22 rfl) ic_0 ?_
  refine fg_iconst (fg_ft (pc := 33) tb_Mo_text 23 rfl) ic_1 ?_
  refine fg_callS (fg_ft (pc := 34) tb_Mo_text 24 rfl) cf_Mo_110 (as := [.int (nI 1), .int (nI 0), .int (nI 1)]) (st := []) rfl rfl (Nat.le_of_ble_eq_true rfl) (Nat.le_refl _) (Nat.le_refl _) (ev_Mo_isInC (k := 1) (a := 0) (b := 1) (by decide) (by omega) (by omega) ?_)
  refine fg_ifB_eq (tgt := 69) (fg_ft (pc := 37) tb_Mo_text 25 rfl) (by decide) (fun c37 => (absurd (by decide) c37)) (fun c37 => ?_)
  refine fg_iloadn (fg_ft (pc := 40) tb_Mo_text 26 rfl) rfl ?_
  refine fg_iconst (fg_ft (pc := 41) tb_Mo_text 27 rfl) ic_m1 ?_
  refine fg_icmp_neM (tgt := 60) (fg_ft (pc := 42) tb_Mo_text 28 rfl) (by decide) (ha) (fun c42 => ?_) (fun c42 => ?_)
  · refine fg_aloadn (fg_ft (pc := 60) tb_Mo_text 38 rfl) rfl ?_
    refine fg_iloadn (fg_ft (pc := 61) tb_Mo_text 39 rfl) rfl ?_
    refine fg_iloadn (fg_ft (pc := 62) tb_Mo_text 40 rfl) rfl ?_
    refine fg_callV (fg_ft (pc := 63) tb_Mo_text 41 rfl) cf_Mo_156 (fg_isOf ly_287 rfl (fg_lt ly_287 (by decide))) (as := [.int (nI 1), .int (nI a)]) (st := []) rfl rfl (Nat.le_of_ble_eq_true rfl) (Nat.le_refl _) (Nat.le_refl _) (ev_Mo_isOf1 hML1 (hw.hd (Nat.zero_le _)) (k := a) ha ?_)
    refine fg_ifB_ne (tgt := 72) (fg_ft (pc := 66) tb_Mo_text 42 rfl) (by decide) (fun c66 => ?_) (fun c66 => ?_)
    · obtain ⟨p, hsome, hp, hpe⟩ : ∃ p, fg_plf A 1 a = some p ∧ p < 3 ∧ (a = 4294967295 → p = A.dc) ∧ (¬ a = 4294967295 → p = a ∧ a < A.dc) := by
        have t2 := hw.2.1
        have d3 := hw.2.2.1
        unfold fg_plf
        simp only [if_neg (show ¬ (1 : Nat) = 0 by decide), if_true]
        first
        | exact ⟨A.dc, by rw [if_pos (by assumption), if_pos (by omega)], by omega, fun _ => rfl, fun g => absurd (by assumption) g⟩
        | exact ⟨a, by rw [if_neg (by assumption), if_pos (by assumption)], Nat.lt_of_lt_of_le (show a < A.dc by assumption) (by omega), fun g => absurd g (by assumption), fun _ => ⟨rfl, by assumption⟩⟩
      have htx := an_text_s hsome
      exact rz_tx_72_1 (A := A) ha hw hML1 hl21 hby1 hp hpe (fun ν g1 g2 => fg_q (hQ ν (fg_agY_tr hY1 g1) (by rw [htx]; exact g2)) (by rw [htx]))
    · have hnone : an_text A 1 a = (-2, A.hd 0 0 (-1)) := an_text_n (by unfold fg_plf; simp only [if_neg (show ¬ (1 : Nat) = 0 by decide), if_true]; first | (rw [if_pos (by assumption)]; exact if_neg (by omega)) | (rw [if_neg (by assumption)]; exact if_neg (by assumption)))
      refine fg_bipush (fg_ft (pc := 69) tb_Mo_text 43 rfl) ib_m2 ?_
      exact fg_iret (fg_ft (pc := 71) tb_Mo_text 44 rfl) rfl rfl (fg_q (hQ _ hY1 (by rw [hnone]; exact hML1)) (by rw [hnone]))
  · refine fg_aloadn (fg_ft (pc := 45) tb_Mo_text 29 rfl) rfl ?_
    refine fg_getR (fg_ft (pc := 46) tb_Mo_text 30 rfl) ff_Mo_7 ly_287 rfl (fg_lt ly_287 (by decide)) (rh_287_0 R) ?_
    refine fg_iloadn (fg_ft (pc := 49) tb_Mo_text 31 rfl) rfl ?_
    refine fg_ialdV (v := (nI (A.dc))) (fg_ft (pc := 50) tb_Mo_text 32 rfl) ly_288 (fg_lt ly_288 (by decide)) (by omega) (hML1.1.2.1) ?_
    refine fg_iloadn (fg_ft (pc := 51) tb_Mo_text 33 rfl) rfl ?_
    refine fg_iconst (fg_ft (pc := 52) tb_Mo_text 34 rfl) ic_2 ?_
    refine fg_iaddN (fg_ft (pc := 53) tb_Mo_text 35 rfl) ?_
    refine fg_icmp_ltN (tgt := 72) (fg_ft (pc := 54) tb_Mo_text 36 rfl) (by decide) (by omega) (by omega) (fun c54 => ?_) (fun c54 => ?_)
    · obtain ⟨p, hsome, hp, hpe⟩ : ∃ p, fg_plf A 1 a = some p ∧ p < 3 ∧ (a = 4294967295 → p = A.dc) ∧ (¬ a = 4294967295 → p = a ∧ a < A.dc) := by
        have t2 := hw.2.1
        have d3 := hw.2.2.1
        unfold fg_plf
        simp only [if_neg (show ¬ (1 : Nat) = 0 by decide), if_true]
        first
        | exact ⟨A.dc, by rw [if_pos (by assumption), if_pos (by omega)], by omega, fun _ => rfl, fun g => absurd (by assumption) g⟩
        | exact ⟨a, by rw [if_neg (by assumption), if_pos (by assumption)], Nat.lt_of_lt_of_le (show a < A.dc by assumption) (by omega), fun g => absurd g (by assumption), fun _ => ⟨rfl, by assumption⟩⟩
      have htx := an_text_s hsome
      exact rz_tx_72_1 (A := A) ha hw hML1 hl21 hby1 hp hpe (fun ν g1 g2 => fg_q (hQ ν (fg_agY_tr hY1 g1) (by rw [htx]; exact g2)) (by rw [htx]))
    · refine fg_goto (tgt := 69) (fg_ft (pc := 57) tb_Mo_text 37 rfl) (by decide) ?_
      have hnone : an_text A 1 a = (-2, A.hd 0 0 (-1)) := an_text_n (by unfold fg_plf; simp only [if_neg (show ¬ (1 : Nat) = 0 by decide), if_true]; first | (rw [if_pos (by assumption)]; exact if_neg (by omega)) | (rw [if_neg (by assumption)]; exact if_neg (by assumption)))
      refine fg_bipush (fg_ft (pc := 69) tb_Mo_text 43 rfl) ib_m2 ?_
      exact fg_iret (fg_ft (pc := 71) tb_Mo_text 44 rfl) rfl rfl (fg_q (hQ _ hY1 (by rw [hnone]; exact hML1)) (by rw [hnone]))
theorem ev_Mo_text_2 {E : fg_E} {d : Nat} {μ : Nat → Nat → Int32} {R : fg_T4} {Q : Option Value → fg_M → Prop} {A : fg_Tl} {s a : Nat} (hL : fg_ML (μ 288) A) (hw : fg_wA A) (hs : s < 2 ^ 32) (h2 : 2 ≤ s) (hQ : ∀ μ' : Nat → Nat → Int32, fg_agY μ μ' → fg_ML (μ' 288) (an_text A s a).2 → Q (some (.int (an_text A s a).1)) (μ', fg_rho R, 304)) : fg_Ev E yy_Mo_text (d + 10) [.ref 287, .int (nI s), .int (nI a)] (μ, fg_rho R, 304) 304 Q := by
  refine fg_intro (by decide +kernel) (Nat.le_of_ble_eq_true rfl) (fg_okAs rfl) (Nat.le_refl _) ?_
  refine fg_aloadn (fg_ft (pc := 0) tb_Mo_text 0 rfl) rfl ?_
  refine fg_aloadn (fg_ft (pc := 1) tb_Mo_text 1 rfl) rfl ?_
  refine fg_getR (fg_ft (pc := 2) tb_Mo_text 2 rfl) ff_Mo_7 ly_287 rfl (fg_lt ly_287 (by decide)) (rh_287_0 R) ?_
  refine fg_iconst (fg_ft (pc := 5) tb_Mo_text 3 rfl) ic_2 ?_
  refine fg_ialdV (v := (nI (A.len))) (fg_ft (pc := 6) tb_Mo_text 4 rfl) ly_288 (fg_lt ly_288 (by decide)) (by omega) hL.1.2.2.1 ?_
  refine fg_putI (fg_ft (pc := 7) tb_Mo_text 5 rfl) ff_Mo_63 ly_287 rfl (fg_lt ly_287 (by decide)) (fg_nokI _) (fun _ _ h => by cases h; rfl) ?_
  show fg_wp _ _ _ _ _ _ _ _ _ (fg_u2 μ 287 2 (nI (A.len)), fg_rho R, 304)
  refine fg_aloadn (fg_ft (pc := 10) tb_Mo_text 6 rfl) rfl ?_
  refine fg_getR (fg_ft (pc := 11) tb_Mo_text 7 rfl) ff_Mo_7 ly_287 rfl (fg_lt ly_287 (by decide)) (rh_287_0 R) ?_
  refine fg_iconst (fg_ft (pc := 14) tb_Mo_text 8 rfl) ic_2 ?_
  refine fg_iconst (fg_ft (pc := 15) tb_Mo_text 9 rfl) ic_0 ?_
  refine fg_iastN (fg_ft (pc := 16) tb_Mo_text 10 rfl) ly_288 (fg_lt ly_288 (by decide)) (by omega) ?_
  show fg_wp _ _ _ _ _ _ _ _ _ (fg_u2 (fg_u2 μ 287 2 (nI (A.len))) 288 2 (nI 0), fg_rho R, 304)
  refine fg_aloadn (fg_ft (pc := 17) tb_Mo_text 11 rfl) rfl ?_
  refine fg_getR (fg_ft (pc := 18) tb_Mo_text 12 rfl) ff_Mo_7 ly_287 rfl (fg_lt ly_287 (by decide)) (rh_287_0 R) ?_
  refine fg_iconst (fg_ft (pc := 21) tb_Mo_text 13 rfl) ic_3 ?_
  refine fg_iconst (fg_ft (pc := 22) tb_Mo_text 14 rfl) ic_0 ?_
  refine fg_iastN (fg_ft (pc := 23) tb_Mo_text 15 rfl) ly_288 (fg_lt ly_288 (by decide)) (by omega) ?_
  show fg_wp _ _ _ _ _ _ _ _ _ (fg_u2 (fg_u2 (fg_u2 μ 287 2 (nI (A.len))) 288 2 (nI 0)) 288 3 (nI 0), fg_rho R, 304)
  refine fg_aloadn (fg_ft (pc := 24) tb_Mo_text 16 rfl) rfl ?_
  refine fg_getR (fg_ft (pc := 25) tb_Mo_text 17 rfl) ff_Mo_7 ly_287 rfl (fg_lt ly_287 (by decide)) (rh_287_0 R) ?_
  refine fg_iconst (fg_ft (pc := 28) tb_Mo_text 18 rfl) ic_4 ?_
  refine fg_iconst (fg_ft (pc := 29) tb_Mo_text 19 rfl) ic_m1 ?_
  refine fg_iastN (fg_ft (pc := 30) tb_Mo_text 20 rfl) ly_288 (fg_lt ly_288 (by decide)) (by omega) ?_
  show fg_wp _ _ _ _ _ _ _ _ _ (fg_u2 (fg_u2 (fg_u2 (fg_u2 μ 287 2 (nI (A.len))) 288 2 (nI 0)) 288 3 (nI 0)) 288 4 (-1), fg_rho R, 304)
  have hfr1 : ∀ a9 j, (a9 ≠ 287 ∨ j ≠ 2) → (a9 ≠ 288 ∨ (j ≠ 2 ∧ j ≠ 3 ∧ j ≠ 4)) → (fg_u2 (fg_u2 (fg_u2 (fg_u2 μ 287 2 (nI A.len)) 288 2 (nI 0)) 288 3 (nI 0)) 288 4 (-1)) a9 j = μ a9 j := fun a9 j g1 g2 => (fg_u2nx (by omega)).trans ((fg_u2nx (by omega)).trans ((fg_u2nx (by omega)).trans (fg_u2nx (by omega))))
  have hY1 : fg_agY μ (fg_u2 (fg_u2 (fg_u2 (fg_u2 μ 287 2 (nI A.len)) 288 2 (nI 0)) 288 3 (nI 0)) 288 4 (-1)) := ⟨fun a9 a1 a2 a3 j => hfr1 a9 j (by omega) (by omega), fun j hj => hfr1 287 j (by omega) (by omega), fun j hj => hfr1 288 j (by omega) (by omega)⟩
  have hML1 : fg_ML ((fg_u2 (fg_u2 (fg_u2 (fg_u2 μ 287 2 (nI A.len)) 288 2 (nI 0)) 288 3 (nI 0)) 288 4 (-1)) 288) (A.hd 0 0 (-1)) := by
    obtain ⟨⟨g0, g1, g2, g3, g4⟩, g5, g6, g7⟩ := hL
    have t2 := hw.2.1
    have d3 := hw.2.2.1
    exact ⟨⟨(hfr1 288 0 (by omega) (by omega)).trans g0, (hfr1 288 1 (by omega) (by omega)).trans g1, (fg_u2ns (by decide)).trans ((fg_u2ns (by decide)).trans fg_u2eq), (fg_u2ns (by decide)).trans fg_u2eq, fg_u2eq⟩, fun j hj => absurd (show j < 0 from hj) (Nat.not_lt_zero _), fun k hk => ⟨(g6 k hk).1, fun i hi => (hfr1 288 _ (by omega) (by omega)).trans ((g6 k hk).2 i hi)⟩, fun k hk => ⟨(hfr1 288 _ (by omega) (by omega)).trans (g7 k hk).1, fun i hi => (hfr1 288 _ (by omega) (by omega)).trans ((g7 k hk).2 i hi)⟩⟩
  have hl21 : (fg_u2 (fg_u2 (fg_u2 (fg_u2 μ 287 2 (nI A.len)) 288 2 (nI 0)) 288 3 (nI 0)) 288 4 (-1)) 287 2 = nI A.len := (fg_u2ne (by decide)).trans ((fg_u2ne (by decide)).trans ((fg_u2ne (by decide)).trans fg_u2eq))
  have hby1 : ∀ j, j < A.len → (fg_u2 (fg_u2 (fg_u2 (fg_u2 μ 287 2 (nI A.len)) 288 2 (nI 0)) 288 3 (nI 0)) 288 4 (-1)) 288 (10 + j) = nI ((pz_b A.tape) j) := fun j hj => (hfr1 288 (10 + j) (by omega) (by omega)).trans (hL.2.1 j hj)
  refine fg_iloadn (fg_ft (pc := 31) tb_Mo_text 21 rfl) rfl ?_
  refine fg_iconst (fg_ft (pc := 32) tb_Mo_text 22 rfl) ic_0 ?_
  refine fg_iconst (fg_ft (pc := 33) tb_Mo_text 23 rfl) ic_1 ?_
  refine fg_callS (fg_ft (pc := 34) tb_Mo_text 24 rfl) cf_Mo_110 (as := [.int (nI s), .int (nI 0), .int (nI 1)]) (st := []) rfl rfl (Nat.le_of_ble_eq_true rfl) (Nat.le_refl _) (Nat.le_refl _) (ev_Mo_isInC (k := s) (a := 0) (b := 1) (hs) (by omega) (by omega) ?_)
  refine fg_ifB_eq (tgt := 69) (fg_ft (pc := 37) tb_Mo_text 25 rfl) (by decide) (fun c37 => ?_) (fun c37 => (absurd c37 (fun g => by omega)))
  have hnone : an_text A s a = (-2, A.hd 0 0 (-1)) := an_text_n (by unfold fg_plf; rw [if_neg (by omega), if_neg (by omega)])
  refine fg_bipush (fg_ft (pc := 69) tb_Mo_text 43 rfl) ib_m2 ?_
  exact fg_iret (fg_ft (pc := 71) tb_Mo_text 44 rfl) rfl rfl (fg_q (hQ _ hY1 (by rw [hnone]; exact hML1)) (by rw [hnone]))
/-- the reference's text -/
theorem ev_Mo_text {E : fg_E} {d : Nat} {μ : Nat → Nat → Int32} {R : fg_T4} {Q : Option Value → fg_M → Prop} {A : fg_Tl} {s a : Nat} (hL : fg_ML (μ 288) A) (hw : fg_wA A) (hs : s < 2 ^ 32) (ha : a < 2 ^ 32) (hQ : ∀ μ' : Nat → Nat → Int32, fg_agY μ μ' → fg_ML (μ' 288) (an_text A s a).2 → Q (some (.int (an_text A s a).1)) (μ', fg_rho R, 304)) : fg_Ev E yy_Mo_text (d + 10) [.ref 287, .int (nI s), .int (nI a)] (μ, fg_rho R, 304) 304 Q := by
  rcases (show s = 0 ∨ s = 1 ∨ 2 ≤ s by omega) with rfl | rfl | h2
  · exact ev_Mo_text_0 hL hw ha hQ
  · exact ev_Mo_text_1 hL hw ha hQ
  · exact ev_Mo_text_2 hL hw hs h2 hQ
