def fg_oA (o : Option (Nat → Nat)) (w : Nat) : Int32 := match o with
  | none => -1
  | some g => nI (g w)
def fg_oC (T : Nat → Nat) (m facts kind w : Nat) : Prop := kind < 3 ∧ facts ≠ 0 ∧ fg_df facts m = 0 ∧ fg_pc facts ≤ 5 ∧ w < fg_pc facts
noncomputable def an_order (A : fg_Tl) (town day n person facts kind w : Nat) : Int32 := fg_g1 A town day n person (-1) (fun T S _ => fg_ifP (fg_oC T (S.2.1.1 person) facts kind w) (fg_oA (fg_or T kind 5 (S.2.1.1 person) facts) w) (-1))
theorem fg_agQ_I {w : Nat} {μ μ' : Nat → Nat → Int32} (h : fg_agI w μ μ') : fg_agQ μ μ' := fun a ha j => h.1 a (by omega) j
theorem ev_Fb_order {E : fg_E} {d : Nat} {μ : Nat → Nat → Int32} {R : fg_T4} {Q : Option Value → fg_M → Prop} {A : fg_Tl} (hA : fg_TL μ 101 A) {town day n person facts kind w : Nat} (htown : town < 2 ^ 32) (hday : day < 2 ^ 32) (hn : n < 2 ^ 32) (hperson : person < 2 ^ 32) (hfacts : facts < 2 ^ 32) (hkind : kind < 2 ^ 32) (hw : w < 2 ^ 32) (hQ : ∀ (μ' : Nat → Nat → Int32) (R' : fg_T4), fg_agQ μ μ' → Q (some (.int (an_order A town day n person facts kind w))) (μ', fg_rho R', 304)) : fg_Ev E yy_Fb_order (d + 12) [.ref 100, .int (nI town), .int (nI day), .int (nI n), .int (nI person), .int (nI facts), .int (nI kind), .int (nI w)] (μ, fg_rho R, 304) 304 Q := by
  have ht2 := hA.2.2.2.1.2
  have hd3 := hA.2.2.2.2.1.2
  refine fg_intro (by decide +kernel) (Nat.le_of_ble_eq_true rfl) (fg_okAs rfl) (Nat.le_refl _) ?_
  refine fg_aloadn (fg_ft (pc := 0) tb_Fb_order 0 rfl) rfl ?_
  refine fg_iloadn (fg_ft (pc := 1) tb_Fb_order 1 rfl) rfl ?_
  refine fg_iloadn (fg_ft (pc := 2) tb_Fb_order 2 rfl) rfl ?_
  refine fg_iloadn (fg_ft (pc := 3) tb_Fb_order 3 rfl) rfl ?_
  refine fg_iload (fg_ft (pc := 4) tb_Fb_order 4 rfl) rfl ?_
  refine fg_callV (fg_ft (pc := 6) tb_Fb_order 5 rfl) cf_Fb_221 (fg_isOf ly_100 rfl (fg_lt ly_100 (by decide))) (as := [.int (nI town), .int (nI day), .int (nI n), .int (nI person)]) (st := []) rfl rfl (Nat.le_of_ble_eq_true rfl) (Nat.le_refl _) (Nat.le_refl _) (ev_Fb_findOne hA htown hday hn hperson (fun n4 μ1 R1 ho1 hR1 => ?_) (fun S lv y4 y5 μ1 ho1 hF1 => ?_))
  · refine fg_astoreN (fg_ft (pc := 9) tb_Fb_order 6 rfl) (Nat.le_of_ble_eq_true rfl) ?_
    refine fg_aloadN (fg_ft (pc := 11) tb_Fb_order 7 rfl) rfl ?_
    refine fg_ifnull (tgt := 37) (fg_ft (pc := 13) tb_Fb_order 8 rfl) (by decide) ?_
    refine fg_iconst (fg_ft (pc := 37) tb_Fb_order 17 rfl) ic_m1 ?_
    exact fg_iret (fg_ft (pc := 38) tb_Fb_order 18 rfl) rfl rfl (fg_q (hQ _ R1 (fg_agQ_F (Or.inl rfl) ho1)) (by unfold an_order; rw [fg_g1_none n4]))
  · have ytc := fg_fnd_t y4
    have hok := (hA.2.2.2.2.2.1 town ytc).2
    have ht : fg_isT (104 + 14 * town) := fg_isT_told (by omega)
    have hT1 := fg_TL.town hA (Or.inl rfl) ytc ho1
    have hz := fg_fnd_ok hA y4
    have hb0 := hok.1
    have hb1 := hok.2.1
    have hp := hok.p
    have hm2 := hz.2.1 person y5
    have hm0 : S.2.1.1 person < 2 ^ A.ts town 0 := hm2.1
    have hmc : fg_clsd (A.ts town) (S.2.1.1 person) := hm2.2
    have hm10 : S.2.1.1 person < 1024 := by omega
    refine fg_astore (fg_ft (pc := 9) tb_Fb_order 6 rfl) (Nat.le_of_ble_eq_true rfl) ?_
    refine fg_aload (fg_ft (pc := 11) tb_Fb_order 7 rfl) rfl ?_
    refine fg_ifnull_r (fg_ft (pc := 13) tb_Fb_order 8 rfl) ?_
    refine fg_aload (fg_ft (pc := 16) tb_Fb_order 9 rfl) rfl ?_
    refine fg_getR (fg_ft (pc := 18) tb_Fb_order 10 rfl) ff_Fb_194 ly_273 rfl (fg_lt ly_273 (by decide)) rfl ?_
    refine fg_iload (fg_ft (pc := 21) tb_Fb_order 11 rfl) rfl ?_
    refine fg_callV (fg_ft (pc := 23) tb_Fb_order 12 rfl) cf_Fb_156 (fg_isOf (tT_lay ht) rfl (fg_lt (tT_lay ht) (by decide))) (as := [.int (nI facts)]) (st := []) rfl rfl (Nat.le_of_ble_eq_true rfl) (Nat.le_refl _) (Nat.le_refl _) (ev_Town_hasFactsX ht hT1 hok (k := facts) hfacts ?_)
    refine fg_ifB_eq (tgt := 37) (fg_ft (pc := 26) tb_Fb_order 13 rfl) (by decide) (fun c26 => ?_) (fun c26 => ?_)
    · refine fg_iconst (fg_ft (pc := 37) tb_Fb_order 17 rfl) ic_m1 ?_
      exact fg_iret (fg_ft (pc := 38) tb_Fb_order 18 rfl) rfl rfl (fg_q (hQ _ (some (104 + 14 * town), R.2.1, R.2.2.1, R.2.2.2) (fg_agQ_F (Or.inl rfl) ho1)) (by unfold an_order; rw [fg_g1_some y4 y5] <;> exact (fg_ifF (fun hh => by first | exact c26 (fg_le_lt (fg_df0.mp hh.2.2.1) hm0) | exact c34 hh.1 | exact c74 hh.2.2.1 | exact absurd hh.2.2.2.2 (by omega) | exact absurd hh.2.2.2.1 (by omega)))))
    · refine fg_iload (fg_ft (pc := 29) tb_Fb_order 14 rfl) rfl ?_
      refine fg_callS (fg_ft (pc := 31) tb_Fb_order 15 rfl) cf_Fb_254 (as := [.int (nI kind)]) (st := []) rfl rfl (Nat.le_of_ble_eq_true rfl) (Nat.le_refl _) (Nat.le_refl _) (ev_Fb_isKind hkind ?_)
      refine fg_ifB_ne (tgt := 39) (fg_ft (pc := 34) tb_Fb_order 16 rfl) (by decide) (fun c34 => ?_) (fun c34 => ?_)
      · refine fg_aload (fg_ft (pc := 39) tb_Fb_order 19 rfl) rfl ?_
        refine fg_iload (fg_ft (pc := 41) tb_Fb_order 20 rfl) rfl ?_
        refine fg_callV (fg_ft (pc := 43) tb_Fb_order 21 rfl) cf_Fb_181 (fg_isOf ly_273 rfl (fg_lt ly_273 (by decide))) (as := [.int (nI person)]) (st := []) rfl rfl (Nat.le_of_ble_eq_true rfl) (Nat.le_refl _) (Nat.le_refl _) (ev_Folk_mind ht hT1 hok (Or.inl rfl) rfl hF1 hz (p := person) (by omega) ?_)
        refine fg_istore (fg_ft (pc := 46) tb_Fb_order 22 rfl) (Nat.le_of_ble_eq_true rfl) ?_
        refine fg_iload (fg_ft (pc := 48) tb_Fb_order 23 rfl) rfl ?_
        refine fg_callS (fg_ft (pc := 50) tb_Fb_order 24 rfl) cf_Fb_292 (as := [.int (nI facts)]) (st := []) rfl rfl (Nat.le_of_ble_eq_true rfl) (Nat.le_refl _) (Nat.le_refl _) (ev_Int_bitCount (s := facts) (by omega) ?_)
        refine fg_istore (fg_ft (pc := 53) tb_Fb_order 25 rfl) (Nat.le_of_ble_eq_true rfl) ?_
        refine fg_iload (fg_ft (pc := 55) tb_Fb_order 26 rfl) rfl ?_
        refine fg_iconst (fg_ft (pc := 57) tb_Fb_order 27 rfl) ic_1 ?_
        refine fg_icmp_ltN (tgt := 89) (fg_ft (pc := 58) tb_Fb_order 28 rfl) (by decide) (by have := fg_pc_le facts; omega) (by decide) (fun c58 => ?_) (fun c58 => ?_)
        · refine fg_iconst (fg_ft (pc := 89) tb_Fb_order 43 rfl) ic_m1 ?_
          exact fg_iret (fg_ft (pc := 90) tb_Fb_order 44 rfl) rfl rfl (fg_q (hQ _ (some (104 + 14 * town), R.2.1, R.2.2.1, R.2.2.2) (fg_agQ_F (Or.inl rfl) ho1)) (by unfold an_order; rw [fg_g1_some y4 y5] <;> exact (fg_ifF (fun hh => by first | exact c26 (fg_le_lt (fg_df0.mp hh.2.2.1) hm0) | exact c34 hh.1 | exact c74 hh.2.2.1 | exact absurd hh.2.2.2.2 (by omega) | exact absurd hh.2.2.2.1 (by omega)))))
        · refine fg_iload (fg_ft (pc := 61) tb_Fb_order 29 rfl) rfl ?_
          refine fg_iconst (fg_ft (pc := 63) tb_Fb_order 30 rfl) ic_5 ?_
          refine fg_icmp_gtN (tgt := 89) (fg_ft (pc := 64) tb_Fb_order 31 rfl) (by decide) (by have := fg_pc_le facts; omega) (by decide) (fun c64 => ?_) (fun c64 => ?_)
          · refine fg_iconst (fg_ft (pc := 89) tb_Fb_order 43 rfl) ic_m1 ?_
            exact fg_iret (fg_ft (pc := 90) tb_Fb_order 44 rfl) rfl rfl (fg_q (hQ _ (some (104 + 14 * town), R.2.1, R.2.2.1, R.2.2.2) (fg_agQ_F (Or.inl rfl) ho1)) (by unfold an_order; rw [fg_g1_some y4 y5] <;> exact (fg_ifF (fun hh => by first | exact c26 (fg_le_lt (fg_df0.mp hh.2.2.1) hm0) | exact c34 hh.1 | exact c74 hh.2.2.1 | exact absurd hh.2.2.2.2 (by omega) | exact absurd hh.2.2.2.1 (by omega)))))
          · refine fg_iload (fg_ft (pc := 67) tb_Fb_order 32 rfl) rfl ?_
            refine fg_iload (fg_ft (pc := 69) tb_Fb_order 33 rfl) rfl ?_
            refine fg_iconst (fg_ft (pc := 71) tb_Fb_order 34 rfl) ic_m1 ?_
            refine fg_ixor (fg_ft (pc := 72) tb_Fb_order 35 rfl) ?_
            refine fg_iandD (fg_ft (pc := 73) tb_Fb_order 36 rfl) ?_
            refine fg_if_neN (tgt := 89) (fg_ft (pc := 74) tb_Fb_order 37 rfl) (by decide) (fg_df_le31 (by omega)) (fun c74 => ?_) (fun c74 => ?_)
            · refine fg_iconst (fg_ft (pc := 89) tb_Fb_order 43 rfl) ic_m1 ?_
              exact fg_iret (fg_ft (pc := 90) tb_Fb_order 44 rfl) rfl rfl (fg_q (hQ _ (some (104 + 14 * town), R.2.1, R.2.2.1, R.2.2.2) (fg_agQ_F (Or.inl rfl) ho1)) (by unfold an_order; rw [fg_g1_some y4 y5] <;> exact (fg_ifF (fun hh => by first | exact c26 (fg_le_lt (fg_df0.mp hh.2.2.1) hm0) | exact c34 hh.1 | exact c74 hh.2.2.1 | exact absurd hh.2.2.2.2 (by omega) | exact absurd hh.2.2.2.1 (by omega)))))
            · refine fg_iload (fg_ft (pc := 77) tb_Fb_order 38 rfl) rfl ?_
              refine fg_if_ltW (tgt := 89) (fg_ft (pc := 79) tb_Fb_order 39 rfl) (by decide) (hw) (fun c79 => ?_) (fun c79 => ?_)
              · refine fg_iconst (fg_ft (pc := 89) tb_Fb_order 43 rfl) ic_m1 ?_
                exact fg_iret (fg_ft (pc := 90) tb_Fb_order 44 rfl) rfl rfl (fg_q (hQ _ (some (104 + 14 * town), R.2.1, R.2.2.1, R.2.2.2) (fg_agQ_F (Or.inl rfl) ho1)) (by unfold an_order; rw [fg_g1_some y4 y5] <;> exact (fg_ifF (fun hh => by first | exact c26 (fg_le_lt (fg_df0.mp hh.2.2.1) hm0) | exact c34 hh.1 | exact c74 hh.2.2.1 | exact absurd hh.2.2.2.2 (by omega) | exact absurd hh.2.2.2.1 (by omega)))))
              · refine fg_iload (fg_ft (pc := 82) tb_Fb_order 40 rfl) rfl ?_
                refine fg_iload (fg_ft (pc := 84) tb_Fb_order 41 rfl) rfl ?_
                refine fg_icmp_ltW (tgt := 91) (fg_ft (pc := 86) tb_Fb_order 42 rfl) (by decide) (hw) (by have := fg_pc_le facts; omega) (fun c86 => ?_) (fun c86 => ?_)
                · have hfa : facts < 2 ^ A.ts town 0 := by assumption
                  have hpc5 := fg_pc_le facts
                  have hcond : fg_oC (A.ts town) (S.2.1.1 person) facts kind w := ⟨by omega, fun h0 => by have h9 : fg_pc facts = 0 := (by rw [h0]; decide); omega, c74, by omega, by omega⟩
                  refine fg_aload (fg_ft (pc := 91) tb_Fb_order 45 rfl) rfl ?_
                  refine fg_getR (fg_ft (pc := 93) tb_Fb_order 46 rfl) ff_Fb_194 ly_273 rfl (fg_lt ly_273 (by decide)) rfl ?_
                  refine fg_iload (fg_ft (pc := 96) tb_Fb_order 47 rfl) rfl ?_
                  refine fg_iload (fg_ft (pc := 98) tb_Fb_order 48 rfl) rfl ?_
                  refine fg_iload (fg_ft (pc := 100) tb_Fb_order 49 rfl) rfl ?_
                  refine fg_iconst (fg_ft (pc := 102) tb_Fb_order 50 rfl) ic_0 ?_
                  refine fg_aloadn (fg_ft (pc := 103) tb_Fb_order 51 rfl) rfl ?_
                  refine fg_getR (fg_ft (pc := 104) tb_Fb_order 52 rfl) ff_Fb_48 ly_100 rfl (fg_lt ly_100 (by decide)) (rh_100_7 (some (104 + 14 * town), R.2.1, R.2.2.1, R.2.2.2)) ?_
                  refine fg_callS (fg_ft (pc := 107) tb_Fb_order 53 rfl) cf_Fb_297 (as := [.ref (104 + 14 * town), .int (nI (S.2.1.1 person)), .int (nI facts), .int (nI kind), .int (nI 0), .ref 286]) (st := []) rfl rfl (Nat.le_of_ble_eq_true rfl) (Nat.le_refl _) (Nat.le_refl _) (ev_Fb_orderFrom ht hok (kd := kind) (by omega) 5 (w := 0) rfl hT1 hm0 hfa (fun e5 μ5 ho5 => ?_) (fun g5 e5 μ5 ho5 hg5 => ?_))
                  · refine fg_if_eq (tgt := 123) (fg_ft (pc := 110) tb_Fb_order 54 rfl) (by decide) (fun _ => ?_) (fun h => absurd h (by decide))
                    refine fg_iconst (fg_ft (pc := 123) tb_Fb_order 60 rfl) ic_m1 ?_
                    exact fg_iret (fg_ft (pc := 124) tb_Fb_order 61 rfl) rfl rfl (fg_q (hQ _ (some (104 + 14 * town), R.2.1, R.2.2.1, R.2.2.2) (fg_agQ_tr (fg_agQ_F (Or.inl rfl) ho1) (fg_agQ_I ho5))) (by unfold an_order; rw [fg_g1_some y4 y5] <;> (rw [fg_ifT hcond, e5]; rfl)))
                  · refine fg_if_eq (tgt := 123) (fg_ft (pc := 110) tb_Fb_order 54 rfl) (by decide) (fun h => absurd h (by decide)) (fun _ => ?_)
                    refine fg_aloadn (fg_ft (pc := 113) tb_Fb_order 55 rfl) rfl ?_
                    refine fg_getR (fg_ft (pc := 114) tb_Fb_order 56 rfl) ff_Fb_48 ly_100 rfl (fg_lt ly_100 (by decide)) (rh_100_7 (some (104 + 14 * town), R.2.1, R.2.2.1, R.2.2.2)) ?_
                    refine fg_iload (fg_ft (pc := 117) tb_Fb_order 57 rfl) rfl ?_
                    refine fg_ialdV (v := (nI (g5 w))) (fg_ft (pc := 119) tb_Fb_order 58 rfl) ly_286 (fg_lt ly_286 (by decide)) (by omega) (by have q9 := hg5 w (by omega); rw [Nat.zero_add] at q9; exact q9) ?_
                    refine fg_goto (tgt := 124) (fg_ft (pc := 120) tb_Fb_order 59 rfl) (by decide) ?_
                    exact fg_iret (fg_ft (pc := 124) tb_Fb_order 61 rfl) rfl rfl (fg_q (hQ _ (some (104 + 14 * town), R.2.1, R.2.2.1, R.2.2.2) (fg_agQ_tr (fg_agQ_F (Or.inl rfl) ho1) (fg_agQ_I ho5))) (by unfold an_order; rw [fg_g1_some y4 y5] <;> (rw [fg_ifT hcond, e5]; rfl)))
                · refine fg_iconst (fg_ft (pc := 89) tb_Fb_order 43 rfl) ic_m1 ?_
                  exact fg_iret (fg_ft (pc := 90) tb_Fb_order 44 rfl) rfl rfl (fg_q (hQ _ (some (104 + 14 * town), R.2.1, R.2.2.1, R.2.2.2) (fg_agQ_F (Or.inl rfl) ho1)) (by unfold an_order; rw [fg_g1_some y4 y5] <;> exact (fg_ifF (fun hh => by first | exact c26 (fg_le_lt (fg_df0.mp hh.2.2.1) hm0) | exact c34 hh.1 | exact c74 hh.2.2.1 | exact absurd hh.2.2.2.2 (by omega) | exact absurd hh.2.2.2.1 (by omega)))))
      · refine fg_iconst (fg_ft (pc := 37) tb_Fb_order 17 rfl) ic_m1 ?_
        exact fg_iret (fg_ft (pc := 38) tb_Fb_order 18 rfl) rfl rfl (fg_q (hQ _ (some (104 + 14 * town), R.2.1, R.2.2.1, R.2.2.2) (fg_agQ_F (Or.inl rfl) ho1)) (by unfold an_order; rw [fg_g1_some y4 y5] <;> exact (fg_ifF (fun hh => by first | exact c26 (fg_le_lt (fg_df0.mp hh.2.2.1) hm0) | exact c34 hh.1 | exact c74 hh.2.2.1 | exact absurd hh.2.2.2.2 (by omega) | exact absurd hh.2.2.2.1 (by omega)))))
