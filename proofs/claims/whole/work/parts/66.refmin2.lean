theorem fg_pcw_df {m x : Nat} (h : fg_le x m) : ∀ w, fg_pcw w (fg_df m x) + fg_pcw w x = fg_pcw w m := by
  intro w
  induction w with
  | zero => rfl
  | succ w ih =>
    show fg_pcw w (fg_df m x) + ((fg_df m x).testBit w).toNat + (fg_pcw w x + (x.testBit w).toNat) = fg_pcw w m + (m.testBit w).toNat
    rw [fg_df_bit]
    have := h w
    cases hx : x.testBit w <;> cases hm : m.testBit w
    · simp; omega
    · simp; omega
    · rw [hx, hm] at this; exact absurd (this rfl) (by decide)
    · simp; omega
theorem fg_pc_df {m x : Nat} (h : fg_le x m) : fg_pc (fg_df m x) + fg_pc x = fg_pc m := fg_pcw_df h 12
def fg_dlI (T : Nat → Nat) (m n L : Nat) : Prop := ((fg_dm T m n).1 = 0 ∧ (fg_dm T m n).2 = none ∧ L = 99) ∨ (1 ≤ (fg_dm T m n).1 ∧ L + (fg_dm T m n).1 = fg_pc m)
theorem fg_dlI_0 {T : Nat → Nat} {m n L : Nat} (h : fg_dlI T m n L) (hn : ¬ m.testBit n = true) : fg_dm T m (n + 1) = fg_dm T m n ∧ fg_dlI T m (n + 1) L := by
  have e : fg_dm T m (n + 1) = fg_dm T m n := by
    have e1 : fg_fgt T m n 0 = m := by unfold fg_fgt; rw [if_neg hn]
    have e2 : fg_pc (fg_df m m) = 0 := by rw [fg_df0.mpr (fg_le_rf m)]; decide
    show (if (fg_dm T m n).1 < fg_pc (fg_df m (fg_fgt T m n 0)) then _ else fg_dm T m n) = fg_dm T m n
    rw [e1, e2, if_neg (Nat.not_lt_zero _)]
  exact ⟨e, by unfold fg_dlI; rw [e]; exact h⟩
theorem fg_dlI_1 {T : Nat → Nat} (hok : fg_ok T) {m n L : Nat} (hm : m < 2 ^ T 0) (h : fg_dlI T m n L) (hn : m.testBit n = true) : (fg_pc (fg_fw T m n) < L ∧ (fg_dm T m (n + 1)).2 = some n ∧ fg_dlI T m (n + 1) (fg_pc (fg_fw T m n))) ∨ (¬ fg_pc (fg_fw T m n) < L ∧ (fg_dm T m (n + 1)).2 = (fg_dm T m n).2 ∧ fg_dlI T m (n + 1) L) := by
  have hf := fg_bit_lt hm hn
  have e1 : fg_fgt T m n 0 = fg_fw T m n := by unfold fg_fgt; rw [if_pos hn, if_neg (by decide), if_neg (by decide)]
  have hle : fg_le (fg_fw T m n) m := fg_df_le _ _
  have hs := fg_pc_df hle
  have hg : 1 ≤ fg_pc (fg_df m (fg_fw T m n)) := by
    refine fg_pc_bit (f := n) (Nat.lt_of_lt_of_le (fg_df_lt hm) (Nat.pow_le_pow_right (by decide) (Nat.le_trans hok.1.2 (by decide)))) ?_
    unfold fg_fw
    rw [fg_df_bit, fg_df_bit, hn, (fg_wg_is hok hf).1]
    rfl
  have hp := fg_pc_le m
  by_cases c : (fg_dm T m n).1 < fg_pc (fg_df m (fg_fw T m n))
  · left
    have e : fg_dm T m (n + 1) = (fg_pc (fg_df m (fg_fw T m n)), some n) := by
      unfold fg_dm
      rw [e1, if_pos c]
    refine ⟨?_, by rw [e], Or.inr ⟨by rw [e]; exact hg, by rw [e]; show fg_pc _ + fg_pc _ = _; omega⟩⟩
    rcases h with ⟨a1, a2, a3⟩ | ⟨a1, a2⟩ <;> omega
  · right
    have e : fg_dm T m (n + 1) = fg_dm T m n := by
      show (if (fg_dm T m n).1 < fg_pc (fg_df m (fg_fgt T m n 0)) then _ else fg_dm T m n) = fg_dm T m n
      rw [e1, if_neg c]
    refine ⟨?_, by rw [e], by unfold fg_dlI; rw [e]; exact h⟩
    rcases h with ⟨a1, a2, a3⟩ | ⟨a1, a2⟩ <;> omega
theorem ev_Mo_roots {E : fg_E} {d : Nat} {μ : Nat → Nat → Int32} {R : fg_T4} {Q : Option Value → fg_M → Prop} {A : fg_Tl} (hL : fg_ML (μ 288) A) (hw : fg_wA A) (h17 : μ 287 17 = -1) (h19 : μ 287 19 = nI 0) {town day n person what : Nat} (htown : town < 2 ^ 32) (hday : day < 2 ^ 32) (hn : n < 2 ^ 32) (hperson : person < 2 ^ 32) (hwhat : what < 2 ^ 32) (hQ : ∀ μ' : Nat → Nat → Int32, fg_agR μ μ' → Q (some (.int (an_roots A town day n person what))) (μ', fg_rho R, 304)) : fg_Ev E yy_Mo_roots (d + 12) [.ref 287, .int (nI town), .int (nI day), .int (nI n), .int (nI person), .int (nI what)] (μ, fg_rho R, 304) 304 Q := by
  have ht2 := hw.2.1
  have hd3 := hw.2.2.1
  refine fg_intro (by decide +kernel) (Nat.le_of_ble_eq_true rfl) (fg_okAs rfl) (Nat.le_refl _) ?_
  refine fg_iload (fg_ft (pc := 0) tb_Mo_roots 0 rfl) rfl ?_
  refine fg_iconst (fg_ft (pc := 2) tb_Mo_roots 1 rfl) ic_0 ?_
  refine fg_iconst (fg_ft (pc := 3) tb_Mo_roots 2 rfl) ic_2 ?_
  refine fg_callS (fg_ft (pc := 4) tb_Mo_roots 3 rfl) cf_Mo_110 (as := [.int (nI what), .int (nI 0), .int (nI 2)]) (st := []) rfl rfl (Nat.le_of_ble_eq_true rfl) (Nat.le_refl _) (Nat.le_refl _) (ev_Mo_isInC (k := what) (a := 0) (b := 2) (hwhat) (by omega) (by omega) ?_)
  refine fg_ifB_eq (tgt := 22) (fg_ft (pc := 7) tb_Mo_roots 4 rfl) (by decide) (fun c7 => ?_) (fun c7 => ?_)
  · refine fg_bipush (fg_ft (pc := 22) tb_Mo_roots 12 rfl) ib_m2 ?_
    exact fg_iret (fg_ft (pc := 24) tb_Mo_roots 13 rfl) rfl rfl (fg_q (hQ _ (fg_agR_rf μ)) (by unfold an_roots; rw [fg_g1_cst (by intro T S lv; (repeat (first | rw [if_neg (by omega)] | rw [if_pos (by omega)])); (try (split <;> first | rfl | rw [if_neg (by omega)] | (exfalso; omega))))]))
  · refine fg_aloadn (fg_ft (pc := 10) tb_Mo_roots 5 rfl) rfl ?_
    refine fg_iloadn (fg_ft (pc := 11) tb_Mo_roots 6 rfl) rfl ?_
    refine fg_iloadn (fg_ft (pc := 12) tb_Mo_roots 7 rfl) rfl ?_
    refine fg_iloadn (fg_ft (pc := 13) tb_Mo_roots 8 rfl) rfl ?_
    refine fg_iload (fg_ft (pc := 14) tb_Mo_roots 9 rfl) rfl ?_
    refine fg_callV (fg_ft (pc := 16) tb_Mo_roots 10 rfl) cf_Mo_258 (fg_isOf ly_287 rfl (fg_lt ly_287 (by decide))) (as := [.int (nI town), .int (nI day), .int (nI n), .int (nI person)]) (st := []) rfl rfl (Nat.le_of_ble_eq_true rfl) (Nat.le_refl _) (Nat.le_refl _) (ev_Mo_isOne hL hw h17 h19 htown hday hn hperson (fun n4 μ1 ha1 => ?_) (fun S lv y4 y5 μ1 n1 y1 ha1 hC1 hS1 => ?_))
    · refine fg_if_ne (tgt := 25) (fg_ft (pc := 19) tb_Mo_roots 11 rfl) (by decide) (fun h => absurd h (by decide)) (fun _ => ?_)
      refine fg_bipush (fg_ft (pc := 22) tb_Mo_roots 12 rfl) ib_m2 ?_
      exact fg_iret (fg_ft (pc := 24) tb_Mo_roots 13 rfl) rfl rfl (fg_q (hQ _ (fg_agR_A ha1)) (by unfold an_roots; rw [fg_g1_none n4] <;> ((repeat (first | rw [if_pos (by assumption)] | rw [if_neg (by assumption)] | rw [if_pos (by omega)] | rw [if_neg (by omega)] | rw [if_pos (by constructor <;> assumption)] | rw [if_neg (by intro hh; exact absurd hh.1 (by assumption))] | rw [if_neg (by intro hh; exact absurd hh.2 (by assumption))])); (try rfl))))
    · have ytc := fg_fnd_t y4
      have hok := hw.2.2.2.1 town ytc
      have hM1 := (hL.2.2.1 town ytc).ag ha1.m
      have hz : fg_zok (A.ts town) S.1 (S.2.1.1, 0, 0, 0) S.2.2 := fg_zok.news (fg_fnd_okW hw y4)
      have hv0 := hM1.1
      have hb0 := hok.1
      have hb1 := hok.2.1
      have hp := hok.p
      have hz9 := hz.1
      have hm2 := hz.2.1 person y5
      have hm0 : S.2.1.1 person < 2 ^ A.ts town 0 := hm2.1
      have hmc : fg_clsd (A.ts town) (S.2.1.1 person) := hm2.2
      have hm10 : S.2.1.1 person < 1024 := by omega
      refine fg_if_ne (tgt := 25) (fg_ft (pc := 19) tb_Mo_roots 11 rfl) (by decide) (fun _ => ?_) (fun h => absurd h (by decide))
      refine fg_iconst (fg_ft (pc := 25) tb_Mo_roots 14 rfl) ic_0 ?_
      refine fg_iloadn (fg_ft (pc := 26) tb_Mo_roots 15 rfl) rfl ?_
      refine fg_callS (fg_ft (pc := 27) tb_Mo_roots 16 rfl) cf_Mo_166 (as := [.int (nI 0), .int (nI town)]) (st := []) rfl rfl (Nat.le_of_ble_eq_true rfl) (Nat.le_refl _) (Nat.le_refl _) (ev_Mo_placeOf0 (k := town) ?_)
      refine fg_istore (fg_ft (pc := 30) tb_Mo_roots 17 rfl) (Nat.le_of_ble_eq_true rfl) ?_
      refine fg_aloadn (fg_ft (pc := 32) tb_Mo_roots 18 rfl) rfl ?_
      refine fg_getR (fg_ft (pc := 33) tb_Mo_roots 19 rfl) ff_Mo_23 ly_287 rfl (fg_lt ly_287 (by decide)) (rh_287_12 R) ?_
      refine fg_iload (fg_ft (pc := 36) tb_Mo_roots 20 rfl) rfl ?_
      refine fg_ialdV (v := (nI (S.2.1.1 person))) (fg_ft (pc := 38) tb_Mo_roots 21 rfl) ly_292 (fg_lt ly_292 (by decide)) (by omega) (hS1.2.1 _ (by omega)) ?_
      refine fg_istore (fg_ft (pc := 39) tb_Mo_roots 22 rfl) (Nat.le_of_ble_eq_true rfl) ?_
      refine fg_iload (fg_ft (pc := 41) tb_Mo_roots 23 rfl) rfl ?_
      refine fg_if_neW (tgt := 58) (fg_ft (pc := 43) tb_Mo_roots 24 rfl) (by decide) (hwhat) (fun c43 => ?_) (fun c43 => ?_)
      · refine fg_iconst (fg_ft (pc := 58) tb_Mo_roots 32 rfl) ic_0 ?_
        refine fg_istore (fg_ft (pc := 59) tb_Mo_roots 33 rfl) (Nat.le_of_ble_eq_true rfl) ?_
        refine fg_iconst (fg_ft (pc := 61) tb_Mo_roots 34 rfl) ic_m1 ?_
        refine fg_istore (fg_ft (pc := 62) tb_Mo_roots 35 rfl) (Nat.le_of_ble_eq_true rfl) ?_
        refine fg_bipush (fg_ft (pc := 64) tb_Mo_roots 36 rfl) ib_99 ?_
        refine fg_istore (fg_ft (pc := 66) tb_Mo_roots 37 rfl) (Nat.le_of_ble_eq_true rfl) ?_
        refine fg_iconst (fg_ft (pc := 68) tb_Mo_roots 38 rfl) ic_0 ?_
        refine fg_istore (fg_ft (pc := 69) tb_Mo_roots 39 rfl) (Nat.le_of_ble_eq_true rfl) ?_
        have loop : ∀ (m f a l : Nat) (v12 : Value), A.ts town 0 - f < m → f ≤ A.ts town 0 → a = fg_frs (A.ts town) (S.2.1.1 person) f → l < 100 → fg_dlI (A.ts town) (S.2.1.1 person) f l → fg_wp E yy_Mo_roots (d + 12) 304 304 Q 71 [.ref 287, .int (nI town), .int (nI day), .int (nI n), .int (nI person), .int (nI what), .int (nI (610 + 152 * town)), .int (nI (S.2.1.1 person)), .int (nI a), .int (fg_o (fg_dm (A.ts town) (S.2.1.1 person) f).2), .int (nI l), .int (nI f), v12] [] (μ1, fg_rho R, 304) := by
          intro m
          induction m with
          | zero => intro f a l v12 h; exact absurd h (Nat.not_lt_zero _)
          | succ m ih =>
            intro f a l v12 hm hf ha hl hI
            have hdf : fg_df (S.2.1.1 person) (2 ^ f) < 2 ^ A.ts town 0 := fg_df_lt hm0
            have hfw : fg_fw (A.ts town) (S.2.1.1 person) f < 2 ^ A.ts town 0 := fg_df_lt hm0
            have hfl := fg_pc_le (fg_fw (A.ts town) (S.2.1.1 person) f)
            refine fg_iload (fg_ft (pc := 71) tb_Mo_roots 40 rfl) rfl ?_
            refine fg_aloadn (fg_ft (pc := 73) tb_Mo_roots 41 rfl) rfl ?_
            refine fg_getR (fg_ft (pc := 74) tb_Mo_roots 42 rfl) ff_Mo_7 ly_287 rfl (fg_lt ly_287 (by decide)) (rh_287_0 R) ?_
            refine fg_iload (fg_ft (pc := 77) tb_Mo_roots 43 rfl) rfl ?_
            refine fg_iconst (fg_ft (pc := 79) tb_Mo_roots 44 rfl) ic_0 ?_
            refine fg_iaddN (fg_ft (pc := 80) tb_Mo_roots 45 rfl) ?_
            refine fg_ialdV (v := (nI ((A.ts town) 0))) (fg_ft (pc := 81) tb_Mo_roots 46 rfl) ly_288 (fg_lt ly_288 (by decide)) (by omega) (fg_MTat hM1 (i := (610 + 152 * town) + 0) (k := 0) (by omega) (by omega)) ?_
            refine fg_icmp_geN (tgt := 179) (fg_ft (pc := 82) tb_Mo_roots 47 rfl) (by decide) (by omega) (by omega) (fun c82 => ?_) (fun c82 => ?_)
            · refine fg_iload (fg_ft (pc := 179) tb_Mo_roots 96 rfl) rfl ?_
              refine fg_iconst (fg_ft (pc := 181) tb_Mo_roots 97 rfl) ic_1 ?_
              refine fg_icmp_neW (tgt := 190) (fg_ft (pc := 182) tb_Mo_roots 98 rfl) (by decide) (hwhat) (by decide) (fun c182 => ?_) (fun c182 => ?_)
              · refine fg_iload (fg_ft (pc := 190) tb_Mo_roots 101 rfl) rfl ?_
                exact fg_iret (fg_ft (pc := 192) tb_Mo_roots 102 rfl) rfl rfl (fg_q (hQ _ (fg_agR_A ha1)) (by unfold an_roots; rw [fg_g1_some y4 y5] <;> (rw [show A.ts town 0 = f by omega, ← ha, if_neg c43]; first | (rw [if_pos c182]; done) | (rw [if_neg c182, if_pos (by omega)]; done))))
              · refine fg_iload (fg_ft (pc := 185) tb_Mo_roots 99 rfl) rfl ?_
                refine fg_goto (tgt := 192) (fg_ft (pc := 187) tb_Mo_roots 100 rfl) (by decide) ?_
                exact fg_iret (fg_ft (pc := 192) tb_Mo_roots 102 rfl) rfl rfl (fg_q (hQ _ (fg_agR_A ha1)) (by unfold an_roots; rw [fg_g1_some y4 y5] <;> (rw [show A.ts town 0 = f by omega, ← ha, if_neg c43]; first | (rw [if_pos c182]; done) | (rw [if_neg c182, if_pos (by omega)]; done))))
            · refine fg_iload (fg_ft (pc := 85) tb_Mo_roots 48 rfl) rfl ?_
              refine fg_iload (fg_ft (pc := 87) tb_Mo_roots 49 rfl) rfl ?_
              refine fg_ishrN (fg_ft (pc := 89) tb_Mo_roots 50 rfl) (by omega) (by omega) ?_
              refine fg_iconst (fg_ft (pc := 90) tb_Mo_roots 51 rfl) ic_1 ?_
              refine fg_iandN (fg_ft (pc := 91) tb_Mo_roots 52 rfl) ?_
              refine fg_ifbit_ne (tgt := 98) (fg_ft (pc := 92) tb_Mo_roots 53 rfl) (by decide) (fun c92 => ?_) (fun c92 => ?_)
              · refine fg_iload (fg_ft (pc := 98) tb_Mo_roots 55 rfl) rfl ?_
                refine fg_aloadn (fg_ft (pc := 100) tb_Mo_roots 56 rfl) rfl ?_
                refine fg_iload (fg_ft (pc := 101) tb_Mo_roots 57 rfl) rfl ?_
                refine fg_iload (fg_ft (pc := 103) tb_Mo_roots 58 rfl) rfl ?_
                refine fg_iconst (fg_ft (pc := 105) tb_Mo_roots 59 rfl) ic_1 ?_
                refine fg_iload (fg_ft (pc := 106) tb_Mo_roots 60 rfl) rfl ?_
                refine fg_ishl1 (fg_ft (pc := 108) tb_Mo_roots 61 rfl) (by omega) ?_
                refine fg_iconst (fg_ft (pc := 109) tb_Mo_roots 62 rfl) ic_m1 ?_
                refine fg_ixor (fg_ft (pc := 110) tb_Mo_roots 63 rfl) ?_
                refine fg_iandD (fg_ft (pc := 111) tb_Mo_roots 64 rfl) ?_
                refine fg_iload (fg_ft (pc := 112) tb_Mo_roots 65 rfl) rfl ?_
                refine fg_callV (fg_ft (pc := 114) tb_Mo_roots 66 rfl) cf_Mo_315 (fg_isOf ly_287 rfl (fg_lt ly_287 (by decide))) (as := [.int (nI (610 + 152 * town)), .int (nI (fg_df (S.2.1.1 person) (2 ^ f))), .int (nI f)]) (st := [.int (nI a)]) rfl rfl (Nat.le_of_ble_eq_true rfl) (Nat.le_refl _) (Nat.le_refl _) (ev_Mo_follows hM1 hok hC1 (s := (fg_df (S.2.1.1 person) (2 ^ f))) (f := f) (hdf) (by omega) ?_)
                refine fg_ifB_eq (tgt := 124) (fg_ft (pc := 117) tb_Mo_roots 67 rfl) (by decide) (fun c117 => ?_) (fun c117 => ?_)
                · refine fg_iconst (fg_ft (pc := 124) tb_Mo_roots 70 rfl) ic_1 ?_
                  refine fg_iload (fg_ft (pc := 125) tb_Mo_roots 71 rfl) rfl ?_
                  refine fg_ishl1 (fg_ft (pc := 127) tb_Mo_roots 72 rfl) (by omega) ?_
                  refine fg_iorN (fg_ft (pc := 128) tb_Mo_roots 73 rfl) ?_
                  refine fg_istore (fg_ft (pc := 129) tb_Mo_roots 74 rfl) (Nat.le_of_ble_eq_true rfl) ?_
                  refine fg_aloadn (fg_ft (pc := 131) tb_Mo_roots 75 rfl) rfl ?_
                  refine fg_iload (fg_ft (pc := 132) tb_Mo_roots 76 rfl) rfl ?_
                  refine fg_iload (fg_ft (pc := 134) tb_Mo_roots 77 rfl) rfl ?_
                  refine fg_iload (fg_ft (pc := 136) tb_Mo_roots 78 rfl) rfl ?_
                  refine fg_callV (fg_ft (pc := 138) tb_Mo_roots 79 rfl) cf_Mo_194 (fg_isOf ly_287 rfl (fg_lt ly_287 (by decide))) (as := [.int (nI (610 + 152 * town)), .int (nI (S.2.1.1 person)), .int (nI f)]) (st := []) rfl rfl (Nat.le_of_ble_eq_true rfl) (Nat.le_refl _) (Nat.le_refl _) (ev_Mo_wholeGone hM1 hok (mind := (S.2.1.1 person)) (fact := f) (hm0) (by omega) ?_)
                  refine fg_callS (fg_ft (pc := 141) tb_Mo_roots 80 rfl) cf_Mo_185 (as := [.int (nI (fg_fw (A.ts town) (S.2.1.1 person) f))]) (st := []) rfl rfl (Nat.le_of_ble_eq_true rfl) (Nat.le_refl _) (Nat.le_refl _) (ev_Mo_many (s := (fg_fw (A.ts town) (S.2.1.1 person) f)) (by omega) ?_)
                  refine fg_istore (fg_ft (pc := 144) tb_Mo_roots 81 rfl) (Nat.le_of_ble_eq_true rfl) ?_
                  refine fg_iload (fg_ft (pc := 146) tb_Mo_roots 82 rfl) rfl ?_
                  refine fg_iload (fg_ft (pc := 148) tb_Mo_roots 83 rfl) rfl ?_
                  refine fg_icmp_geN (tgt := 157) (fg_ft (pc := 150) tb_Mo_roots 84 rfl) (by decide) (by omega) (by omega) (fun c150 => ?_) (fun c150 => ?_)
                  · refine fg_iload (fg_ft (pc := 157) tb_Mo_roots 87 rfl) rfl ?_
                    refine fg_iload (fg_ft (pc := 159) tb_Mo_roots 88 rfl) rfl ?_
                    refine fg_icmp_geN (tgt := 169) (fg_ft (pc := 161) tb_Mo_roots 89 rfl) (by decide) (by omega) (by omega) (fun c161 => ?_) (fun c161 => ?_)
                    · refine fg_iload (fg_ft (pc := 169) tb_Mo_roots 92 rfl) rfl ?_
                      refine fg_istore (fg_ft (pc := 171) tb_Mo_roots 93 rfl) (Nat.le_of_ble_eq_true rfl) ?_
                      refine fg_iincN (fg_ft (pc := 173) tb_Mo_roots 94 rfl) rfl ic_1 rfl ?_
                      refine fg_goto (tgt := 71) (fg_ft (pc := 176) tb_Mo_roots 95 rfl) (by decide) ?_
                      first
                        | exact absurd c150 (by omega)
                        | (rcases fg_dlI_1 hok hm0 hI c92 with ⟨g1, g2, g3⟩ | ⟨g1, g2, g3⟩
                           · first
                               | (exfalso; omega)
                               | (have q9 := ih (f + 1) (a ||| (2 ^ f)) (l) (.int (nI (fg_pc (fg_fw (A.ts town) (S.2.1.1 person) f)))) (by omega) (by omega) (by rw [ha]; show _ = fg_frs (A.ts town) (S.2.1.1 person) f ||| _; rw [if_pos ⟨c92, by simpa using c117⟩]) (by omega) g3
                                  rw [g2] at q9
                                  exact q9)
                           · first
                               | (exfalso; omega)
                               | (have q9 := ih (f + 1) (a ||| (2 ^ f)) (l) (.int (nI (fg_pc (fg_fw (A.ts town) (S.2.1.1 person) f)))) (by omega) (by omega) (by rw [ha]; show _ = fg_frs (A.ts town) (S.2.1.1 person) f ||| _; rw [if_pos ⟨c92, by simpa using c117⟩]) (by omega) g3
                                  rw [g2] at q9
                                  exact q9))
                    · refine fg_iload (fg_ft (pc := 164) tb_Mo_roots 90 rfl) rfl ?_
                      refine fg_goto (tgt := 171) (fg_ft (pc := 166) tb_Mo_roots 91 rfl) (by decide) ?_
                      refine fg_istore (fg_ft (pc := 171) tb_Mo_roots 93 rfl) (Nat.le_of_ble_eq_true rfl) ?_
                      refine fg_iincN (fg_ft (pc := 173) tb_Mo_roots 94 rfl) rfl ic_1 rfl ?_
                      refine fg_goto (tgt := 71) (fg_ft (pc := 176) tb_Mo_roots 95 rfl) (by decide) ?_
                      first
                        | exact absurd c150 (by omega)
                        | (rcases fg_dlI_1 hok hm0 hI c92 with ⟨g1, g2, g3⟩ | ⟨g1, g2, g3⟩
                           · first
                               | (exfalso; omega)
                               | (have q9 := ih (f + 1) (a ||| (2 ^ f)) (fg_pc (fg_fw (A.ts town) (S.2.1.1 person) f)) (.int (nI (fg_pc (fg_fw (A.ts town) (S.2.1.1 person) f)))) (by omega) (by omega) (by rw [ha]; show _ = fg_frs (A.ts town) (S.2.1.1 person) f ||| _; rw [if_pos ⟨c92, by simpa using c117⟩]) (by omega) g3
                                  rw [g2] at q9
                                  exact q9)
                           · first
                               | (exfalso; omega)
                               | (have q9 := ih (f + 1) (a ||| (2 ^ f)) (fg_pc (fg_fw (A.ts town) (S.2.1.1 person) f)) (.int (nI (fg_pc (fg_fw (A.ts town) (S.2.1.1 person) f)))) (by omega) (by omega) (by rw [ha]; show _ = fg_frs (A.ts town) (S.2.1.1 person) f ||| _; rw [if_pos ⟨c92, by simpa using c117⟩]) (by omega) g3
                                  rw [g2] at q9
                                  exact q9))
                  · refine fg_iload (fg_ft (pc := 153) tb_Mo_roots 85 rfl) rfl ?_
                    refine fg_istore (fg_ft (pc := 155) tb_Mo_roots 86 rfl) (Nat.le_of_ble_eq_true rfl) ?_
                    refine fg_iload (fg_ft (pc := 157) tb_Mo_roots 87 rfl) rfl ?_
                    refine fg_iload (fg_ft (pc := 159) tb_Mo_roots 88 rfl) rfl ?_
                    refine fg_icmp_geN (tgt := 169) (fg_ft (pc := 161) tb_Mo_roots 89 rfl) (by decide) (by omega) (by omega) (fun c161 => ?_) (fun c161 => ?_)
                    · refine fg_iload (fg_ft (pc := 169) tb_Mo_roots 92 rfl) rfl ?_
                      refine fg_istore (fg_ft (pc := 171) tb_Mo_roots 93 rfl) (Nat.le_of_ble_eq_true rfl) ?_
                      refine fg_iincN (fg_ft (pc := 173) tb_Mo_roots 94 rfl) rfl ic_1 rfl ?_
                      refine fg_goto (tgt := 71) (fg_ft (pc := 176) tb_Mo_roots 95 rfl) (by decide) ?_
                      first
                        | exact absurd c150 (by omega)
                        | (rcases fg_dlI_1 hok hm0 hI c92 with ⟨g1, g2, g3⟩ | ⟨g1, g2, g3⟩
                           · first
                               | (exfalso; omega)
                               | (have q9 := ih (f + 1) (a ||| (2 ^ f)) (l) (.int (nI (fg_pc (fg_fw (A.ts town) (S.2.1.1 person) f)))) (by omega) (by omega) (by rw [ha]; show _ = fg_frs (A.ts town) (S.2.1.1 person) f ||| _; rw [if_pos ⟨c92, by simpa using c117⟩]) (by omega) g3
                                  rw [g2] at q9
                                  exact q9)
                           · first
                               | (exfalso; omega)
                               | (have q9 := ih (f + 1) (a ||| (2 ^ f)) (l) (.int (nI (fg_pc (fg_fw (A.ts town) (S.2.1.1 person) f)))) (by omega) (by omega) (by rw [ha]; show _ = fg_frs (A.ts town) (S.2.1.1 person) f ||| _; rw [if_pos ⟨c92, by simpa using c117⟩]) (by omega) g3
                                  rw [g2] at q9
                                  exact q9))
                    · refine fg_iload (fg_ft (pc := 164) tb_Mo_roots 90 rfl) rfl ?_
                      refine fg_goto (tgt := 171) (fg_ft (pc := 166) tb_Mo_roots 91 rfl) (by decide) ?_
                      refine fg_istore (fg_ft (pc := 171) tb_Mo_roots 93 rfl) (Nat.le_of_ble_eq_true rfl) ?_
                      refine fg_iincN (fg_ft (pc := 173) tb_Mo_roots 94 rfl) rfl ic_1 rfl ?_
                      refine fg_goto (tgt := 71) (fg_ft (pc := 176) tb_Mo_roots 95 rfl) (by decide) ?_
                      first
                        | exact absurd c150 (by omega)
                        | (rcases fg_dlI_1 hok hm0 hI c92 with ⟨g1, g2, g3⟩ | ⟨g1, g2, g3⟩
                           · first
                               | (exfalso; omega)
                               | (have q9 := ih (f + 1) (a ||| (2 ^ f)) (fg_pc (fg_fw (A.ts town) (S.2.1.1 person) f)) (.int (nI (fg_pc (fg_fw (A.ts town) (S.2.1.1 person) f)))) (by omega) (by omega) (by rw [ha]; show _ = fg_frs (A.ts town) (S.2.1.1 person) f ||| _; rw [if_pos ⟨c92, by simpa using c117⟩]) (by omega) g3
                                  rw [g2] at q9
                                  exact q9)
                           · first
                               | (exfalso; omega)
                               | (have q9 := ih (f + 1) (a ||| (2 ^ f)) (fg_pc (fg_fw (A.ts town) (S.2.1.1 person) f)) (.int (nI (fg_pc (fg_fw (A.ts town) (S.2.1.1 person) f)))) (by omega) (by omega) (by rw [ha]; show _ = fg_frs (A.ts town) (S.2.1.1 person) f ||| _; rw [if_pos ⟨c92, by simpa using c117⟩]) (by omega) g3
                                  rw [g2] at q9
                                  exact q9))
                · refine fg_iconst (fg_ft (pc := 120) tb_Mo_roots 68 rfl) ic_0 ?_
                  refine fg_goto (tgt := 128) (fg_ft (pc := 121) tb_Mo_roots 69 rfl) (by decide) ?_
                  refine fg_iorN (fg_ft (pc := 128) tb_Mo_roots 73 rfl) ?_
                  refine fg_istore (fg_ft (pc := 129) tb_Mo_roots 74 rfl) (Nat.le_of_ble_eq_true rfl) ?_
                  refine fg_aloadn (fg_ft (pc := 131) tb_Mo_roots 75 rfl) rfl ?_
                  refine fg_iload (fg_ft (pc := 132) tb_Mo_roots 76 rfl) rfl ?_
                  refine fg_iload (fg_ft (pc := 134) tb_Mo_roots 77 rfl) rfl ?_
                  refine fg_iload (fg_ft (pc := 136) tb_Mo_roots 78 rfl) rfl ?_
                  refine fg_callV (fg_ft (pc := 138) tb_Mo_roots 79 rfl) cf_Mo_194 (fg_isOf ly_287 rfl (fg_lt ly_287 (by decide))) (as := [.int (nI (610 + 152 * town)), .int (nI (S.2.1.1 person)), .int (nI f)]) (st := []) rfl rfl (Nat.le_of_ble_eq_true rfl) (Nat.le_refl _) (Nat.le_refl _) (ev_Mo_wholeGone hM1 hok (mind := (S.2.1.1 person)) (fact := f) (hm0) (by omega) ?_)
                  refine fg_callS (fg_ft (pc := 141) tb_Mo_roots 80 rfl) cf_Mo_185 (as := [.int (nI (fg_fw (A.ts town) (S.2.1.1 person) f))]) (st := []) rfl rfl (Nat.le_of_ble_eq_true rfl) (Nat.le_refl _) (Nat.le_refl _) (ev_Mo_many (s := (fg_fw (A.ts town) (S.2.1.1 person) f)) (by omega) ?_)
                  refine fg_istore (fg_ft (pc := 144) tb_Mo_roots 81 rfl) (Nat.le_of_ble_eq_true rfl) ?_
                  refine fg_iload (fg_ft (pc := 146) tb_Mo_roots 82 rfl) rfl ?_
                  refine fg_iload (fg_ft (pc := 148) tb_Mo_roots 83 rfl) rfl ?_
                  refine fg_icmp_geN (tgt := 157) (fg_ft (pc := 150) tb_Mo_roots 84 rfl) (by decide) (by omega) (by omega) (fun c150 => ?_) (fun c150 => ?_)
                  · refine fg_iload (fg_ft (pc := 157) tb_Mo_roots 87 rfl) rfl ?_
                    refine fg_iload (fg_ft (pc := 159) tb_Mo_roots 88 rfl) rfl ?_
                    refine fg_icmp_geN (tgt := 169) (fg_ft (pc := 161) tb_Mo_roots 89 rfl) (by decide) (by omega) (by omega) (fun c161 => ?_) (fun c161 => ?_)
                    · refine fg_iload (fg_ft (pc := 169) tb_Mo_roots 92 rfl) rfl ?_
                      refine fg_istore (fg_ft (pc := 171) tb_Mo_roots 93 rfl) (Nat.le_of_ble_eq_true rfl) ?_
                      refine fg_iincN (fg_ft (pc := 173) tb_Mo_roots 94 rfl) rfl ic_1 rfl ?_
                      refine fg_goto (tgt := 71) (fg_ft (pc := 176) tb_Mo_roots 95 rfl) (by decide) ?_
                      first
                        | exact absurd c150 (by omega)
                        | (rcases fg_dlI_1 hok hm0 hI c92 with ⟨g1, g2, g3⟩ | ⟨g1, g2, g3⟩
                           · first
                               | (exfalso; omega)
                               | (have q9 := ih (f + 1) (a ||| 0) (l) (.int (nI (fg_pc (fg_fw (A.ts town) (S.2.1.1 person) f)))) (by omega) (by omega) (by rw [ha]; show _ = fg_frs (A.ts town) (S.2.1.1 person) f ||| _; rw [if_neg (fun hh => by rw [c117] at hh; exact absurd hh.2 (by decide))]) (by omega) g3
                                  rw [g2] at q9
                                  exact q9)
                           · first
                               | (exfalso; omega)
                               | (have q9 := ih (f + 1) (a ||| 0) (l) (.int (nI (fg_pc (fg_fw (A.ts town) (S.2.1.1 person) f)))) (by omega) (by omega) (by rw [ha]; show _ = fg_frs (A.ts town) (S.2.1.1 person) f ||| _; rw [if_neg (fun hh => by rw [c117] at hh; exact absurd hh.2 (by decide))]) (by omega) g3
                                  rw [g2] at q9
                                  exact q9))
                    · refine fg_iload (fg_ft (pc := 164) tb_Mo_roots 90 rfl) rfl ?_
                      refine fg_goto (tgt := 171) (fg_ft (pc := 166) tb_Mo_roots 91 rfl) (by decide) ?_
                      refine fg_istore (fg_ft (pc := 171) tb_Mo_roots 93 rfl) (Nat.le_of_ble_eq_true rfl) ?_
                      refine fg_iincN (fg_ft (pc := 173) tb_Mo_roots 94 rfl) rfl ic_1 rfl ?_
                      refine fg_goto (tgt := 71) (fg_ft (pc := 176) tb_Mo_roots 95 rfl) (by decide) ?_
                      first
                        | exact absurd c150 (by omega)
                        | (rcases fg_dlI_1 hok hm0 hI c92 with ⟨g1, g2, g3⟩ | ⟨g1, g2, g3⟩
                           · first
                               | (exfalso; omega)
                               | (have q9 := ih (f + 1) (a ||| 0) (fg_pc (fg_fw (A.ts town) (S.2.1.1 person) f)) (.int (nI (fg_pc (fg_fw (A.ts town) (S.2.1.1 person) f)))) (by omega) (by omega) (by rw [ha]; show _ = fg_frs (A.ts town) (S.2.1.1 person) f ||| _; rw [if_neg (fun hh => by rw [c117] at hh; exact absurd hh.2 (by decide))]) (by omega) g3
                                  rw [g2] at q9
                                  exact q9)
                           · first
                               | (exfalso; omega)
                               | (have q9 := ih (f + 1) (a ||| 0) (fg_pc (fg_fw (A.ts town) (S.2.1.1 person) f)) (.int (nI (fg_pc (fg_fw (A.ts town) (S.2.1.1 person) f)))) (by omega) (by omega) (by rw [ha]; show _ = fg_frs (A.ts town) (S.2.1.1 person) f ||| _; rw [if_neg (fun hh => by rw [c117] at hh; exact absurd hh.2 (by decide))]) (by omega) g3
                                  rw [g2] at q9
                                  exact q9))
                  · refine fg_iload (fg_ft (pc := 153) tb_Mo_roots 85 rfl) rfl ?_
                    refine fg_istore (fg_ft (pc := 155) tb_Mo_roots 86 rfl) (Nat.le_of_ble_eq_true rfl) ?_
                    refine fg_iload (fg_ft (pc := 157) tb_Mo_roots 87 rfl) rfl ?_
                    refine fg_iload (fg_ft (pc := 159) tb_Mo_roots 88 rfl) rfl ?_
                    refine fg_icmp_geN (tgt := 169) (fg_ft (pc := 161) tb_Mo_roots 89 rfl) (by decide) (by omega) (by omega) (fun c161 => ?_) (fun c161 => ?_)
                    · refine fg_iload (fg_ft (pc := 169) tb_Mo_roots 92 rfl) rfl ?_
                      refine fg_istore (fg_ft (pc := 171) tb_Mo_roots 93 rfl) (Nat.le_of_ble_eq_true rfl) ?_
                      refine fg_iincN (fg_ft (pc := 173) tb_Mo_roots 94 rfl) rfl ic_1 rfl ?_
                      refine fg_goto (tgt := 71) (fg_ft (pc := 176) tb_Mo_roots 95 rfl) (by decide) ?_
                      first
                        | exact absurd c150 (by omega)
                        | (rcases fg_dlI_1 hok hm0 hI c92 with ⟨g1, g2, g3⟩ | ⟨g1, g2, g3⟩
                           · first
                               | (exfalso; omega)
                               | (have q9 := ih (f + 1) (a ||| 0) (l) (.int (nI (fg_pc (fg_fw (A.ts town) (S.2.1.1 person) f)))) (by omega) (by omega) (by rw [ha]; show _ = fg_frs (A.ts town) (S.2.1.1 person) f ||| _; rw [if_neg (fun hh => by rw [c117] at hh; exact absurd hh.2 (by decide))]) (by omega) g3
                                  rw [g2] at q9
                                  exact q9)
                           · first
                               | (exfalso; omega)
                               | (have q9 := ih (f + 1) (a ||| 0) (l) (.int (nI (fg_pc (fg_fw (A.ts town) (S.2.1.1 person) f)))) (by omega) (by omega) (by rw [ha]; show _ = fg_frs (A.ts town) (S.2.1.1 person) f ||| _; rw [if_neg (fun hh => by rw [c117] at hh; exact absurd hh.2 (by decide))]) (by omega) g3
                                  rw [g2] at q9
                                  exact q9))
                    · refine fg_iload (fg_ft (pc := 164) tb_Mo_roots 90 rfl) rfl ?_
                      refine fg_goto (tgt := 171) (fg_ft (pc := 166) tb_Mo_roots 91 rfl) (by decide) ?_
                      refine fg_istore (fg_ft (pc := 171) tb_Mo_roots 93 rfl) (Nat.le_of_ble_eq_true rfl) ?_
                      refine fg_iincN (fg_ft (pc := 173) tb_Mo_roots 94 rfl) rfl ic_1 rfl ?_
                      refine fg_goto (tgt := 71) (fg_ft (pc := 176) tb_Mo_roots 95 rfl) (by decide) ?_
                      first
                        | exact absurd c150 (by omega)
                        | (rcases fg_dlI_1 hok hm0 hI c92 with ⟨g1, g2, g3⟩ | ⟨g1, g2, g3⟩
                           · first
                               | (exfalso; omega)
                               | (have q9 := ih (f + 1) (a ||| 0) (fg_pc (fg_fw (A.ts town) (S.2.1.1 person) f)) (.int (nI (fg_pc (fg_fw (A.ts town) (S.2.1.1 person) f)))) (by omega) (by omega) (by rw [ha]; show _ = fg_frs (A.ts town) (S.2.1.1 person) f ||| _; rw [if_neg (fun hh => by rw [c117] at hh; exact absurd hh.2 (by decide))]) (by omega) g3
                                  rw [g2] at q9
                                  exact q9)
                           · first
                               | (exfalso; omega)
                               | (have q9 := ih (f + 1) (a ||| 0) (fg_pc (fg_fw (A.ts town) (S.2.1.1 person) f)) (.int (nI (fg_pc (fg_fw (A.ts town) (S.2.1.1 person) f)))) (by omega) (by omega) (by rw [ha]; show _ = fg_frs (A.ts town) (S.2.1.1 person) f ||| _; rw [if_neg (fun hh => by rw [c117] at hh; exact absurd hh.2 (by decide))]) (by omega) g3
                                  rw [g2] at q9
                                  exact q9))
              · refine fg_goto (tgt := 173) (fg_ft (pc := 95) tb_Mo_roots 54 rfl) (by decide) ?_
                refine fg_iincN (fg_ft (pc := 173) tb_Mo_roots 94 rfl) rfl ic_1 rfl ?_
                refine fg_goto (tgt := 71) (fg_ft (pc := 176) tb_Mo_roots 95 rfl) (by decide) ?_
                obtain ⟨g1, g2⟩ := fg_dlI_0 hI (by rw [c92]; decide)
                have q9 := ih (f + 1) a l v12 (by omega) (by omega) (by rw [ha]; show _ = fg_frs (A.ts town) (S.2.1.1 person) f ||| _; rw [if_neg (fun hh => by rw [c92] at hh; exact absurd hh.1 (by decide)), Nat.or_zero]) hl g2
                rw [g1] at q9
                exact q9
        exact loop (A.ts town 0 + 1) 0 0 99 _ (by omega) (by omega) rfl (by decide) (Or.inl ⟨rfl, rfl, rfl⟩)
      · refine fg_aloadn (fg_ft (pc := 46) tb_Mo_roots 25 rfl) rfl ?_
        refine fg_iload (fg_ft (pc := 47) tb_Mo_roots 26 rfl) rfl ?_
        refine fg_iload (fg_ft (pc := 49) tb_Mo_roots 27 rfl) rfl ?_
        refine fg_iconst (fg_ft (pc := 51) tb_Mo_roots 28 rfl) ic_0 ?_
        refine fg_iload (fg_ft (pc := 52) tb_Mo_roots 29 rfl) rfl ?_
        refine fg_callV (fg_ft (pc := 54) tb_Mo_roots 30 rfl) cf_Mo_324 (fg_isOf ly_287 rfl (fg_lt ly_287 (by decide))) (as := [.int (nI (610 + 152 * town)), .int (nI (S.2.1.1 person)), .int (nI 0), .int (nI (S.2.1.1 person))]) (st := []) rfl rfl (Nat.le_of_ble_eq_true rfl) (Nat.le_refl _) (Nat.le_refl _) (ev_Mo_fewest hM1 hok hC1 (facts := (S.2.1.1 person)) (beside := 0) (need := (S.2.1.1 person)) (hm0) (Nat.two_pow_pos _) (by omega) ?_)
        exact fg_iret (fg_ft (pc := 57) tb_Mo_roots 31 rfl) rfl rfl (fg_q (hQ _ (fg_agR_A ha1)) (by unfold an_roots; rw [fg_g1_some y4 y5] <;> ((repeat (first | rw [if_pos (by assumption)] | rw [if_neg (by assumption)] | rw [if_pos (by omega)] | rw [if_neg (by omega)] | rw [if_pos (by constructor <;> assumption)] | rw [if_neg (by intro hh; exact absurd hh.1 (by assumption))] | rw [if_neg (by intro hh; exact absurd hh.2 (by assumption))])); (try rfl))))
theorem fg_few_2 {T : Nat → Nat} {m f b s : Nat} : fg_few T m (2 ^ f) (2 ^ b) s ↔ (fg_clo T (m ||| s)).testBit f = true ∧ ¬ (fg_clo T (m ||| s)).testBit b = true := by
  unfold fg_few
  rw [fg_df0, fg_bit_le, fg_and2p']
theorem fg_few_1 {T : Nat → Nat} {m f s : Nat} : fg_few T m (2 ^ f) 0 s ↔ (fg_clo T (m ||| s)).testBit f = true := by
  unfold fg_few
  rw [fg_df0, fg_bit_le, Nat.zero_and]
  exact ⟨fun h => h.1, fun h => ⟨h, rfl⟩⟩
theorem fg_or_df (m q : Nat) : m ||| fg_df q m = m ||| q := by
  apply Nat.eq_of_testBit_eq
  intro i
  rw [Nat.testBit_or, Nat.testBit_or, fg_df_bit]
  cases m.testBit i <;> cases q.testBit i <;> rfl
def fg_ntX (T : Nat → Nat) (m f b s : Nat) : Prop := s < 2 ^ T 0 ∧ ¬ s.testBit f = true ∧ fg_few T m (2 ^ f) (2 ^ b) s
theorem fg_nt_min {T : Nat → Nat} {m f b : Nat} : fg_min (fg_ntX T m f b) = fg_min (fun s => fg_le s (fg_df (fg_df (2 ^ T 0 - 1) m) (2 ^ f)) ∧ fg_few T m (2 ^ f) (2 ^ b) s) := by
  refine fg_min_sub (fun q hq => ?_) (fun q hq => ?_)
  · have h1 : fg_le q (2 ^ T 0 - 1) := fg_le_tr hq.1 (fg_le_tr (fg_df_le _ _) (fg_df_le _ _))
    refine ⟨fg_le_all.mp h1, fun hb => ?_, hq.2⟩
    have := hq.1 f hb
    rw [fg_df_bit, Nat.testBit_two_pow_self] at this
    simp at this
  · refine ⟨fg_df q m, ⟨fun i hi => ?_, ?_⟩, fg_pc_mono (fg_df_le _ _), fg_le_le (fg_df_le _ _)⟩
    · rw [fg_df_bit, Bool.and_eq_true] at hi
      have h1 : i < T 0 := fg_bit_lt hq.1 hi.1
      rw [fg_df_bit, fg_df_bit, fg_all_bit, decide_eq_true h1, hi.2]
      rcases Nat.decEq f i with e | e
      · rw [Nat.testBit_two_pow_of_ne e]; rfl
      · subst e; exact absurd hi.1 hq.2.1
    · have h2 := hq.2.2
      unfold fg_few at h2 ⊢
      rw [fg_or_df]
      exact h2
theorem ev_Mo_note {E : fg_E} {d : Nat} {μ : Nat → Nat → Int32} {R : fg_T4} {Q : Option Value → fg_M → Prop} {A : fg_Tl} (hL : fg_ML (μ 288) A) (hw : fg_wA A) (h17 : μ 287 17 = -1) (h19 : μ 287 19 = nI 0) {town day n person fact but : Nat} (htown : town < 2 ^ 32) (hday : day < 2 ^ 32) (hn : n < 2 ^ 32) (hperson : person < 2 ^ 32) (hfact : fact < 2 ^ 32) (hbut : but < 2 ^ 32) (hQ : ∀ μ' : Nat → Nat → Int32, fg_agR μ μ' → Q (some (.int (an_note A town day n person fact but))) (μ', fg_rho R, 304)) : fg_Ev E yy_Mo_note (d + 12) [.ref 287, .int (nI town), .int (nI day), .int (nI n), .int (nI person), .int (nI fact), .int (nI but)] (μ, fg_rho R, 304) 304 Q := by
  have ht2 := hw.2.1
  have hd3 := hw.2.2.1
  refine fg_intro (by decide +kernel) (Nat.le_of_ble_eq_true rfl) (fg_okAs rfl) (Nat.le_refl _) ?_
  refine fg_aloadn (fg_ft (pc := 0) tb_Mo_note 0 rfl) rfl ?_
  refine fg_iloadn (fg_ft (pc := 1) tb_Mo_note 1 rfl) rfl ?_
  refine fg_iloadn (fg_ft (pc := 2) tb_Mo_note 2 rfl) rfl ?_
  refine fg_iloadn (fg_ft (pc := 3) tb_Mo_note 3 rfl) rfl ?_
  refine fg_iload (fg_ft (pc := 4) tb_Mo_note 4 rfl) rfl ?_
  refine fg_iload (fg_ft (pc := 6) tb_Mo_note 5 rfl) rfl ?_
  refine fg_callV (fg_ft (pc := 8) tb_Mo_note 6 rfl) cf_Mo_297 (fg_isOf ly_287 rfl (fg_lt ly_287 (by decide))) (as := [.int (nI town), .int (nI day), .int (nI n), .int (nI person), .int (nI fact)]) (st := []) rfl rfl (Nat.le_of_ble_eq_true rfl) (Nat.le_refl _) (Nat.le_refl _) (ev_Mo_lacks hL hw h17 h19 htown hday hn hperson hfact (fun n4 μ1 ha1 => ?_) (fun S lv y4 y5 hfT y6 μ1 n1 y1 ha1 hC1 hS1 => ?_))
  · refine fg_if_eq (tgt := 35) (fg_ft (pc := 11) tb_Mo_note 7 rfl) (by decide) (fun _ => ?_) (fun h => absurd h (by decide))
    refine fg_iconst (fg_ft (pc := 35) tb_Mo_note 18 rfl) ic_m1 ?_
    exact fg_iret (fg_ft (pc := 36) tb_Mo_note 19 rfl) rfl rfl (fg_q (hQ _ (fg_agR_A ha1)) (by unfold an_note; rcases n4 with n4 | ⟨S, lv, y4, y5, y6⟩; rw [fg_g1_none n4]; rw [fg_g1_some y4 y5] <;> (rcases y6 with y6 | y6; (rw [if_neg y6]); ((repeat split) <;> first | rfl | rw [if_pos y6]))))
  · have ytc := fg_fnd_t y4
    have hok := hw.2.2.2.1 town ytc
    have hM1 := (hL.2.2.1 town ytc).ag ha1.m
    have hz : fg_zok (A.ts town) S.1 (S.2.1.1, 0, 0, 0) S.2.2 := fg_zok.news (fg_fnd_okW hw y4)
    have hv0 := hM1.1
    have hb0 := hok.1
    have hb1 := hok.2.1
    have hp := hok.p
    have hz9 := hz.1
    have hm2 := hz.2.1 person y5
    have hm0 : S.2.1.1 person < 2 ^ A.ts town 0 := hm2.1
    have hmc : fg_clsd (A.ts town) (S.2.1.1 person) := hm2.2
    have hm10 : S.2.1.1 person < 1024 := by omega
    refine fg_if_eq (tgt := 35) (fg_ft (pc := 11) tb_Mo_note 7 rfl) (by decide) (fun h => absurd h (by decide)) (fun _ => ?_)
    refine fg_aloadn (fg_ft (pc := 14) tb_Mo_note 8 rfl) rfl ?_
    refine fg_iconst (fg_ft (pc := 15) tb_Mo_note 9 rfl) ic_0 ?_
    refine fg_iloadn (fg_ft (pc := 16) tb_Mo_note 10 rfl) rfl ?_
    refine fg_callS (fg_ft (pc := 17) tb_Mo_note 11 rfl) cf_Mo_166 (as := [.int (nI 0), .int (nI town)]) (st := [.ref 287]) rfl rfl (Nat.le_of_ble_eq_true rfl) (Nat.le_refl _) (Nat.le_refl _) (ev_Mo_placeOf0 (k := town) ?_)
    refine fg_iload (fg_ft (pc := 20) tb_Mo_note 12 rfl) rfl ?_
    refine fg_callV (fg_ft (pc := 22) tb_Mo_note 13 rfl) cf_Mo_233 (fg_isOf ly_287 rfl (fg_lt ly_287 (by decide))) (as := [.int (nI (610 + 152 * town)), .int (nI but)]) (st := []) rfl rfl (Nat.le_of_ble_eq_true rfl) (Nat.le_refl _) (Nat.le_refl _) (ev_Mo_isFact hM1 hok (k := but) (hbut) ?_)
    refine fg_ifB_eq (tgt := 35) (fg_ft (pc := 25) tb_Mo_note 14 rfl) (by decide) (fun c25 => ?_) (fun c25 => ?_)
    · refine fg_iconst (fg_ft (pc := 35) tb_Mo_note 18 rfl) ic_m1 ?_
      exact fg_iret (fg_ft (pc := 36) tb_Mo_note 19 rfl) rfl rfl (fg_q (hQ _ (fg_agR_A ha1)) (by unfold an_note; rw [fg_g1_some y4 y5] <;> (rw [if_pos hfT]; first | (rw [if_neg c25]; done) | (rw [if_pos c25, if_pos c32.symm]; done))))
    · refine fg_iload (fg_ft (pc := 28) tb_Mo_note 15 rfl) rfl ?_
      refine fg_iload (fg_ft (pc := 30) tb_Mo_note 16 rfl) rfl ?_
      refine fg_icmp_neW (tgt := 37) (fg_ft (pc := 32) tb_Mo_note 17 rfl) (by decide) (hbut) (hfact) (fun c32 => ?_) (fun c32 => ?_)
      · refine fg_iconst (fg_ft (pc := 37) tb_Mo_note 20 rfl) ic_0 ?_
        refine fg_iloadn (fg_ft (pc := 38) tb_Mo_note 21 rfl) rfl ?_
        refine fg_callS (fg_ft (pc := 39) tb_Mo_note 22 rfl) cf_Mo_166 (as := [.int (nI 0), .int (nI town)]) (st := []) rfl rfl (Nat.le_of_ble_eq_true rfl) (Nat.le_refl _) (Nat.le_refl _) (ev_Mo_placeOf0 (k := town) ?_)
        refine fg_istore (fg_ft (pc := 42) tb_Mo_note 23 rfl) (Nat.le_of_ble_eq_true rfl) ?_
        refine fg_iconst (fg_ft (pc := 44) tb_Mo_note 24 rfl) ic_m1 ?_
        refine fg_istore (fg_ft (pc := 45) tb_Mo_note 25 rfl) (Nat.le_of_ble_eq_true rfl) ?_
        refine fg_iconst (fg_ft (pc := 47) tb_Mo_note 26 rfl) ic_1 ?_
        refine fg_istore (fg_ft (pc := 48) tb_Mo_note 27 rfl) (Nat.le_of_ble_eq_true rfl) ?_
        have loop : ∀ (m s : Nat) (r : Option Nat), (2 ^ A.ts town 0) - s < m → s ≤ 2 ^ A.ts town 0 → fg_mn (fg_ntX (A.ts town) (S.2.1.1 person) fact but) s r → ∀ v10 : Value, fg_wp E yy_Mo_note (d + 12) 304 304 Q 50 [.ref 287, .int (nI town), .int (nI day), .int (nI n), .int (nI person), .int (nI fact), .int (nI but), .int (nI (610 + 152 * town)), .int (fg_o r), .int (nI s), v10] [] (μ1, fg_rho R, 304) := by
          intro m
          induction m with
          | zero => intro s r h; exact absurd h (Nat.not_lt_zero _)
          | succ m ih =>
            intro s r hm hs hI v10
            cases r with
            | none =>
              show fg_wp E yy_Mo_note (d + 12) 304 304 Q 50 [.ref 287, .int (nI town), .int (nI day), .int (nI n), .int (nI person), .int (nI fact), .int (nI but), .int (nI (610 + 152 * town)), .int (-1), .int (nI s), v10] [] (μ1, fg_rho R, 304)
              refine fg_iload (fg_ft (pc := 50) tb_Mo_note 28 rfl) rfl ?_
              refine fg_aloadn (fg_ft (pc := 52) tb_Mo_note 29 rfl) rfl ?_
              refine fg_iload (fg_ft (pc := 53) tb_Mo_note 30 rfl) rfl ?_
              refine fg_callV (fg_ft (pc := 55) tb_Mo_note 31 rfl) cf_Mo_169 (fg_isOf ly_287 rfl (fg_lt ly_287 (by decide))) (as := [.int (nI (610 + 152 * town))]) (st := [.int (nI s)]) rfl rfl (Nat.le_of_ble_eq_true rfl) (Nat.le_refl _) (Nat.le_refl _) (ev_Mo_wholeOf hM1 hok ?_)
              refine fg_icmp_gtN (tgt := 142) (fg_ft (pc := 58) tb_Mo_note 32 rfl) (by decide) (by omega) (by omega) (fun c58 => ?_) (fun c58 => ?_)
              · refine fg_iload (fg_ft (pc := 142) tb_Mo_note 75 rfl) rfl ?_
                exact fg_iret (fg_ft (pc := 144) tb_Mo_note 76 rfl) rfl rfl (fg_q (hQ _ (fg_agR_A ha1)) (by unfold an_note; rw [fg_g1_some y4 y5] <;> (rw [if_pos hfT, if_pos c25, if_neg (fun hh => c32 hh.symm), if_neg y6, ← fg_nt_min, fg_mn_end hI (fun q hq => by have := hq.1; omega)]; rfl)))
              · refine fg_iload (fg_ft (pc := 61) tb_Mo_note 33 rfl) rfl ?_
                refine fg_iload (fg_ft (pc := 63) tb_Mo_note 34 rfl) rfl ?_
                refine fg_ishrN (fg_ft (pc := 65) tb_Mo_note 35 rfl) (by omega) (by omega) ?_
                refine fg_iconst (fg_ft (pc := 66) tb_Mo_note 36 rfl) ic_1 ?_
                refine fg_iandN (fg_ft (pc := 67) tb_Mo_note 37 rfl) ?_
                refine fg_iconst (fg_ft (pc := 68) tb_Mo_note 38 rfl) ic_1 ?_
                refine fg_icmpbit_eq (tgt := 136) (fg_ft (pc := 69) tb_Mo_note 39 rfl) (by decide) (fun c69 => ?_) (fun c69 => ?_)
                · refine fg_iincN (fg_ft (pc := 136) tb_Mo_note 73 rfl) rfl ic_1 rfl ?_
                  refine fg_goto (tgt := 50) (fg_ft (pc := 139) tb_Mo_note 74 rfl) (by decide) ?_
                  exact ih (s + 1) none (by omega) (by omega) (fg_mn_0 hI (fun hh => by first | exact hh.2.1 c69 | (have z9 := (fg_few_2.mp hh.2.2).1; rw [c119] at z9; exact absurd z9 (by decide)) | exact (fg_few_2.mp hh.2.2).2 c129)) _
                · refine fg_iload (fg_ft (pc := 72) tb_Mo_note 40 rfl) rfl ?_
                  refine fg_if_lt (tgt := 93) (fg_ft (pc := 74) tb_Mo_note 41 rfl) (by decide) (fun c74 => ?_) (fun c74 => (absurd (by decide) c74))
                  have hsm : (S.2.1.1 person) ||| s < 2 ^ A.ts town 0 := fg_or_lt hm0 (by omega)
                  have hcs := fg_clo_lt hok hsm
                  refine fg_aloadn (fg_ft (pc := 93) tb_Mo_note 48 rfl) rfl ?_
                  refine fg_iload (fg_ft (pc := 94) tb_Mo_note 49 rfl) rfl ?_
                  refine fg_aloadn (fg_ft (pc := 96) tb_Mo_note 50 rfl) rfl ?_
                  refine fg_getR (fg_ft (pc := 97) tb_Mo_note 51 rfl) ff_Mo_23 ly_287 rfl (fg_lt ly_287 (by decide)) (rh_287_12 R) ?_
                  refine fg_iload (fg_ft (pc := 100) tb_Mo_note 52 rfl) rfl ?_
                  refine fg_ialdV (v := (nI (S.2.1.1 person))) (fg_ft (pc := 102) tb_Mo_note 53 rfl) ly_292 (fg_lt ly_292 (by decide)) (by omega) (hS1.2.1 _ (by omega)) ?_
                  refine fg_iload (fg_ft (pc := 103) tb_Mo_note 54 rfl) rfl ?_
                  refine fg_iorN (fg_ft (pc := 105) tb_Mo_note 55 rfl) ?_
                  refine fg_callV (fg_ft (pc := 106) tb_Mo_note 56 rfl) cf_Mo_206 (fg_isOf ly_287 rfl (fg_lt ly_287 (by decide))) (as := [.int (nI (610 + 152 * town)), .int (nI ((S.2.1.1 person) ||| s))]) (st := []) rfl rfl (Nat.le_of_ble_eq_true rfl) (Nat.le_refl _) (Nat.le_refl _) (ev_Mo_follow hM1 hok hC1 (s := ((S.2.1.1 person) ||| s)) (hsm) ?_)
                  refine fg_istore (fg_ft (pc := 109) tb_Mo_note 57 rfl) (Nat.le_of_ble_eq_true rfl) ?_
                  refine fg_iload (fg_ft (pc := 111) tb_Mo_note 58 rfl) rfl ?_
                  refine fg_iload (fg_ft (pc := 113) tb_Mo_note 59 rfl) rfl ?_
                  refine fg_ishrN (fg_ft (pc := 115) tb_Mo_note 60 rfl) (by omega) (by omega) ?_
                  refine fg_iconst (fg_ft (pc := 116) tb_Mo_note 61 rfl) ic_1 ?_
                  refine fg_iandN (fg_ft (pc := 117) tb_Mo_note 62 rfl) ?_
                  refine fg_iconst (fg_ft (pc := 118) tb_Mo_note 63 rfl) ic_1 ?_
                  refine fg_icmpbit_ne (tgt := 136) (fg_ft (pc := 119) tb_Mo_note 64 rfl) (by decide) (fun c119 => ?_) (fun c119 => ?_)
                  · refine fg_iincN (fg_ft (pc := 136) tb_Mo_note 73 rfl) rfl ic_1 rfl ?_
                    refine fg_goto (tgt := 50) (fg_ft (pc := 139) tb_Mo_note 74 rfl) (by decide) ?_
                    exact ih (s + 1) none (by omega) (by omega) (fg_mn_0 hI (fun hh => by first | exact hh.2.1 c69 | (have z9 := (fg_few_2.mp hh.2.2).1; rw [c119] at z9; exact absurd z9 (by decide)) | exact (fg_few_2.mp hh.2.2).2 c129)) _
                  · refine fg_iload (fg_ft (pc := 122) tb_Mo_note 65 rfl) rfl ?_
                    refine fg_iload (fg_ft (pc := 124) tb_Mo_note 66 rfl) rfl ?_
                    refine fg_ishrN (fg_ft (pc := 126) tb_Mo_note 67 rfl) (by omega) (by omega) ?_
                    refine fg_iconst (fg_ft (pc := 127) tb_Mo_note 68 rfl) ic_1 ?_
                    refine fg_iandN (fg_ft (pc := 128) tb_Mo_note 69 rfl) ?_
                    refine fg_ifbit_ne (tgt := 136) (fg_ft (pc := 129) tb_Mo_note 70 rfl) (by decide) (fun c129 => ?_) (fun c129 => ?_)
                    · refine fg_iincN (fg_ft (pc := 136) tb_Mo_note 73 rfl) rfl ic_1 rfl ?_
                      refine fg_goto (tgt := 50) (fg_ft (pc := 139) tb_Mo_note 74 rfl) (by decide) ?_
                      exact ih (s + 1) none (by omega) (by omega) (fg_mn_0 hI (fun hh => by first | exact hh.2.1 c69 | (have z9 := (fg_few_2.mp hh.2.2).1; rw [c119] at z9; exact absurd z9 (by decide)) | exact (fg_few_2.mp hh.2.2).2 c129)) _
                    · refine fg_iload (fg_ft (pc := 132) tb_Mo_note 71 rfl) rfl ?_
                      refine fg_istore (fg_ft (pc := 134) tb_Mo_note 72 rfl) (Nat.le_of_ble_eq_true rfl) ?_
                      refine fg_iincN (fg_ft (pc := 136) tb_Mo_note 73 rfl) rfl ic_1 rfl ?_
                      refine fg_goto (tgt := 50) (fg_ft (pc := 139) tb_Mo_note 74 rfl) (by decide) ?_
                      exact ih (s + 1) (some s) (by omega) (by omega) (fg_mn_1 hI ⟨by omega, by rw [c69]; decide, fg_few_2.mpr ⟨c119, by rw [c129]; decide⟩⟩) _
            | some p =>
              show fg_wp E yy_Mo_note (d + 12) 304 304 Q 50 [.ref 287, .int (nI town), .int (nI day), .int (nI n), .int (nI person), .int (nI fact), .int (nI but), .int (nI (610 + 152 * town)), .int (nI p), .int (nI s), v10] [] (μ1, fg_rho R, 304)
              have hps := hI.1
              refine fg_iload (fg_ft (pc := 50) tb_Mo_note 28 rfl) rfl ?_
              refine fg_aloadn (fg_ft (pc := 52) tb_Mo_note 29 rfl) rfl ?_
              refine fg_iload (fg_ft (pc := 53) tb_Mo_note 30 rfl) rfl ?_
              refine fg_callV (fg_ft (pc := 55) tb_Mo_note 31 rfl) cf_Mo_169 (fg_isOf ly_287 rfl (fg_lt ly_287 (by decide))) (as := [.int (nI (610 + 152 * town))]) (st := [.int (nI s)]) rfl rfl (Nat.le_of_ble_eq_true rfl) (Nat.le_refl _) (Nat.le_refl _) (ev_Mo_wholeOf hM1 hok ?_)
              refine fg_icmp_gtN (tgt := 142) (fg_ft (pc := 58) tb_Mo_note 32 rfl) (by decide) (by omega) (by omega) (fun c58 => ?_) (fun c58 => ?_)
              · refine fg_iload (fg_ft (pc := 142) tb_Mo_note 75 rfl) rfl ?_
                exact fg_iret (fg_ft (pc := 144) tb_Mo_note 76 rfl) rfl rfl (fg_q (hQ _ (fg_agR_A ha1)) (by unfold an_note; rw [fg_g1_some y4 y5] <;> (rw [if_pos hfT, if_pos c25, if_neg (fun hh => c32 hh.symm), if_neg y6, ← fg_nt_min, fg_mn_end hI (fun q hq => by have := hq.1; omega)]; rfl)))
              · refine fg_iload (fg_ft (pc := 61) tb_Mo_note 33 rfl) rfl ?_
                refine fg_iload (fg_ft (pc := 63) tb_Mo_note 34 rfl) rfl ?_
                refine fg_ishrN (fg_ft (pc := 65) tb_Mo_note 35 rfl) (by omega) (by omega) ?_
                refine fg_iconst (fg_ft (pc := 66) tb_Mo_note 36 rfl) ic_1 ?_
                refine fg_iandN (fg_ft (pc := 67) tb_Mo_note 37 rfl) ?_
                refine fg_iconst (fg_ft (pc := 68) tb_Mo_note 38 rfl) ic_1 ?_
                refine fg_icmpbit_eq (tgt := 136) (fg_ft (pc := 69) tb_Mo_note 39 rfl) (by decide) (fun c69 => ?_) (fun c69 => ?_)
                · refine fg_iincN (fg_ft (pc := 136) tb_Mo_note 73 rfl) rfl ic_1 rfl ?_
                  refine fg_goto (tgt := 50) (fg_ft (pc := 139) tb_Mo_note 74 rfl) (by decide) ?_
                  exact ih (s + 1) (some p) (by omega) (by omega) (by first | exact fg_mn_ge hI c87 | exact fg_mn_0 hI (fun hh => by first | exact hh.2.1 c69 | (have z9 := (fg_few_2.mp hh.2.2).1; rw [c119] at z9; exact absurd z9 (by decide)) | exact (fg_few_2.mp hh.2.2).2 c129)) _
                · refine fg_iload (fg_ft (pc := 72) tb_Mo_note 40 rfl) rfl ?_
                  refine fg_if_ltN (tgt := 93) (fg_ft (pc := 74) tb_Mo_note 41 rfl) (by decide) (by omega) ?_
                  refine fg_iload (fg_ft (pc := 77) tb_Mo_note 42 rfl) rfl ?_
                  refine fg_callS (fg_ft (pc := 79) tb_Mo_note 43 rfl) cf_Mo_185 (as := [.int (nI s)]) (st := []) rfl rfl (Nat.le_of_ble_eq_true rfl) (Nat.le_refl _) (Nat.le_refl _) (ev_Mo_many (s := s) (by omega) ?_)
                  refine fg_iload (fg_ft (pc := 82) tb_Mo_note 44 rfl) rfl ?_
                  refine fg_callS (fg_ft (pc := 84) tb_Mo_note 45 rfl) cf_Mo_185 (as := [.int (nI p)]) (st := [.int (nI (fg_pc s))]) rfl rfl (Nat.le_of_ble_eq_true rfl) (Nat.le_refl _) (Nat.le_refl _) (ev_Mo_many (s := p) (by omega) ?_)
                  refine fg_icmp_ltN (tgt := 93) (fg_ft (pc := 87) tb_Mo_note 46 rfl) (by decide) (by have := fg_pc_le s; omega) (by have := fg_pc_le p; omega) (fun c87 => ?_) (fun c87 => ?_)
                  · have hsm : (S.2.1.1 person) ||| s < 2 ^ A.ts town 0 := fg_or_lt hm0 (by omega)
                    have hcs := fg_clo_lt hok hsm
                    refine fg_aloadn (fg_ft (pc := 93) tb_Mo_note 48 rfl) rfl ?_
                    refine fg_iload (fg_ft (pc := 94) tb_Mo_note 49 rfl) rfl ?_
                    refine fg_aloadn (fg_ft (pc := 96) tb_Mo_note 50 rfl) rfl ?_
                    refine fg_getR (fg_ft (pc := 97) tb_Mo_note 51 rfl) ff_Mo_23 ly_287 rfl (fg_lt ly_287 (by decide)) (rh_287_12 R) ?_
                    refine fg_iload (fg_ft (pc := 100) tb_Mo_note 52 rfl) rfl ?_
                    refine fg_ialdV (v := (nI (S.2.1.1 person))) (fg_ft (pc := 102) tb_Mo_note 53 rfl) ly_292 (fg_lt ly_292 (by decide)) (by omega) (hS1.2.1 _ (by omega)) ?_
                    refine fg_iload (fg_ft (pc := 103) tb_Mo_note 54 rfl) rfl ?_
                    refine fg_iorN (fg_ft (pc := 105) tb_Mo_note 55 rfl) ?_
                    refine fg_callV (fg_ft (pc := 106) tb_Mo_note 56 rfl) cf_Mo_206 (fg_isOf ly_287 rfl (fg_lt ly_287 (by decide))) (as := [.int (nI (610 + 152 * town)), .int (nI ((S.2.1.1 person) ||| s))]) (st := []) rfl rfl (Nat.le_of_ble_eq_true rfl) (Nat.le_refl _) (Nat.le_refl _) (ev_Mo_follow hM1 hok hC1 (s := ((S.2.1.1 person) ||| s)) (hsm) ?_)
                    refine fg_istore (fg_ft (pc := 109) tb_Mo_note 57 rfl) (Nat.le_of_ble_eq_true rfl) ?_
                    refine fg_iload (fg_ft (pc := 111) tb_Mo_note 58 rfl) rfl ?_
                    refine fg_iload (fg_ft (pc := 113) tb_Mo_note 59 rfl) rfl ?_
                    refine fg_ishrN (fg_ft (pc := 115) tb_Mo_note 60 rfl) (by omega) (by omega) ?_
                    refine fg_iconst (fg_ft (pc := 116) tb_Mo_note 61 rfl) ic_1 ?_
                    refine fg_iandN (fg_ft (pc := 117) tb_Mo_note 62 rfl) ?_
                    refine fg_iconst (fg_ft (pc := 118) tb_Mo_note 63 rfl) ic_1 ?_
                    refine fg_icmpbit_ne (tgt := 136) (fg_ft (pc := 119) tb_Mo_note 64 rfl) (by decide) (fun c119 => ?_) (fun c119 => ?_)
                    · refine fg_iincN (fg_ft (pc := 136) tb_Mo_note 73 rfl) rfl ic_1 rfl ?_
                      refine fg_goto (tgt := 50) (fg_ft (pc := 139) tb_Mo_note 74 rfl) (by decide) ?_
                      exact ih (s + 1) (some p) (by omega) (by omega) (by first | exact fg_mn_ge hI c87 | exact fg_mn_0 hI (fun hh => by first | exact hh.2.1 c69 | (have z9 := (fg_few_2.mp hh.2.2).1; rw [c119] at z9; exact absurd z9 (by decide)) | exact (fg_few_2.mp hh.2.2).2 c129)) _
                    · refine fg_iload (fg_ft (pc := 122) tb_Mo_note 65 rfl) rfl ?_
                      refine fg_iload (fg_ft (pc := 124) tb_Mo_note 66 rfl) rfl ?_
                      refine fg_ishrN (fg_ft (pc := 126) tb_Mo_note 67 rfl) (by omega) (by omega) ?_
                      refine fg_iconst (fg_ft (pc := 127) tb_Mo_note 68 rfl) ic_1 ?_
                      refine fg_iandN (fg_ft (pc := 128) tb_Mo_note 69 rfl) ?_
                      refine fg_ifbit_ne (tgt := 136) (fg_ft (pc := 129) tb_Mo_note 70 rfl) (by decide) (fun c129 => ?_) (fun c129 => ?_)
                      · refine fg_iincN (fg_ft (pc := 136) tb_Mo_note 73 rfl) rfl ic_1 rfl ?_
                        refine fg_goto (tgt := 50) (fg_ft (pc := 139) tb_Mo_note 74 rfl) (by decide) ?_
                        exact ih (s + 1) (some p) (by omega) (by omega) (by first | exact fg_mn_ge hI c87 | exact fg_mn_0 hI (fun hh => by first | exact hh.2.1 c69 | (have z9 := (fg_few_2.mp hh.2.2).1; rw [c119] at z9; exact absurd z9 (by decide)) | exact (fg_few_2.mp hh.2.2).2 c129)) _
                      · refine fg_iload (fg_ft (pc := 132) tb_Mo_note 71 rfl) rfl ?_
                        refine fg_istore (fg_ft (pc := 134) tb_Mo_note 72 rfl) (Nat.le_of_ble_eq_true rfl) ?_
                        refine fg_iincN (fg_ft (pc := 136) tb_Mo_note 73 rfl) rfl ic_1 rfl ?_
                        refine fg_goto (tgt := 50) (fg_ft (pc := 139) tb_Mo_note 74 rfl) (by decide) ?_
                        exact ih (s + 1) (some s) (by omega) (by omega) (fg_mn_2 hI c87 ⟨by omega, by rw [c69]; decide, fg_few_2.mpr ⟨c119, by rw [c129]; decide⟩⟩) _
                  · refine fg_goto (tgt := 136) (fg_ft (pc := 90) tb_Mo_note 47 rfl) (by decide) ?_
                    refine fg_iincN (fg_ft (pc := 136) tb_Mo_note 73 rfl) rfl ic_1 rfl ?_
                    refine fg_goto (tgt := 50) (fg_ft (pc := 139) tb_Mo_note 74 rfl) (by decide) ?_
                    exact ih (s + 1) (some p) (by omega) (by omega) (by first | exact fg_mn_ge hI c87 | exact fg_mn_0 hI (fun hh => by first | exact hh.2.1 c69 | (have z9 := (fg_few_2.mp hh.2.2).1; rw [c119] at z9; exact absurd z9 (by decide)) | exact (fg_few_2.mp hh.2.2).2 c129)) _
        exact loop (2 ^ A.ts town 0 + 1) 1 none (by omega) (by omega) (fun q hq => by
          obtain rfl : q = 0 := by omega
          intro hh
          have z9 := (fg_few_2.mp hh.2.2).1
          rw [Nat.or_zero, fg_clo_cl hmc] at z9
          exact y6 z9) _
      · refine fg_iconst (fg_ft (pc := 35) tb_Mo_note 18 rfl) ic_m1 ?_
        exact fg_iret (fg_ft (pc := 36) tb_Mo_note 19 rfl) rfl rfl (fg_q (hQ _ (fg_agR_A ha1)) (by unfold an_note; rw [fg_g1_some y4 y5] <;> (rw [if_pos hfT]; first | (rw [if_neg c25]; done) | (rw [if_pos c25, if_pos c32.symm]; done))))
