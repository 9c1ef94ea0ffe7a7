/-! the pact -/
theorem fg_ke_at {T : Nat → Nat} {p set k : Nat} {M : Nat → Nat} : ∀ n r, n ≤ r → fg_ke T p set k M n r = M r := by
  intro n
  induction n with
  | zero => intro r _; rfl
  | succ n ih =>
    intro r hr
    simp only [fg_ke]
    split
    · rw [fg_up1_ne (by omega)]; exact ih r (by omega)
    · exact ih r (by omega)
theorem fg_ke_5 {T : Nat → Nat} {p set k : Nat} {M : Nat → Nat} : ∀ n, T 2 ≤ n → fg_ke T p set k M n = fg_ke T p set k M (T 2) := by
  intro n
  induction n with
  | zero => intro h; rw [show T 2 = 0 by omega]
  | succ n ih =>
    intro h
    rcases Nat.decEq (T 2) (n + 1) with e | e
    · rw [← ih (by omega)]
      show (if n < T 2 ∧ _ then _ else fg_ke T p set k M n) = _
      rw [if_neg (fun hh => by have := hh.1; omega)]
    · rw [e]
theorem fg_whoL_bit {mv : Nat → Nat} {c : Nat} : ∀ n i, (fg_whoL mv c n).testBit i = true ↔ i < n ∧ (mv i).testBit c = true := by
  intro n
  induction n with
  | zero => intro i; show (0 : Nat).testBit i = true ↔ _; rw [Nat.zero_testBit]; exact ⟨fun h => Bool.noConfusion h, fun h => absurd h.1 (Nat.not_lt_zero _)⟩
  | succ n ih =>
    intro i
    show (fg_whoL mv c n ||| (if (mv n).testBit c = true then 2 ^ n else 0)).testBit i = true ↔ _
    rw [Nat.testBit_or, Bool.or_eq_true, ih i]
    rcases Nat.decEq n i with e | e
    · have : (if (mv n).testBit c = true then 2 ^ n else 0).testBit i = false := by
        split
        · exact Nat.testBit_two_pow_of_ne e
        · exact Nat.zero_testBit i
      rw [this]
      exact ⟨fun h => h.elim (fun g => ⟨by omega, g.2⟩) (fun g => Bool.noConfusion g), fun h => Or.inl ⟨by omega, h.2⟩⟩
    · subst e
      by_cases b : (mv n).testBit c = true
      · rw [if_pos b, Nat.testBit_two_pow_self]
        exact ⟨fun _ => ⟨by omega, b⟩, fun _ => Or.inr rfl⟩
      · rw [if_neg b, Nat.zero_testBit]
        exact ⟨fun h => h.elim (fun g => absurd g.2 b) (fun g => Bool.noConfusion g), fun h => absurd h.2 b⟩
def fg_pcX (T : Nat → Nat) (S : fg_H3) (p k s : Nat) : Prop := s < 2 ^ T 2 ∧ ¬ s.testBit p = true ∧ (∀ r, r < T 2 → s.testBit r = true → (S.2.1.1 r).testBit k = true) ∧ fg_kA T S 2 p k s
theorem fg_pc_min {T : Nat → Nat} {S : fg_H3} {p k : Nat} : fg_min (fun s => fg_le s (fg_df (fg_whoL S.2.1.1 k (T 2)) (2 ^ p)) ∧ fg_kA T S 2 p k s) = fg_min (fg_pcX T S p k) := by
  refine fg_min_congr (fun q => ⟨fun h => ?_, fun h => ?_⟩)
  · have hb : ∀ i, q.testBit i = true → (i < T 2 ∧ (S.2.1.1 i).testBit k = true) ∧ (2 ^ p).testBit i = false := fun i hi => by
      have := h.1 i hi
      rw [fg_df_bit, Bool.and_eq_true] at this
      exact ⟨(fg_whoL_bit _ _).mp this.1, by simpa using this.2⟩
    refine ⟨fg_le_all.mp (fun i hi => ?_), fun hi => ?_, fun r _ hi => (hb r hi).1.2, h.2⟩
    · rw [fg_all_bit]; exact decide_eq_true (hb i hi).1.1
    · have := (hb p hi).2
      rw [Nat.testBit_two_pow_self] at this
      exact Bool.noConfusion this
  · refine ⟨fun i hi => ?_, h.2.2.2⟩
    have h1 : i < T 2 := fg_bit_lt h.1 hi
    rw [fg_df_bit, (fg_whoL_bit _ _).mpr ⟨h1, h.2.2.1 i h1 hi⟩]
    rcases Nat.decEq p i with e | e
    · rw [Nat.testBit_two_pow_of_ne e]; rfl
    · subst e; exact absurd hi h.2.1
theorem ev_Mo_pact {E : fg_E} {d : Nat} {μ : Nat → Nat → Int32} {R : fg_T4} {Q : Option Value → fg_M → Prop} {A : fg_Tl} (hL : fg_ML (μ 288) A) (hw : fg_wA A) (h17 : μ 287 17 = -1) (h19 : μ 287 19 = nI 0) {town day n person fact : Nat} (htown : town < 2 ^ 32) (hday : day < 2 ^ 32) (hn : n < 2 ^ 32) (hperson : person < 2 ^ 32) (hfact : fact < 2 ^ 32) (hQ : ∀ μ' : Nat → Nat → Int32, fg_agR μ μ' → Q (some (.int (an_pact A town day n person fact))) (μ', fg_rho R, 304)) : fg_Ev E yy_Mo_pact (d + 12) [.ref 287, .int (nI town), .int (nI day), .int (nI n), .int (nI person), .int (nI fact)] (μ, fg_rho R, 304) 304 Q := by
  have ht2 := hw.2.1
  have hd3 := hw.2.2.1
  refine fg_intro (by decide +kernel) (Nat.le_of_ble_eq_true rfl) (fg_okAs rfl) (Nat.le_refl _) ?_
  refine fg_aloadn (fg_ft (pc := 0) tb_Mo_pact 0 rfl) rfl ?_
  refine fg_iloadn (fg_ft (pc := 1) tb_Mo_pact 1 rfl) rfl ?_
  refine fg_iloadn (fg_ft (pc := 2) tb_Mo_pact 2 rfl) rfl ?_
  refine fg_iloadn (fg_ft (pc := 3) tb_Mo_pact 3 rfl) rfl ?_
  refine fg_iload (fg_ft (pc := 4) tb_Mo_pact 4 rfl) rfl ?_
  refine fg_iload (fg_ft (pc := 6) tb_Mo_pact 5 rfl) rfl ?_
  refine fg_callV (fg_ft (pc := 8) tb_Mo_pact 6 rfl) cf_Mo_269 (fg_isOf ly_287 rfl (fg_lt ly_287 (by decide))) (as := [.int (nI town), .int (nI day), .int (nI n), .int (nI person), .int (nI fact)]) (st := []) rfl rfl (Nat.le_of_ble_eq_true rfl) (Nat.le_refl _) (Nat.le_refl _) (ev_Mo_hasFact hL hw h17 h19 htown hday hn hperson hfact (fun n4 μ1 ha1 => ?_) (fun S lv y4 y5 y6 μ1 n1 y1 ha1 hC1 hS1 => ?_))
  · refine fg_if_ne (tgt := 16) (fg_ft (pc := 11) tb_Mo_pact 7 rfl) (by decide) (fun h => absurd h (by decide)) (fun _ => ?_)
    refine fg_iconst (fg_ft (pc := 14) tb_Mo_pact 8 rfl) ic_m1 ?_
    exact fg_iret (fg_ft (pc := 15) tb_Mo_pact 9 rfl) rfl rfl (fg_q (hQ _ (fg_agR_A ha1)) (by rcases n4 with n4 | ⟨S, lv, y4, y5, y6⟩; (unfold an_pact; rw [fg_g1_none n4]); (unfold an_pact; rw [fg_g1_some y4 y5] <;> ((repeat (first | rw [if_pos (by assumption)] | rw [if_neg (by assumption)] | rw [if_pos (by omega)] | rw [if_neg (by omega)] | rw [if_pos (by constructor <;> assumption)] | rw [if_neg (by intro hh; exact absurd hh.1 (by assumption))] | rw [if_neg (by intro hh; exact absurd hh.2 (by assumption))])); (try rfl)))))
  · have ytc := fg_fnd_t y4
    have hok := hw.2.2.2.1 town ytc
    have hM1 := (hL.2.2.1 town ytc).ag ha1.m
    have hz : fg_zok (A.ts town) S.1 (S.2.1.1, 0, 0, 0) S.2.2 := fg_zok.news (fg_fnd_okW hw y4)
    have hv0 := hM1.1
    have hb0 := hok.1
    have hb1 := hok.2.1
    have hp := hok.p
    have hz9 := hz.1
    have hm2 := hz.2.1 person y5
    have hm0 : S.2.1.1 person < 2 ^ A.ts town 0 := hm2.1
    have hmc : fg_clsd (A.ts town) (S.2.1.1 person) := hm2.2
    have hm10 : S.2.1.1 person < 1024 := by omega
    have hfT : fact < A.ts town 0 := fg_bit_lt hm0 y6
    refine fg_if_ne (tgt := 16) (fg_ft (pc := 11) tb_Mo_pact 7 rfl) (by decide) (fun _ => ?_) (fun h => absurd h (by decide))
    refine fg_iconst (fg_ft (pc := 16) tb_Mo_pact 10 rfl) ic_0 ?_
    refine fg_iloadn (fg_ft (pc := 17) tb_Mo_pact 11 rfl) rfl ?_
    refine fg_callS (fg_ft (pc := 18) tb_Mo_pact 12 rfl) cf_Mo_166 (as := [.int (nI 0), .int (nI town)]) (st := []) rfl rfl (Nat.le_of_ble_eq_true rfl) (Nat.le_refl _) (Nat.le_refl _) (ev_Mo_placeOf0 (k := town) ?_)
    refine fg_istore (fg_ft (pc := 21) tb_Mo_pact 13 rfl) (Nat.le_of_ble_eq_true rfl) ?_
    refine fg_aloadn (fg_ft (pc := 23) tb_Mo_pact 14 rfl) rfl ?_
    have hz9 := hz.1
    have h2p : 2 ^ A.ts town 2 ≤ 32 := Nat.pow_le_pow_right (n := 2) (j := 5) (by decide) (by omega)
    have h2q := Nat.two_pow_pos (A.ts town 2)
    refine fg_getV (v := (nI (S.1))) (fg_ft (pc := 24) tb_Mo_pact 15 rfl) ff_Mo_200 ly_287 rfl (fg_lt ly_287 (by decide)) hS1.1 ?_
    refine fg_istore (fg_ft (pc := 27) tb_Mo_pact 16 rfl) (Nat.le_of_ble_eq_true rfl) ?_
    refine fg_aloadn (fg_ft (pc := 29) tb_Mo_pact 17 rfl) rfl ?_
    refine fg_iload (fg_ft (pc := 30) tb_Mo_pact 18 rfl) rfl ?_
    refine fg_callV (fg_ft (pc := 32) tb_Mo_pact 19 rfl) cf_Mo_288 (fg_isOf ly_287 rfl (fg_lt ly_287 (by decide))) (as := [.int (nI (610 + 152 * town))]) (st := []) rfl rfl (Nat.le_of_ble_eq_true rfl) (Nat.le_refl _) (Nat.le_refl _) (ev_Mo_keepsState hM1 hok (h := S.1) (Z := (S.2.1.1, 0, 0, 0)) (hv := S.2.2) hS1 hz ?_)
    intro μk hk1 h300 h301
    have hMk := hM1.ag (hk1 288 (by decide) (by decide))
    have hCk := hC1.ag (hk1 291 (by decide) (by decide))
    have hSk := hS1.agK hk1
    show fg_wp _ _ _ _ _ _ _ _ _ (μk, fg_rho R, 304)
    refine fg_iconst (fg_ft (pc := 35) tb_Mo_pact 20 rfl) ic_m1 ?_
    refine fg_istore (fg_ft (pc := 36) tb_Mo_pact 21 rfl) (Nat.le_of_ble_eq_true rfl) ?_
    refine fg_iconst (fg_ft (pc := 38) tb_Mo_pact 22 rfl) ic_0 ?_
    refine fg_istore (fg_ft (pc := 39) tb_Mo_pact 23 rfl) (Nat.le_of_ble_eq_true rfl) ?_
    have loop : ∀ (m s : Nat) (r : Option Nat) (ν : Nat → Nat → Int32) (v10 v11 : Value), (2 ^ A.ts town 2) - s < m → s ≤ 2 ^ A.ts town 2 → fg_mn (fg_pcX (A.ts town) S person fact) s r → fg_agW μk ν → (∀ q, q < A.ts town 2 → ν 294 q = nI (lv q)) → fg_wp E yy_Mo_pact (d + 12) 304 304 Q 41 [.ref 287, .int (nI town), .int (nI day), .int (nI n), .int (nI person), .int (nI fact), .int (nI (610 + 152 * town)), .int (nI (S.1)), .int (fg_o r), .int (nI s), v10, v11] [] (ν, fg_rho R, 304) := by
      intro m
      induction m with
      | zero => intro s r ν v10 v11 h; exact absurd h (Nat.not_lt_zero _)
      | succ m ih =>
        intro s r ν v10 v11 hm hs hI hag h294
        have hMn := hMk.agW hag
        have hCn := hCk.agW hag
        cases r with
        | none =>
          show fg_wp E yy_Mo_pact (d + 12) 304 304 Q 41 [.ref 287, .int (nI town), .int (nI day), .int (nI n), .int (nI person), .int (nI fact), .int (nI (610 + 152 * town)), .int (nI (S.1)), .int (-1), .int (nI s), v10, v11] [] (ν, fg_rho R, 304)
          refine fg_iload (fg_ft (pc := 41) tb_Mo_pact 24 rfl) rfl ?_
          refine fg_iconst (fg_ft (pc := 43) tb_Mo_pact 25 rfl) ic_1 ?_
          refine fg_aloadn (fg_ft (pc := 44) tb_Mo_pact 26 rfl) rfl ?_
          refine fg_getR (fg_ft (pc := 45) tb_Mo_pact 27 rfl) ff_Mo_7 ly_287 rfl (fg_lt ly_287 (by decide)) (rh_287_0 R) ?_
          refine fg_iload (fg_ft (pc := 48) tb_Mo_pact 28 rfl) rfl ?_
          refine fg_iconst (fg_ft (pc := 50) tb_Mo_pact 29 rfl) ic_2 ?_
          refine fg_iaddN (fg_ft (pc := 51) tb_Mo_pact 30 rfl) ?_
          refine fg_ialdV (v := (nI ((A.ts town) 2))) (fg_ft (pc := 52) tb_Mo_pact 31 rfl) ly_288 (fg_lt ly_288 (by decide)) (by omega) (fg_MTat hMn (i := (610 + 152 * town) + 2) (k := 2) (by omega) (by omega)) ?_
          refine fg_ishl1 (fg_ft (pc := 53) tb_Mo_pact 32 rfl) (by omega) ?_
          refine fg_icmp_geN (tgt := 231) (fg_ft (pc := 54) tb_Mo_pact 33 rfl) (by decide) (by omega) (by omega) (fun c54 => ?_) (fun c54 => ?_)
          · refine fg_iload (fg_ft (pc := 231) tb_Mo_pact 120 rfl) rfl ?_
            exact fg_iret (fg_ft (pc := 233) tb_Mo_pact 121 rfl) rfl rfl (fg_q (hQ ν (fg_agR_tr (fg_agR_A ha1) (fg_agR_tr (fg_agR_K hk1) (fg_agR_W hag)))) (by unfold an_pact; rw [fg_g1_some y4 y5] <;> (rw [if_pos y6, fg_pc_min, fg_mn_end hI (fun q hq => by have := hq.1; omega)]; rfl)))
          · refine fg_iload (fg_ft (pc := 57) tb_Mo_pact 34 rfl) rfl ?_
            refine fg_iload (fg_ft (pc := 59) tb_Mo_pact 35 rfl) rfl ?_
            refine fg_ishrN (fg_ft (pc := 61) tb_Mo_pact 36 rfl) (by omega) (by omega) ?_
            refine fg_iconst (fg_ft (pc := 62) tb_Mo_pact 37 rfl) ic_1 ?_
            refine fg_iandN (fg_ft (pc := 63) tb_Mo_pact 38 rfl) ?_
            refine fg_iconst (fg_ft (pc := 64) tb_Mo_pact 39 rfl) ic_1 ?_
            refine fg_icmpbit_eq (tgt := 225) (fg_ft (pc := 65) tb_Mo_pact 40 rfl) (by decide) (fun c65 => ?_) (fun c65 => ?_)
            · refine fg_iincN (fg_ft (pc := 225) tb_Mo_pact 118 rfl) rfl ic_1 rfl ?_
              refine fg_goto (tgt := 41) (fg_ft (pc := 228) tb_Mo_pact 119 rfl) (by decide) ?_
              exact ih (s + 1) none _ _ _ (by omega) (by omega) (fg_mn_0 hI (fun hh => by first | exact hdead hh | exact hh.2.1 c65 | exact hka2.mp hh.2.2.2 c218)) hag h294
            · refine fg_iload (fg_ft (pc := 68) tb_Mo_pact 41 rfl) rfl ?_
              refine fg_if_lt (tgt := 89) (fg_ft (pc := 70) tb_Mo_pact 42 rfl) (by decide) (fun c70 => ?_) (fun c70 => (absurd (by decide) c70))
              refine fg_aloadn (fg_ft (pc := 89) tb_Mo_pact 49 rfl) rfl ?_
              refine fg_iload (fg_ft (pc := 90) tb_Mo_pact 50 rfl) rfl ?_
              refine fg_iload (fg_ft (pc := 92) tb_Mo_pact 51 rfl) rfl ?_
              refine fg_callV (fg_ft (pc := 94) tb_Mo_pact 52 rfl) cf_Mo_291 (fg_isOf ly_287 rfl (fg_lt ly_287 (by decide))) (as := [.int (nI (610 + 152 * town)), .int (nI (S.1))]) (st := []) rfl rfl (Nat.le_of_ble_eq_true rfl) (Nat.le_refl _) (Nat.le_refl _) (ev_Mo_asItWas (lv := lv) hMn hok (h := S.1) (M := S.2.1.1) (hv := S.2.2) (fun q9 hq9 => (hag.1 300 (by decide) (by decide) (by decide) (by decide) _).trans (h300 q9 hq9)) (fun q9 hq9 => (hag.1 301 (by decide) (by decide) (by decide) (by decide) _).trans (h301 q9 hq9)) h294 ?_)
              intro μa hga a1 a2 a3 a4
              have b1 : μa 287 17 = -1 := (hga.2 17 (by decide) (by decide) (by decide)).trans (hag.2.1.trans hSk.2.2.2.2.2.2.1)
              have b2 : μa 287 19 = nI 0 := (hga.2 19 (by decide) (by decide) (by decide)).trans (hag.2.2.trans hSk.2.2.2.2.2.2.2.2)
              show fg_wp _ _ _ _ _ _ _ _ _ (μa, fg_rho R, 304)
              refine fg_iconst (fg_ft (pc := 97) tb_Mo_pact 53 rfl) ic_1 ?_
              refine fg_istore (fg_ft (pc := 98) tb_Mo_pact 54 rfl) (Nat.le_of_ble_eq_true rfl) ?_
              refine fg_iconst (fg_ft (pc := 100) tb_Mo_pact 55 rfl) ic_0 ?_
              refine fg_istore (fg_ft (pc := 101) tb_Mo_pact 56 rfl) (Nat.le_of_ble_eq_true rfl) ?_
              have hMa := hMn.agP hga
              have hCa := hCn.agP hga
              have hSa : fg_MS μa (A.ts town) (S.1, (S.2.1.1, 0, 0, 0), S.2.2) lv ((none : Option Nat), 0, 0) (μa 287 16) (μa 287 20) := fg_MS.mk0 a1 a2 a3 a4 ⟨b1, Or.inl rfl, b2⟩
              have inner : ∀ (k q : Nat) (ν2 : Nat → Nat → Int32), A.ts town 2 - q < k → q ≤ A.ts town 2 → fg_agP μa ν2 → fg_MS ν2 (A.ts town) (S.1, ((fg_ke (A.ts town) person s fact S.2.1.1 q), 0, 0, 0), S.2.2) lv ((none : Option Nat), 0, 0) (μa 287 16) (μa 287 20) → (∀ r, r < q → (r = person ∨ s.testBit r = true) → (S.2.1.1 r).testBit fact = true) → fg_wp E yy_Mo_pact (d + 12) 304 304 Q 103 [.ref 287, .int (nI town), .int (nI day), .int (nI n), .int (nI person), .int (nI fact), .int (nI (610 + 152 * town)), .int (nI (S.1)), .int (-1), .int (nI s), .int (nI 1), .int (nI q)] [] (ν2, fg_rho R, 304) := by
                intro k
                induction k with
                | zero => intro q ν2 h; exact absurd h (Nat.not_lt_zero _)
                | succ k ih2 =>
                  intro q ν2 hk hq9 hq2 hSq hall
                  have hzq : fg_zok (A.ts town) S.1 ((fg_ke (A.ts town) person s fact S.2.1.1 q), 0, 0, 0) S.2.2 := fg_zok.ke hok hz q
                  have hMq := hMa.agP hq2
                  have hCq := hCa.agP hq2
                  have hat : (fg_ke (A.ts town) person s fact S.2.1.1 q) q = S.2.1.1 q := fg_ke_at q q (Nat.le_refl _)
                  refine fg_iload (fg_ft (pc := 103) tb_Mo_pact 57 rfl) rfl ?_
                  refine fg_aloadn (fg_ft (pc := 105) tb_Mo_pact 58 rfl) rfl ?_
                  refine fg_getR (fg_ft (pc := 106) tb_Mo_pact 59 rfl) ff_Mo_7 ly_287 rfl (fg_lt ly_287 (by decide)) (rh_287_0 R) ?_
                  refine fg_iload (fg_ft (pc := 109) tb_Mo_pact 60 rfl) rfl ?_
                  refine fg_iconst (fg_ft (pc := 111) tb_Mo_pact 61 rfl) ic_2 ?_
                  refine fg_iaddN (fg_ft (pc := 112) tb_Mo_pact 62 rfl) ?_
                  refine fg_ialdV (v := (nI ((A.ts town) 2))) (fg_ft (pc := 113) tb_Mo_pact 63 rfl) ly_288 (fg_lt ly_288 (by decide)) (by omega) (fg_MTat hMq (i := (610 + 152 * town) + 2) (k := 2) (by omega) (by omega)) ?_
                  refine fg_icmp_geN (tgt := 196) (fg_ft (pc := 114) tb_Mo_pact 64 rfl) (by decide) (by omega) (by omega) (fun c114 => ?_) (fun c114 => ?_)
                  · refine fg_iload (fg_ft (pc := 196) tb_Mo_pact 105 rfl) rfl ?_
                    refine fg_if_ne (tgt := 204) (fg_ft (pc := 198) tb_Mo_pact 106 rfl) (by decide) (fun _ => ?_) (fun h => absurd h (by decide))
                    have e5 : (fg_ke (A.ts town) person s fact S.2.1.1 5) = (fg_ke (A.ts town) person s fact S.2.1.1 q) := (fg_ke_5 5 (by omega)).trans (by rw [show A.ts town 2 = q by omega])
                    have hS5 : fg_MS ν2 (A.ts town) (S.1, ((fg_ke (A.ts town) person s fact S.2.1.1 5), 0, 0, 0), S.2.2) lv ((none : Option Nat), 0, 0) (μa 287 16) (μa 287 20) := by rw [e5]; exact hSq
                    have hz5 : fg_zok (A.ts town) S.1 ((fg_ke (A.ts town) person s fact S.2.1.1 5), 0, 0, 0) S.2.2 := fg_zok.ke hok hz 5
                    refine fg_aloadn (fg_ft (pc := 204) tb_Mo_pact 108 rfl) rfl ?_
                    refine fg_iload (fg_ft (pc := 205) tb_Mo_pact 109 rfl) rfl ?_
                    refine fg_callV (fg_ft (pc := 207) tb_Mo_pact 110 rfl) cf_Mo_255 (fg_isOf ly_287 rfl (fg_lt ly_287 (by decide))) (as := [.int (nI (610 + 152 * town))]) (st := []) rfl rfl (Nat.le_of_ble_eq_true rfl) (Nat.le_refl _) (Nat.le_refl _) (ev_Mo_toEvening (hMa.agP hq2) hok (hCa.agP hq2) (h := S.1) (Z := ((fg_ke (A.ts town) person s fact S.2.1.1 5), 0, 0, 0)) (hv := S.2.2) (lv := lv) (o := ((none : Option Nat), 0, 0)) (n0 := μa 287 16) (y := μa 287 20) hS5 hz5 (fun q9 hq9 => by cases hq9) (by decide) (by decide) ?_)
                    intro μe hge hSe
                    have hSe : fg_MS μe (A.ts town) (fg_pn (A.ts town) (none, 0, 0) (9 - S.1) (S.1, ((fg_ke (A.ts town) person s fact S.2.1.1 5), 0, 0, 0), S.2.2)) lv ((none : Option Nat), 0, 0) (μa 287 16) (μa 287 20) := hSe
                    have hze : fg_zok (A.ts town) (fg_pn (A.ts town) (none, 0, 0) (9 - S.1) (S.1, ((fg_ke (A.ts town) person s fact S.2.1.1 5), 0, 0, 0), S.2.2)).1 (fg_pn (A.ts town) (none, 0, 0) (9 - S.1) (S.1, ((fg_ke (A.ts town) person s fact S.2.1.1 5), 0, 0, 0), S.2.2)).2.1 (fg_pn (A.ts town) (none, 0, 0) (9 - S.1) (S.1, ((fg_ke (A.ts town) person s fact S.2.1.1 5), 0, 0, 0), S.2.2)).2.2 := fg_pn_ok hok (o := ((none : Option Nat), 0, 0)) (9 - S.1) (S.1, ((fg_ke (A.ts town) person s fact S.2.1.1 5), 0, 0, 0), S.2.2) hz5
                    have hka2 : fg_kA (A.ts town) S 2 person fact s ↔ ¬ ((fg_pn (A.ts town) (none, 0, 0) (9 - S.1) (S.1, ((fg_ke (A.ts town) person s fact S.2.1.1 5), 0, 0, 0), S.2.2)).2.1.1 person).testBit fact = true := fg_kA_pn hok (S := S) hz (how := 2) (p := person) (k := fact) (set := s) y5
                    have hgz : fg_agW ν μe := fg_agW_tr (fg_agW_P hga) (fg_agW_tr (fg_agW_P hq2) (fg_agW_P hge))
                    have hlz := hSe.2.2.2.1
                    show fg_wp _ _ _ _ _ _ _ _ _ (μe, fg_rho R, 304)
                    refine fg_aloadn (fg_ft (pc := 210) tb_Mo_pact 111 rfl) rfl ?_
                    refine fg_iload (fg_ft (pc := 211) tb_Mo_pact 112 rfl) rfl ?_
                    refine fg_iload (fg_ft (pc := 213) tb_Mo_pact 113 rfl) rfl ?_
                    refine fg_callV (fg_ft (pc := 215) tb_Mo_pact 114 rfl) cf_Mo_212 (fg_isOf ly_287 rfl (fg_lt ly_287 (by decide))) (as := [.int (nI person), .int (nI fact)]) (st := []) rfl rfl (Nat.le_of_ble_eq_true rfl) (Nat.le_refl _) (Nat.le_refl _) (ev_Mo_knows (Mv := (fg_pn (A.ts town) (none, 0, 0) (9 - S.1) (S.1, ((fg_ke (A.ts town) person s fact S.2.1.1 5), 0, 0, 0), S.2.2)).2.1.1) (T := (A.ts town)) (hSe.2.1) (p := person) (f := fact) (by omega) (by omega) (fg_km hok hze (by omega)) ?_)
                    refine fg_ifB_ne (tgt := 225) (fg_ft (pc := 218) tb_Mo_pact 115 rfl) (by decide) (fun c218 => ?_) (fun c218 => ?_)
                    · refine fg_iincN (fg_ft (pc := 225) tb_Mo_pact 118 rfl) rfl ic_1 rfl ?_
                      refine fg_goto (tgt := 41) (fg_ft (pc := 228) tb_Mo_pact 119 rfl) (by decide) ?_
                      exact ih (s + 1) none _ _ _ (by omega) (by omega) (fg_mn_0 hI (fun hh => by first | exact hdead hh | exact hh.2.1 c65 | exact hka2.mp hh.2.2.2 c218)) (fg_agW_tr hag hgz) hlz
                    · refine fg_iload (fg_ft (pc := 221) tb_Mo_pact 116 rfl) rfl ?_
                      refine fg_istore (fg_ft (pc := 223) tb_Mo_pact 117 rfl) (Nat.le_of_ble_eq_true rfl) ?_
                      refine fg_iincN (fg_ft (pc := 225) tb_Mo_pact 118 rfl) rfl ic_1 rfl ?_
                      refine fg_goto (tgt := 41) (fg_ft (pc := 228) tb_Mo_pact 119 rfl) (by decide) ?_
                      exact ih (s + 1) (some s) _ _ _ (by omega) (by omega) (fg_mn_1 hI ⟨by omega, by rw [c65]; decide, fun r hr hb => hall r (by omega) (Or.inr hb), hka2.mpr c218⟩) (fg_agW_tr hag hgz) hlz
                  · refine fg_iload (fg_ft (pc := 117) tb_Mo_pact 65 rfl) rfl ?_
                    refine fg_if_eq (tgt := 196) (fg_ft (pc := 119) tb_Mo_pact 66 rfl) (by decide) (fun h => absurd h (by decide)) (fun _ => ?_)
                    refine fg_iload (fg_ft (pc := 122) tb_Mo_pact 67 rfl) rfl ?_
                    refine fg_iload (fg_ft (pc := 124) tb_Mo_pact 68 rfl) rfl ?_
                    refine fg_icmp_eqW (tgt := 142) (fg_ft (pc := 126) tb_Mo_pact 69 rfl) (by decide) (Nat.lt_trans (show _ < 2 ^ 31 from by omega) (by decide)) (hperson) (fun c126 => ?_) (fun c126 => ?_)
                    · refine fg_aloadn (fg_ft (pc := 142) tb_Mo_pact 77 rfl) rfl ?_
                      refine fg_iload (fg_ft (pc := 143) tb_Mo_pact 78 rfl) rfl ?_
                      refine fg_iload (fg_ft (pc := 145) tb_Mo_pact 79 rfl) rfl ?_
                      refine fg_callV (fg_ft (pc := 147) tb_Mo_pact 80 rfl) cf_Mo_212 (fg_isOf ly_287 rfl (fg_lt ly_287 (by decide))) (as := [.int (nI q), .int (nI fact)]) (st := []) rfl rfl (Nat.le_of_ble_eq_true rfl) (Nat.le_refl _) (Nat.le_refl _) (ev_Mo_knows (Mv := (fg_ke (A.ts town) person s fact S.2.1.1 q)) (T := (A.ts town)) (hSq.2.1) (p := q) (f := fact) (by omega) (by omega) (fg_km hok hzq (by omega)) ?_)
                      refine fg_istore (fg_ft (pc := 150) tb_Mo_pact 81 rfl) (Nat.le_of_ble_eq_true rfl) ?_
                      refine fg_aloadn (fg_ft (pc := 152) tb_Mo_pact 82 rfl) rfl ?_
                      refine fg_getR (fg_ft (pc := 153) tb_Mo_pact 83 rfl) ff_Mo_23 ly_287 rfl (fg_lt ly_287 (by decide)) (rh_287_12 R) ?_
                      refine fg_iload (fg_ft (pc := 156) tb_Mo_pact 84 rfl) rfl ?_
                      refine fg_iload (fg_ft (pc := 158) tb_Mo_pact 85 rfl) rfl ?_
                      refine fg_ifB_eq (tgt := 182) (fg_ft (pc := 160) tb_Mo_pact 86 rfl) (by decide) (fun c160 => ?_) (fun c160 => ?_)
                      · rw [fg_bF c160]
                        refine fg_aloadn (fg_ft (pc := 182) tb_Mo_pact 98 rfl) rfl ?_
                        refine fg_getR (fg_ft (pc := 183) tb_Mo_pact 99 rfl) ff_Mo_23 ly_287 rfl (fg_lt ly_287 (by decide)) (rh_287_12 R) ?_
                        refine fg_iload (fg_ft (pc := 186) tb_Mo_pact 100 rfl) rfl ?_
                        refine fg_ialdV (v := (nI ((fg_ke (A.ts town) person s fact S.2.1.1 q) q))) (fg_ft (pc := 188) tb_Mo_pact 101 rfl) ly_292 (fg_lt ly_292 (by decide)) (by omega) (hSq.2.1 _ (by omega)) ?_
                        refine fg_iastN (fg_ft (pc := 189) tb_Mo_pact 102 rfl) ly_292 (fg_lt ly_292 (by decide)) (by omega) ?_
                        show fg_wp _ _ _ _ _ _ _ _ _ (fg_u2 ν2 292 q (nI ((fg_ke (A.ts town) person s fact S.2.1.1 q) q)), fg_rho R, 304)
                        have hin : q = person ∨ s.testBit q = true := by first | exact Or.inl (by omega) | exact Or.inr c136 | exact Or.inr (by simpa using c136)
                        have hdead : ¬ fg_pcX (A.ts town) S person fact s := fun hh => by
                          rw [hat] at c160
                          rcases hin with g | g
                          · subst g; exact c160 y6
                          · exact c160 (hh.2.2.1 q (by omega) g)
                        have hgz : fg_agW ν (fg_u2 ν2 292 q (nI ((fg_ke (A.ts town) person s fact S.2.1.1 q) q))) := fg_agW_tr (fg_agW_P hga) (fg_agW_P (fg_agP_tr hq2 (fg_agP_u (Or.inl rfl))))
                        have hlz : ∀ q, q < A.ts town 2 → (fg_u2 ν2 292 q (nI ((fg_ke (A.ts town) person s fact S.2.1.1 q) q))) 294 q = nI (lv q) := fun q9 hq9 => (fg_u2ne (by decide)).trans (hSq.2.2.2.1 q9 hq9)
                        refine fg_iincN (fg_ft (pc := 190) tb_Mo_pact 103 rfl) rfl ic_1 rfl ?_
                        refine fg_goto (tgt := 103) (fg_ft (pc := 193) tb_Mo_pact 104 rfl) (by decide) ?_
                        refine fg_iload (fg_ft (pc := 103) tb_Mo_pact 57 rfl) rfl ?_
                        refine fg_aloadn (fg_ft (pc := 105) tb_Mo_pact 58 rfl) rfl ?_
                        refine fg_getR (fg_ft (pc := 106) tb_Mo_pact 59 rfl) ff_Mo_7 ly_287 rfl (fg_lt ly_287 (by decide)) (rh_287_0 R) ?_
                        refine fg_iload (fg_ft (pc := 109) tb_Mo_pact 60 rfl) rfl ?_
                        refine fg_iconst (fg_ft (pc := 111) tb_Mo_pact 61 rfl) ic_2 ?_
                        refine fg_iaddN (fg_ft (pc := 112) tb_Mo_pact 62 rfl) ?_
                        refine fg_ialdV (v := (nI ((A.ts town) 2))) (fg_ft (pc := 113) tb_Mo_pact 63 rfl) ly_288 (fg_lt ly_288 (by decide)) (by omega) ((fg_u2ne (f := ν2) (a := 292) (k := q) (b := 288) (j := (610 + 152 * town) + 2) (x := (nI ((fg_ke (A.ts town) person s fact S.2.1.1 q) q))) (by decide)).trans (fg_MTat hMq (i := (610 + 152 * town) + 2) (k := 2) (by omega) (by omega))) ?_
                        refine fg_icmp_geN (tgt := 196) (fg_ft (pc := 114) tb_Mo_pact 64 rfl) (by decide) (by omega) (by omega) (fun c114 => ?_) (fun c114 => ?_)
                        · refine fg_iload (fg_ft (pc := 196) tb_Mo_pact 105 rfl) rfl ?_
                          refine fg_if_ne (tgt := 204) (fg_ft (pc := 198) tb_Mo_pact 106 rfl) (by decide) (fun h => absurd h (by decide)) (fun _ => ?_)
                          refine fg_goto (tgt := 225) (fg_ft (pc := 201) tb_Mo_pact 107 rfl) (by decide) ?_
                          refine fg_iincN (fg_ft (pc := 225) tb_Mo_pact 118 rfl) rfl ic_1 rfl ?_
                          refine fg_goto (tgt := 41) (fg_ft (pc := 228) tb_Mo_pact 119 rfl) (by decide) ?_
                          exact ih (s + 1) none _ _ _ (by omega) (by omega) (fg_mn_0 hI (fun hh => by first | exact hdead hh | exact hh.2.1 c65 | exact hka2.mp hh.2.2.2 c218)) (fg_agW_tr hag hgz) hlz
                        · refine fg_iload (fg_ft (pc := 117) tb_Mo_pact 65 rfl) rfl ?_
                          refine fg_if_eq (tgt := 196) (fg_ft (pc := 119) tb_Mo_pact 66 rfl) (by decide) (fun _ => ?_) (fun h => absurd h (by decide))
                          refine fg_iload (fg_ft (pc := 196) tb_Mo_pact 105 rfl) rfl ?_
                          refine fg_if_ne (tgt := 204) (fg_ft (pc := 198) tb_Mo_pact 106 rfl) (by decide) (fun h => absurd h (by decide)) (fun _ => ?_)
                          refine fg_goto (tgt := 225) (fg_ft (pc := 201) tb_Mo_pact 107 rfl) (by decide) ?_
                          refine fg_iincN (fg_ft (pc := 225) tb_Mo_pact 118 rfl) rfl ic_1 rfl ?_
                          refine fg_goto (tgt := 41) (fg_ft (pc := 228) tb_Mo_pact 119 rfl) (by decide) ?_
                          exact ih (s + 1) none _ _ _ (by omega) (by omega) (fg_mn_0 hI (fun hh => by first | exact hdead hh | exact hh.2.1 c65 | exact hka2.mp hh.2.2.2 c218)) (fg_agW_tr hag hgz) hlz
                      · rw [fg_bT c160]
                        refine fg_aloadn (fg_ft (pc := 163) tb_Mo_pact 87 rfl) rfl ?_
                        refine fg_aloadn (fg_ft (pc := 164) tb_Mo_pact 88 rfl) rfl ?_
                        refine fg_getR (fg_ft (pc := 165) tb_Mo_pact 89 rfl) ff_Mo_23 ly_287 rfl (fg_lt ly_287 (by decide)) (rh_287_12 R) ?_
                        refine fg_iload (fg_ft (pc := 168) tb_Mo_pact 90 rfl) rfl ?_
                        refine fg_ialdV (v := (nI ((fg_ke (A.ts town) person s fact S.2.1.1 q) q))) (fg_ft (pc := 170) tb_Mo_pact 91 rfl) ly_292 (fg_lt ly_292 (by decide)) (by omega) (hSq.2.1 _ (by omega)) ?_
                        refine fg_iconst (fg_ft (pc := 171) tb_Mo_pact 92 rfl) ic_1 ?_
                        refine fg_iload (fg_ft (pc := 172) tb_Mo_pact 93 rfl) rfl ?_
                        refine fg_ishl1 (fg_ft (pc := 174) tb_Mo_pact 94 rfl) (by omega) ?_
                        refine fg_iconst (fg_ft (pc := 175) tb_Mo_pact 95 rfl) ic_0 ?_
                        refine fg_callV (fg_ft (pc := 176) tb_Mo_pact 96 rfl) cf_Mo_188 (fg_isOf ly_287 rfl (fg_lt ly_287 (by decide))) (as := [.int (nI ((fg_ke (A.ts town) person s fact S.2.1.1 q) q)), .int (nI (2 ^ fact)), .int (nI 0)]) (st := [.int (nI q), .ref 292]) rfl rfl (Nat.le_of_ble_eq_true rfl) (Nat.le_refl _) (Nat.le_refl _) (ev_Mo_bestPart hMq hok hCq (mind := ((fg_ke (A.ts town) person s fact S.2.1.1 q) q)) (gone := (2 ^ fact)) (kept := 0) ((hzq.2.1 q (by omega)).1) (by decide) ?_)
                        refine fg_top (y := nI (fg_fgt (A.ts town) ((fg_ke (A.ts town) person s fact S.2.1.1 q) q) fact 1)) (by rw [(fg_lst_some hok _ _).1]; unfold fg_fgt; rw [if_pos c160, if_pos rfl]; rfl) ?_
                        refine fg_goto (tgt := 189) (fg_ft (pc := 179) tb_Mo_pact 97 rfl) (by decide) ?_
                        refine fg_iastN (fg_ft (pc := 189) tb_Mo_pact 102 rfl) ly_292 (fg_lt ly_292 (by decide)) (by omega) ?_
                        show fg_wp _ _ _ _ _ _ _ _ _ (fg_u2 ν2 292 q (nI (fg_fgt (A.ts town) ((fg_ke (A.ts town) person s fact S.2.1.1 q) q) fact 1)), fg_rho R, 304)
                        refine fg_iincN (fg_ft (pc := 190) tb_Mo_pact 103 rfl) rfl ic_1 rfl ?_
                        refine fg_goto (tgt := 103) (fg_ft (pc := 193) tb_Mo_pact 104 rfl) (by decide) ?_
                        have hin : q = person ∨ s.testBit q = true := by first | exact Or.inl (by omega) | exact Or.inr c136 | exact Or.inr (by simpa using c136)
                        have eke : (fg_ke (A.ts town) person s fact S.2.1.1 (q + 1)) = fg_up1 (fg_ke (A.ts town) person s fact S.2.1.1 q) q (fg_fgt (A.ts town) ((fg_ke (A.ts town) person s fact S.2.1.1 q) q) fact 1) := if_pos ⟨by omega, hin⟩
                        exact ih2 (q + 1) _ (by omega) (by omega) (fg_agP_tr hq2 (fg_agP_u (Or.inl rfl))) (by rw [eke]; exact hSq.minds) (fun r hr hh => by
                          rcases Nat.decEq r q with g | g
                          · exact hall r (by omega) hh
                          · subst g; rw [hat] at c160; exact c160)
                    · refine fg_iload (fg_ft (pc := 129) tb_Mo_pact 70 rfl) rfl ?_
                      refine fg_iload (fg_ft (pc := 131) tb_Mo_pact 71 rfl) rfl ?_
                      refine fg_ishrN (fg_ft (pc := 133) tb_Mo_pact 72 rfl) (by omega) (by omega) ?_
                      refine fg_iconst (fg_ft (pc := 134) tb_Mo_pact 73 rfl) ic_1 ?_
                      refine fg_iandN (fg_ft (pc := 135) tb_Mo_pact 74 rfl) ?_
                      refine fg_ifbit_ne (tgt := 142) (fg_ft (pc := 136) tb_Mo_pact 75 rfl) (by decide) (fun c136 => ?_) (fun c136 => ?_)
                      · refine fg_aloadn (fg_ft (pc := 142) tb_Mo_pact 77 rfl) rfl ?_
                        refine fg_iload (fg_ft (pc := 143) tb_Mo_pact 78 rfl) rfl ?_
                        refine fg_iload (fg_ft (pc := 145) tb_Mo_pact 79 rfl) rfl ?_
                        refine fg_callV (fg_ft (pc := 147) tb_Mo_pact 80 rfl) cf_Mo_212 (fg_isOf ly_287 rfl (fg_lt ly_287 (by decide))) (as := [.int (nI q), .int (nI fact)]) (st := []) rfl rfl (Nat.le_of_ble_eq_true rfl) (Nat.le_refl _) (Nat.le_refl _) (ev_Mo_knows (Mv := (fg_ke (A.ts town) person s fact S.2.1.1 q)) (T := (A.ts town)) (hSq.2.1) (p := q) (f := fact) (by omega) (by omega) (fg_km hok hzq (by omega)) ?_)
                        refine fg_istore (fg_ft (pc := 150) tb_Mo_pact 81 rfl) (Nat.le_of_ble_eq_true rfl) ?_
                        refine fg_aloadn (fg_ft (pc := 152) tb_Mo_pact 82 rfl) rfl ?_
                        refine fg_getR (fg_ft (pc := 153) tb_Mo_pact 83 rfl) ff_Mo_23 ly_287 rfl (fg_lt ly_287 (by decide)) (rh_287_12 R) ?_
                        refine fg_iload (fg_ft (pc := 156) tb_Mo_pact 84 rfl) rfl ?_
                        refine fg_iload (fg_ft (pc := 158) tb_Mo_pact 85 rfl) rfl ?_
                        refine fg_ifB_eq (tgt := 182) (fg_ft (pc := 160) tb_Mo_pact 86 rfl) (by decide) (fun c160 => ?_) (fun c160 => ?_)
                        · rw [fg_bF c160]
                          refine fg_aloadn (fg_ft (pc := 182) tb_Mo_pact 98 rfl) rfl ?_
                          refine fg_getR (fg_ft (pc := 183) tb_Mo_pact 99 rfl) ff_Mo_23 ly_287 rfl (fg_lt ly_287 (by decide)) (rh_287_12 R) ?_
                          refine fg_iload (fg_ft (pc := 186) tb_Mo_pact 100 rfl) rfl ?_
                          refine fg_ialdV (v := (nI ((fg_ke (A.ts town) person s fact S.2.1.1 q) q))) (fg_ft (pc := 188) tb_Mo_pact 101 rfl) ly_292 (fg_lt ly_292 (by decide)) (by omega) (hSq.2.1 _ (by omega)) ?_
                          refine fg_iastN (fg_ft (pc := 189) tb_Mo_pact 102 rfl) ly_292 (fg_lt ly_292 (by decide)) (by omega) ?_
                          show fg_wp _ _ _ _ _ _ _ _ _ (fg_u2 ν2 292 q (nI ((fg_ke (A.ts town) person s fact S.2.1.1 q) q)), fg_rho R, 304)
                          have hin : q = person ∨ s.testBit q = true := by first | exact Or.inl (by omega) | exact Or.inr c136 | exact Or.inr (by simpa using c136)
                          have hdead : ¬ fg_pcX (A.ts town) S person fact s := fun hh => by
                            rw [hat] at c160
                            rcases hin with g | g
                            · subst g; exact c160 y6
                            · exact c160 (hh.2.2.1 q (by omega) g)
                          have hgz : fg_agW ν (fg_u2 ν2 292 q (nI ((fg_ke (A.ts town) person s fact S.2.1.1 q) q))) := fg_agW_tr (fg_agW_P hga) (fg_agW_P (fg_agP_tr hq2 (fg_agP_u (Or.inl rfl))))
                          have hlz : ∀ q, q < A.ts town 2 → (fg_u2 ν2 292 q (nI ((fg_ke (A.ts town) person s fact S.2.1.1 q) q))) 294 q = nI (lv q) := fun q9 hq9 => (fg_u2ne (by decide)).trans (hSq.2.2.2.1 q9 hq9)
                          refine fg_iincN (fg_ft (pc := 190) tb_Mo_pact 103 rfl) rfl ic_1 rfl ?_
                          refine fg_goto (tgt := 103) (fg_ft (pc := 193) tb_Mo_pact 104 rfl) (by decide) ?_
                          refine fg_iload (fg_ft (pc := 103) tb_Mo_pact 57 rfl) rfl ?_
                          refine fg_aloadn (fg_ft (pc := 105) tb_Mo_pact 58 rfl) rfl ?_
                          refine fg_getR (fg_ft (pc := 106) tb_Mo_pact 59 rfl) ff_Mo_7 ly_287 rfl (fg_lt ly_287 (by decide)) (rh_287_0 R) ?_
                          refine fg_iload (fg_ft (pc := 109) tb_Mo_pact 60 rfl) rfl ?_
                          refine fg_iconst (fg_ft (pc := 111) tb_Mo_pact 61 rfl) ic_2 ?_
                          refine fg_iaddN (fg_ft (pc := 112) tb_Mo_pact 62 rfl) ?_
                          refine fg_ialdV (v := (nI ((A.ts town) 2))) (fg_ft (pc := 113) tb_Mo_pact 63 rfl) ly_288 (fg_lt ly_288 (by decide)) (by omega) ((fg_u2ne (f := ν2) (a := 292) (k := q) (b := 288) (j := (610 + 152 * town) + 2) (x := (nI ((fg_ke (A.ts town) person s fact S.2.1.1 q) q))) (by decide)).trans (fg_MTat hMq (i := (610 + 152 * town) + 2) (k := 2) (by omega) (by omega))) ?_
                          refine fg_icmp_geN (tgt := 196) (fg_ft (pc := 114) tb_Mo_pact 64 rfl) (by decide) (by omega) (by omega) (fun c114 => ?_) (fun c114 => ?_)
                          · refine fg_iload (fg_ft (pc := 196) tb_Mo_pact 105 rfl) rfl ?_
                            refine fg_if_ne (tgt := 204) (fg_ft (pc := 198) tb_Mo_pact 106 rfl) (by decide) (fun h => absurd h (by decide)) (fun _ => ?_)
                            refine fg_goto (tgt := 225) (fg_ft (pc := 201) tb_Mo_pact 107 rfl) (by decide) ?_
                            refine fg_iincN (fg_ft (pc := 225) tb_Mo_pact 118 rfl) rfl ic_1 rfl ?_
                            refine fg_goto (tgt := 41) (fg_ft (pc := 228) tb_Mo_pact 119 rfl) (by decide) ?_
                            exact ih (s + 1) none _ _ _ (by omega) (by omega) (fg_mn_0 hI (fun hh => by first | exact hdead hh | exact hh.2.1 c65 | exact hka2.mp hh.2.2.2 c218)) (fg_agW_tr hag hgz) hlz
                          · refine fg_iload (fg_ft (pc := 117) tb_Mo_pact 65 rfl) rfl ?_
                            refine fg_if_eq (tgt := 196) (fg_ft (pc := 119) tb_Mo_pact 66 rfl) (by decide) (fun _ => ?_) (fun h => absurd h (by decide))
                            refine fg_iload (fg_ft (pc := 196) tb_Mo_pact 105 rfl) rfl ?_
                            refine fg_if_ne (tgt := 204) (fg_ft (pc := 198) tb_Mo_pact 106 rfl) (by decide) (fun h => absurd h (by decide)) (fun _ => ?_)
                            refine fg_goto (tgt := 225) (fg_ft (pc := 201) tb_Mo_pact 107 rfl) (by decide) ?_
                            refine fg_iincN (fg_ft (pc := 225) tb_Mo_pact 118 rfl) rfl ic_1 rfl ?_
                            refine fg_goto (tgt := 41) (fg_ft (pc := 228) tb_Mo_pact 119 rfl) (by decide) ?_
                            exact ih (s + 1) none _ _ _ (by omega) (by omega) (fg_mn_0 hI (fun hh => by first | exact hdead hh | exact hh.2.1 c65 | exact hka2.mp hh.2.2.2 c218)) (fg_agW_tr hag hgz) hlz
                        · rw [fg_bT c160]
                          refine fg_aloadn (fg_ft (pc := 163) tb_Mo_pact 87 rfl) rfl ?_
                          refine fg_aloadn (fg_ft (pc := 164) tb_Mo_pact 88 rfl) rfl ?_
                          refine fg_getR (fg_ft (pc := 165) tb_Mo_pact 89 rfl) ff_Mo_23 ly_287 rfl (fg_lt ly_287 (by decide)) (rh_287_12 R) ?_
                          refine fg_iload (fg_ft (pc := 168) tb_Mo_pact 90 rfl) rfl ?_
                          refine fg_ialdV (v := (nI ((fg_ke (A.ts town) person s fact S.2.1.1 q) q))) (fg_ft (pc := 170) tb_Mo_pact 91 rfl) ly_292 (fg_lt ly_292 (by decide)) (by omega) (hSq.2.1 _ (by omega)) ?_
                          refine fg_iconst (fg_ft (pc := 171) tb_Mo_pact 92 rfl) ic_1 ?_
                          refine fg_iload (fg_ft (pc := 172) tb_Mo_pact 93 rfl) rfl ?_
                          refine fg_ishl1 (fg_ft (pc := 174) tb_Mo_pact 94 rfl) (by omega) ?_
                          refine fg_iconst (fg_ft (pc := 175) tb_Mo_pact 95 rfl) ic_0 ?_
                          refine fg_callV (fg_ft (pc := 176) tb_Mo_pact 96 rfl) cf_Mo_188 (fg_isOf ly_287 rfl (fg_lt ly_287 (by decide))) (as := [.int (nI ((fg_ke (A.ts town) person s fact S.2.1.1 q) q)), .int (nI (2 ^ fact)), .int (nI 0)]) (st := [.int (nI q), .ref 292]) rfl rfl (Nat.le_of_ble_eq_true rfl) (Nat.le_refl _) (Nat.le_refl _) (ev_Mo_bestPart hMq hok hCq (mind := ((fg_ke (A.ts town) person s fact S.2.1.1 q) q)) (gone := (2 ^ fact)) (kept := 0) ((hzq.2.1 q (by omega)).1) (by decide) ?_)
                          refine fg_top (y := nI (fg_fgt (A.ts town) ((fg_ke (A.ts town) person s fact S.2.1.1 q) q) fact 1)) (by rw [(fg_lst_some hok _ _).1]; unfold fg_fgt; rw [if_pos c160, if_pos rfl]; rfl) ?_
                          refine fg_goto (tgt := 189) (fg_ft (pc := 179) tb_Mo_pact 97 rfl) (by decide) ?_
                          refine fg_iastN (fg_ft (pc := 189) tb_Mo_pact 102 rfl) ly_292 (fg_lt ly_292 (by decide)) (by omega) ?_
                          show fg_wp _ _ _ _ _ _ _ _ _ (fg_u2 ν2 292 q (nI (fg_fgt (A.ts town) ((fg_ke (A.ts town) person s fact S.2.1.1 q) q) fact 1)), fg_rho R, 304)
                          refine fg_iincN (fg_ft (pc := 190) tb_Mo_pact 103 rfl) rfl ic_1 rfl ?_
                          refine fg_goto (tgt := 103) (fg_ft (pc := 193) tb_Mo_pact 104 rfl) (by decide) ?_
                          have hin : q = person ∨ s.testBit q = true := by first | exact Or.inl (by omega) | exact Or.inr c136 | exact Or.inr (by simpa using c136)
                          have eke : (fg_ke (A.ts town) person s fact S.2.1.1 (q + 1)) = fg_up1 (fg_ke (A.ts town) person s fact S.2.1.1 q) q (fg_fgt (A.ts town) ((fg_ke (A.ts town) person s fact S.2.1.1 q) q) fact 1) := if_pos ⟨by omega, hin⟩
                          exact ih2 (q + 1) _ (by omega) (by omega) (fg_agP_tr hq2 (fg_agP_u (Or.inl rfl))) (by rw [eke]; exact hSq.minds) (fun r hr hh => by
                            rcases Nat.decEq r q with g | g
                            · exact hall r (by omega) hh
                            · subst g; rw [hat] at c160; exact c160)
                      · refine fg_goto (tgt := 190) (fg_ft (pc := 139) tb_Mo_pact 76 rfl) (by decide) ?_
                        refine fg_iincN (fg_ft (pc := 190) tb_Mo_pact 103 rfl) rfl ic_1 rfl ?_
                        refine fg_goto (tgt := 103) (fg_ft (pc := 193) tb_Mo_pact 104 rfl) (by decide) ?_
                        have eke : (fg_ke (A.ts town) person s fact S.2.1.1 (q + 1)) = (fg_ke (A.ts town) person s fact S.2.1.1 q) := if_neg (fun hh => hh.2.elim (fun g => c126 (by omega)) (fun g => by rw [c136] at g; exact Bool.noConfusion g))
                        exact ih2 (q + 1) ν2 (by omega) (by omega) hq2 (by rw [eke]; exact hSq) (fun r hr hh => by
                          rcases Nat.decEq r q with g | g
                          · exact hall r (by omega) hh
                          · subst g; exact hh.elim (fun g => absurd g (by omega)) (fun g => by rw [c136] at g; exact Bool.noConfusion g))
              exact inner (A.ts town 2 + 1) 0 μa (by omega) (by omega) ⟨fun _ _ _ _ _ _ => rfl, fun _ _ _ _ => rfl⟩ hSa (fun r hr => absurd hr (Nat.not_lt_zero _))
        | some p =>
          show fg_wp E yy_Mo_pact (d + 12) 304 304 Q 41 [.ref 287, .int (nI town), .int (nI day), .int (nI n), .int (nI person), .int (nI fact), .int (nI (610 + 152 * town)), .int (nI (S.1)), .int (nI p), .int (nI s), v10, v11] [] (ν, fg_rho R, 304)
          have hps := hI.1
          have hpc1 := fg_pc_le p
          have hpc2 := fg_pc_le s
          refine fg_iload (fg_ft (pc := 41) tb_Mo_pact 24 rfl) rfl ?_
          refine fg_iconst (fg_ft (pc := 43) tb_Mo_pact 25 rfl) ic_1 ?_
          refine fg_aloadn (fg_ft (pc := 44) tb_Mo_pact 26 rfl) rfl ?_
          refine fg_getR (fg_ft (pc := 45) tb_Mo_pact 27 rfl) ff_Mo_7 ly_287 rfl (fg_lt ly_287 (by decide)) (rh_287_0 R) ?_
          refine fg_iload (fg_ft (pc := 48) tb_Mo_pact 28 rfl) rfl ?_
          refine fg_iconst (fg_ft (pc := 50) tb_Mo_pact 29 rfl) ic_2 ?_
          refine fg_iaddN (fg_ft (pc := 51) tb_Mo_pact 30 rfl) ?_
          refine fg_ialdV (v := (nI ((A.ts town) 2))) (fg_ft (pc := 52) tb_Mo_pact 31 rfl) ly_288 (fg_lt ly_288 (by decide)) (by omega) (fg_MTat hMn (i := (610 + 152 * town) + 2) (k := 2) (by omega) (by omega)) ?_
          refine fg_ishl1 (fg_ft (pc := 53) tb_Mo_pact 32 rfl) (by omega) ?_
          refine fg_icmp_geN (tgt := 231) (fg_ft (pc := 54) tb_Mo_pact 33 rfl) (by decide) (by omega) (by omega) (fun c54 => ?_) (fun c54 => ?_)
          · refine fg_iload (fg_ft (pc := 231) tb_Mo_pact 120 rfl) rfl ?_
            exact fg_iret (fg_ft (pc := 233) tb_Mo_pact 121 rfl) rfl rfl (fg_q (hQ ν (fg_agR_tr (fg_agR_A ha1) (fg_agR_tr (fg_agR_K hk1) (fg_agR_W hag)))) (by unfold an_pact; rw [fg_g1_some y4 y5] <;> (rw [if_pos y6, fg_pc_min, fg_mn_end hI (fun q hq => by have := hq.1; omega)]; rfl)))
          · refine fg_iload (fg_ft (pc := 57) tb_Mo_pact 34 rfl) rfl ?_
            refine fg_iload (fg_ft (pc := 59) tb_Mo_pact 35 rfl) rfl ?_
            refine fg_ishrN (fg_ft (pc := 61) tb_Mo_pact 36 rfl) (by omega) (by omega) ?_
            refine fg_iconst (fg_ft (pc := 62) tb_Mo_pact 37 rfl) ic_1 ?_
            refine fg_iandN (fg_ft (pc := 63) tb_Mo_pact 38 rfl) ?_
            refine fg_iconst (fg_ft (pc := 64) tb_Mo_pact 39 rfl) ic_1 ?_
            refine fg_icmpbit_eq (tgt := 225) (fg_ft (pc := 65) tb_Mo_pact 40 rfl) (by decide) (fun c65 => ?_) (fun c65 => ?_)
            · refine fg_iincN (fg_ft (pc := 225) tb_Mo_pact 118 rfl) rfl ic_1 rfl ?_
              refine fg_goto (tgt := 41) (fg_ft (pc := 228) tb_Mo_pact 119 rfl) (by decide) ?_
              exact ih (s + 1) (some p) _ _ _ (by omega) (by omega) (by first | exact fg_mn_ge hI (by omega) | exact fg_mn_0 hI (fun hh => by first | exact hdead hh | exact hh.2.1 c65 | exact hka2.mp hh.2.2.2 c218)) hag h294
            · refine fg_iload (fg_ft (pc := 68) tb_Mo_pact 41 rfl) rfl ?_
              refine fg_if_ltN (tgt := 89) (fg_ft (pc := 70) tb_Mo_pact 42 rfl) (by decide) (by omega) ?_
              refine fg_iload (fg_ft (pc := 73) tb_Mo_pact 43 rfl) rfl ?_
              refine fg_callS (fg_ft (pc := 75) tb_Mo_pact 44 rfl) cf_Mo_185 (as := [.int (nI s)]) (st := []) rfl rfl (Nat.le_of_ble_eq_true rfl) (Nat.le_refl _) (Nat.le_refl _) (ev_Mo_many (s := s) (by omega) ?_)
              refine fg_iload (fg_ft (pc := 78) tb_Mo_pact 45 rfl) rfl ?_
              refine fg_callS (fg_ft (pc := 80) tb_Mo_pact 46 rfl) cf_Mo_185 (as := [.int (nI p)]) (st := [.int (nI (fg_pc s))]) rfl rfl (Nat.le_of_ble_eq_true rfl) (Nat.le_refl _) (Nat.le_refl _) (ev_Mo_many (s := p) (by omega) ?_)
              refine fg_icmp_ltN (tgt := 89) (fg_ft (pc := 83) tb_Mo_pact 47 rfl) (by decide) (by omega) (by omega) (fun c83 => ?_) (fun c83 => ?_)
              · refine fg_aloadn (fg_ft (pc := 89) tb_Mo_pact 49 rfl) rfl ?_
                refine fg_iload (fg_ft (pc := 90) tb_Mo_pact 50 rfl) rfl ?_
                refine fg_iload (fg_ft (pc := 92) tb_Mo_pact 51 rfl) rfl ?_
                refine fg_callV (fg_ft (pc := 94) tb_Mo_pact 52 rfl) cf_Mo_291 (fg_isOf ly_287 rfl (fg_lt ly_287 (by decide))) (as := [.int (nI (610 + 152 * town)), .int (nI (S.1))]) (st := []) rfl rfl (Nat.le_of_ble_eq_true rfl) (Nat.le_refl _) (Nat.le_refl _) (ev_Mo_asItWas (lv := lv) hMn hok (h := S.1) (M := S.2.1.1) (hv := S.2.2) (fun q9 hq9 => (hag.1 300 (by decide) (by decide) (by decide) (by decide) _).trans (h300 q9 hq9)) (fun q9 hq9 => (hag.1 301 (by decide) (by decide) (by decide) (by decide) _).trans (h301 q9 hq9)) h294 ?_)
                intro μa hga a1 a2 a3 a4
                have b1 : μa 287 17 = -1 := (hga.2 17 (by decide) (by decide) (by decide)).trans (hag.2.1.trans hSk.2.2.2.2.2.2.1)
                have b2 : μa 287 19 = nI 0 := (hga.2 19 (by decide) (by decide) (by decide)).trans (hag.2.2.trans hSk.2.2.2.2.2.2.2.2)
                show fg_wp _ _ _ _ _ _ _ _ _ (μa, fg_rho R, 304)
                refine fg_iconst (fg_ft (pc := 97) tb_Mo_pact 53 rfl) ic_1 ?_
                refine fg_istore (fg_ft (pc := 98) tb_Mo_pact 54 rfl) (Nat.le_of_ble_eq_true rfl) ?_
                refine fg_iconst (fg_ft (pc := 100) tb_Mo_pact 55 rfl) ic_0 ?_
                refine fg_istore (fg_ft (pc := 101) tb_Mo_pact 56 rfl) (Nat.le_of_ble_eq_true rfl) ?_
                have hMa := hMn.agP hga
                have hCa := hCn.agP hga
                have hSa : fg_MS μa (A.ts town) (S.1, (S.2.1.1, 0, 0, 0), S.2.2) lv ((none : Option Nat), 0, 0) (μa 287 16) (μa 287 20) := fg_MS.mk0 a1 a2 a3 a4 ⟨b1, Or.inl rfl, b2⟩
                have inner : ∀ (k q : Nat) (ν2 : Nat → Nat → Int32), A.ts town 2 - q < k → q ≤ A.ts town 2 → fg_agP μa ν2 → fg_MS ν2 (A.ts town) (S.1, ((fg_ke (A.ts town) person s fact S.2.1.1 q), 0, 0, 0), S.2.2) lv ((none : Option Nat), 0, 0) (μa 287 16) (μa 287 20) → (∀ r, r < q → (r = person ∨ s.testBit r = true) → (S.2.1.1 r).testBit fact = true) → fg_wp E yy_Mo_pact (d + 12) 304 304 Q 103 [.ref 287, .int (nI town), .int (nI day), .int (nI n), .int (nI person), .int (nI fact), .int (nI (610 + 152 * town)), .int (nI (S.1)), .int (nI p), .int (nI s), .int (nI 1), .int (nI q)] [] (ν2, fg_rho R, 304) := by
                  intro k
                  induction k with
                  | zero => intro q ν2 h; exact absurd h (Nat.not_lt_zero _)
                  | succ k ih2 =>
                    intro q ν2 hk hq9 hq2 hSq hall
                    have hzq : fg_zok (A.ts town) S.1 ((fg_ke (A.ts town) person s fact S.2.1.1 q), 0, 0, 0) S.2.2 := fg_zok.ke hok hz q
                    have hMq := hMa.agP hq2
                    have hCq := hCa.agP hq2
                    have hat : (fg_ke (A.ts town) person s fact S.2.1.1 q) q = S.2.1.1 q := fg_ke_at q q (Nat.le_refl _)
                    refine fg_iload (fg_ft (pc := 103) tb_Mo_pact 57 rfl) rfl ?_
                    refine fg_aloadn (fg_ft (pc := 105) tb_Mo_pact 58 rfl) rfl ?_
                    refine fg_getR (fg_ft (pc := 106) tb_Mo_pact 59 rfl) ff_Mo_7 ly_287 rfl (fg_lt ly_287 (by decide)) (rh_287_0 R) ?_
                    refine fg_iload (fg_ft (pc := 109) tb_Mo_pact 60 rfl) rfl ?_
                    refine fg_iconst (fg_ft (pc := 111) tb_Mo_pact 61 rfl) ic_2 ?_
                    refine fg_iaddN (fg_ft (pc := 112) tb_Mo_pact 62 rfl) ?_
                    refine fg_ialdV (v := (nI ((A.ts town) 2))) (fg_ft (pc := 113) tb_Mo_pact 63 rfl) ly_288 (fg_lt ly_288 (by decide)) (by omega) (fg_MTat hMq (i := (610 + 152 * town) + 2) (k := 2) (by omega) (by omega)) ?_
                    refine fg_icmp_geN (tgt := 196) (fg_ft (pc := 114) tb_Mo_pact 64 rfl) (by decide) (by omega) (by omega) (fun c114 => ?_) (fun c114 => ?_)
                    · refine fg_iload (fg_ft (pc := 196) tb_Mo_pact 105 rfl) rfl ?_
                      refine fg_if_ne (tgt := 204) (fg_ft (pc := 198) tb_Mo_pact 106 rfl) (by decide) (fun _ => ?_) (fun h => absurd h (by decide))
                      have e5 : (fg_ke (A.ts town) person s fact S.2.1.1 5) = (fg_ke (A.ts town) person s fact S.2.1.1 q) := (fg_ke_5 5 (by omega)).trans (by rw [show A.ts town 2 = q by omega])
                      have hS5 : fg_MS ν2 (A.ts town) (S.1, ((fg_ke (A.ts town) person s fact S.2.1.1 5), 0, 0, 0), S.2.2) lv ((none : Option Nat), 0, 0) (μa 287 16) (μa 287 20) := by rw [e5]; exact hSq
                      have hz5 : fg_zok (A.ts town) S.1 ((fg_ke (A.ts town) person s fact S.2.1.1 5), 0, 0, 0) S.2.2 := fg_zok.ke hok hz 5
                      refine fg_aloadn (fg_ft (pc := 204) tb_Mo_pact 108 rfl) rfl ?_
                      refine fg_iload (fg_ft (pc := 205) tb_Mo_pact 109 rfl) rfl ?_
                      refine fg_callV (fg_ft (pc := 207) tb_Mo_pact 110 rfl) cf_Mo_255 (fg_isOf ly_287 rfl (fg_lt ly_287 (by decide))) (as := [.int (nI (610 + 152 * town))]) (st := []) rfl rfl (Nat.le_of_ble_eq_true rfl) (Nat.le_refl _) (Nat.le_refl _) (ev_Mo_toEvening (hMa.agP hq2) hok (hCa.agP hq2) (h := S.1) (Z := ((fg_ke (A.ts town) person s fact S.2.1.1 5), 0, 0, 0)) (hv := S.2.2) (lv := lv) (o := ((none : Option Nat), 0, 0)) (n0 := μa 287 16) (y := μa 287 20) hS5 hz5 (fun q9 hq9 => by cases hq9) (by decide) (by decide) ?_)
                      intro μe hge hSe
                      have hSe : fg_MS μe (A.ts town) (fg_pn (A.ts town) (none, 0, 0) (9 - S.1) (S.1, ((fg_ke (A.ts town) person s fact S.2.1.1 5), 0, 0, 0), S.2.2)) lv ((none : Option Nat), 0, 0) (μa 287 16) (μa 287 20) := hSe
                      have hze : fg_zok (A.ts town) (fg_pn (A.ts town) (none, 0, 0) (9 - S.1) (S.1, ((fg_ke (A.ts town) person s fact S.2.1.1 5), 0, 0, 0), S.2.2)).1 (fg_pn (A.ts town) (none, 0, 0) (9 - S.1) (S.1, ((fg_ke (A.ts town) person s fact S.2.1.1 5), 0, 0, 0), S.2.2)).2.1 (fg_pn (A.ts town) (none, 0, 0) (9 - S.1) (S.1, ((fg_ke (A.ts town) person s fact S.2.1.1 5), 0, 0, 0), S.2.2)).2.2 := fg_pn_ok hok (o := ((none : Option Nat), 0, 0)) (9 - S.1) (S.1, ((fg_ke (A.ts town) person s fact S.2.1.1 5), 0, 0, 0), S.2.2) hz5
                      have hka2 : fg_kA (A.ts town) S 2 person fact s ↔ ¬ ((fg_pn (A.ts town) (none, 0, 0) (9 - S.1) (S.1, ((fg_ke (A.ts town) person s fact S.2.1.1 5), 0, 0, 0), S.2.2)).2.1.1 person).testBit fact = true := fg_kA_pn hok (S := S) hz (how := 2) (p := person) (k := fact) (set := s) y5
                      have hgz : fg_agW ν μe := fg_agW_tr (fg_agW_P hga) (fg_agW_tr (fg_agW_P hq2) (fg_agW_P hge))
                      have hlz := hSe.2.2.2.1
                      show fg_wp _ _ _ _ _ _ _ _ _ (μe, fg_rho R, 304)
                      refine fg_aloadn (fg_ft (pc := 210) tb_Mo_pact 111 rfl) rfl ?_
                      refine fg_iload (fg_ft (pc := 211) tb_Mo_pact 112 rfl) rfl ?_
                      refine fg_iload (fg_ft (pc := 213) tb_Mo_pact 113 rfl) rfl ?_
                      refine fg_callV (fg_ft (pc := 215) tb_Mo_pact 114 rfl) cf_Mo_212 (fg_isOf ly_287 rfl (fg_lt ly_287 (by decide))) (as := [.int (nI person), .int (nI fact)]) (st := []) rfl rfl (Nat.le_of_ble_eq_true rfl) (Nat.le_refl _) (Nat.le_refl _) (ev_Mo_knows (Mv := (fg_pn (A.ts town) (none, 0, 0) (9 - S.1) (S.1, ((fg_ke (A.ts town) person s fact S.2.1.1 5), 0, 0, 0), S.2.2)).2.1.1) (T := (A.ts town)) (hSe.2.1) (p := person) (f := fact) (by omega) (by omega) (fg_km hok hze (by omega)) ?_)
                      refine fg_ifB_ne (tgt := 225) (fg_ft (pc := 218) tb_Mo_pact 115 rfl) (by decide) (fun c218 => ?_) (fun c218 => ?_)
                      · refine fg_iincN (fg_ft (pc := 225) tb_Mo_pact 118 rfl) rfl ic_1 rfl ?_
                        refine fg_goto (tgt := 41) (fg_ft (pc := 228) tb_Mo_pact 119 rfl) (by decide) ?_
                        exact ih (s + 1) (some p) _ _ _ (by omega) (by omega) (by first | exact fg_mn_ge hI (by omega) | exact fg_mn_0 hI (fun hh => by first | exact hdead hh | exact hh.2.1 c65 | exact hka2.mp hh.2.2.2 c218)) (fg_agW_tr hag hgz) hlz
                      · refine fg_iload (fg_ft (pc := 221) tb_Mo_pact 116 rfl) rfl ?_
                        refine fg_istore (fg_ft (pc := 223) tb_Mo_pact 117 rfl) (Nat.le_of_ble_eq_true rfl) ?_
                        refine fg_iincN (fg_ft (pc := 225) tb_Mo_pact 118 rfl) rfl ic_1 rfl ?_
                        refine fg_goto (tgt := 41) (fg_ft (pc := 228) tb_Mo_pact 119 rfl) (by decide) ?_
                        exact ih (s + 1) (some s) _ _ _ (by omega) (by omega) (fg_mn_2 hI (by omega) ⟨by omega, by rw [c65]; decide, fun r hr hb => hall r (by omega) (Or.inr hb), hka2.mpr c218⟩) (fg_agW_tr hag hgz) hlz
                    · refine fg_iload (fg_ft (pc := 117) tb_Mo_pact 65 rfl) rfl ?_
                      refine fg_if_eq (tgt := 196) (fg_ft (pc := 119) tb_Mo_pact 66 rfl) (by decide) (fun h => absurd h (by decide)) (fun _ => ?_)
                      refine fg_iload (fg_ft (pc := 122) tb_Mo_pact 67 rfl) rfl ?_
                      refine fg_iload (fg_ft (pc := 124) tb_Mo_pact 68 rfl) rfl ?_
                      refine fg_icmp_eqW (tgt := 142) (fg_ft (pc := 126) tb_Mo_pact 69 rfl) (by decide) (Nat.lt_trans (show _ < 2 ^ 31 from by omega) (by decide)) (hperson) (fun c126 => ?_) (fun c126 => ?_)
                      · refine fg_aloadn (fg_ft (pc := 142) tb_Mo_pact 77 rfl) rfl ?_
                        refine fg_iload (fg_ft (pc := 143) tb_Mo_pact 78 rfl) rfl ?_
                        refine fg_iload (fg_ft (pc := 145) tb_Mo_pact 79 rfl) rfl ?_
                        refine fg_callV (fg_ft (pc := 147) tb_Mo_pact 80 rfl) cf_Mo_212 (fg_isOf ly_287 rfl (fg_lt ly_287 (by decide))) (as := [.int (nI q), .int (nI fact)]) (st := []) rfl rfl (Nat.le_of_ble_eq_true rfl) (Nat.le_refl _) (Nat.le_refl _) (ev_Mo_knows (Mv := (fg_ke (A.ts town) person s fact S.2.1.1 q)) (T := (A.ts town)) (hSq.2.1) (p := q) (f := fact) (by omega) (by omega) (fg_km hok hzq (by omega)) ?_)
                        refine fg_istore (fg_ft (pc := 150) tb_Mo_pact 81 rfl) (Nat.le_of_ble_eq_true rfl) ?_
                        refine fg_aloadn (fg_ft (pc := 152) tb_Mo_pact 82 rfl) rfl ?_
                        refine fg_getR (fg_ft (pc := 153) tb_Mo_pact 83 rfl) ff_Mo_23 ly_287 rfl (fg_lt ly_287 (by decide)) (rh_287_12 R) ?_
                        refine fg_iload (fg_ft (pc := 156) tb_Mo_pact 84 rfl) rfl ?_
                        refine fg_iload (fg_ft (pc := 158) tb_Mo_pact 85 rfl) rfl ?_
                        refine fg_ifB_eq (tgt := 182) (fg_ft (pc := 160) tb_Mo_pact 86 rfl) (by decide) (fun c160 => ?_) (fun c160 => ?_)
                        · rw [fg_bF c160]
                          refine fg_aloadn (fg_ft (pc := 182) tb_Mo_pact 98 rfl) rfl ?_
                          refine fg_getR (fg_ft (pc := 183) tb_Mo_pact 99 rfl) ff_Mo_23 ly_287 rfl (fg_lt ly_287 (by decide)) (rh_287_12 R) ?_
                          refine fg_iload (fg_ft (pc := 186) tb_Mo_pact 100 rfl) rfl ?_
                          refine fg_ialdV (v := (nI ((fg_ke (A.ts town) person s fact S.2.1.1 q) q))) (fg_ft (pc := 188) tb_Mo_pact 101 rfl) ly_292 (fg_lt ly_292 (by decide)) (by omega) (hSq.2.1 _ (by omega)) ?_
                          refine fg_iastN (fg_ft (pc := 189) tb_Mo_pact 102 rfl) ly_292 (fg_lt ly_292 (by decide)) (by omega) ?_
                          show fg_wp _ _ _ _ _ _ _ _ _ (fg_u2 ν2 292 q (nI ((fg_ke (A.ts town) person s fact S.2.1.1 q) q)), fg_rho R, 304)
                          have hin : q = person ∨ s.testBit q = true := by first | exact Or.inl (by omega) | exact Or.inr c136 | exact Or.inr (by simpa using c136)
                          have hdead : ¬ fg_pcX (A.ts town) S person fact s := fun hh => by
                            rw [hat] at c160
                            rcases hin with g | g
                            · subst g; exact c160 y6
                            · exact c160 (hh.2.2.1 q (by omega) g)
                          have hgz : fg_agW ν (fg_u2 ν2 292 q (nI ((fg_ke (A.ts town) person s fact S.2.1.1 q) q))) := fg_agW_tr (fg_agW_P hga) (fg_agW_P (fg_agP_tr hq2 (fg_agP_u (Or.inl rfl))))
                          have hlz : ∀ q, q < A.ts town 2 → (fg_u2 ν2 292 q (nI ((fg_ke (A.ts town) person s fact S.2.1.1 q) q))) 294 q = nI (lv q) := fun q9 hq9 => (fg_u2ne (by decide)).trans (hSq.2.2.2.1 q9 hq9)
                          refine fg_iincN (fg_ft (pc := 190) tb_Mo_pact 103 rfl) rfl ic_1 rfl ?_
                          refine fg_goto (tgt := 103) (fg_ft (pc := 193) tb_Mo_pact 104 rfl) (by decide) ?_
                          refine fg_iload (fg_ft (pc := 103) tb_Mo_pact 57 rfl) rfl ?_
                          refine fg_aloadn (fg_ft (pc := 105) tb_Mo_pact 58 rfl) rfl ?_
                          refine fg_getR (fg_ft (pc := 106) tb_Mo_pact 59 rfl) ff_Mo_7 ly_287 rfl (fg_lt ly_287 (by decide)) (rh_287_0 R) ?_
                          refine fg_iload (fg_ft (pc := 109) tb_Mo_pact 60 rfl) rfl ?_
                          refine fg_iconst (fg_ft (pc := 111) tb_Mo_pact 61 rfl) ic_2 ?_
                          refine fg_iaddN (fg_ft (pc := 112) tb_Mo_pact 62 rfl) ?_
                          refine fg_ialdV (v := (nI ((A.ts town) 2))) (fg_ft (pc := 113) tb_Mo_pact 63 rfl) ly_288 (fg_lt ly_288 (by decide)) (by omega) ((fg_u2ne (f := ν2) (a := 292) (k := q) (b := 288) (j := (610 + 152 * town) + 2) (x := (nI ((fg_ke (A.ts town) person s fact S.2.1.1 q) q))) (by decide)).trans (fg_MTat hMq (i := (610 + 152 * town) + 2) (k := 2) (by omega) (by omega))) ?_
                          refine fg_icmp_geN (tgt := 196) (fg_ft (pc := 114) tb_Mo_pact 64 rfl) (by decide) (by omega) (by omega) (fun c114 => ?_) (fun c114 => ?_)
                          · refine fg_iload (fg_ft (pc := 196) tb_Mo_pact 105 rfl) rfl ?_
                            refine fg_if_ne (tgt := 204) (fg_ft (pc := 198) tb_Mo_pact 106 rfl) (by decide) (fun h => absurd h (by decide)) (fun _ => ?_)
                            refine fg_goto (tgt := 225) (fg_ft (pc := 201) tb_Mo_pact 107 rfl) (by decide) ?_
                            refine fg_iincN (fg_ft (pc := 225) tb_Mo_pact 118 rfl) rfl ic_1 rfl ?_
                            refine fg_goto (tgt := 41) (fg_ft (pc := 228) tb_Mo_pact 119 rfl) (by decide) ?_
                            exact ih (s + 1) (some p) _ _ _ (by omega) (by omega) (by first | exact fg_mn_ge hI (by omega) | exact fg_mn_0 hI (fun hh => by first | exact hdead hh | exact hh.2.1 c65 | exact hka2.mp hh.2.2.2 c218)) (fg_agW_tr hag hgz) hlz
                          · refine fg_iload (fg_ft (pc := 117) tb_Mo_pact 65 rfl) rfl ?_
                            refine fg_if_eq (tgt := 196) (fg_ft (pc := 119) tb_Mo_pact 66 rfl) (by decide) (fun _ => ?_) (fun h => absurd h (by decide))
                            refine fg_iload (fg_ft (pc := 196) tb_Mo_pact 105 rfl) rfl ?_
                            refine fg_if_ne (tgt := 204) (fg_ft (pc := 198) tb_Mo_pact 106 rfl) (by decide) (fun h => absurd h (by decide)) (fun _ => ?_)
                            refine fg_goto (tgt := 225) (fg_ft (pc := 201) tb_Mo_pact 107 rfl) (by decide) ?_
                            refine fg_iincN (fg_ft (pc := 225) tb_Mo_pact 118 rfl) rfl ic_1 rfl ?_
                            refine fg_goto (tgt := 41) (fg_ft (pc := 228) tb_Mo_pact 119 rfl) (by decide) ?_
                            exact ih (s + 1) (some p) _ _ _ (by omega) (by omega) (by first | exact fg_mn_ge hI (by omega) | exact fg_mn_0 hI (fun hh => by first | exact hdead hh | exact hh.2.1 c65 | exact hka2.mp hh.2.2.2 c218)) (fg_agW_tr hag hgz) hlz
                        · rw [fg_bT c160]
                          refine fg_aloadn (fg_ft (pc := 163) tb_Mo_pact 87 rfl) rfl ?_
                          refine fg_aloadn (fg_ft (pc := 164) tb_Mo_pact 88 rfl) rfl ?_
                          refine fg_getR (fg_ft (pc := 165) tb_Mo_pact 89 rfl) ff_Mo_23 ly_287 rfl (fg_lt ly_287 (by decide)) (rh_287_12 R) ?_
                          refine fg_iload (fg_ft (pc := 168) tb_Mo_pact 90 rfl) rfl ?_
                          refine fg_ialdV (v := (nI ((fg_ke (A.ts town) person s fact S.2.1.1 q) q))) (fg_ft (pc := 170) tb_Mo_pact 91 rfl) ly_292 (fg_lt ly_292 (by decide)) (by omega) (hSq.2.1 _ (by omega)) ?_
                          refine fg_iconst (fg_ft (pc := 171) tb_Mo_pact 92 rfl) ic_1 ?_
                          refine fg_iload (fg_ft (pc := 172) tb_Mo_pact 93 rfl) rfl ?_
                          refine fg_ishl1 (fg_ft (pc := 174) tb_Mo_pact 94 rfl) (by omega) ?_
                          refine fg_iconst (fg_ft (pc := 175) tb_Mo_pact 95 rfl) ic_0 ?_
                          refine fg_callV (fg_ft (pc := 176) tb_Mo_pact 96 rfl) cf_Mo_188 (fg_isOf ly_287 rfl (fg_lt ly_287 (by decide))) (as := [.int (nI ((fg_ke (A.ts town) person s fact S.2.1.1 q) q)), .int (nI (2 ^ fact)), .int (nI 0)]) (st := [.int (nI q), .ref 292]) rfl rfl (Nat.le_of_ble_eq_true rfl) (Nat.le_refl _) (Nat.le_refl _) (ev_Mo_bestPart hMq hok hCq (mind := ((fg_ke (A.ts town) person s fact S.2.1.1 q) q)) (gone := (2 ^ fact)) (kept := 0) ((hzq.2.1 q (by omega)).1) (by decide) ?_)
                          refine fg_top (y := nI (fg_fgt (A.ts town) ((fg_ke (A.ts town) person s fact S.2.1.1 q) q) fact 1)) (by rw [(fg_lst_some hok _ _).1]; unfold fg_fgt; rw [if_pos c160, if_pos rfl]; rfl) ?_
                          refine fg_goto (tgt := 189) (fg_ft (pc := 179) tb_Mo_pact 97 rfl) (by decide) ?_
                          refine fg_iastN (fg_ft (pc := 189) tb_Mo_pact 102 rfl) ly_292 (fg_lt ly_292 (by decide)) (by omega) ?_
                          show fg_wp _ _ _ _ _ _ _ _ _ (fg_u2 ν2 292 q (nI (fg_fgt (A.ts town) ((fg_ke (A.ts town) person s fact S.2.1.1 q) q) fact 1)), fg_rho R, 304)
                          refine fg_iincN (fg_ft (pc := 190) tb_Mo_pact 103 rfl) rfl ic_1 rfl ?_
                          refine fg_goto (tgt := 103) (fg_ft (pc := 193) tb_Mo_pact 104 rfl) (by decide) ?_
                          have hin : q = person ∨ s.testBit q = true := by first | exact Or.inl (by omega) | exact Or.inr c136 | exact Or.inr (by simpa using c136)
                          have eke : (fg_ke (A.ts town) person s fact S.2.1.1 (q + 1)) = fg_up1 (fg_ke (A.ts town) person s fact S.2.1.1 q) q (fg_fgt (A.ts town) ((fg_ke (A.ts town) person s fact S.2.1.1 q) q) fact 1) := if_pos ⟨by omega, hin⟩
                          exact ih2 (q + 1) _ (by omega) (by omega) (fg_agP_tr hq2 (fg_agP_u (Or.inl rfl))) (by rw [eke]; exact hSq.minds) (fun r hr hh => by
                            rcases Nat.decEq r q with g | g
                            · exact hall r (by omega) hh
                            · subst g; rw [hat] at c160; exact c160)
                      · refine fg_iload (fg_ft (pc := 129) tb_Mo_pact 70 rfl) rfl ?_
                        refine fg_iload (fg_ft (pc := 131) tb_Mo_pact 71 rfl) rfl ?_
                        refine fg_ishrN (fg_ft (pc := 133) tb_Mo_pact 72 rfl) (by omega) (by omega) ?_
                        refine fg_iconst (fg_ft (pc := 134) tb_Mo_pact 73 rfl) ic_1 ?_
                        refine fg_iandN (fg_ft (pc := 135) tb_Mo_pact 74 rfl) ?_
                        refine fg_ifbit_ne (tgt := 142) (fg_ft (pc := 136) tb_Mo_pact 75 rfl) (by decide) (fun c136 => ?_) (fun c136 => ?_)
                        · refine fg_aloadn (fg_ft (pc := 142) tb_Mo_pact 77 rfl) rfl ?_
                          refine fg_iload (fg_ft (pc := 143) tb_Mo_pact 78 rfl) rfl ?_
                          refine fg_iload (fg_ft (pc := 145) tb_Mo_pact 79 rfl) rfl ?_
                          refine fg_callV (fg_ft (pc := 147) tb_Mo_pact 80 rfl) cf_Mo_212 (fg_isOf ly_287 rfl (fg_lt ly_287 (by decide))) (as := [.int (nI q), .int (nI fact)]) (st := []) rfl rfl (Nat.le_of_ble_eq_true rfl) (Nat.le_refl _) (Nat.le_refl _) (ev_Mo_knows (Mv := (fg_ke (A.ts town) person s fact S.2.1.1 q)) (T := (A.ts town)) (hSq.2.1) (p := q) (f := fact) (by omega) (by omega) (fg_km hok hzq (by omega)) ?_)
                          refine fg_istore (fg_ft (pc := 150) tb_Mo_pact 81 rfl) (Nat.le_of_ble_eq_true rfl) ?_
                          refine fg_aloadn (fg_ft (pc := 152) tb_Mo_pact 82 rfl) rfl ?_
                          refine fg_getR (fg_ft (pc := 153) tb_Mo_pact 83 rfl) ff_Mo_23 ly_287 rfl (fg_lt ly_287 (by decide)) (rh_287_12 R) ?_
                          refine fg_iload (fg_ft (pc := 156) tb_Mo_pact 84 rfl) rfl ?_
                          refine fg_iload (fg_ft (pc := 158) tb_Mo_pact 85 rfl) rfl ?_
                          refine fg_ifB_eq (tgt := 182) (fg_ft (pc := 160) tb_Mo_pact 86 rfl) (by decide) (fun c160 => ?_) (fun c160 => ?_)
                          · rw [fg_bF c160]
                            refine fg_aloadn (fg_ft (pc := 182) tb_Mo_pact 98 rfl) rfl ?_
                            refine fg_getR (fg_ft (pc := 183) tb_Mo_pact 99 rfl) ff_Mo_23 ly_287 rfl (fg_lt ly_287 (by decide)) (rh_287_12 R) ?_
                            refine fg_iload (fg_ft (pc := 186) tb_Mo_pact 100 rfl) rfl ?_
                            refine fg_ialdV (v := (nI ((fg_ke (A.ts town) person s fact S.2.1.1 q) q))) (fg_ft (pc := 188) tb_Mo_pact 101 rfl) ly_292 (fg_lt ly_292 (by decide)) (by omega) (hSq.2.1 _ (by omega)) ?_
                            refine fg_iastN (fg_ft (pc := 189) tb_Mo_pact 102 rfl) ly_292 (fg_lt ly_292 (by decide)) (by omega) ?_
                            show fg_wp _ _ _ _ _ _ _ _ _ (fg_u2 ν2 292 q (nI ((fg_ke (A.ts town) person s fact S.2.1.1 q) q)), fg_rho R, 304)
                            have hin : q = person ∨ s.testBit q = true := by first | exact Or.inl (by omega) | exact Or.inr c136 | exact Or.inr (by simpa using c136)
                            have hdead : ¬ fg_pcX (A.ts town) S person fact s := fun hh => by
                              rw [hat] at c160
                              rcases hin with g | g
                              · subst g; exact c160 y6
                              · exact c160 (hh.2.2.1 q (by omega) g)
                            have hgz : fg_agW ν (fg_u2 ν2 292 q (nI ((fg_ke (A.ts town) person s fact S.2.1.1 q) q))) := fg_agW_tr (fg_agW_P hga) (fg_agW_P (fg_agP_tr hq2 (fg_agP_u (Or.inl rfl))))
                            have hlz : ∀ q, q < A.ts town 2 → (fg_u2 ν2 292 q (nI ((fg_ke (A.ts town) person s fact S.2.1.1 q) q))) 294 q = nI (lv q) := fun q9 hq9 => (fg_u2ne (by decide)).trans (hSq.2.2.2.1 q9 hq9)
                            refine fg_iincN (fg_ft (pc := 190) tb_Mo_pact 103 rfl) rfl ic_1 rfl ?_
                            refine fg_goto (tgt := 103) (fg_ft (pc := 193) tb_Mo_pact 104 rfl) (by decide) ?_
                            refine fg_iload (fg_ft (pc := 103) tb_Mo_pact 57 rfl) rfl ?_
                            refine fg_aloadn (fg_ft (pc := 105) tb_Mo_pact 58 rfl) rfl ?_
                            refine fg_getR (fg_ft (pc := 106) tb_Mo_pact 59 rfl) ff_Mo_7 ly_287 rfl (fg_lt ly_287 (by decide)) (rh_287_0 R) ?_
                            refine fg_iload (fg_ft (pc := 109) tb_Mo_pact 60 rfl) rfl ?_
                            refine fg_iconst (fg_ft (pc := 111) tb_Mo_pact 61 rfl) ic_2 ?_
                            refine fg_iaddN (fg_ft (pc := 112) tb_Mo_pact 62 rfl) ?_
                            refine fg_ialdV (v := (nI ((A.ts town) 2))) (fg_ft (pc := 113) tb_Mo_pact 63 rfl) ly_288 (fg_lt ly_288 (by decide)) (by omega) ((fg_u2ne (f := ν2) (a := 292) (k := q) (b := 288) (j := (610 + 152 * town) + 2) (x := (nI ((fg_ke (A.ts town) person s fact S.2.1.1 q) q))) (by decide)).trans (fg_MTat hMq (i := (610 + 152 * town) + 2) (k := 2) (by omega) (by omega))) ?_
                            refine fg_icmp_geN (tgt := 196) (fg_ft (pc := 114) tb_Mo_pact 64 rfl) (by decide) (by omega) (by omega) (fun c114 => ?_) (fun c114 => ?_)
                            · refine fg_iload (fg_ft (pc := 196) tb_Mo_pact 105 rfl) rfl ?_
                              refine fg_if_ne (tgt := 204) (fg_ft (pc := 198) tb_Mo_pact 106 rfl) (by decide) (fun h => absurd h (by decide)) (fun _ => ?_)
                              refine fg_goto (tgt := 225) (fg_ft (pc := 201) tb_Mo_pact 107 rfl) (by decide) ?_
                              refine fg_iincN (fg_ft (pc := 225) tb_Mo_pact 118 rfl) rfl ic_1 rfl ?_
                              refine fg_goto (tgt := 41) (fg_ft (pc := 228) tb_Mo_pact 119 rfl) (by decide) ?_
                              exact ih (s + 1) (some p) _ _ _ (by omega) (by omega) (by first | exact fg_mn_ge hI (by omega) | exact fg_mn_0 hI (fun hh => by first | exact hdead hh | exact hh.2.1 c65 | exact hka2.mp hh.2.2.2 c218)) (fg_agW_tr hag hgz) hlz
                            · refine fg_iload (fg_ft (pc := 117) tb_Mo_pact 65 rfl) rfl ?_
                              refine fg_if_eq (tgt := 196) (fg_ft (pc := 119) tb_Mo_pact 66 rfl) (by decide) (fun _ => ?_) (fun h => absurd h (by decide))
                              refine fg_iload (fg_ft (pc := 196) tb_Mo_pact 105 rfl) rfl ?_
                              refine fg_if_ne (tgt := 204) (fg_ft (pc := 198) tb_Mo_pact 106 rfl) (by decide) (fun h => absurd h (by decide)) (fun _ => ?_)
                              refine fg_goto (tgt := 225) (fg_ft (pc := 201) tb_Mo_pact 107 rfl) (by decide) ?_
                              refine fg_iincN (fg_ft (pc := 225) tb_Mo_pact 118 rfl) rfl ic_1 rfl ?_
                              refine fg_goto (tgt := 41) (fg_ft (pc := 228) tb_Mo_pact 119 rfl) (by decide) ?_
                              exact ih (s + 1) (some p) _ _ _ (by omega) (by omega) (by first | exact fg_mn_ge hI (by omega) | exact fg_mn_0 hI (fun hh => by first | exact hdead hh | exact hh.2.1 c65 | exact hka2.mp hh.2.2.2 c218)) (fg_agW_tr hag hgz) hlz
                          · rw [fg_bT c160]
                            refine fg_aloadn (fg_ft (pc := 163) tb_Mo_pact 87 rfl) rfl ?_
                            refine fg_aloadn (fg_ft (pc := 164) tb_Mo_pact 88 rfl) rfl ?_
                            refine fg_getR (fg_ft (pc := 165) tb_Mo_pact 89 rfl) ff_Mo_23 ly_287 rfl (fg_lt ly_287 (by decide)) (rh_287_12 R) ?_
                            refine fg_iload (fg_ft (pc := 168) tb_Mo_pact 90 rfl) rfl ?_
                            refine fg_ialdV (v := (nI ((fg_ke (A.ts town) person s fact S.2.1.1 q) q))) (fg_ft (pc := 170) tb_Mo_pact 91 rfl) ly_292 (fg_lt ly_292 (by decide)) (by omega) (hSq.2.1 _ (by omega)) ?_
                            refine fg_iconst (fg_ft (pc := 171) tb_Mo_pact 92 rfl) ic_1 ?_
                            refine fg_iload (fg_ft (pc := 172) tb_Mo_pact 93 rfl) rfl ?_
                            refine fg_ishl1 (fg_ft (pc := 174) tb_Mo_pact 94 rfl) (by omega) ?_
                            refine fg_iconst (fg_ft (pc := 175) tb_Mo_pact 95 rfl) ic_0 ?_
                            refine fg_callV (fg_ft (pc := 176) tb_Mo_pact 96 rfl) cf_Mo_188 (fg_isOf ly_287 rfl (fg_lt ly_287 (by decide))) (as := [.int (nI ((fg_ke (A.ts town) person s fact S.2.1.1 q) q)), .int (nI (2 ^ fact)), .int (nI 0)]) (st := [.int (nI q), .ref 292]) rfl rfl (Nat.le_of_ble_eq_true rfl) (Nat.le_refl _) (Nat.le_refl _) (ev_Mo_bestPart hMq hok hCq (mind := ((fg_ke (A.ts town) person s fact S.2.1.1 q) q)) (gone := (2 ^ fact)) (kept := 0) ((hzq.2.1 q (by omega)).1) (by decide) ?_)
                            refine fg_top (y := nI (fg_fgt (A.ts town) ((fg_ke (A.ts town) person s fact S.2.1.1 q) q) fact 1)) (by rw [(fg_lst_some hok _ _).1]; unfold fg_fgt; rw [if_pos c160, if_pos rfl]; rfl) ?_
                            refine fg_goto (tgt := 189) (fg_ft (pc := 179) tb_Mo_pact 97 rfl) (by decide) ?_
                            refine fg_iastN (fg_ft (pc := 189) tb_Mo_pact 102 rfl) ly_292 (fg_lt ly_292 (by decide)) (by omega) ?_
                            show fg_wp _ _ _ _ _ _ _ _ _ (fg_u2 ν2 292 q (nI (fg_fgt (A.ts town) ((fg_ke (A.ts town) person s fact S.2.1.1 q) q) fact 1)), fg_rho R, 304)
                            refine fg_iincN (fg_ft (pc := 190) tb_Mo_pact 103 rfl) rfl ic_1 rfl ?_
                            refine fg_goto (tgt := 103) (fg_ft (pc := 193) tb_Mo_pact 104 rfl) (by decide) ?_
                            have hin : q = person ∨ s.testBit q = true := by first | exact Or.inl (by omega) | exact Or.inr c136 | exact Or.inr (by simpa using c136)
                            have eke : (fg_ke (A.ts town) person s fact S.2.1.1 (q + 1)) = fg_up1 (fg_ke (A.ts town) person s fact S.2.1.1 q) q (fg_fgt (A.ts town) ((fg_ke (A.ts town) person s fact S.2.1.1 q) q) fact 1) := if_pos ⟨by omega, hin⟩
                            exact ih2 (q + 1) _ (by omega) (by omega) (fg_agP_tr hq2 (fg_agP_u (Or.inl rfl))) (by rw [eke]; exact hSq.minds) (fun r hr hh => by
                              rcases Nat.decEq r q with g | g
                              · exact hall r (by omega) hh
                              · subst g; rw [hat] at c160; exact c160)
                        · refine fg_goto (tgt := 190) (fg_ft (pc := 139) tb_Mo_pact 76 rfl) (by decide) ?_
                          refine fg_iincN (fg_ft (pc := 190) tb_Mo_pact 103 rfl) rfl ic_1 rfl ?_
                          refine fg_goto (tgt := 103) (fg_ft (pc := 193) tb_Mo_pact 104 rfl) (by decide) ?_
                          have eke : (fg_ke (A.ts town) person s fact S.2.1.1 (q + 1)) = (fg_ke (A.ts town) person s fact S.2.1.1 q) := if_neg (fun hh => hh.2.elim (fun g => c126 (by omega)) (fun g => by rw [c136] at g; exact Bool.noConfusion g))
                          exact ih2 (q + 1) ν2 (by omega) (by omega) hq2 (by rw [eke]; exact hSq) (fun r hr hh => by
                            rcases Nat.decEq r q with g | g
                            · exact hall r (by omega) hh
                            · subst g; exact hh.elim (fun g => absurd g (by omega)) (fun g => by rw [c136] at g; exact Bool.noConfusion g))
                exact inner (A.ts town 2 + 1) 0 μa (by omega) (by omega) ⟨fun _ _ _ _ _ _ => rfl, fun _ _ _ _ => rfl⟩ hSa (fun r hr => absurd hr (Nat.not_lt_zero _))
              · refine fg_goto (tgt := 225) (fg_ft (pc := 86) tb_Mo_pact 48 rfl) (by decide) ?_
                refine fg_iincN (fg_ft (pc := 225) tb_Mo_pact 118 rfl) rfl ic_1 rfl ?_
                refine fg_goto (tgt := 41) (fg_ft (pc := 228) tb_Mo_pact 119 rfl) (by decide) ?_
                exact ih (s + 1) (some p) _ _ _ (by omega) (by omega) (by first | exact fg_mn_ge hI (by omega) | exact fg_mn_0 hI (fun hh => by first | exact hdead hh | exact hh.2.1 c65 | exact hka2.mp hh.2.2.2 c218)) hag h294
    exact loop (2 ^ A.ts town 2 + 1) 0 none μk _ _ (by omega) (by omega) (fun q hq => absurd hq (Nat.not_lt_zero _)) (fg_agW_rf _) hSk.2.2.2.1
