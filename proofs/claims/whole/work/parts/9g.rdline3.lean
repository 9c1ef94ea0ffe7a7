/-! the class's reader: a line read -/
theorem pz_tok3 {b : Nat → Nat} {len j : Nat} (h : pz_K b len j = 3) : pz_tc b len (pz_N b len j) = 119 ∧ pz_isn b (pz_S b len j) (pz_E b len j) (pz_sp (pz_V b len j)) ∧ pz_V b len j < 17 := by
  have hs := pz_tc_sp b len (pz_N b len j)
  unfold pz_K at h
  unfold pz_S pz_E pz_V
  rw [pz_tq_e] at h ⊢
  have ht : pz_tc b len (pz_N b len j) = 119 := by
    rcases Nat.decEq (pz_tc b len (pz_N b len j)) 119 with q | q
    · exact absurd h (hs.2.2.2.2.1 q)
    · exact q
  have e := hs.2.2.2.1 ht
  rw [e] at h ⊢
  refine ⟨ht, ?_⟩
  cases hw : pz_wd b (pz_s b len (pz_N b len j)) (pz_run (pz_lt b len) len (pz_s b len (pz_N b len j))) with
  | none => rw [hw] at h; exact absurd h (by show ¬ 4 = 3; decide)
  | some w =>
    have g := pz_wd_sp hw
    exact ⟨g.2, g.1⟩
theorem pz_tokw {b : Nat → Nat} {len j w : Nat} (hw : w < 17) (h : pz_tc b len (pz_N b len j) = 119) (hi : pz_isn b (pz_S b len j) (pz_E b len j) (pz_sp w)) : pz_K b len j = 3 ∧ pz_V b len j = w := by
  have hs := pz_tc_sp b len (pz_N b len j)
  have e := hs.2.2.2.1 h
  unfold pz_S pz_E at hi
  unfold pz_K pz_V
  rw [pz_tq_e] at hi ⊢
  rw [e] at hi ⊢
  rw [pz_oW_s, pz_oW_e] at hi
  rw [pz_wd_some hw hi]
  exact ⟨rfl, rfl⟩
theorem pz_tc1 {b : Nat → Nat} {len j : Nat} : pz_tc b len (pz_N b len j) = 110 ↔ pz_K b len j = 1 := by
  have h := (pz_tc_sp b len (pz_N b len j)).2.1
  unfold pz_K; rw [pz_tq_e]; exact h
theorem pz_tc2 {b : Nat → Nat} {len j : Nat} : pz_tc b len (pz_N b len j) = 59 ↔ pz_K b len j = 2 := by
  have h := (pz_tc_sp b len (pz_N b len j)).2.2.1
  unfold pz_K; rw [pz_tq_e]; exact h
theorem pz_tc0 {b : Nat → Nat} {len j : Nat} : pz_tc b len (pz_N b len j) = 101 ↔ pz_K b len j = 0 := by
  have h := (pz_tc_sp b len (pz_N b len j)).1
  unfold pz_K; rw [pz_tq_e]; exact h
theorem pz_tcl (b : Nat → Nat) (len n : Nat) : pz_tc b len n < 128 := (pz_tc_sp b len n).2.2.2.2.2
theorem ev_Reader_next {E : fg_E} {d : Nat} {μ : Nat → Nat → Int32} {R : fg_T4} {Q : Option Value → fg_M → Prop} {c : Nat → Int32} {len : Nat} (hr5 : fg_rho R 255 5 = some 102) (hc : ∀ j, j < 600 → μ 102 j = c j) (hl6 : μ 255 6 = nI len) (hle : len ≤ 600) (hf : pz_fit c) {j : Nat} (h7 : μ 255 7 = nI (pz_E (pz_b c) len j)) (hQ : ∀ μ' : Nat → Nat → Int32, pz_agT μ μ' → pz_LX μ' (pz_b c) len (j + 1) → Q none (μ', fg_rho R, 304)) : fg_Ev E yy_Reader_nextToken (d + 3) [.ref 255] (μ, fg_rho R, 304) 304 Q := ev_Reader_nextToken hr5 hc hl6 hle hf h7 (pz_N_le (pz_b c) len (j + 1)) (fun μ' hag t7 t8 t9 t10 => hQ μ' hag ⟨t7, t8, t9, t10⟩)
theorem ev_Reader_first {E : fg_E} {d : Nat} {μ : Nat → Nat → Int32} {R : fg_T4} {Q : Option Value → fg_M → Prop} {c : Nat → Int32} {len : Nat} (hr5 : fg_rho R 255 5 = some 102) (hc : ∀ j, j < 600 → μ 102 j = c j) (hl6 : μ 255 6 = nI len) (hle : len ≤ 600) (hf : pz_fit c) (h7 : μ 255 7 = nI 0) (hQ : ∀ μ' : Nat → Nat → Int32, pz_agT μ μ' → pz_LX μ' (pz_b c) len 0 → Q none (μ', fg_rho R, 304)) : fg_Ev E yy_Reader_nextToken (d + 3) [.ref 255] (μ, fg_rho R, 304) 304 Q := ev_Reader_nextToken hr5 hc hl6 hle hf h7 (Nat.zero_le _) (fun μ' hag t7 t8 t9 t10 => hQ μ' hag ⟨t7, t8, t9, t10⟩)
theorem pz_rl_tail {E : fg_E} {d : Nat} {μ : Nat → Nat → Int32} {R : fg_T4} {Q : Option Value → fg_M → Prop} {c : Nat → Int32} {len : Nat} (hr5 : fg_rho R 255 5 = some 102) (hc : ∀ j, j < 600 → μ 102 j = c j) (hl6 : μ 255 6 = nI len) (hle : len ≤ 600) (hf : pz_fit c) {sort j w i : Nat} {X : pz_X} {Y : pz_Y} {res : Nat × pz_Y} (hw : w < 17) (hso2 : pz_so w = sort) (hln : pz_l1 (pz_K (pz_b c) len) (pz_V (pz_b c) len) (pz_S (pz_b c) len) len sort (j, X) = pz_le (pz_K (pz_b c) len) (pz_S (pz_b c) len) w j res) (hT : (pz_l1 (pz_K (pz_b c) len) (pz_V (pz_b c) len) (pz_S (pz_b c) len) len sort (j, X)).2.1 ≠ 1 → ∀ μ' : Nat → Nat → Int32, pz_ag2 μ μ' → pz_LX μ' (pz_b c) len (pz_l1 (pz_K (pz_b c) len) (pz_V (pz_b c) len) (pz_S (pz_b c) len) len sort (j, X)).1 → pz_RX μ' sort (pz_l1 (pz_K (pz_b c) len) (pz_V (pz_b c) len) (pz_S (pz_b c) len) len sort (j, X)).2 → Q (some (.int (nI 1))) (μ', fg_rho R, 304)) (hF : (pz_l1 (pz_K (pz_b c) len) (pz_V (pz_b c) len) (pz_S (pz_b c) len) len sort (j, X)).2.1 = 1 → ∀ μ' : Nat → Nat → Int32, pz_ag2 μ μ' → pz_SH μ' → μ' 255 9 = nI (pz_l1 (pz_K (pz_b c) len) (pz_V (pz_b c) len) (pz_S (pz_b c) len) len sort (j, X)).2.2.1 → Q (some (.int (nI 0))) (μ', fg_rho R, 304)) {ν : Nat → Nat → Int32} {r : Nat} (hil : i ≤ len) (hr : res = (i, Y)) (hag : pz_ag2 μ ν) (hLX : pz_LX ν (pz_b c) len (j + 1 + i)) (hRY : pz_RY ν w i r Y) : fg_wp E yy_Reader_readLine (d + 7) 304 304 Q 72 [.ref 255, .int (nI sort), .ref w, .int (nI i)] [] (ν, fg_rho R, 304) := by
  obtain ⟨vn, hsn⟩ := pz_strN hw
  refine fg_aloadn (fg_ft (pc := 72) tb_Reader_readLine 40 rfl) rfl ?_
  refine fg_getV (v := (nI (pz_tc (pz_b c) len (pz_N (pz_b c) len (j + 1 + i))))) (fg_ft (pc := 73) tb_Reader_readLine 41 rfl) ff_Reader_72 ly_255 rfl (fg_lt ly_255 (by decide)) hLX.2.1 ?_
  refine fg_bipush (fg_ft (pc := 76) tb_Reader_readLine 42 rfl) ib_59 ?_
  refine fg_icmp_neN (tgt := 92) (fg_ft (pc := 78) tb_Reader_readLine 43 rfl) (by decide) (by have := pz_tcl (pz_b c) len (pz_N (pz_b c) len (j + 1 + i)); omega) (by decide) (fun c78 => ?_) (fun c78 => ?_)
  · have e9 : pz_le (pz_K (pz_b c) len) (pz_S (pz_b c) len) w j (i, Y) = (j + 1 + i, (1, pz_S (pz_b c) len (j + 1 + i), Y.2.2.1, Y.2.2.2.1)) := if_neg (fun hh => by first | exact c78 (pz_tc2.mpr hh.1) | exact absurd hh.2 (by omega))
    refine fg_iconst (fg_ft (pc := 92) tb_Reader_readLine 49 rfl) ic_0 ?_
    exact fg_zret (fg_ft (pc := 93) tb_Reader_readLine 50 rfl) rfl (by decide) rfl (hF (by rw [hln, hr, e9]) _ hag hRY.2.1 (by rw [hln, hr, e9]; exact hLX.2.2.1))
  · refine fg_iloadn (fg_ft (pc := 81) tb_Reader_readLine 44 rfl) rfl ?_
    refine fg_aloadn (fg_ft (pc := 82) tb_Reader_readLine 45 rfl) rfl ?_
    refine fg_getK (fg_ft (pc := 83) tb_Reader_readLine 46 rfl) (pz_knumbers hw) ?_
    refine fg_callV (fg_ft (pc := 86) tb_Reader_readLine 47 rfl) cf_Reader_112 (Or.inr hsn.2.2.2.1) (as := []) (st := [.int (nI i)]) rfl rfl (Nat.le_of_ble_eq_true rfl) (Nat.le_refl _) (Nat.le_refl _) (ev_Str_length hsn ?_)
    refine fg_icmp_geN (tgt := 94) (fg_ft (pc := 89) tb_Reader_readLine 48 rfl) (by decide) (by omega) (by have := hsn.2.2.2.2.1; omega) (fun c89 => ?_) (fun c89 => ?_)
    · have e9 : pz_le (pz_K (pz_b c) len) (pz_S (pz_b c) len) w j (i, Y) = (j + 1 + i + 1, (Y.1, Y.2.1, Y.2.2.1, Y.2.2.2.1)) := if_pos ⟨pz_tc2.mp c78, c89⟩
      refine fg_aloadn (fg_ft (pc := 94) tb_Reader_readLine 51 rfl) rfl ?_
      refine fg_callV (fg_ft (pc := 95) tb_Reader_readLine 52 rfl) cf_Reader_69 (fg_isOf ly_255 rfl (fg_lt ly_255 (by decide))) (as := []) (st := []) rfl rfl (Nat.le_of_ble_eq_true rfl) (Nat.le_refl _) (Nat.le_refl _) (ev_Reader_next (j := (j + 1 + i)) hr5 (fun k hk => (hag 102 k (by omega)).trans (hc k hk)) ((hag 255 6 (by omega)).trans hl6) hle hf hLX.1 ?_)
      intro ν1 hag1 hLX1
      show fg_wp _ _ _ _ _ _ _ _ _ (ν1, fg_rho R, 304)
      refine fg_iconst (fg_ft (pc := 98) tb_Reader_readLine 53 rfl) ic_1 ?_
      exact fg_zret (fg_ft (pc := 99) tb_Reader_readLine 54 rfl) rfl (by decide) rfl (hT (by rw [hln, hr, e9]; exact hRY.2.2.1.2) ν1 (pz_ag2_tr hag (fun a k h => hag1 a k (by omega))) (by rw [hln, hr, e9]; exact hLX1) (by
      rw [hln, hr, e9]
      refine ⟨⟨(hag1 255 2 (by omega)).trans hRY.1.1, (hag1 255 3 (by omega)).trans hRY.1.2⟩, hRY.2.1.fr (fun a h1 h2 k => hag1 a k (Or.inl (by omega))), hRY.2.2.1, fun hz => ?_⟩
      have g := hRY.2.2.2 hz
      have gC := g.1.fr (μ' := ν1) (fun a h1 h2 k => hag1 a k (Or.inl (by omega)))
      rw [hso2] at gC
      exact ⟨gC, (hag1 255 11 (by omega)).trans g.2.1.1, g.2.1.2⟩))
    · have e9 : pz_le (pz_K (pz_b c) len) (pz_S (pz_b c) len) w j (i, Y) = (j + 1 + i, (1, pz_S (pz_b c) len (j + 1 + i), Y.2.2.1, Y.2.2.2.1)) := if_neg (fun hh => by first | exact c78 (pz_tc2.mpr hh.1) | exact absurd hh.2 (by omega))
      refine fg_iconst (fg_ft (pc := 92) tb_Reader_readLine 49 rfl) ic_0 ?_
      exact fg_zret (fg_ft (pc := 93) tb_Reader_readLine 50 rfl) rfl (by decide) rfl (hF (by rw [hln, hr, e9]) _ hag hRY.2.1 (by rw [hln, hr, e9]; exact hLX.2.2.1))
theorem pz_rl_loop {E : fg_E} {d : Nat} {μ : Nat → Nat → Int32} {R : fg_T4} {Q : Option Value → fg_M → Prop} {c : Nat → Int32} {len : Nat} (hr5 : fg_rho R 255 5 = some 102) (hc : ∀ j, j < 600 → μ 102 j = c j) (hl6 : μ 255 6 = nI len) (hle : len ≤ 600) (hf : pz_fit c) {sort j w r : Nat} {X : pz_X} {res : Nat × pz_Y} (hw : w < 17) (hso2 : pz_so w = sort) (hln : pz_l1 (pz_K (pz_b c) len) (pz_V (pz_b c) len) (pz_S (pz_b c) len) len sort (j, X) = pz_le (pz_K (pz_b c) len) (pz_S (pz_b c) len) w j res) (hT : (pz_l1 (pz_K (pz_b c) len) (pz_V (pz_b c) len) (pz_S (pz_b c) len) len sort (j, X)).2.1 ≠ 1 → ∀ μ' : Nat → Nat → Int32, pz_ag2 μ μ' → pz_LX μ' (pz_b c) len (pz_l1 (pz_K (pz_b c) len) (pz_V (pz_b c) len) (pz_S (pz_b c) len) len sort (j, X)).1 → pz_RX μ' sort (pz_l1 (pz_K (pz_b c) len) (pz_V (pz_b c) len) (pz_S (pz_b c) len) len sort (j, X)).2 → Q (some (.int (nI 1))) (μ', fg_rho R, 304)) (hF : (pz_l1 (pz_K (pz_b c) len) (pz_V (pz_b c) len) (pz_S (pz_b c) len) len sort (j, X)).2.1 = 1 → ∀ μ' : Nat → Nat → Int32, pz_ag2 μ μ' → pz_SH μ' → μ' 255 9 = nI (pz_l1 (pz_K (pz_b c) len) (pz_V (pz_b c) len) (pz_S (pz_b c) len) len sort (j, X)).2.2.1 → Q (some (.int (nI 0))) (μ', fg_rho R, 304)) : ∀ (m i : Nat) (Y : pz_Y) (ν : Nat → Nat → Int32), len - i < m → i ≤ len → pz_nl (pz_K (pz_b c) len) (pz_V (pz_b c) len) (pz_S (pz_b c) len) w r (j + 1) (len - i) i Y = res → pz_ag2 μ ν → pz_LX ν (pz_b c) len (j + 1 + i) → pz_RY ν w i r Y → fg_wp E yy_Reader_readLine (d + 7) 304 304 Q 23 [.ref 255, .int (nI sort), .ref w, .int (nI i)] [] (ν, fg_rho R, 304) := by
  intro m
  induction m with
  | zero => intro i Y ν h; exact absurd h (Nat.not_lt_zero _)
  | succ m ih =>
    intro i Y ν hm hil hnl hag hLX hRY
    refine fg_iloadn (fg_ft (pc := 23) tb_Reader_readLine 15 rfl) rfl ?_
    refine fg_aloadn (fg_ft (pc := 24) tb_Reader_readLine 16 rfl) rfl ?_
    refine fg_getV (v := (nI len)) (fg_ft (pc := 25) tb_Reader_readLine 17 rfl) ff_Reader_47 ly_255 rfl (fg_lt ly_255 (by decide)) ((hag 255 6 (by omega)).trans hl6) ?_
    refine fg_icmp_geN (tgt := 72) (fg_ft (pc := 28) tb_Reader_readLine 18 rfl) (by decide) (by omega) (by omega) (fun c28 => ?_) (fun c28 => ?_)
    · have hr : res = (i, Y) := by
        rw [← hnl]
        first
        | exact pz_nl_e (fun hh => c37 (pz_tc1.mpr hh.1))
        | exact pz_nl_e (fun hh => hh.2 c47)
        | (rw [show len - i = 0 by omega]; rfl)
      exact pz_rl_tail hr5 hc hl6 hle hf hw hso2 hln hT hF hil hr hag hLX hRY
    · refine fg_aloadn (fg_ft (pc := 31) tb_Reader_readLine 19 rfl) rfl ?_
      refine fg_getV (v := (nI (pz_tc (pz_b c) len (pz_N (pz_b c) len (j + 1 + i))))) (fg_ft (pc := 32) tb_Reader_readLine 20 rfl) ff_Reader_72 ly_255 rfl (fg_lt ly_255 (by decide)) hLX.2.1 ?_
      refine fg_bipush (fg_ft (pc := 35) tb_Reader_readLine 21 rfl) ib_110 ?_
      refine fg_icmp_neN (tgt := 72) (fg_ft (pc := 37) tb_Reader_readLine 22 rfl) (by decide) (by have := pz_tcl (pz_b c) len (pz_N (pz_b c) len (j + 1 + i)); omega) (by decide) (fun c37 => ?_) (fun c37 => ?_)
      · have hr : res = (i, Y) := by
          rw [← hnl]
          first
          | exact pz_nl_e (fun hh => c37 (pz_tc1.mpr hh.1))
          | exact pz_nl_e (fun hh => hh.2 c47)
          | (rw [show len - i = 0 by omega]; rfl)
        exact pz_rl_tail hr5 hc hl6 hle hf hw hso2 hln hT hF hil hr hag hLX hRY
      · have hK1 := pz_tc1.mp c37
        refine fg_aloadn (fg_ft (pc := 40) tb_Reader_readLine 23 rfl) rfl ?_
        refine fg_iloadn (fg_ft (pc := 41) tb_Reader_readLine 24 rfl) rfl ?_
        refine fg_callV (fg_ft (pc := 42) tb_Reader_readLine 25 rfl) cf_Reader_97 (Or.inr (pz_isW hw)) (as := [.int (nI i)]) (st := []) rfl rfl (Nat.le_of_ble_eq_true rfl) (Nat.le_refl _) (Nat.le_refl _) (ev_Word_signAt hw (i := i) (by omega) ?_)
        refine fg_bipush (fg_ft (pc := 45) tb_Reader_readLine 26 rfl) ib_32 ?_
        refine fg_icmp_eqN (tgt := 72) (fg_ft (pc := 47) tb_Reader_readLine 27 rfl) (by decide) (by have := pz_sg_lt w i hw; omega) (by decide) (fun c47 => ?_) (fun c47 => ?_)
        · have hr : res = (i, Y) := by
            rw [← hnl]
            first
            | exact pz_nl_e (fun hh => c37 (pz_tc1.mpr hh.1))
            | exact pz_nl_e (fun hh => hh.2 c47)
            | (rw [show len - i = 0 by omega]; rfl)
          exact pz_rl_tail hr5 hc hl6 hle hf hw hso2 hln hT hF hil hr hag hLX hRY
        · refine fg_aloadn (fg_ft (pc := 50) tb_Reader_readLine 28 rfl) rfl ?_
          refine fg_aloadn (fg_ft (pc := 51) tb_Reader_readLine 29 rfl) rfl ?_
          refine fg_iloadn (fg_ft (pc := 52) tb_Reader_readLine 30 rfl) rfl ?_
          refine fg_callV (fg_ft (pc := 53) tb_Reader_readLine 31 rfl) cf_Reader_101 (fg_isOf ly_255 rfl (fg_lt ly_255 (by decide))) (as := [.ref w, .int (nI i)]) (st := []) rfl rfl (Nat.le_of_ble_eq_true rfl) (Nat.le_refl _) (Nat.le_refl _) (ev_Reader_test hw (by omega) c47 hRY hLX.2.2.1 (hLX.2.2.2 hK1) (pz_sp_i (pz_b c) len (j + 1 + i)).2.2.2.2.2.2.1 ?_)
          intro ν1 hag1 hRT
          show fg_wp _ _ _ _ _ _ _ _ _ (ν1, fg_rho R, 304)
          refine fg_aloadn (fg_ft (pc := 56) tb_Reader_readLine 32 rfl) rfl ?_
          refine fg_aloadn (fg_ft (pc := 57) tb_Reader_readLine 33 rfl) rfl ?_
          refine fg_iloadn (fg_ft (pc := 58) tb_Reader_readLine 34 rfl) rfl ?_
          refine fg_callV (fg_ft (pc := 59) tb_Reader_readLine 35 rfl) cf_Reader_105 (fg_isOf ly_255 rfl (fg_lt ly_255 (by decide))) (as := [.ref w, .int (nI i)]) (st := []) rfl rfl (Nat.le_of_ble_eq_true rfl) (Nat.le_refl _) (Nat.le_refl _) (ev_Reader_keep hw (by omega) hRT ((hag1 255 10 (by omega)).trans (hLX.2.2.2 hK1)) (pz_sp_i (pz_b c) len (j + 1 + i)).2.2.2.2.2.2.1 ?_)
          intro ν2 hag2 hRY2
          have hag02 : pz_ag2 μ ν2 := fun a k h => (hag2 a k (by omega)).trans ((hag1 a k (by omega)).trans (hag a k h))
          show fg_wp _ _ _ _ _ _ _ _ _ (ν2, fg_rho R, 304)
          refine fg_iincN (fg_ft (pc := 62) tb_Reader_readLine 36 rfl) rfl ic_1 rfl ?_
          refine fg_aloadn (fg_ft (pc := 65) tb_Reader_readLine 37 rfl) rfl ?_
          refine fg_callV (fg_ft (pc := 66) tb_Reader_readLine 38 rfl) cf_Reader_69 (fg_isOf ly_255 rfl (fg_lt ly_255 (by decide))) (as := []) (st := []) rfl rfl (Nat.le_of_ble_eq_true rfl) (Nat.le_refl _) (Nat.le_refl _) (ev_Reader_next (j := (j + 1 + i)) hr5 (fun k hk => (hag02 102 k (by omega)).trans (hc k hk)) ((hag02 255 6 (by omega)).trans hl6) hle hf ((hag2 255 7 (by omega)).trans ((hag1 255 7 (by omega)).trans hLX.1)) ?_)
          intro ν3 hag3 hLX3
          show fg_wp _ _ _ _ _ _ _ _ _ (ν3, fg_rho R, 304)
          refine fg_goto (tgt := 23) (fg_ft (pc := 69) tb_Reader_readLine 39 rfl) (by decide) ?_
          rw [show len - i = (len - (i + 1)) + 1 by omega, pz_nl_s hK1 c47] at hnl
          refine ih (i + 1) _ ν3 (by omega) (by omega) hnl (pz_ag2_tr hag02 (fun a k h => hag3 a k (by omega))) hLX3 ⟨⟨(hag3 255 2 (by omega)).trans hRY2.1.1, (hag3 255 3 (by omega)).trans hRY2.1.2⟩, hRY2.2.1.fr (fun a h1 h2 k => hag3 a k (Or.inl (by omega))), hRY2.2.2.1, fun hz => ?_⟩
          have g := hRY2.2.2.2 hz
          exact ⟨g.1.fr (fun a h1 h2 k => hag3 a k (Or.inl (by omega))), ⟨(hag3 255 11 (by omega)).trans g.2.1.1, g.2.1.2⟩, ⟨(hag3 255 12 (by omega)).trans g.2.2.1.1, g.2.2.1.2⟩, ⟨(hag3 255 13 (by omega)).trans g.2.2.2.1.1, g.2.2.2.1.2⟩, fun ho => ⟨(hag3 255 14 (by omega)).trans (g.2.2.2.2.1 ho).1, (g.2.2.2.2.1 ho).2⟩, g.2.2.2.2.2⟩
theorem ev_Reader_readLine {E : fg_E} {d : Nat} {μ : Nat → Nat → Int32} {R : fg_T4} {Q : Option Value → fg_M → Prop} {c : Nat → Int32} {len : Nat} (hr5 : fg_rho R 255 5 = some 102) (hc : ∀ j, j < 600 → μ 102 j = c j) (hl6 : μ 255 6 = nI len) (hle : len ≤ 600) (hf : pz_fit c) {sort j : Nat} {X : pz_X} (hso : sort < 2) (hLX : pz_LX μ (pz_b c) len j) (hRX : pz_RX μ sort X) (hT : (pz_l1 (pz_K (pz_b c) len) (pz_V (pz_b c) len) (pz_S (pz_b c) len) len sort (j, X)).2.1 ≠ 1 → ∀ μ' : Nat → Nat → Int32, pz_ag2 μ μ' → pz_LX μ' (pz_b c) len (pz_l1 (pz_K (pz_b c) len) (pz_V (pz_b c) len) (pz_S (pz_b c) len) len sort (j, X)).1 → pz_RX μ' sort (pz_l1 (pz_K (pz_b c) len) (pz_V (pz_b c) len) (pz_S (pz_b c) len) len sort (j, X)).2 → Q (some (.int (nI 1))) (μ', fg_rho R, 304)) (hF : (pz_l1 (pz_K (pz_b c) len) (pz_V (pz_b c) len) (pz_S (pz_b c) len) len sort (j, X)).2.1 = 1 → ∀ μ' : Nat → Nat → Int32, pz_ag2 μ μ' → pz_SH μ' → μ' 255 9 = nI (pz_l1 (pz_K (pz_b c) len) (pz_V (pz_b c) len) (pz_S (pz_b c) len) len sort (j, X)).2.2.1 → Q (some (.int (nI 0))) (μ', fg_rho R, 304)) : fg_Ev E yy_Reader_readLine (d + 7) [.ref 255, .int (nI sort)] (μ, fg_rho R, 304) 304 Q := by
  obtain ⟨-, hse, hel, -⟩ := pz_sp_i (pz_b c) len j
  refine fg_intro (by decide +kernel) (Nat.le_of_ble_eq_true rfl) (fg_okAs rfl) (Nat.le_refl _) ?_
  refine fg_aloadn (fg_ft (pc := 0) tb_Reader_readLine 0 rfl) rfl ?_
  refine fg_iloadn (fg_ft (pc := 1) tb_Reader_readLine 1 rfl) rfl ?_
  refine fg_callV (fg_ft (pc := 2) tb_Reader_readLine 2 rfl) cf_Reader_89 (fg_isOf ly_255 rfl (fg_lt ly_255 (by decide))) (as := [.int (nI sort)]) (st := []) rfl rfl (Nat.le_of_ble_eq_true rfl) (Nat.le_refl _) (Nat.le_refl _) (ev_Reader_wordAtToken hr5 hc hl6 hle hf hso hLX.1 hLX.2.1 hLX.2.2.1 (pz_tcl _ _ _) hse hel ?_ ?_)
  · intro hn
    refine fg_astorenN (fg_ft (pc := 5) tb_Reader_readLine 3 rfl) (Nat.le_of_ble_eq_true rfl) ?_
    refine fg_aloadnN (fg_ft (pc := 6) tb_Reader_readLine 4 rfl) rfl ?_
    refine fg_ifnonnull_n (fg_ft (pc := 7) tb_Reader_readLine 5 rfl) ?_
    refine fg_iconst (fg_ft (pc := 10) tb_Reader_readLine 6 rfl) ic_0 ?_
    exact fg_zret (fg_ft (pc := 11) tb_Reader_readLine 7 rfl) rfl (by decide) rfl (by
      have el : pz_l1 (pz_K (pz_b c) len) (pz_V (pz_b c) len) (pz_S (pz_b c) len) len sort (j, X) = (j, (1, pz_S (pz_b c) len j, X.2.2.1, X.2.2.2)) := if_neg (fun hh => by
        obtain ⟨g1, g2, g3⟩ := pz_tok3 hh.1
        exact hn g1 _ g3 hh.2 g2)
      exact hF (by rw [el]) μ (fun _ _ _ => rfl) hRX.2.1 (by rw [el]; exact hLX.2.2.1))
  · intro w hw ht hs hsp
    obtain ⟨k3, v3⟩ := pz_tokw hw ht hsp
    refine fg_astoren (fg_ft (pc := 5) tb_Reader_readLine 3 rfl) (Nat.le_of_ble_eq_true rfl) ?_
    refine fg_aloadn (fg_ft (pc := 6) tb_Reader_readLine 4 rfl) rfl ?_
    refine fg_ifnonnull (tgt := 12) (fg_ft (pc := 7) tb_Reader_readLine 5 rfl) (by decide) ?_
    refine fg_aloadn (fg_ft (pc := 12) tb_Reader_readLine 8 rfl) rfl ?_
    refine fg_aloadn (fg_ft (pc := 13) tb_Reader_readLine 9 rfl) rfl ?_
    refine fg_callV (fg_ft (pc := 14) tb_Reader_readLine 10 rfl) cf_Reader_93 (fg_isOf ly_255 rfl (fg_lt ly_255 (by decide))) (as := [.ref w]) (st := []) rfl rfl (Nat.le_of_ble_eq_true rfl) (Nat.le_refl _) (Nat.le_refl _) (ev_Reader_open hw (hs.symm ▸ hRX) hLX.2.2.1 ?_)
    intro ν1 hag1 hRY1
    show fg_wp _ _ _ _ _ _ _ _ _ (ν1, fg_rho R, 304)
    refine fg_aloadn (fg_ft (pc := 17) tb_Reader_readLine 11 rfl) rfl ?_
    refine fg_callV (fg_ft (pc := 18) tb_Reader_readLine 12 rfl) cf_Reader_69 (fg_isOf ly_255 rfl (fg_lt ly_255 (by decide))) (as := []) (st := []) rfl rfl (Nat.le_of_ble_eq_true rfl) (Nat.le_refl _) (Nat.le_refl _) (ev_Reader_next (j := j) hr5 (fun k hk => (hag1 102 k (by omega)).trans (hc k hk)) ((hag1 255 6 (by omega)).trans hl6) hle hf ((hag1 255 7 (by omega)).trans hLX.1) ?_)
    intro ν2 hag2 hLX2
    show fg_wp _ _ _ _ _ _ _ _ _ (ν2, fg_rho R, 304)
    refine fg_iconst (fg_ft (pc := 21) tb_Reader_readLine 13 rfl) ic_0 ?_
    refine fg_istoren (fg_ft (pc := 22) tb_Reader_readLine 14 rfl) (Nat.le_of_ble_eq_true rfl) ?_
    have el : pz_l1 (pz_K (pz_b c) len) (pz_V (pz_b c) len) (pz_S (pz_b c) len) len sort (j, X) = pz_le (pz_K (pz_b c) len) (pz_S (pz_b c) len) w j (pz_nl (pz_K (pz_b c) len) (pz_V (pz_b c) len) (pz_S (pz_b c) len) w (X.2.2.1 (pz_ci (pz_rt w))) (j + 1) (len - 0) 0 (pz_ow w (pz_S (pz_b c) len j) X)) := by
      show (if pz_K (pz_b c) len j = 3 ∧ pz_so (pz_V (pz_b c) len j) = sort then pz_ln (pz_K (pz_b c) len) (pz_V (pz_b c) len) (pz_S (pz_b c) len) len (pz_V (pz_b c) len j) j X else _) = _
      rw [if_pos ⟨k3, by rw [v3]; exact hs⟩, v3]; rfl
    refine pz_rl_loop hr5 hc hl6 hle hf hw hs el hT hF (len + 1) 0 _ ν2 (by omega) (Nat.zero_le _) rfl (fun a k h => (hag2 a k (by omega)).trans (hag1 a k (by omega))) hLX2 ⟨⟨(hag2 255 2 (by omega)).trans hRY1.1.1, (hag2 255 3 (by omega)).trans hRY1.1.2⟩, hRY1.2.1.fr (fun a h1 h2 k => hag2 a k (Or.inl (by omega))), hRY1.2.2.1, fun hz => ?_⟩
    have g := hRY1.2.2.2 hz
    exact ⟨g.1.fr (fun a h1 h2 k => hag2 a k (Or.inl (by omega))), ⟨(hag2 255 11 (by omega)).trans g.2.1.1, g.2.1.2⟩, ⟨(hag2 255 12 (by omega)).trans g.2.2.1.1, g.2.2.1.2⟩, ⟨(hag2 255 13 (by omega)).trans g.2.2.2.1.1, g.2.2.2.1.2⟩, fun ho => ⟨(hag2 255 14 (by omega)).trans (g.2.2.2.2.1 ho).1, (g.2.2.2.2.1 ho).2⟩, g.2.2.2.2.2⟩
