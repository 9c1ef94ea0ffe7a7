theorem fg_rhoFo (R : fg_T4) (x : Option Nat) : fg_u2 (fg_rho R) 273 0 x = fg_rho (x, R.2.1, R.2.2.1, R.2.2.2) := by
  funext b i
  unfold fg_u2 fg_rho
  by_cases hb : b = 273
  · subst hb
    by_cases hi : i = 0
    · subst hi; rfl
    · simp [hi]
  · simp [hb]
theorem fg_putFo {E : fg_E} {Y : fg_Y} {d n0 n1 : Nat} {Q : Option Value → fg_M → Prop} {pc : Nat} {L st : List Value} {μ : Nat → Nat → Int32} {R : fg_T4} {index ci N b : Nat} (hd : decode Y.2.1 pc = .ok (.putfield index, 3)) (hf : fg_F Y.1.cls index ci N 0) (ha : fg_lay 273 = (ci, N)) (hr : fg_isR (fg_ty ci 0) = true) (hlt : 273 < 304) (k : fg_wp E Y d n0 n1 Q (pc + 3) L st (μ, fg_rho ((some b), R.2.1, R.2.2.1, R.2.2.2), 304)) : fg_wp E Y d n0 n1 Q pc L (.ref b :: .ref 273 :: st) (μ, fg_rho R, 304) := by
  refine fg_putR hd hf ha hr hlt (fun C T h => ?_) ?_
  · rw [ly_273] at ha
    cases ha
    cases h
    rfl
  · show fg_wp E Y d n0 n1 Q (pc + 3) L st (μ, fg_u2 (fg_rho R) 273 0 (some b), 304)
    rw [fg_rhoFo]
    exact k
theorem fg_putFoN {E : fg_E} {Y : fg_Y} {d n0 n1 : Nat} {Q : Option Value → fg_M → Prop} {pc : Nat} {L st : List Value} {μ : Nat → Nat → Int32} {R : fg_T4} {index ci N : Nat} (hd : decode Y.2.1 pc = .ok (.putfield index, 3)) (hf : fg_F Y.1.cls index ci N 0) (ha : fg_lay 273 = (ci, N)) (hr : fg_isR (fg_ty ci 0) = true) (hlt : 273 < 304) (k : fg_wp E Y d n0 n1 Q (pc + 3) L st (μ, fg_rho (none, R.2.1, R.2.2.1, R.2.2.2), 304)) : fg_wp E Y d n0 n1 Q pc L (.null :: .ref 273 :: st) (μ, fg_rho R, 304) := by
  refine fg_putN hd hf ha hr hlt (fun C T h => ?_) ?_
  · rw [ly_273] at ha
    cases ha
    cases h
    rfl
  · show fg_wp E Y d n0 n1 Q (pc + 3) L st (μ, fg_u2 (fg_rho R) 273 0 none, 304)
    rw [fg_rhoFo]
    exact k
theorem fg_rhoCo (R : fg_T4) (x : Option Nat) : fg_u2 (fg_rho R) 277 0 x = fg_rho (R.1, x, R.2.2.1, R.2.2.2) := by
  funext b i
  unfold fg_u2 fg_rho
  by_cases hb : b = 277
  · subst hb
    by_cases hi : i = 0
    · subst hi; rfl
    · simp [hi]
  · simp [hb]
theorem fg_putCo {E : fg_E} {Y : fg_Y} {d n0 n1 : Nat} {Q : Option Value → fg_M → Prop} {pc : Nat} {L st : List Value} {μ : Nat → Nat → Int32} {R : fg_T4} {index ci N b : Nat} (hd : decode Y.2.1 pc = .ok (.putfield index, 3)) (hf : fg_F Y.1.cls index ci N 0) (ha : fg_lay 277 = (ci, N)) (hr : fg_isR (fg_ty ci 0) = true) (hlt : 277 < 304) (k : fg_wp E Y d n0 n1 Q (pc + 3) L st (μ, fg_rho (R.1, (some b), R.2.2.1, R.2.2.2), 304)) : fg_wp E Y d n0 n1 Q pc L (.ref b :: .ref 277 :: st) (μ, fg_rho R, 304) := by
  refine fg_putR hd hf ha hr hlt (fun C T h => ?_) ?_
  · rw [ly_277] at ha
    cases ha
    cases h
    rfl
  · show fg_wp E Y d n0 n1 Q (pc + 3) L st (μ, fg_u2 (fg_rho R) 277 0 (some b), 304)
    rw [fg_rhoCo]
    exact k
theorem fg_putCoN {E : fg_E} {Y : fg_Y} {d n0 n1 : Nat} {Q : Option Value → fg_M → Prop} {pc : Nat} {L st : List Value} {μ : Nat → Nat → Int32} {R : fg_T4} {index ci N : Nat} (hd : decode Y.2.1 pc = .ok (.putfield index, 3)) (hf : fg_F Y.1.cls index ci N 0) (ha : fg_lay 277 = (ci, N)) (hr : fg_isR (fg_ty ci 0) = true) (hlt : 277 < 304) (k : fg_wp E Y d n0 n1 Q (pc + 3) L st (μ, fg_rho (R.1, none, R.2.2.1, R.2.2.2), 304)) : fg_wp E Y d n0 n1 Q pc L (.null :: .ref 277 :: st) (μ, fg_rho R, 304) := by
  refine fg_putN hd hf ha hr hlt (fun C T h => ?_) ?_
  · rw [ly_277] at ha
    cases ha
    cases h
    rfl
  · show fg_wp E Y d n0 n1 Q (pc + 3) L st (μ, fg_u2 (fg_rho R) 277 0 none, 304)
    rw [fg_rhoCo]
    exact k
theorem fg_rhoSe (R : fg_T4) (x : Option Nat) : fg_u2 (fg_rho R) 281 4 x = fg_rho (R.1, R.2.1, x, R.2.2.2) := by
  funext b i
  unfold fg_u2 fg_rho
  by_cases hb : b = 281
  · subst hb
    by_cases hi : i = 4
    · subst hi; rfl
    · simp [hi]
  · simp [hb]
theorem fg_putSe {E : fg_E} {Y : fg_Y} {d n0 n1 : Nat} {Q : Option Value → fg_M → Prop} {pc : Nat} {L st : List Value} {μ : Nat → Nat → Int32} {R : fg_T4} {index ci N b : Nat} (hd : decode Y.2.1 pc = .ok (.putfield index, 3)) (hf : fg_F Y.1.cls index ci N 4) (ha : fg_lay 281 = (ci, N)) (hr : fg_isR (fg_ty ci 4) = true) (hlt : 281 < 304) (k : fg_wp E Y d n0 n1 Q (pc + 3) L st (μ, fg_rho (R.1, R.2.1, (some b), R.2.2.2), 304)) : fg_wp E Y d n0 n1 Q pc L (.ref b :: .ref 281 :: st) (μ, fg_rho R, 304) := by
  refine fg_putR hd hf ha hr hlt (fun C T h => ?_) ?_
  · rw [ly_281] at ha
    cases ha
    cases h
    rfl
  · show fg_wp E Y d n0 n1 Q (pc + 3) L st (μ, fg_u2 (fg_rho R) 281 4 (some b), 304)
    rw [fg_rhoSe]
    exact k
theorem fg_putSeN {E : fg_E} {Y : fg_Y} {d n0 n1 : Nat} {Q : Option Value → fg_M → Prop} {pc : Nat} {L st : List Value} {μ : Nat → Nat → Int32} {R : fg_T4} {index ci N : Nat} (hd : decode Y.2.1 pc = .ok (.putfield index, 3)) (hf : fg_F Y.1.cls index ci N 4) (ha : fg_lay 281 = (ci, N)) (hr : fg_isR (fg_ty ci 4) = true) (hlt : 281 < 304) (k : fg_wp E Y d n0 n1 Q (pc + 3) L st (μ, fg_rho (R.1, R.2.1, none, R.2.2.2), 304)) : fg_wp E Y d n0 n1 Q pc L (.null :: .ref 281 :: st) (μ, fg_rho R, 304) := by
  refine fg_putN hd hf ha hr hlt (fun C T h => ?_) ?_
  · rw [ly_281] at ha
    cases ha
    cases h
    rfl
  · show fg_wp E Y d n0 n1 Q (pc + 3) L st (μ, fg_u2 (fg_rho R) 281 4 none, 304)
    rw [fg_rhoSe]
    exact k
theorem fg_rhoRe (R : fg_T4) (x : Option Nat) : fg_u2 (fg_rho R) 255 5 x = fg_rho (R.1, R.2.1, R.2.2.1, x) := by
  funext b i
  unfold fg_u2 fg_rho
  by_cases hb : b = 255
  · subst hb
    by_cases hi : i = 5
    · subst hi; rfl
    · simp [hi]
  · simp [hb]
theorem fg_putRe {E : fg_E} {Y : fg_Y} {d n0 n1 : Nat} {Q : Option Value → fg_M → Prop} {pc : Nat} {L st : List Value} {μ : Nat → Nat → Int32} {R : fg_T4} {index ci N b : Nat} (hd : decode Y.2.1 pc = .ok (.putfield index, 3)) (hf : fg_F Y.1.cls index ci N 5) (ha : fg_lay 255 = (ci, N)) (hr : fg_isR (fg_ty ci 5) = true) (hlt : 255 < 304) (k : fg_wp E Y d n0 n1 Q (pc + 3) L st (μ, fg_rho (R.1, R.2.1, R.2.2.1, (some b)), 304)) : fg_wp E Y d n0 n1 Q pc L (.ref b :: .ref 255 :: st) (μ, fg_rho R, 304) := by
  refine fg_putR hd hf ha hr hlt (fun C T h => ?_) ?_
  · rw [ly_255] at ha
    cases ha
    cases h
    rfl
  · show fg_wp E Y d n0 n1 Q (pc + 3) L st (μ, fg_u2 (fg_rho R) 255 5 (some b), 304)
    rw [fg_rhoRe]
    exact k
theorem fg_putReN {E : fg_E} {Y : fg_Y} {d n0 n1 : Nat} {Q : Option Value → fg_M → Prop} {pc : Nat} {L st : List Value} {μ : Nat → Nat → Int32} {R : fg_T4} {index ci N : Nat} (hd : decode Y.2.1 pc = .ok (.putfield index, 3)) (hf : fg_F Y.1.cls index ci N 5) (ha : fg_lay 255 = (ci, N)) (hr : fg_isR (fg_ty ci 5) = true) (hlt : 255 < 304) (k : fg_wp E Y d n0 n1 Q (pc + 3) L st (μ, fg_rho (R.1, R.2.1, R.2.2.1, none), 304)) : fg_wp E Y d n0 n1 Q pc L (.null :: .ref 255 :: st) (μ, fg_rho R, 304) := by
  refine fg_putN hd hf ha hr hlt (fun C T h => ?_) ?_
  · rw [ly_255] at ha
    cases ha
    cases h
    rfl
  · show fg_wp E Y d n0 n1 Q (pc + 3) L st (μ, fg_u2 (fg_rho R) 255 5 none, 304)
    rw [fg_rhoRe]
    exact k
def fg_fill1 (μ : Nat → Nat → Int32) (a n : Nat) (x : Int32) : Nat → Nat → Int32 := fun b j => if b = a ∧ j < n then x else μ b j
theorem ev_Arrs_fill {E : fg_E} {d : Nat} {μ : Nat → Nat → Int32} {R : fg_T4} {Q : Option Value → fg_M → Prop} {a n : Nat} {x : Int32} (ha : fg_lay a = (10, n)) (hQ : Q none (fg_fill1 μ a n x, fg_rho R, 304)) : fg_Ev E yy_Arrs_fill (d + 1) [.ref a, .int x] (μ, fg_rho R, 304) 304 Q := by
  have hn := fg_szLe ha
  have hn31 : n < 2 ^ 31 := by omega
  have loop : ∀ (m k : Nat), n - k < m → k ≤ n → fg_wp E yy_Arrs_fill (d + 1) 304 304 Q 5 [.ref a, .int x, .int (nI k), .int (nI n)] [] (fg_fill1 μ a k x, fg_rho R, 304) := by
    intro m
    induction m with
    | zero => intro k h; exact absurd h (Nat.not_lt_zero _)
    | succ m ih =>
      intro k hm hk
      refine fg_iloadn (fg_ft (pc := 5) tb_Arrs_fill 5 rfl) rfl ?_
      refine fg_iloadn (fg_ft (pc := 6) tb_Arrs_fill 6 rfl) rfl ?_
      refine fg_icmp_geN (tgt := 20) (fg_ft (pc := 7) tb_Arrs_fill 7 rfl) (by decide) (by omega) (hn31) (fun c7 => ?_) (fun c7 => ?_)
      · exact fg_vret (fg_ft (pc := 20) tb_Arrs_fill 14 rfl) rfl rfl (by rw [show k = n by omega]; exact hQ)
      · refine fg_aloadn (fg_ft (pc := 10) tb_Arrs_fill 8 rfl) rfl ?_
        refine fg_iloadn (fg_ft (pc := 11) tb_Arrs_fill 9 rfl) rfl ?_
        refine fg_iloadn (fg_ft (pc := 12) tb_Arrs_fill 10 rfl) rfl ?_
        refine fg_iastN (fg_ft (pc := 13) tb_Arrs_fill 11 rfl) ha (fg_lt ha (by decide)) (by omega) ?_
        show fg_wp _ _ _ _ _ _ _ _ _ (fg_u2 (fg_fill1 μ a k x) a k x, fg_rho R, 304)
        refine fg_iincN (fg_ft (pc := 14) tb_Arrs_fill 12 rfl) rfl ic_1 rfl ?_
        refine fg_goto (tgt := 5) (fg_ft (pc := 17) tb_Arrs_fill 13 rfl) (by decide) ?_
        have e1 : fg_u2 (fg_fill1 μ a k x) a k x = fg_fill1 μ a (k + 1) x := by
          funext b j
          simp only [fg_u2, fg_fill1]
          by_cases hb : b = a
          · by_cases hj : j = k
            · simp [hb, hj]
            · by_cases h2 : j < k
              · simp [hb, hj, h2, Nat.lt_succ_of_lt h2]
              · have h3 : ¬ j < k + 1 := by omega
                simp [hb, hj, h2, h3]
          · simp [hb]
        have h9 := ih (k + 1) (by omega) (by omega)
        rw [← e1] at h9
        exact h9
  refine fg_intro (by decide +kernel) (Nat.le_of_ble_eq_true rfl) (fg_okAs rfl) (Nat.le_refl _) ?_
  refine fg_iconst (fg_ft (pc := 0) tb_Arrs_fill 0 rfl) ic_0 ?_
  refine fg_istoren (fg_ft (pc := 1) tb_Arrs_fill 1 rfl) (Nat.le_of_ble_eq_true rfl) ?_
  refine fg_aloadn (fg_ft (pc := 2) tb_Arrs_fill 2 rfl) rfl ?_
  refine fg_alen (fg_ft (pc := 3) tb_Arrs_fill 3 rfl) ha (by decide) (fg_lt ha (by decide)) ?_
  refine fg_istoren (fg_ft (pc := 4) tb_Arrs_fill 4 rfl) (Nat.le_of_ble_eq_true rfl) ?_
  have e0 : μ = fg_fill1 μ a 0 x := by
    funext b j
    simp [fg_fill1]
  have h := loop (n + 1) 0 (by omega) (by omega)
  rw [← e0] at h
  exact h
def fg_out5 (μ μ' : Nat → Nat → Int32) : Prop := (∀ a, a < 281 ∨ 285 < a → ∀ j, μ' a j = μ a j) ∧ ∀ j, j ≠ 5 → μ' 281 j = μ 281 j
theorem fg_out5_rf (μ : Nat → Nat → Int32) : fg_out5 μ μ := ⟨fun _ _ _ => rfl, fun _ _ => rfl⟩
theorem fg_out5_tr {μ μ' μ'' : Nat → Nat → Int32} (h1 : fg_out5 μ μ') (h2 : fg_out5 μ' μ'') : fg_out5 μ μ'' := ⟨fun a ha j => (h2.1 a ha j).trans (h1.1 a ha j), fun j hj => (h2.2 j hj).trans (h1.2 j hj)⟩
theorem fg_SR_put {μ : Nat → Nat → Int32} {B : fg_BQ} {m a f r : Nat} {x y : Int32} (h : fg_SR μ B) (hlt : ∀ i, i < B.1 → B.2.1 i < 1024) (hinj : ∀ i j, i < B.1 → j < B.1 → B.2.1 i = B.2.1 j → i = j) (hah : ∀ i, 0 < i → i < B.1 → B.2.2.1 i < i) (hnew : ¬ ∃ i, i < B.1 ∧ B.2.1 i = m) (hxy : B.1 ≠ 0 → x = nI (B.2.1 a) ∧ y = nI f ∧ a < B.1) :
    fg_SR (fg_u2 (fg_u2 (fg_u2 (fg_u2 (fg_u2 μ 282 B.1 (nI m)) 281 5 (nI (B.1 + 1))) 283 m x) 284 m y) 285 m (nI r)) (fg_bput B m a f r) := by
  rw [fg_bput_new hnew]
  obtain ⟨h1, h2, h3⟩ := h
  refine ⟨rfl, fun i hi => ?_, fun m' hm' hno => ?_⟩
  · have hi : i < B.1 + 1 := hi
    show fg_u2 μ 282 B.1 (nI m) 282 i = nI (fg_up1 B.2.1 B.1 m i) ∧ fg_u2 μ 285 m (nI r) 285 (fg_up1 B.2.1 B.1 m i) = nI (fg_up1 B.2.2.2.2 B.1 r i) ∧ (0 < i → fg_u2 μ 283 m x 283 (fg_up1 B.2.1 B.1 m i) = nI (fg_up1 B.2.1 B.1 m (fg_up1 B.2.2.1 B.1 a i)) ∧ fg_u2 μ 284 m y 284 (fg_up1 B.2.1 B.1 m i) = nI (fg_up1 B.2.2.2.1 B.1 f i))
    rcases Nat.decEq i B.1 with q | q
    · have hi2 : i < B.1 := by omega
      have hne : B.2.1 i ≠ m := fun e => hnew ⟨i, hi2, e⟩
      rw [fg_up1_ne q, fg_up1_ne q, fg_up1_ne q, fg_up1_ne q, fg_u2ns q, fg_u2ns hne, fg_u2ns hne, fg_u2ns hne]
      obtain ⟨g1, g2, g3⟩ := h2 i hi2
      refine ⟨g1, g2, fun h0 => ?_⟩
      rw [fg_up1_ne (by have := hah i h0 hi2; omega)]
      exact g3 h0
    · subst q
      rw [fg_up1_eq, fg_up1_eq, fg_up1_eq, fg_up1_eq, fg_u2eq, fg_u2eq, fg_u2eq, fg_u2eq]
      refine ⟨rfl, rfl, fun h0 => ?_⟩
      obtain ⟨g1, g2, g3⟩ := hxy (by omega)
      rw [fg_up1_ne (by omega)]
      exact ⟨g1, g2⟩
  · show fg_u2 μ 285 m (nI r) 285 m' = -1
    have hne : m' ≠ m := fun e => hno B.1 (Nat.lt_succ_self _) (by show fg_up1 B.2.1 B.1 m B.1 = m'; rw [fg_up1_eq, e])
    rw [fg_u2ns hne]
    refine h3 m' hm' (fun i hi e => hno i (Nat.lt_succ_of_lt hi) ?_)
    show fg_up1 B.2.1 B.1 m i = m'
    rw [fg_up1_ne (by omega)]
    exact e
theorem fg_put_out (μ : Nat → Nat → Int32) (a b c d : Nat) (v w x y z : Int32) : fg_out5 μ (fg_u2 (fg_u2 (fg_u2 (fg_u2 (fg_u2 μ 282 a v) 281 5 w) 283 b x) 284 c y) 285 d z) := by
  refine ⟨fun q hq j => ?_, fun j hj => ?_⟩
  · rw [fg_u2ne (by omega), fg_u2ne (by omega), fg_u2ne (by omega), fg_u2ne (by omega), fg_u2ne (by omega)]
  · rw [fg_u2ne (by decide), fg_u2ne (by decide), fg_u2ne (by decide), fg_u2ns hj, fg_u2ne (by decide)]
theorem ev_Search_put {E : fg_E} {d : Nat} {μ : Nat → Nat → Int32} {R : fg_T4} {Q : Option Value → fg_M → Prop} {B : fg_BQ} {m a f r : Nat} {x y : Int32} (h : fg_SR μ B) (hlt : ∀ i, i < B.1 → B.2.1 i < 1024) (hinj : ∀ i j, i < B.1 → j < B.1 → B.2.1 i = B.2.1 j → i = j) (hah : ∀ i, 0 < i → i < B.1 → B.2.2.1 i < i) (hm : m < 1024) (hr : ∀ i, i < B.1 → B.2.2.2.2 i < 2 ^ 31) (hxy : B.1 ≠ 0 → x = nI (B.2.1 a) ∧ y = nI f ∧ a < B.1) (hQ : ∀ μ' : Nat → Nat → Int32, fg_out5 μ μ' → fg_SR μ' (fg_bput B m a f r) → Q none (μ', fg_rho R, 304)) : fg_Ev E yy_Search_put (d + 2) [.ref 281, .int (nI m), .int x, .int y, .int (nI r)] (μ, fg_rho R, 304) 304 Q := by
  have hlen0 : B.1 ≤ 1024 := fg_holes 1024 B.1 B.2.1 hlt hinj
  have hlen : B.1 < 2 ^ 31 := by omega
  rcases Classical.em (∃ i, i < B.1 ∧ B.2.1 i = m) with hex | hnew
  · refine fg_intro (by decide +kernel) (Nat.le_of_ble_eq_true rfl) (fg_okAs rfl) (Nat.le_refl _) ?_
    refine fg_iloadn (fg_ft (pc := 0) tb_Search_put 0 rfl) rfl ?_
    refine fg_callS (fg_ft (pc := 1) tb_Search_put 1 rfl) cf_Search_48 (as := [.int (nI m)]) (st := []) rfl rfl (Nat.le_of_ble_eq_true rfl) (Nat.le_refl _) (Nat.le_refl _) (ev_Search_isMind (m := m) (by omega) ?_)
    refine fg_ifB_eq (tgt := 69) (fg_ft (pc := 4) tb_Search_put 2 rfl) (by decide) (fun c4 => (absurd hm c4)) (fun c4 => ?_)
    refine fg_aloadn (fg_ft (pc := 7) tb_Search_put 3 rfl) rfl ?_
    refine fg_getR (fg_ft (pc := 8) tb_Search_put 4 rfl) ff_Search_21 ly_281 rfl (fg_lt ly_281 (by decide)) (rh_281_3 R) ?_
    refine fg_iloadn (fg_ft (pc := 11) tb_Search_put 5 rfl) rfl ?_
    refine fg_ialdN (fg_ft (pc := 12) tb_Search_put 6 rfl) ly_285 (fg_lt ly_285 (by decide)) (by omega) ?_
    refine fg_iconst (fg_ft (pc := 13) tb_Search_put 7 rfl) ic_m1 ?_
    refine fg_icmp_ne (tgt := 69) (fg_ft (pc := 14) tb_Search_put 8 rfl) (by decide) (fun c14 => ?_) (fun c14 => (absurd (show μ 285 m = -1 from c14) (by obtain ⟨i, hi, rfl⟩ := hex; rw [(h.2.1 i hi).2.1]; exact fun e => fg_negle (hr i hi) (by rw [e]; exact Int32.le_refl _))))
    exact fg_vret (fg_ft (pc := 69) tb_Search_put 40 rfl) rfl rfl (hQ μ (fg_out5_rf μ) (by rw [fg_bput_old hex]; exact h))
  · have hlen1 : B.1 + 1 ≤ 1024 := fg_holes 1024 (B.1 + 1) (fg_up1 B.2.1 B.1 m) (fun i hi => by
      rcases Nat.decEq i B.1 with q | q
      · rw [fg_up1_ne q]; exact hlt i (by omega)
      · rw [q, fg_up1_eq]; exact hm) (fun i j hi hj he => by
      rcases Nat.decEq i B.1 with q | q <;> rcases Nat.decEq j B.1 with q2 | q2
      · rw [fg_up1_ne q, fg_up1_ne q2] at he; exact hinj i j (by omega) (by omega) he
      · rw [fg_up1_ne q, q2, fg_up1_eq] at he; exact absurd ⟨i, by omega, he⟩ hnew
      · rw [q, fg_up1_eq, fg_up1_ne q2] at he; exact absurd ⟨j, by omega, he.symm⟩ hnew
      · omega)
    refine fg_intro (by decide +kernel) (Nat.le_of_ble_eq_true rfl) (fg_okAs rfl) (Nat.le_refl _) ?_
    refine fg_iloadn (fg_ft (pc := 0) tb_Search_put 0 rfl) rfl ?_
    refine fg_callS (fg_ft (pc := 1) tb_Search_put 1 rfl) cf_Search_48 (as := [.int (nI m)]) (st := []) rfl rfl (Nat.le_of_ble_eq_true rfl) (Nat.le_refl _) (Nat.le_refl _) (ev_Search_isMind (m := m) (by omega) ?_)
    refine fg_ifB_eq (tgt := 69) (fg_ft (pc := 4) tb_Search_put 2 rfl) (by decide) (fun c4 => (absurd hm c4)) (fun c4 => ?_)
    refine fg_aloadn (fg_ft (pc := 7) tb_Search_put 3 rfl) rfl ?_
    refine fg_getR (fg_ft (pc := 8) tb_Search_put 4 rfl) ff_Search_21 ly_281 rfl (fg_lt ly_281 (by decide)) (rh_281_3 R) ?_
    refine fg_iloadn (fg_ft (pc := 11) tb_Search_put 5 rfl) rfl ?_
    refine fg_ialdN (fg_ft (pc := 12) tb_Search_put 6 rfl) ly_285 (fg_lt ly_285 (by decide)) (by omega) ?_
    refine fg_iconst (fg_ft (pc := 13) tb_Search_put 7 rfl) ic_m1 ?_
    refine fg_icmp_ne (tgt := 69) (fg_ft (pc := 14) tb_Search_put 8 rfl) (by decide) (fun c14 => (absurd (h.2.2 m hm (fun i hi e => hnew ⟨i, hi, e⟩)) c14)) (fun c14 => ?_)
    refine fg_aloadn (fg_ft (pc := 17) tb_Search_put 9 rfl) rfl ?_
    refine fg_getV (v := (nI (B.1))) (fg_ft (pc := 18) tb_Search_put 10 rfl) ff_Search_28 ly_281 rfl (fg_lt ly_281 (by decide)) h.1 ?_
    refine fg_sipush (fg_ft (pc := 21) tb_Search_put 11 rfl) is_1024 ?_
    refine fg_icmp_geN (tgt := 69) (fg_ft (pc := 24) tb_Search_put 12 rfl) (by decide) (hlen) (by decide) (fun c24 => (absurd c24 (by omega))) (fun c24 => ?_)
    refine fg_aloadn (fg_ft (pc := 27) tb_Search_put 13 rfl) rfl ?_
    refine fg_getR (fg_ft (pc := 28) tb_Search_put 14 rfl) ff_Search_9 ly_281 rfl (fg_lt ly_281 (by decide)) (rh_281_0 R) ?_
    refine fg_aloadn (fg_ft (pc := 31) tb_Search_put 15 rfl) rfl ?_
    refine fg_getV (v := (nI (B.1))) (fg_ft (pc := 32) tb_Search_put 16 rfl) ff_Search_28 ly_281 rfl (fg_lt ly_281 (by decide)) h.1 ?_
    refine fg_iloadn (fg_ft (pc := 35) tb_Search_put 17 rfl) rfl ?_
    refine fg_iastN (fg_ft (pc := 36) tb_Search_put 18 rfl) ly_282 (fg_lt ly_282 (by decide)) (by omega) ?_
    show fg_wp _ _ _ _ _ _ _ _ _ (fg_u2 μ 282 (B.1) (nI m), fg_rho R, 304)
    refine fg_aloadn (fg_ft (pc := 37) tb_Search_put 19 rfl) rfl ?_
    refine fg_dup (fg_ft (pc := 38) tb_Search_put 20 rfl) rfl ?_
    refine fg_getV (v := (nI (B.1))) (fg_ft (pc := 39) tb_Search_put 21 rfl) ff_Search_28 ly_281 rfl (fg_lt ly_281 (by decide)) h.1 ?_
    refine fg_iconst (fg_ft (pc := 42) tb_Search_put 22 rfl) ic_1 ?_
    refine fg_iaddN (fg_ft (pc := 43) tb_Search_put 23 rfl) ?_
    refine fg_putI (fg_ft (pc := 44) tb_Search_put 24 rfl) ff_Search_28 ly_281 rfl (fg_lt ly_281 (by decide)) (fg_nokI _) (fun _ _ h => by cases h; rfl) ?_
    show fg_wp _ _ _ _ _ _ _ _ _ (fg_u2 (fg_u2 μ 282 (B.1) (nI m)) 281 5 (nI ((B.1) + 1)), fg_rho R, 304)
    refine fg_aloadn (fg_ft (pc := 47) tb_Search_put 25 rfl) rfl ?_
    refine fg_getR (fg_ft (pc := 48) tb_Search_put 26 rfl) ff_Search_15 ly_281 rfl (fg_lt ly_281 (by decide)) (rh_281_1 R) ?_
    refine fg_iloadn (fg_ft (pc := 51) tb_Search_put 27 rfl) rfl ?_
    refine fg_iloadn (fg_ft (pc := 52) tb_Search_put 28 rfl) rfl ?_
    refine fg_iastN (fg_ft (pc := 53) tb_Search_put 29 rfl) ly_283 (fg_lt ly_283 (by decide)) (by omega) ?_
    show fg_wp _ _ _ _ _ _ _ _ _ (fg_u2 (fg_u2 (fg_u2 μ 282 (B.1) (nI m)) 281 5 (nI ((B.1) + 1))) 283 m x, fg_rho R, 304)
    refine fg_aloadn (fg_ft (pc := 54) tb_Search_put 30 rfl) rfl ?_
    refine fg_getR (fg_ft (pc := 55) tb_Search_put 31 rfl) ff_Search_18 ly_281 rfl (fg_lt ly_281 (by decide)) (rh_281_2 R) ?_
    refine fg_iloadn (fg_ft (pc := 58) tb_Search_put 32 rfl) rfl ?_
    refine fg_iloadn (fg_ft (pc := 59) tb_Search_put 33 rfl) rfl ?_
    refine fg_iastN (fg_ft (pc := 60) tb_Search_put 34 rfl) ly_284 (fg_lt ly_284 (by decide)) (by omega) ?_
    show fg_wp _ _ _ _ _ _ _ _ _ (fg_u2 (fg_u2 (fg_u2 (fg_u2 μ 282 (B.1) (nI m)) 281 5 (nI ((B.1) + 1))) 283 m x) 284 m y, fg_rho R, 304)
    refine fg_aloadn (fg_ft (pc := 61) tb_Search_put 35 rfl) rfl ?_
    refine fg_getR (fg_ft (pc := 62) tb_Search_put 36 rfl) ff_Search_21 ly_281 rfl (fg_lt ly_281 (by decide)) (rh_281_3 R) ?_
    refine fg_iloadn (fg_ft (pc := 65) tb_Search_put 37 rfl) rfl ?_
    refine fg_iload (fg_ft (pc := 66) tb_Search_put 38 rfl) rfl ?_
    refine fg_iastN (fg_ft (pc := 68) tb_Search_put 39 rfl) ly_285 (fg_lt ly_285 (by decide)) (by omega) ?_
    show fg_wp _ _ _ _ _ _ _ _ _ (fg_u2 (fg_u2 (fg_u2 (fg_u2 (fg_u2 μ 282 (B.1) (nI m)) 281 5 (nI ((B.1) + 1))) 283 m x) 284 m y) 285 m (nI r), fg_rho R, 304)
    exact fg_vret (fg_ft (pc := 69) tb_Search_put 40 rfl) rfl rfl (hQ _ (fg_put_out _ _ _ _ _ _ _ _ _ _) (fg_SR_put h hlt hinj hah hnew hxy))
