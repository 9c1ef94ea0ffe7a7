/-! the reference's search goes on -/
def fg_bmn (c : Nat) (B : fg_BQ) : Prop := (∀ i j, i ≤ j → j < B.1 → B.2.2.2.2 i ≤ B.2.2.2.2 j) ∧ ∀ j, j < B.1 → B.2.2.2.2 j ≤ c + 1
theorem fg_bput_mn {B : fg_BQ} {m a f c : Nat} (h : fg_bmn c B) : fg_bmn c (fg_bput B m a f (c + 1)) := by
  rcases Classical.em (∃ i, i < B.1 ∧ B.2.1 i = m) with g | g
  · rw [fg_bput_old g]; exact h
  · rw [fg_bput_new g]
    refine ⟨fun i j hij hj => ?_, fun j hj => ?_⟩
    · have hj : j < B.1 + 1 := hj
      show fg_up1 B.2.2.2.2 B.1 (c + 1) i ≤ fg_up1 B.2.2.2.2 B.1 (c + 1) j
      rcases Nat.decEq j B.1 with e | e
      · rw [fg_up1_ne e, fg_up1_ne (by omega)]; exact h.1 i j hij (by omega)
      · rw [e, fg_up1_eq]
        rcases Nat.decEq i B.1 with e2 | e2
        · rw [fg_up1_ne e2]; exact h.2 i (by omega)
        · rw [e2, fg_up1_eq]; exact Nat.le_refl _
    · have hj : j < B.1 + 1 := hj
      show fg_up1 B.2.2.2.2 B.1 (c + 1) j ≤ c + 1
      rcases Nat.decEq j B.1 with e | e
      · rw [fg_up1_ne e]; exact h.2 j (by omega)
      · rw [e, fg_up1_eq]; exact Nat.le_refl _
theorem fg_bex_mn {T : Nat → Nat} {B : fg_BQ} {k : Nat} (h : fg_bmn (B.2.2.2.2 k) B) : ∀ n, fg_bmn (B.2.2.2.2 k) (fg_bex T B k n) := by
  intro n
  induction n with
  | zero => exact h
  | succ n ih =>
    simp only [fg_bex]
    split
    · exact fg_bput_mn ih
    · exact ih
theorem fg_bfs_mn {T : Nat → Nat} {m mst : Nat} : ∀ k, (∀ i j, i ≤ j → j < (fg_bfs T m mst k).1 → (fg_bfs T m mst k).2.2.2.2 i ≤ (fg_bfs T m mst k).2.2.2.2 j) ∧ (k < (fg_bfs T m mst k).1 → ∀ j, j < (fg_bfs T m mst k).1 → (fg_bfs T m mst k).2.2.2.2 j ≤ (fg_bfs T m mst k).2.2.2.2 k + 1) := by
  intro k
  induction k with
  | zero => exact ⟨fun _ _ _ _ => Nat.le_refl 0, fun _ _ _ => Nat.zero_le 1⟩
  | succ k ih =>
    by_cases c : k < (fg_bfs T m mst k).1 ∧ (fg_bfs T m mst k).2.2.2.2 k < mst
    · have e : fg_bfs T m mst (k + 1) = fg_bex T (fg_bfs T m mst k) k 10 := if_pos c
      have h := fg_bex_mn (T := T) ⟨ih.1, ih.2 c.1⟩ 10
      have hp := fg_bex_pre T (fg_bfs T m mst k) k 10
      rw [e]
      refine ⟨h.1, fun hk j hj => ?_⟩
      have h1 := h.2 j hj
      have h2 := h.1 k (k + 1) (by omega) hk
      have h3 := (hp.2 k c.1).2.2.2
      omega
    · have e : fg_bfs T m mst (k + 1) = fg_bfs T m mst k := if_neg c
      rw [e]
      refine ⟨ih.1, fun hk j hj => ?_⟩
      have h1 := ih.2 (by omega) j hj
      have h2 := ih.1 k (k + 1) (by omega) hk
      omega
theorem fg_bfs_stop {T : Nat → Nat} {m mst k : Nat} (hf : ¬ (fg_bfs T m mst k).2.2.2.2 k < mst) : ∀ n, fg_bfs T m mst (k + n) = fg_bfs T m mst k := by
  intro n
  induction n with
  | zero => rfl
  | succ n ih =>
    show (if k + n < (fg_bfs T m mst (k + n)).1 ∧ (fg_bfs T m mst (k + n)).2.2.2.2 (k + n) < mst then _ else fg_bfs T m mst (k + n)) = _
    rw [ih, if_neg (fun hh => by
      have h1 := (fg_bfs_mn (T := T) (m := m) (mst := mst) k).1 k (k + n) (by omega) hh.1
      have h2 := hh.2
      omega)]
theorem fg_BF_stop {T : Nat → Nat} {m mst k : Nat} (hf : ¬ (fg_bfs T m mst k).2.2.2.2 k < mst) (hk : k ≤ 1024) : fg_BF T m mst = fg_bfs T m mst k := by
  have := fg_bfs_stop hf (1024 - k)
  rw [show k + (1024 - k) = 1024 by omega] at this
  rw [fg_BF_eq]
  exact this
theorem ev_Mo_goesOn {E : fg_E} {d : Nat} {μ : Nat → Nat → Int32} {R : fg_T4} {Q : Option Value → fg_M → Prop} {v : Nat} {T : Nat → Nat} (hM : fg_MT (μ 288) v T) (hok : fg_ok T) (hC : fg_MC μ T) {m mst : Nat} (hm : m < 2 ^ T 0) (hmst : mst < 2 ^ 31) (hQ : ∀ μ' : Nat → Nat → Int32, fg_agL μ μ' → fg_LR μ' (fg_BF T m mst) → Q none (μ', fg_rho R, 304)) : fg_Ev E yy_Mo_goesOn (d + 4) [.ref 287, .int (nI v), .int (nI m), .int (nI mst)] (μ, fg_rho R, 304) 304 Q := by
  have hv0 := hM.1
  have hb0 := hok.1
  have hb1 := hok.2.1
  have hp := hok.p
  have hq := Nat.two_pow_pos (T 0)
  have loop2 : ∀ (j k : Nat) (ν : Nat → Nat → Int32) (v5 : Value), 1025 - k < j → k ≤ (fg_bfs T m mst k).1 → fg_agL μ ν → fg_LR ν (fg_bfs T m mst k) → fg_wp E yy_Mo_goesOn (d + 4) 304 304 Q 40 [.ref 287, .int (nI v), .int (nI m), .int (nI mst), .int (nI k), v5] [] (ν, fg_rho R, 304) := by
    intro j
    induction j with
    | zero => intro k ν v5 h hkb; have := fg_bok_len (fg_bfs_ok hok hm (mst := mst) k) hok.1.2; omega
    | succ j ih =>
      intro k ν v5 hj hkb hag hLR
      have hB := fg_bfs_ok hok hm (mst := mst) k
      have hlen := fg_bok_len hB hok.1.2
      have hCn := hC.agL hag
      have hMn := hM.agL hag
      refine fg_iload (fg_ft (pc := 40) tb_Mo_goesOn 22 rfl) rfl ?_
      refine fg_aloadn (fg_ft (pc := 42) tb_Mo_goesOn 23 rfl) rfl ?_
      refine fg_getV (v := (nI ((fg_bfs T m mst k).1))) (fg_ft (pc := 43) tb_Mo_goesOn 24 rfl) ff_Mo_276 ly_287 rfl (fg_lt ly_287 (by decide)) hLR.1 ?_
      refine fg_icmp_geN (tgt := 128) (fg_ft (pc := 46) tb_Mo_goesOn 25 rfl) (by decide) (by omega) (by omega) (fun c46 => ?_) (fun c46 => ?_)
      · exact fg_vret (fg_ft (pc := 128) tb_Mo_goesOn 70 rfl) rfl rfl (hQ ν hag (by first | (rw [fg_BF_end (T := T) (m := m) (mst := mst) (k := k) (by omega) (by omega)]; exact hLR) | (rw [fg_BF_stop (T := T) (m := m) (mst := mst) (k := k) (by omega) (by omega)]; exact hLR)))
      · have hfk := fg_bok_far31 hB hok.1.2 (i := k) (by omega)
        refine fg_aloadn (fg_ft (pc := 49) tb_Mo_goesOn 26 rfl) rfl ?_
        refine fg_getR (fg_ft (pc := 50) tb_Mo_goesOn 27 rfl) ff_Mo_45 ly_287 rfl (fg_lt ly_287 (by decide)) (rh_287_24 R) ?_
        refine fg_iload (fg_ft (pc := 53) tb_Mo_goesOn 28 rfl) rfl ?_
        refine fg_ialdV (v := (nI ((fg_bfs T m mst k).2.2.2.2 k))) (fg_ft (pc := 55) tb_Mo_goesOn 29 rfl) ly_298 (fg_lt ly_298 (by decide)) (by omega) (hLR.2.1 k (by omega)).2.1 ?_
        refine fg_iloadn (fg_ft (pc := 56) tb_Mo_goesOn 30 rfl) rfl ?_
        refine fg_icmp_geN (tgt := 128) (fg_ft (pc := 57) tb_Mo_goesOn 31 rfl) (by decide) (by omega) (by omega) (fun c57 => ?_) (fun c57 => ?_)
        · exact fg_vret (fg_ft (pc := 128) tb_Mo_goesOn 70 rfl) rfl rfl (hQ ν hag (by first | (rw [fg_BF_end (T := T) (m := m) (mst := mst) (k := k) (by omega) (by omega)]; exact hLR) | (rw [fg_BF_stop (T := T) (m := m) (mst := mst) (k := k) (by omega) (by omega)]; exact hLR)))
        · refine fg_iconst (fg_ft (pc := 60) tb_Mo_goesOn 32 rfl) ic_0 ?_
          refine fg_istore (fg_ft (pc := 61) tb_Mo_goesOn 33 rfl) (Nat.le_of_ble_eq_true rfl) ?_
          have inner : ∀ (n f : Nat) (ν2 : Nat → Nat → Int32), T 0 - f < n → f ≤ T 0 → fg_agL ν ν2 → fg_LR ν2 (fg_bex T (fg_bfs T m mst k) k f) → fg_wp E yy_Mo_goesOn (d + 4) 304 304 Q 63 [.ref 287, .int (nI v), .int (nI m), .int (nI mst), .int (nI k), .int (nI f)] [] (ν2, fg_rho R, 304) := by
            intro n
            induction n with
            | zero => intro f ν2 h; exact absurd h (Nat.not_lt_zero _)
            | succ n ih2 =>
              intro f ν2 hn hf hag2 hX
              have hM2 := hMn.agL hag2
              have hC2 := hCn.agL hag2
              have hpre := fg_bex_pre T (fg_bfs T m mst k) k f
              have hbx := fg_bex_ok hok hB (by omega : k < (fg_bfs T m mst k).1) f (by omega)
              have hmk := hB.1 k (by omega)
              have hxl := hpre.1
              have hp10 := Nat.lt_of_lt_of_le hmk (Nat.pow_le_pow_right (n := 2) (j := 10) (by decide) hok.1.2)
              refine fg_iload (fg_ft (pc := 63) tb_Mo_goesOn 34 rfl) rfl ?_
              refine fg_aloadn (fg_ft (pc := 65) tb_Mo_goesOn 35 rfl) rfl ?_
              refine fg_getR (fg_ft (pc := 66) tb_Mo_goesOn 36 rfl) ff_Mo_7 ly_287 rfl (fg_lt ly_287 (by decide)) (rh_287_0 R) ?_
              refine fg_iloadn (fg_ft (pc := 69) tb_Mo_goesOn 37 rfl) rfl ?_
              refine fg_iconst (fg_ft (pc := 70) tb_Mo_goesOn 38 rfl) ic_0 ?_
              refine fg_iaddN (fg_ft (pc := 71) tb_Mo_goesOn 39 rfl) ?_
              refine fg_ialdV (v := (nI (T 0))) (fg_ft (pc := 72) tb_Mo_goesOn 40 rfl) ly_288 (fg_lt ly_288 (by decide)) (by omega) (fg_MTat hM2 (i := v + 0) (k := 0) (by omega) (by omega)) ?_
              refine fg_icmp_geN (tgt := 122) (fg_ft (pc := 73) tb_Mo_goesOn 41 rfl) (by decide) (by omega) (by omega) (fun c73 => ?_) (fun c73 => ?_)
              · refine fg_iincN (fg_ft (pc := 122) tb_Mo_goesOn 68 rfl) rfl ic_1 rfl ?_
                refine fg_goto (tgt := 40) (fg_ft (pc := 125) tb_Mo_goesOn 69 rfl) (by decide) ?_
                have e10 : fg_bfs T m mst (k + 1) = (fg_bex T (fg_bfs T m mst k) k f) := (if_pos ⟨by omega, by omega⟩ : fg_bfs T m mst (k + 1) = fg_bex T (fg_bfs T m mst k) k 10).trans (by
                  have := fg_bex_z (T := T) (B := fg_bfs T m mst k) (k := k) (n0 := f) (fun n9 hn9 hb9 => by have := fg_bit_lt hmk hb9; omega) (10 - f)
                  rw [show f + (10 - f) = 10 by omega] at this
                  exact this)
                exact ih (k + 1) ν2 _ (by omega) (by rw [e10]; omega) (fg_agL_tr hag hag2) (by rw [e10]; exact hX)
              · refine fg_aloadn (fg_ft (pc := 76) tb_Mo_goesOn 42 rfl) rfl ?_
                refine fg_getR (fg_ft (pc := 77) tb_Mo_goesOn 43 rfl) ff_Mo_36 ly_287 rfl (fg_lt ly_287 (by decide)) (rh_287_21 R) ?_
                refine fg_iload (fg_ft (pc := 80) tb_Mo_goesOn 44 rfl) rfl ?_
                refine fg_ialdV (v := (nI ((fg_bfs T m mst k).2.1 k))) (fg_ft (pc := 82) tb_Mo_goesOn 45 rfl) ly_295 (fg_lt ly_295 (by decide)) (by omega) ((hX.2.1 k (by omega)).1.trans (by rw [(hpre.2 k (by omega)).1])) ?_
                refine fg_iload (fg_ft (pc := 83) tb_Mo_goesOn 46 rfl) rfl ?_
                refine fg_ishrN (fg_ft (pc := 85) tb_Mo_goesOn 47 rfl) (by omega) (by omega) ?_
                refine fg_iconst (fg_ft (pc := 86) tb_Mo_goesOn 48 rfl) ic_1 ?_
                refine fg_iandN (fg_ft (pc := 87) tb_Mo_goesOn 49 rfl) ?_
                refine fg_iconst (fg_ft (pc := 88) tb_Mo_goesOn 50 rfl) ic_1 ?_
                refine fg_icmpbit_ne (tgt := 116) (fg_ft (pc := 89) tb_Mo_goesOn 51 rfl) (by decide) (fun c89 => ?_) (fun c89 => ?_)
                · refine fg_iincN (fg_ft (pc := 116) tb_Mo_goesOn 66 rfl) rfl ic_1 rfl ?_
                  refine fg_goto (tgt := 63) (fg_ft (pc := 119) tb_Mo_goesOn 67 rfl) (by decide) ?_
                  have ebx : (fg_bex T (fg_bfs T m mst k) k (f + 1)) = (fg_bex T (fg_bfs T m mst k) k f) := if_neg (by rw [c89]; decide)
                  exact ih2 (f + 1) ν2 (by omega) (by omega) hag2 (by rw [ebx]; exact hX)
                · refine fg_aloadn (fg_ft (pc := 92) tb_Mo_goesOn 52 rfl) rfl ?_
                  refine fg_aloadn (fg_ft (pc := 93) tb_Mo_goesOn 53 rfl) rfl ?_
                  refine fg_aloadn (fg_ft (pc := 94) tb_Mo_goesOn 54 rfl) rfl ?_
                  refine fg_getR (fg_ft (pc := 95) tb_Mo_goesOn 55 rfl) ff_Mo_36 ly_287 rfl (fg_lt ly_287 (by decide)) (rh_287_21 R) ?_
                  refine fg_iload (fg_ft (pc := 98) tb_Mo_goesOn 56 rfl) rfl ?_
                  refine fg_ialdV (v := (nI ((fg_bfs T m mst k).2.1 k))) (fg_ft (pc := 100) tb_Mo_goesOn 57 rfl) ly_295 (fg_lt ly_295 (by decide)) (by omega) ((hX.2.1 k (by omega)).1.trans (by rw [(hpre.2 k (by omega)).1])) ?_
                  refine fg_iconst (fg_ft (pc := 101) tb_Mo_goesOn 58 rfl) ic_1 ?_
                  refine fg_iload (fg_ft (pc := 102) tb_Mo_goesOn 59 rfl) rfl ?_
                  refine fg_ishl1 (fg_ft (pc := 104) tb_Mo_goesOn 60 rfl) (by omega) ?_
                  refine fg_iconst (fg_ft (pc := 105) tb_Mo_goesOn 61 rfl) ic_0 ?_
                  refine fg_callV (fg_ft (pc := 106) tb_Mo_goesOn 62 rfl) cf_Mo_188 (fg_isOf ly_287 rfl (fg_lt ly_287 (by decide))) (as := [.int (nI ((fg_bfs T m mst k).2.1 k)), .int (nI (2 ^ f)), .int (nI 0)]) (st := [.ref 287]) rfl rfl (Nat.le_of_ble_eq_true rfl) (Nat.le_refl _) (Nat.le_refl _) (ev_Mo_bestPart hM2 hok hC2 (mind := ((fg_bfs T m mst k).2.1 k)) (gone := (2 ^ f)) (kept := 0) (hmk) (by decide) ?_)
                  refine fg_top (y := nI (fg_lst T ((fg_bfs T m mst k).2.1 k) f)) (by rw [(fg_lst_some hok _ _).1]; rfl) ?_
                  refine fg_iload (fg_ft (pc := 109) tb_Mo_goesOn 63 rfl) rfl ?_
                  refine fg_iload (fg_ft (pc := 111) tb_Mo_goesOn 64 rfl) rfl ?_
                  refine fg_callV (fg_ft (pc := 113) tb_Mo_goesOn 65 rfl) cf_Mo_279 (fg_isOf ly_287 rfl (fg_lt ly_287 (by decide))) (as := [.int (nI (fg_lst T ((fg_bfs T m mst k).2.1 k) f)), .int (nI k), .int (nI f)]) (st := []) rfl rfl (Nat.le_of_ble_eq_true rfl) (Nat.le_refl _) (Nat.le_refl _) (ev_Mo_comes (B := (fg_bex T (fg_bfs T m mst k) k f)) (m := fg_lst T ((fg_bfs T m mst k).2.1 k) f) (k := k) (n := f) hok.1.2 hbx (fg_le_lt (fg_lst_some hok _ _).2.1 hmk) (by omega) (by omega) hX ?_)
                  intro ν3 hag3 hX3
                  have ebx : fg_bput (fg_bex T (fg_bfs T m mst k) k f) (fg_lst T ((fg_bfs T m mst k).2.1 k) f) k f ((fg_bex T (fg_bfs T m mst k) k f).2.2.2.2 k + 1) = (fg_bex T (fg_bfs T m mst k) k (f + 1)) := by
                    rw [(hpre.2 k (by omega)).2.2.2]
                    exact (if_pos c89).symm
                  rw [ebx] at hX3
                  show fg_wp _ _ _ _ _ _ _ _ _ (ν3, fg_rho R, 304)
                  refine fg_iincN (fg_ft (pc := 116) tb_Mo_goesOn 66 rfl) rfl ic_1 rfl ?_
                  refine fg_goto (tgt := 63) (fg_ft (pc := 119) tb_Mo_goesOn 67 rfl) (by decide) ?_
                  exact ih2 (f + 1) ν3 (by omega) (by omega) (fg_agL_tr hag2 hag3) hX3
          exact inner (T 0 + 1) 0 ν (by omega) (by omega) (fg_agL_rf _) hLR
  have loop1 : ∀ (j i : Nat) (ν : Nat → Nat → Int32), 1024 - i < j → i ≤ 1024 → fg_agL μ ν → ν 287 26 = nI 0 → (∀ q, q < i → ν 299 q = nI 0) → fg_wp E yy_Mo_goesOn (d + 4) 304 304 Q 8 [.ref 287, .int (nI v), .int (nI m), .int (nI mst), .int (nI i), .retAddr 0] [] (ν, fg_rho R, 304) := by
    intro j
    induction j with
    | zero => intro i ν h; exact absurd h (Nat.not_lt_zero _)
    | succ j ih =>
      intro i ν hj hi hag k26 k299
      refine fg_iload (fg_ft (pc := 8) tb_Mo_goesOn 5 rfl) rfl ?_
      refine fg_sipush (fg_ft (pc := 10) tb_Mo_goesOn 6 rfl) is_1024 ?_
      refine fg_icmp_geN (tgt := 30) (fg_ft (pc := 13) tb_Mo_goesOn 7 rfl) (by decide) (by omega) (by decide) (fun c13 => ?_) (fun c13 => ?_)
      · refine fg_aloadn (fg_ft (pc := 30) tb_Mo_goesOn 15 rfl) rfl ?_
        refine fg_iloadn (fg_ft (pc := 31) tb_Mo_goesOn 16 rfl) rfl ?_
        refine fg_iconst (fg_ft (pc := 32) tb_Mo_goesOn 17 rfl) ic_m1 ?_
        refine fg_iconst (fg_ft (pc := 33) tb_Mo_goesOn 18 rfl) ic_m1 ?_
        refine fg_callV (fg_ft (pc := 34) tb_Mo_goesOn 19 rfl) cf_Mo_279 (fg_isOf ly_287 rfl (fg_lt ly_287 (by decide))) (as := [.int (nI m), .int (-1), .int (-1)]) (st := []) rfl rfl (Nat.le_of_ble_eq_true rfl) (Nat.le_refl _) (Nat.le_refl _) (ev_Mo_comes0 (m := m) (fg_p10 hm hok.1.2) k26 (fun q9 hq9 => k299 q9 (by omega)) ?_)
        intro ν1 hag1 hLR1
        show fg_wp _ _ _ _ _ _ _ _ _ (ν1, fg_rho R, 304)
        refine fg_iconst (fg_ft (pc := 37) tb_Mo_goesOn 20 rfl) ic_0 ?_
        refine fg_istore (fg_ft (pc := 38) tb_Mo_goesOn 21 rfl) (Nat.le_of_ble_eq_true rfl) ?_
        exact loop2 1026 0 ν1 _ (by omega) (Nat.zero_le _) (fg_agL_tr hag hag1) hLR1
      · refine fg_aloadn (fg_ft (pc := 16) tb_Mo_goesOn 8 rfl) rfl ?_
        refine fg_getR (fg_ft (pc := 17) tb_Mo_goesOn 9 rfl) ff_Mo_48 ly_287 rfl (fg_lt ly_287 (by decide)) (rh_287_25 R) ?_
        refine fg_iload (fg_ft (pc := 20) tb_Mo_goesOn 10 rfl) rfl ?_
        refine fg_iconst (fg_ft (pc := 22) tb_Mo_goesOn 11 rfl) ic_0 ?_
        refine fg_iastN (fg_ft (pc := 23) tb_Mo_goesOn 12 rfl) ly_299 (fg_lt ly_299 (by decide)) (by omega) ?_
        show fg_wp _ _ _ _ _ _ _ _ _ (fg_u2 ν 299 i (nI 0), fg_rho R, 304)
        refine fg_iincN (fg_ft (pc := 24) tb_Mo_goesOn 13 rfl) rfl ic_1 rfl ?_
        refine fg_goto (tgt := 8) (fg_ft (pc := 27) tb_Mo_goesOn 14 rfl) (by decide) ?_
        refine ih (i + 1) _ (by omega) (by omega) (fg_agL_tr hag (fg_agL_u (Or.inl ⟨by decide, by decide⟩))) ((fg_u2ne (by decide)).trans k26) (fun q hq => ?_)
        rcases Nat.decEq q i with zq | zq
        · exact (fg_u2ns zq).trans (k299 q (by omega))
        · rw [zq]; exact fg_u2eq
  refine fg_intro (by decide +kernel) (Nat.le_of_ble_eq_true rfl) (fg_okAs rfl) (Nat.le_refl _) ?_
  refine fg_aloadn (fg_ft (pc := 0) tb_Mo_goesOn 0 rfl) rfl ?_
  refine fg_iconst (fg_ft (pc := 1) tb_Mo_goesOn 1 rfl) ic_0 ?_
  refine fg_putI (fg_ft (pc := 2) tb_Mo_goesOn 2 rfl) ff_Mo_276 ly_287 rfl (fg_lt ly_287 (by decide)) (fg_nokI _) (fun _ _ h => by cases h; rfl) ?_
  show fg_wp _ _ _ _ _ _ _ _ _ (fg_u2 μ 287 26 (nI 0), fg_rho R, 304)
  refine fg_iconst (fg_ft (pc := 5) tb_Mo_goesOn 3 rfl) ic_0 ?_
  refine fg_istore (fg_ft (pc := 6) tb_Mo_goesOn 4 rfl) (Nat.le_of_ble_eq_true rfl) ?_
  exact loop1 1025 0 _ (by omega) (by omega) (fg_agL_u (Or.inr ⟨rfl, rfl⟩)) fg_u2eq (fun q hq => absurd hq (Nat.not_lt_zero _))
theorem ev_Mo_toldOf0 {E : fg_E} {d : Nat} {μ : Nat → Nat → Int32} {R : fg_T4} {Q : Option Value → fg_M → Prop} {w : Nat} {B : fg_BQ} {k : Nat} (hw : w ≤ 10) (hB : fg_bok w B) (hk : k < B.1) (hS : fg_LR μ B) (hQ : Q (some (.int (fg_tell B k 0))) (μ, fg_rho R, 304)) : fg_Ev E yy_Mo_toldOf (d + 2) [.ref 287, .int (nI k), .int (nI 0)] (μ, fg_rho R, 304) 304 Q := by
  have hlen := fg_bok_len hB hw
  have hfk := fg_bok_far31 hB hw hk
  refine fg_intro (by decide +kernel) (Nat.le_of_ble_eq_true rfl) (fg_okAs rfl) (Nat.le_refl _) ?_
  refine fg_iloadn (fg_ft (pc := 0) tb_Mo_toldOf 0 rfl) rfl ?_
  refine fg_if_ne (tgt := 11) (fg_ft (pc := 1) tb_Mo_toldOf 1 rfl) (by decide) (fun h => absurd h (by decide)) (fun _ => ?_)
  refine fg_aloadn (fg_ft (pc := 4) tb_Mo_toldOf 2 rfl) rfl ?_
  refine fg_getR (fg_ft (pc := 5) tb_Mo_toldOf 3 rfl) ff_Mo_45 ly_287 rfl (fg_lt ly_287 (by decide)) (rh_287_24 R) ?_
  refine fg_iloadn (fg_ft (pc := 8) tb_Mo_toldOf 4 rfl) rfl ?_
  refine fg_ialdV (v := (nI (B.2.2.2.2 k))) (fg_ft (pc := 9) tb_Mo_toldOf 5 rfl) ly_298 (fg_lt ly_298 (by decide)) (by omega) (hS.2.1 _ (by omega)).2.1 ?_
  exact fg_iret (fg_ft (pc := 10) tb_Mo_toldOf 6 rfl) rfl rfl (by rw [fg_tell0] at hQ; exact hQ)
theorem ev_Mo_toldOfOut {E : fg_E} {d : Nat} {μ : Nat → Nat → Int32} {R : fg_T4} {Q : Option Value → fg_M → Prop} {w : Nat} {B : fg_BQ} {k : Nat} (hw : w ≤ 10) (hB : fg_bok w B) (hk : k < B.1) (hS : fg_LR μ B) {x : Int32} (h0 : ¬ x = 0) (hin : ¬ ∃ i, i < B.2.2.2.2 k ∧ x = nI (10 + i)) (hQ : Q (some (.int (fg_tell B k x))) (μ, fg_rho R, 304)) : fg_Ev E yy_Mo_toldOf (d + 2) [.ref 287, .int (nI k), .int x] (μ, fg_rho R, 304) 304 Q := by
  have hlen := fg_bok_len hB hw
  have hfk := fg_bok_far31 hB hw hk
  refine fg_intro (by decide +kernel) (Nat.le_of_ble_eq_true rfl) (fg_okAs rfl) (Nat.le_refl _) ?_
  refine fg_iloadn (fg_ft (pc := 0) tb_Mo_toldOf 0 rfl) rfl ?_
  refine fg_if_ne (tgt := 11) (fg_ft (pc := 1) tb_Mo_toldOf 1 rfl) (by decide) (fun c1 => ?_) (fun c1 => (absurd c1 h0))
  refine fg_iloadn (fg_ft (pc := 11) tb_Mo_toldOf 7 rfl) rfl ?_
  refine fg_bipush (fg_ft (pc := 12) tb_Mo_toldOf 8 rfl) ib_10 ?_
  refine fg_bipush (fg_ft (pc := 14) tb_Mo_toldOf 9 rfl) ib_9 ?_
  refine fg_aloadn (fg_ft (pc := 16) tb_Mo_toldOf 10 rfl) rfl ?_
  refine fg_getR (fg_ft (pc := 17) tb_Mo_toldOf 11 rfl) ff_Mo_45 ly_287 rfl (fg_lt ly_287 (by decide)) (rh_287_24 R) ?_
  refine fg_iloadn (fg_ft (pc := 20) tb_Mo_toldOf 12 rfl) rfl ?_
  refine fg_ialdV (v := (nI (B.2.2.2.2 k))) (fg_ft (pc := 21) tb_Mo_toldOf 13 rfl) ly_298 (fg_lt ly_298 (by decide)) (by omega) (hS.2.1 _ (by omega)).2.1 ?_
  refine fg_iaddN (fg_ft (pc := 22) tb_Mo_toldOf 14 rfl) ?_
  refine fg_callS (fg_ft (pc := 23) tb_Mo_toldOf 15 rfl) cf_Mo_110 (as := [.int x, .int (nI 10), .int (nI (9 + (B.2.2.2.2 k)))]) (st := []) rfl rfl (Nat.le_of_ble_eq_true rfl) (Nat.le_refl _) (Nat.le_refl _) (ev_Mo_isIn (x := x) (a := (nI 10)) (b := (nI (9 + (B.2.2.2.2 k)))) ?_)
  refine fg_ifB_ne (tgt := 31) (fg_ft (pc := 26) tb_Mo_toldOf 16 rfl) (by decide) (fun c26 => (absurd ((fg_inRow hfk).mp c26) hin)) (fun c26 => ?_)
  refine fg_iconst (fg_ft (pc := 29) tb_Mo_toldOf 17 rfl) ic_m1 ?_
  exact fg_iret (fg_ft (pc := 30) tb_Mo_toldOf 18 rfl) rfl rfl (by rw [fg_tellN h0 hin] at hQ; exact hQ)
theorem ev_Mo_toldOfI {E : fg_E} {d : Nat} {μ : Nat → Nat → Int32} {R : fg_T4} {Q : Option Value → fg_M → Prop} {w : Nat} {B : fg_BQ} {k : Nat} (hw : w ≤ 10) (hB : fg_bok w B) (hk : k < B.1) (hS : fg_LR μ B) {i : Nat} (hi : i < B.2.2.2.2 k) (hQ : Q (some (.int (fg_tell B k (nI (10 + i))))) (μ, fg_rho R, 304)) : fg_Ev E yy_Mo_toldOf (d + 2) [.ref 287, .int (nI k), .int (nI (10 + i))] (μ, fg_rho R, 304) 304 Q := by
  have hlen := fg_bok_len hB hw
  have hfk := fg_bok_far31 hB hw hk
  have loop : ∀ (m n : Nat), B.2.2.2.2 k - n < m → n + i + 1 ≤ B.2.2.2.2 k → fg_wp E yy_Mo_toldOf (d + 2) 304 304 Q 33 [.ref 287, .int (nI k), .int (nI (10 + i)), .int (nI (fg_anc B k n))] [] (μ, fg_rho R, 304) := by
    intro m
    induction m with
    | zero => intro n h; exact absurd h (Nat.not_lt_zero _)
    | succ m ih =>
      intro n hm hn
      obtain ⟨ha, haf⟩ := fg_anc_far hB hk n (by omega)
      have h0 : 0 < fg_anc B k n := by
        rcases Nat.eq_zero_or_pos (fg_anc B k n) with q | q
        · rw [q, hB.2.2.2.2] at haf; omega
        · exact q
      refine fg_aloadn (fg_ft (pc := 33) tb_Mo_toldOf 21 rfl) rfl ?_
      refine fg_getR (fg_ft (pc := 34) tb_Mo_toldOf 22 rfl) ff_Mo_45 ly_287 rfl (fg_lt ly_287 (by decide)) (rh_287_24 R) ?_
      refine fg_iloadn (fg_ft (pc := 37) tb_Mo_toldOf 23 rfl) rfl ?_
      refine fg_ialdV (v := (nI (B.2.2.2.2 (fg_anc B k n)))) (fg_ft (pc := 38) tb_Mo_toldOf 24 rfl) ly_298 (fg_lt ly_298 (by decide)) (by omega) (hS.2.1 _ ha).2.1 ?_
      refine fg_iloadn (fg_ft (pc := 39) tb_Mo_toldOf 25 rfl) rfl ?_
      refine fg_bipush (fg_ft (pc := 40) tb_Mo_toldOf 26 rfl) ib_9 ?_
      refine fg_isubN (fg_ft (pc := 42) tb_Mo_toldOf 27 rfl) (by omega) ?_
      refine fg_icmp_leN (tgt := 56) (fg_ft (pc := 43) tb_Mo_toldOf 28 rfl) (by decide) (by omega) (by omega) (fun c43 => ?_) (fun c43 => ?_)
      · refine fg_aloadn (fg_ft (pc := 56) tb_Mo_toldOf 35 rfl) rfl ?_
        refine fg_getR (fg_ft (pc := 57) tb_Mo_toldOf 36 rfl) ff_Mo_42 ly_287 rfl (fg_lt ly_287 (by decide)) (rh_287_23 R) ?_
        refine fg_iloadn (fg_ft (pc := 60) tb_Mo_toldOf 37 rfl) rfl ?_
        refine fg_ialdV (v := (nI (B.2.2.2.1 (fg_anc B k n)))) (fg_ft (pc := 61) tb_Mo_toldOf 38 rfl) ly_297 (fg_lt ly_297 (by decide)) (by omega) ((hS.2.1 _ ha).2.2.2 h0).2 ?_
        exact fg_iret (fg_ft (pc := 62) tb_Mo_toldOf 39 rfl) rfl rfl (by rw [fg_tellI hi hfk, show fg_rowt B k i = B.2.2.2.1 (fg_anc B k n) by unfold fg_rowt; rw [show B.2.2.2.2 k - 1 - i = n by omega]] at hQ; exact hQ)
      · refine fg_aloadn (fg_ft (pc := 46) tb_Mo_toldOf 29 rfl) rfl ?_
        refine fg_getR (fg_ft (pc := 47) tb_Mo_toldOf 30 rfl) ff_Mo_39 ly_287 rfl (fg_lt ly_287 (by decide)) (rh_287_22 R) ?_
        refine fg_iloadn (fg_ft (pc := 50) tb_Mo_toldOf 31 rfl) rfl ?_
        refine fg_ialdV (v := (nI (fg_anc B k (n + 1)))) (fg_ft (pc := 51) tb_Mo_toldOf 32 rfl) ly_296 (fg_lt ly_296 (by decide)) (by omega) ((hS.2.1 _ ha).2.2.2 h0).1 ?_
        refine fg_istoren (fg_ft (pc := 52) tb_Mo_toldOf 33 rfl) (Nat.le_of_ble_eq_true rfl) ?_
        refine fg_goto (tgt := 33) (fg_ft (pc := 53) tb_Mo_toldOf 34 rfl) (by decide) ?_
        exact ih (n + 1) (by omega) (by omega)
  refine fg_intro (by decide +kernel) (Nat.le_of_ble_eq_true rfl) (fg_okAs rfl) (Nat.le_refl _) ?_
  refine fg_iloadn (fg_ft (pc := 0) tb_Mo_toldOf 0 rfl) rfl ?_
  refine fg_if_neN (tgt := 11) (fg_ft (pc := 1) tb_Mo_toldOf 1 rfl) (by decide) (by omega) (fun c1 => ?_) (fun c1 => (absurd c1 (by omega)))
  refine fg_iloadn (fg_ft (pc := 11) tb_Mo_toldOf 7 rfl) rfl ?_
  refine fg_bipush (fg_ft (pc := 12) tb_Mo_toldOf 8 rfl) ib_10 ?_
  refine fg_bipush (fg_ft (pc := 14) tb_Mo_toldOf 9 rfl) ib_9 ?_
  refine fg_aloadn (fg_ft (pc := 16) tb_Mo_toldOf 10 rfl) rfl ?_
  refine fg_getR (fg_ft (pc := 17) tb_Mo_toldOf 11 rfl) ff_Mo_45 ly_287 rfl (fg_lt ly_287 (by decide)) (rh_287_24 R) ?_
  refine fg_iloadn (fg_ft (pc := 20) tb_Mo_toldOf 12 rfl) rfl ?_
  refine fg_ialdV (v := (nI (B.2.2.2.2 k))) (fg_ft (pc := 21) tb_Mo_toldOf 13 rfl) ly_298 (fg_lt ly_298 (by decide)) (by omega) (hS.2.1 _ (by omega)).2.1 ?_
  refine fg_iaddN (fg_ft (pc := 22) tb_Mo_toldOf 14 rfl) ?_
  refine fg_callS (fg_ft (pc := 23) tb_Mo_toldOf 15 rfl) cf_Mo_110 (as := [.int (nI (10 + i)), .int (nI 10), .int (nI (9 + (B.2.2.2.2 k)))]) (st := []) rfl rfl (Nat.le_of_ble_eq_true rfl) (Nat.le_refl _) (Nat.le_refl _) (ev_Mo_isInC (k := (10 + i)) (a := 10) (b := (9 + (B.2.2.2.2 k))) (Nat.lt_trans (show _ < 2 ^ 31 from by omega) (by decide)) (by omega) (by omega) ?_)
  refine fg_ifB_ne (tgt := 31) (fg_ft (pc := 26) tb_Mo_toldOf 16 rfl) (by decide) (fun c26 => ?_) (fun c26 => (absurd ⟨by omega, by omega⟩ c26))
  refine fg_iloadn (fg_ft (pc := 31) tb_Mo_toldOf 19 rfl) rfl ?_
  refine fg_istoren (fg_ft (pc := 32) tb_Mo_toldOf 20 rfl) (Nat.le_of_ble_eq_true rfl) ?_
  exact loop (B.2.2.2.2 k + 1) 0 (by omega) (by omega)
theorem ev_Mo_toldOf {E : fg_E} {d : Nat} {μ : Nat → Nat → Int32} {R : fg_T4} {Q : Option Value → fg_M → Prop} {w : Nat} {B : fg_BQ} {k : Nat} (hw : w ≤ 10) (hB : fg_bok w B) (hk : k < B.1) (hS : fg_LR μ B) {x : Int32} (hQ : Q (some (.int (fg_tell B k x))) (μ, fg_rho R, 304)) : fg_Ev E yy_Mo_toldOf (d + 2) [.ref 287, .int (nI k), .int x] (μ, fg_rho R, 304) 304 Q := by
  rcases Classical.em (x = 0) with h0 | h0
  · subst h0
    exact ev_Mo_toldOf0 hw hB hk hS hQ
  · rcases Classical.em (∃ i, i < B.2.2.2.2 k ∧ x = nI (10 + i)) with h1 | h1
    · obtain ⟨i, hi, rfl⟩ := h1
      exact ev_Mo_toldOfI hw hB hk hS hi hQ
    · exact ev_Mo_toldOfOut hw hB hk hS h0 h1 hQ
theorem ev_Mo_bestInLine {E : fg_E} {d : Nat} {μ : Nat → Nat → Int32} {R : fg_T4} {Q : Option Value → fg_M → Prop} {v : Nat} {T : Nat → Nat} (hM : fg_MT (μ 288) v T) (hok : fg_ok T) {B : fg_BQ} (hB : fg_bok (T 0) B) (hS : fg_LR μ B) (hQ : Q (some (.int (nI (fg_bk T B B.1)))) (μ, fg_rho R, 304)) : fg_Ev E yy_Mo_bestInLine (d + 4) [.ref 287, .int (nI v)] (μ, fg_rho R, 304) 304 Q := by
  have hv0 := hM.1
  have hb0 := hok.1
  have hb1 := hok.2.1
  have hp := hok.p
  have hq := Nat.two_pow_pos (T 0)
  have hlen := fg_bok_len hB hok.1.2
  have h0B := hB.2.2.2.1
  have hlt : ∀ i, i < B.1 → B.2.1 i < 1024 := fun i hi => fg_p10 (hB.1 i hi) hok.1.2
  have loop : ∀ (m j : Nat), B.1 - j < m → 0 < j → j ≤ B.1 → fg_wp E yy_Mo_bestInLine (d + 4) 304 304 Q 4 [.ref 287, .int (nI v), .int (nI (fg_bk T B j)), .int (nI j)] [] (μ, fg_rho R, 304) := by
    intro m
    induction m with
    | zero => intro j h; exact absurd h (Nat.not_lt_zero _)
    | succ m ih =>
      intro j hm hj0 hj
      have hbk := fg_bk_lt (T := T) (B := B) j hj0
      refine fg_iloadn (fg_ft (pc := 4) tb_Mo_bestInLine 4 rfl) rfl ?_
      refine fg_aloadn (fg_ft (pc := 5) tb_Mo_bestInLine 5 rfl) rfl ?_
      refine fg_getV (v := (nI (B.1))) (fg_ft (pc := 6) tb_Mo_bestInLine 6 rfl) ff_Mo_276 ly_287 rfl (fg_lt ly_287 (by decide)) hS.1 ?_
      refine fg_icmp_geN (tgt := 49) (fg_ft (pc := 9) tb_Mo_bestInLine 7 rfl) (by decide) (by omega) (by omega) (fun c9 => ?_) (fun c9 => ?_)
      · refine fg_iloadn (fg_ft (pc := 49) tb_Mo_bestInLine 29 rfl) rfl ?_
        exact fg_iret (fg_ft (pc := 50) tb_Mo_bestInLine 30 rfl) rfl rfl (by rw [show B.1 = j by omega] at hQ; exact hQ)
      · refine fg_aloadn (fg_ft (pc := 12) tb_Mo_bestInLine 8 rfl) rfl ?_
        refine fg_iloadn (fg_ft (pc := 13) tb_Mo_bestInLine 9 rfl) rfl ?_
        refine fg_aloadn (fg_ft (pc := 14) tb_Mo_bestInLine 10 rfl) rfl ?_
        refine fg_getR (fg_ft (pc := 15) tb_Mo_bestInLine 11 rfl) ff_Mo_36 ly_287 rfl (fg_lt ly_287 (by decide)) (rh_287_21 R) ?_
        refine fg_iloadn (fg_ft (pc := 18) tb_Mo_bestInLine 12 rfl) rfl ?_
        refine fg_ialdV (v := (nI (B.2.1 j))) (fg_ft (pc := 19) tb_Mo_bestInLine 13 rfl) ly_295 (fg_lt ly_295 (by decide)) (by omega) (hS.2.1 _ (by omega)).1 ?_
        refine fg_callV (fg_ft (pc := 20) tb_Mo_bestInLine 14 rfl) cf_Mo_266 (fg_isOf ly_287 rfl (fg_lt ly_287 (by decide))) (as := [.int (nI v), .int (nI (B.2.1 j))]) (st := []) rfl rfl (Nat.le_of_ble_eq_true rfl) (Nat.le_refl _) (Nat.le_refl _) (ev_Mo_worthOf hM hok (m := (B.2.1 j)) (hlt j (by omega)) ?_)
        refine fg_aloadn (fg_ft (pc := 23) tb_Mo_bestInLine 15 rfl) rfl ?_
        refine fg_iloadn (fg_ft (pc := 24) tb_Mo_bestInLine 16 rfl) rfl ?_
        refine fg_aloadn (fg_ft (pc := 25) tb_Mo_bestInLine 17 rfl) rfl ?_
        refine fg_getR (fg_ft (pc := 26) tb_Mo_bestInLine 18 rfl) ff_Mo_36 ly_287 rfl (fg_lt ly_287 (by decide)) (rh_287_21 R) ?_
        refine fg_iloadn (fg_ft (pc := 29) tb_Mo_bestInLine 19 rfl) rfl ?_
        refine fg_ialdV (v := (nI (B.2.1 (fg_bk T B j)))) (fg_ft (pc := 30) tb_Mo_bestInLine 20 rfl) ly_295 (fg_lt ly_295 (by decide)) (by omega) (hS.2.1 _ (by omega)).1 ?_
        refine fg_callV (fg_ft (pc := 31) tb_Mo_bestInLine 21 rfl) cf_Mo_266 (fg_isOf ly_287 rfl (fg_lt ly_287 (by decide))) (as := [.int (nI v), .int (nI (B.2.1 (fg_bk T B j)))]) (st := [.int (fg_w T (B.2.1 j))]) rfl rfl (Nat.le_of_ble_eq_true rfl) (Nat.le_refl _) (Nat.le_refl _) (ev_Mo_worthOf hM hok (m := (B.2.1 (fg_bk T B j))) (hlt _ (by omega)) ?_)
        refine fg_icmp_le (tgt := 41) (fg_ft (pc := 34) tb_Mo_bestInLine 22 rfl) (by decide) (fun c34 => ?_) (fun c34 => ?_)
        · refine fg_iloadn (fg_ft (pc := 41) tb_Mo_bestInLine 25 rfl) rfl ?_
          refine fg_istoren (fg_ft (pc := 42) tb_Mo_bestInLine 26 rfl) (Nat.le_of_ble_eq_true rfl) ?_
          refine fg_iincN (fg_ft (pc := 43) tb_Mo_bestInLine 27 rfl) rfl ic_1 rfl ?_
          refine fg_goto (tgt := 4) (fg_ft (pc := 46) tb_Mo_bestInLine 28 rfl) (by decide) ?_
          have q9 := ih (j + 1) (by omega) (by omega) (by omega)
          rw [show fg_bk T B (j + 1) = fg_bk T B j from if_neg (Int32.not_lt.mpr c34)] at q9
          exact q9
        · refine fg_iloadn (fg_ft (pc := 37) tb_Mo_bestInLine 23 rfl) rfl ?_
          refine fg_goto (tgt := 42) (fg_ft (pc := 38) tb_Mo_bestInLine 24 rfl) (by decide) ?_
          refine fg_istoren (fg_ft (pc := 42) tb_Mo_bestInLine 26 rfl) (Nat.le_of_ble_eq_true rfl) ?_
          refine fg_iincN (fg_ft (pc := 43) tb_Mo_bestInLine 27 rfl) rfl ic_1 rfl ?_
          refine fg_goto (tgt := 4) (fg_ft (pc := 46) tb_Mo_bestInLine 28 rfl) (by decide) ?_
          have q9 := ih (j + 1) (by omega) (by omega) (by omega)
          rw [show fg_bk T B (j + 1) = j from if_pos (Int32.not_le.mp c34)] at q9
          exact q9
  refine fg_intro (by decide +kernel) (Nat.le_of_ble_eq_true rfl) (fg_okAs rfl) (Nat.le_refl _) ?_
  refine fg_iconst (fg_ft (pc := 0) tb_Mo_bestInLine 0 rfl) ic_0 ?_
  refine fg_istoren (fg_ft (pc := 1) tb_Mo_bestInLine 1 rfl) (Nat.le_of_ble_eq_true rfl) ?_
  refine fg_iconst (fg_ft (pc := 2) tb_Mo_bestInLine 2 rfl) ic_1 ?_
  refine fg_istoren (fg_ft (pc := 3) tb_Mo_bestInLine 3 rfl) (Nat.le_of_ble_eq_true rfl) ?_
  have q9 := loop (B.1 + 1) 1 (by omega) (by omega) (by omega)
  rw [show fg_bk T B 1 = 0 by show (if fg_w T (B.2.1 (fg_bk T B 0)) < fg_w T (B.2.1 0) then 0 else fg_bk T B 0) = 0; (split <;> rfl)] at q9
  exact q9
