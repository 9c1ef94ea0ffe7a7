/-! the reference's search -/
def fg_LR (μ : Nat → Nat → Int32) (B : fg_BQ) : Prop := μ 287 26 = nI B.1 ∧ (∀ i, i < B.1 → μ 295 i = nI (B.2.1 i) ∧ μ 298 i = nI (B.2.2.2.2 i) ∧ μ 299 (B.2.1 i) = nI 1 ∧ (0 < i → μ 296 i = nI (B.2.2.1 i) ∧ μ 297 i = nI (B.2.2.2.1 i))) ∧ ∀ m, m < 1024 → (∀ i, i < B.1 → B.2.1 i ≠ m) → μ 299 m = nI 0
def fg_agL (μ μ' : Nat → Nat → Int32) : Prop := (∀ a, (a < 287 ∨ (287 < a ∧ a < 295) ∨ 299 < a) → ∀ j, μ' a j = μ a j) ∧ ∀ j, j ≠ 26 → μ' 287 j = μ 287 j
theorem fg_agL_rf (μ : Nat → Nat → Int32) : fg_agL μ μ := ⟨fun _ _ _ => rfl, fun _ _ => rfl⟩
theorem fg_agL_tr {μ μ' μ'' : Nat → Nat → Int32} (h1 : fg_agL μ μ') (h2 : fg_agL μ' μ'') : fg_agL μ μ'' := ⟨fun a ha j => (h2.1 a ha j).trans (h1.1 a ha j), fun j hj => (h2.2 j hj).trans (h1.2 j hj)⟩
theorem fg_agL_u {μ : Nat → Nat → Int32} {a k : Nat} {x : Int32} (h : (295 ≤ a ∧ a ≤ 299) ∨ (a = 287 ∧ k = 26)) : fg_agL μ (fg_u2 μ a k x) := ⟨fun b hb j => fg_u2ne (by omega), fun j hj => fg_u2nx (by omega)⟩
theorem fg_agR_L {μ μ' : Nat → Nat → Int32} (h : fg_agL μ μ') : fg_agR μ μ' := ⟨fun a ha j => h.1 a (by omega) j, h.2 17 (by decide), h.2 19 (by decide)⟩
theorem fg_MT.agL {μ μ' : Nat → Nat → Int32} {v : Nat} {T : Nat → Nat} (h : fg_MT (μ 288) v T) (e : fg_agL μ μ') : fg_MT (μ' 288) v T := h.ag (e.1 288 (by decide))
theorem fg_MC.agL {μ μ' : Nat → Nat → Int32} {T : Nat → Nat} (h : fg_MC μ T) (e : fg_agL μ μ') : fg_MC μ' T := h.ag (e.1 291 (by decide))
theorem fg_MS.agL {μ μ' : Nat → Nat → Int32} {T : Nat → Nat} {S : fg_H3} {lv : Nat → Nat} {o : Option Nat × Nat × Nat} {n0 y : Int32} (H : fg_MS μ T S lv o n0 y) (e : fg_agL μ μ') : fg_MS μ' T S lv o n0 y := by
  obtain ⟨h1, h2, h3, h4, h5, h6, h7, h8, h9⟩ := H
  have e7 := e.2
  exact ⟨(e7 _ (by decide)).trans h1, fun q hq => (e.1 292 (by decide) _).trans (h2 q hq), fun q hq => (e.1 293 (by decide) _).trans (h3 q hq), fun q hq => (e.1 294 (by decide) _).trans (h4 q hq), (e7 _ (by decide)).trans h5, (e7 _ (by decide)).trans h6, (e7 _ (by decide)).trans h7, h8.elim Or.inl (fun z => Or.inr ((e7 _ (by decide)).trans z)), (e7 _ (by decide)).trans h9⟩
theorem fg_LR.fr {μ μ' : Nat → Nat → Int32} {B : fg_BQ} (h : fg_LR μ B) (e : ∀ a, 295 ≤ a → a ≤ 299 → ∀ j, μ' a j = μ a j) (e2 : μ' 287 26 = μ 287 26) : fg_LR μ' B := by
  obtain ⟨h1, h2, h3⟩ := h
  exact ⟨e2.trans h1, fun i hi => ⟨(e _ (by decide) (by decide) _).trans (h2 i hi).1, (e _ (by decide) (by decide) _).trans (h2 i hi).2.1, (e _ (by decide) (by decide) _).trans (h2 i hi).2.2.1, fun g => ⟨(e _ (by decide) (by decide) _).trans ((h2 i hi).2.2.2 g).1, (e _ (by decide) (by decide) _).trans ((h2 i hi).2.2.2 g).2⟩⟩, fun m hm g => (e _ (by decide) (by decide) _).trans (h3 m hm g)⟩
theorem fg_inRow {x : Int32} {far : Nat} (hf : far ≤ 1023) : (nI 10 ≤ x ∧ x ≤ nI (9 + far)) ↔ ∃ i, i < far ∧ x = nI (10 + i) := by
  constructor
  · intro ⟨h1, h2⟩
    obtain ⟨j, hj, rfl⟩ := nI_of (x := x) (fun h9 => by
      rw [Int32.le_iff_toInt_le] at h1
      rw [fg_ltI] at h9
      have h10 : (nI 10).toInt = 10 := rfl
      have h11 : (0 : Int32).toInt = 0 := rfl
      omega)
    have h3 := (fg_isInC (Nat.lt_trans hj (by decide)) (by decide) (by omega)).mp ⟨h1, h2⟩
    exact ⟨j - 10, by omega, by rw [show 10 + (j - 10) = j by omega]⟩
  · intro ⟨i, hi, e⟩
    subst e
    exact (fg_isInC (by omega) (by decide) (by omega)).mpr ⟨by omega, by omega⟩
/-! any number of loaves above ten is the same -/
theorem fg_bput_wt {B : fg_BQ} {m a f r : Nat} (h : ∀ i, i < B.1 → B.2.2.2.2 i + fg_pc (B.2.1 i) ≤ 10) (hr : r + fg_pc m ≤ 10) : ∀ i, i < (fg_bput B m a f r).1 → (fg_bput B m a f r).2.2.2.2 i + fg_pc ((fg_bput B m a f r).2.1 i) ≤ 10 := by
  rcases Classical.em (∃ i, i < B.1 ∧ B.2.1 i = m) with g | g
  · rw [fg_bput_old g]; exact h
  · rw [fg_bput_new g]
    intro i hi
    have hi : i < B.1 + 1 := hi
    show fg_up1 B.2.2.2.2 B.1 r i + fg_pc (fg_up1 B.2.1 B.1 m i) ≤ 10
    rcases Nat.decEq i B.1 with e | e
    · rw [fg_up1_ne e, fg_up1_ne e]; exact h i (by omega)
    · rw [e, fg_up1_eq, fg_up1_eq]; exact hr
theorem fg_bex_wt {T : Nat → Nat} (hok : fg_ok T) {B : fg_BQ} {k : Nat} (hk : k < B.1) (hlt : B.2.1 k < 4096) (h : ∀ i, i < B.1 → B.2.2.2.2 i + fg_pc (B.2.1 i) ≤ 10) : ∀ n, ∀ i, i < (fg_bex T B k n).1 → (fg_bex T B k n).2.2.2.2 i + fg_pc ((fg_bex T B k n).2.1 i) ≤ 10 := by
  intro n
  induction n with
  | zero => exact h
  | succ n ih =>
    simp only [fg_bex]
    split
    · rename_i hb
      refine fg_bput_wt ih ?_
      have h1 := (fg_lst_some hok (B.2.1 k) n).2
      have h2 : fg_pc (fg_lst T (B.2.1 k) n) < fg_pc (B.2.1 k) := fg_pc_lt2 h1.1 hlt (fun e => by
        have h3 := h1.2.1
        rw [e] at h3
        have h4 : (B.2.1 k &&& 2 ^ n).testBit n = true := by rw [Nat.testBit_and, hb, Nat.testBit_two_pow_self]; rfl
        rw [h3, Nat.zero_testBit] at h4
        exact Bool.noConfusion h4)
      have := h k hk
      omega
    · exact ih
theorem fg_bex_z {T : Nat → Nat} {B : fg_BQ} {k n0 : Nat} (h : ∀ n, n0 ≤ n → ¬ (B.2.1 k).testBit n = true) : ∀ n, fg_bex T B k (n0 + n) = fg_bex T B k n0 := by
  intro n
  induction n with
  | zero => rfl
  | succ n ih =>
    show (if (B.2.1 k).testBit (n0 + n) = true then _ else fg_bex T B k (n0 + n)) = _
    rw [if_neg (h _ (by omega)), ih]
theorem fg_bfs_wt {T : Nat → Nat} (hok : fg_ok T) {m mst : Nat} (hm : m < 2 ^ T 0) : ∀ k, ∀ i, i < (fg_bfs T m mst k).1 → (fg_bfs T m mst k).2.2.2.2 i + fg_pc ((fg_bfs T m mst k).2.1 i) ≤ 10 := by
  have h10 : 2 ^ T 0 ≤ 1024 := Nat.pow_le_pow_right (n := 2) (j := 10) (by decide) hok.1.2
  intro k
  induction k with
  | zero =>
    intro i hi
    show 0 + fg_pc m ≤ 10
    rw [Nat.zero_add]
    have h1 : fg_pc m = fg_pcw 10 m := fg_pcw_hi (m := m) (k := 10) (by omega) 2
    rw [h1]
    exact fg_pcw_le 10 m
  | succ k ih =>
    simp only [fg_bfs]
    split
    · rename_i hh
      exact fg_bex_wt hok hh.1 (by have := (fg_bfs_ok hok hm (mst := mst) k).1 k hh.1; omega) ih 10
    · exact ih
theorem fg_bfs_most {T : Nat → Nat} (hok : fg_ok T) {m mst : Nat} (hm : m < 2 ^ T 0) (h10 : 10 ≤ mst) : ∀ k, fg_bfs T m mst k = fg_bfs T m 10 k := by
  have hp : 2 ^ T 0 ≤ 1024 := Nat.pow_le_pow_right (n := 2) (j := 10) (by decide) hok.1.2
  intro k
  induction k with
  | zero => rfl
  | succ k ih =>
    show (if k < (fg_bfs T m mst k).1 ∧ (fg_bfs T m mst k).2.2.2.2 k < mst then fg_bex T (fg_bfs T m mst k) k 10 else fg_bfs T m mst k) = (if k < (fg_bfs T m 10 k).1 ∧ (fg_bfs T m 10 k).2.2.2.2 k < 10 then fg_bex T (fg_bfs T m 10 k) k 10 else fg_bfs T m 10 k)
    rw [ih]
    rcases Nat.lt_or_ge k (fg_bfs T m 10 k).1 with g | g
    · have hw := fg_bfs_wt hok hm (mst := 10) k k g
      have hl := (fg_bfs_ok hok hm (mst := 10) k).1 k g
      by_cases c : (fg_bfs T m 10 k).2.2.2.2 k < 10
      · rw [if_pos ⟨g, by omega⟩, if_pos ⟨g, c⟩]
      · rw [if_neg (fun hh : _ ∧ _ => c hh.2)]
        split
        · have hz : (fg_bfs T m 10 k).2.1 k = 0 := by
            rcases Nat.decEq ((fg_bfs T m 10 k).2.1 k) 0 with e | e
            · have := fg_pc_lt2 (a := 0) (b := (fg_bfs T m 10 k).2.1 k) (fun i hi => by rw [Nat.zero_testBit] at hi; exact Bool.noConfusion hi) (by omega) (fun ee => e ee.symm)
              omega
            · exact e
          have := fg_bex_z (T := T) (B := fg_bfs T m 10 k) (k := k) (n0 := 0) (fun n _ => by rw [hz, Nat.zero_testBit]; decide) 10
          rw [Nat.zero_add] at this
          exact this
        · rfl
    · rw [if_neg (fun hh : _ ∧ _ => by have := hh.1; omega), if_neg (fun hh : _ ∧ _ => by have := hh.1; omega)]
theorem fg_BF_most {T : Nat → Nat} (hok : fg_ok T) {m mst : Nat} (hm : m < 2 ^ T 0) (h10 : 10 ≤ mst) : fg_BF T m mst = fg_BF T m 10 := by
  rw [fg_BF_eq, fg_BF_eq, fg_bfs_most hok hm h10]
theorem ev_Mo_comes0 {E : fg_E} {d : Nat} {μ : Nat → Nat → Int32} {R : fg_T4} {Q : Option Value → fg_M → Prop} {m : Nat} (hm : m < 1024) (h26 : μ 287 26 = nI 0) (h299 : ∀ j, j < 1024 → μ 299 j = nI 0) (hQ : ∀ μ' : Nat → Nat → Int32, fg_agL μ μ' → fg_LR μ' (fg_b0 m) → Q none (μ', fg_rho R, 304)) : fg_Ev E yy_Mo_comes (d + 1) [.ref 287, .int (nI m), .int (-1), .int (-1)] (μ, fg_rho R, 304) 304 Q := by
  refine fg_intro (by decide +kernel) (Nat.le_of_ble_eq_true rfl) (fg_okAs rfl) (Nat.le_refl _) ?_
  refine fg_aloadn (fg_ft (pc := 0) tb_Mo_comes 0 rfl) rfl ?_
  refine fg_getR (fg_ft (pc := 1) tb_Mo_comes 1 rfl) ff_Mo_48 ly_287 rfl (fg_lt ly_287 (by decide)) (rh_287_25 R) ?_
  refine fg_iloadn (fg_ft (pc := 4) tb_Mo_comes 2 rfl) rfl ?_
  refine fg_ialdV (v := (nI 0)) (fg_ft (pc := 5) tb_Mo_comes 3 rfl) ly_299 (fg_lt ly_299 (by decide)) (by omega) (h299 _ hm) ?_
  refine fg_iconst (fg_ft (pc := 6) tb_Mo_comes 4 rfl) ic_1 ?_
  refine fg_icmp_neN (tgt := 11) (fg_ft (pc := 7) tb_Mo_comes 5 rfl) (by decide) (by decide) (by decide) (fun c7 => ?_) (fun c7 => (absurd c7 (by decide)))
  refine fg_aloadn (fg_ft (pc := 11) tb_Mo_comes 7 rfl) rfl ?_
  refine fg_getR (fg_ft (pc := 12) tb_Mo_comes 8 rfl) ff_Mo_48 ly_287 rfl (fg_lt ly_287 (by decide)) (rh_287_25 R) ?_
  refine fg_iloadn (fg_ft (pc := 15) tb_Mo_comes 9 rfl) rfl ?_
  refine fg_iconst (fg_ft (pc := 16) tb_Mo_comes 10 rfl) ic_1 ?_
  refine fg_iastN (fg_ft (pc := 17) tb_Mo_comes 11 rfl) ly_299 (fg_lt ly_299 (by decide)) (by omega) ?_
  show fg_wp _ _ _ _ _ _ _ _ _ (fg_u2 μ 299 m (nI 1), fg_rho R, 304)
  refine fg_aloadn (fg_ft (pc := 18) tb_Mo_comes 12 rfl) rfl ?_
  refine fg_getR (fg_ft (pc := 19) tb_Mo_comes 13 rfl) ff_Mo_36 ly_287 rfl (fg_lt ly_287 (by decide)) (rh_287_21 R) ?_
  refine fg_aloadn (fg_ft (pc := 22) tb_Mo_comes 14 rfl) rfl ?_
  refine fg_getV (v := (nI 0)) (fg_ft (pc := 23) tb_Mo_comes 15 rfl) ff_Mo_276 ly_287 rfl (fg_lt ly_287 (by decide)) ((fg_u2ne (f := μ) (a := 299) (k := m) (b := 287) (j := 26) (x := (nI 1)) (by decide)).trans h26) ?_
  refine fg_iloadn (fg_ft (pc := 26) tb_Mo_comes 16 rfl) rfl ?_
  refine fg_iastN (fg_ft (pc := 27) tb_Mo_comes 17 rfl) ly_295 (fg_lt ly_295 (by decide)) (by omega) ?_
  show fg_wp _ _ _ _ _ _ _ _ _ (fg_u2 (fg_u2 μ 299 m (nI 1)) 295 0 (nI m), fg_rho R, 304)
  refine fg_aloadn (fg_ft (pc := 28) tb_Mo_comes 18 rfl) rfl ?_
  refine fg_getR (fg_ft (pc := 29) tb_Mo_comes 19 rfl) ff_Mo_39 ly_287 rfl (fg_lt ly_287 (by decide)) (rh_287_22 R) ?_
  refine fg_aloadn (fg_ft (pc := 32) tb_Mo_comes 20 rfl) rfl ?_
  refine fg_getV (v := (nI 0)) (fg_ft (pc := 33) tb_Mo_comes 21 rfl) ff_Mo_276 ly_287 rfl (fg_lt ly_287 (by decide)) ((fg_u2ne (f := (fg_u2 μ 299 m (nI 1))) (a := 295) (k := 0) (b := 287) (j := 26) (x := (nI m)) (by decide)).trans ((fg_u2ne (f := μ) (a := 299) (k := m) (b := 287) (j := 26) (x := (nI 1)) (by decide)).trans h26)) ?_
  refine fg_iloadn (fg_ft (pc := 36) tb_Mo_comes 22 rfl) rfl ?_
  refine fg_iastN (fg_ft (pc := 37) tb_Mo_comes 23 rfl) ly_296 (fg_lt ly_296 (by decide)) (by omega) ?_
  show fg_wp _ _ _ _ _ _ _ _ _ (fg_u2 (fg_u2 (fg_u2 μ 299 m (nI 1)) 295 0 (nI m)) 296 0 (-1), fg_rho R, 304)
  refine fg_aloadn (fg_ft (pc := 38) tb_Mo_comes 24 rfl) rfl ?_
  refine fg_getR (fg_ft (pc := 39) tb_Mo_comes 25 rfl) ff_Mo_42 ly_287 rfl (fg_lt ly_287 (by decide)) (rh_287_23 R) ?_
  refine fg_aloadn (fg_ft (pc := 42) tb_Mo_comes 26 rfl) rfl ?_
  refine fg_getV (v := (nI 0)) (fg_ft (pc := 43) tb_Mo_comes 27 rfl) ff_Mo_276 ly_287 rfl (fg_lt ly_287 (by decide)) ((fg_u2ne (f := (fg_u2 (fg_u2 μ 299 m (nI 1)) 295 0 (nI m))) (a := 296) (k := 0) (b := 287) (j := 26) (x := (-1)) (by decide)).trans ((fg_u2ne (f := (fg_u2 μ 299 m (nI 1))) (a := 295) (k := 0) (b := 287) (j := 26) (x := (nI m)) (by decide)).trans ((fg_u2ne (f := μ) (a := 299) (k := m) (b := 287) (j := 26) (x := (nI 1)) (by decide)).trans h26))) ?_
  refine fg_iloadn (fg_ft (pc := 46) tb_Mo_comes 28 rfl) rfl ?_
  refine fg_iastN (fg_ft (pc := 47) tb_Mo_comes 29 rfl) ly_297 (fg_lt ly_297 (by decide)) (by omega) ?_
  show fg_wp _ _ _ _ _ _ _ _ _ (fg_u2 (fg_u2 (fg_u2 (fg_u2 μ 299 m (nI 1)) 295 0 (nI m)) 296 0 (-1)) 297 0 (-1), fg_rho R, 304)
  refine fg_aloadn (fg_ft (pc := 48) tb_Mo_comes 30 rfl) rfl ?_
  refine fg_getR (fg_ft (pc := 49) tb_Mo_comes 31 rfl) ff_Mo_45 ly_287 rfl (fg_lt ly_287 (by decide)) (rh_287_24 R) ?_
  refine fg_aloadn (fg_ft (pc := 52) tb_Mo_comes 32 rfl) rfl ?_
  refine fg_getV (v := (nI 0)) (fg_ft (pc := 53) tb_Mo_comes 33 rfl) ff_Mo_276 ly_287 rfl (fg_lt ly_287 (by decide)) ((fg_u2ne (f := (fg_u2 (fg_u2 (fg_u2 μ 299 m (nI 1)) 295 0 (nI m)) 296 0 (-1))) (a := 297) (k := 0) (b := 287) (j := 26) (x := (-1)) (by decide)).trans ((fg_u2ne (f := (fg_u2 (fg_u2 μ 299 m (nI 1)) 295 0 (nI m))) (a := 296) (k := 0) (b := 287) (j := 26) (x := (-1)) (by decide)).trans ((fg_u2ne (f := (fg_u2 μ 299 m (nI 1))) (a := 295) (k := 0) (b := 287) (j := 26) (x := (nI m)) (by decide)).trans ((fg_u2ne (f := μ) (a := 299) (k := m) (b := 287) (j := 26) (x := (nI 1)) (by decide)).trans h26)))) ?_
  refine fg_iloadn (fg_ft (pc := 56) tb_Mo_comes 34 rfl) rfl ?_
  refine fg_if_ge (tgt := 64) (fg_ft (pc := 57) tb_Mo_comes 35 rfl) (by decide) (fun c57 => (absurd c57 (by decide))) (fun c57 => ?_)
  refine fg_iconst (fg_ft (pc := 60) tb_Mo_comes 36 rfl) ic_0 ?_
  refine fg_goto (tgt := 72) (fg_ft (pc := 61) tb_Mo_comes 37 rfl) (by decide) ?_
  refine fg_iastN (fg_ft (pc := 72) tb_Mo_comes 44 rfl) ly_298 (fg_lt ly_298 (by decide)) (by omega) ?_
  show fg_wp _ _ _ _ _ _ _ _ _ (fg_u2 (fg_u2 (fg_u2 (fg_u2 (fg_u2 μ 299 m (nI 1)) 295 0 (nI m)) 296 0 (-1)) 297 0 (-1)) 298 0 (nI 0), fg_rho R, 304)
  refine fg_aloadn (fg_ft (pc := 73) tb_Mo_comes 45 rfl) rfl ?_
  refine fg_dup (fg_ft (pc := 74) tb_Mo_comes 46 rfl) rfl ?_
  refine fg_getV (v := (nI 0)) (fg_ft (pc := 75) tb_Mo_comes 47 rfl) ff_Mo_276 ly_287 rfl (fg_lt ly_287 (by decide)) ((fg_u2ne (f := (fg_u2 (fg_u2 (fg_u2 (fg_u2 μ 299 m (nI 1)) 295 0 (nI m)) 296 0 (-1)) 297 0 (-1))) (a := 298) (k := 0) (b := 287) (j := 26) (x := (nI 0)) (by decide)).trans ((fg_u2ne (f := (fg_u2 (fg_u2 (fg_u2 μ 299 m (nI 1)) 295 0 (nI m)) 296 0 (-1))) (a := 297) (k := 0) (b := 287) (j := 26) (x := (-1)) (by decide)).trans ((fg_u2ne (f := (fg_u2 (fg_u2 μ 299 m (nI 1)) 295 0 (nI m))) (a := 296) (k := 0) (b := 287) (j := 26) (x := (-1)) (by decide)).trans ((fg_u2ne (f := (fg_u2 μ 299 m (nI 1))) (a := 295) (k := 0) (b := 287) (j := 26) (x := (nI m)) (by decide)).trans ((fg_u2ne (f := μ) (a := 299) (k := m) (b := 287) (j := 26) (x := (nI 1)) (by decide)).trans h26))))) ?_
  refine fg_iconst (fg_ft (pc := 78) tb_Mo_comes 48 rfl) ic_1 ?_
  refine fg_iaddN (fg_ft (pc := 79) tb_Mo_comes 49 rfl) ?_
  refine fg_putI (fg_ft (pc := 80) tb_Mo_comes 50 rfl) ff_Mo_276 ly_287 rfl (fg_lt ly_287 (by decide)) (fg_nokI _) (fun _ _ h => by cases h; rfl) ?_
  show fg_wp _ _ _ _ _ _ _ _ _ (fg_u2 (fg_u2 (fg_u2 (fg_u2 (fg_u2 (fg_u2 μ 299 m (nI 1)) 295 0 (nI m)) 296 0 (-1)) 297 0 (-1)) 298 0 (nI 0)) 287 26 (nI (0 + 1)), fg_rho R, 304)
  exact fg_vret (fg_ft (pc := 83) tb_Mo_comes 51 rfl) rfl rfl (hQ _ (fg_agL_tr (fg_agL_tr (fg_agL_tr (fg_agL_tr (fg_agL_tr (fg_agL_u (Or.inl (by decide))) (fg_agL_u (Or.inl (by decide)))) (fg_agL_u (Or.inl (by decide)))) (fg_agL_u (Or.inl (by decide)))) (fg_agL_u (Or.inl (by decide)))) (fg_agL_u (Or.inr ⟨rfl, rfl⟩))) ⟨fg_u2eq, fun i hi => by
  have hi : i < 1 := hi
  obtain rfl : i = 0 := by omega
  exact ⟨(fg_u2ne (by decide)).trans ((fg_u2ne (by decide)).trans ((fg_u2ne (by decide)).trans ((fg_u2ne (by decide)).trans fg_u2eq))), (fg_u2ne (by decide)).trans fg_u2eq, (fg_u2ne (by decide)).trans ((fg_u2ne (by decide)).trans ((fg_u2ne (by decide)).trans ((fg_u2ne (by decide)).trans ((fg_u2ne (by decide)).trans fg_u2eq)))), fun g => absurd g (Nat.lt_irrefl 0)⟩, fun m9 hm9 g => (fg_u2ne (by decide)).trans ((fg_u2ne (by decide)).trans ((fg_u2ne (by decide)).trans ((fg_u2ne (by decide)).trans ((fg_u2ne (by decide)).trans ((fg_u2ns (fun ee => g 0 Nat.one_pos ee.symm)).trans (h299 m9 hm9))))))⟩)
theorem ev_Mo_comes {E : fg_E} {d : Nat} {μ : Nat → Nat → Int32} {R : fg_T4} {Q : Option Value → fg_M → Prop} {w : Nat} {B : fg_BQ} {m k n : Nat} (hw : w ≤ 10) (hB : fg_bok w B) (hm : m < 2 ^ w) (hk : k < B.1) (hn : n < 10) (hS : fg_LR μ B) (hQ : ∀ μ' : Nat → Nat → Int32, fg_agL μ μ' → fg_LR μ' (fg_bput B m k n (B.2.2.2.2 k + 1)) → Q none (μ', fg_rho R, 304)) : fg_Ev E yy_Mo_comes (d + 1) [.ref 287, .int (nI m), .int (nI k), .int (nI n)] (μ, fg_rho R, 304) 304 Q := by
  have hlen := fg_bok_len hB hw
  have hkf := fg_bok_far31 hB hw hk
  have hm10 : m < 1024 := fg_p10 hm hw
  rcases Classical.em (∃ i, i < B.1 ∧ B.2.1 i = m) with hold | hold
  · refine fg_intro (by decide +kernel) (Nat.le_of_ble_eq_true rfl) (fg_okAs rfl) (Nat.le_refl _) ?_
    refine fg_aloadn (fg_ft (pc := 0) tb_Mo_comes 0 rfl) rfl ?_
    refine fg_getR (fg_ft (pc := 1) tb_Mo_comes 1 rfl) ff_Mo_48 ly_287 rfl (fg_lt ly_287 (by decide)) (rh_287_25 R) ?_
    refine fg_iloadn (fg_ft (pc := 4) tb_Mo_comes 2 rfl) rfl ?_
    refine fg_ialdV (v := (nI 1)) (fg_ft (pc := 5) tb_Mo_comes 3 rfl) ly_299 (fg_lt ly_299 (by decide)) (by omega) (by obtain ⟨i9, g1, g2⟩ := hold; have := (hS.2.1 i9 g1).2.2.1; rw [g2] at this; exact this) ?_
    refine fg_iconst (fg_ft (pc := 6) tb_Mo_comes 4 rfl) ic_1 ?_
    refine fg_icmp_neN (tgt := 11) (fg_ft (pc := 7) tb_Mo_comes 5 rfl) (by decide) (by decide) (by decide) (fun c7 => (absurd rfl c7)) (fun c7 => ?_)
    exact fg_vret (fg_ft (pc := 10) tb_Mo_comes 6 rfl) rfl rfl (by have q9 := hQ μ (fg_agL_rf μ); rw [fg_bput_old hold] at q9; exact q9 hS)
  · refine fg_intro (by decide +kernel) (Nat.le_of_ble_eq_true rfl) (fg_okAs rfl) (Nat.le_refl _) ?_
    refine fg_aloadn (fg_ft (pc := 0) tb_Mo_comes 0 rfl) rfl ?_
    refine fg_getR (fg_ft (pc := 1) tb_Mo_comes 1 rfl) ff_Mo_48 ly_287 rfl (fg_lt ly_287 (by decide)) (rh_287_25 R) ?_
    refine fg_iloadn (fg_ft (pc := 4) tb_Mo_comes 2 rfl) rfl ?_
    refine fg_ialdV (v := (nI 0)) (fg_ft (pc := 5) tb_Mo_comes 3 rfl) ly_299 (fg_lt ly_299 (by decide)) (by omega) (hS.2.2 m hm10 (fun i9 g1 g2 => hold ⟨i9, g1, g2⟩)) ?_
    refine fg_iconst (fg_ft (pc := 6) tb_Mo_comes 4 rfl) ic_1 ?_
    refine fg_icmp_neN (tgt := 11) (fg_ft (pc := 7) tb_Mo_comes 5 rfl) (by decide) (by decide) (by decide) (fun c7 => ?_) (fun c7 => (absurd c7 (by decide)))
    have hlen2 : B.1 + 1 ≤ 1024 := by
      have := fg_bok_len (fg_bput_ok (r := B.2.2.2.2 k + 1) hB hm hk hn rfl) hw
      rw [fg_bput_new hold] at this
      exact this
    refine fg_aloadn (fg_ft (pc := 11) tb_Mo_comes 7 rfl) rfl ?_
    refine fg_getR (fg_ft (pc := 12) tb_Mo_comes 8 rfl) ff_Mo_48 ly_287 rfl (fg_lt ly_287 (by decide)) (rh_287_25 R) ?_
    refine fg_iloadn (fg_ft (pc := 15) tb_Mo_comes 9 rfl) rfl ?_
    refine fg_iconst (fg_ft (pc := 16) tb_Mo_comes 10 rfl) ic_1 ?_
    refine fg_iastN (fg_ft (pc := 17) tb_Mo_comes 11 rfl) ly_299 (fg_lt ly_299 (by decide)) (by omega) ?_
    show fg_wp _ _ _ _ _ _ _ _ _ (fg_u2 μ 299 m (nI 1), fg_rho R, 304)
    refine fg_aloadn (fg_ft (pc := 18) tb_Mo_comes 12 rfl) rfl ?_
    refine fg_getR (fg_ft (pc := 19) tb_Mo_comes 13 rfl) ff_Mo_36 ly_287 rfl (fg_lt ly_287 (by decide)) (rh_287_21 R) ?_
    refine fg_aloadn (fg_ft (pc := 22) tb_Mo_comes 14 rfl) rfl ?_
    refine fg_getV (v := (nI (B.1))) (fg_ft (pc := 23) tb_Mo_comes 15 rfl) ff_Mo_276 ly_287 rfl (fg_lt ly_287 (by decide)) ((fg_u2ne (f := μ) (a := 299) (k := m) (b := 287) (j := 26) (x := (nI 1)) (by decide)).trans hS.1) ?_
    refine fg_iloadn (fg_ft (pc := 26) tb_Mo_comes 16 rfl) rfl ?_
    refine fg_iastN (fg_ft (pc := 27) tb_Mo_comes 17 rfl) ly_295 (fg_lt ly_295 (by decide)) (by omega) ?_
    show fg_wp _ _ _ _ _ _ _ _ _ (fg_u2 (fg_u2 μ 299 m (nI 1)) 295 (B.1) (nI m), fg_rho R, 304)
    refine fg_aloadn (fg_ft (pc := 28) tb_Mo_comes 18 rfl) rfl ?_
    refine fg_getR (fg_ft (pc := 29) tb_Mo_comes 19 rfl) ff_Mo_39 ly_287 rfl (fg_lt ly_287 (by decide)) (rh_287_22 R) ?_
    refine fg_aloadn (fg_ft (pc := 32) tb_Mo_comes 20 rfl) rfl ?_
    refine fg_getV (v := (nI (B.1))) (fg_ft (pc := 33) tb_Mo_comes 21 rfl) ff_Mo_276 ly_287 rfl (fg_lt ly_287 (by decide)) ((fg_u2ne (f := (fg_u2 μ 299 m (nI 1))) (a := 295) (k := B.1) (b := 287) (j := 26) (x := (nI m)) (by decide)).trans ((fg_u2ne (f := μ) (a := 299) (k := m) (b := 287) (j := 26) (x := (nI 1)) (by decide)).trans hS.1)) ?_
    refine fg_iloadn (fg_ft (pc := 36) tb_Mo_comes 22 rfl) rfl ?_
    refine fg_iastN (fg_ft (pc := 37) tb_Mo_comes 23 rfl) ly_296 (fg_lt ly_296 (by decide)) (by omega) ?_
    show fg_wp _ _ _ _ _ _ _ _ _ (fg_u2 (fg_u2 (fg_u2 μ 299 m (nI 1)) 295 (B.1) (nI m)) 296 (B.1) (nI k), fg_rho R, 304)
    refine fg_aloadn (fg_ft (pc := 38) tb_Mo_comes 24 rfl) rfl ?_
    refine fg_getR (fg_ft (pc := 39) tb_Mo_comes 25 rfl) ff_Mo_42 ly_287 rfl (fg_lt ly_287 (by decide)) (rh_287_23 R) ?_
    refine fg_aloadn (fg_ft (pc := 42) tb_Mo_comes 26 rfl) rfl ?_
    refine fg_getV (v := (nI (B.1))) (fg_ft (pc := 43) tb_Mo_comes 27 rfl) ff_Mo_276 ly_287 rfl (fg_lt ly_287 (by decide)) ((fg_u2ne (f := (fg_u2 (fg_u2 μ 299 m (nI 1)) 295 (B.1) (nI m))) (a := 296) (k := B.1) (b := 287) (j := 26) (x := (nI k)) (by decide)).trans ((fg_u2ne (f := (fg_u2 μ 299 m (nI 1))) (a := 295) (k := B.1) (b := 287) (j := 26) (x := (nI m)) (by decide)).trans ((fg_u2ne (f := μ) (a := 299) (k := m) (b := 287) (j := 26) (x := (nI 1)) (by decide)).trans hS.1))) ?_
    refine fg_iloadn (fg_ft (pc := 46) tb_Mo_comes 28 rfl) rfl ?_
    refine fg_iastN (fg_ft (pc := 47) tb_Mo_comes 29 rfl) ly_297 (fg_lt ly_297 (by decide)) (by omega) ?_
    show fg_wp _ _ _ _ _ _ _ _ _ (fg_u2 (fg_u2 (fg_u2 (fg_u2 μ 299 m (nI 1)) 295 (B.1) (nI m)) 296 (B.1) (nI k)) 297 (B.1) (nI n), fg_rho R, 304)
    refine fg_aloadn (fg_ft (pc := 48) tb_Mo_comes 30 rfl) rfl ?_
    refine fg_getR (fg_ft (pc := 49) tb_Mo_comes 31 rfl) ff_Mo_45 ly_287 rfl (fg_lt ly_287 (by decide)) (rh_287_24 R) ?_
    refine fg_aloadn (fg_ft (pc := 52) tb_Mo_comes 32 rfl) rfl ?_
    refine fg_getV (v := (nI (B.1))) (fg_ft (pc := 53) tb_Mo_comes 33 rfl) ff_Mo_276 ly_287 rfl (fg_lt ly_287 (by decide)) ((fg_u2ne (f := (fg_u2 (fg_u2 (fg_u2 μ 299 m (nI 1)) 295 (B.1) (nI m)) 296 (B.1) (nI k))) (a := 297) (k := B.1) (b := 287) (j := 26) (x := (nI n)) (by decide)).trans ((fg_u2ne (f := (fg_u2 (fg_u2 μ 299 m (nI 1)) 295 (B.1) (nI m))) (a := 296) (k := B.1) (b := 287) (j := 26) (x := (nI k)) (by decide)).trans ((fg_u2ne (f := (fg_u2 μ 299 m (nI 1))) (a := 295) (k := B.1) (b := 287) (j := 26) (x := (nI m)) (by decide)).trans ((fg_u2ne (f := μ) (a := 299) (k := m) (b := 287) (j := 26) (x := (nI 1)) (by decide)).trans hS.1)))) ?_
    refine fg_iloadn (fg_ft (pc := 56) tb_Mo_comes 34 rfl) rfl ?_
    refine fg_if_geN (tgt := 64) (fg_ft (pc := 57) tb_Mo_comes 35 rfl) (by decide) (by omega) ?_
    refine fg_aloadn (fg_ft (pc := 64) tb_Mo_comes 38 rfl) rfl ?_
    refine fg_getR (fg_ft (pc := 65) tb_Mo_comes 39 rfl) ff_Mo_45 ly_287 rfl (fg_lt ly_287 (by decide)) (rh_287_24 R) ?_
    refine fg_iloadn (fg_ft (pc := 68) tb_Mo_comes 40 rfl) rfl ?_
    refine fg_ialdV (v := (nI (B.2.2.2.2 k))) (fg_ft (pc := 69) tb_Mo_comes 41 rfl) ly_298 (fg_lt ly_298 (by decide)) (by omega) ((fg_u2ne (f := (fg_u2 (fg_u2 (fg_u2 μ 299 m (nI 1)) 295 (B.1) (nI m)) 296 (B.1) (nI k))) (a := 297) (k := B.1) (b := 298) (j := k) (x := (nI n)) (by decide)).trans ((fg_u2ne (f := (fg_u2 (fg_u2 μ 299 m (nI 1)) 295 (B.1) (nI m))) (a := 296) (k := B.1) (b := 298) (j := k) (x := (nI k)) (by decide)).trans ((fg_u2ne (f := (fg_u2 μ 299 m (nI 1))) (a := 295) (k := B.1) (b := 298) (j := k) (x := (nI m)) (by decide)).trans ((fg_u2ne (f := μ) (a := 299) (k := m) (b := 298) (j := k) (x := (nI 1)) (by decide)).trans (hS.2.1 k hk).2.1)))) ?_
    refine fg_iconst (fg_ft (pc := 70) tb_Mo_comes 42 rfl) ic_1 ?_
    refine fg_iaddN (fg_ft (pc := 71) tb_Mo_comes 43 rfl) ?_
    refine fg_iastN (fg_ft (pc := 72) tb_Mo_comes 44 rfl) ly_298 (fg_lt ly_298 (by decide)) (by omega) ?_
    show fg_wp _ _ _ _ _ _ _ _ _ (fg_u2 (fg_u2 (fg_u2 (fg_u2 (fg_u2 μ 299 m (nI 1)) 295 (B.1) (nI m)) 296 (B.1) (nI k)) 297 (B.1) (nI n)) 298 (B.1) (nI ((B.2.2.2.2 k) + 1)), fg_rho R, 304)
    refine fg_aloadn (fg_ft (pc := 73) tb_Mo_comes 45 rfl) rfl ?_
    refine fg_dup (fg_ft (pc := 74) tb_Mo_comes 46 rfl) rfl ?_
    refine fg_getV (v := (nI (B.1))) (fg_ft (pc := 75) tb_Mo_comes 47 rfl) ff_Mo_276 ly_287 rfl (fg_lt ly_287 (by decide)) ((fg_u2ne (f := (fg_u2 (fg_u2 (fg_u2 (fg_u2 μ 299 m (nI 1)) 295 (B.1) (nI m)) 296 (B.1) (nI k)) 297 (B.1) (nI n))) (a := 298) (k := B.1) (b := 287) (j := 26) (x := (nI ((B.2.2.2.2 k) + 1))) (by decide)).trans ((fg_u2ne (f := (fg_u2 (fg_u2 (fg_u2 μ 299 m (nI 1)) 295 (B.1) (nI m)) 296 (B.1) (nI k))) (a := 297) (k := B.1) (b := 287) (j := 26) (x := (nI n)) (by decide)).trans ((fg_u2ne (f := (fg_u2 (fg_u2 μ 299 m (nI 1)) 295 (B.1) (nI m))) (a := 296) (k := B.1) (b := 287) (j := 26) (x := (nI k)) (by decide)).trans ((fg_u2ne (f := (fg_u2 μ 299 m (nI 1))) (a := 295) (k := B.1) (b := 287) (j := 26) (x := (nI m)) (by decide)).trans ((fg_u2ne (f := μ) (a := 299) (k := m) (b := 287) (j := 26) (x := (nI 1)) (by decide)).trans hS.1))))) ?_
    refine fg_iconst (fg_ft (pc := 78) tb_Mo_comes 48 rfl) ic_1 ?_
    refine fg_iaddN (fg_ft (pc := 79) tb_Mo_comes 49 rfl) ?_
    refine fg_putI (fg_ft (pc := 80) tb_Mo_comes 50 rfl) ff_Mo_276 ly_287 rfl (fg_lt ly_287 (by decide)) (fg_nokI _) (fun _ _ h => by cases h; rfl) ?_
    show fg_wp _ _ _ _ _ _ _ _ _ (fg_u2 (fg_u2 (fg_u2 (fg_u2 (fg_u2 (fg_u2 μ 299 m (nI 1)) 295 (B.1) (nI m)) 296 (B.1) (nI k)) 297 (B.1) (nI n)) 298 (B.1) (nI ((B.2.2.2.2 k) + 1))) 287 26 (nI ((B.1) + 1)), fg_rho R, 304)
    exact fg_vret (fg_ft (pc := 83) tb_Mo_comes 51 rfl) rfl rfl (by
  have q9 := hQ (fg_u2 (fg_u2 (fg_u2 (fg_u2 (fg_u2 (fg_u2 μ 299 m (nI 1)) 295 (B.1) (nI m)) 296 (B.1) (nI k)) 297 (B.1) (nI n)) 298 (B.1) (nI ((B.2.2.2.2 k) + 1))) 287 26 (nI ((B.1) + 1))) (fg_agL_tr (fg_agL_tr (fg_agL_tr (fg_agL_tr (fg_agL_tr (fg_agL_u (Or.inl (by decide))) (fg_agL_u (Or.inl (by decide)))) (fg_agL_u (Or.inl (by decide)))) (fg_agL_u (Or.inl (by decide)))) (fg_agL_u (Or.inl (by decide)))) (fg_agL_u (Or.inr ⟨rfl, rfl⟩)))
  rw [fg_bput_new hold] at q9
  have hne : ∀ i, i < B.1 → i ≠ B.1 := fun i hi => by omega
  refine q9 ⟨fg_u2eq, fun i hi => ?_, fun m9 hm9 g => ?_⟩
  · have hi : i < B.1 + 1 := hi
    rcases Nat.decEq i B.1 with z | z
    · have hlt : i < B.1 := by omega
      show _ = nI (fg_up1 B.2.1 B.1 m i) ∧ _ = nI (fg_up1 B.2.2.2.2 B.1 (B.2.2.2.2 k + 1) i) ∧ _ ∧ (0 < i → _ = nI (fg_up1 B.2.2.1 B.1 k i) ∧ _ = nI (fg_up1 B.2.2.2.1 B.1 n i))
      rw [fg_up1_ne z, fg_up1_ne z, fg_up1_ne z, fg_up1_ne z]
      have h9 := hS.2.1 i hlt
      refine ⟨(fg_u2ne (by decide)).trans ((fg_u2ne (by decide)).trans ((fg_u2ne (by decide)).trans ((fg_u2ne (by decide)).trans ((fg_u2ns z).trans ((fg_u2ne (by decide)).trans h9.1))))), (fg_u2ne (by decide)).trans ((fg_u2ns z).trans ((fg_u2ne (by decide)).trans ((fg_u2ne (by decide)).trans ((fg_u2ne (by decide)).trans ((fg_u2ne (by decide)).trans h9.2.1))))), ?_, fun g0 => ⟨(fg_u2ne (by decide)).trans ((fg_u2ne (by decide)).trans ((fg_u2ne (by decide)).trans ((fg_u2ns z).trans ((fg_u2ne (by decide)).trans ((fg_u2ne (by decide)).trans (h9.2.2.2 g0).1))))), (fg_u2ne (by decide)).trans ((fg_u2ne (by decide)).trans ((fg_u2ns z).trans ((fg_u2ne (by decide)).trans ((fg_u2ne (by decide)).trans ((fg_u2ne (by decide)).trans (h9.2.2.2 g0).2)))))⟩⟩
      have hmm : B.2.1 i ≠ m := fun ee => hold ⟨i, hlt, ee⟩
      show _ = nI 1
      refine (fg_u2ne (by decide)).trans ((fg_u2ne (by decide)).trans ((fg_u2ne (by decide)).trans ((fg_u2ne (by decide)).trans ((fg_u2ne (by decide)).trans ?_))))
      show fg_u2 μ 299 m (nI 1) 299 (fg_up1 B.2.1 B.1 m i) = nI 1
      rw [fg_up1_ne z]
      exact (fg_u2ns hmm).trans h9.2.2.1
    · subst z
      show _ = nI (fg_up1 B.2.1 B.1 m B.1) ∧ _ = nI (fg_up1 B.2.2.2.2 B.1 (B.2.2.2.2 k + 1) B.1) ∧ _ ∧ (0 < B.1 → _ = nI (fg_up1 B.2.2.1 B.1 k B.1) ∧ _ = nI (fg_up1 B.2.2.2.1 B.1 n B.1))
      rw [fg_up1_eq, fg_up1_eq, fg_up1_eq, fg_up1_eq]
      refine ⟨(fg_u2ne (by decide)).trans ((fg_u2ne (by decide)).trans ((fg_u2ne (by decide)).trans ((fg_u2ne (by decide)).trans fg_u2eq))), (fg_u2ne (by decide)).trans fg_u2eq, ?_, fun g0 => ⟨(fg_u2ne (by decide)).trans ((fg_u2ne (by decide)).trans ((fg_u2ne (by decide)).trans fg_u2eq)), (fg_u2ne (by decide)).trans ((fg_u2ne (by decide)).trans fg_u2eq)⟩⟩
      refine (fg_u2ne (by decide)).trans ((fg_u2ne (by decide)).trans ((fg_u2ne (by decide)).trans ((fg_u2ne (by decide)).trans ((fg_u2ne (by decide)).trans ?_))))
      show fg_u2 μ 299 m (nI 1) 299 (fg_up1 B.2.1 B.1 m B.1) = nI 1
      rw [fg_up1_eq]
      exact fg_u2eq
  · have g9 : m9 ≠ m := fun ee => g B.1 (Nat.lt_succ_self _) (by show fg_up1 B.2.1 B.1 m B.1 = m9; rw [fg_up1_eq, ee])
    exact (fg_u2ne (by decide)).trans ((fg_u2ne (by decide)).trans ((fg_u2ne (by decide)).trans ((fg_u2ne (by decide)).trans ((fg_u2ne (by decide)).trans ((fg_u2ns g9).trans (hS.2.2 m9 hm9 (fun i9 g1 g2 => g i9 (Nat.lt_succ_of_lt g1) (by show fg_up1 B.2.1 B.1 m i9 = m9; rw [fg_up1_ne (hne i9 g1)]; exact g2)))))))))
