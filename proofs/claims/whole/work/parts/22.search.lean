theorem fg_holes : ∀ (m n : Nat) (f : Nat → Nat), (∀ i, i < n → f i < m) → (∀ i j, i < n → j < n → f i = f j → i = j) → n ≤ m := by
  intro m
  induction m with
  | zero =>
    intro n f h _
    rcases Nat.eq_zero_or_pos n with q | q
    · omega
    · exact absurd (h 0 q) (Nat.not_lt_zero _)
  | succ m ih =>
    intro n f h hi
    rcases Nat.eq_zero_or_pos n with q | q
    · omega
    · -- the last one is put in the place of m
      have h1 := ih (n - 1) (fun i => if f i = m then f (n - 1) else f i) (fun i hin => by
        show (if f i = m then f (n - 1) else f i) < m
        split
        · rename_i e
          have h2 := h (n - 1) (by omega)
          have h3 : f (n - 1) ≠ m := fun e2 => by
            have := hi i (n - 1) (by omega) (by omega) (e.trans e2.symm)
            omega
          omega
        · have h2 := h i (by omega)
          omega) (fun i j hin hjn he => by
        have he : (if f i = m then f (n - 1) else f i) = (if f j = m then f (n - 1) else f j) := he
        split at he
        · rename_i e1
          split at he
          · rename_i e2
            exact hi i j (by omega) (by omega) (e1.trans e2.symm)
          · have := hi (n - 1) j (by omega) (by omega) he
            omega
        · split at he
          · have := hi i (n - 1) (by omega) (by omega) he
            omega
          · exact hi i j (by omega) (by omega) he)
      omega
/-- the minds that one comes to: how many, each, the one ahead of it (by its place), the fact between, how many lead to it -/
abbrev fg_BQ : Type := Nat × (Nat → Nat) × (Nat → Nat) × (Nat → Nat) × (Nat → Nat)
def fg_up1 (f : Nat → Nat) (k x : Nat) : Nat → Nat := fun j => if j = k then x else f j
theorem fg_up1_eq {f : Nat → Nat} {k x : Nat} : fg_up1 f k x k = x := if_pos rfl
theorem fg_up1_ne {f : Nat → Nat} {k x j : Nat} (h : j ≠ k) : fg_up1 f k x j = f j := if_neg h
noncomputable def fg_bput (B : fg_BQ) (m a f r : Nat) : fg_BQ := @ite _ (∃ i, i < B.1 ∧ B.2.1 i = m) (Classical.propDecidable _) B (B.1 + 1, fg_up1 B.2.1 B.1 m, fg_up1 B.2.2.1 B.1 a, fg_up1 B.2.2.2.1 B.1 f, fg_up1 B.2.2.2.2 B.1 r)
theorem fg_bput_old {B : fg_BQ} {m a f r : Nat} (h : ∃ i, i < B.1 ∧ B.2.1 i = m) : fg_bput B m a f r = B := @if_pos _ (Classical.propDecidable _) h _ _ _
theorem fg_bput_new {B : fg_BQ} {m a f r : Nat} (h : ¬ ∃ i, i < B.1 ∧ B.2.1 i = m) : fg_bput B m a f r = (B.1 + 1, fg_up1 B.2.1 B.1 m, fg_up1 B.2.2.1 B.1 a, fg_up1 B.2.2.2.1 B.1 f, fg_up1 B.2.2.2.2 B.1 r) := @if_neg _ (Classical.propDecidable _) h _ _ _
noncomputable def fg_bex (T : Nat → Nat) (B : fg_BQ) (k : Nat) : Nat → fg_BQ
  | 0 => B
  | n + 1 => if (B.2.1 k).testBit n = true then fg_bput (fg_bex T B k n) (fg_lst T (B.2.1 k) n) k n (B.2.2.2.2 k + 1) else fg_bex T B k n
def fg_b0 (m : Nat) : fg_BQ := (1, fun _ => m, fun _ => 0, fun _ => 0, fun _ => 0)
noncomputable def fg_bfs (T : Nat → Nat) (m mst : Nat) : Nat → fg_BQ
  | 0 => fg_b0 m
  | k + 1 => if k < (fg_bfs T m mst k).1 ∧ (fg_bfs T m mst k).2.2.2.2 k < mst then fg_bex T (fg_bfs T m mst k) k 10 else fg_bfs T m mst k
/-- what holds of such a row -/
def fg_bok (w : Nat) (B : fg_BQ) : Prop := (∀ i, i < B.1 → B.2.1 i < 2 ^ w) ∧ (∀ i j, i < B.1 → j < B.1 → B.2.1 i = B.2.1 j → i = j) ∧ (∀ i, 0 < i → i < B.1 → B.2.2.1 i < i ∧ B.2.2.2.1 i < 10 ∧ B.2.2.2.2 i = B.2.2.2.2 (B.2.2.1 i) + 1) ∧ 0 < B.1 ∧ B.2.2.2.2 0 = 0
/-- B' goes on from B -/
def fg_bpre (B B' : fg_BQ) : Prop := B.1 ≤ B'.1 ∧ ∀ i, i < B.1 → B'.2.1 i = B.2.1 i ∧ B'.2.2.1 i = B.2.2.1 i ∧ B'.2.2.2.1 i = B.2.2.2.1 i ∧ B'.2.2.2.2 i = B.2.2.2.2 i
theorem fg_bpre_rf (B : fg_BQ) : fg_bpre B B := ⟨Nat.le_refl _, fun _ _ => ⟨rfl, rfl, rfl, rfl⟩⟩
theorem fg_bpre_tr {A B C : fg_BQ} (h1 : fg_bpre A B) (h2 : fg_bpre B C) : fg_bpre A C := ⟨Nat.le_trans h1.1 h2.1, fun i hi => by
  obtain ⟨a1, a2, a3, a4⟩ := h1.2 i hi
  obtain ⟨b1, b2, b3, b4⟩ := h2.2 i (Nat.lt_of_lt_of_le hi h1.1)
  exact ⟨b1.trans a1, b2.trans a2, b3.trans a3, b4.trans a4⟩⟩
theorem fg_bput_pre (B : fg_BQ) (m a f r : Nat) : fg_bpre B (fg_bput B m a f r) := by
  rcases Classical.em (∃ i, i < B.1 ∧ B.2.1 i = m) with h | h
  · rw [fg_bput_old h]; exact fg_bpre_rf B
  · rw [fg_bput_new h]
    refine ⟨Nat.le_succ _, fun i hi => ?_⟩
    have hne : i ≠ B.1 := by omega
    exact ⟨fg_up1_ne hne, fg_up1_ne hne, fg_up1_ne hne, fg_up1_ne hne⟩
theorem fg_bput_ok {w : Nat} {B : fg_BQ} {m a f r : Nat} (h : fg_bok w B) (hm : m < 2 ^ w) (ha : a < B.1) (hf : f < 10) (hr : r = B.2.2.2.2 a + 1) : fg_bok w (fg_bput B m a f r) := by
  rcases Classical.em (∃ i, i < B.1 ∧ B.2.1 i = m) with g | g
  · rw [fg_bput_old g]; exact h
  · rw [fg_bput_new g]
    obtain ⟨h1, h2, h3, h4, h5⟩ := h
    refine ⟨fun i hi => ?_, fun i j hi hj he => ?_, fun i h0 hi => ?_, Nat.succ_pos _, ?_⟩
    · show fg_up1 B.2.1 B.1 m i < _
      rcases Nat.decEq i B.1 with q | q
      · rw [fg_up1_ne q]; exact h1 i (by have : i < B.1 + 1 := hi; omega)
      · rw [q, fg_up1_eq]; exact hm
    · have he : fg_up1 B.2.1 B.1 m i = fg_up1 B.2.1 B.1 m j := he
      have hi : i < B.1 + 1 := hi
      have hj : j < B.1 + 1 := hj
      rcases Nat.decEq i B.1 with q | q <;> rcases Nat.decEq j B.1 with q2 | q2
      · rw [fg_up1_ne q, fg_up1_ne q2] at he; exact h2 i j (by omega) (by omega) he
      · rw [fg_up1_ne q, q2, fg_up1_eq] at he; exact absurd ⟨i, by omega, he⟩ g
      · rw [q, fg_up1_eq, fg_up1_ne q2] at he; exact absurd ⟨j, by omega, he.symm⟩ g
      · omega
    · have hi : i < B.1 + 1 := hi
      show fg_up1 B.2.2.1 B.1 a i < i ∧ fg_up1 B.2.2.2.1 B.1 f i < 10 ∧ fg_up1 B.2.2.2.2 B.1 r i = fg_up1 B.2.2.2.2 B.1 r (fg_up1 B.2.2.1 B.1 a i) + 1
      rcases Nat.decEq i B.1 with q | q
      · obtain ⟨g1, g2, g3⟩ := h3 i h0 (by omega)
        rw [fg_up1_ne q, fg_up1_ne q, fg_up1_ne q, fg_up1_ne (by omega)]
        exact ⟨g1, g2, g3⟩
      · subst q
        rw [fg_up1_eq, fg_up1_eq, fg_up1_eq, fg_up1_ne (by omega)]
        exact ⟨ha, hf, hr⟩
    · show fg_up1 B.2.2.2.2 B.1 r 0 = 0
      rw [fg_up1_ne (by omega)]; exact h5
theorem fg_bex_pre (T : Nat → Nat) (B : fg_BQ) (k : Nat) : ∀ n, fg_bpre B (fg_bex T B k n) := by
  intro n
  induction n with
  | zero => exact fg_bpre_rf B
  | succ n ih =>
    simp only [fg_bex]
    split
    · exact fg_bpre_tr ih (fg_bput_pre _ _ _ _ _)
    · exact ih
theorem fg_bex_ok {T : Nat → Nat} (hok : fg_ok T) {B : fg_BQ} {k : Nat} (h : fg_bok (T 0) B) (hk : k < B.1) : ∀ n, n ≤ 10 → fg_bok (T 0) (fg_bex T B k n) := by
  intro n
  induction n with
  | zero => intro _; exact h
  | succ n ih =>
    intro hn
    simp only [fg_bex]
    split
    · have hp := fg_bex_pre T B k n
      exact fg_bput_ok (ih (by omega)) (fg_le_lt (fg_lst_some hok _ _).2.1 (h.1 k hk)) (Nat.lt_of_lt_of_le hk hp.1) (by omega) (by rw [(hp.2 k hk).2.2.2])
    · exact ih (by omega)
theorem fg_bfs_step_pre (T : Nat → Nat) (m mst k : Nat) : fg_bpre (fg_bfs T m mst k) (fg_bfs T m mst (k + 1)) := by
  simp only [fg_bfs]
  split
  · exact fg_bex_pre _ _ _ _
  · exact fg_bpre_rf _
theorem fg_bfs_ok {T : Nat → Nat} (hok : fg_ok T) {m mst : Nat} (hm : m < 2 ^ T 0) : ∀ k, fg_bok (T 0) (fg_bfs T m mst k) := by
  intro k
  induction k with
  | zero => exact ⟨fun _ _ => hm, fun i j hi hj _ => (by have hi : i < 1 := hi; have hj : j < 1 := hj; omega), fun i h0 hi => (by have hi : i < 1 := hi; omega), Nat.one_pos, rfl⟩
  | succ k ih =>
    simp only [fg_bfs]
    split
    · rename_i h; exact fg_bex_ok hok ih h.1 10 (Nat.le_refl _)
    · exact ih
theorem fg_bok_len {w : Nat} {B : fg_BQ} (h : fg_bok w B) (hw : w ≤ 10) : B.1 ≤ 1024 := by
  refine fg_holes 1024 B.1 B.2.1 (fun i hi => ?_) h.2.1
  exact Nat.lt_of_lt_of_le (h.1 i hi) (Nat.pow_le_pow_right (by decide) hw)
/-- the search of the class holds such a row -/
def fg_SR (μ : Nat → Nat → Int32) (B : fg_BQ) : Prop := μ 281 5 = nI B.1 ∧ (∀ i, i < B.1 → μ 282 i = nI (B.2.1 i) ∧ μ 285 (B.2.1 i) = nI (B.2.2.2.2 i) ∧ (0 < i → μ 283 (B.2.1 i) = nI (B.2.1 (B.2.2.1 i)) ∧ μ 284 (B.2.1 i) = nI (B.2.2.2.1 i))) ∧ ∀ m, m < 1024 → (∀ i, i < B.1 → B.2.1 i ≠ m) → μ 285 m = -1
theorem ev_Search_isMind {E : fg_E} {d : Nat} {μ : Nat → Nat → Int32} {R : fg_T4} {Q : Option Value → fg_M → Prop} {m : Nat} (hm : m < 2 ^ 31) (hQ : Q (some (.int (fg_bI (m < 1024)))) (μ, fg_rho R, 304)) : fg_Ev E yy_Search_isMind (d + 1) [.int (nI m)] (μ, fg_rho R, 304) 304 Q := by
  refine fg_intro (by decide +kernel) (Nat.le_of_ble_eq_true rfl) (fg_okAs rfl) (Nat.le_refl _) ?_
  refine fg_iloadn (fg_ft (pc := 0) tb_Search_isMind 0 rfl) rfl ?_
  refine fg_if_ltN (tgt := 15) (fg_ft (pc := 1) tb_Search_isMind 1 rfl) (by decide) (hm) ?_
  refine fg_iloadn (fg_ft (pc := 4) tb_Search_isMind 2 rfl) rfl ?_
  refine fg_sipush (fg_ft (pc := 5) tb_Search_isMind 3 rfl) is_1024 ?_
  refine fg_icmp_geN (tgt := 15) (fg_ft (pc := 8) tb_Search_isMind 4 rfl) (by decide) (hm) (by decide) (fun c8 => ?_) (fun c8 => ?_)
  · refine fg_iconst (fg_ft (pc := 15) tb_Search_isMind 7 rfl) ic_0 ?_
    exact fg_zret (fg_ft (pc := 16) tb_Search_isMind 8 rfl) rfl (by decide) rfl (by rw [fg_bF (by omega)] at hQ; exact hQ)
  · refine fg_iconst (fg_ft (pc := 11) tb_Search_isMind 5 rfl) ic_1 ?_
    refine fg_goto (tgt := 16) (fg_ft (pc := 12) tb_Search_isMind 6 rfl) (by decide) ?_
    exact fg_zret (fg_ft (pc := 16) tb_Search_isMind 8 rfl) rfl (by decide) rfl (by rw [fg_bT (by omega)] at hQ; exact hQ)
theorem ev_Search_isMindNeg {E : fg_E} {d : Nat} {μ : Nat → Nat → Int32} {R : fg_T4} {Q : Option Value → fg_M → Prop} (hQ : Q (some (.int (nI 0))) (μ, fg_rho R, 304)) : fg_Ev E yy_Search_isMind (d + 1) [.int (-1)] (μ, fg_rho R, 304) 304 Q := by
  refine fg_intro (by decide +kernel) (Nat.le_of_ble_eq_true rfl) (fg_okAs rfl) (Nat.le_refl _) ?_
  refine fg_iloadn (fg_ft (pc := 0) tb_Search_isMind 0 rfl) rfl ?_
  refine fg_if_lt (tgt := 15) (fg_ft (pc := 1) tb_Search_isMind 1 rfl) (by decide) (fun c1 => ?_) (fun c1 => (absurd (by decide) c1))
  refine fg_iconst (fg_ft (pc := 15) tb_Search_isMind 7 rfl) ic_0 ?_
  exact fg_zret (fg_ft (pc := 16) tb_Search_isMind 8 rfl) rfl (by decide) rfl (hQ)
