/-! the whole search -/
theorem fg_bfs_pre (T : Nat → Nat) (m mst k : Nat) : ∀ n, fg_bpre (fg_bfs T m mst k) (fg_bfs T m mst (k + n)) := by
  intro n
  induction n with
  | zero => exact fg_bpre_rf _
  | succ n ih => exact fg_bpre_tr ih (fg_bfs_step_pre T m mst (k + n))
theorem fg_bfs_end {T : Nat → Nat} {m mst k : Nat} (h : (fg_bfs T m mst k).1 ≤ k) : ∀ n, fg_bfs T m mst (k + n) = fg_bfs T m mst k := by
  intro n
  induction n with
  | zero => rfl
  | succ n ih =>
    have e : (fg_bfs T m mst (k + n)).1 ≤ k := by rw [ih]; exact h
    show (if k + n < (fg_bfs T m mst (k + n)).1 ∧ _ then _ else fg_bfs T m mst (k + n)) = _
    rw [if_neg (fun hh => by have := hh.1; omega)]
    exact ih
theorem fg_BF_ex (T : Nat → Nat) (m mst : Nat) : ∃ B, B = fg_bfs T m mst 1024 := ⟨_, rfl⟩
noncomputable def fg_BF (T : Nat → Nat) (m mst : Nat) : fg_BQ := Classical.choose (fg_BF_ex T m mst)
theorem fg_BF_eq (T : Nat → Nat) (m mst : Nat) : fg_BF T m mst = fg_bfs T m mst 1024 := Classical.choose_spec (fg_BF_ex T m mst)
theorem fg_BF_pre {T : Nat → Nat} {m mst k : Nat} (hk : k ≤ 1024) : fg_bpre (fg_bfs T m mst k) (fg_BF T m mst) := by
  have := fg_bfs_pre T m mst k (1024 - k)
  rw [show k + (1024 - k) = 1024 by omega] at this
  rw [fg_BF_eq]
  exact this
theorem fg_BF_end {T : Nat → Nat} {m mst k : Nat} (h : (fg_bfs T m mst k).1 ≤ k) (hk : k ≤ 1024) : fg_BF T m mst = fg_bfs T m mst k := by
  have := fg_bfs_end h (1024 - k)
  rw [show k + (1024 - k) = 1024 by omega] at this
  rw [fg_BF_eq]
  exact this
theorem fg_BF_ok {T : Nat → Nat} (hok : fg_ok T) {m mst : Nat} (hm : m < 2 ^ T 0) : fg_bok (T 0) (fg_BF T m mst) := by
  rw [fg_BF_eq]
  exact fg_bfs_ok hok hm _
theorem fg_BF_len {T : Nat → Nat} (hok : fg_ok T) {m mst : Nat} (hm : m < 2 ^ T 0) : (fg_BF T m mst).1 ≤ 1024 := fg_bok_len (fg_BF_ok hok hm) hok.1.2
theorem fg_BF_0 {T : Nat → Nat} {m mst : Nat} : (fg_BF T m mst).2.1 0 = m := ((fg_BF_pre (T := T) (m := m) (mst := mst) (k := 0) (by decide)).2 0 (show 0 < 1 by decide)).1
theorem fg_anc_pre {w : Nat} {B B' : fg_BQ} (hB : fg_bok w B) (hpre : fg_bpre B B') {k : Nat} (hk : k < B.1) : ∀ n, n ≤ B.2.2.2.2 k → fg_anc B' k n = fg_anc B k n := by
  intro n
  induction n with
  | zero => intro _; rfl
  | succ n ih =>
    intro hn
    have h1 := fg_anc_far hB hk n (by omega)
    show B'.2.2.1 (fg_anc B' k n) = B.2.2.1 (fg_anc B k n)
    rw [ih (by omega)]
    exact (hpre.2 _ h1.1).2.1
theorem fg_tell_pre {w : Nat} {B B' : fg_BQ} (hB : fg_bok w B) (hpre : fg_bpre B B') {k : Nat} (hk : k < B.1) (x : Int32) : fg_tell B' k x = fg_tell B k x := by
  have e1 : B'.2.2.2.2 k = B.2.2.2.2 k := (hpre.2 k hk).2.2.2
  have e2 : ∀ i, fg_rowt B' k i = fg_rowt B k i := fun i => by
    unfold fg_rowt
    rw [e1, fg_anc_pre hB hpre hk _ (by omega)]
    exact (hpre.2 _ (fg_anc_far hB hk _ (by omega)).1).2.2.1
  unfold fg_tell
  rw [e1, e2]
theorem fg_lst_clsd {T : Nat → Nat} (hok : fg_ok T) (m f : Nat) : fg_clsd T (fg_lst T m f) := (fg_lst_some hok m f).2.2.2.2
theorem fg_bput_cl {T : Nat → Nat} {B : fg_BQ} {m a f r : Nat} (h : ∀ i, i < B.1 → fg_clsd T (B.2.1 i)) (hm : fg_clsd T m) : ∀ i, i < (fg_bput B m a f r).1 → fg_clsd T ((fg_bput B m a f r).2.1 i) := by
  rcases Classical.em (∃ i, i < B.1 ∧ B.2.1 i = m) with g | g
  · rw [fg_bput_old g]; exact h
  · rw [fg_bput_new g]
    intro i hi
    have hi : i < B.1 + 1 := hi
    show fg_clsd T (fg_up1 B.2.1 B.1 m i)
    rcases Nat.decEq i B.1 with e | e
    · rw [fg_up1_ne e]; exact h i (by omega)
    · rw [e, fg_up1_eq]; exact hm
theorem fg_bex_cl {T : Nat → Nat} (hok : fg_ok T) {B : fg_BQ} {k : Nat} (h : ∀ i, i < B.1 → fg_clsd T (B.2.1 i)) : ∀ n, ∀ i, i < (fg_bex T B k n).1 → fg_clsd T ((fg_bex T B k n).2.1 i) := by
  intro n
  induction n with
  | zero => exact h
  | succ n ih =>
    simp only [fg_bex]
    split
    · exact fg_bput_cl ih (fg_lst_clsd hok _ _)
    · exact ih
theorem fg_bfs_cl {T : Nat → Nat} (hok : fg_ok T) {m mst : Nat} (hm : fg_clsd T m) : ∀ k, ∀ i, i < (fg_bfs T m mst k).1 → fg_clsd T ((fg_bfs T m mst k).2.1 i) := by
  intro k
  induction k with
  | zero => intro i _; exact hm
  | succ k ih =>
    simp only [fg_bfs]
    split
    · exact fg_bex_cl hok ih 10
    · exact ih
theorem fg_BF_cl {T : Nat → Nat} (hok : fg_ok T) {m mst : Nat} (hm : fg_clsd T m) {i : Nat} (hi : i < (fg_BF T m mst).1) : fg_clsd T ((fg_BF T m mst).2.1 i) := by
  rw [fg_BF_eq] at hi ⊢
  exact fg_bfs_cl hok hm 1024 i hi
theorem fg_BF_lt {T : Nat → Nat} (hok : fg_ok T) {m mst : Nat} (hm : m < 2 ^ T 0) {i : Nat} (hi : i < (fg_BF T m mst).1) : (fg_BF T m mst).2.1 i < 2 ^ T 0 := (fg_BF_ok hok hm).1 i hi
noncomputable def fg_srch (T : Nat → Nat) (m mst : Nat) (P : Nat → Prop) (x : Int32) : Int32 := match fg_fst (fun k => P ((fg_BF T m mst).2.1 k)) (fg_BF T m mst).1 with
  | none => -1
  | some k => fg_tell (fg_BF T m mst) k x
theorem fg_srch_some {T : Nat → Nat} {m mst k : Nat} {P : Nat → Prop} {x : Int32} (hk : k < (fg_BF T m mst).1) (h : P ((fg_BF T m mst).2.1 k)) (hb : ∀ j, j < k → ¬ P ((fg_BF T m mst).2.1 j)) : fg_srch T m mst P x = fg_tell (fg_BF T m mst) k x := by
  unfold fg_srch
  rw [fg_fst_some (P := fun k => P ((fg_BF T m mst).2.1 k)) h _ hb hk]
theorem fg_srch_none {T : Nat → Nat} {m mst : Nat} {P : Nat → Prop} {x : Int32} (hb : ∀ j, j < (fg_BF T m mst).1 → ¬ P ((fg_BF T m mst).2.1 j)) : fg_srch T m mst P x = -1 := by
  unfold fg_srch
  rw [fg_fst_none (P := fun k => P ((fg_BF T m mst).2.1 k)) _ hb]
noncomputable def fg_bk (T : Nat → Nat) (B : fg_BQ) : Nat → Nat
  | 0 => 0
  | n + 1 => if fg_w T (B.2.1 (fg_bk T B n)) < fg_w T (B.2.1 n) then n else fg_bk T B n
theorem fg_bk_lt {T : Nat → Nat} {B : fg_BQ} : ∀ n, 0 < n → fg_bk T B n < n := by
  intro n
  induction n with
  | zero => intro h; exact absurd h (Nat.lt_irrefl _)
  | succ n ih =>
    intro _
    unfold fg_bk
    split
    · omega
    · rcases Nat.eq_zero_or_pos n with g | g
      · subst g; exact Nat.one_pos
      · have := ih g; omega
/-! frames -/
def fg_agX (μ μ' : Nat → Nat → Int32) : Prop := ∀ a, a < 277 → ∀ j, μ' a j = μ a j
theorem fg_agX_rf (μ : Nat → Nat → Int32) : fg_agX μ μ := fun _ _ _ => rfl
theorem fg_agX_tr {μ μ' μ'' : Nat → Nat → Int32} (h1 : fg_agX μ μ') (h2 : fg_agX μ' μ'') : fg_agX μ μ'' := fun a ha j => (h2 a ha j).trans (h1 a ha j)
def fg_agS (μ μ' : Nat → Nat → Int32) : Prop := ∀ a, a < 281 ∨ 285 < a → ∀ j, μ' a j = μ a j
theorem fg_agS_rf (μ : Nat → Nat → Int32) : fg_agS μ μ := fun _ _ _ => rfl
theorem fg_agS_tr {μ μ' μ'' : Nat → Nat → Int32} (h1 : fg_agS μ μ') (h2 : fg_agS μ' μ'') : fg_agS μ μ'' := fun a ha j => (h2 a ha j).trans (h1 a ha j)
theorem fg_agX_S {μ μ' : Nat → Nat → Int32} (h : fg_agS μ μ') : fg_agX μ μ' := fun a ha j => h a (Or.inl (by omega)) j
theorem fg_agX_F {μ μ' : Nat → Nat → Int32} (h : fg_agF 277 μ μ') : fg_agX μ μ' := fun a ha j => h a (Or.inl ha) j
theorem fg_agQ_S {μ μ' : Nat → Nat → Int32} (h : fg_agS μ μ') : fg_agQ μ μ' := fun a ha j => h a (by omega) j
theorem fg_FZ.agX {μ μ' : Nat → Nat → Int32} {h : Nat} {T : Nat → Nat} {Z : fg_Z} {hv lv : Nat → Nat} {o : Option Nat × Nat × Nat} (H : fg_FZ μ 273 T h Z hv lv o) (e : fg_agX μ μ') : fg_FZ μ' 273 T h Z hv lv o := by
  obtain ⟨h1, h2, h3, h4, h5, ⟨h6, h7, h8⟩, h9, h10, h11⟩ := H
  exact ⟨(e _ (by decide) _).trans h1, (e _ (by decide) _).trans h2, fun q hq => (e _ (by decide) _).trans (h3 q hq), fun q hq => (e _ (by decide) _).trans (h4 q hq), fun q hq => (e _ (by decide) _).trans (h5 q hq), ⟨(e _ (by decide) _).trans h6, (e _ (by decide) _).trans h7, (e _ (by decide) _).trans h8⟩, (e _ (by decide) _).trans h9, (e _ (by decide) _).trans h10, (e _ (by decide) _).trans h11⟩
theorem fg_TWp.agX {μ μ' : Nat → Nat → Int32} {t : Nat} {T : Nat → Nat} (ht : fg_isT t) (h : fg_TW μ t T) (e : fg_agX μ μ') : fg_TW μ' t T := fg_TWp.lo ht h (fun a ha j => e a (by omega) j)
theorem fg_SR.fr {μ μ' : Nat → Nat → Int32} {B : fg_BQ} (h : fg_SR μ B) (e : ∀ a, 281 ≤ a → a ≤ 285 → ∀ j, μ' a j = μ a j) : fg_SR μ' B := by
  obtain ⟨h1, h2, h3⟩ := h
  refine ⟨(e _ (by decide) (by decide) _).trans h1, fun i hi => ⟨(e _ (by decide) (by decide) _).trans (h2 i hi).1, (e _ (by decide) (by decide) _).trans (h2 i hi).2.1, fun g => ⟨(e _ (by decide) (by decide) _).trans ((h2 i hi).2.2 g).1, (e _ (by decide) (by decide) _).trans ((h2 i hi).2.2 g).2⟩⟩, fun m hm g => (e _ (by decide) (by decide) _).trans (h3 m hm g)⟩
/-- the search stands at its k-th mind -/
def fg_SK (μ : Nat → Nat → Int32) (T : Nat → Nat) (m mst k : Nat) : Prop := k < (fg_bfs T m mst k).1 ∧ fg_SR μ (fg_bfs T m mst k) ∧ μ 281 6 = nI (k + 1) ∧ μ 281 7 = nI mst
theorem fg_SK.fr {μ μ' : Nat → Nat → Int32} {T : Nat → Nat} {m mst k : Nat} (h : fg_SK μ T m mst k) (e : ∀ a, 281 ≤ a → a ≤ 285 → ∀ j, μ' a j = μ a j) : fg_SK μ' T m mst k := ⟨h.1, h.2.1.fr e, (e _ (by decide) (by decide) _).trans h.2.2.1, (e _ (by decide) (by decide) _).trans h.2.2.2⟩
theorem fg_F7_S {μ μ' : Nat → Nat → Int32} (h : fg_agF 277 μ μ') : ∀ a, 281 ≤ a → a ≤ 285 → ∀ j, μ' a j = μ a j := fun a h1 _ j => h a (Or.inr (by omega)) j
theorem fg_SK_lt {μ : Nat → Nat → Int32} {T : Nat → Nat} (hok : fg_ok T) {m mst k : Nat} (hm : m < 2 ^ T 0) (h : fg_SK μ T m mst k) : k < 1024 ∧ k < (fg_BF T m mst).1 ∧ (fg_bfs T m mst k).2.1 k = (fg_BF T m mst).2.1 k := by
  have h1 := fg_bok_len (fg_bfs_ok hok hm k (mst := mst)) hok.1.2
  have h2 := h.1
  have h3 := fg_BF_pre (T := T) (m := m) (mst := mst) (k := k) (by omega)
  exact ⟨by omega, Nat.lt_of_lt_of_le h2 h3.1, ((h3.2 k h2).1).symm⟩
theorem ev_Search_startX {E : fg_E} {d : Nat} {μ : Nat → Nat → Int32} {R : fg_T4} {Q : Option Value → fg_M → Prop} {t : Nat} {T : Nat → Nat} (ht : fg_isT t) (hT : fg_TW μ t T) (hok : fg_ok T) {m mst : Nat} (hm : m < 2 ^ T 0) (hQ : ∀ μ' : Nat → Nat → Int32, fg_agS μ μ' → fg_SK μ' T m mst 0 → Q (some (.int (nI ((fg_BF T m mst).2.1 0)))) (μ', fg_rho (R.1, R.2.1, some t, R.2.2.2), 304)) : fg_Ev E yy_Search_start (d + 3) [.ref 281, .ref t, .int (nI m), .int (nI mst)] (μ, fg_rho R, 304) 304 Q := by
  refine ev_Search_start (fg_p10 hm hok.1.2) (fun μ' h1 h2 h3 h4 => ?_)
  have := hQ μ' h1 ⟨(by decide : 0 < 1), h2, h3, h4⟩
  rw [fg_BF_0] at this
  exact this
theorem ev_Search_nextX {E : fg_E} {d : Nat} {μ : Nat → Nat → Int32} {R : fg_T4} {Q : Option Value → fg_M → Prop} {t : Nat} {T : Nat → Nat} (ht : fg_isT t) (hT : fg_TW μ t T) (hok : fg_ok T) {m mst k : Nat} (hRt : R.2.2.1 = some t) (hm : m < 2 ^ T 0) (hmst : mst < 2 ^ 31) (hK : fg_SK μ T m mst k) (hQ1 : ∀ μ' : Nat → Nat → Int32, fg_agS μ μ' → fg_SK μ' T m mst (k + 1) → Q (some (.int (nI ((fg_BF T m mst).2.1 (k + 1))))) (μ', fg_rho R, 304)) (hQ2 : ∀ μ' : Nat → Nat → Int32, fg_agS μ μ' → fg_SR μ' (fg_BF T m mst) → (fg_BF T m mst).1 = k + 1 → Q (some (.int (-1))) (μ', fg_rho R, 304)) : fg_Ev E yy_Search_next (d + 6) [.ref 281] (μ, fg_rho R, 304) 304 Q := by
  have hkl := fg_SK_lt hok hm hK
  refine ev_Search_next ht hT hok hRt hm hK.1 hK.2.1 hK.2.2.1 hK.2.2.2 hmst (fun μ' h1 h2 h3 h4 => ?_) (fun μ' h1 h2 h3 => ?_)
  · have hK' : fg_SK μ' T m mst (k + 1) := ⟨h4, h2, h3, h1.2.trans hK.2.2.2⟩
    have := hQ1 μ' h1.1 hK'
    rw [(fg_SK_lt hok hm hK').2.2]
    exact this
  · have e := fg_BF_end h3 (by omega)
    refine hQ2 μ' h1.1 (by rw [e]; exact h2) ?_
    have := (fg_bfs_step_pre T m mst k).1
    have := hK.1
    rw [e]
    omega
theorem ev_Search_tellX {E : fg_E} {d : Nat} {μ : Nat → Nat → Int32} {R : fg_T4} {Q : Option Value → fg_M → Prop} {T : Nat → Nat} (hok : fg_ok T) {m mst k : Nat} (hm : m < 2 ^ T 0) (hK : fg_SK μ T m mst k) {x : Int32} (hQ : Q (some (.int (fg_tell (fg_BF T m mst) k x))) (μ, fg_rho R, 304)) : fg_Ev E yy_Search_tell (d + 2) [.ref 281, .int (nI ((fg_BF T m mst).2.1 k)), .int x] (μ, fg_rho R, 304) 304 Q := by
  have hkl := fg_SK_lt hok hm hK
  rw [← hkl.2.2]
  refine ev_Search_tell hok.1.2 (fg_bfs_ok hok hm k) hK.1 hK.2.1 ?_
  rw [fg_tell_pre (fg_bfs_ok hok hm k) (fg_BF_pre (by omega)) hK.1] at hQ
  exact hQ
noncomputable def an_row (A : fg_Tl) (town day n person gone kept : Nat) (what : Int32) : Int32 := fg_g1 A town day n person (-1) (fun T S _ => if gone < 2 ^ T 0 then (if kept < 2 ^ T 0 then fg_srch T (S.2.1.1 person) 10 (fun m => m &&& gone = 0 ∧ fg_df kept m = 0) what else -1) else -1)
noncomputable def an_safe (A : fg_Tl) (town day n person fact : Nat) (what : Int32) : Int32 := fg_g1 A town day n person (-1) (fun T S _ => if fact < T 0 then fg_srch T (S.2.1.1 person) 10 (fun m => ¬ fg_hbe T S person m fact) what else -1)
noncomputable def fg_bm (T : Nat → Nat) (m mst : Nat) : Nat := fg_bk T (fg_BF T m mst) (fg_BF T m mst).1
noncomputable def an_best (A : fg_Tl) (town day n person m : Nat) (what : Int32) : Int32 := fg_g1 A town day n person (-100000) (fun T S _ => if m < 4 then (if what = nI 1 then fg_w T ((fg_BF T (S.2.1.1 person) m).2.1 (fg_bm T (S.2.1.1 person) m)) else if fg_tell (fg_BF T (S.2.1.1 person) m) (fg_bm T (S.2.1.1 person) m) what = -1 then -100000 else fg_tell (fg_BF T (S.2.1.1 person) m) (fg_bm T (S.2.1.1 person) m) what) else -100000)
noncomputable def an_gap (A : fg_Tl) (town day n person m : Nat) : Int32 := fg_g1 A town day n person (-1) (fun T S _ => if m < 4 then fg_mxw T (S.2.1.1 person) - fg_w T ((fg_BF T (S.2.1.1 person) m).2.1 (fg_bm T (S.2.1.1 person) m)) else -1)
theorem ev_Fb_row {E : fg_E} {d : Nat} {μ : Nat → Nat → Int32} {R : fg_T4} {Q : Option Value → fg_M → Prop} {A : fg_Tl} (hA : fg_TL μ 101 A) {town day n person gone kept : Nat} {what : Int32} (htown : town < 2 ^ 32) (hday : day < 2 ^ 32) (hn : n < 2 ^ 32) (hperson : person < 2 ^ 32) (hgone : gone < 2 ^ 32) (hkept : kept < 2 ^ 32) (hQ : ∀ (μ' : Nat → Nat → Int32) (R' : fg_T4), fg_agQ μ μ' → Q (some (.int (an_row A town day n person gone kept what))) (μ', fg_rho R', 304)) : fg_Ev E yy_Fb_row (d + 12) [.ref 100, .int (nI town), .int (nI day), .int (nI n), .int (nI person), .int (nI gone), .int (nI kept), .int what] (μ, fg_rho R, 304) 304 Q := by
  have ht2 := hA.2.2.2.1.2
  have hd3 := hA.2.2.2.2.1.2
  refine fg_intro (by decide +kernel) (Nat.le_of_ble_eq_true rfl) (fg_okAs rfl) (Nat.le_refl _) ?_
  refine fg_aloadn (fg_ft (pc := 0) tb_Fb_row 0 rfl) rfl ?_
  refine fg_iloadn (fg_ft (pc := 1) tb_Fb_row 1 rfl) rfl ?_
  refine fg_iloadn (fg_ft (pc := 2) tb_Fb_row 2 rfl) rfl ?_
  refine fg_iloadn (fg_ft (pc := 3) tb_Fb_row 3 rfl) rfl ?_
  refine fg_iload (fg_ft (pc := 4) tb_Fb_row 4 rfl) rfl ?_
  refine fg_callV (fg_ft (pc := 6) tb_Fb_row 5 rfl) cf_Fb_221 (fg_isOf ly_100 rfl (fg_lt ly_100 (by decide))) (as := [.int (nI town), .int (nI day), .int (nI n), .int (nI person)]) (st := []) rfl rfl (Nat.le_of_ble_eq_true rfl) (Nat.le_refl _) (Nat.le_refl _) (ev_Fb_findOne hA htown hday hn hperson (fun n4 μ1 R1 ho1 hR1 => ?_) (fun S lv y4 y5 μ1 ho1 hF1 => ?_))
  · refine fg_astoreN (fg_ft (pc := 9) tb_Fb_row 6 rfl) (Nat.le_of_ble_eq_true rfl) ?_
    refine fg_aloadN (fg_ft (pc := 11) tb_Fb_row 7 rfl) rfl ?_
    refine fg_ifnull (tgt := 42) (fg_ft (pc := 13) tb_Fb_row 8 rfl) (by decide) ?_
    refine fg_iconst (fg_ft (pc := 42) tb_Fb_row 19 rfl) ic_m1 ?_
    exact fg_iret (fg_ft (pc := 43) tb_Fb_row 20 rfl) rfl rfl (fg_q (hQ _ R1 (fg_agQ_F (Or.inl rfl) ho1)) (by unfold an_row; rw [fg_g1_none n4] <;> ((repeat (first | rw [if_pos (by assumption)] | rw [if_neg (by assumption)] | rw [if_pos (by omega)] | rw [if_neg (by omega)] | rw [if_pos (by constructor <;> assumption)] | rw [if_neg (by intro hh; exact absurd hh.1 (by assumption))] | rw [if_neg (by intro hh; exact absurd hh.2 (by assumption))])); (try rfl))))
  · have ytc := fg_fnd_t y4
    have hok := (hA.2.2.2.2.2.1 town ytc).2
    have ht : fg_isT (104 + 14 * town) := fg_isT_told (by omega)
    have hT1 := fg_TL.town hA (Or.inl rfl) ytc ho1
    have hz := fg_fnd_ok hA y4
    have hb0 := hok.1
    have hb1 := hok.2.1
    have hp := hok.p
    have hm2 := hz.2.1 person y5
    have hm0 : S.2.1.1 person < 2 ^ A.ts town 0 := hm2.1
    have hmc : fg_clsd (A.ts town) (S.2.1.1 person) := hm2.2
    have hm10 : S.2.1.1 person < 1024 := by omega
    refine fg_astore (fg_ft (pc := 9) tb_Fb_row 6 rfl) (Nat.le_of_ble_eq_true rfl) ?_
    refine fg_aload (fg_ft (pc := 11) tb_Fb_row 7 rfl) rfl ?_
    refine fg_ifnull_r (fg_ft (pc := 13) tb_Fb_row 8 rfl) ?_
    refine fg_aload (fg_ft (pc := 16) tb_Fb_row 9 rfl) rfl ?_
    refine fg_getR (fg_ft (pc := 18) tb_Fb_row 10 rfl) ff_Fb_194 ly_273 rfl (fg_lt ly_273 (by decide)) rfl ?_
    refine fg_iload (fg_ft (pc := 21) tb_Fb_row 11 rfl) rfl ?_
    refine fg_callV (fg_ft (pc := 23) tb_Fb_row 12 rfl) cf_Fb_156 (fg_isOf (tT_lay ht) rfl (fg_lt (tT_lay ht) (by decide))) (as := [.int (nI gone)]) (st := []) rfl rfl (Nat.le_of_ble_eq_true rfl) (Nat.le_refl _) (Nat.le_refl _) (ev_Town_hasFactsX ht hT1 hok (k := gone) hgone ?_)
    refine fg_ifB_eq (tgt := 42) (fg_ft (pc := 26) tb_Fb_row 13 rfl) (by decide) (fun c26 => ?_) (fun c26 => ?_)
    · refine fg_iconst (fg_ft (pc := 42) tb_Fb_row 19 rfl) ic_m1 ?_
      exact fg_iret (fg_ft (pc := 43) tb_Fb_row 20 rfl) rfl rfl (fg_q (hQ _ (some (104 + 14 * town), R.2.1, R.2.2.1, R.2.2.2) (fg_agQ_F (Or.inl rfl) ho1)) (by unfold an_row; rw [fg_g1_some y4 y5] <;> ((repeat (first | rw [if_pos (by assumption)] | rw [if_neg (by assumption)] | rw [if_pos (by omega)] | rw [if_neg (by omega)] | rw [if_pos (by constructor <;> assumption)] | rw [if_neg (by intro hh; exact absurd hh.1 (by assumption))] | rw [if_neg (by intro hh; exact absurd hh.2 (by assumption))])); (try rfl))))
    · refine fg_aload (fg_ft (pc := 29) tb_Fb_row 14 rfl) rfl ?_
      refine fg_getR (fg_ft (pc := 31) tb_Fb_row 15 rfl) ff_Fb_194 ly_273 rfl (fg_lt ly_273 (by decide)) rfl ?_
      refine fg_iload (fg_ft (pc := 34) tb_Fb_row 16 rfl) rfl ?_
      refine fg_callV (fg_ft (pc := 36) tb_Fb_row 17 rfl) cf_Fb_156 (fg_isOf (tT_lay ht) rfl (fg_lt (tT_lay ht) (by decide))) (as := [.int (nI kept)]) (st := []) rfl rfl (Nat.le_of_ble_eq_true rfl) (Nat.le_refl _) (Nat.le_refl _) (ev_Town_hasFactsX ht hT1 hok (k := kept) hkept ?_)
      refine fg_ifB_ne (tgt := 44) (fg_ft (pc := 39) tb_Fb_row 18 rfl) (by decide) (fun c39 => ?_) (fun c39 => ?_)
      · refine fg_aloadn (fg_ft (pc := 44) tb_Fb_row 21 rfl) rfl ?_
        refine fg_getR (fg_ft (pc := 45) tb_Fb_row 22 rfl) ff_Fb_44 ly_100 rfl (fg_lt ly_100 (by decide)) (rh_100_6 (some (104 + 14 * town), R.2.1, R.2.2.1, R.2.2.2)) ?_
        refine fg_aload (fg_ft (pc := 48) tb_Fb_row 23 rfl) rfl ?_
        refine fg_getR (fg_ft (pc := 50) tb_Fb_row 24 rfl) ff_Fb_194 ly_273 rfl (fg_lt ly_273 (by decide)) rfl ?_
        refine fg_aload (fg_ft (pc := 53) tb_Fb_row 25 rfl) rfl ?_
        refine fg_iload (fg_ft (pc := 55) tb_Fb_row 26 rfl) rfl ?_
        refine fg_callV (fg_ft (pc := 57) tb_Fb_row 27 rfl) cf_Fb_181 (fg_isOf ly_273 rfl (fg_lt ly_273 (by decide))) (as := [.int (nI person)]) (st := [.ref (104 + 14 * town), .ref 281]) rfl rfl (Nat.le_of_ble_eq_true rfl) (Nat.le_refl _) (Nat.le_refl _) (ev_Folk_mind ht hT1 hok (Or.inl rfl) rfl hF1 hz (p := person) (by omega) ?_)
        refine fg_bipush (fg_ft (pc := 60) tb_Fb_row 28 rfl) ib_10 ?_
        refine fg_callV (fg_ft (pc := 62) tb_Fb_row 29 rfl) cf_Fb_267 (fg_isOf ly_281 rfl (fg_lt ly_281 (by decide))) (as := [.ref (104 + 14 * town), .int (nI (S.2.1.1 person)), .int (nI 10)]) (st := []) rfl rfl (Nat.le_of_ble_eq_true rfl) (Nat.le_refl _) (Nat.le_refl _) (ev_Search_startX (R := (some (104 + 14 * town), R.2.1, R.2.2.1, R.2.2.2)) ht (fg_TWp.agX ht hT1 (fg_agX_rf μ1)) hok (m := (S.2.1.1 person)) (mst := 10) hm0 ?_)
        intro μs hos hsk
        show fg_wp _ _ _ _ _ _ _ _ _ (μs, fg_rho (some (104 + 14 * town), R.2.1, some (104 + 14 * town), R.2.2.2), 304)
        refine fg_istore (fg_ft (pc := 65) tb_Fb_row 30 rfl) (Nat.le_of_ble_eq_true rfl) ?_
        refine fg_sipush (fg_ft (pc := 67) tb_Fb_row 31 rfl) is_1024 ?_
        refine fg_istore (fg_ft (pc := 70) tb_Fb_row 32 rfl) (Nat.le_of_ble_eq_true rfl) ?_
        have loop : ∀ (m k l : Nat) (ν : Nat → Nat → Int32), l < m → l + k = 1024 → fg_agQ μ ν → fg_agX μ1 ν → fg_SK ν (A.ts town) (S.2.1.1 person) 10 k → (∀ j, j < k → ¬ ((fg_BF (A.ts town) (S.2.1.1 person) 10).2.1 j &&& gone = 0 ∧ fg_df kept ((fg_BF (A.ts town) (S.2.1.1 person) 10).2.1 j) = 0)) → fg_wp E yy_Fb_row (d + 12) 304 304 Q 72 [.ref 100, .int (nI town), .int (nI day), .int (nI n), .int (nI person), .int (nI gone), .int (nI kept), .int what, .ref 273, .int (nI ((fg_BF (A.ts town) (S.2.1.1 person) 10).2.1 k)), .int (nI l)] [] (ν, fg_rho (some (104 + 14 * town), R.2.1, some (104 + 14 * town), R.2.2.2), 304) := by
          intro m
          induction m with
          | zero => intro k l ν h; exact absurd h (Nat.not_lt_zero _)
          | succ m ih =>
            intro k l ν hm hlk haq hax hsk hno
            have hsl := fg_SK_lt hok hm0 hsk
            have hmk := fg_BF_lt hok hm0 hsl.2.1
            refine fg_iload (fg_ft (pc := 72) tb_Fb_row 33 rfl) rfl ?_
            refine fg_if_leN (tgt := 116) (fg_ft (pc := 74) tb_Fb_row 34 rfl) (by decide) (by omega) (fun c74 => (absurd c74 (by omega))) (fun c74 => ?_)
            refine fg_iload (fg_ft (pc := 77) tb_Fb_row 35 rfl) rfl ?_
            refine fg_iconst (fg_ft (pc := 79) tb_Fb_row 36 rfl) ic_m1 ?_
            refine fg_icmp_eqM (tgt := 116) (fg_ft (pc := 80) tb_Fb_row 37 rfl) (by decide) ((by omega)) (fun c80 => (absurd c80 (by omega))) (fun c80 => ?_)
            refine fg_iload (fg_ft (pc := 83) tb_Fb_row 38 rfl) rfl ?_
            refine fg_iload (fg_ft (pc := 85) tb_Fb_row 39 rfl) rfl ?_
            refine fg_iandN (fg_ft (pc := 87) tb_Fb_row 40 rfl) ?_
            refine fg_if_neN (tgt := 101) (fg_ft (pc := 88) tb_Fb_row 41 rfl) (by decide) (Nat.lt_of_le_of_lt Nat.and_le_left (by omega)) (fun c88 => ?_) (fun c88 => ?_)
            · refine fg_aloadn (fg_ft (pc := 101) tb_Fb_row 48 rfl) rfl ?_
              refine fg_getR (fg_ft (pc := 102) tb_Fb_row 49 rfl) ff_Fb_44 ly_100 rfl (fg_lt ly_100 (by decide)) (rh_100_6 (some (104 + 14 * town), R.2.1, some (104 + 14 * town), R.2.2.2)) ?_
              refine fg_callV (fg_ft (pc := 105) tb_Fb_row 50 rfl) cf_Fb_271 (fg_isOf ly_281 rfl (fg_lt ly_281 (by decide))) (as := []) (st := []) rfl rfl (Nat.le_of_ble_eq_true rfl) (Nat.le_refl _) (Nat.le_refl _) (ev_Search_nextX (R := (some (104 + 14 * town), R.2.1, some (104 + 14 * town), R.2.2.2)) ht (fg_TWp.agX ht hT1 hax) hok rfl hm0 (by decide) hsk (fun μ2 hos2 hsk2 => ?_) (fun μ2 hos2 hsr2 hle2 => ?_))
              · refine fg_istore (fg_ft (pc := 108) tb_Fb_row 51 rfl) (Nat.le_of_ble_eq_true rfl) ?_
                refine fg_iinc (fg_ft (pc := 110) tb_Fb_row 52 rfl) rfl (v := nI (l - 1)) (fg_dec (by omega)) ?_
                refine fg_goto (tgt := 72) (fg_ft (pc := 113) tb_Fb_row 53 rfl) (by decide) ?_
                exact ih (k + 1) (l - 1) μ2 (by omega) (by omega) (fg_agQ_tr haq (fg_agQ_S hos2)) (fg_agX_tr hax (fg_agX_S hos2)) hsk2 (fun j hj => by
                  rcases Nat.lt_or_ge j k with g | g
                  · exact hno j g
                  · obtain rfl : j = k := by omega
                    first | exact fun hh => c88 hh.1 | exact fun hh => c98 hh.2)
              · refine fg_istore (fg_ft (pc := 108) tb_Fb_row 51 rfl) (Nat.le_of_ble_eq_true rfl) ?_
                refine fg_iinc (fg_ft (pc := 110) tb_Fb_row 52 rfl) rfl (v := nI (l - 1)) (fg_dec (by omega)) ?_
                refine fg_goto (tgt := 72) (fg_ft (pc := 113) tb_Fb_row 53 rfl) (by decide) ?_
                refine fg_iload (fg_ft (pc := 72) tb_Fb_row 33 rfl) rfl ?_
                refine fg_if_leN (tgt := 116) (fg_ft (pc := 74) tb_Fb_row 34 rfl) (by decide) (by omega) (fun c74 => ?_) (fun c74 => ?_)
                · refine fg_aloadn (fg_ft (pc := 116) tb_Fb_row 54 rfl) rfl ?_
                  refine fg_getR (fg_ft (pc := 117) tb_Fb_row 55 rfl) ff_Fb_44 ly_100 rfl (fg_lt ly_100 (by decide)) (rh_100_6 (some (104 + 14 * town), R.2.1, some (104 + 14 * town), R.2.2.2)) ?_
                  refine fg_iload (fg_ft (pc := 120) tb_Fb_row 56 rfl) rfl ?_
                  refine fg_iload (fg_ft (pc := 122) tb_Fb_row 57 rfl) rfl ?_
                  refine fg_callV (fg_ft (pc := 124) tb_Fb_row 58 rfl) cf_Fb_274 (fg_isOf ly_281 rfl (fg_lt ly_281 (by decide))) (as := [.int (-1), .int what]) (st := []) rfl rfl (Nat.le_of_ble_eq_true rfl) (Nat.le_refl _) (Nat.le_refl _) (ev_Search_tellNone ?_)
                  exact fg_iret (fg_ft (pc := 127) tb_Fb_row 59 rfl) rfl rfl (fg_q (hQ _ (some (104 + 14 * town), R.2.1, some (104 + 14 * town), R.2.2.2) (fg_agQ_tr haq (fg_agQ_S hos2))) (by unfold an_row; rw [fg_g1_some y4 y5]; rw [if_pos c26, if_pos c39]; rw [fg_srch_none (fun j hj => by
          rcases Nat.lt_or_ge j k with g | g
          · exact hno j g
          · obtain rfl : j = k := by omega
            first | exact fun hh => c88 hh.1 | exact fun hh => c98 hh.2)]))
                · refine fg_iload (fg_ft (pc := 77) tb_Fb_row 35 rfl) rfl ?_
                  refine fg_iconst (fg_ft (pc := 79) tb_Fb_row 36 rfl) ic_m1 ?_
                  refine fg_icmp_eq (tgt := 116) (fg_ft (pc := 80) tb_Fb_row 37 rfl) (by decide) (fun c80 => ?_) (fun c80 => (absurd rfl c80))
                  refine fg_aloadn (fg_ft (pc := 116) tb_Fb_row 54 rfl) rfl ?_
                  refine fg_getR (fg_ft (pc := 117) tb_Fb_row 55 rfl) ff_Fb_44 ly_100 rfl (fg_lt ly_100 (by decide)) (rh_100_6 (some (104 + 14 * town), R.2.1, some (104 + 14 * town), R.2.2.2)) ?_
                  refine fg_iload (fg_ft (pc := 120) tb_Fb_row 56 rfl) rfl ?_
                  refine fg_iload (fg_ft (pc := 122) tb_Fb_row 57 rfl) rfl ?_
                  refine fg_callV (fg_ft (pc := 124) tb_Fb_row 58 rfl) cf_Fb_274 (fg_isOf ly_281 rfl (fg_lt ly_281 (by decide))) (as := [.int (-1), .int what]) (st := []) rfl rfl (Nat.le_of_ble_eq_true rfl) (Nat.le_refl _) (Nat.le_refl _) (ev_Search_tellNone ?_)
                  exact fg_iret (fg_ft (pc := 127) tb_Fb_row 59 rfl) rfl rfl (fg_q (hQ _ (some (104 + 14 * town), R.2.1, some (104 + 14 * town), R.2.2.2) (fg_agQ_tr haq (fg_agQ_S hos2))) (by unfold an_row; rw [fg_g1_some y4 y5]; rw [if_pos c26, if_pos c39]; rw [fg_srch_none (fun j hj => by
          rcases Nat.lt_or_ge j k with g | g
          · exact hno j g
          · obtain rfl : j = k := by omega
            first | exact fun hh => c88 hh.1 | exact fun hh => c98 hh.2)]))
            · refine fg_iload (fg_ft (pc := 91) tb_Fb_row 42 rfl) rfl ?_
              refine fg_iload (fg_ft (pc := 93) tb_Fb_row 43 rfl) rfl ?_
              refine fg_iconst (fg_ft (pc := 95) tb_Fb_row 44 rfl) ic_m1 ?_
              refine fg_ixor (fg_ft (pc := 96) tb_Fb_row 45 rfl) ?_
              refine fg_iandD (fg_ft (pc := 97) tb_Fb_row 46 rfl) ?_
              refine fg_if_eqN (tgt := 116) (fg_ft (pc := 98) tb_Fb_row 47 rfl) (by decide) (fg_df_le31 (by omega)) (fun c98 => ?_) (fun c98 => ?_)
              · refine fg_aloadn (fg_ft (pc := 116) tb_Fb_row 54 rfl) rfl ?_
                refine fg_getR (fg_ft (pc := 117) tb_Fb_row 55 rfl) ff_Fb_44 ly_100 rfl (fg_lt ly_100 (by decide)) (rh_100_6 (some (104 + 14 * town), R.2.1, some (104 + 14 * town), R.2.2.2)) ?_
                refine fg_iload (fg_ft (pc := 120) tb_Fb_row 56 rfl) rfl ?_
                refine fg_iload (fg_ft (pc := 122) tb_Fb_row 57 rfl) rfl ?_
                refine fg_callV (fg_ft (pc := 124) tb_Fb_row 58 rfl) cf_Fb_274 (fg_isOf ly_281 rfl (fg_lt ly_281 (by decide))) (as := [.int (nI ((fg_BF (A.ts town) (S.2.1.1 person) 10).2.1 k)), .int what]) (st := []) rfl rfl (Nat.le_of_ble_eq_true rfl) (Nat.le_refl _) (Nat.le_refl _) (ev_Search_tellX (R := (some (104 + 14 * town), R.2.1, some (104 + 14 * town), R.2.2.2)) hok hm0 hsk (x := what) ?_)
                exact fg_iret (fg_ft (pc := 127) tb_Fb_row 59 rfl) rfl rfl (fg_q (hQ _ (some (104 + 14 * town), R.2.1, some (104 + 14 * town), R.2.2.2) haq) (by unfold an_row; rw [fg_g1_some y4 y5]; rw [if_pos c26, if_pos c39]; rw [fg_srch_some hsl.2.1 ⟨c88, c98⟩ hno]))
              · refine fg_aloadn (fg_ft (pc := 101) tb_Fb_row 48 rfl) rfl ?_
                refine fg_getR (fg_ft (pc := 102) tb_Fb_row 49 rfl) ff_Fb_44 ly_100 rfl (fg_lt ly_100 (by decide)) (rh_100_6 (some (104 + 14 * town), R.2.1, some (104 + 14 * town), R.2.2.2)) ?_
                refine fg_callV (fg_ft (pc := 105) tb_Fb_row 50 rfl) cf_Fb_271 (fg_isOf ly_281 rfl (fg_lt ly_281 (by decide))) (as := []) (st := []) rfl rfl (Nat.le_of_ble_eq_true rfl) (Nat.le_refl _) (Nat.le_refl _) (ev_Search_nextX (R := (some (104 + 14 * town), R.2.1, some (104 + 14 * town), R.2.2.2)) ht (fg_TWp.agX ht hT1 hax) hok rfl hm0 (by decide) hsk (fun μ2 hos2 hsk2 => ?_) (fun μ2 hos2 hsr2 hle2 => ?_))
                · refine fg_istore (fg_ft (pc := 108) tb_Fb_row 51 rfl) (Nat.le_of_ble_eq_true rfl) ?_
                  refine fg_iinc (fg_ft (pc := 110) tb_Fb_row 52 rfl) rfl (v := nI (l - 1)) (fg_dec (by omega)) ?_
                  refine fg_goto (tgt := 72) (fg_ft (pc := 113) tb_Fb_row 53 rfl) (by decide) ?_
                  exact ih (k + 1) (l - 1) μ2 (by omega) (by omega) (fg_agQ_tr haq (fg_agQ_S hos2)) (fg_agX_tr hax (fg_agX_S hos2)) hsk2 (fun j hj => by
                    rcases Nat.lt_or_ge j k with g | g
                    · exact hno j g
                    · obtain rfl : j = k := by omega
                      first | exact fun hh => c88 hh.1 | exact fun hh => c98 hh.2)
                · refine fg_istore (fg_ft (pc := 108) tb_Fb_row 51 rfl) (Nat.le_of_ble_eq_true rfl) ?_
                  refine fg_iinc (fg_ft (pc := 110) tb_Fb_row 52 rfl) rfl (v := nI (l - 1)) (fg_dec (by omega)) ?_
                  refine fg_goto (tgt := 72) (fg_ft (pc := 113) tb_Fb_row 53 rfl) (by decide) ?_
                  refine fg_iload (fg_ft (pc := 72) tb_Fb_row 33 rfl) rfl ?_
                  refine fg_if_leN (tgt := 116) (fg_ft (pc := 74) tb_Fb_row 34 rfl) (by decide) (by omega) (fun c74 => ?_) (fun c74 => ?_)
                  · refine fg_aloadn (fg_ft (pc := 116) tb_Fb_row 54 rfl) rfl ?_
                    refine fg_getR (fg_ft (pc := 117) tb_Fb_row 55 rfl) ff_Fb_44 ly_100 rfl (fg_lt ly_100 (by decide)) (rh_100_6 (some (104 + 14 * town), R.2.1, some (104 + 14 * town), R.2.2.2)) ?_
                    refine fg_iload (fg_ft (pc := 120) tb_Fb_row 56 rfl) rfl ?_
                    refine fg_iload (fg_ft (pc := 122) tb_Fb_row 57 rfl) rfl ?_
                    refine fg_callV (fg_ft (pc := 124) tb_Fb_row 58 rfl) cf_Fb_274 (fg_isOf ly_281 rfl (fg_lt ly_281 (by decide))) (as := [.int (-1), .int what]) (st := []) rfl rfl (Nat.le_of_ble_eq_true rfl) (Nat.le_refl _) (Nat.le_refl _) (ev_Search_tellNone ?_)
                    exact fg_iret (fg_ft (pc := 127) tb_Fb_row 59 rfl) rfl rfl (fg_q (hQ _ (some (104 + 14 * town), R.2.1, some (104 + 14 * town), R.2.2.2) (fg_agQ_tr haq (fg_agQ_S hos2))) (by unfold an_row; rw [fg_g1_some y4 y5]; rw [if_pos c26, if_pos c39]; rw [fg_srch_none (fun j hj => by
          rcases Nat.lt_or_ge j k with g | g
          · exact hno j g
          · obtain rfl : j = k := by omega
            first | exact fun hh => c88 hh.1 | exact fun hh => c98 hh.2)]))
                  · refine fg_iload (fg_ft (pc := 77) tb_Fb_row 35 rfl) rfl ?_
                    refine fg_iconst (fg_ft (pc := 79) tb_Fb_row 36 rfl) ic_m1 ?_
                    refine fg_icmp_eq (tgt := 116) (fg_ft (pc := 80) tb_Fb_row 37 rfl) (by decide) (fun c80 => ?_) (fun c80 => (absurd rfl c80))
                    refine fg_aloadn (fg_ft (pc := 116) tb_Fb_row 54 rfl) rfl ?_
                    refine fg_getR (fg_ft (pc := 117) tb_Fb_row 55 rfl) ff_Fb_44 ly_100 rfl (fg_lt ly_100 (by decide)) (rh_100_6 (some (104 + 14 * town), R.2.1, some (104 + 14 * town), R.2.2.2)) ?_
                    refine fg_iload (fg_ft (pc := 120) tb_Fb_row 56 rfl) rfl ?_
                    refine fg_iload (fg_ft (pc := 122) tb_Fb_row 57 rfl) rfl ?_
                    refine fg_callV (fg_ft (pc := 124) tb_Fb_row 58 rfl) cf_Fb_274 (fg_isOf ly_281 rfl (fg_lt ly_281 (by decide))) (as := [.int (-1), .int what]) (st := []) rfl rfl (Nat.le_of_ble_eq_true rfl) (Nat.le_refl _) (Nat.le_refl _) (ev_Search_tellNone ?_)
                    exact fg_iret (fg_ft (pc := 127) tb_Fb_row 59 rfl) rfl rfl (fg_q (hQ _ (some (104 + 14 * town), R.2.1, some (104 + 14 * town), R.2.2.2) (fg_agQ_tr haq (fg_agQ_S hos2))) (by unfold an_row; rw [fg_g1_some y4 y5]; rw [if_pos c26, if_pos c39]; rw [fg_srch_none (fun j hj => by
          rcases Nat.lt_or_ge j k with g | g
          · exact hno j g
          · obtain rfl : j = k := by omega
            first | exact fun hh => c88 hh.1 | exact fun hh => c98 hh.2)]))
        exact loop 1025 0 1024 μs (by decide) (by decide) (fg_agQ_tr (fg_agQ_F (Or.inl rfl) ho1) (fg_agQ_S hos)) (fg_agX_tr (fg_agX_rf μ1) (fg_agX_S hos)) hsk (fun j hj => absurd hj (Nat.not_lt_zero _))
      · refine fg_iconst (fg_ft (pc := 42) tb_Fb_row 19 rfl) ic_m1 ?_
        exact fg_iret (fg_ft (pc := 43) tb_Fb_row 20 rfl) rfl rfl (fg_q (hQ _ (some (104 + 14 * town), R.2.1, R.2.2.1, R.2.2.2) (fg_agQ_F (Or.inl rfl) ho1)) (by unfold an_row; rw [fg_g1_some y4 y5] <;> ((repeat (first | rw [if_pos (by assumption)] | rw [if_neg (by assumption)] | rw [if_pos (by omega)] | rw [if_neg (by omega)] | rw [if_pos (by constructor <;> assumption)] | rw [if_neg (by intro hh; exact absurd hh.1 (by assumption))] | rw [if_neg (by intro hh; exact absurd hh.2 (by assumption))])); (try rfl))))
