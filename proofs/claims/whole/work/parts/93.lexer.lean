/-! a text's tokens -/
def pz_run (P : Nat → Bool) : Nat → Nat → Nat
  | 0, n => n
  | f + 1, n => if P n = true then pz_run P f (n + 1) else n
theorem pz_run_of {P : Nat → Bool} : ∀ f n r, n ≤ r → r ≤ n + f → (∀ k, n ≤ k → k < r → P k = true) → (r < n + f → P r = false) → pz_run P f n = r := by
  intro f
  induction f with
  | zero => intro n r h1 h2 _ _; show n = r; omega
  | succ f ih =>
    intro n r h1 h2 h3 h4
    unfold pz_run
    rcases Nat.eq_or_lt_of_le h1 with e | e
    · rw [if_neg (by rw [e, h4 (by omega)]; decide)]; exact e
    · rw [if_pos (h3 n (Nat.le_refl _) e)]
      exact ih (n + 1) r e (by omega) (fun k k1 k2 => h3 k (by omega) k2) (fun hh => h4 (by omega))
theorem pz_run_sp {P : Nat → Bool} : ∀ f n, n ≤ pz_run P f n ∧ pz_run P f n ≤ n + f ∧ (∀ k, n ≤ k → k < pz_run P f n → P k = true) ∧ (pz_run P f n < n + f → P (pz_run P f n) = false) := by
  intro f
  induction f with
  | zero => intro n; refine ⟨Nat.le_refl _, Nat.le_refl _, fun k k1 k2 => ?_, fun h => ?_⟩
            · have k3 : k < n := k2
              omega
            · have h3 : n < n + 0 := h
              omega
  | succ f ih =>
    intro n
    by_cases c : P n = true
    · have e : pz_run P (f + 1) n = pz_run P f (n + 1) := if_pos c
      rw [e]
      obtain ⟨a1, a2, a3, a4⟩ := ih (n + 1)
      refine ⟨by omega, by omega, fun k k1 k2 => ?_, fun h => a4 (by omega)⟩
      rcases Nat.eq_or_lt_of_le k1 with q | q
      · rw [← q]; exact c
      · exact a3 k q k2
    · have e : pz_run P (f + 1) n = n := if_neg c
      rw [e]
      exact ⟨Nat.le_refl _, by omega, fun k k1 k2 => absurd k1 (by omega), fun _ => by simpa using c⟩
/-- a run of bytes of a kind that are there -/
theorem pz_ru {P : Nat → Bool} {len n : Nat} (hP : ∀ k, P k = true → k < len) (hn : n ≤ len) : n ≤ pz_run P len n ∧ pz_run P len n ≤ len ∧ (∀ k, n ≤ k → k < pz_run P len n → P k = true) ∧ P (pz_run P len n) = false := by
  obtain ⟨a1, a2, a3, a4⟩ := pz_run_sp (P := P) len n
  have a5 : pz_run P len n ≤ len := by
    rcases Nat.eq_or_lt_of_le a1 with e | e
    · omega
    · have := hP (pz_run P len n - 1) (a3 _ (by omega) (by omega)); omega
  refine ⟨a1, a5, a3, ?_⟩
  rcases Nat.lt_or_ge (pz_run P len n) (n + len) with q | q
  · exact a4 q
  · cases hh : P (pz_run P len n) with
    | false => rfl
    | true => have := hP _ hh; omega
theorem pz_ru_of {P : Nat → Bool} {len n r : Nat} (hr : n ≤ r) (hl : r ≤ len) (h3 : ∀ k, n ≤ k → k < r → P k = true) (h4 : P r = false) : pz_run P len n = r := pz_run_of len n r hr (by omega) h3 (fun _ => h4)
def pz_bl (b : Nat → Nat) (len : Nat) : Nat → Bool := fun k => decide (k < len ∧ (b k = 10 ∨ b k = 32))
def pz_lt (b : Nat → Nat) (len : Nat) : Nat → Bool := fun k => decide (k < len ∧ 97 ≤ b k ∧ b k ≤ 122)
def pz_dg (b : Nat → Nat) (len : Nat) : Nat → Bool := fun k => decide (k < len ∧ 48 ≤ b k ∧ b k ≤ 57)
theorem pz_bl_lt {b : Nat → Nat} {len k : Nat} (h : pz_bl b len k = true) : k < len := (of_decide_eq_true h).1
theorem pz_lt_lt {b : Nat → Nat} {len k : Nat} (h : pz_lt b len k = true) : k < len := (of_decide_eq_true h).1
theorem pz_dg_lt {b : Nat → Nat} {len k : Nat} (h : pz_dg b len k = true) : k < len := (of_decide_eq_true h).1
def pz_hv (b : Nat → Nat) (s : Nat) : Nat → Nat
  | 0 => 0
  | k + 1 => 32 * pz_hv b s k + (b (s + k) - 96)
def pz_nv (b : Nat → Nat) (s : Nat) : Nat → Nat
  | 0 => 0
  | k + 1 => pz_nv b s k * 10 + (b (s + k) - 48)
def pz_sp : Nat → List Nat
  | 0 => [102, 97, 99, 116, 115]
  | 1 => [114, 117, 108, 101]
  | 2 => [111, 110, 101]
  | 3 => [107, 110, 111, 119, 115]
  | 4 => [111, 117, 116]
  | 5 => [115, 105, 103, 110]
  | 6 => [109, 101, 101, 116]
  | 7 => [115, 107, 105, 108, 108]
  | 8 => [104, 117, 114, 116]
  | 9 => [112, 114, 105, 99, 101]
  | 10 => [119, 104, 111, 108, 101]
  | 11 => [108, 101, 97, 115, 116]
  | 12 => [108, 97, 116, 101]
  | 13 => [104, 97, 108, 102]
  | 14 => [108, 101, 97, 114, 110]
  | 15 => [97, 115, 107]
  | 16 => [104, 111, 117, 114]
  | _ => []
def pz_isw (b : Nat → Nat) (s e w : Nat) : Prop := e - s = (pz_sp w).length ∧ ∀ i, i < (pz_sp w).length → b (s + i) = (pz_sp w).getD i 0
noncomputable def pz_wd (b : Nat → Nat) (s e : Nat) : Option Nat := fg_fst (pz_isw b s e) 17
def pz_s (b : Nat → Nat) (len n : Nat) : Nat := pz_run (pz_bl b len) len n
noncomputable def pz_oW (s e : Nat) (o : Option Nat) : Nat × Nat × Nat × Nat := match o with
  | some w => (s, 3, w, e)
  | none => (s, 4, 0, e)
/-- the token behind n: its start, its kind (0 the end, 1 a number, 2 the closing byte, 3 a word, 4 another one), its number, its end -/
noncomputable def pz_tk (b : Nat → Nat) (len n : Nat) : Nat × Nat × Nat × Nat :=
  if len ≤ pz_s b len n then (pz_s b len n, 0, 0, pz_s b len n)
  else if pz_lt b len (pz_s b len n) = true then pz_oW (pz_s b len n) (pz_run (pz_lt b len) len (pz_s b len n)) (pz_wd b (pz_s b len n) (pz_run (pz_lt b len) len (pz_s b len n)))
  else if pz_dg b len (pz_s b len n) = true then (if pz_run (pz_dg b len) len (pz_s b len n) - pz_s b len n ≤ 2 then (pz_s b len n, 1, pz_nv b (pz_s b len n) (pz_run (pz_dg b len) len (pz_s b len n) - pz_s b len n), pz_run (pz_dg b len) len (pz_s b len n)) else (pz_s b len n, 4, 0, pz_run (pz_dg b len) len (pz_s b len n)))
  else if b (pz_s b len n) = 59 then (pz_s b len n, 2, 0, pz_s b len n + 1) else (pz_s b len n, 4, 0, pz_s b len n + 1)
/-- the class's sign of the token behind n -/
def pz_tc (b : Nat → Nat) (len n : Nat) : Nat :=
  if len ≤ pz_s b len n then 101 else if pz_lt b len (pz_s b len n) = true then 119
  else if pz_dg b len (pz_s b len n) = true then (if pz_run (pz_dg b len) len (pz_s b len n) - pz_s b len n ≤ 2 then 110 else 98)
  else if b (pz_s b len n) = 59 then 59 else 98
noncomputable def pz_tq (b : Nat → Nat) (len : Nat) : Nat → Nat × Nat × Nat × Nat
  | 0 => pz_tk b len 0
  | i + 1 => pz_tk b len (pz_tq b len i).2.2.2
noncomputable def pz_S (b : Nat → Nat) (len i : Nat) : Nat := (pz_tq b len i).1
noncomputable def pz_K (b : Nat → Nat) (len i : Nat) : Nat := (pz_tq b len i).2.1
noncomputable def pz_V (b : Nat → Nat) (len i : Nat) : Nat := (pz_tq b len i).2.2.1
noncomputable def pz_E (b : Nat → Nat) (len i : Nat) : Nat := (pz_tq b len i).2.2.2
/-- where token i is looked for -/
noncomputable def pz_N (b : Nat → Nat) (len : Nat) : Nat → Nat
  | 0 => 0
  | i + 1 => pz_E b len i
theorem pz_tq_e (b : Nat → Nat) (len : Nat) (i : Nat) : pz_tq b len i = pz_tk b len (pz_N b len i) := by
  cases i <;> rfl
theorem pz_nv_le {b : Nat → Nat} {len s e : Nat} (h : ∀ k, s ≤ k → k < e → pz_dg b len k = true) (h2 : e - s ≤ 2) : pz_nv b s (e - s) ≤ 99 := by
  have hd : ∀ i, i < e - s → b (s + i) - 48 ≤ 9 := fun i hi => by
    have := (of_decide_eq_true (h (s + i) (by omega) (by omega))).2; omega
  rcases (show e - s = 0 ∨ e - s = 1 ∨ e - s = 2 by omega) with q | q | q
  · rw [q]; exact Nat.zero_le _
  · rw [q]; have h0 := hd 0 (by omega); show 0 * 10 + (b (s + 0) - 48) ≤ 99; omega
  · rw [q]; have h0 := hd 0 (by omega); have h1 := hd 1 (by omega); show (0 * 10 + (b (s + 0) - 48)) * 10 + (b (s + 1) - 48) ≤ 99; omega
/-- what holds of a token -/
theorem pz_tk_sp {b : Nat → Nat} {len n : Nat} (hn : n ≤ len) : n ≤ (pz_tk b len n).1 ∧ (pz_tk b len n).1 ≤ (pz_tk b len n).2.2.2 ∧ (pz_tk b len n).2.2.2 ≤ len ∧ (pz_tk b len n).2.1 ≤ 4 ∧ ((pz_tk b len n).2.1 = 0 → (pz_tk b len n).1 = len) ∧ ((pz_tk b len n).2.1 ≠ 0 → (pz_tk b len n).1 < (pz_tk b len n).2.2.2) ∧ (pz_tk b len n).2.2.1 ≤ 99 ∧ ((pz_tk b len n).2.1 = 3 → (pz_tk b len n).2.2.1 < 17) := by
  obtain ⟨s1, s2, -, -⟩ := pz_ru (P := pz_bl b len) (fun k => pz_bl_lt) hn
  have e0 : pz_run (pz_bl b len) len n = pz_s b len n := rfl
  rw [e0] at s1 s2
  unfold pz_tk
  by_cases c0 : len ≤ pz_s b len n
  · rw [if_pos c0]; exact ⟨s1, Nat.le_refl _, s2, Nat.zero_le _, fun _ => Nat.le_antisymm s2 c0, fun h => absurd rfl h, Nat.zero_le _, fun h => absurd h (by show ¬ 0 = 3; decide)⟩
  rw [if_neg c0]
  by_cases c1 : pz_lt b len (pz_s b len n) = true
  · rw [if_pos c1]
    obtain ⟨t1, t2, t3, t4⟩ := pz_ru (P := pz_lt b len) (fun k => pz_lt_lt) s2
    have t5 : pz_s b len n < pz_run (pz_lt b len) len (pz_s b len n) := by
      rcases Nat.eq_or_lt_of_le t1 with q | q
      · rw [← q, c1] at t4; exact absurd t4 (by decide)
      · exact q
    cases hw : pz_wd b (pz_s b len n) (pz_run (pz_lt b len) len (pz_s b len n)) with
    | none => exact ⟨s1, t1, t2, by show 4 ≤ 4; decide, fun h => absurd h (by show ¬ 4 = 0; decide), fun _ => t5, Nat.zero_le _, fun h => absurd h (by show ¬ 4 = 3; decide)⟩
    | some w =>
      have hw17 := (fg_fst_spec 17 w hw).1
      exact ⟨s1, t1, t2, by show 3 ≤ 4; decide, fun h => absurd h (by show ¬ 3 = 0; decide), fun _ => t5, by show w ≤ 99; omega, fun _ => hw17⟩
  rw [if_neg c1]
  by_cases c2 : pz_dg b len (pz_s b len n) = true
  · rw [if_pos c2]
    obtain ⟨t1, t2, t3, t4⟩ := pz_ru (P := pz_dg b len) (fun k => pz_dg_lt) s2
    have t5 : pz_s b len n < pz_run (pz_dg b len) len (pz_s b len n) := by
      rcases Nat.eq_or_lt_of_le t1 with q | q
      · rw [← q, c2] at t4; exact absurd t4 (by decide)
      · exact q
    by_cases c3 : pz_run (pz_dg b len) len (pz_s b len n) - pz_s b len n ≤ 2
    · rw [if_pos c3]; exact ⟨s1, t1, t2, by show 1 ≤ 4; decide, fun h => absurd h (by show ¬ 1 = 0; decide), fun _ => t5, pz_nv_le t3 c3, fun h => absurd h (by show ¬ 1 = 3; decide)⟩
    · rw [if_neg c3]; exact ⟨s1, t1, t2, by show 4 ≤ 4; decide, fun h => absurd h (by show ¬ 4 = 0; decide), fun _ => t5, Nat.zero_le _, fun h => absurd h (by show ¬ 4 = 3; decide)⟩
  rw [if_neg c2]
  by_cases c3 : b (pz_s b len n) = 59
  · rw [if_pos c3]; exact ⟨s1, Nat.le_succ _, by show pz_s b len n + 1 ≤ len; omega, by show 2 ≤ 4; decide, fun h => absurd h (by show ¬ 2 = 0; decide), fun _ => Nat.lt_succ_self _, Nat.zero_le _, fun h => absurd h (by show ¬ 2 = 3; decide)⟩
  · rw [if_neg c3]; exact ⟨s1, Nat.le_succ _, by show pz_s b len n + 1 ≤ len; omega, by show 4 ≤ 4; decide, fun h => absurd h (by show ¬ 4 = 0; decide), fun _ => Nat.lt_succ_self _, Nat.zero_le _, fun h => absurd h (by show ¬ 4 = 3; decide)⟩
theorem pz_N_le (b : Nat → Nat) (len : Nat) : ∀ i, pz_N b len i ≤ len := by
  intro i
  induction i with
  | zero => exact Nat.zero_le _
  | succ i ih =>
    show (pz_tq b len i).2.2.2 ≤ len
    rw [pz_tq_e]
    exact (pz_tk_sp ih).2.2.1
theorem pz_sp_i (b : Nat → Nat) (len i : Nat) : pz_N b len i ≤ pz_S b len i ∧ pz_S b len i ≤ pz_E b len i ∧ pz_E b len i ≤ len ∧ pz_K b len i ≤ 4 ∧ (pz_K b len i = 0 → pz_S b len i = len) ∧ (pz_K b len i ≠ 0 → pz_S b len i < pz_E b len i) ∧ pz_V b len i ≤ 99 ∧ (pz_K b len i = 3 → pz_V b len i < 17) := by
  have h := pz_tk_sp (b := b) (pz_N_le b len i)
  unfold pz_S pz_K pz_V pz_E
  rw [pz_tq_e]
  exact h
/-- tokens are as many as bytes at most -/
theorem pz_i_le {b : Nat → Nat} {len : Nat} : ∀ i, (∀ k, k < i → pz_K b len k ≠ 0) → i ≤ pz_N b len i := by
  intro i
  induction i with
  | zero => intro _; exact Nat.le_refl _
  | succ i ih =>
    intro h
    have h1 := ih (fun k hk => h k (by omega))
    have h2 := pz_sp_i b len i
    have h3 := h2.2.2.2.2.2.1 (h i (Nat.lt_succ_self _))
    show i + 1 ≤ pz_E b len i
    omega
/-- behind the end there is the end -/
theorem pz_K0 {b : Nat → Nat} {len i : Nat} (h : pz_K b len i = 0) : pz_K b len (i + 1) = 0 := by
  have h2 := pz_sp_i b len i
  have h3 := h2.2.2.2.2.1 h
  have h4 : pz_E b len i = len := by omega
  have h5 : pz_N b len (i + 1) = len := h4
  unfold pz_K
  rw [pz_tq_e, h5]
  have h6 := (pz_ru (P := pz_bl b len) (n := len) (fun k => pz_bl_lt) (Nat.le_refl _)).1
  unfold pz_tk
  rw [if_pos (show len ≤ pz_s b len len from h6)]
theorem pz_K_lt {b : Nat → Nat} {len i : Nat} (h : pz_K b len i ≠ 0) : i < len := by
  have h1 : ∀ k, k ≤ i → pz_K b len k ≠ 0 := by
    intro k hk hz
    have : ∀ m, pz_K b len (k + m) = 0 := by
      intro m
      induction m with
      | zero => exact hz
      | succ m im => exact pz_K0 im
    have h9 := this (i - k)
    rw [show k + (i - k) = i by omega] at h9
    exact h h9
  have h2 := pz_i_le (b := b) (len := len) i (fun k hk => h1 k (by omega))
  have h3 := pz_sp_i b len i
  have h4 := h3.2.2.2.2.2.1 h
  omega
/-- the class's sign -/
theorem pz_tc_sp (b : Nat → Nat) (len n : Nat) : (pz_tc b len n = 101 ↔ (pz_tk b len n).2.1 = 0) ∧ (pz_tc b len n = 110 ↔ (pz_tk b len n).2.1 = 1) ∧ (pz_tc b len n = 59 ↔ (pz_tk b len n).2.1 = 2) ∧ (pz_tc b len n = 119 → pz_tk b len n = pz_oW (pz_s b len n) (pz_run (pz_lt b len) len (pz_s b len n)) (pz_wd b (pz_s b len n) (pz_run (pz_lt b len) len (pz_s b len n)))) ∧ (pz_tc b len n ≠ 119 → (pz_tk b len n).2.1 ≠ 3) ∧ pz_tc b len n < 128 := by
  unfold pz_tc pz_tk
  by_cases c0 : len ≤ pz_s b len n
  · rw [if_pos c0, if_pos c0]; exact ⟨⟨fun _ => rfl, fun _ => rfl⟩, ⟨fun h => absurd h (by decide), fun h => absurd h (by show ¬ 0 = 1; decide)⟩, ⟨fun h => absurd h (by decide), fun h => absurd h (by show ¬ 0 = 2; decide)⟩, fun h => absurd h (by decide), fun _ => by show ¬ 0 = 3; decide, by decide⟩
  rw [if_neg c0, if_neg c0]
  by_cases c1 : pz_lt b len (pz_s b len n) = true
  · rw [if_pos c1, if_pos c1]
    have ho : ∀ (s e : Nat) (o : Option Nat), (pz_oW s e o).2.1 ≠ 0 ∧ (pz_oW s e o).2.1 ≠ 1 ∧ (pz_oW s e o).2.1 ≠ 2 := by
      intro s e o
      cases o with
      | none => exact ⟨by show ¬ 4 = 0; decide, by show ¬ 4 = 1; decide, by show ¬ 4 = 2; decide⟩
      | some w => exact ⟨by show ¬ 3 = 0; decide, by show ¬ 3 = 1; decide, by show ¬ 3 = 2; decide⟩
    obtain ⟨o0, o1, o2⟩ := ho (pz_s b len n) (pz_run (pz_lt b len) len (pz_s b len n)) (pz_wd b (pz_s b len n) (pz_run (pz_lt b len) len (pz_s b len n)))
    exact ⟨⟨fun h => absurd h (by decide), fun h => absurd h o0⟩, ⟨fun h => absurd h (by decide), fun h => absurd h o1⟩, ⟨fun h => absurd h (by decide), fun h => absurd h o2⟩, fun _ => rfl, fun h => absurd rfl h, by decide⟩
  rw [if_neg c1, if_neg c1]
  by_cases c2 : pz_dg b len (pz_s b len n) = true
  · rw [if_pos c2, if_pos c2]
    by_cases c3 : pz_run (pz_dg b len) len (pz_s b len n) - pz_s b len n ≤ 2
    · rw [if_pos c3, if_pos c3]; exact ⟨⟨fun h => absurd h (by decide), fun h => absurd h (by show ¬ 1 = 0; decide)⟩, ⟨fun _ => rfl, fun _ => rfl⟩, ⟨fun h => absurd h (by decide), fun h => absurd h (by show ¬ 1 = 2; decide)⟩, fun h => absurd h (by decide), fun _ => by show ¬ 1 = 3; decide, by decide⟩
    · rw [if_neg c3, if_neg c3]; exact ⟨⟨fun h => absurd h (by decide), fun h => absurd h (by show ¬ 4 = 0; decide)⟩, ⟨fun h => absurd h (by decide), fun h => absurd h (by show ¬ 4 = 1; decide)⟩, ⟨fun h => absurd h (by decide), fun h => absurd h (by show ¬ 4 = 2; decide)⟩, fun h => absurd h (by decide), fun _ => by show ¬ 4 = 3; decide, by decide⟩
  rw [if_neg c2, if_neg c2]
  by_cases c3 : b (pz_s b len n) = 59
  · rw [if_pos c3, if_pos c3]; exact ⟨⟨fun h => absurd h (by decide), fun h => absurd h (by show ¬ 2 = 0; decide)⟩, ⟨fun h => absurd h (by decide), fun h => absurd h (by show ¬ 2 = 1; decide)⟩, ⟨fun _ => rfl, fun _ => rfl⟩, fun h => absurd h (by decide), fun _ => by show ¬ 2 = 3; decide, by decide⟩
  · rw [if_neg c3, if_neg c3]; exact ⟨⟨fun h => absurd h (by decide), fun h => absurd h (by show ¬ 4 = 0; decide)⟩, ⟨fun h => absurd h (by decide), fun h => absurd h (by show ¬ 4 = 1; decide)⟩, ⟨fun h => absurd h (by decide), fun h => absurd h (by show ¬ 4 = 2; decide)⟩, fun h => absurd h (by decide), fun _ => by show ¬ 4 = 3; decide, by decide⟩
/-- a byte of the class's -/
theorem pz_byte {x : Int32} (h : fits (fg_aty (11 - 10)) (.int x) = true) : (fg_nat x % 256 < 128 ∧ x = nI (fg_nat x % 256)) ∨ (128 ≤ fg_nat x % 256 ∧ x < 0) := by
  have h1 : (-128 : Int32) ≤ x ∧ x ≤ (127 : Int32) := by
    have h2 : (decide ((-128 : Int32) ≤ x) && decide (x ≤ (127 : Int32))) = true := h
    rw [Bool.and_eq_true, decide_eq_true_eq, decide_eq_true_eq] at h2
    exact h2
  have h2 : -128 ≤ x.toInt := Int32.le_iff_toInt_le.mp h1.1
  have h3 : x.toInt ≤ 127 := Int32.le_iff_toInt_le.mp h1.2
  have h4 : x.toInt = x.toBitVec.toInt := rfl
  rw [h4, BitVec.toInt_eq_toNat_cond] at h2 h3
  have h5 : fg_nat x = x.toBitVec.toNat := rfl
  have h6 := x.toBitVec.isLt
  by_cases c : 2 * x.toBitVec.toNat < 2 ^ 32
  · rw [if_pos c] at h2 h3
    have h7 : fg_nat x % 256 = fg_nat x := Nat.mod_eq_of_lt (by omega)
    rw [h7]
    exact Or.inl ⟨by omega, (fg_nI_nat x).symm⟩
  · rw [if_neg c] at h2 h3
    refine Or.inr ⟨by omega, ?_⟩
    rw [Int32.lt_iff_toInt_lt, h4, BitVec.toInt_eq_toNat_cond, if_neg c]
    show (x.toBitVec.toNat : Int) - ((2 ^ 32 : Nat) : Int) < 0
    omega
