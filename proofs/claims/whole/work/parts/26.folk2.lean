theorem fg_agF_u {f a k : Nat} {μ : Nat → Nat → Int32} {x : Int32} (h1 : f ≤ a) (h2 : a < f + 4) : fg_agF f μ (fg_u2 μ a k x) := fun b hb j => fg_u2ne (by omega)
theorem fg_FZ.setMind {μ : Nat → Nat → Int32} {f h p m : Nat} {T : Nat → Nat} {Z : fg_Z} {hv lv : Nat → Nat} {o : Option Nat × Nat × Nat} (H : fg_FZ μ f T h Z hv lv o) : fg_FZ (fg_u2 μ (f + 1) p (nI m)) f T h (fg_up1 Z.1 p m, Z.2) hv lv o := by
  obtain ⟨h1, h2, h3, h4, h5, ⟨h6, h7, h8⟩, h9, h10, h11⟩ := H
  have k : ∀ j, fg_u2 μ (f + 1) p (nI m) f j = μ f j := fun j => fg_u2ne (by omega)
  refine ⟨by rw [k]; exact h1, by rw [k]; exact h2, fun q hq => ?_, fun q hq => by rw [fg_u2ne (by omega)]; exact h4 q hq, fun q hq => by rw [fg_u2ne (by omega)]; exact h5 q hq, ⟨by rw [k]; exact h6, by rw [k]; exact h7, by rw [k]; exact h8⟩, by rw [k]; exact h9, by rw [k]; exact h10, by rw [k]; exact h11⟩
  show _ = nI (fg_up1 Z.1 p m q)
  rcases Nat.decEq q p with e | e
  · rw [fg_u2ns e, fg_up1_ne e]; exact h3 q hq
  · rw [e, fg_u2eq, fg_up1_eq]
theorem fg_FZ.setHalf {μ : Nat → Nat → Int32} {f h p m : Nat} {T : Nat → Nat} {Z : fg_Z} {hv lv : Nat → Nat} {o : Option Nat × Nat × Nat} (H : fg_FZ μ f T h Z hv lv o) : fg_FZ (fg_u2 μ (f + 2) p (nI m)) f T h Z (fg_up1 hv p m) lv o := by
  obtain ⟨h1, h2, h3, h4, h5, ⟨h6, h7, h8⟩, h9, h10, h11⟩ := H
  have k : ∀ j, fg_u2 μ (f + 2) p (nI m) f j = μ f j := fun j => fg_u2ne (by omega)
  refine ⟨by rw [k]; exact h1, by rw [k]; exact h2, fun q hq => by rw [fg_u2ne (by omega)]; exact h3 q hq, fun q hq => ?_, fun q hq => by rw [fg_u2ne (by omega)]; exact h5 q hq, ⟨by rw [k]; exact h6, by rw [k]; exact h7, by rw [k]; exact h8⟩, by rw [k]; exact h9, by rw [k]; exact h10, by rw [k]; exact h11⟩
  rcases Nat.decEq q p with e | e
  · rw [fg_u2ns e, fg_up1_ne e]; exact h4 q hq
  · rw [e, fg_u2eq, fg_up1_eq]
theorem fg_FZ.setLoaf {μ : Nat → Nat → Int32} {f h p m : Nat} {T : Nat → Nat} {Z : fg_Z} {hv lv : Nat → Nat} {o : Option Nat × Nat × Nat} (H : fg_FZ μ f T h Z hv lv o) : fg_FZ (fg_u2 μ (f + 3) p (nI m)) f T h Z hv (fg_up1 lv p m) o := by
  obtain ⟨h1, h2, h3, h4, h5, ⟨h6, h7, h8⟩, h9, h10, h11⟩ := H
  have k : ∀ j, fg_u2 μ (f + 3) p (nI m) f j = μ f j := fun j => fg_u2ne (by omega)
  refine ⟨by rw [k]; exact h1, by rw [k]; exact h2, fun q hq => by rw [fg_u2ne (by omega)]; exact h3 q hq, fun q hq => by rw [fg_u2ne (by omega)]; exact h4 q hq, fun q hq => ?_, ⟨by rw [k]; exact h6, by rw [k]; exact h7, by rw [k]; exact h8⟩, by rw [k]; exact h9, by rw [k]; exact h10, by rw [k]; exact h11⟩
  rcases Nat.decEq q p with e | e
  · rw [fg_u2ns e, fg_up1_ne e]; exact h5 q hq
  · rw [e, fg_u2eq, fg_up1_eq]
theorem fg_FZ.setHour {μ : Nat → Nat → Int32} {f h m : Nat} {T : Nat → Nat} {Z : fg_Z} {hv lv : Nat → Nat} {o : Option Nat × Nat × Nat} (H : fg_FZ μ f T h Z hv lv o) : fg_FZ (fg_u2 μ f 2 (nI m)) f T m Z hv lv o := by
  obtain ⟨h1, h2, h3, h4, h5, ⟨h6, h7, h8⟩, h9, h10, h11⟩ := H
  exact ⟨(fg_u2ns (by decide)).trans h1, fg_u2eq, fun q hq => (fg_u2ne (by omega)).trans (h3 q hq), fun q hq => (fg_u2ne (by omega)).trans (h4 q hq), fun q hq => (fg_u2ne (by omega)).trans (h5 q hq), ⟨(fg_u2ns (by decide)).trans h6, (fg_u2ns (by decide)).trans h7, (fg_u2ns (by decide)).trans h8⟩, (fg_u2ns (by decide)).trans h9, (fg_u2ns (by decide)).trans h10, (fg_u2ns (by decide)).trans h11⟩
theorem fg_FZ.setNews {μ : Nat → Nat → Int32} {f h m : Nat} {T : Nat → Nat} {Z : fg_Z} {hv lv : Nat → Nat} {o : Option Nat × Nat × Nat} (H : fg_FZ μ f T h Z hv lv o) : fg_FZ (fg_u2 μ f 9 (nI m)) f T h (Z.1, m, Z.2.2.1, Z.2.2.2) hv lv o := by
  obtain ⟨h1, h2, h3, h4, h5, ⟨h6, h7, h8⟩, h9, h10, h11⟩ := H
  exact ⟨(fg_u2ns (by decide)).trans h1, (fg_u2ns (by decide)).trans h2, fun q hq => (fg_u2ne (by omega)).trans (h3 q hq), fun q hq => (fg_u2ne (by omega)).trans (h4 q hq), fun q hq => (fg_u2ne (by omega)).trans (h5 q hq), ⟨(fg_u2ns (by decide)).trans h6, (fg_u2ns (by decide)).trans h7, (fg_u2ns (by decide)).trans h8⟩, fg_u2eq, (fg_u2ns (by decide)).trans h10, (fg_u2ns (by decide)).trans h11⟩
theorem fg_FZ.setBusy {μ : Nat → Nat → Int32} {f h m : Nat} {T : Nat → Nat} {Z : fg_Z} {hv lv : Nat → Nat} {o : Option Nat × Nat × Nat} (H : fg_FZ μ f T h Z hv lv o) : fg_FZ (fg_u2 μ f 10 (nI m)) f T h (Z.1, Z.2.1, m, Z.2.2.2) hv lv o := by
  obtain ⟨h1, h2, h3, h4, h5, ⟨h6, h7, h8⟩, h9, h10, h11⟩ := H
  exact ⟨(fg_u2ns (by decide)).trans h1, (fg_u2ns (by decide)).trans h2, fun q hq => (fg_u2ne (by omega)).trans (h3 q hq), fun q hq => (fg_u2ne (by omega)).trans (h4 q hq), fun q hq => (fg_u2ne (by omega)).trans (h5 q hq), ⟨(fg_u2ns (by decide)).trans h6, (fg_u2ns (by decide)).trans h7, (fg_u2ns (by decide)).trans h8⟩, (fg_u2ns (by decide)).trans h9, fg_u2eq, (fg_u2ns (by decide)).trans h11⟩
theorem fg_FZ.setLoud {μ : Nat → Nat → Int32} {f h m : Nat} {T : Nat → Nat} {Z : fg_Z} {hv lv : Nat → Nat} {o : Option Nat × Nat × Nat} (H : fg_FZ μ f T h Z hv lv o) : fg_FZ (fg_u2 μ f 11 (nI m)) f T h (Z.1, Z.2.1, Z.2.2.1, m) hv lv o := by
  obtain ⟨h1, h2, h3, h4, h5, ⟨h6, h7, h8⟩, h9, h10, h11⟩ := H
  exact ⟨(fg_u2ns (by decide)).trans h1, (fg_u2ns (by decide)).trans h2, fun q hq => (fg_u2ne (by omega)).trans (h3 q hq), fun q hq => (fg_u2ne (by omega)).trans (h4 q hq), fun q hq => (fg_u2ne (by omega)).trans (h5 q hq), ⟨(fg_u2ns (by decide)).trans h6, (fg_u2ns (by decide)).trans h7, (fg_u2ns (by decide)).trans h8⟩, (fg_u2ns (by decide)).trans h9, (fg_u2ns (by decide)).trans h10, fg_u2eq⟩
/-- one learns facts at an hour -/
noncomputable def fg_lz (T : Nat → Nat) (h p s : Nat) (Z : fg_Z) : fg_Z := if fg_df s (Z.1 p) = 0 then Z else (fg_up1 Z.1 p (fg_clo T (Z.1 p ||| s)), Z.2.1, Z.2.2.1 ||| 2 ^ h, Z.2.2.2)
theorem fg_zok.lz {T : Nat → Nat} (hok : fg_ok T) {h p s : Nat} {Z : fg_Z} {hv : Nat → Nat} (H : fg_zok T h Z hv) (hp : p < T 2) (hs : s < 2 ^ T 0) : fg_zok T h (fg_lz T h p s Z) hv := by
  unfold fg_lz
  split
  · exact H
  · refine ⟨H.1, fun q hq => ?_, H.2.2⟩
    show fg_up1 Z.1 p _ q < _ ∧ fg_clsd T (fg_up1 Z.1 p _ q)
    have h1 : Z.1 p ||| s < 2 ^ T 0 := fg_or_lt (H.2.1 p hp).1 hs
    rcases Nat.decEq q p with e | e
    · rw [fg_up1_ne e]; exact H.2.1 q hq
    · rw [e, fg_up1_eq]
      exact ⟨fg_clo_lt hok h1, (fg_clo_is hok h1).2.1⟩
theorem fg_zok.news {T : Nat → Nat} {h : Nat} {Z : fg_Z} {hv : Nat → Nat} {a b c : Nat} (H : fg_zok T h Z hv) : fg_zok T h (Z.1, a, b, c) hv := H
noncomputable def fg_sz (T : Nat → Nat) (h p : Nat) (Z : fg_Z) : Nat → fg_Z
  | 0 => Z
  | n + 1 => if T (55 + 2 * n) = h ∧ ((fg_sz T h p Z n).1 p).testBit (T (56 + 2 * n)) = false then fg_lz T h p (2 ^ T (56 + 2 * n)) ((fg_sz T h p Z n).1, (fg_sz T h p Z n).2.1 + 1, (fg_sz T h p Z n).2.2.1, (fg_sz T h p Z n).2.2.2) else fg_sz T h p Z n
theorem fg_zok.sz {T : Nat → Nat} (hok : fg_ok T) {h p : Nat} {Z : fg_Z} {hv : Nat → Nat} (H : fg_zok T h Z hv) (hp : p < T 2) : ∀ n, n ≤ T 3 → fg_zok T h (fg_sz T h p Z n) hv := by
  intro n
  induction n with
  | zero => intro _; exact H
  | succ n ih =>
    intro hn
    simp only [fg_sz]
    split
    · exact fg_zok.lz hok (fg_zok.news (ih (by omega))) hp (Nat.pow_lt_pow_right (by decide) (hok.2.2.2.2.1 n (by omega)).2)
    · exact ih (by omega)
noncomputable def fg_mz (T : Nat → Nat) (h sh : Nat) (Z : fg_Z) : Nat → fg_Z
  | 0 => Z
  | n + 1 => if (T (81 + 4 * n) = h ∧ sh.testBit n = false) ∧ ((fg_mz T h sh Z n).1 (T (79 + 4 * n))).testBit (T (82 + 4 * n)) = true ∧ ((fg_mz T h sh Z n).1 (T (80 + 4 * n))).testBit (T (82 + 4 * n)) = false then fg_lz T h (T (80 + 4 * n)) (2 ^ T (82 + 4 * n)) ((fg_mz T h sh Z n).1, (fg_mz T h sh Z n).2.1 + 1, (fg_mz T h sh Z n).2.2.1, (fg_mz T h sh Z n).2.2.2 ||| 2 ^ n) else fg_mz T h sh Z n
theorem fg_zok.mz {T : Nat → Nat} (hok : fg_ok T) {h sh : Nat} {Z : fg_Z} {hv : Nat → Nat} (H : fg_zok T h Z hv) : ∀ n, n ≤ T 4 → fg_zok T h (fg_mz T h sh Z n) hv := by
  intro n
  induction n with
  | zero => intro _; exact H
  | succ n ih =>
    intro hn
    obtain ⟨g1, g2, g3, g4⟩ := hok.2.2.2.2.2.1 n (by omega)
    simp only [fg_mz]
    split
    · exact fg_zok.lz hok (fg_zok.news (ih (by omega))) g2 (Nat.pow_lt_pow_right (by decide) g4)
    · exact ih (by omega)
noncomputable def fg_oz (T : Nat → Nat) (h : Nat) (o : Option Nat × Nat × Nat) (Z : fg_Z) : Nat → fg_Z
  | 0 => Z
  | n + 1 => if (fg_df (T (42 + 3 * n)) (if nI n = fg_o o.1 then o.2.1 else 0)).testBit h = true then fg_sz T h n (fg_oz T h o Z n) (T 3) else fg_oz T h o Z n
theorem fg_zok.oz {T : Nat → Nat} (hok : fg_ok T) {h : Nat} {o : Option Nat × Nat × Nat} {Z : fg_Z} {hv : Nat → Nat} (H : fg_zok T h Z hv) : ∀ n, n ≤ T 2 → fg_zok T h (fg_oz T h o Z n) hv := by
  intro n
  induction n with
  | zero => intro _; exact H
  | succ n ih =>
    intro hn
    simp only [fg_oz]
    by_cases hc : (fg_df (T (42 + 3 * n)) (if nI n = fg_o o.1 then o.2.1 else 0)).testBit h = true
    · rw [if_pos hc]; exact fg_zok.sz hok (ih (by omega)) (by omega) _ (Nat.le_refl _)
    · rw [if_neg hc]; exact ih (by omega)
noncomputable def fg_hz (T : Nat → Nat) (hv : Nat → Nat) (Z : fg_Z) : Nat → fg_Z
  | 0 => Z
  | n + 1 => fg_lz T 9 n (hv n) (fg_hz T hv Z n)
def fg_h0 (hv : Nat → Nat) (n : Nat) : Nat → Nat := fun p => if p < n then 0 else hv p
theorem fg_zok.hz {T : Nat → Nat} (hok : fg_ok T) {Z : fg_Z} {hv : Nat → Nat} (H : fg_zok T 9 Z hv) : ∀ n, n ≤ T 2 → fg_zok T 9 (fg_hz T hv Z n) (fg_h0 hv n) := by
  intro n
  induction n with
  | zero => intro _; exact H
  | succ n ih =>
    intro hn
    have h1 := fg_zok.lz hok (ih (by omega)) (show n < T 2 by omega) (H.2.2 n (by omega))
    refine ⟨h1.1, h1.2.1, fun p hp => ?_⟩
    show (if p < n + 1 then 0 else hv p) < _
    split
    · exact Nat.two_pow_pos _
    · exact H.2.2 p hp
/-- an hour passes -/
abbrev fg_H3 : Type := Nat × fg_Z × (Nat → Nat)
noncomputable def fg_ph (T : Nat → Nat) (o : Option Nat × Nat × Nat) (S : fg_H3) : fg_H3 :=
  if S.1 < 9 then
    (if S.1 + 1 = 9 then (9, fg_hz T S.2.2 (fg_mz T 9 o.2.2 (fg_oz T 9 o S.2.1 (T 2)) (T 4)) (T 2), fg_h0 S.2.2 (T 2)) else (S.1 + 1, fg_mz T (S.1 + 1) o.2.2 (fg_oz T (S.1 + 1) o S.2.1 (T 2)) (T 4), S.2.2))
  else S
theorem fg_zok.ph {T : Nat → Nat} (hok : fg_ok T) {o : Option Nat × Nat × Nat} {S : fg_H3} (H : fg_zok T S.1 S.2.1 S.2.2) : fg_zok T (fg_ph T o S).1 (fg_ph T o S).2.1 (fg_ph T o S).2.2 := by
  obtain ⟨h, Z, hv⟩ := S
  have hs : ∀ h', h' ≤ 9 → fg_zok T h' Z hv := fun h' hh => ⟨hh, H.2⟩
  unfold fg_ph
  split
  · split
    · exact fg_zok.hz hok (fg_zok.mz hok (fg_zok.oz hok (hs 9 (Nat.le_refl _)) _ (Nat.le_refl _)) _ (Nat.le_refl _)) _ (Nat.le_refl _)
    · rename_i h1 h2
      exact fg_zok.mz hok (fg_zok.oz hok (hs (h + 1) (by have h1 : h < 9 := h1; omega)) _ (Nat.le_refl _)) _ (Nat.le_refl _)
  · exact H
noncomputable def fg_pn (T : Nat → Nat) (o : Option Nat × Nat × Nat) : Nat → fg_H3 → fg_H3
  | 0, S => S
  | n + 1, S => fg_pn T o n (fg_ph T o S)
theorem fg_pn_succ (T : Nat → Nat) (o : Option Nat × Nat × Nat) : ∀ n S, fg_pn T o (n + 1) S = fg_ph T o (fg_pn T o n S) := by
  intro n
  induction n with
  | zero => intro S; rfl
  | succ n ih => intro S; exact ih (fg_ph T o S)
theorem fg_pn_ok {T : Nat → Nat} (hok : fg_ok T) {o : Option Nat × Nat × Nat} : ∀ n (S : fg_H3), fg_zok T S.1 S.2.1 S.2.2 → fg_zok T (fg_pn T o n S).1 (fg_pn T o n S).2.1 (fg_pn T o n S).2.2 := by
  intro n
  induction n with
  | zero => intro S h; exact h
  | succ n ih => intro S h; exact ih _ (fg_zok.ph hok h)
theorem fg_ph_h {T : Nat → Nat} {o : Option Nat × Nat × Nat} {S : fg_H3} (h : S.1 < 9) : (fg_ph T o S).1 = S.1 + 1 := by
  unfold fg_ph
  rw [if_pos h]
  split
  · rename_i h2; exact h2.symm
  · rfl
theorem fg_pn_h {T : Nat → Nat} {o : Option Nat × Nat × Nat} : ∀ n (S : fg_H3), S.1 + n ≤ 9 → (fg_pn T o n S).1 = S.1 + n := by
  intro n
  induction n with
  | zero => intro S _; rfl
  | succ n ih =>
    intro S h
    show (fg_pn T o n (fg_ph T o S)).1 = _
    have h1 := fg_ph_h (T := T) (o := o) (S := S) (by omega)
    rw [ih _ (by omega), h1]
    omega
theorem ev_Folk_learn {E : fg_E} {d : Nat} {μ : Nat → Nat → Int32} {R : fg_T4} {Q : Option Value → fg_M → Prop} {t : Nat} {T : Nat → Nat} (ht : fg_isT t) (hT : fg_TW μ t T) (hok : fg_ok T) {f h : Nat} {Z : fg_Z} {hv lv : Nat → Nat} {o : Option Nat × Nat × Nat} (hf : fg_isF f) (hft : fg_rho R f 0 = some t) (hF : fg_FZ μ f T h Z hv lv o) (hz : fg_zok T h Z hv) {p s : Nat} (hpT : p < T 2) (hs : s < 2 ^ T 0) (hQ : ∀ μ' : Nat → Nat → Int32, fg_agF f μ μ' → fg_FZ μ' f T h (fg_lz T h p s Z) hv lv o → Q none (μ', fg_rho R, 304)) : fg_Ev E yy_Folk_learn (d + 3) [.ref f, .int (nI p), .int (nI s)] (μ, fg_rho R, 304) 304 Q := by
  have hb0 := hok.1
  have hb1 := hok.2.1
  have hp := hok.p
  have hq := Nat.two_pow_pos (T 0)
  have hfb := fF_b hf
  have hz9 := hz.1
  refine fg_intro (by decide +kernel) (Nat.le_of_ble_eq_true rfl) (fg_okAs rfl) (Nat.le_refl _) ?_
  refine fg_aloadn (fg_ft (pc := 0) tb_Folk_learn 0 rfl) rfl ?_
  refine fg_iloadn (fg_ft (pc := 1) tb_Folk_learn 1 rfl) rfl ?_
  refine fg_callV (fg_ft (pc := 2) tb_Folk_learn 2 rfl) cf_Folk_80 (fg_isOf (fF_lay hf) rfl (fg_lt (fF_lay hf) (by decide))) (as := [.int (nI p)]) (st := []) rfl rfl (Nat.le_of_ble_eq_true rfl) (Nat.le_refl _) (Nat.le_refl _) (ev_Folk_isThere ht hT hok hf hft hF hz (p := p) (by omega) ?_)
  refine fg_ifB_eq (tgt := 57) (fg_ft (pc := 5) tb_Folk_learn 3 rfl) (by decide) (fun c5 => (absurd hpT c5)) (fun c5 => ?_)
  refine fg_iloadn (fg_ft (pc := 8) tb_Folk_learn 4 rfl) rfl ?_
  refine fg_aloadn (fg_ft (pc := 9) tb_Folk_learn 5 rfl) rfl ?_
  refine fg_getR (fg_ft (pc := 10) tb_Folk_learn 6 rfl) ff_Folk_15 (fF_lay hf) rfl (fg_lt (fF_lay hf) (by decide)) (fF_r1 hf) ?_
  refine fg_iloadn (fg_ft (pc := 13) tb_Folk_learn 7 rfl) rfl ?_
  refine fg_ialdV (v := (nI (Z.1 p))) (fg_ft (pc := 14) tb_Folk_learn 8 rfl) (fF_l1 hf) (fg_lt (fF_l1 hf) (by decide)) (by omega) (hF.2.2.1 _ (by omega)) ?_
  refine fg_iconst (fg_ft (pc := 15) tb_Folk_learn 9 rfl) ic_m1 ?_
  refine fg_ixor (fg_ft (pc := 16) tb_Folk_learn 10 rfl) ?_
  refine fg_iandD (fg_ft (pc := 17) tb_Folk_learn 11 rfl) ?_
  refine fg_if_eqN (tgt := 57) (fg_ft (pc := 18) tb_Folk_learn 12 rfl) (by decide) (fg_df_le31 (by omega)) (fun c18 => ?_) (fun c18 => ?_)
  · exact fg_vret (fg_ft (pc := 57) tb_Folk_learn 35 rfl) rfl rfl (hQ μ (fg_agF_rf f μ) (by unfold fg_lz; rw [if_pos c18]; exact hF))
  · refine fg_aloadn (fg_ft (pc := 21) tb_Folk_learn 13 rfl) rfl ?_
    refine fg_getR (fg_ft (pc := 22) tb_Folk_learn 14 rfl) ff_Folk_15 (fF_lay hf) rfl (fg_lt (fF_lay hf) (by decide)) (fF_r1 hf) ?_
    refine fg_iloadn (fg_ft (pc := 25) tb_Folk_learn 15 rfl) rfl ?_
    refine fg_aloadn (fg_ft (pc := 26) tb_Folk_learn 16 rfl) rfl ?_
    refine fg_getR (fg_ft (pc := 27) tb_Folk_learn 17 rfl) ff_Folk_9 (fF_lay hf) rfl (fg_lt (fF_lay hf) (by decide)) hft ?_
    refine fg_aloadn (fg_ft (pc := 30) tb_Folk_learn 18 rfl) rfl ?_
    refine fg_getR (fg_ft (pc := 31) tb_Folk_learn 19 rfl) ff_Folk_15 (fF_lay hf) rfl (fg_lt (fF_lay hf) (by decide)) (fF_r1 hf) ?_
    refine fg_iloadn (fg_ft (pc := 34) tb_Folk_learn 20 rfl) rfl ?_
    refine fg_ialdV (v := (nI (Z.1 p))) (fg_ft (pc := 35) tb_Folk_learn 21 rfl) (fF_l1 hf) (fg_lt (fF_l1 hf) (by decide)) (by omega) (hF.2.2.1 _ (by omega)) ?_
    refine fg_iloadn (fg_ft (pc := 36) tb_Folk_learn 22 rfl) rfl ?_
    refine fg_iorN (fg_ft (pc := 37) tb_Folk_learn 23 rfl) ?_
    refine fg_callV (fg_ft (pc := 38) tb_Folk_learn 24 rfl) cf_Folk_87 (fg_isOf (tT_lay ht) rfl (fg_lt (tT_lay ht) (by decide))) (as := [.int (nI ((Z.1 p) ||| s))]) (st := [.int (nI p), .ref (f + 1)]) rfl rfl (Nat.le_of_ble_eq_true rfl) (Nat.le_refl _) (Nat.le_refl _) (ev_Town_close ht hT hok (s := ((Z.1 p) ||| s)) (fg_or_lt (hz.2.1 p hpT).1 hs) ?_)
    refine fg_iastN (fg_ft (pc := 41) tb_Folk_learn 25 rfl) (fF_l1 hf) (fg_lt (fF_l1 hf) (by decide)) (by omega) ?_
    show fg_wp _ _ _ _ _ _ _ _ _ (fg_u2 μ (f + 1) p (nI (fg_clo T ((Z.1 p) ||| s))), fg_rho R, 304)
    refine fg_aloadn (fg_ft (pc := 42) tb_Folk_learn 26 rfl) rfl ?_
    refine fg_dup (fg_ft (pc := 43) tb_Folk_learn 27 rfl) rfl ?_
    refine fg_getV (v := (nI (Z.2.2.1))) (fg_ft (pc := 44) tb_Folk_learn 28 rfl) ff_Folk_68 (fF_lay hf) rfl (fg_lt (fF_lay hf) (by decide)) ((fg_u2ne (by first | decide | omega)).trans hF.2.2.2.2.2.2.2.1) ?_
    refine fg_iconst (fg_ft (pc := 47) tb_Folk_learn 29 rfl) ic_1 ?_
    refine fg_aloadn (fg_ft (pc := 48) tb_Folk_learn 30 rfl) rfl ?_
    refine fg_getV (v := (nI h)) (fg_ft (pc := 49) tb_Folk_learn 31 rfl) ff_Folk_49 (fF_lay hf) rfl (fg_lt (fF_lay hf) (by decide)) ((fg_u2ne (by first | decide | omega)).trans hF.2.1) ?_
    refine fg_ishl1 (fg_ft (pc := 52) tb_Folk_learn 32 rfl) (by omega) ?_
    refine fg_iorN (fg_ft (pc := 53) tb_Folk_learn 33 rfl) ?_
    refine fg_putI (fg_ft (pc := 54) tb_Folk_learn 34 rfl) ff_Folk_68 (fF_lay hf) rfl (fg_lt (fF_lay hf) (by decide)) (fg_nokI _) (fun _ _ h => by cases h; rfl) ?_
    show fg_wp _ _ _ _ _ _ _ _ _ (fg_u2 (fg_u2 μ (f + 1) p (nI (fg_clo T ((Z.1 p) ||| s)))) f 10 (nI ((Z.2.2.1) ||| (2 ^ h))), fg_rho R, 304)
    exact fg_vret (fg_ft (pc := 57) tb_Folk_learn 35 rfl) rfl rfl (hQ _ (fg_agF_tr (fg_agF_u (by omega) (by omega)) (fg_agF_u (by omega) (by omega))) (by unfold fg_lz; rw [if_neg c18]; exact hF.setMind.setBusy))
theorem ev_Folk_seeSigns {E : fg_E} {d : Nat} {μ : Nat → Nat → Int32} {R : fg_T4} {Q : Option Value → fg_M → Prop} {t : Nat} {T : Nat → Nat} (ht : fg_isT t) (hT : fg_TW μ t T) (hok : fg_ok T) {f h : Nat} {Z : fg_Z} {hv lv : Nat → Nat} {o : Option Nat × Nat × Nat} (hf : fg_isF f) (hft : fg_rho R f 0 = some t) (hF : fg_FZ μ f T h Z hv lv o) (hz : fg_zok T h Z hv) {p : Nat} (hpT : p < T 2) (hQ : ∀ μ' : Nat → Nat → Int32, fg_agF f μ μ' → fg_FZ μ' f T h (fg_sz T h p Z (T 3)) hv lv o → Q none (μ', fg_rho R, 304)) : fg_Ev E yy_Folk_seeSigns (d + 4) [.ref f, .int (nI p)] (μ, fg_rho R, 304) 304 Q := by
  have hb0 := hok.1
  have hb1 := hok.2.1
  have hp := hok.p
  have hq := Nat.two_pow_pos (T 0)
  have hfb := fF_b hf
  have hz9 := hz.1
  have loop : ∀ (m n : Nat) (ν : Nat → Nat → Int32), T 3 - n < m → n ≤ T 3 → fg_agF f μ ν → fg_FZ ν f T h (fg_sz T h p Z n) hv lv o → ∀ v4 : Value, fg_wp E yy_Folk_seeSigns (d + 4) 304 304 Q 10 [.ref f, .int (nI p), .ref (t + 5), .int (nI n), v4] [] (ν, fg_rho R, 304) := by
    intro m
    induction m with
    | zero => intro n ν h; exact absurd h (Nat.not_lt_zero _)
    | succ m ih =>
      intro n ν hm hn hag hN v4
      have hTn := fg_TWp.agF ht hf hT hag
      have hzn := fg_zok.sz hok hz hpT n hn
      refine fg_iloadn (fg_ft (pc := 10) tb_Folk_seeSigns 6 rfl) rfl ?_
      refine fg_aloadn (fg_ft (pc := 11) tb_Folk_seeSigns 7 rfl) rfl ?_
      refine fg_getV (v := (nI (T 3))) (fg_ft (pc := 12) tb_Folk_seeSigns 8 rfl) ff_Folk_35 ((tT_w4 (R := R) ht).1) rfl (fg_lt ((tT_w4 (R := R) ht).1) (by decide)) hTn.2.2.2.1.2.1 ?_
      refine fg_icmp_geN (tgt := 74) (fg_ft (pc := 15) tb_Folk_seeSigns 9 rfl) (by decide) (by omega) (by omega) (fun c15 => ?_) (fun c15 => ?_)
      · exact fg_vret (fg_ft (pc := 74) tb_Folk_seeSigns 41 rfl) rfl rfl (hQ ν hag (by rw [show n = T 3 by omega] at hN; exact hN))
      · have hsg := hok.2.2.2.2.1 n (by omega)
        refine fg_aloadn (fg_ft (pc := 18) tb_Folk_seeSigns 10 rfl) rfl ?_
        refine fg_iloadn (fg_ft (pc := 19) tb_Folk_seeSigns 11 rfl) rfl ?_
        refine fg_iconst (fg_ft (pc := 20) tb_Folk_seeSigns 12 rfl) ic_1 ?_
        refine fg_callV (fg_ft (pc := 21) tb_Folk_seeSigns 13 rfl) cf_Folk_84 (fg_isOf ((tT_w4 (R := R) ht).1) rfl (fg_lt ((tT_w4 (R := R) ht).1) (by decide))) (as := [.int (nI n), .int (nI 1)]) (st := []) rfl rfl (Nat.le_of_ble_eq_true rfl) (Nat.le_refl _) (Nat.le_refl _) (ev_Rows_cell (tT_w4 (R := R) ht) hTn.2.2.2.1.1 hTn.2.2.2.1.2.1 (by have := hok.2.1; omega) (by decide) (by have := hok.2.1; omega) (i := n) (j := 1) (by omega) (by decide) (hTn.sign1 (by omega)) ?_)
        refine fg_istore (fg_ft (pc := 24) tb_Folk_seeSigns 14 rfl) (Nat.le_of_ble_eq_true rfl) ?_
        refine fg_aloadn (fg_ft (pc := 26) tb_Folk_seeSigns 15 rfl) rfl ?_
        refine fg_iloadn (fg_ft (pc := 27) tb_Folk_seeSigns 16 rfl) rfl ?_
        refine fg_iconst (fg_ft (pc := 28) tb_Folk_seeSigns 17 rfl) ic_0 ?_
        refine fg_callV (fg_ft (pc := 29) tb_Folk_seeSigns 18 rfl) cf_Folk_84 (fg_isOf ((tT_w4 (R := R) ht).1) rfl (fg_lt ((tT_w4 (R := R) ht).1) (by decide))) (as := [.int (nI n), .int (nI 0)]) (st := []) rfl rfl (Nat.le_of_ble_eq_true rfl) (Nat.le_refl _) (Nat.le_refl _) (ev_Rows_cell (tT_w4 (R := R) ht) hTn.2.2.2.1.1 hTn.2.2.2.1.2.1 (by have := hok.2.1; omega) (by decide) (by have := hok.2.1; omega) (i := n) (j := 0) (by omega) (by decide) (hTn.sign0 (by omega)) ?_)
        refine fg_aloadn (fg_ft (pc := 32) tb_Folk_seeSigns 19 rfl) rfl ?_
        refine fg_getV (v := (nI h)) (fg_ft (pc := 33) tb_Folk_seeSigns 20 rfl) ff_Folk_49 (fF_lay hf) rfl (fg_lt (fF_lay hf) (by decide)) hN.2.1 ?_
        refine fg_icmp_neN (tgt := 68) (fg_ft (pc := 36) tb_Folk_seeSigns 21 rfl) (by decide) (by omega) (by omega) (fun c36 => ?_) (fun c36 => ?_)
        · refine fg_iincN (fg_ft (pc := 68) tb_Folk_seeSigns 39 rfl) rfl ic_1 rfl ?_
          refine fg_goto (tgt := 10) (fg_ft (pc := 71) tb_Folk_seeSigns 40 rfl) (by decide) ?_
          exact ih (n + 1) ν (by omega) (by omega) hag (by simp only [fg_sz]; rw [if_neg (fun hh => by first | exact c36 hh.1 | (rw [c46.2] at hh; exact absurd hh.2 (by decide)))]; exact hN) _
        · refine fg_aloadn (fg_ft (pc := 39) tb_Folk_seeSigns 22 rfl) rfl ?_
          refine fg_iloadn (fg_ft (pc := 40) tb_Folk_seeSigns 23 rfl) rfl ?_
          refine fg_iload (fg_ft (pc := 41) tb_Folk_seeSigns 24 rfl) rfl ?_
          refine fg_callV (fg_ft (pc := 43) tb_Folk_seeSigns 25 rfl) cf_Folk_110 (fg_isOf (fF_lay hf) rfl (fg_lt (fF_lay hf) (by decide))) (as := [.int (nI p), .int (nI (T (56 + 2 * n)))]) (st := []) rfl rfl (Nat.le_of_ble_eq_true rfl) (Nat.le_refl _) (Nat.le_refl _) (ev_Folk_has ht hTn hok hf hft hN hzn (p := p) (k := (T (56 + 2 * n))) (by omega) (by omega) ?_)
          refine fg_ifB_ne (tgt := 68) (fg_ft (pc := 46) tb_Folk_seeSigns 26 rfl) (by decide) (fun c46 => ?_) (fun c46 => ?_)
          · refine fg_iincN (fg_ft (pc := 68) tb_Folk_seeSigns 39 rfl) rfl ic_1 rfl ?_
            refine fg_goto (tgt := 10) (fg_ft (pc := 71) tb_Folk_seeSigns 40 rfl) (by decide) ?_
            exact ih (n + 1) ν (by omega) (by omega) hag (by simp only [fg_sz]; rw [if_neg (fun hh => by first | exact c36 hh.1 | (rw [c46.2] at hh; exact absurd hh.2 (by decide)))]; exact hN) _
          · refine fg_aloadn (fg_ft (pc := 49) tb_Folk_seeSigns 27 rfl) rfl ?_
            refine fg_dup (fg_ft (pc := 50) tb_Folk_seeSigns 28 rfl) rfl ?_
            refine fg_getV (v := (nI ((fg_sz T h p Z n).2.1))) (fg_ft (pc := 51) tb_Folk_seeSigns 29 rfl) ff_Folk_65 (fF_lay hf) rfl (fg_lt (fF_lay hf) (by decide)) hN.2.2.2.2.2.2.1 ?_
            refine fg_iconst (fg_ft (pc := 54) tb_Folk_seeSigns 30 rfl) ic_1 ?_
            refine fg_iaddN (fg_ft (pc := 55) tb_Folk_seeSigns 31 rfl) ?_
            refine fg_putI (fg_ft (pc := 56) tb_Folk_seeSigns 32 rfl) ff_Folk_65 (fF_lay hf) rfl (fg_lt (fF_lay hf) (by decide)) (fg_nokI _) (fun _ _ h => by cases h; rfl) ?_
            show fg_wp _ _ _ _ _ _ _ _ _ (fg_u2 ν f 9 (nI (((fg_sz T h p Z n).2.1) + 1)), fg_rho R, 304)
            refine fg_aloadn (fg_ft (pc := 59) tb_Folk_seeSigns 33 rfl) rfl ?_
            refine fg_iloadn (fg_ft (pc := 60) tb_Folk_seeSigns 34 rfl) rfl ?_
            refine fg_iconst (fg_ft (pc := 61) tb_Folk_seeSigns 35 rfl) ic_1 ?_
            refine fg_iload (fg_ft (pc := 62) tb_Folk_seeSigns 36 rfl) rfl ?_
            refine fg_ishl1 (fg_ft (pc := 64) tb_Folk_seeSigns 37 rfl) (by omega) ?_
            refine fg_callV (fg_ft (pc := 65) tb_Folk_seeSigns 38 rfl) cf_Folk_150 (fg_isOf (fF_lay hf) rfl (fg_lt (fF_lay hf) (by decide))) (as := [.int (nI p), .int (nI (2 ^ (T (56 + 2 * n))))]) (st := []) rfl rfl (Nat.le_of_ble_eq_true rfl) (Nat.le_refl _) (Nat.le_refl _) (ev_Folk_learn ht (fg_TWp.agF ht hf hTn (fg_agF_u (by omega) (by omega))) hok hf hft (Z := ((fg_sz T h p Z n).1, (fg_sz T h p Z n).2.1 + 1, (fg_sz T h p Z n).2.2.1, (fg_sz T h p Z n).2.2.2)) hN.setNews (fg_zok.news hzn) (p := p) (s := 2 ^ T (56 + 2 * n)) hpT (Nat.pow_lt_pow_right (by decide) hsg.2) ?_)
            intro ν2 ho2 hN2
            show fg_wp _ _ _ _ _ _ _ _ _ (ν2, fg_rho R, 304)
            refine fg_iincN (fg_ft (pc := 68) tb_Folk_seeSigns 39 rfl) rfl ic_1 rfl ?_
            refine fg_goto (tgt := 10) (fg_ft (pc := 71) tb_Folk_seeSigns 40 rfl) (by decide) ?_
            exact ih (n + 1) ν2 (by omega) (by omega) (fg_agF_tr hag (fg_agF_tr (fg_agF_u (by omega) (by omega)) ho2)) (by simp only [fg_sz]; rw [if_pos ⟨c36, by cases hb : ((fg_sz T h p Z n).1 p).testBit (T (56 + 2 * n)) <;> simp_all⟩]; exact hN2) _
  refine fg_intro (by decide +kernel) (Nat.le_of_ble_eq_true rfl) (fg_okAs rfl) (Nat.le_refl _) ?_
  refine fg_aloadn (fg_ft (pc := 0) tb_Folk_seeSigns 0 rfl) rfl ?_
  refine fg_getR (fg_ft (pc := 1) tb_Folk_seeSigns 1 rfl) ff_Folk_9 (fF_lay hf) rfl (fg_lt (fF_lay hf) (by decide)) hft ?_
  refine fg_getR (fg_ft (pc := 4) tb_Folk_seeSigns 2 rfl) ff_Folk_161 (tT_lay ht) rfl (fg_lt (tT_lay ht) (by decide)) (tT_r4 ht) ?_
  refine fg_astoren (fg_ft (pc := 7) tb_Folk_seeSigns 3 rfl) (Nat.le_of_ble_eq_true rfl) ?_
  refine fg_iconst (fg_ft (pc := 8) tb_Folk_seeSigns 4 rfl) ic_0 ?_
  refine fg_istoren (fg_ft (pc := 9) tb_Folk_seeSigns 5 rfl) (Nat.le_of_ble_eq_true rfl) ?_
  exact loop (T 3 + 1) 0 μ (by omega) (by omega) (fg_agF_rf f μ) hF _
theorem ev_Folk_holdMeetings {E : fg_E} {d : Nat} {μ : Nat → Nat → Int32} {R : fg_T4} {Q : Option Value → fg_M → Prop} {t : Nat} {T : Nat → Nat} (ht : fg_isT t) (hT : fg_TW μ t T) (hok : fg_ok T) {f h : Nat} {Z : fg_Z} {hv lv : Nat → Nat} {o : Option Nat × Nat × Nat} (hf : fg_isF f) (hft : fg_rho R f 0 = some t) (hF : fg_FZ μ f T h Z hv lv o) (hz : fg_zok T h Z hv) (hsh : o.2.2 < 2 ^ 31) (hQ : ∀ μ' : Nat → Nat → Int32, fg_agF f μ μ' → fg_FZ μ' f T h (fg_mz T h o.2.2 Z (T 4)) hv lv o → Q none (μ', fg_rho R, 304)) : fg_Ev E yy_Folk_holdMeetings (d + 4) [.ref f] (μ, fg_rho R, 304) 304 Q := by
  have hb0 := hok.1
  have hb1 := hok.2.1
  have hp := hok.p
  have hq := Nat.two_pow_pos (T 0)
  have hfb := fF_b hf
  have hz9 := hz.1
  have loop : ∀ (m n : Nat) (ν : Nat → Nat → Int32), T 4 - n < m → n ≤ T 4 → fg_agF f μ ν → fg_FZ ν f T h (fg_mz T h o.2.2 Z n) hv lv o → ∀ v3 v4 v5 : Value, fg_wp E yy_Folk_holdMeetings (d + 4) 304 304 Q 10 [.ref f, .ref (t + 7), .int (nI n), v3, v4, v5] [] (ν, fg_rho R, 304) := by
    intro m
    induction m with
    | zero => intro n ν h; exact absurd h (Nat.not_lt_zero _)
    | succ m ih =>
      intro n ν hm hn hag hN v3 v4 v5
      have hTn := fg_TWp.agF ht hf hT hag
      have hzn := fg_zok.mz hok (sh := o.2.2) hz n hn
      refine fg_iloadn (fg_ft (pc := 10) tb_Folk_holdMeetings 6 rfl) rfl ?_
      refine fg_aloadn (fg_ft (pc := 11) tb_Folk_holdMeetings 7 rfl) rfl ?_
      refine fg_getV (v := (nI (T 4))) (fg_ft (pc := 12) tb_Folk_holdMeetings 8 rfl) ff_Folk_35 ((tT_w5 (R := R) ht).1) rfl (fg_lt ((tT_w5 (R := R) ht).1) (by decide)) hTn.2.2.2.2.1.2.1 ?_
      refine fg_icmp_geN (tgt := 131) (fg_ft (pc := 15) tb_Folk_holdMeetings 9 rfl) (by decide) (by omega) (by omega) (fun c15 => ?_) (fun c15 => ?_)
      · exact fg_vret (fg_ft (pc := 131) tb_Folk_holdMeetings 73 rfl) rfl rfl (hQ ν hag (by rw [show n = T 4 by omega] at hN; exact hN))
      · have hmt := hok.2.2.2.2.2.1 n (by omega)
        refine fg_aloadn (fg_ft (pc := 18) tb_Folk_holdMeetings 10 rfl) rfl ?_
        refine fg_iloadn (fg_ft (pc := 19) tb_Folk_holdMeetings 11 rfl) rfl ?_
        refine fg_iconst (fg_ft (pc := 20) tb_Folk_holdMeetings 12 rfl) ic_1 ?_
        refine fg_callV (fg_ft (pc := 21) tb_Folk_holdMeetings 13 rfl) cf_Folk_84 (fg_isOf ((tT_w5 (R := R) ht).1) rfl (fg_lt ((tT_w5 (R := R) ht).1) (by decide))) (as := [.int (nI n), .int (nI 1)]) (st := []) rfl rfl (Nat.le_of_ble_eq_true rfl) (Nat.le_refl _) (Nat.le_refl _) (ev_Rows_cell (tT_w5 (R := R) ht) hTn.2.2.2.2.1.1 hTn.2.2.2.2.1.2.1 (by have := hok.2.1; omega) (by decide) (by have := hok.2.1; omega) (i := n) (j := 1) (by omega) (by decide) (hTn.meet1 (by omega)) ?_)
        refine fg_istoren (fg_ft (pc := 24) tb_Folk_holdMeetings 14 rfl) (Nat.le_of_ble_eq_true rfl) ?_
        refine fg_aloadn (fg_ft (pc := 25) tb_Folk_holdMeetings 15 rfl) rfl ?_
        refine fg_iloadn (fg_ft (pc := 26) tb_Folk_holdMeetings 16 rfl) rfl ?_
        refine fg_iconst (fg_ft (pc := 27) tb_Folk_holdMeetings 17 rfl) ic_3 ?_
        refine fg_callV (fg_ft (pc := 28) tb_Folk_holdMeetings 18 rfl) cf_Folk_84 (fg_isOf ((tT_w5 (R := R) ht).1) rfl (fg_lt ((tT_w5 (R := R) ht).1) (by decide))) (as := [.int (nI n), .int (nI 3)]) (st := []) rfl rfl (Nat.le_of_ble_eq_true rfl) (Nat.le_refl _) (Nat.le_refl _) (ev_Rows_cell (tT_w5 (R := R) ht) hTn.2.2.2.2.1.1 hTn.2.2.2.2.1.2.1 (by have := hok.2.1; omega) (by decide) (by have := hok.2.1; omega) (i := n) (j := 3) (by omega) (by decide) (hTn.meet3 (by omega)) ?_)
        refine fg_istore (fg_ft (pc := 31) tb_Folk_holdMeetings 19 rfl) (Nat.le_of_ble_eq_true rfl) ?_
        refine fg_aloadn (fg_ft (pc := 33) tb_Folk_holdMeetings 20 rfl) rfl ?_
        refine fg_iloadn (fg_ft (pc := 34) tb_Folk_holdMeetings 21 rfl) rfl ?_
        refine fg_iconst (fg_ft (pc := 35) tb_Folk_holdMeetings 22 rfl) ic_2 ?_
        refine fg_callV (fg_ft (pc := 36) tb_Folk_holdMeetings 23 rfl) cf_Folk_84 (fg_isOf ((tT_w5 (R := R) ht).1) rfl (fg_lt ((tT_w5 (R := R) ht).1) (by decide))) (as := [.int (nI n), .int (nI 2)]) (st := []) rfl rfl (Nat.le_of_ble_eq_true rfl) (Nat.le_refl _) (Nat.le_refl _) (ev_Rows_cell (tT_w5 (R := R) ht) hTn.2.2.2.2.1.1 hTn.2.2.2.2.1.2.1 (by have := hok.2.1; omega) (by decide) (by have := hok.2.1; omega) (i := n) (j := 2) (by omega) (by decide) (hTn.meet2 (by omega)) ?_)
        refine fg_aloadn (fg_ft (pc := 39) tb_Folk_holdMeetings 24 rfl) rfl ?_
        refine fg_getV (v := (nI h)) (fg_ft (pc := 40) tb_Folk_holdMeetings 25 rfl) ff_Folk_49 (fF_lay hf) rfl (fg_lt (fF_lay hf) (by decide)) hN.2.1 ?_
        refine fg_icmp_neN (tgt := 61) (fg_ft (pc := 43) tb_Folk_holdMeetings 26 rfl) (by decide) (by omega) (by omega) (fun c43 => ?_) (fun c43 => ?_)
        · refine fg_iconst (fg_ft (pc := 61) tb_Folk_holdMeetings 34 rfl) ic_0 ?_
          refine fg_istore (fg_ft (pc := 62) tb_Folk_holdMeetings 35 rfl) (Nat.le_of_ble_eq_true rfl) ?_
          refine fg_iload (fg_ft (pc := 64) tb_Folk_holdMeetings 36 rfl) rfl ?_
          refine fg_if_eq (tgt := 125) (fg_ft (pc := 66) tb_Folk_holdMeetings 37 rfl) (by decide) (fun _ => ?_) (fun h => absurd h (by decide))
          refine fg_iincN (fg_ft (pc := 125) tb_Folk_holdMeetings 71 rfl) rfl ic_1 rfl ?_
          refine fg_goto (tgt := 10) (fg_ft (pc := 128) tb_Folk_holdMeetings 72 rfl) (by decide) ?_
          exact ih (n + 1) ν (by omega) (by omega) hag (by simp only [fg_mz]; rw [if_neg (fun hh => by first | exact c43 hh.1.1 | (rw [c54] at hh; exact absurd hh.1.2 (by decide)) | exact c81 ⟨hmt.1, hh.2.1⟩ | (rw [c91.2] at hh; exact absurd hh.2.2 (by decide)))]; exact hN) _ _ _
        · refine fg_aloadn (fg_ft (pc := 46) tb_Folk_holdMeetings 27 rfl) rfl ?_
          refine fg_getV (v := (nI (o.2.2))) (fg_ft (pc := 47) tb_Folk_holdMeetings 28 rfl) ff_Folk_62 (fF_lay hf) rfl (fg_lt (fF_lay hf) (by decide)) hN.2.2.2.2.2.1.2.2 ?_
          refine fg_iloadn (fg_ft (pc := 50) tb_Folk_holdMeetings 29 rfl) rfl ?_
          refine fg_callSN (fg_ft (pc := 51) tb_Folk_holdMeetings 30 rfl) cf_Folk_90 (as := [.int (nI (o.2.2)), .int (nI n)]) (st := []) rfl rfl (Nat.le_of_ble_eq_true rfl) (Nat.le_refl _) (Nat.le_refl _) (ev_Fb_isIn (s := (o.2.2)) (k := n) (hsh) (by omega) ?_)
          refine fg_ifB_ne (tgt := 61) (fg_ft (pc := 54) tb_Folk_holdMeetings 31 rfl) (by decide) (fun c54 => ?_) (fun c54 => ?_)
          · refine fg_iconst (fg_ft (pc := 61) tb_Folk_holdMeetings 34 rfl) ic_0 ?_
            refine fg_istore (fg_ft (pc := 62) tb_Folk_holdMeetings 35 rfl) (Nat.le_of_ble_eq_true rfl) ?_
            refine fg_iload (fg_ft (pc := 64) tb_Folk_holdMeetings 36 rfl) rfl ?_
            refine fg_if_eq (tgt := 125) (fg_ft (pc := 66) tb_Folk_holdMeetings 37 rfl) (by decide) (fun _ => ?_) (fun h => absurd h (by decide))
            refine fg_iincN (fg_ft (pc := 125) tb_Folk_holdMeetings 71 rfl) rfl ic_1 rfl ?_
            refine fg_goto (tgt := 10) (fg_ft (pc := 128) tb_Folk_holdMeetings 72 rfl) (by decide) ?_
            exact ih (n + 1) ν (by omega) (by omega) hag (by simp only [fg_mz]; rw [if_neg (fun hh => by first | exact c43 hh.1.1 | (rw [c54] at hh; exact absurd hh.1.2 (by decide)) | exact c81 ⟨hmt.1, hh.2.1⟩ | (rw [c91.2] at hh; exact absurd hh.2.2 (by decide)))]; exact hN) _ _ _
          · refine fg_iconst (fg_ft (pc := 57) tb_Folk_holdMeetings 32 rfl) ic_1 ?_
            refine fg_goto (tgt := 62) (fg_ft (pc := 58) tb_Folk_holdMeetings 33 rfl) (by decide) ?_
            refine fg_istore (fg_ft (pc := 62) tb_Folk_holdMeetings 35 rfl) (Nat.le_of_ble_eq_true rfl) ?_
            refine fg_iload (fg_ft (pc := 64) tb_Folk_holdMeetings 36 rfl) rfl ?_
            refine fg_if_eq (tgt := 125) (fg_ft (pc := 66) tb_Folk_holdMeetings 37 rfl) (by decide) (fun h => absurd h (by decide)) (fun _ => ?_)
            refine fg_aloadn (fg_ft (pc := 69) tb_Folk_holdMeetings 38 rfl) rfl ?_
            refine fg_aloadn (fg_ft (pc := 70) tb_Folk_holdMeetings 39 rfl) rfl ?_
            refine fg_iloadn (fg_ft (pc := 71) tb_Folk_holdMeetings 40 rfl) rfl ?_
            refine fg_iconst (fg_ft (pc := 72) tb_Folk_holdMeetings 41 rfl) ic_0 ?_
            refine fg_callV (fg_ft (pc := 73) tb_Folk_holdMeetings 42 rfl) cf_Folk_84 (fg_isOf ((tT_w5 (R := R) ht).1) rfl (fg_lt ((tT_w5 (R := R) ht).1) (by decide))) (as := [.int (nI n), .int (nI 0)]) (st := [.ref f]) rfl rfl (Nat.le_of_ble_eq_true rfl) (Nat.le_refl _) (Nat.le_refl _) (ev_Rows_cell (tT_w5 (R := R) ht) hTn.2.2.2.2.1.1 hTn.2.2.2.2.1.2.1 (by have := hok.2.1; omega) (by decide) (by have := hok.2.1; omega) (i := n) (j := 0) (by omega) (by decide) (hTn.meet0 (by omega)) ?_)
            refine fg_iload (fg_ft (pc := 76) tb_Folk_holdMeetings 43 rfl) rfl ?_
            refine fg_callV (fg_ft (pc := 78) tb_Folk_holdMeetings 44 rfl) cf_Folk_110 (fg_isOf (fF_lay hf) rfl (fg_lt (fF_lay hf) (by decide))) (as := [.int (nI (T (79 + 4 * n))), .int (nI (T (82 + 4 * n)))]) (st := []) rfl rfl (Nat.le_of_ble_eq_true rfl) (Nat.le_refl _) (Nat.le_refl _) (ev_Folk_has ht hTn hok hf hft hN hzn (p := (T (79 + 4 * n))) (k := (T (82 + 4 * n))) (by omega) (by omega) ?_)
            refine fg_ifB_eq (tgt := 125) (fg_ft (pc := 81) tb_Folk_holdMeetings 45 rfl) (by decide) (fun c81 => ?_) (fun c81 => ?_)
            · refine fg_iincN (fg_ft (pc := 125) tb_Folk_holdMeetings 71 rfl) rfl ic_1 rfl ?_
              refine fg_goto (tgt := 10) (fg_ft (pc := 128) tb_Folk_holdMeetings 72 rfl) (by decide) ?_
              exact ih (n + 1) ν (by omega) (by omega) hag (by simp only [fg_mz]; rw [if_neg (fun hh => by first | exact c43 hh.1.1 | (rw [c54] at hh; exact absurd hh.1.2 (by decide)) | exact c81 ⟨hmt.1, hh.2.1⟩ | (rw [c91.2] at hh; exact absurd hh.2.2 (by decide)))]; exact hN) _ _ _
            · refine fg_aloadn (fg_ft (pc := 84) tb_Folk_holdMeetings 46 rfl) rfl ?_
              refine fg_iloadn (fg_ft (pc := 85) tb_Folk_holdMeetings 47 rfl) rfl ?_
              refine fg_iload (fg_ft (pc := 86) tb_Folk_holdMeetings 48 rfl) rfl ?_
              refine fg_callV (fg_ft (pc := 88) tb_Folk_holdMeetings 49 rfl) cf_Folk_110 (fg_isOf (fF_lay hf) rfl (fg_lt (fF_lay hf) (by decide))) (as := [.int (nI (T (80 + 4 * n))), .int (nI (T (82 + 4 * n)))]) (st := []) rfl rfl (Nat.le_of_ble_eq_true rfl) (Nat.le_refl _) (Nat.le_refl _) (ev_Folk_has ht hTn hok hf hft hN hzn (p := (T (80 + 4 * n))) (k := (T (82 + 4 * n))) (by omega) (by omega) ?_)
              refine fg_ifB_ne (tgt := 125) (fg_ft (pc := 91) tb_Folk_holdMeetings 50 rfl) (by decide) (fun c91 => ?_) (fun c91 => ?_)
              · refine fg_iincN (fg_ft (pc := 125) tb_Folk_holdMeetings 71 rfl) rfl ic_1 rfl ?_
                refine fg_goto (tgt := 10) (fg_ft (pc := 128) tb_Folk_holdMeetings 72 rfl) (by decide) ?_
                exact ih (n + 1) ν (by omega) (by omega) hag (by simp only [fg_mz]; rw [if_neg (fun hh => by first | exact c43 hh.1.1 | (rw [c54] at hh; exact absurd hh.1.2 (by decide)) | exact c81 ⟨hmt.1, hh.2.1⟩ | (rw [c91.2] at hh; exact absurd hh.2.2 (by decide)))]; exact hN) _ _ _
              · refine fg_aloadn (fg_ft (pc := 94) tb_Folk_holdMeetings 51 rfl) rfl ?_
                refine fg_dup (fg_ft (pc := 95) tb_Folk_holdMeetings 52 rfl) rfl ?_
                refine fg_getV (v := (nI ((fg_mz T h o.2.2 Z n).2.1))) (fg_ft (pc := 96) tb_Folk_holdMeetings 53 rfl) ff_Folk_65 (fF_lay hf) rfl (fg_lt (fF_lay hf) (by decide)) hN.2.2.2.2.2.2.1 ?_
                refine fg_iconst (fg_ft (pc := 99) tb_Folk_holdMeetings 54 rfl) ic_1 ?_
                refine fg_iaddN (fg_ft (pc := 100) tb_Folk_holdMeetings 55 rfl) ?_
                refine fg_putI (fg_ft (pc := 101) tb_Folk_holdMeetings 56 rfl) ff_Folk_65 (fF_lay hf) rfl (fg_lt (fF_lay hf) (by decide)) (fg_nokI _) (fun _ _ h => by cases h; rfl) ?_
                show fg_wp _ _ _ _ _ _ _ _ _ (fg_u2 ν f 9 (nI (((fg_mz T h o.2.2 Z n).2.1) + 1)), fg_rho R, 304)
                refine fg_aloadn (fg_ft (pc := 104) tb_Folk_holdMeetings 57 rfl) rfl ?_
                refine fg_dup (fg_ft (pc := 105) tb_Folk_holdMeetings 58 rfl) rfl ?_
                refine fg_getV (v := (nI ((fg_mz T h o.2.2 Z n).2.2.2))) (fg_ft (pc := 106) tb_Folk_holdMeetings 59 rfl) ff_Folk_71 (fF_lay hf) rfl (fg_lt (fF_lay hf) (by decide)) ((fg_u2ns (by first | decide | omega)).trans hN.2.2.2.2.2.2.2.2) ?_
                refine fg_iconst (fg_ft (pc := 109) tb_Folk_holdMeetings 60 rfl) ic_1 ?_
                refine fg_iloadn (fg_ft (pc := 110) tb_Folk_holdMeetings 61 rfl) rfl ?_
                refine fg_ishl1 (fg_ft (pc := 111) tb_Folk_holdMeetings 62 rfl) (by omega) ?_
                refine fg_iorN (fg_ft (pc := 112) tb_Folk_holdMeetings 63 rfl) ?_
                refine fg_putI (fg_ft (pc := 113) tb_Folk_holdMeetings 64 rfl) ff_Folk_71 (fF_lay hf) rfl (fg_lt (fF_lay hf) (by decide)) (fg_nokI _) (fun _ _ h => by cases h; rfl) ?_
                show fg_wp _ _ _ _ _ _ _ _ _ (fg_u2 (fg_u2 ν f 9 (nI (((fg_mz T h o.2.2 Z n).2.1) + 1))) f 11 (nI (((fg_mz T h o.2.2 Z n).2.2.2) ||| (2 ^ n))), fg_rho R, 304)
                refine fg_aloadn (fg_ft (pc := 116) tb_Folk_holdMeetings 65 rfl) rfl ?_
                refine fg_iloadn (fg_ft (pc := 117) tb_Folk_holdMeetings 66 rfl) rfl ?_
                refine fg_iconst (fg_ft (pc := 118) tb_Folk_holdMeetings 67 rfl) ic_1 ?_
                refine fg_iload (fg_ft (pc := 119) tb_Folk_holdMeetings 68 rfl) rfl ?_
                refine fg_ishl1 (fg_ft (pc := 121) tb_Folk_holdMeetings 69 rfl) (by omega) ?_
                refine fg_callV (fg_ft (pc := 122) tb_Folk_holdMeetings 70 rfl) cf_Folk_150 (fg_isOf (fF_lay hf) rfl (fg_lt (fF_lay hf) (by decide))) (as := [.int (nI (T (80 + 4 * n))), .int (nI (2 ^ (T (82 + 4 * n))))]) (st := []) rfl rfl (Nat.le_of_ble_eq_true rfl) (Nat.le_refl _) (Nat.le_refl _) (ev_Folk_learn ht (fg_TWp.agF ht hf hTn (fg_agF_tr (fg_agF_u (by omega) (by omega)) (fg_agF_u (by omega) (by omega)))) hok hf hft (Z := ((fg_mz T h o.2.2 Z n).1, (fg_mz T h o.2.2 Z n).2.1 + 1, (fg_mz T h o.2.2 Z n).2.2.1, (fg_mz T h o.2.2 Z n).2.2.2 ||| 2 ^ n)) (hN.setNews.setLoud) (fg_zok.news hzn) (p := T (80 + 4 * n)) (s := 2 ^ T (82 + 4 * n)) hmt.2.1 (Nat.pow_lt_pow_right (by decide) hmt.2.2.2) ?_)
                intro ν2 ho2 hN2
                show fg_wp _ _ _ _ _ _ _ _ _ (ν2, fg_rho R, 304)
                refine fg_iincN (fg_ft (pc := 125) tb_Folk_holdMeetings 71 rfl) rfl ic_1 rfl ?_
                refine fg_goto (tgt := 10) (fg_ft (pc := 128) tb_Folk_holdMeetings 72 rfl) (by decide) ?_
                exact ih (n + 1) ν2 (by omega) (by omega) (fg_agF_tr hag (fg_agF_tr (fg_agF_tr (fg_agF_u (by omega) (by omega)) (fg_agF_u (by omega) (by omega))) ho2)) (by simp only [fg_mz]; rw [if_pos ⟨⟨c43, by simpa using c54⟩, c81.2, by cases hb : ((fg_mz T h o.2.2 Z n).1 (T (80 + 4 * n))).testBit (T (82 + 4 * n)) <;> simp_all⟩]; exact hN2) _ _ _
  refine fg_intro (by decide +kernel) (Nat.le_of_ble_eq_true rfl) (fg_okAs rfl) (Nat.le_refl _) ?_
  refine fg_aloadn (fg_ft (pc := 0) tb_Folk_holdMeetings 0 rfl) rfl ?_
  refine fg_getR (fg_ft (pc := 1) tb_Folk_holdMeetings 1 rfl) ff_Folk_9 (fF_lay hf) rfl (fg_lt (fF_lay hf) (by decide)) hft ?_
  refine fg_getR (fg_ft (pc := 4) tb_Folk_holdMeetings 2 rfl) ff_Folk_113 (tT_lay ht) rfl (fg_lt (tT_lay ht) (by decide)) (tT_r5 ht) ?_
  refine fg_astoren (fg_ft (pc := 7) tb_Folk_holdMeetings 3 rfl) (Nat.le_of_ble_eq_true rfl) ?_
  refine fg_iconst (fg_ft (pc := 8) tb_Folk_holdMeetings 4 rfl) ic_0 ?_
  refine fg_istoren (fg_ft (pc := 9) tb_Folk_holdMeetings 5 rfl) (Nat.le_of_ble_eq_true rfl) ?_
  exact loop (T 4 + 1) 0 μ (by omega) (by omega) (fg_agF_rf f μ) hF _ _ _
