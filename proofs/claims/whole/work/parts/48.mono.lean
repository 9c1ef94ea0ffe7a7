/-! hours keep the order of minds -/
def fg_ml (T : Nat → Nat) (M M' : Nat → Nat) : Prop := ∀ p, p < T 2 → fg_le (M p) (M' p)
theorem fg_ml_rf (T M : Nat → Nat) : fg_ml T M M := fun p _ => fg_le_rf _
theorem fg_ml_tr {T M M' M'' : Nat → Nat} (h1 : fg_ml T M M') (h2 : fg_ml T M' M'') : fg_ml T M M'' := fun p hp => fg_le_tr (h1 p hp) (h2 p hp)
theorem fg_up_ml {T M M' : Nat → Nat} {p x x' : Nat} (h : fg_ml T M M') (hx : fg_le x x') : fg_ml T (fg_up1 M p x) (fg_up1 M' p x') := by
  intro q hq
  rcases Nat.decEq q p with e | e
  · rw [fg_up1_ne e, fg_up1_ne e]; exact h q hq
  · rw [e, fg_up1_eq, fg_up1_eq]; exact hx
theorem fg_up_gr {T M : Nat → Nat} {p x : Nat} (hx : fg_le (M p) x) : fg_ml T M (fg_up1 M p x) := by
  intro q hq
  rcases Nat.decEq q p with e | e
  · rw [fg_up1_ne e]; exact fg_le_rf _
  · rw [e, fg_up1_eq]; exact hx
theorem fg_up1_id {f : Nat → Nat} {k x : Nat} (h : f k = x) : fg_up1 f k x = f := by
  funext j
  rcases Nat.decEq j k with e | e
  · exact fg_up1_ne e
  · rw [e, fg_up1_eq, h]
theorem fg_or_eq {a b : Nat} (h : fg_le b a) : a ||| b = a := fg_le_as (fg_or_le (fg_le_rf a) h) (fg_le_or1 a b)
theorem fg_or_ml {a b a' b' : Nat} (h1 : fg_le a a') (h2 : fg_le b b') : fg_le (a ||| b) (a' ||| b') := fg_or_le (fg_le_tr h1 (fg_le_or1 _ _)) (fg_le_tr h2 (fg_le_or2 _ _))
/-- a learning, of the minds alone -/
theorem fg_lz_val {T : Nat → Nat} {h p s : Nat} {Z : fg_Z} (hc : fg_clsd T (Z.1 p)) : (fg_lz T h p s Z).1 = fg_up1 Z.1 p (fg_clo T (Z.1 p ||| s)) := by
  unfold fg_lz
  split
  · rename_i h0
    rw [fg_or_eq (fg_df0.mp h0), fg_clo_cl hc, fg_up1_id rfl]
  · rfl
theorem fg_lz_gr {T : Nat → Nat} (hok : fg_ok T) {h p s : Nat} {Z : fg_Z} {hv : Nat → Nat} (H : fg_zok T h Z hv) (hp : p < T 2) (hs : s < 2 ^ T 0) : fg_ml T Z.1 (fg_lz T h p s Z).1 := by
  rw [fg_lz_val (H.2.1 p hp).2]
  exact fg_up_gr (fg_le_tr (fg_le_or1 _ _) (fg_clo_is hok (fg_or_lt (H.2.1 p hp).1 hs)).1)
theorem fg_lz_ml {T : Nat → Nat} (hok : fg_ok T) {h p s s' : Nat} {Z Z' : fg_Z} {hv hv' : Nat → Nat} (H : fg_zok T h Z hv) (H' : fg_zok T h Z' hv') (hp : p < T 2) (hs' : s' < 2 ^ T 0) (hl : fg_le s s') (hm : fg_ml T Z.1 Z'.1) : fg_ml T (fg_lz T h p s Z).1 (fg_lz T h p s' Z').1 := by
  rw [fg_lz_val (H.2.1 p hp).2, fg_lz_val (H'.2.1 p hp).2]
  exact fg_up_ml hm (fg_clo_mono hok (fg_or_lt (H'.2.1 p hp).1 hs') (fg_or_ml (hm p hp) hl))
theorem fg_sz_val {T : Nat → Nat} (hok : fg_ok T) {h p : Nat} {Z : fg_Z} {hv : Nat → Nat} (H : fg_zok T h Z hv) (hp : p < T 2) {n : Nat} (hn : n < T 3) : (fg_sz T h p Z (n + 1)).1 = if T (55 + 2 * n) = h then fg_up1 (fg_sz T h p Z n).1 p (fg_clo T ((fg_sz T h p Z n).1 p ||| 2 ^ T (56 + 2 * n))) else (fg_sz T h p Z n).1 := by
  have H1 := fg_zok.sz hok H hp n (by omega)
  simp only [fg_sz]
  by_cases e : T (55 + 2 * n) = h
  · rw [if_pos e]
    by_cases b : ((fg_sz T h p Z n).1 p).testBit (T (56 + 2 * n)) = false
    · rw [if_pos ⟨e, b⟩]
      exact fg_lz_val (Z := ((fg_sz T h p Z n).1, (fg_sz T h p Z n).2.1 + 1, (fg_sz T h p Z n).2.2.1, (fg_sz T h p Z n).2.2.2)) (H1.2.1 p hp).2
    · rw [if_neg (fun hh => b hh.2)]
      have b1 : ((fg_sz T h p Z n).1 p).testBit (T (56 + 2 * n)) = true := by simpa using b
      rw [fg_or_eq (fg_bit_le.mpr b1), fg_clo_cl (H1.2.1 p hp).2, fg_up1_id rfl]
  · rw [if_neg e, if_neg (fun hh => e hh.1)]
theorem fg_sz_gr {T : Nat → Nat} (hok : fg_ok T) {h p : Nat} {Z : fg_Z} {hv : Nat → Nat} (H : fg_zok T h Z hv) (hp : p < T 2) : ∀ n, n ≤ T 3 → fg_ml T Z.1 (fg_sz T h p Z n).1 := by
  intro n
  induction n with
  | zero => intro _; exact fg_ml_rf _ _
  | succ n ih =>
    intro hn
    have H1 := fg_zok.sz hok H hp n (by omega)
    have hf := (hok.2.2.2.2.1 n (by omega)).2
    rw [fg_sz_val hok H hp (by omega)]
    refine fg_ml_tr (ih (by omega)) ?_
    split
    · exact fg_up_gr (fg_le_tr (fg_le_or1 _ _) (fg_clo_is hok (fg_or_lt (H1.2.1 p hp).1 (Nat.pow_lt_pow_right (by decide) hf))).1)
    · exact fg_ml_rf _ _
theorem fg_sz_ml {T : Nat → Nat} (hok : fg_ok T) {h p : Nat} {Z Z' : fg_Z} {hv hv' : Nat → Nat} (H : fg_zok T h Z hv) (H' : fg_zok T h Z' hv') (hp : p < T 2) (hm : fg_ml T Z.1 Z'.1) : ∀ n, n ≤ T 3 → fg_ml T (fg_sz T h p Z n).1 (fg_sz T h p Z' n).1 := by
  intro n
  induction n with
  | zero => intro _; exact hm
  | succ n ih =>
    intro hn
    have H1 := fg_zok.sz hok H' hp n (by omega)
    have hf := (hok.2.2.2.2.1 n (by omega)).2
    have im := ih (by omega)
    rw [fg_sz_val hok H hp (by omega), fg_sz_val hok H' hp (by omega)]
    split
    · exact fg_up_ml im (fg_clo_mono hok (fg_or_lt (H1.2.1 p hp).1 (Nat.pow_lt_pow_right (by decide) hf)) (fg_or_ml (im p hp) (fg_le_rf _)))
    · exact im
theorem fg_mz_val {T : Nat → Nat} (hok : fg_ok T) {h sh : Nat} {Z : fg_Z} {hv : Nat → Nat} (H : fg_zok T h Z hv) {n : Nat} (hn : n < T 4) : (fg_mz T h sh Z (n + 1)).1 = if (T (81 + 4 * n) = h ∧ sh.testBit n = false) ∧ ((fg_mz T h sh Z n).1 (T (79 + 4 * n))).testBit (T (82 + 4 * n)) = true then fg_up1 (fg_mz T h sh Z n).1 (T (80 + 4 * n)) (fg_clo T ((fg_mz T h sh Z n).1 (T (80 + 4 * n)) ||| 2 ^ T (82 + 4 * n))) else (fg_mz T h sh Z n).1 := by
  have H1 := fg_zok.mz hok H (sh := sh) n (by omega)
  have g2 := (hok.2.2.2.2.2.1 n (by omega)).2.1
  simp only [fg_mz]
  by_cases e : (T (81 + 4 * n) = h ∧ sh.testBit n = false) ∧ ((fg_mz T h sh Z n).1 (T (79 + 4 * n))).testBit (T (82 + 4 * n)) = true
  · rw [if_pos e]
    by_cases b : ((fg_mz T h sh Z n).1 (T (80 + 4 * n))).testBit (T (82 + 4 * n)) = false
    · rw [if_pos ⟨e.1, e.2, b⟩]
      exact fg_lz_val (Z := ((fg_mz T h sh Z n).1, (fg_mz T h sh Z n).2.1 + 1, (fg_mz T h sh Z n).2.2.1, (fg_mz T h sh Z n).2.2.2 ||| 2 ^ n)) (H1.2.1 _ g2).2
    · rw [if_neg (fun hh => b hh.2.2)]
      have b1 : ((fg_mz T h sh Z n).1 (T (80 + 4 * n))).testBit (T (82 + 4 * n)) = true := by simpa using b
      rw [fg_or_eq (fg_bit_le.mpr b1), fg_clo_cl (H1.2.1 _ g2).2, fg_up1_id rfl]
  · rw [if_neg e, if_neg (fun hh => e ⟨hh.1, hh.2.1⟩)]
theorem fg_mz_gr {T : Nat → Nat} (hok : fg_ok T) {h sh : Nat} {Z : fg_Z} {hv : Nat → Nat} (H : fg_zok T h Z hv) : ∀ n, n ≤ T 4 → fg_ml T Z.1 (fg_mz T h sh Z n).1 := by
  intro n
  induction n with
  | zero => intro _; exact fg_ml_rf _ _
  | succ n ih =>
    intro hn
    have H1 := fg_zok.mz hok H (sh := sh) n (by omega)
    obtain ⟨g1, g2, g3, g4⟩ := hok.2.2.2.2.2.1 n (by omega)
    rw [fg_mz_val hok H (by omega)]
    refine fg_ml_tr (ih (by omega)) ?_
    split
    · exact fg_up_gr (fg_le_tr (fg_le_or1 _ _) (fg_clo_is hok (fg_or_lt (H1.2.1 _ g2).1 (Nat.pow_lt_pow_right (by decide) g4))).1)
    · exact fg_ml_rf _ _
theorem fg_mz_ml {T : Nat → Nat} (hok : fg_ok T) {h sh sh' : Nat} {Z Z' : fg_Z} {hv hv' : Nat → Nat} (H : fg_zok T h Z hv) (H' : fg_zok T h Z' hv') (hs : fg_le sh' sh) (hm : fg_ml T Z.1 Z'.1) : ∀ n, n ≤ T 4 → fg_ml T (fg_mz T h sh Z n).1 (fg_mz T h sh' Z' n).1 := by
  intro n
  induction n with
  | zero => intro _; exact hm
  | succ n ih =>
    intro hn
    have H1 := fg_zok.mz hok H (sh := sh) n (by omega)
    have H2 := fg_zok.mz hok H' (sh := sh') n (by omega)
    obtain ⟨g1, g2, g3, g4⟩ := hok.2.2.2.2.2.1 n (by omega)
    have im := ih (by omega)
    rw [fg_mz_val hok H (by omega), fg_mz_val hok H' (by omega)]
    by_cases e : (T (81 + 4 * n) = h ∧ sh.testBit n = false) ∧ ((fg_mz T h sh Z n).1 (T (79 + 4 * n))).testBit (T (82 + 4 * n)) = true
    · have s1 : sh'.testBit n = false := by
        cases hb : sh'.testBit n
        · rfl
        · have := hs n hb; rw [e.1.2] at this; cases this
      rw [if_pos e, if_pos ⟨⟨e.1.1, s1⟩, im _ g1 _ e.2⟩]
      exact fg_up_ml im (fg_clo_mono hok (fg_or_lt (H2.2.1 _ g2).1 (Nat.pow_lt_pow_right (by decide) g4)) (fg_or_ml (im _ g2) (fg_le_rf _)))
    · rw [if_neg e]
      split
      · exact fg_ml_tr im (fg_up_gr (fg_le_tr (fg_le_or1 _ _) (fg_clo_is hok (fg_or_lt (H2.2.1 _ g2).1 (Nat.pow_lt_pow_right (by decide) g4))).1))
      · exact im
/-- o holds back at least what o' does -/
def fg_ole (o o' : Option Nat × Nat × Nat) : Prop := (∀ n : Nat, fg_le (if nI n = fg_o o'.1 then o'.2.1 else 0) (if nI n = fg_o o.1 then o.2.1 else 0)) ∧ fg_le o'.2.2 o.2.2
theorem fg_ole_rf (o : Option Nat × Nat × Nat) : fg_ole o o := ⟨fun _ => fg_le_rf _, fg_le_rf _⟩
theorem fg_oz_gr {T : Nat → Nat} (hok : fg_ok T) {h : Nat} {o : Option Nat × Nat × Nat} {Z : fg_Z} {hv : Nat → Nat} (H : fg_zok T h Z hv) : ∀ n, n ≤ T 2 → fg_ml T Z.1 (fg_oz T h o Z n).1 := by
  intro n
  induction n with
  | zero => intro _; exact fg_ml_rf _ _
  | succ n ih =>
    intro hn
    simp only [fg_oz]
    refine fg_ml_tr (ih (by omega)) ?_
    by_cases hc : (fg_df (T (42 + 3 * n)) (if nI n = fg_o o.1 then o.2.1 else 0)).testBit h = true
    · rw [if_pos hc]; exact fg_sz_gr hok (fg_zok.oz hok H n (by omega)) (by omega) _ (Nat.le_refl _)
    · rw [if_neg hc]; exact fg_ml_rf _ _
theorem fg_oz_ml {T : Nat → Nat} (hok : fg_ok T) {h : Nat} {o o' : Option Nat × Nat × Nat} {Z Z' : fg_Z} {hv hv' : Nat → Nat} (H : fg_zok T h Z hv) (H' : fg_zok T h Z' hv') (ho : fg_ole o o') (hm : fg_ml T Z.1 Z'.1) : ∀ n, n ≤ T 2 → fg_ml T (fg_oz T h o Z n).1 (fg_oz T h o' Z' n).1 := by
  intro n
  induction n with
  | zero => intro _; exact hm
  | succ n ih =>
    intro hn
    have H1 := fg_zok.oz hok H (o := o) n (by omega)
    have H2 := fg_zok.oz hok H' (o := o') n (by omega)
    have im := ih (by omega)
    simp only [fg_oz]
    by_cases hc : (fg_df (T (42 + 3 * n)) (if nI n = fg_o o.1 then o.2.1 else 0)).testBit h = true
    · have hc' : (fg_df (T (42 + 3 * n)) (if nI n = fg_o o'.1 then o'.2.1 else 0)).testBit h = true := by
        rw [fg_df_bit] at hc ⊢
        have h1 := ho.1 n h
        cases ha : (T (42 + 3 * n)).testBit h
        · rw [ha] at hc; cases hc
        · cases hb : (if nI n = fg_o o'.1 then o'.2.1 else 0).testBit h
          · rfl
          · rw [h1 hb] at hc; rw [ha] at hc; cases hc
      rw [if_pos hc, if_pos hc']
      exact fg_sz_ml hok H1 H2 (by omega) im _ (Nat.le_refl _)
    · rw [if_neg hc]
      by_cases hc' : (fg_df (T (42 + 3 * n)) (if nI n = fg_o o'.1 then o'.2.1 else 0)).testBit h = true
      · rw [if_pos hc']; exact fg_ml_tr im (fg_sz_gr hok H2 (by omega) _ (Nat.le_refl _))
      · rw [if_neg hc']; exact im
theorem fg_hz_gr {T : Nat → Nat} (hok : fg_ok T) {Z : fg_Z} {hv : Nat → Nat} (H : fg_zok T 9 Z hv) : ∀ n, n ≤ T 2 → fg_ml T Z.1 (fg_hz T hv Z n).1 := by
  intro n
  induction n with
  | zero => intro _; exact fg_ml_rf _ _
  | succ n ih => intro hn; exact fg_ml_tr (ih (by omega)) (fg_lz_gr hok (fg_zok.hz hok H n (by omega)) (by omega) (H.2.2 n (by omega)))
theorem fg_hz_ml {T : Nat → Nat} (hok : fg_ok T) {Z Z' : fg_Z} {hv hv' : Nat → Nat} (H : fg_zok T 9 Z hv) (H' : fg_zok T 9 Z' hv') (hm : fg_ml T Z.1 Z'.1) (hh : fg_ml T hv hv') : ∀ n, n ≤ T 2 → fg_ml T (fg_hz T hv Z n).1 (fg_hz T hv' Z' n).1 := by
  intro n
  induction n with
  | zero => intro _; exact hm
  | succ n ih => intro hn; exact fg_lz_ml hok (fg_zok.hz hok H n (by omega)) (fg_zok.hz hok H' n (by omega)) (by omega) (H'.2.2 n (by omega)) (hh n (by omega)) (ih (by omega))
/-- S is at most S' -/
def fg_sl (T : Nat → Nat) (S S' : fg_H3) : Prop := S.1 = S'.1 ∧ fg_ml T S.2.1.1 S'.2.1.1 ∧ fg_ml T S.2.2 S'.2.2
abbrev fg_zs (T : Nat → Nat) (S : fg_H3) : Prop := fg_zok T S.1 S.2.1 S.2.2
theorem fg_h0_ml {T hv hv' : Nat → Nat} (n : Nat) (h : fg_ml T hv hv') : fg_ml T (fg_h0 hv n) (fg_h0 hv' n) := by
  intro p hp
  show fg_le (if p < n then 0 else hv p) (if p < n then 0 else hv' p)
  split
  · exact fg_le_rf _
  · exact h p hp
theorem fg_ph_gr {T : Nat → Nat} (hok : fg_ok T) {o : Option Nat × Nat × Nat} {S : fg_H3} (H : fg_zs T S) : fg_ml T S.2.1.1 (fg_ph T o S).2.1.1 := by
  obtain ⟨h, Z, hv⟩ := S
  have hs : ∀ h', h' ≤ 9 → fg_zok T h' Z hv := fun h' hh => ⟨hh, H.2⟩
  rcases Nat.lt_or_ge h 9 with g | g
  · rcases Nat.lt_or_ge (h + 1) 9 with q | q
    · rw [fg_ph_lt q]
      have H1 := hs (h + 1) (by omega)
      exact fg_ml_tr (fg_oz_gr hok H1 _ (Nat.le_refl _)) (fg_mz_gr hok (fg_zok.oz hok H1 _ (Nat.le_refl _)) _ (Nat.le_refl _))
    · have e : h + 1 = 9 := by omega
      rw [fg_ph_9 e]
      have H1 := hs (h + 1) (by omega)
      have H2 := fg_zok.mz hok (fg_zok.oz hok H1 (o := o) _ (Nat.le_refl _)) (sh := o.2.2) _ (Nat.le_refl _)
      have H3 : fg_zok T 9 (fg_Zm T o (h + 1) Z) hv := ⟨Nat.le_refl _, H2.2⟩
      exact fg_ml_tr (fg_oz_gr hok H1 _ (Nat.le_refl _)) (fg_ml_tr (fg_mz_gr hok (fg_zok.oz hok H1 _ (Nat.le_refl _)) _ (Nat.le_refl _)) (fg_hz_gr hok H3 _ (Nat.le_refl _)))
  · unfold fg_ph
    rw [if_neg (by show ¬ h < 9; omega)]
    exact fg_ml_rf _ _
theorem fg_ph_sl {T : Nat → Nat} (hok : fg_ok T) {o o' : Option Nat × Nat × Nat} (ho : fg_ole o o') {S S' : fg_H3} (H : fg_zs T S) (H' : fg_zs T S') (hs : fg_sl T S S') : fg_sl T (fg_ph T o S) (fg_ph T o' S') := by
  obtain ⟨h, Z, hv⟩ := S
  obtain ⟨h', Z', hv'⟩ := S'
  obtain ⟨e1, e2, e3⟩ := hs
  have e1 : h = h' := e1
  subst e1
  have hs : ∀ h', h' ≤ 9 → fg_zok T h' Z hv := fun h' hh => ⟨hh, H.2⟩
  have hs' : ∀ h', h' ≤ 9 → fg_zok T h' Z' hv' := fun h' hh => ⟨hh, H'.2⟩
  rcases Nat.lt_or_ge h 9 with g | g
  · have H1 := hs (h + 1) (by omega)
    have H1' := hs' (h + 1) (by omega)
    have m1 := fg_oz_ml hok H1 H1' ho e2 _ (Nat.le_refl _)
    have m2 := fg_mz_ml hok (fg_zok.oz hok H1 (o := o) _ (Nat.le_refl _)) (fg_zok.oz hok H1' (o := o') _ (Nat.le_refl _)) ho.2 m1 _ (Nat.le_refl _)
    rcases Nat.lt_or_ge (h + 1) 9 with q | q
    · rw [fg_ph_lt q, fg_ph_lt q]
      exact ⟨rfl, m2, e3⟩
    · have e : h + 1 = 9 := by omega
      rw [fg_ph_9 e, fg_ph_9 e]
      have H2 := fg_zok.mz hok (fg_zok.oz hok H1 (o := o) _ (Nat.le_refl _)) (sh := o.2.2) _ (Nat.le_refl _)
      have H3 : fg_zok T 9 (fg_Zm T o (h + 1) Z) hv := ⟨Nat.le_refl _, H2.2⟩
      have H2' := fg_zok.mz hok (fg_zok.oz hok H1' (o := o') _ (Nat.le_refl _)) (sh := o'.2.2) _ (Nat.le_refl _)
      have H3' : fg_zok T 9 (fg_Zm T o' (h + 1) Z') hv' := ⟨Nat.le_refl _, H2'.2⟩
      exact ⟨rfl, fg_hz_ml hok H3 H3' m2 e3 _ (Nat.le_refl _), fg_h0_ml _ e3⟩
  · unfold fg_ph
    rw [if_neg (by show ¬ h < 9; omega), if_neg (by show ¬ h < 9; omega)]
    exact ⟨rfl, e2, e3⟩
theorem fg_pn_sl {T : Nat → Nat} (hok : fg_ok T) {o o' : Option Nat × Nat × Nat} (ho : fg_ole o o') : ∀ (n : Nat) (S S' : fg_H3), fg_zs T S → fg_zs T S' → fg_sl T S S' → fg_sl T (fg_pn T o n S) (fg_pn T o' n S') := by
  intro n
  induction n with
  | zero => intro S S' _ _ h; exact h
  | succ n ih => intro S S' H H' h; exact ih _ _ (fg_zok.ph hok H) (fg_zok.ph hok H') (fg_ph_sl hok ho H H' h)
theorem fg_pn_gr {T : Nat → Nat} (hok : fg_ok T) {o : Option Nat × Nat × Nat} : ∀ (n : Nat) (S : fg_H3), fg_zs T S → fg_ml T S.2.1.1 (fg_pn T o n S).2.1.1 := by
  intro n
  induction n with
  | zero => intro S _; exact fg_ml_rf _ _
  | succ n ih => intro S H; exact fg_ml_tr (fg_ph_gr hok H) (ih _ (fg_zok.ph hok H))
/-- he comes to have it just if he has it in the evening -/
theorem fg_ch_pn {T : Nat → Nat} (hok : fg_ok T) {o : Option Nat × Nat × Nat} {p k : Nat} (hp : p < T 2) : ∀ (n : Nat) (S : fg_H3), fg_zs T S → (((fg_ch T o p k n S).2.1.1 p).testBit k = true ↔ ((fg_pn T o n S).2.1.1 p).testBit k = true) := by
  intro n
  induction n with
  | zero => intro S _; exact Iff.rfl
  | succ n ih =>
    intro S H
    simp only [fg_ch]
    by_cases h : p < T 2 ∧ (S.2.1.1 p).testBit k = true
    · rw [if_pos h]
      exact ⟨fun _ => fg_pn_gr hok (n + 1) S H p hp k h.2, fun _ => h.2⟩
    · rw [if_neg h]
      exact ih _ (fg_zok.ph hok H)
/-- by evening -/
theorem fg_hbe_mono {T : Nat → Nat} (hok : fg_ok T) {S : fg_H3} (H : fg_zs T S) {p m m' k : Nat} (hp : p < T 2) (hm : m < 2 ^ T 0) (hmc : fg_clsd T m) (hm' : m' < 2 ^ T 0) (hmc' : fg_clsd T m') (hl : fg_le m m') (h : fg_hbe T S p m k) : fg_hbe T S p m' k := by
  obtain ⟨hh, Z, hv⟩ := S
  have H1 : fg_zs T (hh, (fg_up1 Z.1 p m, 0, 0, 0), hv) := fg_zok.set H hm hmc
  have H2 : fg_zs T (hh, (fg_up1 Z.1 p m', 0, 0, 0), hv) := fg_zok.set H hm' hmc'
  unfold fg_hbe at h ⊢
  rw [fg_ch_pn hok hp _ _ H1] at h
  rw [fg_ch_pn hok hp _ _ H2]
  exact (fg_pn_sl hok (fg_ole_rf _) _ _ _ H1 H2 ⟨rfl, fg_up_ml (fg_ml_rf _ _) hl, fg_ml_rf _ _⟩).2.1 p hp k h
theorem fg_ke_val {T : Nat → Nat} {p set k : Nat} {M : Nat → Nat} : ∀ n q, fg_ke T p set k M n q = if q < n ∧ (q < T 2 ∧ (q = p ∨ set.testBit q = true)) then fg_fgt T (M q) k 1 else M q := by
  intro n
  induction n with
  | zero => intro q; rw [if_neg (fun h => absurd h.1 (Nat.not_lt_zero _))]; rfl
  | succ n ih =>
    intro q
    simp only [fg_ke]
    rcases Nat.decEq q n with e | e
    · by_cases c : n < T 2 ∧ (n = p ∨ set.testBit n = true)
      · rw [if_pos c, fg_up1_ne e, ih q]
        by_cases g : q < n ∧ (q < T 2 ∧ (q = p ∨ set.testBit q = true))
        · rw [if_pos g, if_pos ⟨by omega, g.2⟩]
        · rw [if_neg g, if_neg (fun hh => g ⟨by omega, hh.2⟩)]
      · rw [if_neg c, ih q]
        by_cases g : q < n ∧ (q < T 2 ∧ (q = p ∨ set.testBit q = true))
        · rw [if_pos g, if_pos ⟨by omega, g.2⟩]
        · rw [if_neg g, if_neg (fun hh => g ⟨by omega, hh.2⟩)]
    · subst e
      have e0 : fg_ke T p set k M q q = M q := by rw [ih q, if_neg (fun h => absurd h.1 (Nat.lt_irrefl _))]
      by_cases c : q < T 2 ∧ (q = p ∨ set.testBit q = true)
      · rw [if_pos c, fg_up1_eq, e0, if_pos ⟨by omega, c⟩]
      · rw [if_neg c, e0, if_neg (fun hh => c hh.2)]
theorem fg_kA_pn {T : Nat → Nat} (hok : fg_ok T) {S : fg_H3} (H : fg_zs T S) {how p k set : Nat} (hp : p < T 2) : fg_kA T S how p k set ↔ ¬ ((fg_pn T (fg_kO how p set) (9 - S.1) (fg_kS T S how p k set)).2.1.1 p).testBit k = true := by
  obtain ⟨h, Z, hv⟩ := S
  unfold fg_kA
  exact not_congr (fg_ch_pn hok hp _ _ (fg_kS_ok hok H))
theorem fg_kA_mono {T : Nat → Nat} (hok : fg_ok T) {S : fg_H3} (H : fg_zs T S) {how p k set set' : Nat} (hp : p < T 2) (hl : fg_le set set') (h : fg_kA T S how p k set) : fg_kA T S how p k set' := by
  obtain ⟨hh, Z, hv⟩ := S
  rw [fg_kA_pn hok H hp] at h ⊢
  intro hb
  refine h ?_
  have H1 : fg_zs T (fg_kS T (hh, Z, hv) how p k set) := fg_kS_ok hok H
  have H2 : fg_zs T (fg_kS T (hh, Z, hv) how p k set') := fg_kS_ok hok H
  have ho : fg_ole (fg_kO how p set') (fg_kO how p set) := by
    unfold fg_kO
    by_cases e : how = 0
    · rw [if_pos e, if_pos e]
      refine ⟨fun n => ?_, fg_le_rf _⟩
      show fg_le (if nI n = fg_o (some p) then set else 0) (if nI n = fg_o (some p) then set' else 0)
      split
      · exact hl
      · exact fg_le_rf _
    · rw [if_neg e, if_neg e]
      by_cases g : how = 1
      · rw [if_pos g, if_pos g]; exact ⟨fun n => fg_le_rf _, hl⟩
      · rw [if_neg g, if_neg g]; exact fg_ole_rf _
  have hsl : fg_sl T (fg_kS T (hh, Z, hv) how p k set') (fg_kS T (hh, Z, hv) how p k set) := by
    refine ⟨rfl, ?_, fg_ml_rf _ _⟩
    show fg_ml T (if how = 2 then fg_ke T p set' k Z.1 5 else Z.1) (if how = 2 then fg_ke T p set k Z.1 5 else Z.1)
    split
    · intro q hq
      rw [fg_ke_val, fg_ke_val]
      by_cases g : q < 5 ∧ (q < T 2 ∧ (q = p ∨ set.testBit q = true))
      · rw [if_pos g, if_pos ⟨g.1, g.2.1, g.2.2.elim Or.inl (fun h => Or.inr (hl q h))⟩]
        exact fg_le_rf _
      · rw [if_neg g]
        split
        · exact fg_fgt_le hok _ _ _
        · exact fg_le_rf _
    · exact fg_ml_rf _ _
  exact (fg_pn_sl hok ho _ _ _ H2 H1 hsl).2.1 p hp k hb
