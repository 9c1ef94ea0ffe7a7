theorem fg_and2p' {s f : Nat} : 2 ^ f &&& s = 0 ↔ ¬ s.testBit f = true := by rw [Nat.and_comm]; exact fg_and2p
def fg_wO (T : Nat → Nat) (mind fact w g : Nat) : Prop := g < 2 ^ T 0 ∧ g.testBit fact = true ∧ (∀ g', g'.testBit fact = true → (∀ r, r < T 1 → fg_wsat T mind r g') → fg_le g g') ∧ (g = w → ∀ r, r < T 1 → fg_wsat T mind r w)
theorem fg_wO_end {T : Nat → Nat} {mind fact g : Nat} (h : fg_wO T mind fact g g) : fg_wg T mind fact = g := fg_wg_of ⟨h.2.1, h.2.2.2 rfl, h.2.2.1⟩
theorem fg_wO_in {T : Nat → Nat} {mind fact w g : Nat} (h : fg_wO T mind fact w g) : fg_wR T mind fact g 0 g := ⟨h.1, h.2.1, fg_le_rf _, h.2.2.1, fun _ r hr => absurd hr (Nat.not_lt_zero _)⟩
theorem fg_wO_out {T : Nat → Nat} {mind fact w g : Nat} (h : fg_wR T mind fact w (T 1) g) : fg_wO T mind fact w g := ⟨h.1, h.2.1, h.2.2.2.1, h.2.2.2.2⟩
theorem ev_Mo_wholeGone {E : fg_E} {d : Nat} {μ : Nat → Nat → Int32} {R : fg_T4} {Q : Option Value → fg_M → Prop} {v : Nat} {T : Nat → Nat} (hM : fg_MT (μ 288) v T) (hok : fg_ok T) {mind fact : Nat} (hm : mind < 2 ^ T 0) (hf : fact < T 0) (hQ : Q (some (.int (nI (fg_fw T mind fact)))) (μ, fg_rho R, 304))  : fg_Ev E yy_Mo_wholeGone (d + 2) [.ref 287, .int (nI v), .int (nI mind), .int (nI fact)] (μ, fg_rho R, 304) 304 Q := by
  have hv0 := hM.1
  have hb0 := hok.1
  have hb1 := hok.2.1
  have hp := hok.p
  have hq := Nat.two_pow_pos (T 0)
  have hpf : 2 ^ fact < 2 ^ T 0 := Nat.pow_lt_pow_right (by decide) hf
  have inner : ∀ (w : Nat), (∀ g v6, fg_wR T mind fact w (T 1) g → fg_wp E yy_Mo_wholeGone (d + 2) 304 304 Q 8 [.ref 287, .int (nI v), .int (nI mind), .int (nI fact), .int (nI g), .int (nI w), v6] [] (μ, fg_rho R, 304)) → ∀ (m r g : Nat), T 1 - r < m → r ≤ T 1 → fg_wR T mind fact w r g → fg_wp E yy_Mo_wholeGone (d + 2) 304 304 Q 22 [.ref 287, .int (nI v), .int (nI mind), .int (nI fact), .int (nI g), .int (nI w), .int (nI r)] [] (μ, fg_rho R, 304) := by
    intro w hk m
    induction m with
    | zero => intro r g h; exact absurd h (Nat.not_lt_zero _)
    | succ m ih =>
      intro r g hm hr hg
      have hg0 := hg.1
      refine fg_iload (fg_ft (pc := 22) tb_Mo_wholeGone 13 rfl) rfl ?_
      refine fg_aloadn (fg_ft (pc := 24) tb_Mo_wholeGone 14 rfl) rfl ?_
      refine fg_getR (fg_ft (pc := 25) tb_Mo_wholeGone 15 rfl) ff_Mo_7 ly_287 rfl (fg_lt ly_287 (by decide)) (rh_287_0 R) ?_
      refine fg_iloadn (fg_ft (pc := 28) tb_Mo_wholeGone 16 rfl) rfl ?_
      refine fg_iconst (fg_ft (pc := 29) tb_Mo_wholeGone 17 rfl) ic_1 ?_
      refine fg_iaddN (fg_ft (pc := 30) tb_Mo_wholeGone 18 rfl) ?_
      refine fg_ialdV (v := (nI (T 1))) (fg_ft (pc := 31) tb_Mo_wholeGone 19 rfl) ly_288 (fg_lt ly_288 (by decide)) (by omega) (fg_MTat hM (i := v + 1) (k := 1) (by omega) (by omega)) ?_
      refine fg_icmp_geN (tgt := 84) (fg_ft (pc := 32) tb_Mo_wholeGone 20 rfl) (by decide) (by omega) (by omega) (fun c32 => ?_) (fun c32 => ?_)
      · refine fg_goto (tgt := 8) (fg_ft (pc := 84) tb_Mo_wholeGone 48 rfl) (by decide) ?_
        exact hk g _ (by rw [show T 1 = r by omega]; exact hg)
      · refine fg_iload (fg_ft (pc := 35) tb_Mo_wholeGone 21 rfl) rfl ?_
        refine fg_aloadn (fg_ft (pc := 37) tb_Mo_wholeGone 22 rfl) rfl ?_
        refine fg_iloadn (fg_ft (pc := 38) tb_Mo_wholeGone 23 rfl) rfl ?_
        refine fg_iload (fg_ft (pc := 39) tb_Mo_wholeGone 24 rfl) rfl ?_
        refine fg_callV (fg_ft (pc := 41) tb_Mo_wholeGone 25 rfl) cf_Mo_182 (fg_isOf ly_287 rfl (fg_lt ly_287 (by decide))) (as := [.int (nI v), .int (nI r)]) (st := [.int (nI g)]) rfl rfl (Nat.le_of_ble_eq_true rfl) (Nat.le_refl _) (Nat.le_refl _) (ev_Mo_headOf hM hok (r := r) (by omega) ?_)
        refine fg_iload (fg_ft (pc := 44) tb_Mo_wholeGone 26 rfl) rfl ?_
        refine fg_iandN (fg_ft (pc := 46) tb_Mo_wholeGone 27 rfl) ?_
        refine fg_if_eqN (tgt := 74) (fg_ft (pc := 47) tb_Mo_wholeGone 28 rfl) (by decide) (Nat.lt_of_le_of_lt Nat.and_le_right (by omega)) (fun c47 => ?_) (fun c47 => ?_)
        · refine fg_iconst (fg_ft (pc := 74) tb_Mo_wholeGone 43 rfl) ic_0 ?_
          refine fg_iorN (fg_ft (pc := 75) tb_Mo_wholeGone 44 rfl) ?_
          refine fg_istore (fg_ft (pc := 76) tb_Mo_wholeGone 45 rfl) (Nat.le_of_ble_eq_true rfl) ?_
          refine fg_iincN (fg_ft (pc := 78) tb_Mo_wholeGone 46 rfl) rfl ic_1 rfl ?_
          refine fg_goto (tgt := 22) (fg_ft (pc := 81) tb_Mo_wholeGone 47 rfl) (by decide) ?_
          exact ih (r + 1) _ (by omega) (by omega) (by rw [Nat.or_zero]; exact hg.step0 (by first | exact Or.inl (fg_and2p'.mp c47) | exact Or.inr (fun hh => c61 (fg_df0.mpr hh))))
        · refine fg_aloadn (fg_ft (pc := 50) tb_Mo_wholeGone 29 rfl) rfl ?_
          refine fg_iloadn (fg_ft (pc := 51) tb_Mo_wholeGone 30 rfl) rfl ?_
          refine fg_iload (fg_ft (pc := 52) tb_Mo_wholeGone 31 rfl) rfl ?_
          refine fg_callV (fg_ft (pc := 54) tb_Mo_wholeGone 32 rfl) cf_Mo_179 (fg_isOf ly_287 rfl (fg_lt ly_287 (by decide))) (as := [.int (nI v), .int (nI r)]) (st := [.int (nI g)]) rfl rfl (Nat.le_of_ble_eq_true rfl) (Nat.le_refl _) (Nat.le_refl _) (ev_Mo_bodyOf hM hok (r := r) (by omega) ?_)
          refine fg_iloadn (fg_ft (pc := 57) tb_Mo_wholeGone 33 rfl) rfl ?_
          refine fg_iconst (fg_ft (pc := 58) tb_Mo_wholeGone 34 rfl) ic_m1 ?_
          refine fg_ixor (fg_ft (pc := 59) tb_Mo_wholeGone 35 rfl) ?_
          refine fg_iandD (fg_ft (pc := 60) tb_Mo_wholeGone 36 rfl) ?_
          refine fg_if_neN (tgt := 74) (fg_ft (pc := 61) tb_Mo_wholeGone 37 rfl) (by decide) (fg_df_le31 (by have := (hok.2.2.1 r (by omega)).2.1; omega)) (fun c61 => ?_) (fun c61 => ?_)
          · refine fg_iconst (fg_ft (pc := 74) tb_Mo_wholeGone 43 rfl) ic_0 ?_
            refine fg_iorN (fg_ft (pc := 75) tb_Mo_wholeGone 44 rfl) ?_
            refine fg_istore (fg_ft (pc := 76) tb_Mo_wholeGone 45 rfl) (Nat.le_of_ble_eq_true rfl) ?_
            refine fg_iincN (fg_ft (pc := 78) tb_Mo_wholeGone 46 rfl) rfl ic_1 rfl ?_
            refine fg_goto (tgt := 22) (fg_ft (pc := 81) tb_Mo_wholeGone 47 rfl) (by decide) ?_
            exact ih (r + 1) _ (by omega) (by omega) (by rw [Nat.or_zero]; exact hg.step0 (by first | exact Or.inl (fg_and2p'.mp c47) | exact Or.inr (fun hh => c61 (fg_df0.mpr hh))))
          · refine fg_aloadn (fg_ft (pc := 64) tb_Mo_wholeGone 38 rfl) rfl ?_
            refine fg_iloadn (fg_ft (pc := 65) tb_Mo_wholeGone 39 rfl) rfl ?_
            refine fg_iload (fg_ft (pc := 66) tb_Mo_wholeGone 40 rfl) rfl ?_
            refine fg_callV (fg_ft (pc := 68) tb_Mo_wholeGone 41 rfl) cf_Mo_179 (fg_isOf ly_287 rfl (fg_lt ly_287 (by decide))) (as := [.int (nI v), .int (nI r)]) (st := [.int (nI g)]) rfl rfl (Nat.le_of_ble_eq_true rfl) (Nat.le_refl _) (Nat.le_refl _) (ev_Mo_bodyOf hM hok (r := r) (by omega) ?_)
            refine fg_goto (tgt := 75) (fg_ft (pc := 71) tb_Mo_wholeGone 42 rfl) (by decide) ?_
            refine fg_iorN (fg_ft (pc := 75) tb_Mo_wholeGone 44 rfl) ?_
            refine fg_istore (fg_ft (pc := 76) tb_Mo_wholeGone 45 rfl) (Nat.le_of_ble_eq_true rfl) ?_
            refine fg_iincN (fg_ft (pc := 78) tb_Mo_wholeGone 46 rfl) rfl ic_1 rfl ?_
            refine fg_goto (tgt := 22) (fg_ft (pc := 81) tb_Mo_wholeGone 47 rfl) (by decide) ?_
            exact ih (r + 1) _ (by omega) (by omega) (hg.step1 hok (by omega) (Classical.byContradiction (fun hh => c47 (fg_and2p'.mpr hh))) (fg_df0.mp c61))
  have outer : ∀ (m g w : Nat) (v6 : Value), 2 * (2 ^ T 0 - g) + (if g = w then 0 else 1) < m → w < 2 ^ T 0 → fg_wO T mind fact w g → fg_wp E yy_Mo_wholeGone (d + 2) 304 304 Q 8 [.ref 287, .int (nI v), .int (nI mind), .int (nI fact), .int (nI g), .int (nI w), v6] [] (μ, fg_rho R, 304) := by
    intro m
    induction m with
    | zero => intro g w v6 h; exact absurd h (Nat.not_lt_zero _)
    | succ m ih =>
      intro g w v6 hm hw hg
      have hg0 := hg.1
      refine fg_iload (fg_ft (pc := 8) tb_Mo_wholeGone 6 rfl) rfl ?_
      refine fg_iload (fg_ft (pc := 10) tb_Mo_wholeGone 7 rfl) rfl ?_
      refine fg_icmp_eqN (tgt := 87) (fg_ft (pc := 12) tb_Mo_wholeGone 8 rfl) (by decide) (by omega) (by omega) (fun c12 => ?_) (fun c12 => ?_)
      · refine fg_iloadn (fg_ft (pc := 87) tb_Mo_wholeGone 49 rfl) rfl ?_
        refine fg_iload (fg_ft (pc := 88) tb_Mo_wholeGone 50 rfl) rfl ?_
        refine fg_iconst (fg_ft (pc := 90) tb_Mo_wholeGone 51 rfl) ic_m1 ?_
        refine fg_ixor (fg_ft (pc := 91) tb_Mo_wholeGone 52 rfl) ?_
        refine fg_iandD (fg_ft (pc := 92) tb_Mo_wholeGone 53 rfl) ?_
        exact fg_iret (fg_ft (pc := 93) tb_Mo_wholeGone 54 rfl) rfl rfl (by rw [← c12] at hg; unfold fg_fw at hQ; rw [fg_wO_end hg] at hQ; exact hQ)
      · refine fg_iload (fg_ft (pc := 15) tb_Mo_wholeGone 9 rfl) rfl ?_
        refine fg_istore (fg_ft (pc := 17) tb_Mo_wholeGone 10 rfl) (Nat.le_of_ble_eq_true rfl) ?_
        refine fg_iconst (fg_ft (pc := 19) tb_Mo_wholeGone 11 rfl) ic_0 ?_
        refine fg_istore (fg_ft (pc := 20) tb_Mo_wholeGone 12 rfl) (Nat.le_of_ble_eq_true rfl) ?_
        exact inner g (fun g' v6' hg' => ih g' g v6' (by rw [if_neg c12] at hm; have h1 := fg_le_le hg'.2.2.1; have h2 := hg'.1; split <;> omega) hg0 (fg_wO_out hg')) (T 1 + 1) 0 g (by omega) (by omega) (fg_wO_in hg)
  refine fg_intro (by decide +kernel) (Nat.le_of_ble_eq_true rfl) (fg_okAs rfl) (Nat.le_refl _) ?_
  refine fg_iconst (fg_ft (pc := 0) tb_Mo_wholeGone 0 rfl) ic_1 ?_
  refine fg_iloadn (fg_ft (pc := 1) tb_Mo_wholeGone 1 rfl) rfl ?_
  refine fg_ishl1 (fg_ft (pc := 2) tb_Mo_wholeGone 2 rfl) (by omega) ?_
  refine fg_istore (fg_ft (pc := 3) tb_Mo_wholeGone 3 rfl) (Nat.le_of_ble_eq_true rfl) ?_
  refine fg_iconst (fg_ft (pc := 5) tb_Mo_wholeGone 4 rfl) ic_0 ?_
  refine fg_istore (fg_ft (pc := 6) tb_Mo_wholeGone 5 rfl) (Nat.le_of_ble_eq_true rfl) ?_
  exact outer (2 * 2 ^ T 0 + 2) (2 ^ fact) 0 _ (by have := Nat.two_pow_pos fact; split <;> omega) (by omega) ⟨hpf, Nat.testBit_two_pow_self, fun g' h1 _ => fg_bit_le.mpr h1, fun hh => absurd hh (by have := Nat.two_pow_pos fact; omega)⟩
def fg_lim (T : Nat → Nat) (mind fact l : Nat) : Prop := ∃ N, ∀ n, N ≤ n → fg_lsn T mind n l = fg_fl T mind fact
theorem fg_lsn_fix {T : Nat → Nat} {mind l : Nat} (h : fg_lfr T mind l (T 1) = 0) : ∀ n, fg_lsn T mind n l = l := by
  intro n
  induction n with
  | zero => rfl
  | succ n ih =>
    show fg_lsn T mind n (fg_ls T mind l) = l
    rw [fg_ls_fix h]; exact ih
theorem fg_lsn_add (T : Nat → Nat) (mind : Nat) : ∀ a b l, fg_lsn T mind (a + b) l = fg_lsn T mind b (fg_lsn T mind a l) := by
  intro a
  induction a with
  | zero => intro b l; rw [Nat.zero_add]; rfl
  | succ a ih =>
    intro b l
    rw [show a + 1 + b = a + b + 1 by omega]
    show fg_lsn T mind (a + b) (fg_ls T mind l) = fg_lsn T mind b (fg_lsn T mind a (fg_ls T mind l))
    exact ih b _
theorem fg_lim_0 {T : Nat → Nat} (hok : fg_ok T) {mind fact : Nat} (hm : mind < 2 ^ T 0) : fg_lim T mind fact (fg_df mind (2 ^ fact)) := by
  refine ⟨10, fun n hn => ?_⟩
  have e := fg_lsn_add T mind 10 (n - 10) (fg_df mind (2 ^ fact))
  rw [show 10 + (n - 10) = n by omega] at e
  rw [e]
  exact fg_lsn_fix (fg_fl_end hok hm) _
theorem fg_lim_s {T : Nat → Nat} {mind fact l : Nat} (h : fg_lim T mind fact l) : fg_lim T mind fact (fg_ls T mind l) := by
  obtain ⟨N, h⟩ := h
  exact ⟨N, fun n hn => h (n + 1) (by omega)⟩
theorem fg_lim_e {T : Nat → Nat} {mind fact l : Nat} (h : fg_lim T mind fact l) (he : fg_lfr T mind l (T 1) = 0) : fg_fl T mind fact = l := by
  obtain ⟨N, h⟩ := h
  rw [← h N (Nat.le_refl _)]
  exact fg_lsn_fix he N
theorem fg_tp_step {s k : Nat} (h : s.testBit k = false) : fg_tp s (k + 1) = fg_tp s k := by
  show (if s.testBit k = true then 2 ^ k else fg_tp s k) = _
  rw [if_neg (by rw [h]; decide)]
theorem fg_tp_hit {s k : Nat} (h : s.testBit k = true) : fg_tp s (k + 1) = 2 ^ k := by
  show (if s.testBit k = true then 2 ^ k else fg_tp s k) = _
  rw [if_pos h]
theorem fg_df_or2 (m g x : Nat) : fg_df m (g ||| x) = fg_df (fg_df m g) x := by
  apply Nat.eq_of_testBit_eq
  intro i
  rw [fg_df_bit, fg_df_bit, fg_df_bit, Nat.testBit_or]
  cases m.testBit i <;> cases g.testBit i <;> cases x.testBit i <;> rfl
theorem fg_df_df {m g : Nat} (h : fg_le g m) : fg_df m (fg_df m g) = g := by
  apply Nat.eq_of_testBit_eq
  intro i
  rw [fg_df_bit, fg_df_bit]
  have := h i
  cases hm : m.testBit i <;> cases hg : g.testBit i <;> simp_all
theorem fg_lfr_hit {T : Nat → Nat} {mind l r : Nat} (h0 : fg_lfr T mind l r = 0) (hb : (fg_df mind l).testBit (T (8 + 2 * r)) = true) (hd : fg_df (T (9 + 2 * r)) l = 0) (hn : T (9 + 2 * r) ≠ 0) (hr : r < T 1) : fg_ls T mind l = fg_df l (fg_tp (T (9 + 2 * r)) 10) := by
  have e : fg_lfr T mind l (r + 1) = T (9 + 2 * r) := by
    show (if fg_lfr T mind l r = 0 then _ else _) = _
    rw [if_pos h0, if_pos ⟨hb, hd⟩]
  have := fg_lfr_keep (T := T) (mind := mind) (left := l) (T 1 - (r + 1)) (r + 1) (by rw [e]; exact hn)
  rw [show r + 1 + (T 1 - (r + 1)) = T 1 by omega, e] at this
  unfold fg_ls
  rw [this]
theorem fg_lfr_miss {T : Nat → Nat} {mind l r : Nat} (h0 : fg_lfr T mind l r = 0) (hn : ¬ ((fg_df mind l).testBit (T (8 + 2 * r)) = true ∧ fg_df (T (9 + 2 * r)) l = 0)) : fg_lfr T mind l (r + 1) = 0 := by
  show (if fg_lfr T mind l r = 0 then _ else _) = _
  rw [if_pos h0, if_neg hn]
theorem ev_Mo_lateGone {E : fg_E} {d : Nat} {μ : Nat → Nat → Int32} {R : fg_T4} {Q : Option Value → fg_M → Prop} {v : Nat} {T : Nat → Nat} (hM : fg_MT (μ 288) v T) (hok : fg_ok T) {mind fact : Nat} (hm : mind < 2 ^ T 0) (hf : fact < T 0) (hb : mind.testBit fact = true) (hQ : Q (some (.int (nI (fg_fl T mind fact)))) (μ, fg_rho R, 304))  : fg_Ev E yy_Mo_lateGone (d + 2) [.ref 287, .int (nI v), .int (nI mind), .int (nI fact)] (μ, fg_rho R, 304) 304 Q := by
  have hv0 := hM.1
  have hb0 := hok.1
  have hb1 := hok.2.1
  have hp := hok.p
  have hq := Nat.two_pow_pos (T 0)
  have top : ∀ (r g b : Nat), b < 2 ^ T 0 → b ≠ 0 → (∀ k, 2 ^ k = fg_tp b 10 → k < 10 → fg_wp E yy_Mo_lateGone (d + 2) 304 304 Q 96 [.ref 287, .int (nI v), .int (nI mind), .int (nI fact), .int (nI g), .int (nI 0), .int (nI r), .int (nI b), .int (nI k)] [] (μ, fg_rho R, 304)) → ∀ (m k : Nat), k < m → k < 10 → fg_tp b (k + 1) = fg_tp b 10 → b < 2 ^ (k + 1) → fg_wp E yy_Mo_lateGone (d + 2) 304 304 Q 80 [.ref 287, .int (nI v), .int (nI mind), .int (nI fact), .int (nI g), .int (nI 0), .int (nI r), .int (nI b), .int (nI k)] [] (μ, fg_rho R, 304) := by
    intro r g b hb hb0 hk m
    induction m with
    | zero => intro k h; exact absurd h (Nat.not_lt_zero _)
    | succ m ih =>
      intro k hm hk9 he hlt
      refine fg_iload (fg_ft (pc := 80) tb_Mo_lateGone 47 rfl) rfl ?_
      refine fg_iload (fg_ft (pc := 82) tb_Mo_lateGone 48 rfl) rfl ?_
      refine fg_ishrN (fg_ft (pc := 84) tb_Mo_lateGone 49 rfl) (by omega) (by omega) ?_
      refine fg_iconst (fg_ft (pc := 85) tb_Mo_lateGone 50 rfl) ic_1 ?_
      refine fg_iandN (fg_ft (pc := 86) tb_Mo_lateGone 51 rfl) ?_
      refine fg_ifbit_ne (tgt := 96) (fg_ft (pc := 87) tb_Mo_lateGone 52 rfl) (by decide) (fun c87 => ?_) (fun c87 => ?_)
      · exact hk k (by rw [← he]; exact (fg_tp_hit c87).symm) hk9
      · have hbk : b < 2 ^ k := fg_lt2 (fun i hi => by
          have := fg_bit_lt hlt hi
          rcases Nat.decEq i k with z | z
          · omega
          · rw [z, c87] at hi; cases hi)
        have hk0 : 0 < k := by
          rcases Nat.eq_zero_or_pos k with z | z
          · subst z; exact absurd hbk (by omega)
          · exact z
        refine fg_iinc (fg_ft (pc := 90) tb_Mo_lateGone 53 rfl) rfl (v := nI (k - 1)) (fg_dec hk0) ?_
        refine fg_goto (tgt := 80) (fg_ft (pc := 93) tb_Mo_lateGone 54 rfl) (by decide) ?_
        exact ih (k - 1) (by omega) (by omega) (by rw [show k - 1 + 1 = k by omega, ← fg_tp_step c87]; exact he) (by rw [show k - 1 + 1 = k by omega]; exact hbk)
  have inner : ∀ (g : Nat), fg_le g mind → (∀ g2 v6 v7 v8, fg_le g2 mind → fg_df mind g2 = fg_ls T mind (fg_df mind g) → fg_pc (fg_df mind g2) < fg_pc (fg_df mind g) → fg_wp E yy_Mo_lateGone (d + 2) 304 304 Q 8 [.ref 287, .int (nI v), .int (nI mind), .int (nI fact), .int (nI g2), .int (nI 1), v6, v7, v8] [] (μ, fg_rho R, 304)) → (∀ v6 v7 v8, fg_lfr T mind (fg_df mind g) (T 1) = 0 → fg_wp E yy_Mo_lateGone (d + 2) 304 304 Q 8 [.ref 287, .int (nI v), .int (nI mind), .int (nI fact), .int (nI g), .int (nI 0), v6, v7, v8] [] (μ, fg_rho R, 304)) → ∀ (m r : Nat) (v7 v8 : Value), T 1 - r < m → r ≤ T 1 → fg_lfr T mind (fg_df mind g) r = 0 → fg_wp E yy_Mo_lateGone (d + 2) 304 304 Q 19 [.ref 287, .int (nI v), .int (nI mind), .int (nI fact), .int (nI g), .int (nI 0), .int (nI r), v7, v8] [] (μ, fg_rho R, 304) := by
    intro g hgm hk1 hk0 m
    induction m with
    | zero => intro r v7 v8 h; exact absurd h (Nat.not_lt_zero _)
    | succ m ih =>
      intro r v7 v8 hm2 hr h0
      have hg0 := fg_le_lt hgm hm
      have edf := fg_df_df hgm
      refine fg_iload (fg_ft (pc := 19) tb_Mo_lateGone 12 rfl) rfl ?_
      refine fg_aloadn (fg_ft (pc := 21) tb_Mo_lateGone 13 rfl) rfl ?_
      refine fg_getR (fg_ft (pc := 22) tb_Mo_lateGone 14 rfl) ff_Mo_7 ly_287 rfl (fg_lt ly_287 (by decide)) (rh_287_0 R) ?_
      refine fg_iloadn (fg_ft (pc := 25) tb_Mo_lateGone 15 rfl) rfl ?_
      refine fg_iconst (fg_ft (pc := 26) tb_Mo_lateGone 16 rfl) ic_1 ?_
      refine fg_iaddN (fg_ft (pc := 27) tb_Mo_lateGone 17 rfl) ?_
      refine fg_ialdV (v := (nI (T 1))) (fg_ft (pc := 28) tb_Mo_lateGone 18 rfl) ly_288 (fg_lt ly_288 (by decide)) (by omega) (fg_MTat hM (i := v + 1) (k := 1) (by omega) (by omega)) ?_
      refine fg_icmp_geN (tgt := 114) (fg_ft (pc := 29) tb_Mo_lateGone 19 rfl) (by decide) (by omega) (by omega) (fun c29 => ?_) (fun c29 => ?_)
      · refine fg_goto (tgt := 8) (fg_ft (pc := 114) tb_Mo_lateGone 65 rfl) (by decide) ?_
        exact hk0 _ _ _ (by rw [show T 1 = r by omega]; exact h0)
      · refine fg_iload (fg_ft (pc := 32) tb_Mo_lateGone 20 rfl) rfl ?_
        refine fg_if_ne (tgt := 114) (fg_ft (pc := 34) tb_Mo_lateGone 21 rfl) (by decide) (fun h => absurd h (by decide)) (fun _ => ?_)
        refine fg_aloadn (fg_ft (pc := 37) tb_Mo_lateGone 22 rfl) rfl ?_
        refine fg_iloadn (fg_ft (pc := 38) tb_Mo_lateGone 23 rfl) rfl ?_
        refine fg_iload (fg_ft (pc := 39) tb_Mo_lateGone 24 rfl) rfl ?_
        refine fg_callV (fg_ft (pc := 41) tb_Mo_lateGone 25 rfl) cf_Mo_179 (fg_isOf ly_287 rfl (fg_lt ly_287 (by decide))) (as := [.int (nI v), .int (nI r)]) (st := []) rfl rfl (Nat.le_of_ble_eq_true rfl) (Nat.le_refl _) (Nat.le_refl _) (ev_Mo_bodyOf hM hok (r := r) (by omega) ?_)
        refine fg_istore (fg_ft (pc := 44) tb_Mo_lateGone 26 rfl) (Nat.le_of_ble_eq_true rfl) ?_
        refine fg_aloadn (fg_ft (pc := 46) tb_Mo_lateGone 27 rfl) rfl ?_
        refine fg_iloadn (fg_ft (pc := 47) tb_Mo_lateGone 28 rfl) rfl ?_
        refine fg_iload (fg_ft (pc := 48) tb_Mo_lateGone 29 rfl) rfl ?_
        refine fg_callV (fg_ft (pc := 50) tb_Mo_lateGone 30 rfl) cf_Mo_182 (fg_isOf ly_287 rfl (fg_lt ly_287 (by decide))) (as := [.int (nI v), .int (nI r)]) (st := []) rfl rfl (Nat.le_of_ble_eq_true rfl) (Nat.le_refl _) (Nat.le_refl _) (ev_Mo_headOf hM hok (r := r) (by omega) ?_)
        refine fg_iload (fg_ft (pc := 53) tb_Mo_lateGone 31 rfl) rfl ?_
        refine fg_iandN (fg_ft (pc := 55) tb_Mo_lateGone 32 rfl) ?_
        refine fg_if_eqN (tgt := 108) (fg_ft (pc := 56) tb_Mo_lateGone 33 rfl) (by decide) (Nat.lt_of_le_of_lt Nat.and_le_right (by omega)) (fun c56 => ?_) (fun c56 => ?_)
        · refine fg_iincN (fg_ft (pc := 108) tb_Mo_lateGone 63 rfl) rfl ic_1 rfl ?_
          refine fg_goto (tgt := 19) (fg_ft (pc := 111) tb_Mo_lateGone 64 rfl) (by decide) ?_
          exact ih (r + 1) _ _ (by omega) (by omega) (fg_lfr_miss h0 (fun hh => by first | exact fg_and2p'.mp c56 (by have := hh.1; rw [edf] at this; exact this) | exact c70 hh.2))
        · refine fg_iload (fg_ft (pc := 59) tb_Mo_lateGone 34 rfl) rfl ?_
          refine fg_iloadn (fg_ft (pc := 61) tb_Mo_lateGone 35 rfl) rfl ?_
          refine fg_iload (fg_ft (pc := 62) tb_Mo_lateGone 36 rfl) rfl ?_
          refine fg_iconst (fg_ft (pc := 64) tb_Mo_lateGone 37 rfl) ic_m1 ?_
          refine fg_ixor (fg_ft (pc := 65) tb_Mo_lateGone 38 rfl) ?_
          refine fg_iandD (fg_ft (pc := 66) tb_Mo_lateGone 39 rfl) ?_
          refine fg_iconst (fg_ft (pc := 67) tb_Mo_lateGone 40 rfl) ic_m1 ?_
          refine fg_ixor (fg_ft (pc := 68) tb_Mo_lateGone 41 rfl) ?_
          refine fg_iandD (fg_ft (pc := 69) tb_Mo_lateGone 42 rfl) ?_
          refine fg_if_eqN (tgt := 76) (fg_ft (pc := 70) tb_Mo_lateGone 43 rfl) (by decide) (fg_df_le31 (by have := (hok.2.2.1 r (by omega)).2.1; omega)) (fun c70 => ?_) (fun c70 => ?_)
          · have hbl := (hok.2.2.1 r (by omega)).2.1
            have hbn := (hok.2.2.1 r (by omega)).2.2
            have hhit := fg_lfr_hit h0 (by rw [edf]; exact Classical.byContradiction (fun hh => c56 (fg_and2p'.mpr hh))) c70 hbn (by omega)
            refine fg_bipush (fg_ft (pc := 76) tb_Mo_lateGone 45 rfl) ib_9 ?_
            refine fg_istore (fg_ft (pc := 78) tb_Mo_lateGone 46 rfl) (Nat.le_of_ble_eq_true rfl) ?_
            refine top r g (T (9 + 2 * r)) hbl hbn (fun k hkt hk9 => ?_) 10 9 (by decide) (by decide) rfl (Nat.lt_of_lt_of_le hbl hok.p)
            refine fg_iload (fg_ft (pc := 96) tb_Mo_lateGone 55 rfl) rfl ?_
            refine fg_iconst (fg_ft (pc := 98) tb_Mo_lateGone 56 rfl) ic_1 ?_
            refine fg_iload (fg_ft (pc := 99) tb_Mo_lateGone 57 rfl) rfl ?_
            refine fg_ishl1 (fg_ft (pc := 101) tb_Mo_lateGone 58 rfl) (by omega) ?_
            refine fg_iorN (fg_ft (pc := 102) tb_Mo_lateGone 59 rfl) ?_
            refine fg_istore (fg_ft (pc := 103) tb_Mo_lateGone 60 rfl) (Nat.le_of_ble_eq_true rfl) ?_
            refine fg_iconst (fg_ft (pc := 105) tb_Mo_lateGone 61 rfl) ic_1 ?_
            refine fg_istore (fg_ft (pc := 106) tb_Mo_lateGone 62 rfl) (Nat.le_of_ble_eq_true rfl) ?_
            refine fg_iincN (fg_ft (pc := 108) tb_Mo_lateGone 63 rfl) rfl ic_1 rfl ?_
            refine fg_goto (tgt := 19) (fg_ft (pc := 111) tb_Mo_lateGone 64 rfl) (by decide) ?_
            refine fg_iload (fg_ft (pc := 19) tb_Mo_lateGone 12 rfl) rfl ?_
            refine fg_aloadn (fg_ft (pc := 21) tb_Mo_lateGone 13 rfl) rfl ?_
            refine fg_getR (fg_ft (pc := 22) tb_Mo_lateGone 14 rfl) ff_Mo_7 ly_287 rfl (fg_lt ly_287 (by decide)) (rh_287_0 R) ?_
            refine fg_iloadn (fg_ft (pc := 25) tb_Mo_lateGone 15 rfl) rfl ?_
            refine fg_iconst (fg_ft (pc := 26) tb_Mo_lateGone 16 rfl) ic_1 ?_
            refine fg_iaddN (fg_ft (pc := 27) tb_Mo_lateGone 17 rfl) ?_
            refine fg_ialdV (v := (nI (T 1))) (fg_ft (pc := 28) tb_Mo_lateGone 18 rfl) ly_288 (fg_lt ly_288 (by decide)) (by omega) (fg_MTat hM (i := v + 1) (k := 1) (by omega) (by omega)) ?_
            refine fg_icmp_geN (tgt := 114) (fg_ft (pc := 29) tb_Mo_lateGone 19 rfl) (by decide) (by omega) (by omega) (fun c29 => ?_) (fun c29 => ?_)
            · refine fg_goto (tgt := 8) (fg_ft (pc := 114) tb_Mo_lateGone 65 rfl) (by decide) ?_
              exact hk1 (g ||| 2 ^ k) _ _ _ (fg_or_le hgm (by
                obtain ⟨i, h1, h2, h3⟩ := fg_tp_bit hbn 10 (Nat.lt_of_lt_of_le hbl hok.p)
                rw [← hkt] at h2
                rw [h2]
                exact fg_bit_le.mpr ((fg_df_le _ _) _ (fg_df0.mp c70 i h3)))) (by rw [fg_df_or2, hkt]; exact hhit.symm) (by
                rcases fg_ls_pc hok (mind := mind) (left := (fg_df mind g)) (fg_df_lt hm) with z | z
                · exfalso
                  have := fg_lfr_none hok (T 1) (Nat.le_refl _) z r (by omega)
                  exact this ⟨by rw [edf]; exact Classical.byContradiction (fun hh => c56 (fg_and2p'.mpr hh)), c70⟩
                · rw [fg_df_or2, hkt, ← hhit]; exact z)
            · refine fg_iload (fg_ft (pc := 32) tb_Mo_lateGone 20 rfl) rfl ?_
              refine fg_if_ne (tgt := 114) (fg_ft (pc := 34) tb_Mo_lateGone 21 rfl) (by decide) (fun _ => ?_) (fun h => absurd h (by decide))
              refine fg_goto (tgt := 8) (fg_ft (pc := 114) tb_Mo_lateGone 65 rfl) (by decide) ?_
              exact hk1 (g ||| 2 ^ k) _ _ _ (fg_or_le hgm (by
                obtain ⟨i, h1, h2, h3⟩ := fg_tp_bit hbn 10 (Nat.lt_of_lt_of_le hbl hok.p)
                rw [← hkt] at h2
                rw [h2]
                exact fg_bit_le.mpr ((fg_df_le _ _) _ (fg_df0.mp c70 i h3)))) (by rw [fg_df_or2, hkt]; exact hhit.symm) (by
                rcases fg_ls_pc hok (mind := mind) (left := (fg_df mind g)) (fg_df_lt hm) with z | z
                · exfalso
                  have := fg_lfr_none hok (T 1) (Nat.le_refl _) z r (by omega)
                  exact this ⟨by rw [edf]; exact Classical.byContradiction (fun hh => c56 (fg_and2p'.mpr hh)), c70⟩
                · rw [fg_df_or2, hkt, ← hhit]; exact z)
          · refine fg_goto (tgt := 108) (fg_ft (pc := 73) tb_Mo_lateGone 44 rfl) (by decide) ?_
            refine fg_iincN (fg_ft (pc := 108) tb_Mo_lateGone 63 rfl) rfl ic_1 rfl ?_
            refine fg_goto (tgt := 19) (fg_ft (pc := 111) tb_Mo_lateGone 64 rfl) (by decide) ?_
            exact ih (r + 1) _ _ (by omega) (by omega) (fg_lfr_miss h0 (fun hh => by first | exact fg_and2p'.mp c56 (by have := hh.1; rw [edf] at this; exact this) | exact c70 hh.2))
  have outer : ∀ (m g : Nat) (v6 v7 v8 : Value), fg_pc (fg_df mind g) < m → fg_le g mind → fg_lim T mind fact (fg_df mind g) → fg_wp E yy_Mo_lateGone (d + 2) 304 304 Q 8 [.ref 287, .int (nI v), .int (nI mind), .int (nI fact), .int (nI g), .int (nI 1), v6, v7, v8] [] (μ, fg_rho R, 304) := by
    intro m
    induction m with
    | zero => intro g v6 v7 v8 h; exact absurd h (Nat.not_lt_zero _)
    | succ m ih =>
      intro g v6 v7 v8 hm2 hgm hl
      refine fg_iload (fg_ft (pc := 8) tb_Mo_lateGone 6 rfl) rfl ?_
      refine fg_if_eq (tgt := 117) (fg_ft (pc := 10) tb_Mo_lateGone 7 rfl) (by decide) (fun h => absurd h (by decide)) (fun _ => ?_)
      refine fg_iconst (fg_ft (pc := 13) tb_Mo_lateGone 8 rfl) ic_0 ?_
      refine fg_istore (fg_ft (pc := 14) tb_Mo_lateGone 9 rfl) (Nat.le_of_ble_eq_true rfl) ?_
      refine fg_iconst (fg_ft (pc := 16) tb_Mo_lateGone 10 rfl) ic_0 ?_
      refine fg_istore (fg_ft (pc := 17) tb_Mo_lateGone 11 rfl) (Nat.le_of_ble_eq_true rfl) ?_
      refine inner g hgm (fun g2 v6 v7 v8 h1 h2 h3 => ih g2 v6 v7 v8 (by omega) h1 (by rw [h2]; exact fg_lim_s hl)) (fun v6 v7 v8 hz => ?_) (T 1 + 1) 0 _ _ (by omega) (by omega) rfl
      refine fg_iload (fg_ft (pc := 8) tb_Mo_lateGone 6 rfl) rfl ?_
      refine fg_if_eq (tgt := 117) (fg_ft (pc := 10) tb_Mo_lateGone 7 rfl) (by decide) (fun _ => ?_) (fun h => absurd h (by decide))
      refine fg_iloadn (fg_ft (pc := 117) tb_Mo_lateGone 66 rfl) rfl ?_
      refine fg_iload (fg_ft (pc := 118) tb_Mo_lateGone 67 rfl) rfl ?_
      refine fg_iconst (fg_ft (pc := 120) tb_Mo_lateGone 68 rfl) ic_m1 ?_
      refine fg_ixor (fg_ft (pc := 121) tb_Mo_lateGone 69 rfl) ?_
      refine fg_iandD (fg_ft (pc := 122) tb_Mo_lateGone 70 rfl) ?_
      exact fg_iret (fg_ft (pc := 123) tb_Mo_lateGone 71 rfl) rfl rfl (by rw [fg_lim_e hl hz] at hQ; exact hQ)
  refine fg_intro (by decide +kernel) (Nat.le_of_ble_eq_true rfl) (fg_okAs rfl) (Nat.le_refl _) ?_
  refine fg_iconst (fg_ft (pc := 0) tb_Mo_lateGone 0 rfl) ic_1 ?_
  refine fg_iloadn (fg_ft (pc := 1) tb_Mo_lateGone 1 rfl) rfl ?_
  refine fg_ishl1 (fg_ft (pc := 2) tb_Mo_lateGone 2 rfl) (by omega) ?_
  refine fg_istore (fg_ft (pc := 3) tb_Mo_lateGone 3 rfl) (Nat.le_of_ble_eq_true rfl) ?_
  refine fg_iconst (fg_ft (pc := 5) tb_Mo_lateGone 4 rfl) ic_1 ?_
  refine fg_istore (fg_ft (pc := 6) tb_Mo_lateGone 5 rfl) (Nat.le_of_ble_eq_true rfl) ?_
  exact outer 13 (2 ^ fact) _ _ _ (by have := fg_pc_le (fg_df mind (2 ^ fact)); omega) (fg_bit_le.mpr hb) (fg_lim_0 hok hm)
theorem ev_Mo_forget {E : fg_E} {d : Nat} {μ : Nat → Nat → Int32} {R : fg_T4} {Q : Option Value → fg_M → Prop} {v : Nat} {T : Nat → Nat} (hM : fg_MT (μ 288) v T) (hok : fg_ok T) (hC : fg_MC μ T) {m f kd : Nat} (hm : m < 2 ^ T 0) (hb : m.testBit f = true) (hkd : kd < 2 ^ 31) (hQ : Q (some (.int (nI (fg_fgt T m f kd)))) (μ, fg_rho R, 304))  : fg_Ev E yy_Mo_forget (d + 3) [.ref 287, .int (nI v), .int (nI m), .int (nI f), .int (nI kd)] (μ, fg_rho R, 304) 304 Q := by
  have hv0 := hM.1
  have hb0 := hok.1
  have hb1 := hok.2.1
  have hp := hok.p
  have hq := Nat.two_pow_pos (T 0)
  have hf : f < T 0 := fg_bit_lt hm hb
  refine fg_intro (by decide +kernel) (Nat.le_of_ble_eq_true rfl) (fg_okAs rfl) (Nat.le_refl _) ?_
  refine fg_iload (fg_ft (pc := 0) tb_Mo_forget 0 rfl) rfl ?_
  refine fg_iconst (fg_ft (pc := 2) tb_Mo_forget 1 rfl) ic_1 ?_
  refine fg_icmp_neN (tgt := 18) (fg_ft (pc := 3) tb_Mo_forget 2 rfl) (by decide) (by omega) (by decide) (fun c3 => ?_) (fun c3 => ?_)
  · refine fg_iload (fg_ft (pc := 18) tb_Mo_forget 11 rfl) rfl ?_
    refine fg_iconst (fg_ft (pc := 20) tb_Mo_forget 12 rfl) ic_2 ?_
    refine fg_icmp_neN (tgt := 34) (fg_ft (pc := 21) tb_Mo_forget 13 rfl) (by decide) (by omega) (by decide) (fun c21 => ?_) (fun c21 => ?_)
    · refine fg_aloadn (fg_ft (pc := 34) tb_Mo_forget 20 rfl) rfl ?_
      refine fg_iloadn (fg_ft (pc := 35) tb_Mo_forget 21 rfl) rfl ?_
      refine fg_iloadn (fg_ft (pc := 36) tb_Mo_forget 22 rfl) rfl ?_
      refine fg_iloadn (fg_ft (pc := 37) tb_Mo_forget 23 rfl) rfl ?_
      refine fg_callV (fg_ft (pc := 38) tb_Mo_forget 24 rfl) cf_Mo_194 (fg_isOf ly_287 rfl (fg_lt ly_287 (by decide))) (as := [.int (nI v), .int (nI m), .int (nI f)]) (st := []) rfl rfl (Nat.le_of_ble_eq_true rfl) (Nat.le_refl _) (Nat.le_refl _) (ev_Mo_wholeGone hM hok (mind := m) (fact := f) hm hf ?_)
      exact fg_iret (fg_ft (pc := 41) tb_Mo_forget 25 rfl) rfl rfl (fg_q hQ (by unfold fg_fgt; rw [if_pos hb]; first | (rw [if_pos c3, (fg_lst_some hok m f).1]; rfl) | (rw [if_neg c3, if_pos c21]) | (rw [if_neg c3, if_neg c21])))
    · refine fg_aloadn (fg_ft (pc := 24) tb_Mo_forget 14 rfl) rfl ?_
      refine fg_iloadn (fg_ft (pc := 25) tb_Mo_forget 15 rfl) rfl ?_
      refine fg_iloadn (fg_ft (pc := 26) tb_Mo_forget 16 rfl) rfl ?_
      refine fg_iloadn (fg_ft (pc := 27) tb_Mo_forget 17 rfl) rfl ?_
      refine fg_callV (fg_ft (pc := 28) tb_Mo_forget 18 rfl) cf_Mo_191 (fg_isOf ly_287 rfl (fg_lt ly_287 (by decide))) (as := [.int (nI v), .int (nI m), .int (nI f)]) (st := []) rfl rfl (Nat.le_of_ble_eq_true rfl) (Nat.le_refl _) (Nat.le_refl _) (ev_Mo_lateGone hM hok (mind := m) (fact := f) hm hf hb ?_)
      refine fg_goto (tgt := 41) (fg_ft (pc := 31) tb_Mo_forget 19 rfl) (by decide) ?_
      exact fg_iret (fg_ft (pc := 41) tb_Mo_forget 25 rfl) rfl rfl (fg_q hQ (by unfold fg_fgt; rw [if_pos hb]; first | (rw [if_pos c3, (fg_lst_some hok m f).1]; rfl) | (rw [if_neg c3, if_pos c21]) | (rw [if_neg c3, if_neg c21])))
  · refine fg_aloadn (fg_ft (pc := 6) tb_Mo_forget 3 rfl) rfl ?_
    refine fg_iloadn (fg_ft (pc := 7) tb_Mo_forget 4 rfl) rfl ?_
    refine fg_iconst (fg_ft (pc := 8) tb_Mo_forget 5 rfl) ic_1 ?_
    refine fg_iloadn (fg_ft (pc := 9) tb_Mo_forget 6 rfl) rfl ?_
    refine fg_ishl1 (fg_ft (pc := 10) tb_Mo_forget 7 rfl) (by omega) ?_
    refine fg_iconst (fg_ft (pc := 11) tb_Mo_forget 8 rfl) ic_0 ?_
    refine fg_callV (fg_ft (pc := 12) tb_Mo_forget 9 rfl) cf_Mo_188 (fg_isOf ly_287 rfl (fg_lt ly_287 (by decide))) (as := [.int (nI m), .int (nI (2 ^ f)), .int (nI 0)]) (st := []) rfl rfl (Nat.le_of_ble_eq_true rfl) (Nat.le_refl _) (Nat.le_refl _) (ev_Mo_bestPart hM hok hC (mind := m) (gone := (2 ^ f)) (kept := 0) (hm) (by decide) ?_)
    refine fg_goto (tgt := 41) (fg_ft (pc := 15) tb_Mo_forget 10 rfl) (by decide) ?_
    exact fg_iret (fg_ft (pc := 41) tb_Mo_forget 25 rfl) rfl rfl (fg_q hQ (by unfold fg_fgt; rw [if_pos hb]; first | (rw [if_pos c3, (fg_lst_some hok m f).1]; rfl) | (rw [if_neg c3, if_pos c21]) | (rw [if_neg c3, if_neg c21])))
theorem ev_Mo_isPerson {E : fg_E} {d : Nat} {μ : Nat → Nat → Int32} {R : fg_T4} {Q : Option Value → fg_M → Prop} {v : Nat} {T : Nat → Nat} (hM : fg_MT (μ 288) v T) (hok : fg_ok T) {k : Nat} (hk : k < 2 ^ 32) (hQ : Q (some (.int (fg_bI (k < T 2)))) (μ, fg_rho R, 304))  : fg_Ev E yy_Mo_isPerson (d + 2) [.ref 287, .int (nI v), .int (nI k)] (μ, fg_rho R, 304) 304 Q := by
  have hv0 := hM.1
  have hb0 := hok.1
  have hb1 := hok.2.1
  have hp := hok.p
  have hq := Nat.two_pow_pos (T 0)
  refine fg_intro (by decide +kernel) (Nat.le_of_ble_eq_true rfl) (fg_okAs rfl) (Nat.le_refl _) ?_
  refine fg_iloadn (fg_ft (pc := 0) tb_Mo_isPerson 0 rfl) rfl ?_
  refine fg_iconst (fg_ft (pc := 1) tb_Mo_isPerson 1 rfl) ic_0 ?_
  refine fg_aloadn (fg_ft (pc := 2) tb_Mo_isPerson 2 rfl) rfl ?_
  refine fg_getR (fg_ft (pc := 3) tb_Mo_isPerson 3 rfl) ff_Mo_7 ly_287 rfl (fg_lt ly_287 (by decide)) (rh_287_0 R) ?_
  refine fg_iloadn (fg_ft (pc := 6) tb_Mo_isPerson 4 rfl) rfl ?_
  refine fg_iconst (fg_ft (pc := 7) tb_Mo_isPerson 5 rfl) ic_2 ?_
  refine fg_iaddN (fg_ft (pc := 8) tb_Mo_isPerson 6 rfl) ?_
  refine fg_ialdV (v := (nI (T 2))) (fg_ft (pc := 9) tb_Mo_isPerson 7 rfl) ly_288 (fg_lt ly_288 (by decide)) (by omega) (fg_MTat hM (i := v + 2) (k := 2) (by omega) (by omega)) ?_
  refine fg_iconst (fg_ft (pc := 10) tb_Mo_isPerson 8 rfl) ic_1 ?_
  refine fg_isub (fg_ft (pc := 11) tb_Mo_isPerson 9 rfl) ?_
  refine fg_callS (fg_ft (pc := 12) tb_Mo_isPerson 10 rfl) cf_Mo_110 (as := [.int (nI k), .int (nI 0), .int ((nI (T 2)) - (nI 1))]) (st := []) rfl rfl (Nat.le_of_ble_eq_true rfl) (Nat.le_refl _) (Nat.le_refl _) (ev_Mo_isIn0 (k := k) (c := (T 2)) (hk) (by omega) ?_)
  exact fg_zret (fg_ft (pc := 15) tb_Mo_isPerson 11 rfl) rfl (fg_bN _) rfl (hQ)
theorem ev_Mo_isFact {E : fg_E} {d : Nat} {μ : Nat → Nat → Int32} {R : fg_T4} {Q : Option Value → fg_M → Prop} {v : Nat} {T : Nat → Nat} (hM : fg_MT (μ 288) v T) (hok : fg_ok T) {k : Nat} (hk : k < 2 ^ 32) (hQ : Q (some (.int (fg_bI (k < T 0)))) (μ, fg_rho R, 304))  : fg_Ev E yy_Mo_isFact (d + 2) [.ref 287, .int (nI v), .int (nI k)] (μ, fg_rho R, 304) 304 Q := by
  have hv0 := hM.1
  have hb0 := hok.1
  have hb1 := hok.2.1
  have hp := hok.p
  have hq := Nat.two_pow_pos (T 0)
  refine fg_intro (by decide +kernel) (Nat.le_of_ble_eq_true rfl) (fg_okAs rfl) (Nat.le_refl _) ?_
  refine fg_iloadn (fg_ft (pc := 0) tb_Mo_isFact 0 rfl) rfl ?_
  refine fg_iconst (fg_ft (pc := 1) tb_Mo_isFact 1 rfl) ic_0 ?_
  refine fg_aloadn (fg_ft (pc := 2) tb_Mo_isFact 2 rfl) rfl ?_
  refine fg_getR (fg_ft (pc := 3) tb_Mo_isFact 3 rfl) ff_Mo_7 ly_287 rfl (fg_lt ly_287 (by decide)) (rh_287_0 R) ?_
  refine fg_iloadn (fg_ft (pc := 6) tb_Mo_isFact 4 rfl) rfl ?_
  refine fg_iconst (fg_ft (pc := 7) tb_Mo_isFact 5 rfl) ic_0 ?_
  refine fg_iaddN (fg_ft (pc := 8) tb_Mo_isFact 6 rfl) ?_
  refine fg_ialdV (v := (nI (T 0))) (fg_ft (pc := 9) tb_Mo_isFact 7 rfl) ly_288 (fg_lt ly_288 (by decide)) (by omega) (fg_MTat hM (i := v + 0) (k := 0) (by omega) (by omega)) ?_
  refine fg_iconst (fg_ft (pc := 10) tb_Mo_isFact 8 rfl) ic_1 ?_
  refine fg_isub (fg_ft (pc := 11) tb_Mo_isFact 9 rfl) ?_
  refine fg_callS (fg_ft (pc := 12) tb_Mo_isFact 10 rfl) cf_Mo_110 (as := [.int (nI k), .int (nI 0), .int ((nI (T 0)) - (nI 1))]) (st := []) rfl rfl (Nat.le_of_ble_eq_true rfl) (Nat.le_refl _) (Nat.le_refl _) (ev_Mo_isIn0 (k := k) (c := (T 0)) (hk) (by omega) ?_)
  exact fg_zret (fg_ft (pc := 15) tb_Mo_isFact 11 rfl) rfl (fg_bN _) rfl (hQ)
theorem ev_Mo_knows {E : fg_E} {d : Nat} {μ : Nat → Nat → Int32} {R : fg_T4} {Q : Option Value → fg_M → Prop} {T Mv : Nat → Nat} (hMv : ∀ p, p < T 2 → μ 292 p = nI (Mv p)) {p f : Nat} (hp : p < T 2) (hf : f < 32) (hm : Mv p < 2 ^ 31 ∧ p < 5) (hQ : Q (some (.int (fg_bI ((Mv p).testBit f = true)))) (μ, fg_rho R, 304)) : fg_Ev E yy_Mo_knows (d + 1) [.ref 287, .int (nI p), .int (nI f)] (μ, fg_rho R, 304) 304 Q := by
  obtain ⟨hm, hp5⟩ := hm
  refine fg_intro (by decide +kernel) (Nat.le_of_ble_eq_true rfl) (fg_okAs rfl) (Nat.le_refl _) ?_
  refine fg_aloadn (fg_ft (pc := 0) tb_Mo_knows 0 rfl) rfl ?_
  refine fg_getR (fg_ft (pc := 1) tb_Mo_knows 1 rfl) ff_Mo_23 ly_287 rfl (fg_lt ly_287 (by decide)) (rh_287_12 R) ?_
  refine fg_iloadn (fg_ft (pc := 4) tb_Mo_knows 2 rfl) rfl ?_
  refine fg_ialdV (v := (nI (Mv p))) (fg_ft (pc := 5) tb_Mo_knows 3 rfl) ly_292 (fg_lt ly_292 (by decide)) (by omega) (hMv p hp) ?_
  refine fg_iloadn (fg_ft (pc := 6) tb_Mo_knows 4 rfl) rfl ?_
  refine fg_ishrN (fg_ft (pc := 7) tb_Mo_knows 5 rfl) (hm) (hf) ?_
  refine fg_iconst (fg_ft (pc := 8) tb_Mo_knows 6 rfl) ic_1 ?_
  refine fg_iandN (fg_ft (pc := 9) tb_Mo_knows 7 rfl) ?_
  refine fg_iconst (fg_ft (pc := 10) tb_Mo_knows 8 rfl) ic_1 ?_
  refine fg_icmpbit_ne (tgt := 18) (fg_ft (pc := 11) tb_Mo_knows 9 rfl) (by decide) (fun c11 => ?_) (fun c11 => ?_)
  · refine fg_iconst (fg_ft (pc := 18) tb_Mo_knows 12 rfl) ic_0 ?_
    exact fg_zret (fg_ft (pc := 19) tb_Mo_knows 13 rfl) rfl (by decide) rfl (fg_q hQ (by first | exact fg_bT c11 | exact fg_bF (by rw [c11]; decide)))
  · refine fg_iconst (fg_ft (pc := 14) tb_Mo_knows 10 rfl) ic_1 ?_
    refine fg_goto (tgt := 19) (fg_ft (pc := 15) tb_Mo_knows 11 rfl) (by decide) ?_
    exact fg_zret (fg_ft (pc := 19) tb_Mo_knows 13 rfl) rfl (by decide) rfl (fg_q hQ (by first | exact fg_bT c11 | exact fg_bF (by rw [c11]; decide)))
