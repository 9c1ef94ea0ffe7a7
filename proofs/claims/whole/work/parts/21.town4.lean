/-- there is always a best part, or none -/
theorem fg_bst_ex (T : Nat → Nat) {mind gone kept : Nat} : ∃ r, fg_IsB T mind gone kept r := by
  rcases Classical.em (fg_le kept (fg_df mind gone)) with hk | hk
  · refine fg_descLoop2 (free := fg_df (fg_df mind gone) kept) (σ := Option Nat) (fun _ _ => ∃ r, fg_IsB T mind gone kept r) (fun _ => ∃ r, fg_IsB T mind gone kept r)
      (fun S r => match r with
        | none => ∀ q, S q → ¬ fg_clsd T (q ||| kept)
        | some p => S p ∧ fg_clsd T (p ||| kept) ∧ ∀ q, S q → fg_clsd T (q ||| kept) → fg_pc (q ||| kept) < fg_pc (p ||| kept) ∨ (fg_pc (q ||| kept) = fg_pc (p ||| kept) ∧ q ≤ p)) ?_ ?_ none (fun _ h => h.elim)
    · intro s hI
      cases s with
      | none => exact ⟨none, fg_B_none hI⟩
      | some p => exact ⟨some (p ||| kept), fg_B_some hk hI.1 hI.2.1 hI.2.2⟩
    · intro part s hp hI hz hk2
      have goal : ∃ s' : Option Nat, (match s' with
        | none => ∀ q, (fg_le q (fg_df (fg_df mind gone) kept) ∧ part ≤ q) → ¬ fg_clsd T (q ||| kept)
        | some p => (fg_le p (fg_df (fg_df mind gone) kept) ∧ part ≤ p) ∧ fg_clsd T (p ||| kept) ∧ ∀ q, (fg_le q (fg_df (fg_df mind gone) kept) ∧ part ≤ q) → fg_clsd T (q ||| kept) → fg_pc (q ||| kept) < fg_pc (p ||| kept) ∨ (fg_pc (q ||| kept) = fg_pc (p ||| kept) ∧ q ≤ p)) := by
        rcases Classical.em (fg_clsd T (part ||| kept)) with hc | hc
        · cases s with
          | none =>
            refine ⟨some part, ⟨hp, Nat.le_refl _⟩, hc, fun q hq hc2 => ?_⟩
            rcases Nat.lt_or_ge part q with g | g
            · exact absurd hc2 (hI q ⟨hq.1, g⟩)
            · have e : q = part := by have := hq.2; omega
              rw [e]; exact Or.inr ⟨rfl, Nat.le_refl _⟩
          | some p =>
            obtain ⟨h1, h2, h3⟩ := hI
            rcases Nat.lt_or_ge (fg_pc (p ||| kept)) (fg_pc (part ||| kept)) with g0 | g0
            · refine ⟨some part, ⟨hp, Nat.le_refl _⟩, hc, fun q hq hc2 => ?_⟩
              rcases Nat.lt_or_ge part q with g | g
              · have := h3 q ⟨hq.1, g⟩ hc2; omega
              · have e : q = part := by have := hq.2; omega
                rw [e]; exact Or.inr ⟨rfl, Nat.le_refl _⟩
            · refine ⟨some p, ⟨h1.1, Nat.le_of_lt h1.2⟩, h2, fun q hq hc2 => ?_⟩
              rcases Nat.lt_or_ge part q with g | g
              · exact h3 q ⟨hq.1, g⟩ hc2
              · have e : q = part := by have := hq.2; omega
                rw [e]; have := h1.2; omega
        · cases s with
          | none =>
            refine ⟨none, fun q hq => ?_⟩
            rcases Nat.lt_or_ge part q with g | g
            · exact hI q ⟨hq.1, g⟩
            · have e : q = part := by have := hq.2; omega
              rw [e]; exact hc
          | some p =>
            obtain ⟨h1, h2, h3⟩ := hI
            refine ⟨some p, ⟨h1.1, Nat.le_of_lt h1.2⟩, h2, fun q hq hc2 => ?_⟩
            rcases Nat.lt_or_ge part q with g | g
            · exact h3 q ⟨hq.1, g⟩ hc2
            · have e : q = part := by have := hq.2; omega
              rw [e] at hc2; exact absurd hc2 hc
      obtain ⟨s', hs'⟩ := goal
      rcases Nat.eq_zero_or_pos part with h0 | h0
      · exact hz s' hs' h0
      · exact hk2 s' hs' (by omega)
  · refine ⟨none, fun p hp => hk (fg_le_tr hp.2.2.1 (fun i hi => ?_))⟩
    rw [fg_df_bit]
    have h1 := hp.1 i hi
    have h2 := congrArg (fun z => Nat.testBit z i) hp.2.1
    simp only [Nat.testBit_and, Nat.zero_testBit, hi, Bool.true_and] at h2
    rw [h1, h2]; rfl
theorem fg_bst_is (T : Nat → Nat) (mind gone kept : Nat) : fg_IsB T mind gone kept (fg_bst T mind gone kept) := by
  obtain ⟨r, hr⟩ := fg_bst_ex T (mind := mind) (gone := gone) (kept := kept)
  rw [fg_bst_of hr]
  exact hr
theorem fg_clsd0 {T : Nat → Nat} (hok : fg_ok T) : fg_clsd T 0 := by
  intro r hr h
  exact absurd (Nat.le_zero.mp (fg_le_le h)) (hok.2.2.1 r hr).2.2
noncomputable def fg_lst (T : Nat → Nat) (mind fact : Nat) : Nat := (fg_bst T mind (2 ^ fact) 0).getD 0
theorem fg_lst_some {T : Nat → Nat} (hok : fg_ok T) (mind fact : Nat) : fg_bst T mind (2 ^ fact) 0 = some (fg_lst T mind fact) ∧ fg_okp T mind (2 ^ fact) 0 (fg_lst T mind fact) := by
  have h := fg_bst_is T mind (2 ^ fact) 0
  unfold fg_lst
  cases hb : fg_bst T mind (2 ^ fact) 0 with
  | none =>
    rw [hb] at h
    exact absurd ⟨fun i hi => (by rw [Nat.zero_testBit] at hi; cases hi), Nat.zero_and _, fg_le_rf 0, fg_clsd0 hok⟩ (h 0)
  | some b =>
    rw [hb] at h
    exact ⟨rfl, h.1⟩
/-- what is left of a mind that forgets -/
noncomputable def fg_fgt (T : Nat → Nat) (mind fact kind : Nat) : Nat := if mind.testBit fact = true then (if kind = 1 then fg_lst T mind fact else if kind = 2 then fg_fl T mind fact else fg_fw T mind fact) else mind
theorem fg_lsn_le {T : Nat → Nat} {mind : Nat} : ∀ n l, fg_le (fg_lsn T mind n l) l := by
  intro n
  induction n with
  | zero => intro l; exact fg_le_rf _
  | succ n ih => intro l; exact fg_le_tr (ih _) (fg_df_le _ _)
theorem fg_fgt_le {T : Nat → Nat} (hok : fg_ok T) (mind fact kind : Nat) : fg_le (fg_fgt T mind fact kind) mind := by
  unfold fg_fgt
  split
  · split
    · exact (fg_lst_some hok mind fact).2.1
    · split
      · exact fg_le_tr (fg_lsn_le _ _) (fg_df_le _ _)
      · exact fg_df_le _ _
  · exact fg_le_rf _
theorem fg_fgt_lt {T : Nat → Nat} (hok : fg_ok T) {mind fact kind n : Nat} (h : mind < 2 ^ n) : fg_fgt T mind fact kind < 2 ^ n := fg_le_lt (fg_fgt_le hok mind fact kind) h
theorem ev_Town_forget {E : fg_E} {d : Nat} {μ : Nat → Nat → Int32} {R : fg_T4} {Q : Option Value → fg_M → Prop} {t : Nat} {T : Nat → Nat} (ht : fg_isT t) (hT : fg_TW μ t T) (hok : fg_ok T) {m f kd : Nat} (hm : m < 2 ^ T 0) (hf : f < 2 ^ 31) (hkd : kd < 2 ^ 31) (hQ : Q (some (.int (nI (fg_fgt T m f kd)))) (μ, fg_rho R, 304)) : fg_Ev E yy_Town_forget (d + 4) [.ref t, .int (nI m), .int (nI f), .int (nI kd)] (μ, fg_rho R, 304) 304 Q := by
  have hb0 := hok.1
  have hb1 := hok.2.1
  have hp := hok.p
  have hq := Nat.two_pow_pos (T 0)
  refine fg_intro (by decide +kernel) (Nat.le_of_ble_eq_true rfl) (fg_okAs rfl) (Nat.le_refl _) ?_
  refine fg_iloadn (fg_ft (pc := 0) tb_Town_forget 0 rfl) rfl ?_
  refine fg_iloadn (fg_ft (pc := 1) tb_Town_forget 1 rfl) rfl ?_
  refine fg_callSN (fg_ft (pc := 2) tb_Town_forget 2 rfl) cf_Town_76 (as := [.int (nI m), .int (nI f)]) (st := []) rfl rfl (Nat.le_of_ble_eq_true rfl) (Nat.le_refl _) (Nat.le_refl _) (ev_Fb_isIn (s := m) (k := f) (by omega) (by omega) ?_)
  refine fg_ifB_ne (tgt := 10) (fg_ft (pc := 5) tb_Town_forget 3 rfl) (by decide) (fun c5 => ?_) (fun c5 => ?_)
  · have hfF : f < T 0 := fg_bit_lt hm c5
    refine fg_iloadn (fg_ft (pc := 10) tb_Town_forget 6 rfl) rfl ?_
    refine fg_iconst (fg_ft (pc := 11) tb_Town_forget 7 rfl) ic_1 ?_
    refine fg_icmp_neN (tgt := 25) (fg_ft (pc := 12) tb_Town_forget 8 rfl) (by decide) (by omega) (by decide) (fun c12 => ?_) (fun c12 => ?_)
    · refine fg_iloadn (fg_ft (pc := 25) tb_Town_forget 17 rfl) rfl ?_
      refine fg_iconst (fg_ft (pc := 26) tb_Town_forget 18 rfl) ic_2 ?_
      refine fg_icmp_neN (tgt := 39) (fg_ft (pc := 27) tb_Town_forget 19 rfl) (by decide) (by omega) (by decide) (fun c27 => ?_) (fun c27 => ?_)
      · refine fg_aloadn (fg_ft (pc := 39) tb_Town_forget 25 rfl) rfl ?_
        refine fg_iloadn (fg_ft (pc := 40) tb_Town_forget 26 rfl) rfl ?_
        refine fg_iloadn (fg_ft (pc := 41) tb_Town_forget 27 rfl) rfl ?_
        refine fg_callV (fg_ft (pc := 42) tb_Town_forget 28 rfl) cf_Town_87 (fg_isOf (tT_lay ht) rfl (fg_lt (tT_lay ht) (by decide))) (as := [.int (nI m), .int (nI f)]) (st := []) rfl rfl (Nat.le_of_ble_eq_true rfl) (Nat.le_refl _) (Nat.le_refl _) (ev_Town_forgetWhole ht hT hok (mind := m) (fact := f) (by assumption) (by assumption) ?_)
        exact fg_iret (fg_ft (pc := 45) tb_Town_forget 29 rfl) rfl rfl (by rw [show fg_fgt T m f kd = fg_fw T m f by unfold fg_fgt; rw [if_pos c5, if_neg c12, if_neg c27]] at hQ; exact hQ)
      · refine fg_aloadn (fg_ft (pc := 30) tb_Town_forget 20 rfl) rfl ?_
        refine fg_iloadn (fg_ft (pc := 31) tb_Town_forget 21 rfl) rfl ?_
        refine fg_iloadn (fg_ft (pc := 32) tb_Town_forget 22 rfl) rfl ?_
        refine fg_callV (fg_ft (pc := 33) tb_Town_forget 23 rfl) cf_Town_84 (fg_isOf (tT_lay ht) rfl (fg_lt (tT_lay ht) (by decide))) (as := [.int (nI m), .int (nI f)]) (st := []) rfl rfl (Nat.le_of_ble_eq_true rfl) (Nat.le_refl _) (Nat.le_refl _) (ev_Town_forgetLate ht hT hok (mind := m) (fact := f) (by assumption) (by assumption) ?_)
        refine fg_goto (tgt := 45) (fg_ft (pc := 36) tb_Town_forget 24 rfl) (by decide) ?_
        exact fg_iret (fg_ft (pc := 45) tb_Town_forget 29 rfl) rfl rfl (by rw [show fg_fgt T m f kd = fg_fl T m f by unfold fg_fgt; rw [if_pos c5, if_neg c12, if_pos c27]] at hQ; exact hQ)
    · refine fg_aloadn (fg_ft (pc := 15) tb_Town_forget 9 rfl) rfl ?_
      refine fg_iloadn (fg_ft (pc := 16) tb_Town_forget 10 rfl) rfl ?_
      refine fg_iconst (fg_ft (pc := 17) tb_Town_forget 11 rfl) ic_1 ?_
      refine fg_iloadn (fg_ft (pc := 18) tb_Town_forget 12 rfl) rfl ?_
      refine fg_ishl1 (fg_ft (pc := 19) tb_Town_forget 13 rfl) (by omega) ?_
      refine fg_iconst (fg_ft (pc := 20) tb_Town_forget 14 rfl) ic_0 ?_
      refine fg_callV (fg_ft (pc := 21) tb_Town_forget 15 rfl) cf_Town_80 (fg_isOf (tT_lay ht) rfl (fg_lt (tT_lay ht) (by decide))) (as := [.int (nI m), .int (nI (2 ^ f)), .int (nI 0)]) (st := []) rfl rfl (Nat.le_of_ble_eq_true rfl) (Nat.le_refl _) (Nat.le_refl _) (ev_Town_largest ht hT hok (mind := m) (gone := (2 ^ f)) (kept := 0) (by assumption) (by decide) ?_)
      exact fg_iret (fg_ft (pc := 24) tb_Town_forget 16 rfl) rfl rfl (by rw [show fg_fgt T m f kd = fg_lst T m f by unfold fg_fgt; rw [if_pos c5, if_pos c12]] at hQ; rw [(fg_lst_some hok m f).1]; exact hQ)
  · refine fg_iloadn (fg_ft (pc := 8) tb_Town_forget 4 rfl) rfl ?_
    exact fg_iret (fg_ft (pc := 9) tb_Town_forget 5 rfl) rfl rfl (by rw [show fg_fgt T m f kd = m from if_neg c5] at hQ; exact hQ)
theorem ev_Town_gainOf {E : fg_E} {d : Nat} {μ : Nat → Nat → Int32} {R : fg_T4} {Q : Option Value → fg_M → Prop} {t : Nat} {T : Nat → Nat} (ht : fg_isT t) (hT : fg_TW μ t T) (hok : fg_ok T) {m f kd : Nat} (hm : m < 2 ^ T 0) (hf : f < 2 ^ 31) (hkd : kd < 2 ^ 31) (hQ : Q (some (.int (fg_w T (fg_fgt T m f kd) - fg_w T m))) (μ, fg_rho R, 304)) : fg_Ev E yy_Town_gainOf (d + 5) [.ref t, .int (nI m), .int (nI f), .int (nI kd)] (μ, fg_rho R, 304) 304 Q := by
  have hb0 := hok.1
  have hb1 := hok.2.1
  have hp := hok.p
  have hq := Nat.two_pow_pos (T 0)
  refine fg_intro (by decide +kernel) (Nat.le_of_ble_eq_true rfl) (fg_okAs rfl) (Nat.le_refl _) ?_
  refine fg_aloadn (fg_ft (pc := 0) tb_Town_gainOf 0 rfl) rfl ?_
  refine fg_aloadn (fg_ft (pc := 1) tb_Town_gainOf 1 rfl) rfl ?_
  refine fg_iloadn (fg_ft (pc := 2) tb_Town_gainOf 2 rfl) rfl ?_
  refine fg_iloadn (fg_ft (pc := 3) tb_Town_gainOf 3 rfl) rfl ?_
  refine fg_iloadn (fg_ft (pc := 4) tb_Town_gainOf 4 rfl) rfl ?_
  refine fg_callV (fg_ft (pc := 5) tb_Town_gainOf 5 rfl) cf_Town_97 (fg_isOf (tT_lay ht) rfl (fg_lt (tT_lay ht) (by decide))) (as := [.int (nI m), .int (nI f), .int (nI kd)]) (st := [.ref t]) rfl rfl (Nat.le_of_ble_eq_true rfl) (Nat.le_refl _) (Nat.le_refl _) (ev_Town_forget ht hT hok (m := m) (f := f) (kd := kd) (by assumption) (hf) (hkd) ?_)
  refine fg_callV (fg_ft (pc := 8) tb_Town_gainOf 6 rfl) cf_Town_100 (fg_isOf (tT_lay ht) rfl (fg_lt (tT_lay ht) (by decide))) (as := [.int (nI (fg_fgt T m f kd))]) (st := []) rfl rfl (Nat.le_of_ble_eq_true rfl) (Nat.le_refl _) (Nat.le_refl _) (ev_Town_worthOf ht hT hok (m := (fg_fgt T m f kd)) (fg_lt10 (fg_fgt_lt hok hm) hok.1.2) ?_)
  refine fg_aloadn (fg_ft (pc := 11) tb_Town_gainOf 7 rfl) rfl ?_
  refine fg_iloadn (fg_ft (pc := 12) tb_Town_gainOf 8 rfl) rfl ?_
  refine fg_callV (fg_ft (pc := 13) tb_Town_gainOf 9 rfl) cf_Town_100 (fg_isOf (tT_lay ht) rfl (fg_lt (tT_lay ht) (by decide))) (as := [.int (nI m)]) (st := [.int (fg_w T (fg_fgt T m f kd))]) rfl rfl (Nat.le_of_ble_eq_true rfl) (Nat.le_refl _) (Nat.le_refl _) (ev_Town_worthOf ht hT hok (m := m) (fg_lt10 hm hok.1.2) ?_)
  refine fg_isub (fg_ft (pc := 16) tb_Town_gainOf 10 rfl) ?_
  exact fg_iret (fg_ft (pc := 17) tb_Town_gainOf 11 rfl) rfl rfl (hQ)
noncomputable def fg_dm (T : Nat → Nat) (m : Nat) : Nat → Nat × Option Nat
  | 0 => (0, none)
  | n + 1 => if (fg_dm T m n).1 < fg_pc (fg_df m (fg_fgt T m n 0)) then (fg_pc (fg_df m (fg_fgt T m n 0)), some n) else fg_dm T m n
theorem ev_Town_doom {E : fg_E} {d : Nat} {μ : Nat → Nat → Int32} {R : fg_T4} {Q : Option Value → fg_M → Prop} {t : Nat} {T : Nat → Nat} (ht : fg_isT t) (hT : fg_TW μ t T) (hok : fg_ok T) {m : Nat} (hm : m < 2 ^ T 0) (hQ : Q (some (.int (fg_o (fg_dm T m (T 0)).2))) (μ, fg_rho R, 304)) : fg_Ev E yy_Town_doom (d + 5) [.ref t, .int (nI m)] (μ, fg_rho R, 304) 304 Q := by
  have hb0 := hok.1
  have hb1 := hok.2.1
  have hp := hok.p
  have hq := Nat.two_pow_pos (T 0)
  have loop : ∀ (n k a : Nat) (b : Int32), T 0 - k < n → k ≤ T 0 → a ≤ 12 → a = (fg_dm T m k).1 → b = fg_o (fg_dm T m k).2 → ∀ v5 : Value, fg_wp E yy_Town_doom (d + 5) 304 304 Q 7 [.ref t, .int (nI m), .int (nI a), .int b, .int (nI k), v5] [] (μ, fg_rho R, 304) := by
    intro n
    induction n with
    | zero => intro k a b h; exact absurd h (Nat.not_lt_zero _)
    | succ n ih =>
      intro k a b hn hk ha12 ha hb v5
      have hd12 : fg_df m (fg_fgt T m k 0) < 4096 := by have := fg_df_lt (a := m) (b := fg_fgt T m k 0) hm; omega
      have hdpc := fg_pc_le (fg_df m (fg_fgt T m k 0))
      refine fg_iload (fg_ft (pc := 7) tb_Town_doom 6 rfl) rfl ?_
      refine fg_aloadn (fg_ft (pc := 9) tb_Town_doom 7 rfl) rfl ?_
      refine fg_getV (v := (nI (T 0))) (fg_ft (pc := 10) tb_Town_doom 8 rfl) ff_Town_9 (tT_lay ht) rfl (fg_lt (tT_lay ht) (by decide)) hT.1.1 ?_
      refine fg_icmp_geN (tgt := 51) (fg_ft (pc := 13) tb_Town_doom 9 rfl) (by decide) (by omega) (by omega) (fun c13 => ?_) (fun c13 => ?_)
      · refine fg_iloadn (fg_ft (pc := 51) tb_Town_doom 30 rfl) rfl ?_
        exact fg_iret (fg_ft (pc := 52) tb_Town_doom 31 rfl) rfl rfl (by rw [hb, show k = T 0 by omega]; exact hQ)
      · refine fg_iloadn (fg_ft (pc := 16) tb_Town_doom 10 rfl) rfl ?_
        refine fg_aloadn (fg_ft (pc := 17) tb_Town_doom 11 rfl) rfl ?_
        refine fg_iloadn (fg_ft (pc := 18) tb_Town_doom 12 rfl) rfl ?_
        refine fg_iload (fg_ft (pc := 19) tb_Town_doom 13 rfl) rfl ?_
        refine fg_iconst (fg_ft (pc := 21) tb_Town_doom 14 rfl) ic_0 ?_
        refine fg_callV (fg_ft (pc := 22) tb_Town_doom 15 rfl) cf_Town_97 (fg_isOf (tT_lay ht) rfl (fg_lt (tT_lay ht) (by decide))) (as := [.int (nI m), .int (nI k), .int (nI 0)]) (st := [.int (nI m)]) rfl rfl (Nat.le_of_ble_eq_true rfl) (Nat.le_refl _) (Nat.le_refl _) (ev_Town_forget ht hT hok (m := m) (f := k) (kd := 0) (by assumption) (by omega) (by decide) ?_)
        refine fg_iconst (fg_ft (pc := 25) tb_Town_doom 16 rfl) ic_m1 ?_
        refine fg_ixor (fg_ft (pc := 26) tb_Town_doom 17 rfl) ?_
        refine fg_iandD (fg_ft (pc := 27) tb_Town_doom 18 rfl) ?_
        refine fg_callS (fg_ft (pc := 28) tb_Town_doom 19 rfl) cf_Town_71 (as := [.int (nI (fg_df m (fg_fgt T m k 0)))]) (st := []) rfl rfl (Nat.le_of_ble_eq_true rfl) (Nat.le_refl _) (Nat.le_refl _) (ev_Int_bitCount (s := (fg_df m (fg_fgt T m k 0))) (hd12) ?_)
        refine fg_istore (fg_ft (pc := 31) tb_Town_doom 20 rfl) (Nat.le_of_ble_eq_true rfl) ?_
        refine fg_iload (fg_ft (pc := 33) tb_Town_doom 21 rfl) rfl ?_
        refine fg_iloadn (fg_ft (pc := 35) tb_Town_doom 22 rfl) rfl ?_
        refine fg_icmp_leN (tgt := 45) (fg_ft (pc := 36) tb_Town_doom 23 rfl) (by decide) (by have := fg_pc_le (fg_df m (fg_fgt T m k 0)); omega) (by omega) (fun c36 => ?_) (fun c36 => ?_)
        · refine fg_iincN (fg_ft (pc := 45) tb_Town_doom 28 rfl) rfl ic_1 rfl ?_
          refine fg_goto (tgt := 7) (fg_ft (pc := 48) tb_Town_doom 29 rfl) (by decide) ?_
          exact ih (k + 1) _ _ (by omega) (by omega) (by omega) (by subst ha; simp only [fg_dm]; rw [if_neg (by omega)]) (by subst ha; subst hb; simp only [fg_dm]; rw [if_neg (by omega)]) _
        · refine fg_iload (fg_ft (pc := 39) tb_Town_doom 24 rfl) rfl ?_
          refine fg_istoren (fg_ft (pc := 41) tb_Town_doom 25 rfl) (Nat.le_of_ble_eq_true rfl) ?_
          refine fg_iload (fg_ft (pc := 42) tb_Town_doom 26 rfl) rfl ?_
          refine fg_istoren (fg_ft (pc := 44) tb_Town_doom 27 rfl) (Nat.le_of_ble_eq_true rfl) ?_
          refine fg_iincN (fg_ft (pc := 45) tb_Town_doom 28 rfl) rfl ic_1 rfl ?_
          refine fg_goto (tgt := 7) (fg_ft (pc := 48) tb_Town_doom 29 rfl) (by decide) ?_
          exact ih (k + 1) _ _ (by omega) (by omega) (by omega) (by subst ha; simp only [fg_dm]; rw [if_pos c36]) (by subst ha; subst hb; simp only [fg_dm]; rw [if_pos c36]; rfl) _
  refine fg_intro (by decide +kernel) (Nat.le_of_ble_eq_true rfl) (fg_okAs rfl) (Nat.le_refl _) ?_
  refine fg_iconst (fg_ft (pc := 0) tb_Town_doom 0 rfl) ic_0 ?_
  refine fg_istoren (fg_ft (pc := 1) tb_Town_doom 1 rfl) (Nat.le_of_ble_eq_true rfl) ?_
  refine fg_iconst (fg_ft (pc := 2) tb_Town_doom 2 rfl) ic_m1 ?_
  refine fg_istoren (fg_ft (pc := 3) tb_Town_doom 3 rfl) (Nat.le_of_ble_eq_true rfl) ?_
  refine fg_iconst (fg_ft (pc := 4) tb_Town_doom 4 rfl) ic_0 ?_
  refine fg_istore (fg_ft (pc := 5) tb_Town_doom 5 rfl) (Nat.le_of_ble_eq_true rfl) ?_
  exact loop (T 0 + 1) 0 0 (-1) (by omega) (by omega) (by omega) rfl rfl _
theorem fg_TWp.frame {μ μ' : Nat → Nat → Int32} {t : Nat} {T : Nat → Nat} {C C' : Prop} (h : fg_TWp μ t T C) (ha : ∀ a, t ≤ a → a < t + 13 → ∀ j, μ' a j = μ a j) (hC : C') : fg_TWp μ' t T C' := by
  obtain ⟨⟨a1, a2⟩, ⟨b1, b2, b3⟩, ⟨c1, c2, c3⟩, ⟨d1, d2, d3⟩, ⟨e1, e2, e3⟩, ⟨f1, f2, f3⟩, ⟨g1, g2, g3⟩, -⟩ := h
  have k : ∀ i, i < 13 → ∀ j, μ' (t + i) j = μ (t + i) j := fun i hi j => ha (t + i) (by omega) (by omega) j
  have k0 : ∀ j, μ' t j = μ t j := fun j => ha t (by omega) (by omega) j
  exact ⟨⟨by rw [k0]; exact a1, by rw [k0]; exact a2⟩, ⟨by rw [k 1 (by decide)]; exact b1, by rw [k 1 (by decide)]; exact b2, fun j hj => by rw [k 2 (by decide)]; exact b3 j hj⟩,
    ⟨by rw [k 3 (by decide)]; exact c1, by rw [k 3 (by decide)]; exact c2, fun j hj => by rw [k 4 (by decide)]; exact c3 j hj⟩, ⟨by rw [k 5 (by decide)]; exact d1, by rw [k 5 (by decide)]; exact d2, fun j hj => by rw [k 6 (by decide)]; exact d3 j hj⟩,
    ⟨by rw [k 7 (by decide)]; exact e1, by rw [k 7 (by decide)]; exact e2, fun j hj => by rw [k 8 (by decide)]; exact e3 j hj⟩, ⟨by rw [k 9 (by decide)]; exact f1, by rw [k 9 (by decide)]; exact f2, fun j hj => by rw [k 10 (by decide)]; exact f3 j hj⟩,
    ⟨by rw [k 11 (by decide)]; exact g1, by rw [k 11 (by decide)]; exact g2, fun j hj => by rw [k 12 (by decide)]; exact g3 j hj⟩, hC⟩
/-- to which set a set leads -/
def fg_nxr (T : Nat → Nat) (s : Nat) : Nat → Nat
  | 0 => s
  | n + 1 => if fg_nxr T s n = s ∧ fg_df (T (9 + 2 * n)) s = 0 then s ||| 2 ^ T (8 + 2 * n) else fg_nxr T s n
theorem fg_nxr_keep {T : Nat → Nat} {s : Nat} : ∀ n k, fg_nxr T s k ≠ s → fg_nxr T s (k + n) = fg_nxr T s k := by
  intro n
  induction n with
  | zero => intro k _; rfl
  | succ n ih =>
    intro k h
    show fg_nxr T s (k + n + 1) = _
    simp only [fg_nxr]
    rw [ih k h, if_neg (fun g => h g.1)]
theorem fg_nxr_spec {T : Nat → Nat} {s : Nat} : ∀ n, (fg_nxr T s n = s ∧ ∀ r, r < n → fg_le (T (9 + 2 * r)) s → s.testBit (T (8 + 2 * r)) = true) ∨ ∃ r, r < n ∧ fg_le (T (9 + 2 * r)) s ∧ s.testBit (T (8 + 2 * r)) = false ∧ fg_nxr T s n = s ||| 2 ^ T (8 + 2 * r) := by
  intro n
  induction n with
  | zero => exact Or.inl ⟨rfl, fun r hr => absurd hr (Nat.not_lt_zero _)⟩
  | succ n ih =>
    rcases ih with ⟨h1, h2⟩ | ⟨r, h1, h2, h3, h4⟩
    · simp only [fg_nxr]
      rcases Classical.em (fg_df (T (9 + 2 * n)) s = 0) with hb | hb
      · rw [if_pos ⟨h1, hb⟩]
        cases hx : s.testBit (T (8 + 2 * n)) with
        | true =>
          left
          refine ⟨?_, fun r hr hle => ?_⟩
          · apply Nat.eq_of_testBit_eq
            intro i
            rw [Nat.testBit_or]
            rcases Nat.decEq (T (8 + 2 * n)) i with q | q
            · rw [Nat.testBit_two_pow_of_ne q, Bool.or_false]
            · rw [← q, hx]; rfl
          · rcases Nat.lt_or_ge r n with q | q
            · exact h2 r q hle
            · rw [show r = n by omega]; exact hx
        | false => exact Or.inr ⟨n, Nat.lt_succ_self n, fg_df0.mp hb, hx, rfl⟩
      · rw [if_neg (fun g => hb g.2)]
        refine Or.inl ⟨h1, fun r hr hle => ?_⟩
        rcases Nat.lt_or_ge r n with q | q
        · exact h2 r q hle
        · rw [show r = n by omega] at hle
          exact absurd (fg_df0.mpr hle) hb
    · refine Or.inr ⟨r, by omega, h2, h3, ?_⟩
      simp only [fg_nxr]
      rw [if_neg (fun g => ?_)]
      · exact h4
      · rw [h4] at g
        have := fg_or_gt h3
        omega
theorem fg_nxr_lt {T : Nat → Nat} (hok : fg_ok T) {s n : Nat} (hs : s < 2 ^ T 0) (hn : n ≤ T 1) : fg_nxr T s n < 2 ^ T 0 := by
  rcases fg_nxr_spec (T := T) (s := s) n with ⟨h1, -⟩ | ⟨r, h1, h2, h3, h4⟩
  · rw [h1]; exact hs
  · rw [h4]; exact fg_or_lt hs (Nat.pow_lt_pow_right (by decide) (hok.2.2.1 r (by omega)).1)
theorem fg_nxr_clo {T : Nat → Nat} (hok : fg_ok T) {s : Nat} (hs : s < 2 ^ T 0) : (s < fg_nxr T s (T 1) → fg_clo T s = fg_clo T (fg_nxr T s (T 1))) ∧ (¬ s < fg_nxr T s (T 1) → fg_clo T s = s) := by
  rcases fg_nxr_spec (T := T) (s := s) (T 1) with ⟨h1, h2⟩ | ⟨r, h1, h2, h3, h4⟩
  · refine ⟨fun h => by omega, fun _ => fg_clo_cl (fun r hr hb => h2 r hr hb)⟩
  · have h5 := fg_or_gt h3
    have h6 : s ||| 2 ^ T (8 + 2 * r) < 2 ^ T 0 := fg_or_lt hs (Nat.pow_lt_pow_right (by decide) (hok.2.2.1 r h1).1)
    refine ⟨fun _ => ?_, fun h => by omega⟩
    rw [h4]
    exact fg_clo_of ((fg_clo_is hok h6).step h1 h2)
theorem ev_Town_all0 {E : fg_E} {d : Nat} {μ : Nat → Nat → Int32} {R : fg_T4} {Q : Option Value → fg_M → Prop} {t : Nat} {T : Nat → Nat} {C : Prop} (ht : fg_isT t) (hT : fg_TWp μ t T C) (hok : fg_ok T) (hQ : Q (some (.int (nI (2 ^ T 0 - 1)))) (μ, fg_rho R, 304)) : fg_Ev E yy_Town_all (d + 1) [.ref t] (μ, fg_rho R, 304) 304 Q := by
  have hb0 := hok.1
  have hb1 := hok.2.1
  have hp := hok.p
  have hq := Nat.two_pow_pos (T 0)
  refine fg_intro (by decide +kernel) (Nat.le_of_ble_eq_true rfl) (fg_okAs rfl) (Nat.le_refl _) ?_
  refine fg_iconst (fg_ft (pc := 0) tb_Town_all 0 rfl) ic_1 ?_
  refine fg_aloadn (fg_ft (pc := 1) tb_Town_all 1 rfl) rfl ?_
  refine fg_getV (v := (nI (T 0))) (fg_ft (pc := 2) tb_Town_all 2 rfl) ff_Town_9 (tT_lay ht) rfl (fg_lt (tT_lay ht) (by decide)) hT.1.1 ?_
  refine fg_ishl1 (fg_ft (pc := 5) tb_Town_all 3 rfl) (by omega) ?_
  refine fg_iconst (fg_ft (pc := 6) tb_Town_all 4 rfl) ic_1 ?_
  refine fg_isubN (fg_ft (pc := 7) tb_Town_all 5 rfl) (by omega) ?_
  exact fg_iret (fg_ft (pc := 8) tb_Town_all 6 rfl) rfl rfl (hQ)
theorem ev_Town_followRules {E : fg_E} {d : Nat} {μ : Nat → Nat → Int32} {R : fg_T4} {Q : Option Value → fg_M → Prop} {t : Nat} {T : Nat → Nat} {C : Prop} (ht : fg_isT t) (hT : fg_TWp μ t T C) (hok : fg_ok T) (hQ : ∀ μ' : Nat → Nat → Int32, (∀ a, a ≠ t + 13 → ∀ j, μ' a j = μ a j) → (∀ s, s < 2 ^ T 0 → μ' (t + 13) s = nI (fg_clo T s)) → Q none (μ', fg_rho R, 304)) : fg_Ev E yy_Town_followRules (d + 2) [.ref t] (μ, fg_rho R, 304) 304 Q := by
  have hb0 := hok.1
  have hb1 := hok.2.1
  have hp := hok.p
  have hq := Nat.two_pow_pos (T 0)
  have inner : ∀ (ν : Nat → Nat → Int32), fg_TWp ν t T True → ∀ n, n < 2 ^ T 0 → (∀ k nx, nx = fg_nxr T n (T 1) → fg_wp E yy_Town_followRules (d + 2) 304 304 Q 65 [.ref t, .int (nI n), .int (nI nx), .int (nI k)] [] (ν, fg_rho R, 304)) → ∀ (m k nx : Nat), T 1 - k < m → k ≤ T 1 → nx = fg_nxr T n k → fg_wp E yy_Town_followRules (d + 2) 304 304 Q 13 [.ref t, .int (nI n), .int (nI nx), .int (nI k)] [] (ν, fg_rho R, 304) := by
    intro ν hN n hnF hend m
    induction m with
    | zero => intro k nx h; exact absurd h (Nat.not_lt_zero _)
    | succ m ih =>
      intro k nx hn hk hx
      have hnxF : nx < 2 ^ T 0 := by rw [hx]; exact fg_nxr_lt hok hnF hk
      refine fg_iloadn (fg_ft (pc := 13) tb_Town_followRules 9 rfl) rfl ?_
      refine fg_aloadn (fg_ft (pc := 14) tb_Town_followRules 10 rfl) rfl ?_
      refine fg_getR (fg_ft (pc := 15) tb_Town_followRules 11 rfl) ff_Town_23 (tT_lay ht) rfl (fg_lt (tT_lay ht) (by decide)) (tT_r2 ht) ?_
      refine fg_getV (v := (nI (T 1))) (fg_ft (pc := 18) tb_Town_followRules 12 rfl) ff_Town_46 ((tT_w2 (R := R) ht).1) rfl (fg_lt ((tT_w2 (R := R) ht).1) (by decide)) hN.2.1.2.1 ?_
      refine fg_icmp_geN (tgt := 65) (fg_ft (pc := 21) tb_Town_followRules 13 rfl) (by decide) (by omega) (by omega) (fun c21 => ?_) (fun c21 => ?_)
      · refine hend k nx ?_
        by_cases h9 : k < T 1
        · first
            | (exfalso; omega)
            | (subst hx; have h8 := fg_nxr_keep (T := T) (s := n) (T 1 - k) k c26; rw [show k + (T 1 - k) = T 1 by omega] at h8; exact h8.symm)
        · rw [hx, show k = T 1 by omega]
      · refine fg_iloadn (fg_ft (pc := 24) tb_Town_followRules 14 rfl) rfl ?_
        refine fg_iloadn (fg_ft (pc := 25) tb_Town_followRules 15 rfl) rfl ?_
        refine fg_icmp_neN (tgt := 65) (fg_ft (pc := 26) tb_Town_followRules 16 rfl) (by decide) (by omega) (by omega) (fun c26 => ?_) (fun c26 => ?_)
        · refine hend k nx ?_
          by_cases h9 : k < T 1
          · first
              | (exfalso; omega)
              | (subst hx; have h8 := fg_nxr_keep (T := T) (s := n) (T 1 - k) k c26; rw [show k + (T 1 - k) = T 1 by omega] at h8; exact h8.symm)
          · rw [hx, show k = T 1 by omega]
        · refine fg_aloadn (fg_ft (pc := 29) tb_Town_followRules 17 rfl) rfl ?_
          refine fg_getR (fg_ft (pc := 30) tb_Town_followRules 18 rfl) ff_Town_23 (tT_lay ht) rfl (fg_lt (tT_lay ht) (by decide)) (tT_r2 ht) ?_
          refine fg_iloadn (fg_ft (pc := 33) tb_Town_followRules 19 rfl) rfl ?_
          refine fg_iconst (fg_ft (pc := 34) tb_Town_followRules 20 rfl) ic_1 ?_
          refine fg_callV (fg_ft (pc := 35) tb_Town_followRules 21 rfl) cf_Town_63 (fg_isOf ((tT_w2 (R := R) ht).1) rfl (fg_lt ((tT_w2 (R := R) ht).1) (by decide))) (as := [.int (nI k), .int (nI 1)]) (st := []) rfl rfl (Nat.le_of_ble_eq_true rfl) (Nat.le_refl _) (Nat.le_refl _) (ev_Rows_cell (tT_w2 (R := R) ht) hN.2.1.1 hN.2.1.2.1 (by have := hok.2.1; omega) (by decide) (by have := hok.2.1; omega) (i := k) (j := 1) (by omega) (by decide) (hN.rule1 (by omega)) ?_)
          refine fg_iloadn (fg_ft (pc := 38) tb_Town_followRules 22 rfl) rfl ?_
          refine fg_iconst (fg_ft (pc := 39) tb_Town_followRules 23 rfl) ic_m1 ?_
          refine fg_ixor (fg_ft (pc := 40) tb_Town_followRules 24 rfl) ?_
          refine fg_iandD (fg_ft (pc := 41) tb_Town_followRules 25 rfl) ?_
          refine fg_if_neN (tgt := 59) (fg_ft (pc := 42) tb_Town_followRules 26 rfl) (by decide) (fg_df_le31 (by have := (hok.2.2.1 k (by omega)).2.1; omega)) (fun c42 => ?_) (fun c42 => ?_)
          · refine fg_iincN (fg_ft (pc := 59) tb_Town_followRules 37 rfl) rfl ic_1 rfl ?_
            refine fg_goto (tgt := 13) (fg_ft (pc := 62) tb_Town_followRules 38 rfl) (by decide) ?_
            exact ih (k + 1) nx (by omega) (by omega) (by subst hx; simp only [fg_nxr]; rw [if_neg (fun g => by first | exact c42 g.2 | exact c26 g.1)])
          · refine fg_iloadn (fg_ft (pc := 45) tb_Town_followRules 27 rfl) rfl ?_
            refine fg_iconst (fg_ft (pc := 46) tb_Town_followRules 28 rfl) ic_1 ?_
            refine fg_aloadn (fg_ft (pc := 47) tb_Town_followRules 29 rfl) rfl ?_
            refine fg_getR (fg_ft (pc := 48) tb_Town_followRules 30 rfl) ff_Town_23 (tT_lay ht) rfl (fg_lt (tT_lay ht) (by decide)) (tT_r2 ht) ?_
            refine fg_iloadn (fg_ft (pc := 51) tb_Town_followRules 31 rfl) rfl ?_
            refine fg_iconst (fg_ft (pc := 52) tb_Town_followRules 32 rfl) ic_0 ?_
            refine fg_callV (fg_ft (pc := 53) tb_Town_followRules 33 rfl) cf_Town_63 (fg_isOf ((tT_w2 (R := R) ht).1) rfl (fg_lt ((tT_w2 (R := R) ht).1) (by decide))) (as := [.int (nI k), .int (nI 0)]) (st := [.int (nI 1), .int (nI nx)]) rfl rfl (Nat.le_of_ble_eq_true rfl) (Nat.le_refl _) (Nat.le_refl _) (ev_Rows_cell (tT_w2 (R := R) ht) hN.2.1.1 hN.2.1.2.1 (by have := hok.2.1; omega) (by decide) (by have := hok.2.1; omega) (i := k) (j := 0) (by omega) (by decide) (hN.rule0 (by omega)) ?_)
            refine fg_ishl1 (fg_ft (pc := 56) tb_Town_followRules 34 rfl) (by have := (hok.2.2.1 k (by omega)).1; omega) ?_
            refine fg_iorN (fg_ft (pc := 57) tb_Town_followRules 35 rfl) ?_
            refine fg_istoren (fg_ft (pc := 58) tb_Town_followRules 36 rfl) (Nat.le_of_ble_eq_true rfl) ?_
            refine fg_iincN (fg_ft (pc := 59) tb_Town_followRules 37 rfl) rfl ic_1 rfl ?_
            refine fg_goto (tgt := 13) (fg_ft (pc := 62) tb_Town_followRules 38 rfl) (by decide) ?_
            exact ih (k + 1) _ (by omega) (by omega) (by subst hx; simp only [fg_nxr]; rw [if_pos ⟨c26, c42⟩, c26])
  have outer : ∀ (n : Nat), n ≤ 2 ^ T 0 → ∀ (ν : Nat → Nat → Int32), fg_TWp ν t T True → (∀ a, a ≠ t + 13 → ∀ j, ν a j = μ a j) → (∀ s, n ≤ s → s < 2 ^ T 0 → ν (t + 13) s = nI (fg_clo T s)) → ∀ v2 v3 : Value, fg_wp E yy_Town_followRules (d + 2) 304 304 Q 5 [.ref t, .int (nI n + Int32.ofInt (-1)), v2, v3] [] (ν, fg_rho R, 304) := by
    intro n
    induction n with
    | zero =>
      intro _ ν hN hag hcl v2 v3
      refine fg_iloadn (fg_ft (pc := 5) tb_Town_followRules 3 rfl) rfl ?_
      refine fg_if_lt (tgt := 110) (fg_ft (pc := 6) tb_Town_followRules 4 rfl) (by decide) (fun c6 => ?_) (fun c6 => (absurd (by decide) c6))
      exact fg_vret (fg_ft (pc := 110) tb_Town_followRules 64 rfl) rfl rfl (hQ ν hag (fun s hs => hcl s (Nat.zero_le _) hs))
    | succ n ih =>
      intro hn ν hN hag hcl v2 v3
      have hnF : n < 2 ^ T 0 := by omega
      rw [show nI (n + 1) + Int32.ofInt (-1) = nI n by rw [ic_m1]; exact pk_m1 _]
      refine fg_iloadn (fg_ft (pc := 5) tb_Town_followRules 3 rfl) rfl ?_
      refine fg_if_ltN (tgt := 110) (fg_ft (pc := 6) tb_Town_followRules 4 rfl) (by decide) (by omega) ?_
      refine fg_iloadn (fg_ft (pc := 9) tb_Town_followRules 5 rfl) rfl ?_
      refine fg_istoren (fg_ft (pc := 10) tb_Town_followRules 6 rfl) (Nat.le_of_ble_eq_true rfl) ?_
      refine fg_iconst (fg_ft (pc := 11) tb_Town_followRules 7 rfl) ic_0 ?_
      refine fg_istoren (fg_ft (pc := 12) tb_Town_followRules 8 rfl) (Nat.le_of_ble_eq_true rfl) ?_
      refine inner ν hN n hnF (fun k nx hx => ?_) (T 1 + 1) 0 n (by omega) (by omega) rfl
      have hnxF : nx < 2 ^ T 0 := by rw [hx]; exact fg_nxr_lt hok hnF (Nat.le_refl _)
      refine fg_iloadn (fg_ft (pc := 65) tb_Town_followRules 39 rfl) rfl ?_
      refine fg_aloadn (fg_ft (pc := 66) tb_Town_followRules 40 rfl) rfl ?_
      refine fg_getR (fg_ft (pc := 67) tb_Town_followRules 41 rfl) ff_Town_42 (tT_lay ht) rfl (fg_lt (tT_lay ht) (by decide)) (tT_r8 ht) ?_
      refine fg_alen (fg_ft (pc := 70) tb_Town_followRules 42 rfl) (tT_c8 ht) (by decide) (fg_lt (tT_c8 ht) (by decide)) ?_
      refine fg_icmp_geN (tgt := 104) (fg_ft (pc := 71) tb_Town_followRules 43 rfl) (by decide) (by omega) (by decide) (fun c71 => (absurd c71 (by omega))) (fun c71 => ?_)
      refine fg_aloadn (fg_ft (pc := 74) tb_Town_followRules 44 rfl) rfl ?_
      refine fg_getR (fg_ft (pc := 75) tb_Town_followRules 45 rfl) ff_Town_42 (tT_lay ht) rfl (fg_lt (tT_lay ht) (by decide)) (tT_r8 ht) ?_
      refine fg_iloadn (fg_ft (pc := 78) tb_Town_followRules 46 rfl) rfl ?_
      refine fg_iloadn (fg_ft (pc := 79) tb_Town_followRules 47 rfl) rfl ?_
      refine fg_iloadn (fg_ft (pc := 80) tb_Town_followRules 48 rfl) rfl ?_
      refine fg_icmp_leN (tgt := 102) (fg_ft (pc := 81) tb_Town_followRules 49 rfl) (by decide) (by omega) (by omega) (fun c81 => ?_) (fun c81 => ?_)
      · refine fg_iloadn (fg_ft (pc := 102) tb_Town_followRules 60 rfl) rfl ?_
        refine fg_iastN (fg_ft (pc := 103) tb_Town_followRules 61 rfl) (tT_c8 ht) (fg_lt (tT_c8 ht) (by decide)) (by omega) ?_
        show fg_wp _ _ _ _ _ _ _ _ _ (fg_u2 ν (t + 13) n (nI n), fg_rho R, 304)
        refine fg_iinc (fg_ft (pc := 104) tb_Town_followRules 62 rfl) rfl rfl ?_
        refine fg_goto (tgt := 5) (fg_ft (pc := 107) tb_Town_followRules 63 rfl) (by decide) ?_
        refine ih (by omega) _ (hN.frame (fun a h1 h2 j => fg_u2ne (by omega)) trivial) (fun a h1 j => (fg_u2ne h1).trans (hag a h1 j)) (fun s h1 h2 => ?_) _ _
        rcases Nat.decEq s n with q | q
        · rw [fg_u2ns q]; exact hcl s (by omega) h2
        · rw [q, fg_u2eq]; rw [(fg_nxr_clo hok hnF).2 (by rw [← hx]; omega)]
      · refine fg_iloadn (fg_ft (pc := 84) tb_Town_followRules 50 rfl) rfl ?_
        refine fg_aloadn (fg_ft (pc := 85) tb_Town_followRules 51 rfl) rfl ?_
        refine fg_getR (fg_ft (pc := 86) tb_Town_followRules 52 rfl) ff_Town_42 (tT_lay ht) rfl (fg_lt (tT_lay ht) (by decide)) (tT_r8 ht) ?_
        refine fg_alen (fg_ft (pc := 89) tb_Town_followRules 53 rfl) (tT_c8 ht) (by decide) (fg_lt (tT_c8 ht) (by decide)) ?_
        refine fg_icmp_geN (tgt := 102) (fg_ft (pc := 90) tb_Town_followRules 54 rfl) (by decide) (by omega) (by decide) (fun c90 => (absurd c90 (by omega))) (fun c90 => ?_)
        refine fg_aloadn (fg_ft (pc := 93) tb_Town_followRules 55 rfl) rfl ?_
        refine fg_getR (fg_ft (pc := 94) tb_Town_followRules 56 rfl) ff_Town_42 (tT_lay ht) rfl (fg_lt (tT_lay ht) (by decide)) (tT_r8 ht) ?_
        refine fg_iloadn (fg_ft (pc := 97) tb_Town_followRules 57 rfl) rfl ?_
        refine fg_ialdV (v := (nI (fg_clo T nx))) (fg_ft (pc := 98) tb_Town_followRules 58 rfl) (tT_c8 ht) (fg_lt (tT_c8 ht) (by decide)) (by omega) (hcl nx (by omega) hnxF) ?_
        refine fg_goto (tgt := 103) (fg_ft (pc := 99) tb_Town_followRules 59 rfl) (by decide) ?_
        refine fg_iastN (fg_ft (pc := 103) tb_Town_followRules 61 rfl) (tT_c8 ht) (fg_lt (tT_c8 ht) (by decide)) (by omega) ?_
        show fg_wp _ _ _ _ _ _ _ _ _ (fg_u2 ν (t + 13) n (nI (fg_clo T nx)), fg_rho R, 304)
        refine fg_iinc (fg_ft (pc := 104) tb_Town_followRules 62 rfl) rfl rfl ?_
        refine fg_goto (tgt := 5) (fg_ft (pc := 107) tb_Town_followRules 63 rfl) (by decide) ?_
        refine ih (by omega) _ (hN.frame (fun a h1 h2 j => fg_u2ne (by omega)) trivial) (fun a h1 j => (fg_u2ne h1).trans (hag a h1 j)) (fun s h1 h2 => ?_) _ _
        rcases Nat.decEq s n with q | q
        · rw [fg_u2ns q]; exact hcl s (by omega) h2
        · rw [q, fg_u2eq]; rw [(fg_nxr_clo hok hnF).1 (by rw [← hx]; omega), ← hx]
  refine fg_intro (by decide +kernel) (Nat.le_of_ble_eq_true rfl) (fg_okAs rfl) (Nat.le_refl _) ?_
  refine fg_aloadn (fg_ft (pc := 0) tb_Town_followRules 0 rfl) rfl ?_
  refine fg_callV (fg_ft (pc := 1) tb_Town_followRules 1 rfl) cf_Town_59 (fg_isOf (tT_lay ht) rfl (fg_lt (tT_lay ht) (by decide))) (as := []) (st := []) rfl rfl (Nat.le_of_ble_eq_true rfl) (Nat.le_refl _) (Nat.le_refl _) (ev_Town_all0 ht hT hok ?_)
  refine fg_istoren (fg_ft (pc := 4) tb_Town_followRules 2 rfl) (Nat.le_of_ble_eq_true rfl) ?_
  rw [show nI (2 ^ T 0 - 1) = nI (2 ^ T 0) + Int32.ofInt (-1) by rw [ic_m1]; have := pk_m1 (2 ^ T 0 - 1); rw [show 2 ^ T 0 - 1 + 1 = 2 ^ T 0 by omega] at this; exact this.symm]
  exact outer (2 ^ T 0) (Nat.le_refl _) μ (hT.frame (fun _ _ _ _ => rfl) trivial) (fun _ _ _ => rfl) (fun s h1 h2 => by omega) _ _
