def fg_tp (s : Nat) : Nat → Nat
  | 0 => 0
  | n + 1 => if s.testBit n = true then 2 ^ n else fg_tp s n
theorem ev_Town_greatestOf {E : fg_E} {d : Nat} {μ : Nat → Nat → Int32} {R : fg_T4} {Q : Option Value → fg_M → Prop} {s : Nat} (hs : s < 2 ^ 31) (hQ : Q (some (.int (nI (fg_tp s 10)))) (μ, fg_rho R, 304)) : fg_Ev E yy_Town_greatestOf (d + 1) [.int (nI s)] (μ, fg_rho R, 304) 304 Q := by
  have loop : ∀ (n : Nat) (k a : Nat), 10 - k < n → k ≤ 10 → a = fg_tp s k → fg_wp E yy_Town_greatestOf (d + 1) 304 304 Q 4 [.int (nI s), .int (nI a), .int (nI k)] [] (μ, fg_rho R, 304) := by
    intro n
    induction n with
    | zero => intro k a h; exact absurd h (Nat.not_lt_zero _)
    | succ n ih =>
      intro k a hn hk ha
      refine fg_iloadn (fg_ft (pc := 4) tb_Town_greatestOf 4 rfl) rfl ?_
      refine fg_bipush (fg_ft (pc := 5) tb_Town_greatestOf 5 rfl) ib_10 ?_
      refine fg_icmp_geN (tgt := 32) (fg_ft (pc := 7) tb_Town_greatestOf 6 rfl) (by decide) (by omega) (by decide) (fun c7 => ?_) (fun c7 => ?_)
      · refine fg_iloadn (fg_ft (pc := 32) tb_Town_greatestOf 21 rfl) rfl ?_
        exact fg_iret (fg_ft (pc := 33) tb_Town_greatestOf 22 rfl) rfl rfl (by rw [ha, show k = 10 by omega]; exact hQ)
      · refine fg_iloadn (fg_ft (pc := 10) tb_Town_greatestOf 7 rfl) rfl ?_
        refine fg_iloadn (fg_ft (pc := 11) tb_Town_greatestOf 8 rfl) rfl ?_
        refine fg_ishrN (fg_ft (pc := 12) tb_Town_greatestOf 9 rfl) (hs) (by omega) ?_
        refine fg_iconst (fg_ft (pc := 13) tb_Town_greatestOf 10 rfl) ic_1 ?_
        refine fg_iandN (fg_ft (pc := 14) tb_Town_greatestOf 11 rfl) ?_
        refine fg_ifbit_eq (tgt := 24) (fg_ft (pc := 15) tb_Town_greatestOf 12 rfl) (by decide) (fun c15 => ?_) (fun c15 => ?_)
        · refine fg_iloadn (fg_ft (pc := 24) tb_Town_greatestOf 17 rfl) rfl ?_
          refine fg_istoren (fg_ft (pc := 25) tb_Town_greatestOf 18 rfl) (Nat.le_of_ble_eq_true rfl) ?_
          refine fg_iincN (fg_ft (pc := 26) tb_Town_greatestOf 19 rfl) rfl ic_1 rfl ?_
          refine fg_goto (tgt := 4) (fg_ft (pc := 29) tb_Town_greatestOf 20 rfl) (by decide) ?_
          exact ih (k + 1) _ (by omega) (by omega) (by subst ha; show _ = if _ then _ else _; rw [if_neg (by rw [c15]; decide)])
        · refine fg_iconst (fg_ft (pc := 18) tb_Town_greatestOf 13 rfl) ic_1 ?_
          refine fg_iloadn (fg_ft (pc := 19) tb_Town_greatestOf 14 rfl) rfl ?_
          refine fg_ishl1 (fg_ft (pc := 20) tb_Town_greatestOf 15 rfl) (by omega) ?_
          refine fg_goto (tgt := 25) (fg_ft (pc := 21) tb_Town_greatestOf 16 rfl) (by decide) ?_
          refine fg_istoren (fg_ft (pc := 25) tb_Town_greatestOf 18 rfl) (Nat.le_of_ble_eq_true rfl) ?_
          refine fg_iincN (fg_ft (pc := 26) tb_Town_greatestOf 19 rfl) rfl ic_1 rfl ?_
          refine fg_goto (tgt := 4) (fg_ft (pc := 29) tb_Town_greatestOf 20 rfl) (by decide) ?_
          exact ih (k + 1) _ (by omega) (by omega) (by subst ha; show _ = if _ then _ else _; rw [if_pos c15])
  refine fg_intro (by decide +kernel) (Nat.le_of_ble_eq_true rfl) (fg_okAs rfl) (Nat.le_refl _) ?_
  refine fg_iconst (fg_ft (pc := 0) tb_Town_greatestOf 0 rfl) ic_0 ?_
  refine fg_istoren (fg_ft (pc := 1) tb_Town_greatestOf 1 rfl) (Nat.le_of_ble_eq_true rfl) ?_
  refine fg_iconst (fg_ft (pc := 2) tb_Town_greatestOf 2 rfl) ic_0 ?_
  refine fg_istoren (fg_ft (pc := 3) tb_Town_greatestOf 3 rfl) (Nat.le_of_ble_eq_true rfl) ?_
  exact loop 11 0 0 (by omega) (by omega) rfl
theorem fg_pcw_lt : ∀ (w n s : Nat), s < 2 ^ n → n ≤ w → fg_pcw w s = fg_pcw n s := by
  intro w
  induction w with
  | zero => intro n s _ h; rw [Nat.le_zero.mp h]
  | succ w ih =>
    intro n s hs h
    rcases Nat.lt_or_ge w n with g | g
    · rw [show n = w + 1 by omega]
    · show fg_pcw w s + (s.testBit w).toNat = _
      rw [ih n s hs g, Nat.testBit_lt_two_pow (Nat.lt_of_lt_of_le hs (Nat.pow_le_pow_right (by decide) g))]
      rfl
theorem fg_pc10 {s : Nat} (h : s < 2 ^ 10) : fg_pc s ≤ 10 := by
  unfold fg_pc
  rw [fg_pcw_lt 12 10 s h (by decide)]
  exact fg_pcw_le _ _
/-- of sets those of the fewest, of several the least number -/
def fg_IsM (P : Nat → Prop) : Option Nat → Prop
  | none => ∀ q, ¬ P q
  | some b => P b ∧ ∀ q, P q → fg_pc b < fg_pc q ∨ (fg_pc b = fg_pc q ∧ b ≤ q)
theorem fg_IsM.uniq {P : Nat → Prop} {r r' : Option Nat} (h : fg_IsM P r) (h' : fg_IsM P r') : r = r' := by
  cases r with
  | none =>
    cases r' with
    | none => rfl
    | some b => exact absurd h'.1 (h b)
  | some a =>
    cases r' with
    | none => exact absurd h.1 (h' a)
    | some b =>
      have h1 := h.2 b h'.1
      have h2 := h'.2 a h.1
      have : a = b := by omega
      rw [this]
noncomputable def fg_min (P : Nat → Prop) : Option Nat := @dite _ (∃ r, fg_IsM P r) (Classical.propDecidable _) (fun h => Classical.choose h) (fun _ => none)
theorem fg_min_of {P : Nat → Prop} {r : Option Nat} (h : fg_IsM P r) : fg_min P = r := by
  have he : ∃ r, fg_IsM P r := ⟨r, h⟩
  have e : fg_min P = Classical.choose he := @dif_pos _ (Classical.propDecidable _) he _ _ _
  rw [e]
  exact fg_IsM.uniq (Classical.choose_spec he) h
/-- learnt, a set gives all that is needed, and none of what must not be -/
def fg_few (T : Nat → Nat) (mind need nt s : Nat) : Prop := fg_df need (fg_clo T (mind ||| s)) = 0 ∧ nt &&& fg_clo T (mind ||| s) = 0
def fg_fI (P : Nat → Prop) (l0 : Int32) (S : Nat → Prop) (s : Int32 × Int32) : Prop := (s = (-1, l0) ∧ ∀ q, S q → ¬ P q) ∨ ∃ p, S p ∧ P p ∧ s = (nI p, nI (fg_pc p)) ∧ ∀ q, S q → P q → fg_pc p < fg_pc q ∨ (fg_pc p = fg_pc q ∧ p ≤ q)
theorem ev_Town_fewest {E : fg_E} {d : Nat} {μ : Nat → Nat → Int32} {R : fg_T4} {Q : Option Value → fg_M → Prop} {t : Nat} {T : Nat → Nat} (ht : fg_isT t) (hT : fg_TW μ t T) (hok : fg_ok T) {pool mind need nt : Nat} (hpo : pool < 2 ^ T 0) (hm : mind < 2 ^ T 0) (hne : need < 2 ^ 10) (hnt : nt < 2 ^ 10) (hQ : Q (some (.int (fg_o (fg_min (fun s => fg_le s pool ∧ fg_few T mind need nt s))))) (μ, fg_rho R, 304)) : fg_Ev E yy_Town_fewest (d + 2) [.ref t, .int (nI pool), .int (nI mind), .int (nI need), .int (nI nt)] (μ, fg_rho R, 304) 304 Q := by
  have hb0 := hok.1
  have hb1 := hok.2.1
  have hp := hok.p
  have hq := Nat.two_pow_pos (T 0)
  refine fg_intro (by decide +kernel) (Nat.le_of_ble_eq_true rfl) (fg_okAs rfl) (Nat.le_refl _) ?_
  refine fg_iconst (fg_ft (pc := 0) tb_Town_fewest 0 rfl) ic_m1 ?_
  refine fg_istore (fg_ft (pc := 1) tb_Town_fewest 1 rfl) (Nat.le_of_ble_eq_true rfl) ?_
  refine fg_bipush (fg_ft (pc := 3) tb_Town_fewest 2 rfl) ib_11 ?_
  refine fg_istore (fg_ft (pc := 5) tb_Town_fewest 3 rfl) (Nat.le_of_ble_eq_true rfl) ?_
  refine fg_iloadn (fg_ft (pc := 7) tb_Town_fewest 4 rfl) rfl ?_
  refine fg_istore (fg_ft (pc := 8) tb_Town_fewest 5 rfl) (Nat.le_of_ble_eq_true rfl) ?_
  refine fg_iconst (fg_ft (pc := 10) tb_Town_fewest 6 rfl) ic_1 ?_
  refine fg_iloadn (fg_ft (pc := 11) tb_Town_fewest 7 rfl) rfl ?_
  refine fg_callS (fg_ft (pc := 12) tb_Town_fewest 8 rfl) cf_Town_71 (as := [.int (nI pool)]) (st := [.int (nI 1)]) rfl rfl (Nat.le_of_ble_eq_true rfl) (Nat.le_refl _) (Nat.le_refl _) (ev_Int_bitCount (s := pool) (by omega) ?_)
  refine fg_ishl1 (fg_ft (pc := 15) tb_Town_fewest 9 rfl) (by have := fg_pc_le pool; omega) ?_
  refine fg_istore (fg_ft (pc := 16) tb_Town_fewest 10 rfl) (Nat.le_of_ble_eq_true rfl) ?_
  refine fg_descLoop (free := pool) (by omega) (fun (left part : Nat) (s : Int32 × Int32) => ∀ v9 v10 : Value, fg_wp E yy_Town_fewest (d + 2) 304 304 Q 18 [.ref t, .int (nI pool), .int (nI mind), .int (nI need), .int (nI nt), .int (s.1), .int (s.2), .int (nI part), .int (nI left), v9, v10] [] (μ, fg_rho R, 304)) (fg_fI (fg_few T mind need nt) (nI 11)) ?_ ?_ (-1, nI 11) (Or.inl ⟨rfl, fun _ h => h.elim⟩) _ _
  · intro part s hI v9 v10
    have hfin : Q (some (.int s.1)) (μ, fg_rho R, 304) := by
      rcases hI with ⟨rfl, h⟩ | ⟨p, h1, h2, rfl, h3⟩
      · rw [show fg_min (fun s => fg_le s pool ∧ fg_few T mind need nt s) = none from fg_min_of (fun q hq => h q hq.1 hq.2)] at hQ; exact hQ
      · rw [show fg_min (fun s => fg_le s pool ∧ fg_few T mind need nt s) = some p from fg_min_of ⟨⟨h1, h2⟩, fun q hq => h3 q hq.1 hq.2⟩] at hQ; exact hQ
    refine fg_iload (fg_ft (pc := 18) tb_Town_fewest 11 rfl) rfl ?_
    refine fg_if_leN (tgt := 86) (fg_ft (pc := 20) tb_Town_fewest 12 rfl) (by decide) (by decide) (fun c20 => ?_) (fun c20 => (absurd c20 (by decide)))
    refine fg_iload (fg_ft (pc := 86) tb_Town_fewest 47 rfl) rfl ?_
    exact fg_iret (fg_ft (pc := 88) tb_Town_fewest 48 rfl) rfl rfl (hfin)
  · intro left part s hl hp hI hk v9 v10
    have hpF : part < 2 ^ T 0 := fg_le_lt hp hpo
    have hp10 : part < 2 ^ 10 := fg_lt10 hpF hok.1.2
    have hp12 : part < 4096 := by omega
    have hpk2 : mind ||| part < 2 ^ T 0 := fg_or_lt hm hpF
    rcases hI with ⟨rfl, hI⟩ | ⟨p, h1, h2, rfl, h3⟩
    · refine fg_iload (fg_ft (pc := 18) tb_Town_fewest 11 rfl) rfl ?_
      refine fg_if_leN (tgt := 86) (fg_ft (pc := 20) tb_Town_fewest 12 rfl) (by decide) (by omega) (fun c20 => (absurd c20 (by omega))) (fun c20 => ?_)
      refine fg_iload (fg_ft (pc := 23) tb_Town_fewest 13 rfl) rfl ?_
      refine fg_callS (fg_ft (pc := 25) tb_Town_fewest 14 rfl) cf_Town_71 (as := [.int (nI part)]) (st := []) rfl rfl (Nat.le_of_ble_eq_true rfl) (Nat.le_refl _) (Nat.le_refl _) (ev_Int_bitCount (s := part) (hp12) ?_)
      refine fg_istore (fg_ft (pc := 28) tb_Town_fewest 15 rfl) (Nat.le_of_ble_eq_true rfl) ?_
      refine fg_iload (fg_ft (pc := 30) tb_Town_fewest 16 rfl) rfl ?_
      refine fg_iload (fg_ft (pc := 32) tb_Town_fewest 17 rfl) rfl ?_
      refine fg_icmp_gtN (tgt := 72) (fg_ft (pc := 34) tb_Town_fewest 18 rfl) (by decide) (by have := fg_pc_le part; omega) (by decide) (fun c34 => (absurd c34 (by have := fg_pc10 hp10; omega))) (fun c34 => ?_)
      refine fg_aloadn (fg_ft (pc := 37) tb_Town_fewest 19 rfl) rfl ?_
      refine fg_iloadn (fg_ft (pc := 38) tb_Town_fewest 20 rfl) rfl ?_
      refine fg_iload (fg_ft (pc := 39) tb_Town_fewest 21 rfl) rfl ?_
      refine fg_iorN (fg_ft (pc := 41) tb_Town_fewest 22 rfl) ?_
      refine fg_callV (fg_ft (pc := 42) tb_Town_fewest 23 rfl) cf_Town_67 (fg_isOf (tT_lay ht) rfl (fg_lt (tT_lay ht) (by decide))) (as := [.int (nI (mind ||| part))]) (st := []) rfl rfl (Nat.le_of_ble_eq_true rfl) (Nat.le_refl _) (Nat.le_refl _) (ev_Town_close ht hT hok (s := (mind ||| part)) (hpk2) ?_)
      refine fg_istore (fg_ft (pc := 45) tb_Town_fewest 24 rfl) (Nat.le_of_ble_eq_true rfl) ?_
      refine fg_iloadn (fg_ft (pc := 47) tb_Town_fewest 25 rfl) rfl ?_
      refine fg_iload (fg_ft (pc := 48) tb_Town_fewest 26 rfl) rfl ?_
      refine fg_iconst (fg_ft (pc := 50) tb_Town_fewest 27 rfl) ic_m1 ?_
      refine fg_ixor (fg_ft (pc := 51) tb_Town_fewest 28 rfl) ?_
      refine fg_iandD (fg_ft (pc := 52) tb_Town_fewest 29 rfl) ?_
      refine fg_if_neN (tgt := 72) (fg_ft (pc := 53) tb_Town_fewest 30 rfl) (by decide) (fg_df_le31 (by omega)) (fun c53 => ?_) (fun c53 => ?_)
      · refine fg_iload (fg_ft (pc := 72) tb_Town_fewest 39 rfl) rfl ?_
        refine fg_iconst (fg_ft (pc := 74) tb_Town_fewest 40 rfl) ic_1 ?_
        refine fg_isub (fg_ft (pc := 75) tb_Town_fewest 41 rfl) ?_
        refine fg_iloadn (fg_ft (pc := 76) tb_Town_fewest 42 rfl) rfl ?_
        refine fg_iand (fg_ft (pc := 77) tb_Town_fewest 43 rfl) ?_
        refine fg_top fg_nx_I ?_
        refine fg_istore (fg_ft (pc := 78) tb_Town_fewest 44 rfl) (Nat.le_of_ble_eq_true rfl) ?_
        refine fg_iinc (fg_ft (pc := 80) tb_Town_fewest 45 rfl) rfl (v := nI left) (by rw [ic_m1]; exact pk_m1 _) ?_
        refine fg_goto (tgt := 18) (fg_ft (pc := 83) tb_Town_fewest 46 rfl) (by decide) ?_
        exact hk (-1, nI 11) (Or.inl ⟨rfl, fun q hq hc => by
          rcases Nat.lt_or_ge part q with g | g
          · exact hI q ⟨hq.1, g⟩ hc
          · rw [show q = part by have := hq.2; omega] at hc
            first | exact c53 hc.1 | exact c61 hc.2⟩) _ _
      · refine fg_iload (fg_ft (pc := 56) tb_Town_fewest 31 rfl) rfl ?_
        refine fg_iload (fg_ft (pc := 58) tb_Town_fewest 32 rfl) rfl ?_
        refine fg_iandN (fg_ft (pc := 60) tb_Town_fewest 33 rfl) ?_
        refine fg_if_neN (tgt := 72) (fg_ft (pc := 61) tb_Town_fewest 34 rfl) (by decide) (Nat.lt_of_le_of_lt Nat.and_le_left (by omega)) (fun c61 => ?_) (fun c61 => ?_)
        · refine fg_iload (fg_ft (pc := 72) tb_Town_fewest 39 rfl) rfl ?_
          refine fg_iconst (fg_ft (pc := 74) tb_Town_fewest 40 rfl) ic_1 ?_
          refine fg_isub (fg_ft (pc := 75) tb_Town_fewest 41 rfl) ?_
          refine fg_iloadn (fg_ft (pc := 76) tb_Town_fewest 42 rfl) rfl ?_
          refine fg_iand (fg_ft (pc := 77) tb_Town_fewest 43 rfl) ?_
          refine fg_top fg_nx_I ?_
          refine fg_istore (fg_ft (pc := 78) tb_Town_fewest 44 rfl) (Nat.le_of_ble_eq_true rfl) ?_
          refine fg_iinc (fg_ft (pc := 80) tb_Town_fewest 45 rfl) rfl (v := nI left) (by rw [ic_m1]; exact pk_m1 _) ?_
          refine fg_goto (tgt := 18) (fg_ft (pc := 83) tb_Town_fewest 46 rfl) (by decide) ?_
          exact hk (-1, nI 11) (Or.inl ⟨rfl, fun q hq hc => by
            rcases Nat.lt_or_ge part q with g | g
            · exact hI q ⟨hq.1, g⟩ hc
            · rw [show q = part by have := hq.2; omega] at hc
              first | exact c53 hc.1 | exact c61 hc.2⟩) _ _
        · refine fg_iload (fg_ft (pc := 64) tb_Town_fewest 35 rfl) rfl ?_
          refine fg_istore (fg_ft (pc := 66) tb_Town_fewest 36 rfl) (Nat.le_of_ble_eq_true rfl) ?_
          refine fg_iload (fg_ft (pc := 68) tb_Town_fewest 37 rfl) rfl ?_
          refine fg_istore (fg_ft (pc := 70) tb_Town_fewest 38 rfl) (Nat.le_of_ble_eq_true rfl) ?_
          refine fg_iload (fg_ft (pc := 72) tb_Town_fewest 39 rfl) rfl ?_
          refine fg_iconst (fg_ft (pc := 74) tb_Town_fewest 40 rfl) ic_1 ?_
          refine fg_isub (fg_ft (pc := 75) tb_Town_fewest 41 rfl) ?_
          refine fg_iloadn (fg_ft (pc := 76) tb_Town_fewest 42 rfl) rfl ?_
          refine fg_iand (fg_ft (pc := 77) tb_Town_fewest 43 rfl) ?_
          refine fg_top fg_nx_I ?_
          refine fg_istore (fg_ft (pc := 78) tb_Town_fewest 44 rfl) (Nat.le_of_ble_eq_true rfl) ?_
          refine fg_iinc (fg_ft (pc := 80) tb_Town_fewest 45 rfl) rfl (v := nI left) (by rw [ic_m1]; exact pk_m1 _) ?_
          refine fg_goto (tgt := 18) (fg_ft (pc := 83) tb_Town_fewest 46 rfl) (by decide) ?_
          exact hk _ (Or.inr ⟨part, ⟨hp, Nat.le_refl _⟩, ⟨c53, c61⟩, rfl, fun q hq hc => by
            rcases Nat.lt_or_ge part q with g | g
            · exact absurd hc (hI q ⟨hq.1, g⟩)
            · exact Or.inr ⟨by rw [show q = part by have := hq.2; omega], by have := hq.2; omega⟩⟩) _ _
    · refine fg_iload (fg_ft (pc := 18) tb_Town_fewest 11 rfl) rfl ?_
      refine fg_if_leN (tgt := 86) (fg_ft (pc := 20) tb_Town_fewest 12 rfl) (by decide) (by omega) (fun c20 => (absurd c20 (by omega))) (fun c20 => ?_)
      refine fg_iload (fg_ft (pc := 23) tb_Town_fewest 13 rfl) rfl ?_
      refine fg_callS (fg_ft (pc := 25) tb_Town_fewest 14 rfl) cf_Town_71 (as := [.int (nI part)]) (st := []) rfl rfl (Nat.le_of_ble_eq_true rfl) (Nat.le_refl _) (Nat.le_refl _) (ev_Int_bitCount (s := part) (hp12) ?_)
      refine fg_istore (fg_ft (pc := 28) tb_Town_fewest 15 rfl) (Nat.le_of_ble_eq_true rfl) ?_
      refine fg_iload (fg_ft (pc := 30) tb_Town_fewest 16 rfl) rfl ?_
      refine fg_iload (fg_ft (pc := 32) tb_Town_fewest 17 rfl) rfl ?_
      refine fg_icmp_gtN (tgt := 72) (fg_ft (pc := 34) tb_Town_fewest 18 rfl) (by decide) (by have := fg_pc_le part; omega) (by have := fg_pc_le p; omega) (fun c34 => ?_) (fun c34 => ?_)
      · refine fg_iload (fg_ft (pc := 72) tb_Town_fewest 39 rfl) rfl ?_
        refine fg_iconst (fg_ft (pc := 74) tb_Town_fewest 40 rfl) ic_1 ?_
        refine fg_isub (fg_ft (pc := 75) tb_Town_fewest 41 rfl) ?_
        refine fg_iloadn (fg_ft (pc := 76) tb_Town_fewest 42 rfl) rfl ?_
        refine fg_iand (fg_ft (pc := 77) tb_Town_fewest 43 rfl) ?_
        refine fg_top fg_nx_I ?_
        refine fg_istore (fg_ft (pc := 78) tb_Town_fewest 44 rfl) (Nat.le_of_ble_eq_true rfl) ?_
        refine fg_iinc (fg_ft (pc := 80) tb_Town_fewest 45 rfl) rfl (v := nI left) (by rw [ic_m1]; exact pk_m1 _) ?_
        refine fg_goto (tgt := 18) (fg_ft (pc := 83) tb_Town_fewest 46 rfl) (by decide) ?_
        exact hk _ (Or.inr ⟨p, ⟨h1.1, Nat.le_of_lt h1.2⟩, h2, rfl, fun q hq hc => by
          rcases Nat.lt_or_ge part q with g | g
          · exact h3 q ⟨hq.1, g⟩ hc
          · have e2 : q = part := by have := hq.2; omega
            subst e2
            first
              | exact absurd hc.1 c53
              | exact absurd hc.2 c61
              | exact Or.inl c34⟩) _ _
      · refine fg_aloadn (fg_ft (pc := 37) tb_Town_fewest 19 rfl) rfl ?_
        refine fg_iloadn (fg_ft (pc := 38) tb_Town_fewest 20 rfl) rfl ?_
        refine fg_iload (fg_ft (pc := 39) tb_Town_fewest 21 rfl) rfl ?_
        refine fg_iorN (fg_ft (pc := 41) tb_Town_fewest 22 rfl) ?_
        refine fg_callV (fg_ft (pc := 42) tb_Town_fewest 23 rfl) cf_Town_67 (fg_isOf (tT_lay ht) rfl (fg_lt (tT_lay ht) (by decide))) (as := [.int (nI (mind ||| part))]) (st := []) rfl rfl (Nat.le_of_ble_eq_true rfl) (Nat.le_refl _) (Nat.le_refl _) (ev_Town_close ht hT hok (s := (mind ||| part)) (hpk2) ?_)
        refine fg_istore (fg_ft (pc := 45) tb_Town_fewest 24 rfl) (Nat.le_of_ble_eq_true rfl) ?_
        refine fg_iloadn (fg_ft (pc := 47) tb_Town_fewest 25 rfl) rfl ?_
        refine fg_iload (fg_ft (pc := 48) tb_Town_fewest 26 rfl) rfl ?_
        refine fg_iconst (fg_ft (pc := 50) tb_Town_fewest 27 rfl) ic_m1 ?_
        refine fg_ixor (fg_ft (pc := 51) tb_Town_fewest 28 rfl) ?_
        refine fg_iandD (fg_ft (pc := 52) tb_Town_fewest 29 rfl) ?_
        refine fg_if_neN (tgt := 72) (fg_ft (pc := 53) tb_Town_fewest 30 rfl) (by decide) (fg_df_le31 (by omega)) (fun c53 => ?_) (fun c53 => ?_)
        · refine fg_iload (fg_ft (pc := 72) tb_Town_fewest 39 rfl) rfl ?_
          refine fg_iconst (fg_ft (pc := 74) tb_Town_fewest 40 rfl) ic_1 ?_
          refine fg_isub (fg_ft (pc := 75) tb_Town_fewest 41 rfl) ?_
          refine fg_iloadn (fg_ft (pc := 76) tb_Town_fewest 42 rfl) rfl ?_
          refine fg_iand (fg_ft (pc := 77) tb_Town_fewest 43 rfl) ?_
          refine fg_top fg_nx_I ?_
          refine fg_istore (fg_ft (pc := 78) tb_Town_fewest 44 rfl) (Nat.le_of_ble_eq_true rfl) ?_
          refine fg_iinc (fg_ft (pc := 80) tb_Town_fewest 45 rfl) rfl (v := nI left) (by rw [ic_m1]; exact pk_m1 _) ?_
          refine fg_goto (tgt := 18) (fg_ft (pc := 83) tb_Town_fewest 46 rfl) (by decide) ?_
          exact hk _ (Or.inr ⟨p, ⟨h1.1, Nat.le_of_lt h1.2⟩, h2, rfl, fun q hq hc => by
            rcases Nat.lt_or_ge part q with g | g
            · exact h3 q ⟨hq.1, g⟩ hc
            · have e2 : q = part := by have := hq.2; omega
              subst e2
              first
                | exact absurd hc.1 c53
                | exact absurd hc.2 c61
                | exact Or.inl c34⟩) _ _
        · refine fg_iload (fg_ft (pc := 56) tb_Town_fewest 31 rfl) rfl ?_
          refine fg_iload (fg_ft (pc := 58) tb_Town_fewest 32 rfl) rfl ?_
          refine fg_iandN (fg_ft (pc := 60) tb_Town_fewest 33 rfl) ?_
          refine fg_if_neN (tgt := 72) (fg_ft (pc := 61) tb_Town_fewest 34 rfl) (by decide) (Nat.lt_of_le_of_lt Nat.and_le_left (by omega)) (fun c61 => ?_) (fun c61 => ?_)
          · refine fg_iload (fg_ft (pc := 72) tb_Town_fewest 39 rfl) rfl ?_
            refine fg_iconst (fg_ft (pc := 74) tb_Town_fewest 40 rfl) ic_1 ?_
            refine fg_isub (fg_ft (pc := 75) tb_Town_fewest 41 rfl) ?_
            refine fg_iloadn (fg_ft (pc := 76) tb_Town_fewest 42 rfl) rfl ?_
            refine fg_iand (fg_ft (pc := 77) tb_Town_fewest 43 rfl) ?_
            refine fg_top fg_nx_I ?_
            refine fg_istore (fg_ft (pc := 78) tb_Town_fewest 44 rfl) (Nat.le_of_ble_eq_true rfl) ?_
            refine fg_iinc (fg_ft (pc := 80) tb_Town_fewest 45 rfl) rfl (v := nI left) (by rw [ic_m1]; exact pk_m1 _) ?_
            refine fg_goto (tgt := 18) (fg_ft (pc := 83) tb_Town_fewest 46 rfl) (by decide) ?_
            exact hk _ (Or.inr ⟨p, ⟨h1.1, Nat.le_of_lt h1.2⟩, h2, rfl, fun q hq hc => by
              rcases Nat.lt_or_ge part q with g | g
              · exact h3 q ⟨hq.1, g⟩ hc
              · have e2 : q = part := by have := hq.2; omega
                subst e2
                first
                  | exact absurd hc.1 c53
                  | exact absurd hc.2 c61
                  | exact Or.inl c34⟩) _ _
          · refine fg_iload (fg_ft (pc := 64) tb_Town_fewest 35 rfl) rfl ?_
            refine fg_istore (fg_ft (pc := 66) tb_Town_fewest 36 rfl) (Nat.le_of_ble_eq_true rfl) ?_
            refine fg_iload (fg_ft (pc := 68) tb_Town_fewest 37 rfl) rfl ?_
            refine fg_istore (fg_ft (pc := 70) tb_Town_fewest 38 rfl) (Nat.le_of_ble_eq_true rfl) ?_
            refine fg_iload (fg_ft (pc := 72) tb_Town_fewest 39 rfl) rfl ?_
            refine fg_iconst (fg_ft (pc := 74) tb_Town_fewest 40 rfl) ic_1 ?_
            refine fg_isub (fg_ft (pc := 75) tb_Town_fewest 41 rfl) ?_
            refine fg_iloadn (fg_ft (pc := 76) tb_Town_fewest 42 rfl) rfl ?_
            refine fg_iand (fg_ft (pc := 77) tb_Town_fewest 43 rfl) ?_
            refine fg_top fg_nx_I ?_
            refine fg_istore (fg_ft (pc := 78) tb_Town_fewest 44 rfl) (Nat.le_of_ble_eq_true rfl) ?_
            refine fg_iinc (fg_ft (pc := 80) tb_Town_fewest 45 rfl) rfl (v := nI left) (by rw [ic_m1]; exact pk_m1 _) ?_
            refine fg_goto (tgt := 18) (fg_ft (pc := 83) tb_Town_fewest 46 rfl) (by decide) ?_
            exact hk _ (Or.inr ⟨part, ⟨hp, Nat.le_refl _⟩, ⟨c53, c61⟩, rfl, fun q hq hc => by
              rcases Nat.lt_or_ge part q with g | g
              · have := h3 q ⟨hq.1, g⟩ hc
                omega
              · exact Or.inr ⟨by rw [show q = part by have := hq.2; omega], by have := hq.2; omega⟩⟩) _ _
def fg_IsMx (T : Nat → Nat) (mind : Nat) (x : Int32) : Prop := (∃ p, fg_le p mind ∧ fg_clsd T p ∧ x = fg_w T p) ∧ ∀ p, fg_le p mind → fg_clsd T p → fg_w T p ≤ x
theorem fg_IsMx.uniq {T : Nat → Nat} {mind : Nat} {x y : Int32} (h : fg_IsMx T mind x) (h' : fg_IsMx T mind y) : x = y := by
  obtain ⟨⟨p, h1, h2, rfl⟩, h3⟩ := h
  obtain ⟨⟨q, g1, g2, rfl⟩, g3⟩ := h'
  exact Int32.le_antisymm (g3 p h1 h2) (h3 q g1 g2)
noncomputable def fg_mxw (T : Nat → Nat) (mind : Nat) : Int32 := @dite _ (∃ r, fg_IsMx T mind r) (Classical.propDecidable _) (fun h => Classical.choose h) (fun _ => 0)
theorem fg_mxw_of {T : Nat → Nat} {mind : Nat} {x : Int32} (h : fg_IsMx T mind x) : fg_mxw T mind = x := by
  have he : ∃ r, fg_IsMx T mind r := ⟨x, h⟩
  have e : fg_mxw T mind = Classical.choose he := @dif_pos _ (Classical.propDecidable _) he _ _ _
  rw [e]
  exact fg_IsMx.uniq (Classical.choose_spec he) h
theorem fg_ltle {x y : Int32} (h : x < y) : x ≤ y := by
  rw [Int32.le_iff_toInt_le]
  have := Int32.lt_iff_toInt_lt.mp h
  omega
theorem fg_nltle {x y : Int32} (h : ¬ x < y) : y ≤ x := by
  rw [Int32.le_iff_toInt_le]
  rw [Int32.lt_iff_toInt_lt] at h
  omega
theorem ev_Town_mostWorth {E : fg_E} {d : Nat} {μ : Nat → Nat → Int32} {R : fg_T4} {Q : Option Value → fg_M → Prop} {t : Nat} {T : Nat → Nat} (ht : fg_isT t) (hT : fg_TW μ t T) (hok : fg_ok T) {mind : Nat} (hm : mind < 2 ^ T 0) (hcl : fg_clsd T mind) (hQ : Q (some (.int (fg_mxw T mind))) (μ, fg_rho R, 304)) : fg_Ev E yy_Town_mostWorth (d + 4) [.ref t, .int (nI mind)] (μ, fg_rho R, 304) 304 Q := by
  have hb0 := hok.1
  have hb1 := hok.2.1
  have hp := hok.p
  have hq := Nat.two_pow_pos (T 0)
  have hm10 : mind < 2 ^ 10 := fg_lt10 hm hok.1.2
  refine fg_intro (by decide +kernel) (Nat.le_of_ble_eq_true rfl) (fg_okAs rfl) (Nat.le_refl _) ?_
  refine fg_aloadn (fg_ft (pc := 0) tb_Town_mostWorth 0 rfl) rfl ?_
  refine fg_iloadn (fg_ft (pc := 1) tb_Town_mostWorth 1 rfl) rfl ?_
  refine fg_callV (fg_ft (pc := 2) tb_Town_mostWorth 2 rfl) cf_Town_100 (fg_isOf (tT_lay ht) rfl (fg_lt (tT_lay ht) (by decide))) (as := [.int (nI mind)]) (st := []) rfl rfl (Nat.le_of_ble_eq_true rfl) (Nat.le_refl _) (Nat.le_refl _) (ev_Town_worthOf ht hT hok (m := mind) (hm10) ?_)
  refine fg_istoren (fg_ft (pc := 5) tb_Town_mostWorth 3 rfl) (Nat.le_of_ble_eq_true rfl) ?_
  refine fg_iloadn (fg_ft (pc := 6) tb_Town_mostWorth 4 rfl) rfl ?_
  refine fg_istoren (fg_ft (pc := 7) tb_Town_mostWorth 5 rfl) (Nat.le_of_ble_eq_true rfl) ?_
  refine fg_iconst (fg_ft (pc := 8) tb_Town_mostWorth 6 rfl) ic_1 ?_
  refine fg_iloadn (fg_ft (pc := 9) tb_Town_mostWorth 7 rfl) rfl ?_
  refine fg_callS (fg_ft (pc := 10) tb_Town_mostWorth 8 rfl) cf_Town_71 (as := [.int (nI mind)]) (st := [.int (nI 1)]) rfl rfl (Nat.le_of_ble_eq_true rfl) (Nat.le_refl _) (Nat.le_refl _) (ev_Int_bitCount (s := mind) (by omega) ?_)
  refine fg_ishl1 (fg_ft (pc := 13) tb_Town_mostWorth 9 rfl) (by have := fg_pc_le mind; omega) ?_
  refine fg_istore (fg_ft (pc := 14) tb_Town_mostWorth 10 rfl) (Nat.le_of_ble_eq_true rfl) ?_
  refine fg_descLoop (free := mind) (by omega) (fun (left part : Nat) (s : Int32) => fg_wp E yy_Town_mostWorth (d + 4) 304 304 Q 16 [.ref t, .int (nI mind), .int s, .int (nI part), .int (nI left)] [] (μ, fg_rho R, 304)) (fun (S : Nat → Prop) (x : Int32) => (∃ p, fg_le p mind ∧ fg_clsd T p ∧ x = fg_w T p) ∧ ∀ p, S p → fg_clsd T p → fg_w T p ≤ x) ?_ ?_ _ ⟨⟨mind, fg_le_rf _, hcl, rfl⟩, fun _ h => h.elim⟩
  · intro part s hI
    rw [show fg_mxw T mind = s from fg_mxw_of hI] at hQ
    refine fg_iload (fg_ft (pc := 16) tb_Town_mostWorth 11 rfl) rfl ?_
    refine fg_if_leN (tgt := 51) (fg_ft (pc := 18) tb_Town_mostWorth 12 rfl) (by decide) (by decide) (fun c18 => ?_) (fun c18 => (absurd c18 (by decide)))
    refine fg_iloadn (fg_ft (pc := 51) tb_Town_mostWorth 31 rfl) rfl ?_
    exact fg_iret (fg_ft (pc := 52) tb_Town_mostWorth 32 rfl) rfl rfl (hQ)
  · intro left part s hl hp hI hk
    have hpF : part < 2 ^ T 0 := fg_le_lt hp hm
    have hp10 : part < 2 ^ 10 := fg_lt10 hpF hok.1.2
    refine fg_iload (fg_ft (pc := 16) tb_Town_mostWorth 11 rfl) rfl ?_
    refine fg_if_leN (tgt := 51) (fg_ft (pc := 18) tb_Town_mostWorth 12 rfl) (by decide) (by omega) (fun c18 => (absurd c18 (by omega))) (fun c18 => ?_)
    refine fg_aloadn (fg_ft (pc := 21) tb_Town_mostWorth 13 rfl) rfl ?_
    refine fg_iloadn (fg_ft (pc := 22) tb_Town_mostWorth 14 rfl) rfl ?_
    refine fg_callV (fg_ft (pc := 23) tb_Town_mostWorth 15 rfl) cf_Town_103 (fg_isOf (tT_lay ht) rfl (fg_lt (tT_lay ht) (by decide))) (as := [.int (nI part)]) (st := []) rfl rfl (Nat.le_of_ble_eq_true rfl) (Nat.le_refl _) (Nat.le_refl _) (ev_Town_isClosed ht hT hok (s := part) (hpF) ?_)
    refine fg_ifB_eq (tgt := 39) (fg_ft (pc := 26) tb_Town_mostWorth 16 rfl) (by decide) (fun c26 => ?_) (fun c26 => ?_)
    · refine fg_iloadn (fg_ft (pc := 39) tb_Town_mostWorth 23 rfl) rfl ?_
      refine fg_iconst (fg_ft (pc := 40) tb_Town_mostWorth 24 rfl) ic_1 ?_
      refine fg_isub (fg_ft (pc := 41) tb_Town_mostWorth 25 rfl) ?_
      refine fg_iloadn (fg_ft (pc := 42) tb_Town_mostWorth 26 rfl) rfl ?_
      refine fg_iand (fg_ft (pc := 43) tb_Town_mostWorth 27 rfl) ?_
      refine fg_top fg_nx_I ?_
      refine fg_istoren (fg_ft (pc := 44) tb_Town_mostWorth 28 rfl) (Nat.le_of_ble_eq_true rfl) ?_
      refine fg_iinc (fg_ft (pc := 45) tb_Town_mostWorth 29 rfl) rfl (v := nI left) (by rw [ic_m1]; exact pk_m1 _) ?_
      refine fg_goto (tgt := 16) (fg_ft (pc := 48) tb_Town_mostWorth 30 rfl) (by decide) ?_
      exact hk _ ⟨hI.1, fun q hq hc => by
        rcases Nat.lt_or_ge part q with g | g
        · exact hI.2 q ⟨hq.1, g⟩ hc
        · rw [show q = part by have := hq.2; omega] at hc
          exact absurd hc c26⟩
    · refine fg_iloadn (fg_ft (pc := 29) tb_Town_mostWorth 17 rfl) rfl ?_
      refine fg_aloadn (fg_ft (pc := 30) tb_Town_mostWorth 18 rfl) rfl ?_
      refine fg_iloadn (fg_ft (pc := 31) tb_Town_mostWorth 19 rfl) rfl ?_
      refine fg_callV (fg_ft (pc := 32) tb_Town_mostWorth 20 rfl) cf_Town_100 (fg_isOf (tT_lay ht) rfl (fg_lt (tT_lay ht) (by decide))) (as := [.int (nI part)]) (st := [.int s]) rfl rfl (Nat.le_of_ble_eq_true rfl) (Nat.le_refl _) (Nat.le_refl _) (ev_Town_worthOf ht hT hok (m := part) (hp10) ?_)
      refine fg_mmax (fg_ft (pc := 35) tb_Town_mostWorth 21 rfl) cf_Town_107 (Nat.le_of_ble_eq_true rfl) ?_
      refine fg_istoren (fg_ft (pc := 38) tb_Town_mostWorth 22 rfl) (Nat.le_of_ble_eq_true rfl) ?_
      refine fg_iloadn (fg_ft (pc := 39) tb_Town_mostWorth 23 rfl) rfl ?_
      refine fg_iconst (fg_ft (pc := 40) tb_Town_mostWorth 24 rfl) ic_1 ?_
      refine fg_isub (fg_ft (pc := 41) tb_Town_mostWorth 25 rfl) ?_
      refine fg_iloadn (fg_ft (pc := 42) tb_Town_mostWorth 26 rfl) rfl ?_
      refine fg_iand (fg_ft (pc := 43) tb_Town_mostWorth 27 rfl) ?_
      refine fg_top fg_nx_I ?_
      refine fg_istoren (fg_ft (pc := 44) tb_Town_mostWorth 28 rfl) (Nat.le_of_ble_eq_true rfl) ?_
      refine fg_iinc (fg_ft (pc := 45) tb_Town_mostWorth 29 rfl) rfl (v := nI left) (by rw [ic_m1]; exact pk_m1 _) ?_
      refine fg_goto (tgt := 16) (fg_ft (pc := 48) tb_Town_mostWorth 30 rfl) (by decide) ?_
      refine hk _ ⟨?_, fun q hq hc => ?_⟩
      · split
        · exact ⟨part, hp, c26, rfl⟩
        · exact hI.1
      · rcases Nat.lt_or_ge part q with g | g
        · have h9 := hI.2 q ⟨hq.1, g⟩ hc
          split
          · exact Int32.le_trans h9 (fg_ltle (by assumption))
          · exact h9
        · rw [show q = part by have := hq.2; omega]
          split
          · exact Int32.le_refl _
          · exact fg_nltle (by assumption)
def fg_way (T : Nat → Nat) (s f : Nat) : Prop := (fg_clo T s).testBit f = true ∧ ∀ i, i < T 0 → s.testBit i = true → (fg_clo T (fg_df s (2 ^ i))).testBit f = false
theorem ev_Town_isWay {E : fg_E} {d : Nat} {μ : Nat → Nat → Int32} {R : fg_T4} {Q : Option Value → fg_M → Prop} {t : Nat} {T : Nat → Nat} (ht : fg_isT t) (hT : fg_TW μ t T) (hok : fg_ok T) {s f : Nat} (hs : s < 2 ^ T 0) (hf : f < 2 ^ 31) (hQ : Q (some (.int (fg_bI (fg_way T s f)))) (μ, fg_rho R, 304)) : fg_Ev E yy_Town_isWay (d + 2) [.ref t, .int (nI s), .int (nI f)] (μ, fg_rho R, 304) 304 Q := by
  have hb0 := hok.1
  have hb1 := hok.2.1
  have hp := hok.p
  have hq := Nat.two_pow_pos (T 0)
  have loop : (fg_clo T s).testBit f = true → ∀ (n k : Nat), T 0 - k < n → k ≤ T 0 → (∀ i, i < k → s.testBit i = true → (fg_clo T (fg_df s (2 ^ i))).testBit f = false) → fg_wp E yy_Town_isWay (d + 2) 304 304 Q 16 [.ref t, .int (nI s), .int (nI f), .int (nI k)] [] (μ, fg_rho R, 304) := by
    intro c9 n
    induction n with
    | zero => intro k h; exact absurd h (Nat.not_lt_zero _)
    | succ n ih =>
      intro k hn hk hinv
      have hdf : fg_df s (2 ^ k) < 2 ^ T 0 := fg_df_lt hs
      refine fg_iloadn (fg_ft (pc := 16) tb_Town_isWay 10 rfl) rfl ?_
      refine fg_aloadn (fg_ft (pc := 17) tb_Town_isWay 11 rfl) rfl ?_
      refine fg_getV (v := (nI (T 0))) (fg_ft (pc := 18) tb_Town_isWay 12 rfl) ff_Town_9 (tT_lay ht) rfl (fg_lt (tT_lay ht) (by decide)) hT.1.1 ?_
      refine fg_icmp_geN (tgt := 58) (fg_ft (pc := 21) tb_Town_isWay 13 rfl) (by decide) (by omega) (by omega) (fun c21 => ?_) (fun c21 => ?_)
      · refine fg_iconst (fg_ft (pc := 58) tb_Town_isWay 34 rfl) ic_1 ?_
        exact fg_zret (fg_ft (pc := 59) tb_Town_isWay 35 rfl) rfl (by decide) rfl (by rw [fg_bT ⟨c9, fun i hi hb => hinv i (by omega) hb⟩] at hQ; exact hQ)
      · refine fg_iloadn (fg_ft (pc := 24) tb_Town_isWay 14 rfl) rfl ?_
        refine fg_iloadn (fg_ft (pc := 25) tb_Town_isWay 15 rfl) rfl ?_
        refine fg_callSN (fg_ft (pc := 26) tb_Town_isWay 16 rfl) cf_Town_76 (as := [.int (nI s), .int (nI k)]) (st := []) rfl rfl (Nat.le_of_ble_eq_true rfl) (Nat.le_refl _) (Nat.le_refl _) (ev_Fb_isIn (s := s) (k := k) (by omega) (by omega) ?_)
        refine fg_ifB_eq (tgt := 52) (fg_ft (pc := 29) tb_Town_isWay 17 rfl) (by decide) (fun c29 => ?_) (fun c29 => ?_)
        · refine fg_iincN (fg_ft (pc := 52) tb_Town_isWay 32 rfl) rfl ic_1 rfl ?_
          refine fg_goto (tgt := 16) (fg_ft (pc := 55) tb_Town_isWay 33 rfl) (by decide) ?_
          exact ih (k + 1) (by omega) (by omega) (fun i hi hb => by
            rcases Nat.lt_or_ge i k with g | g
            · exact hinv i g hb
            · have e2 : i = k := by omega
              subst e2
              first | exact absurd hb c29 | (simpa using c47))
        · refine fg_aloadn (fg_ft (pc := 32) tb_Town_isWay 18 rfl) rfl ?_
          refine fg_iloadn (fg_ft (pc := 33) tb_Town_isWay 19 rfl) rfl ?_
          refine fg_iconst (fg_ft (pc := 34) tb_Town_isWay 20 rfl) ic_1 ?_
          refine fg_iloadn (fg_ft (pc := 35) tb_Town_isWay 21 rfl) rfl ?_
          refine fg_ishl1 (fg_ft (pc := 36) tb_Town_isWay 22 rfl) (by omega) ?_
          refine fg_iconst (fg_ft (pc := 37) tb_Town_isWay 23 rfl) ic_m1 ?_
          refine fg_ixor (fg_ft (pc := 38) tb_Town_isWay 24 rfl) ?_
          refine fg_iandD (fg_ft (pc := 39) tb_Town_isWay 25 rfl) ?_
          refine fg_callV (fg_ft (pc := 40) tb_Town_isWay 26 rfl) cf_Town_67 (fg_isOf (tT_lay ht) rfl (fg_lt (tT_lay ht) (by decide))) (as := [.int (nI (fg_df s (2 ^ k)))]) (st := []) rfl rfl (Nat.le_of_ble_eq_true rfl) (Nat.le_refl _) (Nat.le_refl _) (ev_Town_close ht hT hok (s := (fg_df s (2 ^ k))) (hdf) ?_)
          refine fg_iloadn (fg_ft (pc := 43) tb_Town_isWay 27 rfl) rfl ?_
          refine fg_callSN (fg_ft (pc := 44) tb_Town_isWay 28 rfl) cf_Town_76 (as := [.int (nI (fg_clo T (fg_df s (2 ^ k)))), .int (nI f)]) (st := []) rfl rfl (Nat.le_of_ble_eq_true rfl) (Nat.le_refl _) (Nat.le_refl _) (ev_Fb_isIn (s := (fg_clo T (fg_df s (2 ^ k)))) (k := f) (by have := fg_clo_lt hok hdf; omega) (by omega) ?_)
          refine fg_ifB_eq (tgt := 52) (fg_ft (pc := 47) tb_Town_isWay 29 rfl) (by decide) (fun c47 => ?_) (fun c47 => ?_)
          · refine fg_iincN (fg_ft (pc := 52) tb_Town_isWay 32 rfl) rfl ic_1 rfl ?_
            refine fg_goto (tgt := 16) (fg_ft (pc := 55) tb_Town_isWay 33 rfl) (by decide) ?_
            exact ih (k + 1) (by omega) (by omega) (fun i hi hb => by
              rcases Nat.lt_or_ge i k with g | g
              · exact hinv i g hb
              · have e2 : i = k := by omega
                subst e2
                first | exact absurd hb c29 | (simpa using c47))
          · refine fg_iconst (fg_ft (pc := 50) tb_Town_isWay 30 rfl) ic_0 ?_
            exact fg_zret (fg_ft (pc := 51) tb_Town_isWay 31 rfl) rfl (by decide) rfl (by rw [fg_bF (fun h => by have := h.2 k (by omega) c29; rw [c47] at this; cases this)] at hQ; exact hQ)
  refine fg_intro (by decide +kernel) (Nat.le_of_ble_eq_true rfl) (fg_okAs rfl) (Nat.le_refl _) ?_
  refine fg_aloadn (fg_ft (pc := 0) tb_Town_isWay 0 rfl) rfl ?_
  refine fg_iloadn (fg_ft (pc := 1) tb_Town_isWay 1 rfl) rfl ?_
  refine fg_callV (fg_ft (pc := 2) tb_Town_isWay 2 rfl) cf_Town_67 (fg_isOf (tT_lay ht) rfl (fg_lt (tT_lay ht) (by decide))) (as := [.int (nI s)]) (st := []) rfl rfl (Nat.le_of_ble_eq_true rfl) (Nat.le_refl _) (Nat.le_refl _) (ev_Town_close ht hT hok (s := s) (hs) ?_)
  refine fg_iloadn (fg_ft (pc := 5) tb_Town_isWay 3 rfl) rfl ?_
  refine fg_callSN (fg_ft (pc := 6) tb_Town_isWay 4 rfl) cf_Town_76 (as := [.int (nI (fg_clo T s)), .int (nI f)]) (st := []) rfl rfl (Nat.le_of_ble_eq_true rfl) (Nat.le_refl _) (Nat.le_refl _) (ev_Fb_isIn (s := (fg_clo T s)) (k := f) (by have := fg_clo_lt hok hs; omega) (by omega) ?_)
  refine fg_ifB_ne (tgt := 14) (fg_ft (pc := 9) tb_Town_isWay 5 rfl) (by decide) (fun c9 => ?_) (fun c9 => ?_)
  · refine fg_iconst (fg_ft (pc := 14) tb_Town_isWay 8 rfl) ic_0 ?_
    refine fg_istoren (fg_ft (pc := 15) tb_Town_isWay 9 rfl) (Nat.le_of_ble_eq_true rfl) ?_
    exact loop c9 (T 0 + 1) 0 (by omega) (by omega) (fun i hi => absurd hi (Nat.not_lt_zero _))
  · refine fg_iconst (fg_ft (pc := 12) tb_Town_isWay 6 rfl) ic_0 ?_
    exact fg_zret (fg_ft (pc := 13) tb_Town_isWay 7 rfl) rfl (by decide) rfl (by rw [fg_bF (fun h => c9 h.1)] at hQ; exact hQ)
noncomputable def fg_frs (T : Nat → Nat) (m : Nat) : Nat → Nat
  | 0 => 0
  | n + 1 => fg_frs T m n ||| (if m.testBit n = true ∧ (fg_clo T (fg_df m (2 ^ n))).testBit n = false then 2 ^ n else 0)
theorem ev_Town_fresh {E : fg_E} {d : Nat} {μ : Nat → Nat → Int32} {R : fg_T4} {Q : Option Value → fg_M → Prop} {t : Nat} {T : Nat → Nat} (ht : fg_isT t) (hT : fg_TW μ t T) (hok : fg_ok T) {m : Nat} (hm : m < 2 ^ T 0) (hQ : Q (some (.int (nI (fg_frs T m (T 0))))) (μ, fg_rho R, 304)) : fg_Ev E yy_Town_fresh (d + 2) [.ref t, .int (nI m)] (μ, fg_rho R, 304) 304 Q := by
  have hb0 := hok.1
  have hb1 := hok.2.1
  have hp := hok.p
  have hq := Nat.two_pow_pos (T 0)
  have loop : ∀ (n : Nat) (k a : Nat), T 0 - k < n → k ≤ T 0 → a = fg_frs T m k → fg_wp E yy_Town_fresh (d + 2) 304 304 Q 4 [.ref t, .int (nI m), .int (nI a), .int (nI k)] [] (μ, fg_rho R, 304) := by
    intro n
    induction n with
    | zero => intro k a h; exact absurd h (Nat.not_lt_zero _)
    | succ n ih =>
      intro k a hn hk ha
      have hdf : fg_df m (2 ^ k) < 2 ^ T 0 := fg_df_lt hm
      refine fg_iloadn (fg_ft (pc := 4) tb_Town_fresh 4 rfl) rfl ?_
      refine fg_aloadn (fg_ft (pc := 5) tb_Town_fresh 5 rfl) rfl ?_
      refine fg_getV (v := (nI (T 0))) (fg_ft (pc := 6) tb_Town_fresh 6 rfl) ff_Town_9 (tT_lay ht) rfl (fg_lt (tT_lay ht) (by decide)) hT.1.1 ?_
      refine fg_icmp_geN (tgt := 50) (fg_ft (pc := 9) tb_Town_fresh 7 rfl) (by decide) (by omega) (by omega) (fun c9 => ?_) (fun c9 => ?_)
      · refine fg_iloadn (fg_ft (pc := 50) tb_Town_fresh 32 rfl) rfl ?_
        exact fg_iret (fg_ft (pc := 51) tb_Town_fresh 33 rfl) rfl rfl (by rw [ha, show k = T 0 by omega]; exact hQ)
      · refine fg_iloadn (fg_ft (pc := 12) tb_Town_fresh 8 rfl) rfl ?_
        refine fg_iloadn (fg_ft (pc := 13) tb_Town_fresh 9 rfl) rfl ?_
        refine fg_callSN (fg_ft (pc := 14) tb_Town_fresh 10 rfl) cf_Town_76 (as := [.int (nI m), .int (nI k)]) (st := []) rfl rfl (Nat.le_of_ble_eq_true rfl) (Nat.le_refl _) (Nat.le_refl _) (ev_Fb_isIn (s := m) (k := k) (by omega) (by omega) ?_)
        refine fg_ifB_eq (tgt := 44) (fg_ft (pc := 17) tb_Town_fresh 11 rfl) (by decide) (fun c17 => ?_) (fun c17 => ?_)
        · refine fg_iincN (fg_ft (pc := 44) tb_Town_fresh 30 rfl) rfl ic_1 rfl ?_
          refine fg_goto (tgt := 4) (fg_ft (pc := 47) tb_Town_fresh 31 rfl) (by decide) ?_
          exact ih (k + 1) _ (by omega) (by omega) (by rw [ha]; show _ = fg_frs T m k ||| _; rw [if_neg (fun h => by first | exact c17 h.1 | (rw [c35] at h; exact absurd h.2 (by decide))), Nat.or_zero])
        · refine fg_aloadn (fg_ft (pc := 20) tb_Town_fresh 12 rfl) rfl ?_
          refine fg_iloadn (fg_ft (pc := 21) tb_Town_fresh 13 rfl) rfl ?_
          refine fg_iconst (fg_ft (pc := 22) tb_Town_fresh 14 rfl) ic_1 ?_
          refine fg_iloadn (fg_ft (pc := 23) tb_Town_fresh 15 rfl) rfl ?_
          refine fg_ishl1 (fg_ft (pc := 24) tb_Town_fresh 16 rfl) (by omega) ?_
          refine fg_iconst (fg_ft (pc := 25) tb_Town_fresh 17 rfl) ic_m1 ?_
          refine fg_ixor (fg_ft (pc := 26) tb_Town_fresh 18 rfl) ?_
          refine fg_iandD (fg_ft (pc := 27) tb_Town_fresh 19 rfl) ?_
          refine fg_callV (fg_ft (pc := 28) tb_Town_fresh 20 rfl) cf_Town_67 (fg_isOf (tT_lay ht) rfl (fg_lt (tT_lay ht) (by decide))) (as := [.int (nI (fg_df m (2 ^ k)))]) (st := []) rfl rfl (Nat.le_of_ble_eq_true rfl) (Nat.le_refl _) (Nat.le_refl _) (ev_Town_close ht hT hok (s := (fg_df m (2 ^ k))) (hdf) ?_)
          refine fg_iloadn (fg_ft (pc := 31) tb_Town_fresh 21 rfl) rfl ?_
          refine fg_callSN (fg_ft (pc := 32) tb_Town_fresh 22 rfl) cf_Town_76 (as := [.int (nI (fg_clo T (fg_df m (2 ^ k)))), .int (nI k)]) (st := []) rfl rfl (Nat.le_of_ble_eq_true rfl) (Nat.le_refl _) (Nat.le_refl _) (ev_Fb_isIn (s := (fg_clo T (fg_df m (2 ^ k)))) (k := k) (by have := fg_clo_lt hok hdf; omega) (by omega) ?_)
          refine fg_ifB_ne (tgt := 44) (fg_ft (pc := 35) tb_Town_fresh 23 rfl) (by decide) (fun c35 => ?_) (fun c35 => ?_)
          · refine fg_iincN (fg_ft (pc := 44) tb_Town_fresh 30 rfl) rfl ic_1 rfl ?_
            refine fg_goto (tgt := 4) (fg_ft (pc := 47) tb_Town_fresh 31 rfl) (by decide) ?_
            exact ih (k + 1) _ (by omega) (by omega) (by rw [ha]; show _ = fg_frs T m k ||| _; rw [if_neg (fun h => by first | exact c17 h.1 | (rw [c35] at h; exact absurd h.2 (by decide))), Nat.or_zero])
          · refine fg_iloadn (fg_ft (pc := 38) tb_Town_fresh 24 rfl) rfl ?_
            refine fg_iconst (fg_ft (pc := 39) tb_Town_fresh 25 rfl) ic_1 ?_
            refine fg_iloadn (fg_ft (pc := 40) tb_Town_fresh 26 rfl) rfl ?_
            refine fg_ishl1 (fg_ft (pc := 41) tb_Town_fresh 27 rfl) (by omega) ?_
            refine fg_iorN (fg_ft (pc := 42) tb_Town_fresh 28 rfl) ?_
            refine fg_istoren (fg_ft (pc := 43) tb_Town_fresh 29 rfl) (Nat.le_of_ble_eq_true rfl) ?_
            refine fg_iincN (fg_ft (pc := 44) tb_Town_fresh 30 rfl) rfl ic_1 rfl ?_
            refine fg_goto (tgt := 4) (fg_ft (pc := 47) tb_Town_fresh 31 rfl) (by decide) ?_
            exact ih (k + 1) _ (by omega) (by omega) (by rw [ha]; show _ = fg_frs T m k ||| _; rw [if_pos ⟨c17, by simpa using c35⟩])
  refine fg_intro (by decide +kernel) (Nat.le_of_ble_eq_true rfl) (fg_okAs rfl) (Nat.le_refl _) ?_
  refine fg_iconst (fg_ft (pc := 0) tb_Town_fresh 0 rfl) ic_0 ?_
  refine fg_istoren (fg_ft (pc := 1) tb_Town_fresh 1 rfl) (Nat.le_of_ble_eq_true rfl) ?_
  refine fg_iconst (fg_ft (pc := 2) tb_Town_fresh 2 rfl) ic_0 ?_
  refine fg_istoren (fg_ft (pc := 3) tb_Town_fresh 3 rfl) (Nat.le_of_ble_eq_true rfl) ?_
  exact loop (T 0 + 1) 0 0 (by omega) (by omega) rfl
