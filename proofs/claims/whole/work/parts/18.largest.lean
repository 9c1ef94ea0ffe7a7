theorem fg_or_add : ∀ (n a b : Nat), a ≤ n → a &&& b = 0 → a ||| b = a + b := by
  intro n
  induction n with
  | zero =>
    intro a b h _
    rw [Nat.le_zero.mp h, Nat.zero_or, Nat.zero_add]
  | succ n ih =>
    intro a b h hab
    rcases Nat.eq_zero_or_pos a with h0 | h0
    · rw [h0, Nat.zero_or, Nat.zero_add]
    · have h1 := fg_and2 a b
      rw [hab] at h1
      have h2 : (a / 2) &&& (b / 2) = 0 := by omega
      have h3 : (a % 2) * (b % 2) = 0 := by omega
      have h4 := ih (a / 2) (b / 2) (by omega) h2
      have h5 : a ||| b = 2 * ((a / 2) ||| (b / 2)) + (a % 2 + b % 2) := by
        have h6 : a % 2 + b % 2 ≤ 1 := by
          rcases Nat.mod_two_eq_zero_or_one a with g | g <;> rcases Nat.mod_two_eq_zero_or_one b with g2 | g2 <;> rw [g, g2] at h3 ⊢ <;> first | decide | cases h3
        apply Nat.eq_of_testBit_eq
        intro i
        cases i with
        | zero =>
          rw [Nat.testBit_or, Nat.testBit_zero, Nat.testBit_zero, Nat.testBit_zero]
          rcases Nat.mod_two_eq_zero_or_one a with g | g <;> rcases Nat.mod_two_eq_zero_or_one b with g2 | g2 <;> rw [g, g2] at h6 <;> first | (exfalso; omega) | (rw [show (2 * (a / 2 ||| b / 2) + (a % 2 + b % 2)) % 2 = a % 2 + b % 2 by omega, g, g2]; rfl)
        | succ i =>
          rw [Nat.testBit_or, Nat.testBit_succ, Nat.testBit_succ, Nat.testBit_succ, ← Nat.testBit_or]
          rw [show (2 * ((a / 2) ||| (b / 2)) + (a % 2 + b % 2)) / 2 = (a / 2) ||| (b / 2) by omega]
      omega
theorem fg_df_dis (a b : Nat) : fg_df a b &&& b = 0 := by
  apply Nat.eq_of_testBit_eq
  intro i
  rw [Nat.testBit_and, fg_df_bit, Nat.zero_testBit]
  cases a.testBit i <;> cases b.testBit i <;> rfl
theorem fg_dis_le {a b c : Nat} (h : fg_le a b) (hb : b &&& c = 0) : a &&& c = 0 := by
  apply Nat.eq_of_testBit_eq
  intro i
  have h1 := congrArg (fun z => Nat.testBit z i) hb
  simp only [Nat.testBit_and, Nat.zero_testBit] at h1 ⊢
  cases ha : a.testBit i
  · rfl
  · rw [h i ha] at h1
    simpa using h1
theorem fg_or_mono {q p free kept : Nat} (hq : fg_le q free) (hp : fg_le p free) (hd : free &&& kept = 0) (h : q ≤ p) : q ||| kept ≤ p ||| kept := by
  rw [fg_or_add q q kept (Nat.le_refl _) (fg_dis_le hq hd), fg_or_add p p kept (Nat.le_refl _) (fg_dis_le hp hd)]
  omega
theorem fg_df_or {x k : Nat} (h : fg_le k x) : fg_df x k ||| k = x := by
  apply Nat.eq_of_testBit_eq
  intro i
  rw [Nat.testBit_or, fg_df_bit]
  have := h i
  cases hx : x.testBit i <;> cases hk : k.testBit i <;> simp_all
theorem fg_okp_split {T : Nat → Nat} {mind gone kept x : Nat} (h : fg_okp T mind gone kept x) : fg_le (fg_df x kept) (fg_df (fg_df mind gone) kept) ∧ fg_df x kept ||| kept = x := by
  obtain ⟨h1, h2, h3, h4⟩ := h
  refine ⟨fun i hi => ?_, fg_df_or h3⟩
  rw [fg_df_bit] at hi
  rw [fg_df_bit, fg_df_bit]
  have h5 := congrArg (fun z => Nat.testBit z i) h2
  simp only [Nat.testBit_and, Nat.zero_testBit] at h5
  have h6 := h1 i
  cases hx : x.testBit i <;> cases hk : kept.testBit i <;> cases hg : gone.testBit i <;> simp_all
theorem fg_okp_join {T : Nat → Nat} {mind gone kept q : Nat} (hk : fg_le kept (fg_df mind gone)) (hq : fg_le q (fg_df (fg_df mind gone) kept)) (hc : fg_clsd T (q ||| kept)) : fg_okp T mind gone kept (q ||| kept) := by
  have h1 : fg_le (q ||| kept) (fg_df mind gone) := fg_or_le (fg_le_tr hq (fg_df_le _ _)) hk
  exact ⟨fg_le_tr h1 (fg_df_le _ _), fg_dis_le h1 (fg_df_dis _ _), fg_le_or2 _ _, hc⟩
theorem fg_B_none {T : Nat → Nat} {mind gone kept : Nat} (h : ∀ q, fg_le q (fg_df (fg_df mind gone) kept) → ¬ fg_clsd T (q ||| kept)) : fg_IsB T mind gone kept none := by
  intro p hp
  obtain ⟨h1, h2⟩ := fg_okp_split hp
  exact h _ h1 (by rw [h2]; exact hp.2.2.2)
theorem fg_B_some {T : Nat → Nat} {mind gone kept p : Nat} (hk : fg_le kept (fg_df mind gone)) (hp : fg_le p (fg_df (fg_df mind gone) kept)) (hc : fg_clsd T (p ||| kept)) (h : ∀ q, fg_le q (fg_df (fg_df mind gone) kept) → fg_clsd T (q ||| kept) → fg_pc (q ||| kept) < fg_pc (p ||| kept) ∨ (fg_pc (q ||| kept) = fg_pc (p ||| kept) ∧ q ≤ p)) : fg_IsB T mind gone kept (some (p ||| kept)) := by
  refine ⟨fg_okp_join hk hp hc, fun x hx => ?_⟩
  obtain ⟨h1, h2⟩ := fg_okp_split hx
  have h3 := h _ h1 (by rw [h2]; exact hx.2.2.2)
  rw [h2] at h3
  rcases h3 with g | ⟨g1, g2⟩
  · exact Or.inl g
  · right
    refine ⟨g1, ?_⟩
    have := fg_or_mono h1 hp (fg_df_dis _ _) g2
    rw [h2] at this
    exact this
/-- all of the pool is there: no part has more -/
theorem fg_B_full {T : Nat → Nat} {mind gone kept p : Nat} (hm : mind < 4096) (hk : fg_le kept (fg_df mind gone)) (hp : fg_le p (fg_df (fg_df mind gone) kept)) (hc : fg_clsd T (p ||| kept)) (h : fg_pc (fg_df mind gone) ≤ fg_pc (p ||| kept)) : fg_IsB T mind gone kept (some (p ||| kept)) := by
  have hj := fg_okp_join hk hp hc
  have hlt : fg_df mind gone < 4096 := fg_df_lt (n := 12) hm
  have h1 : fg_le (p ||| kept) (fg_df mind gone) := fg_or_le (fg_le_tr hp (fg_df_le _ _)) hk
  have e1 : p ||| kept = fg_df mind gone := fg_pc_eq h1 hlt (Nat.le_antisymm (fg_pc_mono h1) h)
  refine ⟨hj, fun x hx => ?_⟩
  obtain ⟨g1, g2⟩ := fg_okp_split hx
  have g3 : fg_le x (fg_df mind gone) := by
    rw [← g2]
    exact fg_or_le (fg_le_tr g1 (fg_df_le _ _)) hk
  have g4 := fg_pc_mono g3
  rw [e1]
  rcases Nat.lt_or_ge (fg_pc x) (fg_pc (fg_df mind gone)) with g | g
  · exact Or.inl g
  · right
    have e2 := fg_pc_eq g3 hlt (Nat.le_antisymm g4 g)
    exact ⟨by rw [e2], by rw [e2]; exact Nat.le_refl _⟩
/-- what the loop over the parts has found so far -/
def fg_lI (T : Nat → Nat) (kept : Nat) (S : Nat → Prop) (s : Int32 × Int32) : Prop := (s = (-1, -1) ∧ ∀ q, S q → ¬ fg_clsd T (q ||| kept)) ∨ ∃ p, S p ∧ fg_clsd T (p ||| kept) ∧ s = (nI (p ||| kept), nI (fg_pc (p ||| kept))) ∧ ∀ q, S q → fg_clsd T (q ||| kept) → fg_pc (q ||| kept) < fg_pc (p ||| kept) ∨ (fg_pc (q ||| kept) = fg_pc (p ||| kept) ∧ q ≤ p)
theorem ev_Town_largest {E : fg_E} {d : Nat} {μ : Nat → Nat → Int32} {R : fg_T4} {Q : Option Value → fg_M → Prop} {t : Nat} {T : Nat → Nat} (ht : fg_isT t) (hT : fg_TW μ t T) (hok : fg_ok T) {mind gone kept : Nat} (hm : mind < 2 ^ T 0) (hkp : kept < 2 ^ 10) (hQ : Q (some (.int (fg_o (fg_bst T mind gone kept)))) (μ, fg_rho R, 304)) : fg_Ev E yy_Town_largest (d + 3) [.ref t, .int (nI mind), .int (nI gone), .int (nI kept)] (μ, fg_rho R, 304) 304 Q := by
  have hb0 := hok.1
  have hb1 := hok.2.1
  have hp := hok.p
  have hq := Nat.two_pow_pos (T 0)
  have hm10 : mind < 2 ^ 10 := fg_lt10 hm hok.1.2
  have hpoolF : fg_df mind gone < 2 ^ T 0 := fg_df_lt hm
  have hpool12 : fg_df mind gone < 4096 := by omega
  have hpool31 : fg_df mind gone < 2 ^ 31 := by omega
  refine fg_intro (by decide +kernel) (Nat.le_of_ble_eq_true rfl) (fg_okAs rfl) (Nat.le_refl _) ?_
  refine fg_iloadn (fg_ft (pc := 0) tb_Town_largest 0 rfl) rfl ?_
  refine fg_iloadn (fg_ft (pc := 1) tb_Town_largest 1 rfl) rfl ?_
  refine fg_iconst (fg_ft (pc := 2) tb_Town_largest 2 rfl) ic_m1 ?_
  refine fg_ixor (fg_ft (pc := 3) tb_Town_largest 3 rfl) ?_
  refine fg_iandD (fg_ft (pc := 4) tb_Town_largest 4 rfl) ?_
  refine fg_istore (fg_ft (pc := 5) tb_Town_largest 5 rfl) (Nat.le_of_ble_eq_true rfl) ?_
  refine fg_iloadn (fg_ft (pc := 7) tb_Town_largest 6 rfl) rfl ?_
  refine fg_iload (fg_ft (pc := 8) tb_Town_largest 7 rfl) rfl ?_
  refine fg_iconst (fg_ft (pc := 10) tb_Town_largest 8 rfl) ic_m1 ?_
  refine fg_ixor (fg_ft (pc := 11) tb_Town_largest 9 rfl) ?_
  refine fg_iandD (fg_ft (pc := 12) tb_Town_largest 10 rfl) ?_
  refine fg_if_eqN (tgt := 18) (fg_ft (pc := 13) tb_Town_largest 11 rfl) (by decide) (fg_df_le31 (by omega)) (fun c13 => ?_) (fun c13 => ?_)
  · refine fg_iload (fg_ft (pc := 18) tb_Town_largest 14 rfl) rfl ?_
    refine fg_iloadn (fg_ft (pc := 20) tb_Town_largest 15 rfl) rfl ?_
    refine fg_iconst (fg_ft (pc := 21) tb_Town_largest 16 rfl) ic_m1 ?_
    refine fg_ixor (fg_ft (pc := 22) tb_Town_largest 17 rfl) ?_
    refine fg_iandD (fg_ft (pc := 23) tb_Town_largest 18 rfl) ?_
    refine fg_istore (fg_ft (pc := 24) tb_Town_largest 19 rfl) (Nat.le_of_ble_eq_true rfl) ?_
    refine fg_iconst (fg_ft (pc := 26) tb_Town_largest 20 rfl) ic_m1 ?_
    refine fg_istore (fg_ft (pc := 27) tb_Town_largest 21 rfl) (Nat.le_of_ble_eq_true rfl) ?_
    refine fg_iconst (fg_ft (pc := 29) tb_Town_largest 22 rfl) ic_m1 ?_
    refine fg_istore (fg_ft (pc := 30) tb_Town_largest 23 rfl) (Nat.le_of_ble_eq_true rfl) ?_
    refine fg_iload (fg_ft (pc := 32) tb_Town_largest 24 rfl) rfl ?_
    refine fg_istore (fg_ft (pc := 34) tb_Town_largest 25 rfl) (Nat.le_of_ble_eq_true rfl) ?_
    refine fg_iconst (fg_ft (pc := 36) tb_Town_largest 26 rfl) ic_1 ?_
    refine fg_iload (fg_ft (pc := 37) tb_Town_largest 27 rfl) rfl ?_
    refine fg_callS (fg_ft (pc := 39) tb_Town_largest 28 rfl) cf_Town_71 (as := [.int (nI (fg_df (fg_df mind gone) kept))]) (st := [.int (nI 1)]) rfl rfl (Nat.le_of_ble_eq_true rfl) (Nat.le_refl _) (Nat.le_refl _) (ev_Int_bitCount (s := (fg_df (fg_df mind gone) kept)) (by have := fg_df_lt (a := fg_df mind gone) (b := kept) hpoolF; omega) ?_)
    refine fg_ishl1 (fg_ft (pc := 42) tb_Town_largest 29 rfl) (by have := fg_pc_le (fg_df (fg_df mind gone) kept); omega) ?_
    refine fg_istore (fg_ft (pc := 43) tb_Town_largest 30 rfl) (Nat.le_of_ble_eq_true rfl) ?_
    have hkpool : fg_le kept (fg_df mind gone) := fg_df0.mp c13
    have hfreeF : fg_df (fg_df mind gone) kept < 2 ^ T 0 := fg_df_lt hpoolF
    refine fg_descLoop (free := fg_df (fg_df mind gone) kept) (by omega) (fun (left part : Nat) (s : Int32 × Int32) => ∀ v10 : Value, v10.category = 1 → fg_wp E yy_Town_largest (d + 3) 304 304 Q 45 [.ref t, .int (nI mind), .int (nI gone), .int (nI kept), .int (nI (fg_df mind gone)), .int (nI (fg_df (fg_df mind gone) kept)), .int (s.1), .int (s.2), .int (nI part), .int (nI left), v10] [] (μ, fg_rho R, 304)) (fg_lI T kept) ?_ ?_ (-1, -1) (Or.inl ⟨rfl, fun _ h => h.elim⟩) _ rfl
    · intro part s hI v10 hv10
      have hfin : Q (some (.int s.1)) (μ, fg_rho R, 304) := by
        rcases hI with ⟨rfl, h⟩ | ⟨p, h1, h2, rfl, h3⟩
        · rw [show fg_bst T mind gone kept = none from fg_bst_of (fg_B_none h)] at hQ; exact hQ
        · rw [show fg_bst T mind gone kept = some (p ||| kept) from fg_bst_of (fg_B_some hkpool h1 h2 h3)] at hQ; exact hQ
      refine fg_iload (fg_ft (pc := 45) tb_Town_largest 31 rfl) rfl ?_
      refine fg_if_leN (tgt := 116) (fg_ft (pc := 47) tb_Town_largest 32 rfl) (by decide) (by decide) (fun c47 => ?_) (fun c47 => (absurd c47 (by decide)))
      refine fg_iload (fg_ft (pc := 116) tb_Town_largest 68 rfl) rfl ?_
      exact fg_iret (fg_ft (pc := 118) tb_Town_largest 69 rfl) rfl rfl (hfin)
    · intro left part s hl hp hI hk v10 hv10
      have hpF : part < 2 ^ T 0 := fg_le_lt hp hfreeF
      have hkF : kept < 2 ^ T 0 := fg_le_lt hkpool hpoolF
      have hpk2 : part ||| kept < 2 ^ T 0 := fg_or_lt hpF hkF
      have hpk : part ||| kept < 4096 := by omega
      rcases hI with ⟨rfl, hI⟩ | ⟨p, h1, h2, rfl, h3⟩
      · refine fg_iload (fg_ft (pc := 45) tb_Town_largest 31 rfl) rfl ?_
        refine fg_if_leN (tgt := 116) (fg_ft (pc := 47) tb_Town_largest 32 rfl) (by decide) (by omega) (fun c47 => (absurd c47 (by omega))) (fun c47 => ?_)
        refine fg_iload (fg_ft (pc := 50) tb_Town_largest 33 rfl) rfl ?_
        refine fg_iload (fg_ft (pc := 52) tb_Town_largest 34 rfl) rfl ?_
        refine fg_callS (fg_ft (pc := 54) tb_Town_largest 35 rfl) cf_Town_71 (as := [.int (nI (fg_df mind gone))]) (st := [.int (-1)]) rfl rfl (Nat.le_of_ble_eq_true rfl) (Nat.le_refl _) (Nat.le_refl _) (ev_Int_bitCount (s := (fg_df mind gone)) (hpool12) ?_)
        refine fg_icmp_ge (tgt := 116) (fg_ft (pc := 57) tb_Town_largest 36 rfl) (by decide) (fun c57 => (absurd c57 (fg_negle (by have := fg_pc_le (fg_df mind gone); omega)))) (fun c57 => ?_)
        refine fg_iload (fg_ft (pc := 60) tb_Town_largest 37 rfl) rfl ?_
        refine fg_iloadn (fg_ft (pc := 62) tb_Town_largest 38 rfl) rfl ?_
        refine fg_iorN (fg_ft (pc := 63) tb_Town_largest 39 rfl) ?_
        refine fg_callS (fg_ft (pc := 64) tb_Town_largest 40 rfl) cf_Town_71 (as := [.int (nI (part ||| kept))]) (st := []) rfl rfl (Nat.le_of_ble_eq_true rfl) (Nat.le_refl _) (Nat.le_refl _) (ev_Int_bitCount (s := (part ||| kept)) (hpk) ?_)
        refine fg_istore (fg_ft (pc := 67) tb_Town_largest 41 rfl) (Nat.le_of_ble_eq_true rfl) ?_
        refine fg_iload (fg_ft (pc := 69) tb_Town_largest 42 rfl) rfl ?_
        refine fg_iload (fg_ft (pc := 71) tb_Town_largest 43 rfl) rfl ?_
        refine fg_icmp_le (tgt := 101) (fg_ft (pc := 73) tb_Town_largest 44 rfl) (by decide) (fun c73 => (absurd c73 (fg_negle (by have := fg_pc_le (part ||| kept); omega)))) (fun c73 => ?_)
        refine fg_aloadn (fg_ft (pc := 76) tb_Town_largest 45 rfl) rfl ?_
        refine fg_iload (fg_ft (pc := 77) tb_Town_largest 46 rfl) rfl ?_
        refine fg_iloadn (fg_ft (pc := 79) tb_Town_largest 47 rfl) rfl ?_
        refine fg_iorN (fg_ft (pc := 80) tb_Town_largest 48 rfl) ?_
        refine fg_callV (fg_ft (pc := 81) tb_Town_largest 49 rfl) cf_Town_67 (fg_isOf (tT_lay ht) rfl (fg_lt (tT_lay ht) (by decide))) (as := [.int (nI (part ||| kept))]) (st := []) rfl rfl (Nat.le_of_ble_eq_true rfl) (Nat.le_refl _) (Nat.le_refl _) (ev_Town_close ht hT hok (s := (part ||| kept)) (hpk2) ?_)
        refine fg_iload (fg_ft (pc := 84) tb_Town_largest 50 rfl) rfl ?_
        refine fg_iloadn (fg_ft (pc := 86) tb_Town_largest 51 rfl) rfl ?_
        refine fg_iorN (fg_ft (pc := 87) tb_Town_largest 52 rfl) ?_
        refine fg_icmp_neN (tgt := 101) (fg_ft (pc := 88) tb_Town_largest 53 rfl) (by decide) (by have := fg_clo_lt hok hpk2; omega) (by omega) (fun c88 => ?_) (fun c88 => ?_)
        · refine fg_iload (fg_ft (pc := 101) tb_Town_largest 60 rfl) rfl ?_
          refine fg_iconst (fg_ft (pc := 103) tb_Town_largest 61 rfl) ic_1 ?_
          refine fg_isub (fg_ft (pc := 104) tb_Town_largest 62 rfl) ?_
          refine fg_iload (fg_ft (pc := 105) tb_Town_largest 63 rfl) rfl ?_
          refine fg_iand (fg_ft (pc := 107) tb_Town_largest 64 rfl) ?_
          refine fg_top fg_nx_I ?_
          refine fg_istore (fg_ft (pc := 108) tb_Town_largest 65 rfl) (Nat.le_of_ble_eq_true rfl) ?_
          refine fg_iinc (fg_ft (pc := 110) tb_Town_largest 66 rfl) rfl (v := nI left) (by rw [ic_m1]; exact pk_m1 _) ?_
          refine fg_goto (tgt := 45) (fg_ft (pc := 113) tb_Town_largest 67 rfl) (by decide) ?_
          exact hk (-1, -1) (Or.inl ⟨rfl, fun q hq hc => by
            rcases Nat.lt_or_ge part q with g | g
            · exact hI q ⟨hq.1, g⟩ hc
            · rw [show q = part by have := hq.2; omega] at hc
              exact c88 (fg_clo_cl hc)⟩) _ rfl
        · refine fg_iload (fg_ft (pc := 91) tb_Town_largest 54 rfl) rfl ?_
          refine fg_istore (fg_ft (pc := 93) tb_Town_largest 55 rfl) (Nat.le_of_ble_eq_true rfl) ?_
          refine fg_iload (fg_ft (pc := 95) tb_Town_largest 56 rfl) rfl ?_
          refine fg_iloadn (fg_ft (pc := 97) tb_Town_largest 57 rfl) rfl ?_
          refine fg_iorN (fg_ft (pc := 98) tb_Town_largest 58 rfl) ?_
          refine fg_istore (fg_ft (pc := 99) tb_Town_largest 59 rfl) (Nat.le_of_ble_eq_true rfl) ?_
          refine fg_iload (fg_ft (pc := 101) tb_Town_largest 60 rfl) rfl ?_
          refine fg_iconst (fg_ft (pc := 103) tb_Town_largest 61 rfl) ic_1 ?_
          refine fg_isub (fg_ft (pc := 104) tb_Town_largest 62 rfl) ?_
          refine fg_iload (fg_ft (pc := 105) tb_Town_largest 63 rfl) rfl ?_
          refine fg_iand (fg_ft (pc := 107) tb_Town_largest 64 rfl) ?_
          refine fg_top fg_nx_I ?_
          refine fg_istore (fg_ft (pc := 108) tb_Town_largest 65 rfl) (Nat.le_of_ble_eq_true rfl) ?_
          refine fg_iinc (fg_ft (pc := 110) tb_Town_largest 66 rfl) rfl (v := nI left) (by rw [ic_m1]; exact pk_m1 _) ?_
          refine fg_goto (tgt := 45) (fg_ft (pc := 113) tb_Town_largest 67 rfl) (by decide) ?_
          exact hk _ (Or.inr ⟨part, ⟨hp, Nat.le_refl _⟩, (fg_clo_fix hok hpk2).mp c88, rfl, fun q hq hc => by
            rcases Nat.lt_or_ge part q with g | g
            · exact absurd hc (hI q ⟨hq.1, g⟩)
            · exact Or.inr ⟨by rw [show q = part by have := hq.2; omega], g⟩⟩) _ rfl
      · refine fg_iload (fg_ft (pc := 45) tb_Town_largest 31 rfl) rfl ?_
        refine fg_if_leN (tgt := 116) (fg_ft (pc := 47) tb_Town_largest 32 rfl) (by decide) (by omega) (fun c47 => (absurd c47 (by omega))) (fun c47 => ?_)
        refine fg_iload (fg_ft (pc := 50) tb_Town_largest 33 rfl) rfl ?_
        refine fg_iload (fg_ft (pc := 52) tb_Town_largest 34 rfl) rfl ?_
        refine fg_callS (fg_ft (pc := 54) tb_Town_largest 35 rfl) cf_Town_71 (as := [.int (nI (fg_df mind gone))]) (st := [.int (nI (fg_pc (p ||| kept)))]) rfl rfl (Nat.le_of_ble_eq_true rfl) (Nat.le_refl _) (Nat.le_refl _) (ev_Int_bitCount (s := (fg_df mind gone)) (hpool12) ?_)
        refine fg_icmp_geN (tgt := 116) (fg_ft (pc := 57) tb_Town_largest 36 rfl) (by decide) (by have := fg_pc_le (p ||| kept); omega) (by have := fg_pc_le (fg_df mind gone); omega) (fun c57 => ?_) (fun c57 => ?_)
        · refine fg_iload (fg_ft (pc := 116) tb_Town_largest 68 rfl) rfl ?_
          exact fg_iret (fg_ft (pc := 118) tb_Town_largest 69 rfl) rfl rfl (by rw [show fg_bst T mind gone kept = some (p ||| kept) from fg_bst_of (fg_B_full (by omega) hkpool h1.1 h2 c57)] at hQ; exact hQ)
        · refine fg_iload (fg_ft (pc := 60) tb_Town_largest 37 rfl) rfl ?_
          refine fg_iloadn (fg_ft (pc := 62) tb_Town_largest 38 rfl) rfl ?_
          refine fg_iorN (fg_ft (pc := 63) tb_Town_largest 39 rfl) ?_
          refine fg_callS (fg_ft (pc := 64) tb_Town_largest 40 rfl) cf_Town_71 (as := [.int (nI (part ||| kept))]) (st := []) rfl rfl (Nat.le_of_ble_eq_true rfl) (Nat.le_refl _) (Nat.le_refl _) (ev_Int_bitCount (s := (part ||| kept)) (hpk) ?_)
          refine fg_istore (fg_ft (pc := 67) tb_Town_largest 41 rfl) (Nat.le_of_ble_eq_true rfl) ?_
          refine fg_iload (fg_ft (pc := 69) tb_Town_largest 42 rfl) rfl ?_
          refine fg_iload (fg_ft (pc := 71) tb_Town_largest 43 rfl) rfl ?_
          refine fg_icmp_leN (tgt := 101) (fg_ft (pc := 73) tb_Town_largest 44 rfl) (by decide) (by have := fg_pc_le (part ||| kept); omega) (by have := fg_pc_le (p ||| kept); omega) (fun c73 => ?_) (fun c73 => ?_)
          · refine fg_iload (fg_ft (pc := 101) tb_Town_largest 60 rfl) rfl ?_
            refine fg_iconst (fg_ft (pc := 103) tb_Town_largest 61 rfl) ic_1 ?_
            refine fg_isub (fg_ft (pc := 104) tb_Town_largest 62 rfl) ?_
            refine fg_iload (fg_ft (pc := 105) tb_Town_largest 63 rfl) rfl ?_
            refine fg_iand (fg_ft (pc := 107) tb_Town_largest 64 rfl) ?_
            refine fg_top fg_nx_I ?_
            refine fg_istore (fg_ft (pc := 108) tb_Town_largest 65 rfl) (Nat.le_of_ble_eq_true rfl) ?_
            refine fg_iinc (fg_ft (pc := 110) tb_Town_largest 66 rfl) rfl (v := nI left) (by rw [ic_m1]; exact pk_m1 _) ?_
            refine fg_goto (tgt := 45) (fg_ft (pc := 113) tb_Town_largest 67 rfl) (by decide) ?_
            exact hk _ (Or.inr ⟨p, ⟨h1.1, Nat.le_of_lt h1.2⟩, h2, rfl, fun q hq hc => by
              rcases Nat.lt_or_ge part q with g | g
              · exact h3 q ⟨hq.1, g⟩ hc
              · have e2 : q = part := by have := hq.2; omega
                subst e2
                first
                  | exact absurd (fg_clo_cl hc) c88
                  | (have := h1.2; omega)⟩) _ rfl
          · refine fg_aloadn (fg_ft (pc := 76) tb_Town_largest 45 rfl) rfl ?_
            refine fg_iload (fg_ft (pc := 77) tb_Town_largest 46 rfl) rfl ?_
            refine fg_iloadn (fg_ft (pc := 79) tb_Town_largest 47 rfl) rfl ?_
            refine fg_iorN (fg_ft (pc := 80) tb_Town_largest 48 rfl) ?_
            refine fg_callV (fg_ft (pc := 81) tb_Town_largest 49 rfl) cf_Town_67 (fg_isOf (tT_lay ht) rfl (fg_lt (tT_lay ht) (by decide))) (as := [.int (nI (part ||| kept))]) (st := []) rfl rfl (Nat.le_of_ble_eq_true rfl) (Nat.le_refl _) (Nat.le_refl _) (ev_Town_close ht hT hok (s := (part ||| kept)) (hpk2) ?_)
            refine fg_iload (fg_ft (pc := 84) tb_Town_largest 50 rfl) rfl ?_
            refine fg_iloadn (fg_ft (pc := 86) tb_Town_largest 51 rfl) rfl ?_
            refine fg_iorN (fg_ft (pc := 87) tb_Town_largest 52 rfl) ?_
            refine fg_icmp_neN (tgt := 101) (fg_ft (pc := 88) tb_Town_largest 53 rfl) (by decide) (by have := fg_clo_lt hok hpk2; omega) (by omega) (fun c88 => ?_) (fun c88 => ?_)
            · refine fg_iload (fg_ft (pc := 101) tb_Town_largest 60 rfl) rfl ?_
              refine fg_iconst (fg_ft (pc := 103) tb_Town_largest 61 rfl) ic_1 ?_
              refine fg_isub (fg_ft (pc := 104) tb_Town_largest 62 rfl) ?_
              refine fg_iload (fg_ft (pc := 105) tb_Town_largest 63 rfl) rfl ?_
              refine fg_iand (fg_ft (pc := 107) tb_Town_largest 64 rfl) ?_
              refine fg_top fg_nx_I ?_
              refine fg_istore (fg_ft (pc := 108) tb_Town_largest 65 rfl) (Nat.le_of_ble_eq_true rfl) ?_
              refine fg_iinc (fg_ft (pc := 110) tb_Town_largest 66 rfl) rfl (v := nI left) (by rw [ic_m1]; exact pk_m1 _) ?_
              refine fg_goto (tgt := 45) (fg_ft (pc := 113) tb_Town_largest 67 rfl) (by decide) ?_
              exact hk _ (Or.inr ⟨p, ⟨h1.1, Nat.le_of_lt h1.2⟩, h2, rfl, fun q hq hc => by
                rcases Nat.lt_or_ge part q with g | g
                · exact h3 q ⟨hq.1, g⟩ hc
                · have e2 : q = part := by have := hq.2; omega
                  subst e2
                  first
                    | exact absurd (fg_clo_cl hc) c88
                    | (have := h1.2; omega)⟩) _ rfl
            · refine fg_iload (fg_ft (pc := 91) tb_Town_largest 54 rfl) rfl ?_
              refine fg_istore (fg_ft (pc := 93) tb_Town_largest 55 rfl) (Nat.le_of_ble_eq_true rfl) ?_
              refine fg_iload (fg_ft (pc := 95) tb_Town_largest 56 rfl) rfl ?_
              refine fg_iloadn (fg_ft (pc := 97) tb_Town_largest 57 rfl) rfl ?_
              refine fg_iorN (fg_ft (pc := 98) tb_Town_largest 58 rfl) ?_
              refine fg_istore (fg_ft (pc := 99) tb_Town_largest 59 rfl) (Nat.le_of_ble_eq_true rfl) ?_
              refine fg_iload (fg_ft (pc := 101) tb_Town_largest 60 rfl) rfl ?_
              refine fg_iconst (fg_ft (pc := 103) tb_Town_largest 61 rfl) ic_1 ?_
              refine fg_isub (fg_ft (pc := 104) tb_Town_largest 62 rfl) ?_
              refine fg_iload (fg_ft (pc := 105) tb_Town_largest 63 rfl) rfl ?_
              refine fg_iand (fg_ft (pc := 107) tb_Town_largest 64 rfl) ?_
              refine fg_top fg_nx_I ?_
              refine fg_istore (fg_ft (pc := 108) tb_Town_largest 65 rfl) (Nat.le_of_ble_eq_true rfl) ?_
              refine fg_iinc (fg_ft (pc := 110) tb_Town_largest 66 rfl) rfl (v := nI left) (by rw [ic_m1]; exact pk_m1 _) ?_
              refine fg_goto (tgt := 45) (fg_ft (pc := 113) tb_Town_largest 67 rfl) (by decide) ?_
              exact hk _ (Or.inr ⟨part, ⟨hp, Nat.le_refl _⟩, (fg_clo_fix hok hpk2).mp c88, rfl, fun q hq hc => by
                rcases Nat.lt_or_ge part q with g | g
                · have := h3 q ⟨hq.1, g⟩ hc
                  omega
                · exact Or.inr ⟨by rw [show q = part by have := hq.2; omega], g⟩⟩) _ rfl
  · refine fg_iconst (fg_ft (pc := 16) tb_Town_largest 12 rfl) ic_m1 ?_
    exact fg_iret (fg_ft (pc := 17) tb_Town_largest 13 rfl) rfl rfl (by rw [show fg_bst T mind gone kept = none from fg_bst_of (fun p hp => c13 (fg_df0.mpr (fg_le_tr hp.2.2.1 (fun i hi => by rw [fg_df_bit]; have h1 := hp.1 i hi; have h2 := congrArg (fun z => Nat.testBit z i) hp.2.1; simp only [Nat.testBit_and, Nat.zero_testBit, hi, Bool.true_and] at h2; rw [h1, h2]; rfl))))] at hQ; exact hQ)
