theorem fg_subneg {a b : Nat} (ha : a < 2 ^ 30) (hb : b < 2 ^ 30) : nI a - nI b < 0 ↔ a < b := by
  rw [Int32.lt_iff_toInt_lt, pk_sub_toInt ha hb, fg_t0]
  omega
/-- what must be in each of them -/
def fg_must (T : Nat → Nat) (S : fg_H3) (how p k pool j m : Nat) : Prop := ∀ i, m.testBit i = true ↔ (i < j ∧ pool.testBit i = true ∧ ¬ fg_kA T S how p k (fg_df pool (2 ^ i)))
theorem fg_must_le {T : Nat → Nat} {S : fg_H3} {how p k pool j m : Nat} (h : fg_must T S how p k pool j m) : fg_le m pool := fun i hi => ((h i).mp hi).2.1
theorem fg_must_1 {T : Nat → Nat} {S : fg_H3} {how p k pool j m : Nat} (h : fg_must T S how p k pool j m) (hb : pool.testBit j = true) (hk : ¬ fg_kA T S how p k (fg_df pool (2 ^ j))) : fg_must T S how p k pool (j + 1) (m ||| 2 ^ j) := by
  intro i
  rw [Nat.testBit_or]
  rcases Nat.decEq i j with e | e
  · rw [Nat.testBit_two_pow_of_ne (Ne.symm e), Bool.or_false, h i]
    exact ⟨fun g => ⟨by omega, g.2⟩, fun g => ⟨by omega, g.2⟩⟩
  · subst e
    rw [Nat.testBit_two_pow_self, Bool.or_true]
    exact ⟨fun _ => ⟨by omega, hb, hk⟩, fun _ => rfl⟩
theorem fg_must_0 {T : Nat → Nat} {S : fg_H3} {how p k pool j m : Nat} (h : fg_must T S how p k pool j m) (hn : ¬ (pool.testBit j = true ∧ ¬ fg_kA T S how p k (fg_df pool (2 ^ j)))) : fg_must T S how p k pool (j + 1) m := by
  intro i
  rw [h i]
  refine ⟨fun g => ⟨by omega, g.2⟩, fun g => ⟨?_, g.2⟩⟩
  rcases Nat.decEq i j with e | e
  · omega
  · subst e; exact absurd g.2 hn
theorem fg_must_in {T : Nat → Nat} (hok : fg_ok T) {S : fg_H3} (H : fg_zs T S) {how p k pool j m q : Nat} (hp : p < T 2) (h : fg_must T S how p k pool j m) (hq : fg_le q pool) (hk : fg_kA T S how p k q) : fg_le m q := by
  intro i hi
  obtain ⟨h1, h2, h3⟩ := (h i).mp hi
  cases hb : q.testBit i
  · refine absurd (fg_kA_mono hok H hp (fun l hl => ?_) hk) h3
    rw [fg_df_bit, hq l hl]
    rcases Nat.decEq i l with e | e
    · rw [Nat.testBit_two_pow_of_ne e]; rfl
    · subst e; rw [hb] at hl; cases hl
  · rfl
def fg_wI2 (T : Nat → Nat) (S : fg_H3) (how p k pool must : Nat) (X : Nat → Prop) (best : Nat) : Prop := fg_le best pool ∧ fg_kA T S how p k best ∧ ∀ q, X q → fg_kA T S how p k (must ||| q) → fg_pc best < fg_pc (must ||| q) ∨ (fg_pc best = fg_pc (must ||| q) ∧ best ≤ must ||| q)
theorem fg_wI2_end {T : Nat → Nat} (hok : fg_ok T) {S : fg_H3} (H : fg_zs T S) {how p k pool must j best : Nat} (hp : p < T 2) (hm : fg_must T S how p k pool j must) (h : fg_wI2 T S how p k pool must (fun q => fg_le q (fg_df pool must)) best) : fg_min (fun s => fg_le s pool ∧ fg_kA T S how p k s) = some best := by
  refine fg_min_of ⟨⟨h.1, h.2.1⟩, fun q hq => ?_⟩
  have hi := fg_must_in hok H hp hm hq.1 hq.2
  have e : must ||| fg_df q must = q := by rw [Nat.or_comm]; exact fg_df_or hi
  have g := h.2.2 (fg_df q must) (fun i hi => by
    rw [fg_df_bit] at hi ⊢
    cases hb : q.testBit i
    · rw [hb] at hi; cases hi
    · rw [hb] at hi; rw [hq.1 i hb]; exact hi)
  rw [e] at g
  exact g hq.2
theorem fg_wI2_0 {T : Nat → Nat} {S : fg_H3} {how p k pool must part best : Nat} {free : Nat} (h : fg_wI2 T S how p k pool must (fun q => fg_le q free ∧ part < q) best) (hn : fg_pc best < fg_pc (must ||| part) ∨ ¬ fg_kA T S how p k (must ||| part)) : fg_wI2 T S how p k pool must (fun q => fg_le q free ∧ part ≤ q) best := by
  refine ⟨h.1, h.2.1, fun q hq hk => ?_⟩
  rcases Nat.lt_or_ge part q with g | g
  · exact h.2.2 q ⟨hq.1, g⟩ hk
  · obtain rfl : q = part := by have := hq.2; omega
    exact hn.elim Or.inl (fun hh => absurd hk hh)
theorem fg_wI2_1 {T : Nat → Nat} {S : fg_H3} {how p k pool must part best : Nat} (hm : fg_le must pool) (hp : fg_le part (fg_df pool must)) (h : fg_wI2 T S how p k pool must (fun q => fg_le q (fg_df pool must) ∧ part < q) best) (hn : ¬ fg_pc best < fg_pc (must ||| part)) (hk : fg_kA T S how p k (must ||| part)) : fg_wI2 T S how p k pool must (fun q => fg_le q (fg_df pool must) ∧ part ≤ q) (must ||| part) := by
  refine ⟨fg_or_le hm (fg_le_tr hp (fg_df_le _ _)), hk, fun q hq hkq => ?_⟩
  have e : must ||| part ≤ must ||| q := by
    rw [Nat.or_comm must, Nat.or_comm must]
    exact fg_or_mono hp hq.1 (fg_df_dis _ _) hq.2
  rcases Nat.lt_or_ge part q with g | g
  · rcases h.2.2 q ⟨hq.1, g⟩ hkq with a | a
    · exact Or.inl (by omega)
    · rcases Nat.lt_or_ge (fg_pc (must ||| part)) (fg_pc (must ||| q)) with b | b
      · exact Or.inl b
      · exact Or.inr ⟨by omega, e⟩
  · obtain rfl : q = part := by have := hq.2; omega
    exact Or.inr ⟨rfl, Nat.le_refl _⟩
theorem ev_Fb_fewestThatKeepAway {E : fg_E} {d : Nat} {μ : Nat → Nat → Int32} {R : fg_T4} {Q : Option Value → fg_M → Prop} {t : Nat} {T : Nat → Nat} (ht : fg_isT t) (hT : fg_TW μ t T) (hok : fg_ok T) {h : Nat} {Z : fg_Z} {hv lv : Nat → Nat} {o : Option Nat × Nat × Nat} (hft : fg_rho R 273 0 = some t) (hF : fg_FZ μ 273 T h Z hv lv o) (hz : fg_zok T h Z hv) {how p k pool : Nat} (hhow : how ≤ 2) (hpT : p < T 2) (hk31 : k < 2 ^ 31) (hpool : pool < 4096) (hQ : ∀ μ' : Nat → Nat → Int32, fg_agF 277 μ μ' → Q (some (.int (fg_o (fg_min (fun s => fg_le s pool ∧ fg_kA T (h, Z, hv) how p k s))))) (μ', fg_rho (R.1, some t, R.2.2.1, R.2.2.2), 304)) : fg_Ev E yy_Fb_fewestThatKeepAway (d + 8) [.ref 100, .ref 273, .int (nI how), .int (nI p), .int (nI k), .int (nI pool)] (μ, fg_rho R, 304) 304 Q := by
  have hb1 := hok.2.1
  refine fg_intro (by decide +kernel) (Nat.le_of_ble_eq_true rfl) (fg_okAs rfl) (Nat.le_refl _) ?_
  refine fg_aloadn (fg_ft (pc := 0) tb_Fb_fewestThatKeepAway 0 rfl) rfl ?_
  refine fg_aloadn (fg_ft (pc := 1) tb_Fb_fewestThatKeepAway 1 rfl) rfl ?_
  refine fg_iloadn (fg_ft (pc := 2) tb_Fb_fewestThatKeepAway 2 rfl) rfl ?_
  refine fg_iloadn (fg_ft (pc := 3) tb_Fb_fewestThatKeepAway 3 rfl) rfl ?_
  refine fg_iload (fg_ft (pc := 4) tb_Fb_fewestThatKeepAway 4 rfl) rfl ?_
  refine fg_iload (fg_ft (pc := 6) tb_Fb_fewestThatKeepAway 5 rfl) rfl ?_
  refine fg_callV (fg_ft (pc := 8) tb_Fb_fewestThatKeepAway 6 rfl) cf_Fb_337 (fg_isOf ly_100 rfl (fg_lt ly_100 (by decide))) (as := [.ref 273, .int (nI how), .int (nI p), .int (nI k), .int (nI pool)]) (st := []) rfl rfl (Nat.le_of_ble_eq_true rfl) (Nat.le_refl _) (Nat.le_refl _) (ev_Fb_keepsAway ht hT hok hft hF hz (how := how) (p := p) (k := k) (set := pool) hhow hpT hk31 (by omega) ?_)
  intro μk1 hk1
  show fg_wp _ _ _ _ _ _ _ _ _ (μk1, fg_rho (R.1, some t, R.2.2.1, R.2.2.2), 304)
  refine fg_ifB_ne (tgt := 16) (fg_ft (pc := 11) tb_Fb_fewestThatKeepAway 7 rfl) (by decide) (fun c11 => ?_) (fun c11 => ?_)
  · refine fg_iconst (fg_ft (pc := 16) tb_Fb_fewestThatKeepAway 10 rfl) ic_0 ?_
    refine fg_istore (fg_ft (pc := 17) tb_Fb_fewestThatKeepAway 11 rfl) (Nat.le_of_ble_eq_true rfl) ?_
    refine fg_iconst (fg_ft (pc := 19) tb_Fb_fewestThatKeepAway 12 rfl) ic_0 ?_
    refine fg_istore (fg_ft (pc := 20) tb_Fb_fewestThatKeepAway 13 rfl) (Nat.le_of_ble_eq_true rfl) ?_
    have loop : ∀ (m j must : Nat) (ν : Nat → Nat → Int32) (v8 v9 v10 v11 v12 : Value), 12 - j < m → j ≤ 12 → fg_agF 277 μ ν → fg_must T (h, Z, hv) how p k pool j must → fg_wp E yy_Fb_fewestThatKeepAway (d + 8) 304 304 Q 22 [.ref 100, .ref 273, .int (nI how), .int (nI p), .int (nI k), .int (nI pool), .int (nI must), .int (nI j), v8, v9, v10, v11, v12] [] (ν, fg_rho (R.1, some t, R.2.2.1, R.2.2.2), 304) := by
      intro m
      induction m with
      | zero => intro j must ν v8 v9 v10 v11 v12 h; exact absurd h (Nat.not_lt_zero _)
      | succ m ih =>
        intro j must ν v8 v9 v10 v11 v12 hm hj hag hmu
        have hml := fg_le_le (fg_must_le hmu)
        have hdf : fg_df pool (2 ^ j) < 4096 := Nat.lt_of_le_of_lt (fg_le_le (fg_df_le _ _)) hpool
        refine fg_iload (fg_ft (pc := 22) tb_Fb_fewestThatKeepAway 14 rfl) rfl ?_
        refine fg_bipush (fg_ft (pc := 24) tb_Fb_fewestThatKeepAway 15 rfl) ib_12 ?_
        refine fg_icmp_geN (tgt := 75) (fg_ft (pc := 26) tb_Fb_fewestThatKeepAway 16 rfl) (by decide) (by omega) (by decide) (fun c26 => ?_) (fun c26 => ?_)
        · refine fg_iload (fg_ft (pc := 75) tb_Fb_fewestThatKeepAway 43 rfl) rfl ?_
          refine fg_iload (fg_ft (pc := 77) tb_Fb_fewestThatKeepAway 44 rfl) rfl ?_
          refine fg_iconst (fg_ft (pc := 79) tb_Fb_fewestThatKeepAway 45 rfl) ic_m1 ?_
          refine fg_ixor (fg_ft (pc := 80) tb_Fb_fewestThatKeepAway 46 rfl) ?_
          refine fg_iandD (fg_ft (pc := 81) tb_Fb_fewestThatKeepAway 47 rfl) ?_
          refine fg_istore (fg_ft (pc := 82) tb_Fb_fewestThatKeepAway 48 rfl) (Nat.le_of_ble_eq_true rfl) ?_
          refine fg_iload (fg_ft (pc := 84) tb_Fb_fewestThatKeepAway 49 rfl) rfl ?_
          refine fg_istore (fg_ft (pc := 86) tb_Fb_fewestThatKeepAway 50 rfl) (Nat.le_of_ble_eq_true rfl) ?_
          refine fg_iload (fg_ft (pc := 88) tb_Fb_fewestThatKeepAway 51 rfl) rfl ?_
          refine fg_istore (fg_ft (pc := 90) tb_Fb_fewestThatKeepAway 52 rfl) (Nat.le_of_ble_eq_true rfl) ?_
          refine fg_iconst (fg_ft (pc := 92) tb_Fb_fewestThatKeepAway 53 rfl) ic_1 ?_
          refine fg_iload (fg_ft (pc := 93) tb_Fb_fewestThatKeepAway 54 rfl) rfl ?_
          refine fg_callS (fg_ft (pc := 95) tb_Fb_fewestThatKeepAway 55 rfl) cf_Fb_292 (as := [.int (nI (fg_df pool must))]) (st := [.int (nI 1)]) rfl rfl (Nat.le_of_ble_eq_true rfl) (Nat.le_refl _) (Nat.le_refl _) (ev_Int_bitCount (s := (fg_df pool must)) (Nat.lt_of_le_of_lt (fg_le_le (fg_df_le _ _)) hpool) ?_)
          refine fg_ishl1 (fg_ft (pc := 98) tb_Fb_fewestThatKeepAway 56 rfl) (by have := fg_pc_le (fg_df pool must); omega) ?_
          refine fg_istore (fg_ft (pc := 99) tb_Fb_fewestThatKeepAway 57 rfl) (Nat.le_of_ble_eq_true rfl) ?_
          have hfr : (fg_df pool must) < 4096 := Nat.lt_of_le_of_lt (fg_le_le (fg_df_le _ _)) hpool
          refine fg_descLoop (free := (fg_df pool must)) hfr (fun (left part best : Nat) => ∀ (ν : Nat → Nat → Int32) (w11 w12 : Value), fg_agF 277 μ ν → fg_wp E yy_Fb_fewestThatKeepAway (d + 8) 304 304 Q 101 [.ref 100, .ref 273, .int (nI how), .int (nI p), .int (nI k), .int (nI pool), .int (nI must), .int (nI (fg_df pool must)), .int (nI best), .int (nI part), .int (nI left), w11, w12] [] (ν, fg_rho (R.1, some t, R.2.2.1, R.2.2.2), 304)) (fg_wI2 T (h, Z, hv) how p k pool must) ?_ ?_ pool ⟨fg_le_rf _, c11, fun _ hh => hh.elim⟩ ν _ _ hag
          · intro part best hI ν w11 w12 hag2
            refine fg_iload (fg_ft (pc := 101) tb_Fb_fewestThatKeepAway 58 rfl) rfl ?_
            refine fg_if_leN (tgt := 164) (fg_ft (pc := 103) tb_Fb_fewestThatKeepAway 59 rfl) (by decide) (by decide) (fun c103 => ?_) (fun c103 => (absurd c103 (by decide)))
            refine fg_iload (fg_ft (pc := 164) tb_Fb_fewestThatKeepAway 90 rfl) rfl ?_
            exact fg_iret (fg_ft (pc := 166) tb_Fb_fewestThatKeepAway 91 rfl) rfl rfl (by have q := hQ _ hag2; rw [fg_wI2_end hok hz hpT hmu hI] at q; exact q)
          · intro left part best hl hp hI hk ν w11 w12 hag2
            have hbl := fg_le_le hI.1
            have hp12 := fg_pc_le part
            have hsl : must ||| part < 4096 := Nat.lt_of_le_of_lt (fg_le_le (fg_or_le (fg_must_le hmu) (fg_le_tr hp (fg_df_le _ _)))) hpool
            have hq1 := fg_pc_le best
            have hq2 := fg_pc_le (must ||| part)
            refine fg_iload (fg_ft (pc := 101) tb_Fb_fewestThatKeepAway 58 rfl) rfl ?_
            refine fg_if_leN (tgt := 164) (fg_ft (pc := 103) tb_Fb_fewestThatKeepAway 59 rfl) (by decide) (by omega) (fun c103 => (absurd c103 (by omega))) (fun c103 => ?_)
            refine fg_iload (fg_ft (pc := 106) tb_Fb_fewestThatKeepAway 60 rfl) rfl ?_
            refine fg_iload (fg_ft (pc := 108) tb_Fb_fewestThatKeepAway 61 rfl) rfl ?_
            refine fg_iorN (fg_ft (pc := 110) tb_Fb_fewestThatKeepAway 62 rfl) ?_
            refine fg_istore (fg_ft (pc := 111) tb_Fb_fewestThatKeepAway 63 rfl) (Nat.le_of_ble_eq_true rfl) ?_
            refine fg_iload (fg_ft (pc := 113) tb_Fb_fewestThatKeepAway 64 rfl) rfl ?_
            refine fg_callS (fg_ft (pc := 115) tb_Fb_fewestThatKeepAway 65 rfl) cf_Fb_292 (as := [.int (nI best)]) (st := []) rfl rfl (Nat.le_of_ble_eq_true rfl) (Nat.le_refl _) (Nat.le_refl _) (ev_Int_bitCount (s := best) (by omega) ?_)
            refine fg_iload (fg_ft (pc := 118) tb_Fb_fewestThatKeepAway 66 rfl) rfl ?_
            refine fg_callS (fg_ft (pc := 120) tb_Fb_fewestThatKeepAway 67 rfl) cf_Fb_292 (as := [.int (nI (must ||| part))]) (st := [.int (nI (fg_pc best))]) rfl rfl (Nat.le_of_ble_eq_true rfl) (Nat.le_refl _) (Nat.le_refl _) (ev_Int_bitCount (s := (must ||| part)) (by omega) ?_)
            refine fg_isub (fg_ft (pc := 123) tb_Fb_fewestThatKeepAway 68 rfl) ?_
            refine fg_istore (fg_ft (pc := 124) tb_Fb_fewestThatKeepAway 69 rfl) (Nat.le_of_ble_eq_true rfl) ?_
            refine fg_iload (fg_ft (pc := 126) tb_Fb_fewestThatKeepAway 70 rfl) rfl ?_
            refine fg_if_lt (tgt := 149) (fg_ft (pc := 128) tb_Fb_fewestThatKeepAway 71 rfl) (by decide) (fun c128 => ?_) (fun c128 => ?_)
            · refine fg_iload (fg_ft (pc := 149) tb_Fb_fewestThatKeepAway 82 rfl) rfl ?_
              refine fg_iconst (fg_ft (pc := 151) tb_Fb_fewestThatKeepAway 83 rfl) ic_1 ?_
              refine fg_isub (fg_ft (pc := 152) tb_Fb_fewestThatKeepAway 84 rfl) ?_
              refine fg_iload (fg_ft (pc := 153) tb_Fb_fewestThatKeepAway 85 rfl) rfl ?_
              refine fg_iand (fg_ft (pc := 155) tb_Fb_fewestThatKeepAway 86 rfl) ?_
              refine fg_top fg_nx_I ?_
              refine fg_istore (fg_ft (pc := 156) tb_Fb_fewestThatKeepAway 87 rfl) (Nat.le_of_ble_eq_true rfl) ?_
              refine fg_iinc (fg_ft (pc := 158) tb_Fb_fewestThatKeepAway 88 rfl) rfl (v := nI left) (by rw [ic_m1]; exact pk_m1 _) ?_
              refine fg_goto (tgt := 101) (fg_ft (pc := 161) tb_Fb_fewestThatKeepAway 89 rfl) (by decide) ?_
              exact hk _ (fg_wI2_0 hI (by first | exact Or.inl ((fg_subneg (by omega) (by omega)).mp c128) | exact Or.inr c142)) _ _ _ hag2
            · refine fg_aloadn (fg_ft (pc := 131) tb_Fb_fewestThatKeepAway 72 rfl) rfl ?_
              refine fg_aloadn (fg_ft (pc := 132) tb_Fb_fewestThatKeepAway 73 rfl) rfl ?_
              refine fg_iloadn (fg_ft (pc := 133) tb_Fb_fewestThatKeepAway 74 rfl) rfl ?_
              refine fg_iloadn (fg_ft (pc := 134) tb_Fb_fewestThatKeepAway 75 rfl) rfl ?_
              refine fg_iload (fg_ft (pc := 135) tb_Fb_fewestThatKeepAway 76 rfl) rfl ?_
              refine fg_iload (fg_ft (pc := 137) tb_Fb_fewestThatKeepAway 77 rfl) rfl ?_
              refine fg_callV (fg_ft (pc := 139) tb_Fb_fewestThatKeepAway 78 rfl) cf_Fb_337 (fg_isOf ly_100 rfl (fg_lt ly_100 (by decide))) (as := [.ref 273, .int (nI how), .int (nI p), .int (nI k), .int (nI (must ||| part))]) (st := []) rfl rfl (Nat.le_of_ble_eq_true rfl) (Nat.le_refl _) (Nat.le_refl _) (ev_Fb_keepsAway (R := (R.1, some t, R.2.2.1, R.2.2.2)) ht (fg_TWp.agF ht (Or.inr rfl) hT hag2) hok (show fg_rho (R.1, some t, R.2.2.1, R.2.2.2) 273 0 = some t from hft) (fg_FZ.ag7 hF hag2) hz (how := how) (p := p) (k := k) (set := (must ||| part)) hhow hpT hk31 (by omega) ?_)
              intro μk2 hk2
              show fg_wp _ _ _ _ _ _ _ _ _ (μk2, fg_rho (R.1, some t, R.2.2.1, R.2.2.2), 304)
              refine fg_ifB_eq (tgt := 149) (fg_ft (pc := 142) tb_Fb_fewestThatKeepAway 79 rfl) (by decide) (fun c142 => ?_) (fun c142 => ?_)
              · refine fg_iload (fg_ft (pc := 149) tb_Fb_fewestThatKeepAway 82 rfl) rfl ?_
                refine fg_iconst (fg_ft (pc := 151) tb_Fb_fewestThatKeepAway 83 rfl) ic_1 ?_
                refine fg_isub (fg_ft (pc := 152) tb_Fb_fewestThatKeepAway 84 rfl) ?_
                refine fg_iload (fg_ft (pc := 153) tb_Fb_fewestThatKeepAway 85 rfl) rfl ?_
                refine fg_iand (fg_ft (pc := 155) tb_Fb_fewestThatKeepAway 86 rfl) ?_
                refine fg_top fg_nx_I ?_
                refine fg_istore (fg_ft (pc := 156) tb_Fb_fewestThatKeepAway 87 rfl) (Nat.le_of_ble_eq_true rfl) ?_
                refine fg_iinc (fg_ft (pc := 158) tb_Fb_fewestThatKeepAway 88 rfl) rfl (v := nI left) (by rw [ic_m1]; exact pk_m1 _) ?_
                refine fg_goto (tgt := 101) (fg_ft (pc := 161) tb_Fb_fewestThatKeepAway 89 rfl) (by decide) ?_
                exact hk _ (fg_wI2_0 hI (by first | exact Or.inl ((fg_subneg (by omega) (by omega)).mp c128) | exact Or.inr c142)) _ _ _ (fg_agF_tr hag2 hk2)
              · refine fg_iload (fg_ft (pc := 145) tb_Fb_fewestThatKeepAway 80 rfl) rfl ?_
                refine fg_istore (fg_ft (pc := 147) tb_Fb_fewestThatKeepAway 81 rfl) (Nat.le_of_ble_eq_true rfl) ?_
                refine fg_iload (fg_ft (pc := 149) tb_Fb_fewestThatKeepAway 82 rfl) rfl ?_
                refine fg_iconst (fg_ft (pc := 151) tb_Fb_fewestThatKeepAway 83 rfl) ic_1 ?_
                refine fg_isub (fg_ft (pc := 152) tb_Fb_fewestThatKeepAway 84 rfl) ?_
                refine fg_iload (fg_ft (pc := 153) tb_Fb_fewestThatKeepAway 85 rfl) rfl ?_
                refine fg_iand (fg_ft (pc := 155) tb_Fb_fewestThatKeepAway 86 rfl) ?_
                refine fg_top fg_nx_I ?_
                refine fg_istore (fg_ft (pc := 156) tb_Fb_fewestThatKeepAway 87 rfl) (Nat.le_of_ble_eq_true rfl) ?_
                refine fg_iinc (fg_ft (pc := 158) tb_Fb_fewestThatKeepAway 88 rfl) rfl (v := nI left) (by rw [ic_m1]; exact pk_m1 _) ?_
                refine fg_goto (tgt := 101) (fg_ft (pc := 161) tb_Fb_fewestThatKeepAway 89 rfl) (by decide) ?_
                exact hk _ (fg_wI2_1 (fg_must_le hmu) hp hI (mt (fg_subneg (by omega) (by omega)).mpr c128) c142) _ _ _ (fg_agF_tr hag2 hk2)
        · refine fg_iload (fg_ft (pc := 29) tb_Fb_fewestThatKeepAway 17 rfl) rfl ?_
          refine fg_iload (fg_ft (pc := 31) tb_Fb_fewestThatKeepAway 18 rfl) rfl ?_
          refine fg_callS (fg_ft (pc := 33) tb_Fb_fewestThatKeepAway 19 rfl) cf_Fb_167 (as := [.int (nI pool), .int (nI j)]) (st := []) rfl rfl (Nat.le_of_ble_eq_true rfl) (Nat.le_refl _) (Nat.le_refl _) (ev_Fb_isIn (s := pool) (k := j) (by omega) (by omega) ?_)
          refine fg_ifB_eq (tgt := 69) (fg_ft (pc := 36) tb_Fb_fewestThatKeepAway 20 rfl) (by decide) (fun c36 => ?_) (fun c36 => ?_)
          · refine fg_iincN (fg_ft (pc := 69) tb_Fb_fewestThatKeepAway 41 rfl) rfl ic_1 rfl ?_
            refine fg_goto (tgt := 22) (fg_ft (pc := 72) tb_Fb_fewestThatKeepAway 42 rfl) (by decide) ?_
            exact ih (j + 1) _ _ _ _ _ _ _ (by omega) (by omega) hag (fg_must_0 hmu (fun hh => by first | exact c36 hh.1 | exact hh.2 c57))
          · refine fg_aloadn (fg_ft (pc := 39) tb_Fb_fewestThatKeepAway 21 rfl) rfl ?_
            refine fg_aloadn (fg_ft (pc := 40) tb_Fb_fewestThatKeepAway 22 rfl) rfl ?_
            refine fg_iloadn (fg_ft (pc := 41) tb_Fb_fewestThatKeepAway 23 rfl) rfl ?_
            refine fg_iloadn (fg_ft (pc := 42) tb_Fb_fewestThatKeepAway 24 rfl) rfl ?_
            refine fg_iload (fg_ft (pc := 43) tb_Fb_fewestThatKeepAway 25 rfl) rfl ?_
            refine fg_iload (fg_ft (pc := 45) tb_Fb_fewestThatKeepAway 26 rfl) rfl ?_
            refine fg_iconst (fg_ft (pc := 47) tb_Fb_fewestThatKeepAway 27 rfl) ic_1 ?_
            refine fg_iload (fg_ft (pc := 48) tb_Fb_fewestThatKeepAway 28 rfl) rfl ?_
            refine fg_ishl1 (fg_ft (pc := 50) tb_Fb_fewestThatKeepAway 29 rfl) (by omega) ?_
            refine fg_iconst (fg_ft (pc := 51) tb_Fb_fewestThatKeepAway 30 rfl) ic_m1 ?_
            refine fg_ixor (fg_ft (pc := 52) tb_Fb_fewestThatKeepAway 31 rfl) ?_
            refine fg_iandD (fg_ft (pc := 53) tb_Fb_fewestThatKeepAway 32 rfl) ?_
            refine fg_callV (fg_ft (pc := 54) tb_Fb_fewestThatKeepAway 33 rfl) cf_Fb_337 (fg_isOf ly_100 rfl (fg_lt ly_100 (by decide))) (as := [.ref 273, .int (nI how), .int (nI p), .int (nI k), .int (nI (fg_df pool (2 ^ j)))]) (st := []) rfl rfl (Nat.le_of_ble_eq_true rfl) (Nat.le_refl _) (Nat.le_refl _) (ev_Fb_keepsAway (R := (R.1, some t, R.2.2.1, R.2.2.2)) ht (fg_TWp.agF ht (Or.inr rfl) hT hag) hok (show fg_rho (R.1, some t, R.2.2.1, R.2.2.2) 273 0 = some t from hft) (fg_FZ.ag7 hF hag) hz (how := how) (p := p) (k := k) (set := (fg_df pool (2 ^ j))) hhow hpT hk31 (by omega) ?_)
            intro μk3 hk3
            show fg_wp _ _ _ _ _ _ _ _ _ (μk3, fg_rho (R.1, some t, R.2.2.1, R.2.2.2), 304)
            refine fg_ifB_ne (tgt := 69) (fg_ft (pc := 57) tb_Fb_fewestThatKeepAway 34 rfl) (by decide) (fun c57 => ?_) (fun c57 => ?_)
            · refine fg_iincN (fg_ft (pc := 69) tb_Fb_fewestThatKeepAway 41 rfl) rfl ic_1 rfl ?_
              refine fg_goto (tgt := 22) (fg_ft (pc := 72) tb_Fb_fewestThatKeepAway 42 rfl) (by decide) ?_
              exact ih (j + 1) _ _ _ _ _ _ _ (by omega) (by omega) (fg_agF_tr hag hk3) (fg_must_0 hmu (fun hh => by first | exact c36 hh.1 | exact hh.2 c57))
            · refine fg_iload (fg_ft (pc := 60) tb_Fb_fewestThatKeepAway 35 rfl) rfl ?_
              refine fg_iconst (fg_ft (pc := 62) tb_Fb_fewestThatKeepAway 36 rfl) ic_1 ?_
              refine fg_iload (fg_ft (pc := 63) tb_Fb_fewestThatKeepAway 37 rfl) rfl ?_
              refine fg_ishl1 (fg_ft (pc := 65) tb_Fb_fewestThatKeepAway 38 rfl) (by omega) ?_
              refine fg_iorN (fg_ft (pc := 66) tb_Fb_fewestThatKeepAway 39 rfl) ?_
              refine fg_istore (fg_ft (pc := 67) tb_Fb_fewestThatKeepAway 40 rfl) (Nat.le_of_ble_eq_true rfl) ?_
              refine fg_iincN (fg_ft (pc := 69) tb_Fb_fewestThatKeepAway 41 rfl) rfl ic_1 rfl ?_
              refine fg_goto (tgt := 22) (fg_ft (pc := 72) tb_Fb_fewestThatKeepAway 42 rfl) (by decide) ?_
              exact ih (j + 1) _ _ _ _ _ _ _ (by omega) (by omega) (fg_agF_tr hag hk3) (fg_must_1 hmu c36 c57)
    exact loop 13 0 0 _ _ _ _ _ _ (by decide) (by decide) hk1 (fun i => by rw [Nat.zero_testBit]; exact ⟨(fun hh => Bool.noConfusion hh), (fun hh => absurd hh.1 (Nat.not_lt_zero _))⟩)
  · refine fg_iconst (fg_ft (pc := 14) tb_Fb_fewestThatKeepAway 8 rfl) ic_m1 ?_
    exact fg_iret (fg_ft (pc := 15) tb_Fb_fewestThatKeepAway 9 rfl) rfl rfl (by have q := hQ _ hk1; rw [show fg_min (fun s => fg_le s pool ∧ fg_kA T (h, Z, hv) how p k s) = none from fg_min_of (fun q hq => absurd (fg_kA_mono hok hz hpT hq.1 hq.2) c11)] at q; exact q)
noncomputable def an_pact (A : fg_Tl) (town day n person fact : Nat) : Int32 := fg_g1 A town day n person (-1) (fun T S _ => if (S.2.1.1 person).testBit fact = true then fg_o (fg_min (fun s => fg_le s (fg_df (fg_whoL S.2.1.1 fact (T 2)) (2 ^ person)) ∧ fg_kA T S 2 person fact s)) else -1)
def fg_sth (T : Nat → Nat) (S : fg_H3) (person : Nat) : Nat := fg_df (T (42 + 3 * person)) (2 <<< S.1 - 1)
noncomputable def an_stay (A : fg_Tl) (town day n person fact : Nat) : Int32 := fg_g1 A town day n person (-1) (fun T S _ => if fact < T 0 then fg_o (fg_min (fun s => fg_le s (fg_sth T S person) ∧ fg_kA T S 0 person fact s)) else -1)
noncomputable def an_shut (A : fg_Tl) (town day n person fact : Nat) : Int32 := fg_g1 A town day n person (-1) (fun T S _ => if fact < T 0 then fg_o (fg_min (fun s => fg_le s (fg_mtc T S.1 (T 4)) ∧ fg_kA T S 1 person fact s)) else -1)
theorem fg_whoL_lt {mv : Nat → Nat} {c : Nat} : ∀ n, fg_whoL mv c n < 2 ^ n := by
  intro n
  induction n with
  | zero => exact Nat.one_pos
  | succ n ih =>
    have h1 : 2 ^ n < 2 ^ (n + 1) := Nat.pow_lt_pow_right (by decide) (by omega)
    refine fg_or_lt (by omega) ?_
    split
    · exact h1
    · exact Nat.two_pow_pos _
theorem fg_mtc_lt {T : Nat → Nat} {h : Nat} : ∀ n, fg_mtc T h n < 2 ^ n := by
  intro n
  induction n with
  | zero => exact Nat.one_pos
  | succ n ih =>
    have h1 : 2 ^ n < 2 ^ (n + 1) := Nat.pow_lt_pow_right (by decide) (by omega)
    refine fg_or_lt (by omega) ?_
    split
    · exact h1
    · exact Nat.two_pow_pos _
theorem fg_p12 {n : Nat} (h : n ≤ 12) : 2 ^ n ≤ 4096 := Nat.pow_le_pow_right (n := 2) (j := 12) (by decide) h
/-- the hours to come: and with minus a power of two -/
theorem fg_hrs {a h : Nat} (ha : a < 1024) (hh : h ≤ 9) : nI a &&& -(nI (2 <<< h)) = nI (fg_df a (2 <<< h - 1)) := by
  have e : -(nI (2 <<< h)) = nI (2 <<< h - 1) ^^^ (-1) := by
    rcases (show h = 0 ∨ h = 1 ∨ h = 2 ∨ h = 3 ∨ h = 4 ∨ h = 5 ∨ h = 6 ∨ h = 7 ∨ h = 8 ∨ h = 9 by omega) with rfl | rfl | rfl | rfl | rfl | rfl | rfl | rfl | rfl | rfl <;> decide
  rw [e, nI_df]
theorem ev_Fb_pact {E : fg_E} {d : Nat} {μ : Nat → Nat → Int32} {R : fg_T4} {Q : Option Value → fg_M → Prop} {A : fg_Tl} (hA : fg_TL μ 101 A) {town day n person fact : Nat} (htown : town < 2 ^ 32) (hday : day < 2 ^ 32) (hn : n < 2 ^ 32) (hperson : person < 2 ^ 32) (hfact : fact < 2 ^ 32) (hQ : ∀ (μ' : Nat → Nat → Int32) (R' : fg_T4), fg_agQ μ μ' → Q (some (.int (an_pact A town day n person fact))) (μ', fg_rho R', 304)) : fg_Ev E yy_Fb_pact (d + 12) [.ref 100, .int (nI town), .int (nI day), .int (nI n), .int (nI person), .int (nI fact)] (μ, fg_rho R, 304) 304 Q := by
  have ht2 := hA.2.2.2.1.2
  have hd3 := hA.2.2.2.2.1.2
  refine fg_intro (by decide +kernel) (Nat.le_of_ble_eq_true rfl) (fg_okAs rfl) (Nat.le_refl _) ?_
  refine fg_aloadn (fg_ft (pc := 0) tb_Fb_pact 0 rfl) rfl ?_
  refine fg_iloadn (fg_ft (pc := 1) tb_Fb_pact 1 rfl) rfl ?_
  refine fg_iloadn (fg_ft (pc := 2) tb_Fb_pact 2 rfl) rfl ?_
  refine fg_iloadn (fg_ft (pc := 3) tb_Fb_pact 3 rfl) rfl ?_
  refine fg_iload (fg_ft (pc := 4) tb_Fb_pact 4 rfl) rfl ?_
  refine fg_callV (fg_ft (pc := 6) tb_Fb_pact 5 rfl) cf_Fb_221 (fg_isOf ly_100 rfl (fg_lt ly_100 (by decide))) (as := [.int (nI town), .int (nI day), .int (nI n), .int (nI person)]) (st := []) rfl rfl (Nat.le_of_ble_eq_true rfl) (Nat.le_refl _) (Nat.le_refl _) (ev_Fb_findOne hA htown hday hn hperson (fun n4 μ1 R1 ho1 hR1 => ?_) (fun S lv y4 y5 μ1 ho1 hF1 => ?_))
  · refine fg_astoreN (fg_ft (pc := 9) tb_Fb_pact 6 rfl) (Nat.le_of_ble_eq_true rfl) ?_
    refine fg_aloadN (fg_ft (pc := 11) tb_Fb_pact 7 rfl) rfl ?_
    refine fg_ifnull (tgt := 31) (fg_ft (pc := 13) tb_Fb_pact 8 rfl) (by decide) ?_
    refine fg_iconst (fg_ft (pc := 31) tb_Fb_pact 15 rfl) ic_m1 ?_
    exact fg_iret (fg_ft (pc := 32) tb_Fb_pact 16 rfl) rfl rfl (fg_q (hQ _ R1 (fg_agQ_F (Or.inl rfl) ho1)) (by unfold an_pact; rw [fg_g1_none n4] <;> ((repeat (first | rw [if_pos (by assumption)] | rw [if_neg (by assumption)] | rw [if_pos (by omega)] | rw [if_neg (by omega)] | rw [if_pos (by constructor <;> assumption)] | rw [if_neg (by intro hh; exact absurd hh.1 (by assumption))] | rw [if_neg (by intro hh; exact absurd hh.2 (by assumption))])); (try rfl))))
  · have ytc := fg_fnd_t y4
    have hok := (hA.2.2.2.2.2.1 town ytc).2
    have ht : fg_isT (104 + 14 * town) := fg_isT_told (by omega)
    have hT1 := fg_TL.town hA (Or.inl rfl) ytc ho1
    have hz := fg_fnd_ok hA y4
    have hb0 := hok.1
    have hb1 := hok.2.1
    have hp := hok.p
    have hm2 := hz.2.1 person y5
    have hm0 : S.2.1.1 person < 2 ^ A.ts town 0 := hm2.1
    have hmc : fg_clsd (A.ts town) (S.2.1.1 person) := hm2.2
    have hm10 : S.2.1.1 person < 1024 := by omega
    refine fg_astore (fg_ft (pc := 9) tb_Fb_pact 6 rfl) (Nat.le_of_ble_eq_true rfl) ?_
    refine fg_aload (fg_ft (pc := 11) tb_Fb_pact 7 rfl) rfl ?_
    refine fg_ifnull_r (fg_ft (pc := 13) tb_Fb_pact 8 rfl) ?_
    refine fg_aload (fg_ft (pc := 16) tb_Fb_pact 9 rfl) rfl ?_
    refine fg_iload (fg_ft (pc := 18) tb_Fb_pact 10 rfl) rfl ?_
    refine fg_callV (fg_ft (pc := 20) tb_Fb_pact 11 rfl) cf_Fb_181 (fg_isOf ly_273 rfl (fg_lt ly_273 (by decide))) (as := [.int (nI person)]) (st := []) rfl rfl (Nat.le_of_ble_eq_true rfl) (Nat.le_refl _) (Nat.le_refl _) (ev_Folk_mind ht hT1 hok (Or.inl rfl) rfl hF1 hz (p := person) (by omega) ?_)
    refine fg_iload (fg_ft (pc := 23) tb_Fb_pact 12 rfl) rfl ?_
    refine fg_callS (fg_ft (pc := 25) tb_Fb_pact 13 rfl) cf_Fb_167 (as := [.int (nI (S.2.1.1 person)), .int (nI fact)]) (st := []) rfl rfl (Nat.le_of_ble_eq_true rfl) (Nat.le_refl _) (Nat.le_refl _) (ev_Fb_isInX (s := (S.2.1.1 person)) (k := fact) (by omega) hfact ?_)
    refine fg_ifB_ne (tgt := 33) (fg_ft (pc := 28) tb_Fb_pact 14 rfl) (by decide) (fun c28 => ?_) (fun c28 => ?_)
    · have hfT := fg_bit_lt hm0 c28
      refine fg_aload (fg_ft (pc := 33) tb_Fb_pact 17 rfl) rfl ?_
      refine fg_iload (fg_ft (pc := 35) tb_Fb_pact 18 rfl) rfl ?_
      refine fg_callV (fg_ft (pc := 37) tb_Fb_pact 19 rfl) cf_Fb_239 (fg_isOf ly_273 rfl (fg_lt ly_273 (by decide))) (as := [.int (nI fact)]) (st := []) rfl rfl (Nat.le_of_ble_eq_true rfl) (Nat.le_refl _) (Nat.le_refl _) (ev_Folk_whoHas ht hT1 hok (Or.inl rfl) rfl hF1 hz (c := fact) (by omega) ?_)
      refine fg_iconst (fg_ft (pc := 40) tb_Fb_pact 20 rfl) ic_1 ?_
      refine fg_iload (fg_ft (pc := 41) tb_Fb_pact 21 rfl) rfl ?_
      refine fg_ishl1 (fg_ft (pc := 43) tb_Fb_pact 22 rfl) (by omega) ?_
      refine fg_iconst (fg_ft (pc := 44) tb_Fb_pact 23 rfl) ic_m1 ?_
      refine fg_ixor (fg_ft (pc := 45) tb_Fb_pact 24 rfl) ?_
      refine fg_iandD (fg_ft (pc := 46) tb_Fb_pact 25 rfl) ?_
      refine fg_istore (fg_ft (pc := 47) tb_Fb_pact 26 rfl) (Nat.le_of_ble_eq_true rfl) ?_
      refine fg_aloadn (fg_ft (pc := 49) tb_Fb_pact 27 rfl) rfl ?_
      refine fg_aload (fg_ft (pc := 50) tb_Fb_pact 28 rfl) rfl ?_
      refine fg_iconst (fg_ft (pc := 52) tb_Fb_pact 29 rfl) ic_2 ?_
      refine fg_iload (fg_ft (pc := 53) tb_Fb_pact 30 rfl) rfl ?_
      refine fg_iload (fg_ft (pc := 55) tb_Fb_pact 31 rfl) rfl ?_
      refine fg_iload (fg_ft (pc := 57) tb_Fb_pact 32 rfl) rfl ?_
      refine fg_callV (fg_ft (pc := 59) tb_Fb_pact 33 rfl) cf_Fb_330 (fg_isOf ly_100 rfl (fg_lt ly_100 (by decide))) (as := [.ref 273, .int (nI 2), .int (nI person), .int (nI fact), .int (nI (fg_df (fg_whoL S.2.1.1 fact ((A.ts town) 2)) (2 ^ person)))]) (st := []) rfl rfl (Nat.le_of_ble_eq_true rfl) (Nat.le_refl _) (Nat.le_refl _) (ev_Fb_fewestThatKeepAway (R := (some (104 + 14 * town), R.2.1, R.2.2.1, R.2.2.2)) ht hT1 hok (h := S.1) (Z := S.2.1) (hv := S.2.2) rfl hF1 hz (how := 2) (p := person) (k := fact) (pool := (fg_df (fg_whoL S.2.1.1 fact ((A.ts town) 2)) (2 ^ person))) (by decide) y5 (by omega) (Nat.lt_of_lt_of_le (fg_df_lt (fg_whoL_lt _)) (fg_p12 (by omega))) ?_)
      intro μ2 ho2
      show fg_wp _ _ _ _ _ _ _ _ _ (μ2, fg_rho (some (104 + 14 * town), some (104 + 14 * town), R.2.2.1, R.2.2.2), 304)
      exact fg_iret (fg_ft (pc := 62) tb_Fb_pact 34 rfl) rfl rfl (fg_q (hQ _ (some (104 + 14 * town), some (104 + 14 * town), R.2.2.1, R.2.2.2) (fg_agQ_tr (fg_agQ_F (Or.inl rfl) ho1) (fg_agQ_F (Or.inr rfl) ho2))) (by unfold an_pact; rw [fg_g1_some y4 y5] <;> ((repeat (first | rw [if_pos (by assumption)] | rw [if_neg (by assumption)] | rw [if_pos (by omega)] | rw [if_neg (by omega)] | rw [if_pos (by constructor <;> assumption)] | rw [if_neg (by intro hh; exact absurd hh.1 (by assumption))] | rw [if_neg (by intro hh; exact absurd hh.2 (by assumption))])); (try rfl))))
    · refine fg_iconst (fg_ft (pc := 31) tb_Fb_pact 15 rfl) ic_m1 ?_
      exact fg_iret (fg_ft (pc := 32) tb_Fb_pact 16 rfl) rfl rfl (fg_q (hQ _ (some (104 + 14 * town), R.2.1, R.2.2.1, R.2.2.2) (fg_agQ_F (Or.inl rfl) ho1)) (by unfold an_pact; rw [fg_g1_some y4 y5] <;> ((repeat (first | rw [if_pos (by assumption)] | rw [if_neg (by assumption)] | rw [if_pos (by omega)] | rw [if_neg (by omega)] | rw [if_pos (by constructor <;> assumption)] | rw [if_neg (by intro hh; exact absurd hh.1 (by assumption))] | rw [if_neg (by intro hh; exact absurd hh.2 (by assumption))])); (try rfl))))
theorem ev_Fb_stay {E : fg_E} {d : Nat} {μ : Nat → Nat → Int32} {R : fg_T4} {Q : Option Value → fg_M → Prop} {A : fg_Tl} (hA : fg_TL μ 101 A) {town day n person fact : Nat} (htown : town < 2 ^ 32) (hday : day < 2 ^ 32) (hn : n < 2 ^ 32) (hperson : person < 2 ^ 32) (hfact : fact < 2 ^ 32) (hQ : ∀ (μ' : Nat → Nat → Int32) (R' : fg_T4), fg_agQ μ μ' → Q (some (.int (an_stay A town day n person fact))) (μ', fg_rho R', 304)) : fg_Ev E yy_Fb_stay (d + 12) [.ref 100, .int (nI town), .int (nI day), .int (nI n), .int (nI person), .int (nI fact)] (μ, fg_rho R, 304) 304 Q := by
  have ht2 := hA.2.2.2.1.2
  have hd3 := hA.2.2.2.2.1.2
  refine fg_intro (by decide +kernel) (Nat.le_of_ble_eq_true rfl) (fg_okAs rfl) (Nat.le_refl _) ?_
  refine fg_aloadn (fg_ft (pc := 0) tb_Fb_stay 0 rfl) rfl ?_
  refine fg_iloadn (fg_ft (pc := 1) tb_Fb_stay 1 rfl) rfl ?_
  refine fg_iloadn (fg_ft (pc := 2) tb_Fb_stay 2 rfl) rfl ?_
  refine fg_iloadn (fg_ft (pc := 3) tb_Fb_stay 3 rfl) rfl ?_
  refine fg_iload (fg_ft (pc := 4) tb_Fb_stay 4 rfl) rfl ?_
  refine fg_callV (fg_ft (pc := 6) tb_Fb_stay 5 rfl) cf_Fb_221 (fg_isOf ly_100 rfl (fg_lt ly_100 (by decide))) (as := [.int (nI town), .int (nI day), .int (nI n), .int (nI person)]) (st := []) rfl rfl (Nat.le_of_ble_eq_true rfl) (Nat.le_refl _) (Nat.le_refl _) (ev_Fb_findOne hA htown hday hn hperson (fun n4 μ1 R1 ho1 hR1 => ?_) (fun S lv y4 y5 μ1 ho1 hF1 => ?_))
  · refine fg_astoreN (fg_ft (pc := 9) tb_Fb_stay 6 rfl) (Nat.le_of_ble_eq_true rfl) ?_
    refine fg_aloadN (fg_ft (pc := 11) tb_Fb_stay 7 rfl) rfl ?_
    refine fg_ifnull (tgt := 29) (fg_ft (pc := 13) tb_Fb_stay 8 rfl) (by decide) ?_
    refine fg_iconst (fg_ft (pc := 29) tb_Fb_stay 14 rfl) ic_m1 ?_
    exact fg_iret (fg_ft (pc := 30) tb_Fb_stay 15 rfl) rfl rfl (fg_q (hQ _ R1 (fg_agQ_F (Or.inl rfl) ho1)) (by unfold an_stay; rw [fg_g1_none n4] <;> ((repeat (first | rw [if_pos (by assumption)] | rw [if_neg (by assumption)] | rw [if_pos (by omega)] | rw [if_neg (by omega)] | rw [if_pos (by constructor <;> assumption)] | rw [if_neg (by intro hh; exact absurd hh.1 (by assumption))] | rw [if_neg (by intro hh; exact absurd hh.2 (by assumption))])); (try rfl))))
  · have ytc := fg_fnd_t y4
    have hok := (hA.2.2.2.2.2.1 town ytc).2
    have ht : fg_isT (104 + 14 * town) := fg_isT_told (by omega)
    have hT1 := fg_TL.town hA (Or.inl rfl) ytc ho1
    have hz := fg_fnd_ok hA y4
    have hb0 := hok.1
    have hb1 := hok.2.1
    have hp := hok.p
    have hm2 := hz.2.1 person y5
    have hm0 : S.2.1.1 person < 2 ^ A.ts town 0 := hm2.1
    have hmc : fg_clsd (A.ts town) (S.2.1.1 person) := hm2.2
    have hm10 : S.2.1.1 person < 1024 := by omega
    refine fg_astore (fg_ft (pc := 9) tb_Fb_stay 6 rfl) (Nat.le_of_ble_eq_true rfl) ?_
    refine fg_aload (fg_ft (pc := 11) tb_Fb_stay 7 rfl) rfl ?_
    refine fg_ifnull_r (fg_ft (pc := 13) tb_Fb_stay 8 rfl) ?_
    refine fg_aload (fg_ft (pc := 16) tb_Fb_stay 9 rfl) rfl ?_
    refine fg_getR (fg_ft (pc := 18) tb_Fb_stay 10 rfl) ff_Fb_194 ly_273 rfl (fg_lt ly_273 (by decide)) rfl ?_
    refine fg_iload (fg_ft (pc := 21) tb_Fb_stay 11 rfl) rfl ?_
    refine fg_callV (fg_ft (pc := 23) tb_Fb_stay 12 rfl) cf_Fb_164 (fg_isOf (tT_lay ht) rfl (fg_lt (tT_lay ht) (by decide))) (as := [.int (nI fact)]) (st := []) rfl rfl (Nat.le_of_ble_eq_true rfl) (Nat.le_refl _) (Nat.le_refl _) (ev_Town_hasFactX ht hT1 hok (k := fact) hfact ?_)
    refine fg_ifB_ne (tgt := 31) (fg_ft (pc := 26) tb_Fb_stay 13 rfl) (by decide) (fun c26 => ?_) (fun c26 => ?_)
    · have hpt := (hok.2.2.2.1 person y5).2.2
      have hz9 := hz.1
      refine fg_aload (fg_ft (pc := 31) tb_Fb_stay 16 rfl) rfl ?_
      refine fg_getR (fg_ft (pc := 33) tb_Fb_stay 17 rfl) ff_Fb_194 ly_273 rfl (fg_lt ly_273 (by decide)) rfl ?_
      refine fg_getR (fg_ft (pc := 36) tb_Fb_stay 18 rfl) ff_Fb_113 (tT_lay ht) rfl (fg_lt (tT_lay ht) (by decide)) (tT_r3 ht) ?_
      refine fg_iload (fg_ft (pc := 39) tb_Fb_stay 19 rfl) rfl ?_
      refine fg_iconst (fg_ft (pc := 41) tb_Fb_stay 20 rfl) ic_2 ?_
      refine fg_callV (fg_ft (pc := 42) tb_Fb_stay 21 rfl) cf_Fb_135 (fg_isOf ((tT_w3 (R := (some (104 + 14 * town), R.2.1, R.2.2.1, R.2.2.2)) ht).1) rfl (fg_lt ((tT_w3 (R := (some (104 + 14 * town), R.2.1, R.2.2.1, R.2.2.2)) ht).1) (by decide))) (as := [.int (nI person), .int (nI 2)]) (st := []) rfl rfl (Nat.le_of_ble_eq_true rfl) (Nat.le_refl _) (Nat.le_refl _) (ev_Rows_cell (tT_w3 (R := (some (104 + 14 * town), R.2.1, R.2.2.1, R.2.2.2)) ht) hT1.2.2.1.1 hT1.2.2.1.2.1 (by have := hok.2.1; omega) (by decide) (by have := hok.2.1; omega) (i := person) (j := 2) (by omega) (by decide) (hT1.person2 (by omega)) ?_)
      refine fg_iconst (fg_ft (pc := 45) tb_Fb_stay 22 rfl) ic_2 ?_
      refine fg_aload (fg_ft (pc := 46) tb_Fb_stay 23 rfl) rfl ?_
      refine fg_getV (v := (nI (S.1))) (fg_ft (pc := 48) tb_Fb_stay 24 rfl) ff_Fb_188 ly_273 rfl (fg_lt ly_273 (by decide)) hF1.2.1 ?_
      refine fg_ishlN (fg_ft (pc := 51) tb_Fb_stay 25 rfl) (by omega) ?_
      refine fg_ineg (fg_ft (pc := 52) tb_Fb_stay 26 rfl) ?_
      refine fg_iand (fg_ft (pc := 53) tb_Fb_stay 27 rfl) ?_
      rw [fg_hrs hpt hz9]
      refine fg_istore (fg_ft (pc := 54) tb_Fb_stay 28 rfl) (Nat.le_of_ble_eq_true rfl) ?_
      refine fg_aloadn (fg_ft (pc := 56) tb_Fb_stay 29 rfl) rfl ?_
      refine fg_aload (fg_ft (pc := 57) tb_Fb_stay 30 rfl) rfl ?_
      refine fg_iconst (fg_ft (pc := 59) tb_Fb_stay 31 rfl) ic_0 ?_
      refine fg_iload (fg_ft (pc := 60) tb_Fb_stay 32 rfl) rfl ?_
      refine fg_iload (fg_ft (pc := 62) tb_Fb_stay 33 rfl) rfl ?_
      refine fg_iload (fg_ft (pc := 64) tb_Fb_stay 34 rfl) rfl ?_
      refine fg_callV (fg_ft (pc := 66) tb_Fb_stay 35 rfl) cf_Fb_330 (fg_isOf ly_100 rfl (fg_lt ly_100 (by decide))) (as := [.ref 273, .int (nI 0), .int (nI person), .int (nI fact), .int (nI (fg_sth (A.ts town) S person))]) (st := []) rfl rfl (Nat.le_of_ble_eq_true rfl) (Nat.le_refl _) (Nat.le_refl _) (ev_Fb_fewestThatKeepAway (R := (some (104 + 14 * town), R.2.1, R.2.2.1, R.2.2.2)) ht hT1 hok (h := S.1) (Z := S.2.1) (hv := S.2.2) rfl hF1 hz (how := 0) (p := person) (k := fact) (pool := (fg_sth (A.ts town) S person)) (by decide) y5 (by omega) (Nat.lt_of_le_of_lt (fg_le_le (fg_df_le _ _)) (by omega)) ?_)
      intro μ2 ho2
      show fg_wp _ _ _ _ _ _ _ _ _ (μ2, fg_rho (some (104 + 14 * town), some (104 + 14 * town), R.2.2.1, R.2.2.2), 304)
      exact fg_iret (fg_ft (pc := 69) tb_Fb_stay 36 rfl) rfl rfl (fg_q (hQ _ (some (104 + 14 * town), some (104 + 14 * town), R.2.2.1, R.2.2.2) (fg_agQ_tr (fg_agQ_F (Or.inl rfl) ho1) (fg_agQ_F (Or.inr rfl) ho2))) (by unfold an_stay; rw [fg_g1_some y4 y5] <;> ((repeat (first | rw [if_pos (by assumption)] | rw [if_neg (by assumption)] | rw [if_pos (by omega)] | rw [if_neg (by omega)] | rw [if_pos (by constructor <;> assumption)] | rw [if_neg (by intro hh; exact absurd hh.1 (by assumption))] | rw [if_neg (by intro hh; exact absurd hh.2 (by assumption))])); (try rfl))))
    · refine fg_iconst (fg_ft (pc := 29) tb_Fb_stay 14 rfl) ic_m1 ?_
      exact fg_iret (fg_ft (pc := 30) tb_Fb_stay 15 rfl) rfl rfl (fg_q (hQ _ (some (104 + 14 * town), R.2.1, R.2.2.1, R.2.2.2) (fg_agQ_F (Or.inl rfl) ho1)) (by unfold an_stay; rw [fg_g1_some y4 y5] <;> ((repeat (first | rw [if_pos (by assumption)] | rw [if_neg (by assumption)] | rw [if_pos (by omega)] | rw [if_neg (by omega)] | rw [if_pos (by constructor <;> assumption)] | rw [if_neg (by intro hh; exact absurd hh.1 (by assumption))] | rw [if_neg (by intro hh; exact absurd hh.2 (by assumption))])); (try rfl))))
theorem ev_Fb_shut {E : fg_E} {d : Nat} {μ : Nat → Nat → Int32} {R : fg_T4} {Q : Option Value → fg_M → Prop} {A : fg_Tl} (hA : fg_TL μ 101 A) {town day n person fact : Nat} (htown : town < 2 ^ 32) (hday : day < 2 ^ 32) (hn : n < 2 ^ 32) (hperson : person < 2 ^ 32) (hfact : fact < 2 ^ 32) (hQ : ∀ (μ' : Nat → Nat → Int32) (R' : fg_T4), fg_agQ μ μ' → Q (some (.int (an_shut A town day n person fact))) (μ', fg_rho R', 304)) : fg_Ev E yy_Fb_shut (d + 12) [.ref 100, .int (nI town), .int (nI day), .int (nI n), .int (nI person), .int (nI fact)] (μ, fg_rho R, 304) 304 Q := by
  have ht2 := hA.2.2.2.1.2
  have hd3 := hA.2.2.2.2.1.2
  refine fg_intro (by decide +kernel) (Nat.le_of_ble_eq_true rfl) (fg_okAs rfl) (Nat.le_refl _) ?_
  refine fg_aloadn (fg_ft (pc := 0) tb_Fb_shut 0 rfl) rfl ?_
  refine fg_iloadn (fg_ft (pc := 1) tb_Fb_shut 1 rfl) rfl ?_
  refine fg_iloadn (fg_ft (pc := 2) tb_Fb_shut 2 rfl) rfl ?_
  refine fg_iloadn (fg_ft (pc := 3) tb_Fb_shut 3 rfl) rfl ?_
  refine fg_iload (fg_ft (pc := 4) tb_Fb_shut 4 rfl) rfl ?_
  refine fg_callV (fg_ft (pc := 6) tb_Fb_shut 5 rfl) cf_Fb_221 (fg_isOf ly_100 rfl (fg_lt ly_100 (by decide))) (as := [.int (nI town), .int (nI day), .int (nI n), .int (nI person)]) (st := []) rfl rfl (Nat.le_of_ble_eq_true rfl) (Nat.le_refl _) (Nat.le_refl _) (ev_Fb_findOne hA htown hday hn hperson (fun n4 μ1 R1 ho1 hR1 => ?_) (fun S lv y4 y5 μ1 ho1 hF1 => ?_))
  · refine fg_astoreN (fg_ft (pc := 9) tb_Fb_shut 6 rfl) (Nat.le_of_ble_eq_true rfl) ?_
    refine fg_aloadN (fg_ft (pc := 11) tb_Fb_shut 7 rfl) rfl ?_
    refine fg_ifnull (tgt := 29) (fg_ft (pc := 13) tb_Fb_shut 8 rfl) (by decide) ?_
    refine fg_iconst (fg_ft (pc := 29) tb_Fb_shut 14 rfl) ic_m1 ?_
    exact fg_iret (fg_ft (pc := 30) tb_Fb_shut 15 rfl) rfl rfl (fg_q (hQ _ R1 (fg_agQ_F (Or.inl rfl) ho1)) (by unfold an_shut; rw [fg_g1_none n4] <;> ((repeat (first | rw [if_pos (by assumption)] | rw [if_neg (by assumption)] | rw [if_pos (by omega)] | rw [if_neg (by omega)] | rw [if_pos (by constructor <;> assumption)] | rw [if_neg (by intro hh; exact absurd hh.1 (by assumption))] | rw [if_neg (by intro hh; exact absurd hh.2 (by assumption))])); (try rfl))))
  · have ytc := fg_fnd_t y4
    have hok := (hA.2.2.2.2.2.1 town ytc).2
    have ht : fg_isT (104 + 14 * town) := fg_isT_told (by omega)
    have hT1 := fg_TL.town hA (Or.inl rfl) ytc ho1
    have hz := fg_fnd_ok hA y4
    have hb0 := hok.1
    have hb1 := hok.2.1
    have hp := hok.p
    have hm2 := hz.2.1 person y5
    have hm0 : S.2.1.1 person < 2 ^ A.ts town 0 := hm2.1
    have hmc : fg_clsd (A.ts town) (S.2.1.1 person) := hm2.2
    have hm10 : S.2.1.1 person < 1024 := by omega
    refine fg_astore (fg_ft (pc := 9) tb_Fb_shut 6 rfl) (Nat.le_of_ble_eq_true rfl) ?_
    refine fg_aload (fg_ft (pc := 11) tb_Fb_shut 7 rfl) rfl ?_
    refine fg_ifnull_r (fg_ft (pc := 13) tb_Fb_shut 8 rfl) ?_
    refine fg_aload (fg_ft (pc := 16) tb_Fb_shut 9 rfl) rfl ?_
    refine fg_getR (fg_ft (pc := 18) tb_Fb_shut 10 rfl) ff_Fb_194 ly_273 rfl (fg_lt ly_273 (by decide)) rfl ?_
    refine fg_iload (fg_ft (pc := 21) tb_Fb_shut 11 rfl) rfl ?_
    refine fg_callV (fg_ft (pc := 23) tb_Fb_shut 12 rfl) cf_Fb_164 (fg_isOf (tT_lay ht) rfl (fg_lt (tT_lay ht) (by decide))) (as := [.int (nI fact)]) (st := []) rfl rfl (Nat.le_of_ble_eq_true rfl) (Nat.le_refl _) (Nat.le_refl _) (ev_Town_hasFactX ht hT1 hok (k := fact) hfact ?_)
    refine fg_ifB_ne (tgt := 31) (fg_ft (pc := 26) tb_Fb_shut 13 rfl) (by decide) (fun c26 => ?_) (fun c26 => ?_)
    · refine fg_aloadn (fg_ft (pc := 31) tb_Fb_shut 16 rfl) rfl ?_
      refine fg_aload (fg_ft (pc := 32) tb_Fb_shut 17 rfl) rfl ?_
      refine fg_iconst (fg_ft (pc := 34) tb_Fb_shut 18 rfl) ic_1 ?_
      refine fg_iload (fg_ft (pc := 35) tb_Fb_shut 19 rfl) rfl ?_
      refine fg_iload (fg_ft (pc := 37) tb_Fb_shut 20 rfl) rfl ?_
      refine fg_aload (fg_ft (pc := 39) tb_Fb_shut 21 rfl) rfl ?_
      refine fg_callV (fg_ft (pc := 41) tb_Fb_shut 22 rfl) cf_Fb_334 (fg_isOf ly_273 rfl (fg_lt ly_273 (by decide))) (as := []) (st := [.int (nI fact), .int (nI person), .int (nI 1), .ref 273, .ref 100]) rfl rfl (Nat.le_of_ble_eq_true rfl) (Nat.le_refl _) (Nat.le_refl _) (ev_Folk_meetsToCome ht hT1 hok (Or.inl rfl) rfl hF1 hz ?_)
      refine fg_callV (fg_ft (pc := 44) tb_Fb_shut 23 rfl) cf_Fb_330 (fg_isOf ly_100 rfl (fg_lt ly_100 (by decide))) (as := [.ref 273, .int (nI 1), .int (nI person), .int (nI fact), .int (nI (fg_mtc (A.ts town) (S.1) ((A.ts town) 4)))]) (st := []) rfl rfl (Nat.le_of_ble_eq_true rfl) (Nat.le_refl _) (Nat.le_refl _) (ev_Fb_fewestThatKeepAway (R := (some (104 + 14 * town), R.2.1, R.2.2.1, R.2.2.2)) ht hT1 hok (h := S.1) (Z := S.2.1) (hv := S.2.2) rfl hF1 hz (how := 1) (p := person) (k := fact) (pool := (fg_mtc (A.ts town) (S.1) ((A.ts town) 4))) (by decide) y5 (by omega) (Nat.lt_of_lt_of_le (fg_mtc_lt _) (fg_p12 (by omega))) ?_)
      intro μ2 ho2
      show fg_wp _ _ _ _ _ _ _ _ _ (μ2, fg_rho (some (104 + 14 * town), some (104 + 14 * town), R.2.2.1, R.2.2.2), 304)
      exact fg_iret (fg_ft (pc := 47) tb_Fb_shut 24 rfl) rfl rfl (fg_q (hQ _ (some (104 + 14 * town), some (104 + 14 * town), R.2.2.1, R.2.2.2) (fg_agQ_tr (fg_agQ_F (Or.inl rfl) ho1) (fg_agQ_F (Or.inr rfl) ho2))) (by unfold an_shut; rw [fg_g1_some y4 y5] <;> ((repeat (first | rw [if_pos (by assumption)] | rw [if_neg (by assumption)] | rw [if_pos (by omega)] | rw [if_neg (by omega)] | rw [if_pos (by constructor <;> assumption)] | rw [if_neg (by intro hh; exact absurd hh.1 (by assumption))] | rw [if_neg (by intro hh; exact absurd hh.2 (by assumption))])); (try rfl))))
    · refine fg_iconst (fg_ft (pc := 29) tb_Fb_shut 14 rfl) ic_m1 ?_
      exact fg_iret (fg_ft (pc := 30) tb_Fb_shut 15 rfl) rfl rfl (fg_q (hQ _ (some (104 + 14 * town), R.2.1, R.2.2.1, R.2.2.2) (fg_agQ_F (Or.inl rfl) ho1)) (by unfold an_shut; rw [fg_g1_some y4 y5] <;> ((repeat (first | rw [if_pos (by assumption)] | rw [if_neg (by assumption)] | rw [if_pos (by omega)] | rw [if_neg (by omega)] | rw [if_pos (by constructor <;> assumption)] | rw [if_neg (by intro hh; exact absurd hh.1 (by assumption))] | rw [if_neg (by intro hh; exact absurd hh.2 (by assumption))])); (try rfl))))
