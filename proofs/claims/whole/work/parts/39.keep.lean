theorem fg_FZ.setStayer {μ : Nat → Nat → Int32} {f h m : Nat} {T : Nat → Nat} {Z : fg_Z} {hv lv : Nat → Nat} {o : Option Nat × Nat × Nat} (H : fg_FZ μ f T h Z hv lv o) : fg_FZ (fg_u2 μ f 6 (nI m)) f T h Z hv lv (some m, o.2) := by
  obtain ⟨h1, h2, h3, h4, h5, ⟨h6, h7, h8⟩, h9, h10, h11⟩ := H
  exact ⟨(fg_u2ns (by decide)).trans h1, (fg_u2ns (by decide)).trans h2, fun q hq => (fg_u2ne (by omega)).trans (h3 q hq), fun q hq => (fg_u2ne (by omega)).trans (h4 q hq), fun q hq => (fg_u2ne (by omega)).trans (h5 q hq), ⟨fg_u2eq, (fg_u2ns (by decide)).trans h7, (fg_u2ns (by decide)).trans h8⟩, (fg_u2ns (by decide)).trans h9, (fg_u2ns (by decide)).trans h10, (fg_u2ns (by decide)).trans h11⟩
theorem fg_FZ.setStays {μ : Nat → Nat → Int32} {f h m : Nat} {T : Nat → Nat} {Z : fg_Z} {hv lv : Nat → Nat} {o : Option Nat × Nat × Nat} (H : fg_FZ μ f T h Z hv lv o) : fg_FZ (fg_u2 μ f 7 (nI m)) f T h Z hv lv (o.1, m, o.2.2) := by
  obtain ⟨h1, h2, h3, h4, h5, ⟨h6, h7, h8⟩, h9, h10, h11⟩ := H
  exact ⟨(fg_u2ns (by decide)).trans h1, (fg_u2ns (by decide)).trans h2, fun q hq => (fg_u2ne (by omega)).trans (h3 q hq), fun q hq => (fg_u2ne (by omega)).trans (h4 q hq), fun q hq => (fg_u2ne (by omega)).trans (h5 q hq), ⟨(fg_u2ns (by decide)).trans h6, fg_u2eq, (fg_u2ns (by decide)).trans h8⟩, (fg_u2ns (by decide)).trans h9, (fg_u2ns (by decide)).trans h10, (fg_u2ns (by decide)).trans h11⟩
theorem fg_FZ.setShut {μ : Nat → Nat → Int32} {f h m : Nat} {T : Nat → Nat} {Z : fg_Z} {hv lv : Nat → Nat} {o : Option Nat × Nat × Nat} (H : fg_FZ μ f T h Z hv lv o) : fg_FZ (fg_u2 μ f 8 (nI m)) f T h Z hv lv (o.1, o.2.1, m) := by
  obtain ⟨h1, h2, h3, h4, h5, ⟨h6, h7, h8⟩, h9, h10, h11⟩ := H
  exact ⟨(fg_u2ns (by decide)).trans h1, (fg_u2ns (by decide)).trans h2, fun q hq => (fg_u2ne (by omega)).trans (h3 q hq), fun q hq => (fg_u2ne (by omega)).trans (h4 q hq), fun q hq => (fg_u2ne (by omega)).trans (h5 q hq), ⟨(fg_u2ns (by decide)).trans h6, (fg_u2ns (by decide)).trans h7, fg_u2eq⟩, (fg_u2ns (by decide)).trans h9, (fg_u2ns (by decide)).trans h10, (fg_u2ns (by decide)).trans h11⟩
/-- those who eat a fact -/
noncomputable def fg_ke (T : Nat → Nat) (p set k : Nat) (M : Nat → Nat) : Nat → (Nat → Nat)
  | 0 => M
  | n + 1 => if n < T 2 ∧ (n = p ∨ set.testBit n = true) then fg_up1 (fg_ke T p set k M n) n (fg_fgt T (fg_ke T p set k M n n) k 1) else fg_ke T p set k M n
theorem fg_zok.ke {T : Nat → Nat} (hok : fg_ok T) {h p set k : Nat} {M : Nat → Nat} {x : Nat × Nat × Nat} {hv : Nat → Nat} (H : fg_zok T h (M, x) hv) : ∀ n, fg_zok T h (fg_ke T p set k M n, x) hv := by
  intro n
  induction n with
  | zero => exact H
  | succ n ih =>
    simp only [fg_ke]
    split
    · exact fg_zok.eat hok ih
    · exact ih
/-- the state in which it is tried whether a fact is kept away, and who is not out and what is not -/
noncomputable def fg_kS (T : Nat → Nat) (S : fg_H3) (how p k set : Nat) : fg_H3 := (S.1, ((if how = 2 then fg_ke T p set k S.2.1.1 5 else S.2.1.1), 0, 0, 0), S.2.2)
def fg_kO (how p set : Nat) : Option Nat × Nat × Nat := if how = 0 then (some p, set, 0) else if how = 1 then (none, 0, set) else (none, 0, 0)
def fg_kA (T : Nat → Nat) (S : fg_H3) (how p k set : Nat) : Prop := ¬ ((fg_ch T (fg_kO how p set) p k (9 - S.1) (fg_kS T S how p k set)).2.1.1 p).testBit k = true
theorem fg_kS_ok {T : Nat → Nat} (hok : fg_ok T) {h : Nat} {Z : fg_Z} {hv : Nat → Nat} (hz : fg_zok T h Z hv) {how p k set : Nat} : fg_zok T h (fg_kS T (h, Z, hv) how p k set).2.1 hv := by
  by_cases e : how = 2
  · have := fg_zok.ke hok (p := p) (set := set) (k := k) (x := (0, 0, 0)) (fg_zok.news hz) 5
    unfold fg_kS
    rw [if_pos e]
    exact this
  · unfold fg_kS
    rw [if_neg e]
    exact fg_zok.news hz
theorem fg_kO_lt {how p set : Nat} (h : set < 2 ^ 31) : (fg_kO how p set).2.2 < 2 ^ 31 := by
  unfold fg_kO
  by_cases e : how = 0
  · rw [if_pos e]; exact Nat.two_pow_pos 31
  · rw [if_neg e]
    by_cases g : how = 1
    · rw [if_pos g]; exact h
    · rw [if_neg g]; exact Nat.two_pow_pos 31
theorem ev_Fb_keepsAway {E : fg_E} {d : Nat} {μ : Nat → Nat → Int32} {R : fg_T4} {Q : Option Value → fg_M → Prop} {t : Nat} {T : Nat → Nat} (ht : fg_isT t) (hT : fg_TW μ t T) (hok : fg_ok T) {h : Nat} {Z : fg_Z} {hv lv : Nat → Nat} {o : Option Nat × Nat × Nat} (hft : fg_rho R 273 0 = some t) (hF : fg_FZ μ 273 T h Z hv lv o) (hz : fg_zok T h Z hv) {how p k set : Nat} (hhow : how ≤ 2) (hpT : p < T 2) (hk31 : k < 2 ^ 31) (hset : set < 2 ^ 31) (hQ : ∀ μ' : Nat → Nat → Int32, fg_agF 277 μ μ' → Q (some (.int (fg_bI (fg_kA T (h, Z, hv) how p k set)))) (μ', fg_rho (R.1, some t, R.2.2.1, R.2.2.2), 304)) : fg_Ev E yy_Fb_keepsAway (d + 7) [.ref 100, .ref 273, .int (nI how), .int (nI p), .int (nI k), .int (nI set)] (μ, fg_rho R, 304) 304 Q := by
  have hb1 := hok.2.1
  have loop : how = 2 → ∀ μ1 : Nat → Nat → Int32, fg_agF 277 μ μ1 → ∀ (m n : Nat) (ν : Nat → Nat → Int32) (lv' : Nat → Nat), 5 - n < m → n ≤ 5 → fg_agF 277 μ1 ν → fg_FZ ν 277 T h ((fg_ke T p set k Z.1 n), 0, 0, 0) hv lv' (none, 0, 0) → fg_wp E yy_Fb_keepsAway (d + 7) 304 304 Q 52 [.ref 100, .ref 273, .int (nI how), .int (nI p), .int (nI k), .int (nI set), .int (nI n)] [] (ν, fg_rho (R.1, some t, R.2.2.1, R.2.2.2), 304) := by
    intro hw μ1 ho1 m
    induction m with
    | zero => intro n ν lv' h; exact absurd h (Nat.not_lt_zero _)
    | succ m ih =>
      intro n ν lv' hm hn hag hN
      have hTn := fg_TWp.agF ht (Or.inr rfl) hT (fg_agF_tr ho1 hag)
      have hzn := fg_zok.ke hok (p := p) (set := set) (k := k) (x := (0, 0, 0)) (fg_zok.news hz) n
      refine fg_iload (fg_ft (pc := 52) tb_Fb_keepsAway 25 rfl) rfl ?_
      refine fg_iconst (fg_ft (pc := 54) tb_Fb_keepsAway 26 rfl) ic_5 ?_
      refine fg_icmp_geN (tgt := 93) (fg_ft (pc := 55) tb_Fb_keepsAway 27 rfl) (by decide) (by omega) (by decide) (fun c55 => ?_) (fun c55 => ?_)
      · rw [show n = 5 by omega] at hN
        refine fg_aloadn (fg_ft (pc := 93) tb_Fb_keepsAway 44 rfl) rfl ?_
        refine fg_getR (fg_ft (pc := 94) tb_Fb_keepsAway 45 rfl) ff_Fb_38 ly_100 rfl (fg_lt ly_100 (by decide)) (rh_100_5 (R.1, some t, R.2.2.1, R.2.2.2)) ?_
        refine fg_iloadn (fg_ft (pc := 97) tb_Fb_keepsAway 46 rfl) rfl ?_
        refine fg_iload (fg_ft (pc := 98) tb_Fb_keepsAway 47 rfl) rfl ?_
        refine fg_callV (fg_ft (pc := 100) tb_Fb_keepsAway 48 rfl) cf_Fb_236 (fg_isOf ly_277 rfl (fg_lt ly_277 (by decide))) (as := [.int (nI p), .int (nI k)]) (st := []) rfl rfl (Nat.le_of_ble_eq_true rfl) (Nat.le_refl _) (Nat.le_refl _) (ev_Folk_comesToHave (R := (R.1, some t, R.2.2.1, R.2.2.2)) ht (fg_TWp.agF ht (Or.inr rfl) hT (fg_agF_tr ho1 hag)) hok (f := 277) (Or.inr rfl) rfl (h := h) (Z := (fg_kS T (h, Z, hv) how p k set).2.1) (hv := hv) (lv := lv') (o := fg_kO how p set) (by unfold fg_kO fg_kS; rw [if_neg (show ¬ how = 0 by omega), if_neg (show ¬ how = 1 by omega), if_pos hw]; exact hN) (fg_kS_ok hok hz) (p := p) (k := k) (by omega) hk31 (fg_kO_lt hset) ?_)
        intro μ2 ho2 hF2
        show fg_wp _ _ _ _ _ _ _ _ _ (μ2, fg_rho (R.1, some t, R.2.2.1, R.2.2.2), 304)
        refine fg_ifB_ne (tgt := 110) (fg_ft (pc := 103) tb_Fb_keepsAway 49 rfl) (by decide) (fun c103 => ?_) (fun c103 => ?_)
        · refine fg_iconst (fg_ft (pc := 110) tb_Fb_keepsAway 52 rfl) ic_0 ?_
          exact fg_zret (fg_ft (pc := 111) tb_Fb_keepsAway 53 rfl) rfl (by decide) rfl (by have q := hQ μ2 (fg_agF_tr (fg_agF_tr ho1 hag) ho2); rw [fg_bF (fun hh : fg_kA T (h, Z, hv) how p k set => hh c103.2)] at q; exact q)
        · refine fg_iconst (fg_ft (pc := 106) tb_Fb_keepsAway 50 rfl) ic_1 ?_
          refine fg_goto (tgt := 111) (fg_ft (pc := 107) tb_Fb_keepsAway 51 rfl) (by decide) ?_
          exact fg_zret (fg_ft (pc := 111) tb_Fb_keepsAway 53 rfl) rfl (by decide) rfl (by have q := hQ μ2 (fg_agF_tr (fg_agF_tr ho1 hag) ho2); rw [fg_bT (show fg_kA T (h, Z, hv) how p k set from fun hh => c103 ⟨hpT, hh⟩)] at q; exact q)
      · refine fg_iload (fg_ft (pc := 58) tb_Fb_keepsAway 28 rfl) rfl ?_
        refine fg_iloadn (fg_ft (pc := 60) tb_Fb_keepsAway 29 rfl) rfl ?_
        refine fg_icmp_eqN (tgt := 74) (fg_ft (pc := 61) tb_Fb_keepsAway 30 rfl) (by decide) (by omega) (by omega) (fun c61 => ?_) (fun c61 => ?_)
        · refine fg_aloadn (fg_ft (pc := 74) tb_Fb_keepsAway 35 rfl) rfl ?_
          refine fg_getR (fg_ft (pc := 75) tb_Fb_keepsAway 36 rfl) ff_Fb_38 ly_100 rfl (fg_lt ly_100 (by decide)) (rh_100_5 (R.1, some t, R.2.2.1, R.2.2.2)) ?_
          refine fg_iload (fg_ft (pc := 78) tb_Fb_keepsAway 37 rfl) rfl ?_
          refine fg_iload (fg_ft (pc := 80) tb_Fb_keepsAway 38 rfl) rfl ?_
          refine fg_iconst (fg_ft (pc := 82) tb_Fb_keepsAway 39 rfl) ic_1 ?_
          by_cases hn2 : n < T 2
          · refine fg_callV (fg_ft (pc := 83) tb_Fb_keepsAway 40 rfl) cf_Fb_350 (fg_isOf ly_277 rfl (fg_lt ly_277 (by decide))) (as := [.int (nI n), .int (nI k), .int (nI 1)]) (st := []) rfl rfl (Nat.le_of_ble_eq_true rfl) (Nat.le_refl _) (Nat.le_refl _) (ev_Folk_eat (R := (R.1, some t, R.2.2.1, R.2.2.2)) ht hTn hok (f := 277) (Or.inr rfl) rfl hN hzn (p := n) (k := k) (kd := 1) hn2 hk31 (by decide) ?_)
            intro ν2 ho2 hN2
            refine fg_pop (fg_ft (pc := 86) tb_Fb_keepsAway 41 rfl) rfl ?_
            refine fg_iincN (fg_ft (pc := 87) tb_Fb_keepsAway 42 rfl) rfl ic_1 rfl ?_
            refine fg_goto (tgt := 52) (fg_ft (pc := 90) tb_Fb_keepsAway 43 rfl) (by decide) ?_
            exact ih (n + 1) ν2 _ (by omega) (by omega) (fg_agF_tr hag ho2) (by simp only [fg_ke]; rw [if_pos ⟨hn2, by first | exact Or.inl c61 | exact Or.inr c71⟩]; exact hN2)
          · refine fg_callV (fg_ft (pc := 83) tb_Fb_keepsAway 40 rfl) cf_Fb_350 (fg_isOf ly_277 rfl (fg_lt ly_277 (by decide))) (as := [.int (nI n), .int (nI k), .int (nI 1)]) (st := []) rfl rfl (Nat.le_of_ble_eq_true rfl) (Nat.le_refl _) (Nat.le_refl _) (ev_Folk_eatOut (R := (R.1, some t, R.2.2.1, R.2.2.2)) ht hTn hok (f := 277) (Or.inr rfl) rfl hN hzn (p := n) (k := k) (kd := 1) (by omega) hn2 ?_)
            refine fg_pop (fg_ft (pc := 86) tb_Fb_keepsAway 41 rfl) rfl ?_
            refine fg_iincN (fg_ft (pc := 87) tb_Fb_keepsAway 42 rfl) rfl ic_1 rfl ?_
            refine fg_goto (tgt := 52) (fg_ft (pc := 90) tb_Fb_keepsAway 43 rfl) (by decide) ?_
            exact ih (n + 1) ν _ (by omega) (by omega) hag (by simp only [fg_ke]; rw [if_neg (fun hh => hn2 hh.1)]; exact hN)
        · refine fg_iload (fg_ft (pc := 64) tb_Fb_keepsAway 31 rfl) rfl ?_
          refine fg_iload (fg_ft (pc := 66) tb_Fb_keepsAway 32 rfl) rfl ?_
          refine fg_callS (fg_ft (pc := 68) tb_Fb_keepsAway 33 rfl) cf_Fb_167 (as := [.int (nI set), .int (nI n)]) (st := []) rfl rfl (Nat.le_of_ble_eq_true rfl) (Nat.le_refl _) (Nat.le_refl _) (ev_Fb_isIn (s := set) (k := n) (hset) (by omega) ?_)
          refine fg_ifB_eq (tgt := 87) (fg_ft (pc := 71) tb_Fb_keepsAway 34 rfl) (by decide) (fun c71 => ?_) (fun c71 => ?_)
          · refine fg_iincN (fg_ft (pc := 87) tb_Fb_keepsAway 42 rfl) rfl ic_1 rfl ?_
            refine fg_goto (tgt := 52) (fg_ft (pc := 90) tb_Fb_keepsAway 43 rfl) (by decide) ?_
            exact ih (n + 1) ν _ (by omega) (by omega) hag (by simp only [fg_ke]; rw [if_neg (fun hh => hh.2.elim c61 (fun g => c71 g))]; exact hN)
          · refine fg_aloadn (fg_ft (pc := 74) tb_Fb_keepsAway 35 rfl) rfl ?_
            refine fg_getR (fg_ft (pc := 75) tb_Fb_keepsAway 36 rfl) ff_Fb_38 ly_100 rfl (fg_lt ly_100 (by decide)) (rh_100_5 (R.1, some t, R.2.2.1, R.2.2.2)) ?_
            refine fg_iload (fg_ft (pc := 78) tb_Fb_keepsAway 37 rfl) rfl ?_
            refine fg_iload (fg_ft (pc := 80) tb_Fb_keepsAway 38 rfl) rfl ?_
            refine fg_iconst (fg_ft (pc := 82) tb_Fb_keepsAway 39 rfl) ic_1 ?_
            by_cases hn2 : n < T 2
            · refine fg_callV (fg_ft (pc := 83) tb_Fb_keepsAway 40 rfl) cf_Fb_350 (fg_isOf ly_277 rfl (fg_lt ly_277 (by decide))) (as := [.int (nI n), .int (nI k), .int (nI 1)]) (st := []) rfl rfl (Nat.le_of_ble_eq_true rfl) (Nat.le_refl _) (Nat.le_refl _) (ev_Folk_eat (R := (R.1, some t, R.2.2.1, R.2.2.2)) ht hTn hok (f := 277) (Or.inr rfl) rfl hN hzn (p := n) (k := k) (kd := 1) hn2 hk31 (by decide) ?_)
              intro ν2 ho2 hN2
              refine fg_pop (fg_ft (pc := 86) tb_Fb_keepsAway 41 rfl) rfl ?_
              refine fg_iincN (fg_ft (pc := 87) tb_Fb_keepsAway 42 rfl) rfl ic_1 rfl ?_
              refine fg_goto (tgt := 52) (fg_ft (pc := 90) tb_Fb_keepsAway 43 rfl) (by decide) ?_
              exact ih (n + 1) ν2 _ (by omega) (by omega) (fg_agF_tr hag ho2) (by simp only [fg_ke]; rw [if_pos ⟨hn2, by first | exact Or.inl c61 | exact Or.inr c71⟩]; exact hN2)
            · refine fg_callV (fg_ft (pc := 83) tb_Fb_keepsAway 40 rfl) cf_Fb_350 (fg_isOf ly_277 rfl (fg_lt ly_277 (by decide))) (as := [.int (nI n), .int (nI k), .int (nI 1)]) (st := []) rfl rfl (Nat.le_of_ble_eq_true rfl) (Nat.le_refl _) (Nat.le_refl _) (ev_Folk_eatOut (R := (R.1, some t, R.2.2.1, R.2.2.2)) ht hTn hok (f := 277) (Or.inr rfl) rfl hN hzn (p := n) (k := k) (kd := 1) (by omega) hn2 ?_)
              refine fg_pop (fg_ft (pc := 86) tb_Fb_keepsAway 41 rfl) rfl ?_
              refine fg_iincN (fg_ft (pc := 87) tb_Fb_keepsAway 42 rfl) rfl ic_1 rfl ?_
              refine fg_goto (tgt := 52) (fg_ft (pc := 90) tb_Fb_keepsAway 43 rfl) (by decide) ?_
              exact ih (n + 1) ν _ (by omega) (by omega) hag (by simp only [fg_ke]; rw [if_neg (fun hh => hn2 hh.1)]; exact hN)
  refine fg_intro (by decide +kernel) (Nat.le_of_ble_eq_true rfl) (fg_okAs rfl) (Nat.le_refl _) ?_
  refine fg_aloadn (fg_ft (pc := 0) tb_Fb_keepsAway 0 rfl) rfl ?_
  refine fg_getR (fg_ft (pc := 1) tb_Fb_keepsAway 1 rfl) ff_Fb_38 ly_100 rfl (fg_lt ly_100 (by decide)) (rh_100_5 R) ?_
  refine fg_aloadn (fg_ft (pc := 4) tb_Fb_keepsAway 2 rfl) rfl ?_
  refine fg_callV (fg_ft (pc := 5) tb_Fb_keepsAway 3 rfl) cf_Fb_233 (fg_isOf ly_277 rfl (fg_lt ly_277 (by decide))) (as := [.ref 273]) (st := []) rfl rfl (Nat.le_of_ble_eq_true rfl) (Nat.le_refl _) (Nat.le_refl _) (ev_Folk_copyFrom ht hT hok hft hF hz ?_)
  intro μ1 ho1 hF1
  show fg_wp _ _ _ _ _ _ _ _ _ (μ1, fg_rho (R.1, some t, R.2.2.1, R.2.2.2), 304)
  refine fg_iloadn (fg_ft (pc := 8) tb_Fb_keepsAway 4 rfl) rfl ?_
  refine fg_if_neN (tgt := 32) (fg_ft (pc := 9) tb_Fb_keepsAway 5 rfl) (by decide) (by omega) (fun c9 => ?_) (fun c9 => ?_)
  · refine fg_iloadn (fg_ft (pc := 32) tb_Fb_keepsAway 15 rfl) rfl ?_
    refine fg_iconst (fg_ft (pc := 33) tb_Fb_keepsAway 16 rfl) ic_1 ?_
    refine fg_icmp_neN (tgt := 49) (fg_ft (pc := 34) tb_Fb_keepsAway 17 rfl) (by decide) (by omega) (by decide) (fun c34 => ?_) (fun c34 => ?_)
    · refine fg_iconst (fg_ft (pc := 49) tb_Fb_keepsAway 23 rfl) ic_0 ?_
      refine fg_istore (fg_ft (pc := 50) tb_Fb_keepsAway 24 rfl) (Nat.le_of_ble_eq_true rfl) ?_
      exact loop (by omega) μ1 ho1 6 0 μ1 lv (by omega) (by omega) (fg_agF_rf 277 μ1) hF1
    · refine fg_aloadn (fg_ft (pc := 37) tb_Fb_keepsAway 18 rfl) rfl ?_
      refine fg_getR (fg_ft (pc := 38) tb_Fb_keepsAway 19 rfl) ff_Fb_38 ly_100 rfl (fg_lt ly_100 (by decide)) (rh_100_5 (R.1, some t, R.2.2.1, R.2.2.2)) ?_
      refine fg_iload (fg_ft (pc := 41) tb_Fb_keepsAway 20 rfl) rfl ?_
      refine fg_putI (fg_ft (pc := 43) tb_Fb_keepsAway 21 rfl) ff_Fb_347 ly_277 rfl (fg_lt ly_277 (by decide)) (fg_nokI _) (fun _ _ h => by cases h; rfl) ?_
      show fg_wp _ _ _ _ _ _ _ _ _ (fg_u2 μ1 277 8 (nI set), fg_rho (R.1, some t, R.2.2.1, R.2.2.2), 304)
      refine fg_goto (tgt := 93) (fg_ft (pc := 46) tb_Fb_keepsAway 22 rfl) (by decide) ?_
      refine fg_aloadn (fg_ft (pc := 93) tb_Fb_keepsAway 44 rfl) rfl ?_
      refine fg_getR (fg_ft (pc := 94) tb_Fb_keepsAway 45 rfl) ff_Fb_38 ly_100 rfl (fg_lt ly_100 (by decide)) (rh_100_5 (R.1, some t, R.2.2.1, R.2.2.2)) ?_
      refine fg_iloadn (fg_ft (pc := 97) tb_Fb_keepsAway 46 rfl) rfl ?_
      refine fg_iload (fg_ft (pc := 98) tb_Fb_keepsAway 47 rfl) rfl ?_
      refine fg_callV (fg_ft (pc := 100) tb_Fb_keepsAway 48 rfl) cf_Fb_236 (fg_isOf ly_277 rfl (fg_lt ly_277 (by decide))) (as := [.int (nI p), .int (nI k)]) (st := []) rfl rfl (Nat.le_of_ble_eq_true rfl) (Nat.le_refl _) (Nat.le_refl _) (ev_Folk_comesToHave (R := (R.1, some t, R.2.2.1, R.2.2.2)) ht (fg_TWp.agF ht (Or.inr rfl) hT (fg_agF_tr ho1 (fg_agF_u (by decide) (by decide)))) hok (f := 277) (Or.inr rfl) rfl (h := h) (Z := (fg_kS T (h, Z, hv) how p k set).2.1) (hv := hv) (lv := lv) (o := fg_kO how p set) (by unfold fg_kO fg_kS; rw [if_neg c9, if_pos c34, if_neg (by omega)]; exact hF1.setShut) (fg_kS_ok hok hz) (p := p) (k := k) (by omega) hk31 (fg_kO_lt hset) ?_)
      intro μ2 ho2 hF2
      show fg_wp _ _ _ _ _ _ _ _ _ (μ2, fg_rho (R.1, some t, R.2.2.1, R.2.2.2), 304)
      refine fg_ifB_ne (tgt := 110) (fg_ft (pc := 103) tb_Fb_keepsAway 49 rfl) (by decide) (fun c103 => ?_) (fun c103 => ?_)
      · refine fg_iconst (fg_ft (pc := 110) tb_Fb_keepsAway 52 rfl) ic_0 ?_
        exact fg_zret (fg_ft (pc := 111) tb_Fb_keepsAway 53 rfl) rfl (by decide) rfl (by have q := hQ μ2 (fg_agF_tr (fg_agF_tr ho1 (fg_agF_u (by decide) (by decide))) ho2); rw [fg_bF (fun hh : fg_kA T (h, Z, hv) how p k set => hh c103.2)] at q; exact q)
      · refine fg_iconst (fg_ft (pc := 106) tb_Fb_keepsAway 50 rfl) ic_1 ?_
        refine fg_goto (tgt := 111) (fg_ft (pc := 107) tb_Fb_keepsAway 51 rfl) (by decide) ?_
        exact fg_zret (fg_ft (pc := 111) tb_Fb_keepsAway 53 rfl) rfl (by decide) rfl (by have q := hQ μ2 (fg_agF_tr (fg_agF_tr ho1 (fg_agF_u (by decide) (by decide))) ho2); rw [fg_bT (show fg_kA T (h, Z, hv) how p k set from fun hh => c103 ⟨hpT, hh⟩)] at q; exact q)
  · refine fg_aloadn (fg_ft (pc := 12) tb_Fb_keepsAway 6 rfl) rfl ?_
    refine fg_getR (fg_ft (pc := 13) tb_Fb_keepsAway 7 rfl) ff_Fb_38 ly_100 rfl (fg_lt ly_100 (by decide)) (rh_100_5 (R.1, some t, R.2.2.1, R.2.2.2)) ?_
    refine fg_iloadn (fg_ft (pc := 16) tb_Fb_keepsAway 8 rfl) rfl ?_
    refine fg_putI (fg_ft (pc := 17) tb_Fb_keepsAway 9 rfl) ff_Fb_341 ly_277 rfl (fg_lt ly_277 (by decide)) (fg_nokI _) (fun _ _ h => by cases h; rfl) ?_
    show fg_wp _ _ _ _ _ _ _ _ _ (fg_u2 μ1 277 6 (nI p), fg_rho (R.1, some t, R.2.2.1, R.2.2.2), 304)
    refine fg_aloadn (fg_ft (pc := 20) tb_Fb_keepsAway 10 rfl) rfl ?_
    refine fg_getR (fg_ft (pc := 21) tb_Fb_keepsAway 11 rfl) ff_Fb_38 ly_100 rfl (fg_lt ly_100 (by decide)) (rh_100_5 (R.1, some t, R.2.2.1, R.2.2.2)) ?_
    refine fg_iload (fg_ft (pc := 24) tb_Fb_keepsAway 12 rfl) rfl ?_
    refine fg_putI (fg_ft (pc := 26) tb_Fb_keepsAway 13 rfl) ff_Fb_344 ly_277 rfl (fg_lt ly_277 (by decide)) (fg_nokI _) (fun _ _ h => by cases h; rfl) ?_
    show fg_wp _ _ _ _ _ _ _ _ _ (fg_u2 (fg_u2 μ1 277 6 (nI p)) 277 7 (nI set), fg_rho (R.1, some t, R.2.2.1, R.2.2.2), 304)
    refine fg_goto (tgt := 93) (fg_ft (pc := 29) tb_Fb_keepsAway 14 rfl) (by decide) ?_
    refine fg_aloadn (fg_ft (pc := 93) tb_Fb_keepsAway 44 rfl) rfl ?_
    refine fg_getR (fg_ft (pc := 94) tb_Fb_keepsAway 45 rfl) ff_Fb_38 ly_100 rfl (fg_lt ly_100 (by decide)) (rh_100_5 (R.1, some t, R.2.2.1, R.2.2.2)) ?_
    refine fg_iloadn (fg_ft (pc := 97) tb_Fb_keepsAway 46 rfl) rfl ?_
    refine fg_iload (fg_ft (pc := 98) tb_Fb_keepsAway 47 rfl) rfl ?_
    refine fg_callV (fg_ft (pc := 100) tb_Fb_keepsAway 48 rfl) cf_Fb_236 (fg_isOf ly_277 rfl (fg_lt ly_277 (by decide))) (as := [.int (nI p), .int (nI k)]) (st := []) rfl rfl (Nat.le_of_ble_eq_true rfl) (Nat.le_refl _) (Nat.le_refl _) (ev_Folk_comesToHave (R := (R.1, some t, R.2.2.1, R.2.2.2)) ht (fg_TWp.agF ht (Or.inr rfl) hT (fg_agF_tr ho1 (fg_agF_tr (fg_agF_u (by decide) (by decide)) (fg_agF_u (by decide) (by decide))))) hok (f := 277) (Or.inr rfl) rfl (h := h) (Z := (fg_kS T (h, Z, hv) how p k set).2.1) (hv := hv) (lv := lv) (o := fg_kO how p set) (by unfold fg_kO fg_kS; rw [if_pos c9, if_neg (by omega)]; exact (hF1.setStayer.setStays)) (fg_kS_ok hok hz) (p := p) (k := k) (by omega) hk31 (fg_kO_lt hset) ?_)
    intro μ2 ho2 hF2
    show fg_wp _ _ _ _ _ _ _ _ _ (μ2, fg_rho (R.1, some t, R.2.2.1, R.2.2.2), 304)
    refine fg_ifB_ne (tgt := 110) (fg_ft (pc := 103) tb_Fb_keepsAway 49 rfl) (by decide) (fun c103 => ?_) (fun c103 => ?_)
    · refine fg_iconst (fg_ft (pc := 110) tb_Fb_keepsAway 52 rfl) ic_0 ?_
      exact fg_zret (fg_ft (pc := 111) tb_Fb_keepsAway 53 rfl) rfl (by decide) rfl (by have q := hQ μ2 (fg_agF_tr (fg_agF_tr ho1 (fg_agF_tr (fg_agF_u (by decide) (by decide)) (fg_agF_u (by decide) (by decide)))) ho2); rw [fg_bF (fun hh : fg_kA T (h, Z, hv) how p k set => hh c103.2)] at q; exact q)
    · refine fg_iconst (fg_ft (pc := 106) tb_Fb_keepsAway 50 rfl) ic_1 ?_
      refine fg_goto (tgt := 111) (fg_ft (pc := 107) tb_Fb_keepsAway 51 rfl) (by decide) ?_
      exact fg_zret (fg_ft (pc := 111) tb_Fb_keepsAway 53 rfl) rfl (by decide) rfl (by have q := hQ μ2 (fg_agF_tr (fg_agF_tr ho1 (fg_agF_tr (fg_agF_u (by decide) (by decide)) (fg_agF_u (by decide) (by decide)))) ho2); rw [fg_bT (show fg_kA T (h, Z, hv) how p k set from fun hh => c103 ⟨hpT, hh⟩)] at q; exact q)
