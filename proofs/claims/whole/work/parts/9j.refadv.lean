/-! the reference's tokens -/
def pz_agM (μ μ' : Nat → Nat → Int32) : Prop := ∀ a j, (a ≠ 287 ∨ (j ≠ 3 ∧ j ≠ 4 ∧ j ≠ 5 ∧ j ≠ 6 ∧ j ≠ 7)) → μ' a j = μ a j
theorem pz_neg1 {x : Int32} (h : x = -1) : x < 0 := by rw [h]; decide
theorem pz_byn {len k : Nat} {b : Nat → Nat} (hb : ∀ j, b j < 256) : fg_by len b k < 0 ↔ ¬ k < len := by
  unfold fg_by
  by_cases c : k < len
  · rw [if_pos c]; exact ⟨fun h => absurd h (nI_pos (by have := hb k; omega)), fun h => absurd c h⟩
  · rw [if_neg c]; exact ⟨fun _ => c, fun _ => by decide⟩
theorem pz_beq {len k q : Nat} {b : Nat → Nat} (hb : ∀ j, b j < 256) (hq : q < 256) : fg_by len b k = nI q ↔ k < len ∧ b k = q := by
  unfold fg_by
  by_cases c : k < len
  · rw [if_pos c, nI_eq (by have := hb k; omega) (by omega)]
    exact ⟨fun h => ⟨c, h⟩, fun h => h.2⟩
  · rw [if_neg c]
    exact ⟨fun h => absurd (show (-1 : Int32) < 0 by decide) (by rw [h]; exact nI_pos (by omega)), fun h => absurd h.1 c⟩
theorem pz_bin {len k lo hi : Nat} {b : Nat → Nat} (hb : ∀ j, b j < 256) (hlo : lo < 256) (hhi : hi < 256) : (nI lo ≤ fg_by len b k ∧ fg_by len b k ≤ nI hi) ↔ (k < len ∧ lo ≤ b k ∧ b k ≤ hi) := by
  unfold fg_by
  by_cases c : k < len
  · have := hb k
    rw [if_pos c, nI_leI (by omega) (by omega), nI_leI (by omega) (by omega)]
    exact ⟨fun h => ⟨c, h⟩, fun h => h.2⟩
  · rw [if_neg c]
    refine ⟨fun h => ?_, fun h => absurd h.1 c⟩
    have h1 := h.1
    rw [Int32.le_iff_toInt_le, nI_toInt (by omega)] at h1
    have : (-1 : Int32).toInt = -1 := rfl
    omega
theorem pz_bltI {len k : Nat} {b : Nat → Nat} (hb : ∀ j, b j < 256) : (nI 97 ≤ fg_by len b k ∧ fg_by len b k ≤ nI 122) ↔ pz_lt b len k = true := by
  rw [pz_bin hb (by decide) (by decide)]; unfold pz_lt; rw [decide_eq_true_eq]
theorem pz_bdgI {len k : Nat} {b : Nat → Nat} (hb : ∀ j, b j < 256) : (nI 48 ≤ fg_by len b k ∧ fg_by len b k ≤ nI 57) ↔ pz_dg b len k = true := by
  rw [pz_bin hb (by decide) (by decide)]; unfold pz_dg; rw [decide_eq_true_eq]
theorem ev_Mo_byteAtD {E : fg_E} {d : Nat} {μ : Nat → Nat → Int32} {R : fg_T4} {Q : Option Value → fg_M → Prop} {b : Nat → Nat} {len : Nat} (hsz : μ 287 2 = nI len) (hle : len ≤ 600) (hb : ∀ j, j < len → μ 288 (10 + j) = nI (b j)) (hb256 : ∀ j, b j < 256) {k : Nat} (hk : k < len) (hQ : Q (some (.int (nI (b k)))) (μ, fg_rho R, 304)) : fg_Ev E yy_Mo_byteAt (d + 1) [.ref 287, .int (nI k)] (μ, fg_rho R, 304) 304 Q := ev_Mo_byteAt hsz hle hb (by omega) (fg_q hQ (by unfold fg_by; rw [if_pos hk]))
theorem pz_wn_lt {b : Nat → Nat} {s e : Nat} : pz_wn (pz_wd b s e) < 2 ^ 31 := by
  cases h : pz_wd b s e with
  | none => show 99 < 2 ^ 31; decide
  | some w => have := (pz_wd_sp h).1; show w + 1 < 2 ^ 31; omega
theorem pz_adv_let {E : fg_E} {d : Nat} {μ : Nat → Nat → Int32} {R : fg_T4} {Q : Option Value → fg_M → Prop} {b : Nat → Nat} {len : Nat} (hle : len ≤ 600) (hb256 : ∀ j, b j < 256) {n0 s : Nat} {μ1 : Nat → Nat → Int32} {vx : Value} (hss : pz_s b len n0 = s) (g0 : ¬ len ≤ pz_s b len n0) (g1 : pz_lt b len s = true) (hsz : μ1 287 2 = nI len) (hb : ∀ j, j < len → μ1 288 (10 + j) = nI (b j)) (hag0 : pz_agM μ μ1) (hs4 : μ1 287 4 = nI s) (hQ : ∀ μ' : Nat → Nat → Int32, pz_agM μ μ' → μ' 287 3 = nI (pz_tk b len n0).2.2.2 → μ' 287 4 = nI (pz_tk b len n0).1 → μ' 287 5 = nI (pz_tk b len n0).2.1 → ((pz_tk b len n0).2.1 = 1 → μ' 287 6 = nI (pz_tk b len n0).2.2.1) → ((pz_tk b len n0).2.1 = 3 → μ' 287 7 = nI ((pz_tk b len n0).2.2.1 + 1)) → Q none (μ', fg_rho R, 304)) : ∀ (m n : Nat) (ν : Nat → Nat → Int32), len - n < m → s ≤ n → n ≤ len → (∀ k, s ≤ k → k < n → pz_lt b len k = true) → (∀ a j, (a ≠ 287 ∨ j ≠ 3) → ν a j = μ1 a j) → ν 287 3 = nI n → fg_wp E yy_Mo_advance (d + 4) 304 304 Q 77 [.ref 287, vx, .int (nI (pz_hv b s (min (n - s) 5)))] [] (ν, fg_rho R, 304) := by
  have hlts := pz_lt_lt g1
  intro m
  induction m with
  | zero => intro n ν h; exact absurd h (Nat.not_lt_zero _)
  | succ m ih =>
    intro n ν hm hsn hnl hdg hag hn3
    refine fg_aloadn (fg_ft (pc := 77) tb_Mo_advance 39 rfl) rfl ?_
    refine fg_aloadn (fg_ft (pc := 78) tb_Mo_advance 40 rfl) rfl ?_
    refine fg_getV (v := (nI n)) (fg_ft (pc := 79) tb_Mo_advance 41 rfl) ff_Mo_74 ly_287 rfl (fg_lt ly_287 (by decide)) hn3 ?_
    refine fg_callV (fg_ft (pc := 82) tb_Mo_advance 42 rfl) cf_Mo_77 (fg_isOf ly_287 rfl (fg_lt ly_287 (by decide))) (as := [.int (nI n)]) (st := []) rfl rfl (Nat.le_of_ble_eq_true rfl) (Nat.le_refl _) (Nat.le_refl _) (ev_Mo_byteAt (k := n) (((hag 287 2 (by omega)).trans hsz)) hle (fun jj hjj => ((hag 288 (10 + jj) (by omega)).trans (hb jj hjj))) (by omega) ?_)
    refine fg_callS (fg_ft (pc := 85) tb_Mo_advance 43 rfl) cf_Mo_87 (as := [.int (fg_by len b n)]) (st := []) rfl rfl (Nat.le_of_ble_eq_true rfl) (Nat.le_refl _) (Nat.le_refl _) (ev_Mo_isLetter ?_)
    refine fg_ifB_eq (tgt := 134) (fg_ft (pc := 88) tb_Mo_advance 44 rfl) (by decide) (fun c88 => ?_) (fun c88 => ?_)
    · have hend : pz_lt b len n = false := by
        cases hh : pz_lt b len n with
        | false => rfl
        | true => exact absurd ((pz_bltI hb256).mpr hh) c88
      have er := pz_ru_of (P := pz_lt b len) (len := len) (n := s) (r := n) hsn hnl hdg hend
      have hsn2 : s < n := by
        rcases Nat.eq_or_lt_of_le hsn with q | q
        · rw [← q, g1] at hend; exact absurd hend (by decide)
        · exact q
      refine fg_aloadn (fg_ft (pc := 134) tb_Mo_advance 70 rfl) rfl ?_
      refine fg_aloadn (fg_ft (pc := 135) tb_Mo_advance 71 rfl) rfl ?_
      refine fg_getV (v := (nI n)) (fg_ft (pc := 136) tb_Mo_advance 72 rfl) ff_Mo_74 ly_287 rfl (fg_lt ly_287 (by decide)) hn3 ?_
      refine fg_aloadn (fg_ft (pc := 139) tb_Mo_advance 73 rfl) rfl ?_
      refine fg_getV (v := (nI s)) (fg_ft (pc := 140) tb_Mo_advance 74 rfl) ff_Mo_81 ly_287 rfl (fg_lt ly_287 (by decide)) ((hag 287 4 (by omega)).trans hs4) ?_
      refine fg_isubN (fg_ft (pc := 143) tb_Mo_advance 75 rfl) (by omega) ?_
      refine fg_iconst (fg_ft (pc := 144) tb_Mo_advance 76 rfl) ic_5 ?_
      refine fg_icmp_leN (tgt := 153) (fg_ft (pc := 145) tb_Mo_advance 77 rfl) (by decide) (by omega) (by decide) (fun c145 => ?_) (fun c145 => ?_)
      · have hwc : pz_wc (pz_hv b s (min (n - s) 5)) = pz_wn (pz_wd b s n) := by
          rw [show min (n - s) 5 = n - s by omega]
          have := pz_wordOf (b := b) (s := s) (k := n - s) (by omega) (by omega) (fun i hi => (of_decide_eq_true (hdg (s + i) (by omega) (by omega))).2)
          rw [show s + (n - s) = n by omega] at this
          exact this
        refine fg_iloadn (fg_ft (pc := 153) tb_Mo_advance 80 rfl) rfl ?_
        refine fg_callS (fg_ft (pc := 154) tb_Mo_advance 81 rfl) cf_Mo_91 (as := [.int (nI (pz_hv b s (min (n - s) 5)))]) (st := [.ref 287]) rfl rfl (Nat.le_of_ble_eq_true rfl) (Nat.le_refl _) (Nat.le_refl _) (ev_Mo_wordOf (v := (pz_hv b s (min (n - s) 5))) (by have := (pz_hv_lt (b := b) (s := s) (min (n - s) 5) (fun i hi => (of_decide_eq_true (hdg (s + i) (by omega) (by omega))).2)).1; have h5 : 32 ^ (min (n - s) 5) ≤ 32 ^ 5 := Nat.pow_le_pow_right (by decide) (by omega); exact Nat.lt_trans (Nat.lt_of_lt_of_le this h5) (by decide)) ?_)
        refine fg_putI (fg_ft (pc := 157) tb_Mo_advance 82 rfl) ff_Mo_94 ly_287 rfl (fg_lt ly_287 (by decide)) (fg_nokI _) (fun _ _ h => by cases h; rfl) ?_
        show fg_wp _ _ _ _ _ _ _ _ _ (fg_u2 ν 287 7 (nI (pz_wc (pz_hv b s (min (n - s) 5)))), fg_rho R, 304)
        refine fg_aloadn (fg_ft (pc := 160) tb_Mo_advance 83 rfl) rfl ?_
        refine fg_aloadn (fg_ft (pc := 161) tb_Mo_advance 84 rfl) rfl ?_
        refine fg_getV (v := (nI (pz_wc (pz_hv b s (min (n - s) 5))))) (fg_ft (pc := 162) tb_Mo_advance 85 rfl) ff_Mo_94 ly_287 rfl (fg_lt ly_287 (by decide)) (show (fg_u2 ν 287 7 (nI (pz_wc (pz_hv b s (min (n - s) 5))))) 287 7 = nI (pz_wc (pz_hv b s (min (n - s) 5))) from fg_u2eq) ?_
        refine fg_bipush (fg_ft (pc := 165) tb_Mo_advance 86 rfl) ib_99 ?_
        refine fg_icmp_neN (tgt := 174) (fg_ft (pc := 167) tb_Mo_advance 87 rfl) (by decide) (by rw [hwc]; exact pz_wn_lt) (by decide) (fun c167 => ?_) (fun c167 => ?_)
        · refine fg_iconst (fg_ft (pc := 174) tb_Mo_advance 90 rfl) ic_3 ?_
          refine fg_putI (fg_ft (pc := 175) tb_Mo_advance 91 rfl) ff_Mo_84 ly_287 rfl (fg_lt ly_287 (by decide)) (fg_nokI _) (fun _ _ h => by cases h; rfl) ?_
          show fg_wp _ _ _ _ _ _ _ _ _ (fg_u2 (fg_u2 ν 287 7 (nI (pz_wc (pz_hv b s (min (n - s) 5))))) 287 5 (nI 3), fg_rho R, 304)
          refine fg_goto (tgt := 306) (fg_ft (pc := 178) tb_Mo_advance 92 rfl) (by decide) ?_
          exact fg_vret (fg_ft (pc := 306) tb_Mo_advance 159 rfl) rfl rfl (by
  have e1 : pz_tk b len n0 = pz_oW s n (pz_wd b s n) := by unfold pz_tk; rw [if_neg g0, hss, if_pos g1, er]
  have e3 : ¬ pz_wd b s n = none := fun hh => c167 (hwc.trans ((pz_wn_99 (fun w h => (pz_wd_sp h).1)).mpr hh))
  obtain ⟨w, e2⟩ : ∃ w, pz_wd b s n = some w := by
    cases hh : pz_wd b s n with
    | none => exact absurd hh e3
    | some w => exact ⟨w, rfl⟩
  rw [e1, e2] at hQ
  exact hQ _ (fun a j h => ((fg_u2nx (by omega)).trans ((fg_u2nx (by omega)).trans ((hag a j (by omega)).trans (hag0 a j h))))) ((fg_u2ns (by decide)).trans ((fg_u2ns (by decide)).trans hn3)) ((fg_u2ns (by decide)).trans ((fg_u2ns (by decide)).trans ((hag 287 4 (by omega)).trans hs4))) fg_u2eq (fun hh => absurd hh (by show ¬ 3 = 1; decide)) (fun _ => by show _ = nI (w + 1); rw [show w + 1 = pz_wn (pz_wd b s n) by rw [e2]; rfl, ← hwc]; exact ((fg_u2ns (by decide)).trans fg_u2eq)))
        · refine fg_iconst (fg_ft (pc := 170) tb_Mo_advance 88 rfl) ic_4 ?_
          refine fg_goto (tgt := 175) (fg_ft (pc := 171) tb_Mo_advance 89 rfl) (by decide) ?_
          refine fg_putI (fg_ft (pc := 175) tb_Mo_advance 91 rfl) ff_Mo_84 ly_287 rfl (fg_lt ly_287 (by decide)) (fg_nokI _) (fun _ _ h => by cases h; rfl) ?_
          show fg_wp _ _ _ _ _ _ _ _ _ (fg_u2 (fg_u2 ν 287 7 (nI (pz_wc (pz_hv b s (min (n - s) 5))))) 287 5 (nI 4), fg_rho R, 304)
          refine fg_goto (tgt := 306) (fg_ft (pc := 178) tb_Mo_advance 92 rfl) (by decide) ?_
          exact fg_vret (fg_ft (pc := 306) tb_Mo_advance 159 rfl) rfl rfl (by
  have e1 : pz_tk b len n0 = pz_oW s n (pz_wd b s n) := by unfold pz_tk; rw [if_neg g0, hss, if_pos g1, er]
  have e2 : pz_wd b s n = none := (pz_wn_99 (fun w h => (pz_wd_sp h).1)).mp (hwc.symm.trans c167)
  rw [e1, e2] at hQ
  exact hQ _ (fun a j h => ((fg_u2nx (by omega)).trans ((fg_u2nx (by omega)).trans ((hag a j (by omega)).trans (hag0 a j h))))) ((fg_u2ns (by decide)).trans ((fg_u2ns (by decide)).trans hn3)) ((fg_u2ns (by decide)).trans ((fg_u2ns (by decide)).trans ((hag 287 4 (by omega)).trans hs4))) fg_u2eq (fun hh => absurd hh (by show ¬ 4 = 1; decide)) (fun hh => absurd hh (by show ¬ 4 = 3; decide)))
      · refine fg_bipush (fg_ft (pc := 148) tb_Mo_advance 78 rfl) ib_99 ?_
        refine fg_goto (tgt := 157) (fg_ft (pc := 150) tb_Mo_advance 79 rfl) (by decide) ?_
        refine fg_putI (fg_ft (pc := 157) tb_Mo_advance 82 rfl) ff_Mo_94 ly_287 rfl (fg_lt ly_287 (by decide)) (fg_nokI _) (fun _ _ h => by cases h; rfl) ?_
        show fg_wp _ _ _ _ _ _ _ _ _ (fg_u2 ν 287 7 (nI 99), fg_rho R, 304)
        refine fg_aloadn (fg_ft (pc := 160) tb_Mo_advance 83 rfl) rfl ?_
        refine fg_aloadn (fg_ft (pc := 161) tb_Mo_advance 84 rfl) rfl ?_
        refine fg_getV (v := (nI 99)) (fg_ft (pc := 162) tb_Mo_advance 85 rfl) ff_Mo_94 ly_287 rfl (fg_lt ly_287 (by decide)) (show (fg_u2 ν 287 7 (nI 99)) 287 7 = nI 99 from fg_u2eq) ?_
        refine fg_bipush (fg_ft (pc := 165) tb_Mo_advance 86 rfl) ib_99 ?_
        refine fg_icmp_neN (tgt := 174) (fg_ft (pc := 167) tb_Mo_advance 87 rfl) (by decide) (by decide) (by decide) (fun c167 => (absurd rfl c167)) (fun c167 => ?_)
        refine fg_iconst (fg_ft (pc := 170) tb_Mo_advance 88 rfl) ic_4 ?_
        refine fg_goto (tgt := 175) (fg_ft (pc := 171) tb_Mo_advance 89 rfl) (by decide) ?_
        refine fg_putI (fg_ft (pc := 175) tb_Mo_advance 91 rfl) ff_Mo_84 ly_287 rfl (fg_lt ly_287 (by decide)) (fg_nokI _) (fun _ _ h => by cases h; rfl) ?_
        show fg_wp _ _ _ _ _ _ _ _ _ (fg_u2 (fg_u2 ν 287 7 (nI 99)) 287 5 (nI 4), fg_rho R, 304)
        refine fg_goto (tgt := 306) (fg_ft (pc := 178) tb_Mo_advance 92 rfl) (by decide) ?_
        exact fg_vret (fg_ft (pc := 306) tb_Mo_advance 159 rfl) rfl rfl (by
  have e1 : pz_tk b len n0 = pz_oW s n (pz_wd b s n) := by unfold pz_tk; rw [if_neg g0, hss, if_pos g1, er]
  have e2 : pz_wd b s n = none := pz_wd_long (by omega)
  rw [e1, e2] at hQ
  exact hQ _ (fun a j h => ((fg_u2nx (by omega)).trans ((fg_u2nx (by omega)).trans ((hag a j (by omega)).trans (hag0 a j h))))) ((fg_u2ns (by decide)).trans ((fg_u2ns (by decide)).trans hn3)) ((fg_u2ns (by decide)).trans ((fg_u2ns (by decide)).trans ((hag 287 4 (by omega)).trans hs4))) fg_u2eq (fun hh => absurd hh (by show ¬ 4 = 1; decide)) (fun hh => absurd hh (by show ¬ 4 = 3; decide)))
    · have hltr := (pz_bltI hb256).mp c88
      have hlt9 := pz_lt_lt hltr
      refine fg_aloadn (fg_ft (pc := 91) tb_Mo_advance 45 rfl) rfl ?_
      refine fg_getV (v := (nI n)) (fg_ft (pc := 92) tb_Mo_advance 46 rfl) ff_Mo_74 ly_287 rfl (fg_lt ly_287 (by decide)) hn3 ?_
      refine fg_aloadn (fg_ft (pc := 95) tb_Mo_advance 47 rfl) rfl ?_
      refine fg_getV (v := (nI s)) (fg_ft (pc := 96) tb_Mo_advance 48 rfl) ff_Mo_81 ly_287 rfl (fg_lt ly_287 (by decide)) ((hag 287 4 (by omega)).trans hs4) ?_
      refine fg_isubN (fg_ft (pc := 99) tb_Mo_advance 49 rfl) (by omega) ?_
      refine fg_iconst (fg_ft (pc := 100) tb_Mo_advance 50 rfl) ic_5 ?_
      refine fg_icmp_geN (tgt := 121) (fg_ft (pc := 101) tb_Mo_advance 51 rfl) (by decide) (by omega) (by decide) (fun c101 => ?_) (fun c101 => ?_)
      · refine fg_aloadn (fg_ft (pc := 121) tb_Mo_advance 63 rfl) rfl ?_
        refine fg_dup (fg_ft (pc := 122) tb_Mo_advance 64 rfl) rfl ?_
        refine fg_getV (v := (nI n)) (fg_ft (pc := 123) tb_Mo_advance 65 rfl) ff_Mo_74 ly_287 rfl (fg_lt ly_287 (by decide)) hn3 ?_
        refine fg_iconst (fg_ft (pc := 126) tb_Mo_advance 66 rfl) ic_1 ?_
        refine fg_iaddN (fg_ft (pc := 127) tb_Mo_advance 67 rfl) ?_
        refine fg_putI (fg_ft (pc := 128) tb_Mo_advance 68 rfl) ff_Mo_74 ly_287 rfl (fg_lt ly_287 (by decide)) (fg_nokI _) (fun _ _ h => by cases h; rfl) ?_
        show fg_wp _ _ _ _ _ _ _ _ _ (fg_u2 ν 287 3 (nI (n + 1)), fg_rho R, 304)
        refine fg_goto (tgt := 77) (fg_ft (pc := 131) tb_Mo_advance 69 rfl) (by decide) ?_
        rw [show nI (pz_hv b s (min (n - s) 5)) = nI (pz_hv b s (min (n + 1 - s) 5)) from congrArg nI (by
          rw [show min (n + 1 - s) 5 = min (n - s) 5 by omega])]
        exact ih (n + 1) _ (by omega) (by omega) (by have := pz_lt_lt hltr; omega) (fun k k1 k2 => by rcases Nat.lt_or_ge k n with q | q; exact hdg k k1 q; rw [show k = n by omega]; exact hltr) (fun a j h => (fg_u2nx (by omega)).trans (hag a j h)) fg_u2eq
      · refine fg_bipush (fg_ft (pc := 104) tb_Mo_advance 52 rfl) ib_32 ?_
        refine fg_iloadn (fg_ft (pc := 106) tb_Mo_advance 53 rfl) rfl ?_
        refine fg_imulN (fg_ft (pc := 107) tb_Mo_advance 54 rfl) ?_
        refine fg_aloadn (fg_ft (pc := 108) tb_Mo_advance 55 rfl) rfl ?_
        refine fg_aloadn (fg_ft (pc := 109) tb_Mo_advance 56 rfl) rfl ?_
        refine fg_getV (v := (nI n)) (fg_ft (pc := 110) tb_Mo_advance 57 rfl) ff_Mo_74 ly_287 rfl (fg_lt ly_287 (by decide)) hn3 ?_
        refine fg_callV (fg_ft (pc := 113) tb_Mo_advance 58 rfl) cf_Mo_77 (fg_isOf ly_287 rfl (fg_lt ly_287 (by decide))) (as := [.int (nI n)]) (st := [.int (nI (32 * (pz_hv b s (min (n - s) 5))))]) rfl rfl (Nat.le_of_ble_eq_true rfl) (Nat.le_refl _) (Nat.le_refl _) (ev_Mo_byteAtD (k := n) (((hag 287 2 (by omega)).trans hsz)) hle (fun jj hjj => ((hag 288 (10 + jj) (by omega)).trans (hb jj hjj))) hb256 (pz_lt_lt hltr) ?_)
        refine fg_iaddN (fg_ft (pc := 116) tb_Mo_advance 59 rfl) ?_
        refine fg_bipush (fg_ft (pc := 117) tb_Mo_advance 60 rfl) ib_96 ?_
        refine fg_isubN (fg_ft (pc := 119) tb_Mo_advance 61 rfl) (by have := (of_decide_eq_true hltr).2.1; omega) ?_
        refine fg_istoren (fg_ft (pc := 120) tb_Mo_advance 62 rfl) (Nat.le_of_ble_eq_true rfl) ?_
        refine fg_aloadn (fg_ft (pc := 121) tb_Mo_advance 63 rfl) rfl ?_
        refine fg_dup (fg_ft (pc := 122) tb_Mo_advance 64 rfl) rfl ?_
        refine fg_getV (v := (nI n)) (fg_ft (pc := 123) tb_Mo_advance 65 rfl) ff_Mo_74 ly_287 rfl (fg_lt ly_287 (by decide)) hn3 ?_
        refine fg_iconst (fg_ft (pc := 126) tb_Mo_advance 66 rfl) ic_1 ?_
        refine fg_iaddN (fg_ft (pc := 127) tb_Mo_advance 67 rfl) ?_
        refine fg_putI (fg_ft (pc := 128) tb_Mo_advance 68 rfl) ff_Mo_74 ly_287 rfl (fg_lt ly_287 (by decide)) (fg_nokI _) (fun _ _ h => by cases h; rfl) ?_
        show fg_wp _ _ _ _ _ _ _ _ _ (fg_u2 ν 287 3 (nI (n + 1)), fg_rho R, 304)
        refine fg_goto (tgt := 77) (fg_ft (pc := 131) tb_Mo_advance 69 rfl) (by decide) ?_
        rw [show nI (((32 * (pz_hv b s (min (n - s) 5))) + (b n)) - 96) = nI (pz_hv b s (min (n + 1 - s) 5)) from congrArg nI (by
          rw [show min (n + 1 - s) 5 = (n - s) + 1 by omega, show min (n - s) 5 = n - s by omega]; show _ = 32 * pz_hv b s (n - s) + (b (s + (n - s)) - 96); rw [show s + (n - s) = n by omega]; have := (of_decide_eq_true hltr).2.1; omega)]
        exact ih (n + 1) _ (by omega) (by omega) (by have := pz_lt_lt hltr; omega) (fun k k1 k2 => by rcases Nat.lt_or_ge k n with q | q; exact hdg k k1 q; rw [show k = n by omega]; exact hltr) (fun a j h => (fg_u2nx (by omega)).trans (hag a j h)) fg_u2eq
theorem pz_adv_dig {E : fg_E} {d : Nat} {μ : Nat → Nat → Int32} {R : fg_T4} {Q : Option Value → fg_M → Prop} {b : Nat → Nat} {len : Nat} (hle : len ≤ 600) (hb256 : ∀ j, b j < 256) {n0 s : Nat} {μ1 : Nat → Nat → Int32} {vx vy : Value} (hss : pz_s b len n0 = s) (g0 : ¬ len ≤ pz_s b len n0) (g1 : ¬ pz_lt b len s = true) (g2 : pz_dg b len s = true) (hsz : μ1 287 2 = nI len) (hb : ∀ j, j < len → μ1 288 (10 + j) = nI (b j)) (hag0 : pz_agM μ μ1) (hs4 : μ1 287 4 = nI s) (hQ : ∀ μ' : Nat → Nat → Int32, pz_agM μ μ' → μ' 287 3 = nI (pz_tk b len n0).2.2.2 → μ' 287 4 = nI (pz_tk b len n0).1 → μ' 287 5 = nI (pz_tk b len n0).2.1 → ((pz_tk b len n0).2.1 = 1 → μ' 287 6 = nI (pz_tk b len n0).2.2.1) → ((pz_tk b len n0).2.1 = 3 → μ' 287 7 = nI ((pz_tk b len n0).2.2.1 + 1)) → Q none (μ', fg_rho R, 304)) : ∀ (m n : Nat) (ν : Nat → Nat → Int32), len - n < m → s ≤ n → n ≤ len → (∀ k, s ≤ k → k < n → pz_dg b len k = true) → (∀ a j, (a ≠ 287 ∨ (j ≠ 3 ∧ j ≠ 6)) → ν a j = μ1 a j) → ν 287 3 = nI n → ν 287 6 = nI (pz_nv b s (min (n - s) 2)) → fg_wp E yy_Mo_advance (d + 4) 304 304 Q 193 [.ref 287, vx, vy] [] (ν, fg_rho R, 304) := by
  intro m
  induction m with
  | zero => intro n ν h; exact absurd h (Nat.not_lt_zero _)
  | succ m ih =>
    intro n ν hm hsn hnl hdg hag hn3 hx
    refine fg_aloadn (fg_ft (pc := 193) tb_Mo_advance 99 rfl) rfl ?_
    refine fg_aloadn (fg_ft (pc := 194) tb_Mo_advance 100 rfl) rfl ?_
    refine fg_getV (v := (nI n)) (fg_ft (pc := 195) tb_Mo_advance 101 rfl) ff_Mo_74 ly_287 rfl (fg_lt ly_287 (by decide)) hn3 ?_
    refine fg_callV (fg_ft (pc := 198) tb_Mo_advance 102 rfl) cf_Mo_77 (fg_isOf ly_287 rfl (fg_lt ly_287 (by decide))) (as := [.int (nI n)]) (st := []) rfl rfl (Nat.le_of_ble_eq_true rfl) (Nat.le_refl _) (Nat.le_refl _) (ev_Mo_byteAt (k := n) (((hag 287 2 (by omega)).trans hsz)) hle (fun jj hjj => ((hag 288 (10 + jj) (by omega)).trans (hb jj hjj))) (by omega) ?_)
    refine fg_callS (fg_ft (pc := 201) tb_Mo_advance 103 rfl) cf_Mo_97 (as := [.int (fg_by len b n)]) (st := []) rfl rfl (Nat.le_of_ble_eq_true rfl) (Nat.le_refl _) (Nat.le_refl _) (ev_Mo_isDigit ?_)
    refine fg_ifB_eq (tgt := 256) (fg_ft (pc := 204) tb_Mo_advance 104 rfl) (by decide) (fun c204 => ?_) (fun c204 => ?_)
    · have hend : pz_dg b len n = false := by
        cases hh : pz_dg b len n with
        | false => rfl
        | true => exact absurd ((pz_bdgI hb256).mpr hh) c204
      have er := pz_ru_of (P := pz_dg b len) (len := len) (n := s) (r := n) hsn hnl hdg hend
      refine fg_aloadn (fg_ft (pc := 256) tb_Mo_advance 132 rfl) rfl ?_
      refine fg_aloadn (fg_ft (pc := 257) tb_Mo_advance 133 rfl) rfl ?_
      refine fg_getV (v := (nI n)) (fg_ft (pc := 258) tb_Mo_advance 134 rfl) ff_Mo_74 ly_287 rfl (fg_lt ly_287 (by decide)) hn3 ?_
      refine fg_aloadn (fg_ft (pc := 261) tb_Mo_advance 135 rfl) rfl ?_
      refine fg_getV (v := (nI s)) (fg_ft (pc := 262) tb_Mo_advance 136 rfl) ff_Mo_81 ly_287 rfl (fg_lt ly_287 (by decide)) ((hag 287 4 (by omega)).trans hs4) ?_
      refine fg_isubN (fg_ft (pc := 265) tb_Mo_advance 137 rfl) (by omega) ?_
      refine fg_iconst (fg_ft (pc := 266) tb_Mo_advance 138 rfl) ic_2 ?_
      refine fg_icmp_leN (tgt := 274) (fg_ft (pc := 267) tb_Mo_advance 139 rfl) (by decide) (by omega) (by decide) (fun c267 => ?_) (fun c267 => ?_)
      · refine fg_iconst (fg_ft (pc := 274) tb_Mo_advance 142 rfl) ic_1 ?_
        refine fg_putI (fg_ft (pc := 275) tb_Mo_advance 143 rfl) ff_Mo_84 ly_287 rfl (fg_lt ly_287 (by decide)) (fg_nokI _) (fun _ _ h => by cases h; rfl) ?_
        show fg_wp _ _ _ _ _ _ _ _ _ (fg_u2 ν 287 5 (nI 1), fg_rho R, 304)
        refine fg_goto (tgt := 306) (fg_ft (pc := 278) tb_Mo_advance 144 rfl) (by decide) ?_
        exact fg_vret (fg_ft (pc := 306) tb_Mo_advance 159 rfl) rfl rfl (by
  have e1 : pz_tk b len n0 = (s, 1, pz_nv b s (n - s), n) := by unfold pz_tk; rw [if_neg g0, hss, if_neg g1, if_pos g2, er, if_pos (by omega)]
  rw [e1] at hQ
  exact hQ _ (fun a j h => ((fg_u2nx (by omega)).trans ((hag a j (by omega)).trans (hag0 a j h)))) ((fg_u2ns (by decide)).trans hn3) ((fg_u2ns (by decide)).trans ((hag 287 4 (by omega)).trans hs4)) fg_u2eq (fun _ => by have h9 : (fg_u2 ν 287 5 (nI 1)) 287 6 = _ := ((fg_u2ns (by decide)).trans hx); rw [show min (n - s) 2 = n - s by omega] at h9; exact h9) (fun hh => absurd hh (by show ¬ 1 = 3; decide)))
      · refine fg_iconst (fg_ft (pc := 270) tb_Mo_advance 140 rfl) ic_4 ?_
        refine fg_goto (tgt := 275) (fg_ft (pc := 271) tb_Mo_advance 141 rfl) (by decide) ?_
        refine fg_putI (fg_ft (pc := 275) tb_Mo_advance 143 rfl) ff_Mo_84 ly_287 rfl (fg_lt ly_287 (by decide)) (fg_nokI _) (fun _ _ h => by cases h; rfl) ?_
        show fg_wp _ _ _ _ _ _ _ _ _ (fg_u2 ν 287 5 (nI 4), fg_rho R, 304)
        refine fg_goto (tgt := 306) (fg_ft (pc := 278) tb_Mo_advance 144 rfl) (by decide) ?_
        exact fg_vret (fg_ft (pc := 306) tb_Mo_advance 159 rfl) rfl rfl (by
  have e1 : pz_tk b len n0 = (s, 4, 0, n) := by unfold pz_tk; rw [if_neg g0, hss, if_neg g1, if_pos g2, er, if_neg (by omega)]
  rw [e1] at hQ
  exact hQ _ (fun a j h => ((fg_u2nx (by omega)).trans ((hag a j (by omega)).trans (hag0 a j h)))) ((fg_u2ns (by decide)).trans hn3) ((fg_u2ns (by decide)).trans ((hag 287 4 (by omega)).trans hs4)) fg_u2eq (fun hh => absurd hh (by show ¬ 4 = 1; decide)) (fun hh => absurd hh (by show ¬ 4 = 3; decide)))
    · have hdgt := (pz_bdgI hb256).mp c204
      have hlt9 := pz_dg_lt hdgt
      refine fg_aloadn (fg_ft (pc := 207) tb_Mo_advance 105 rfl) rfl ?_
      refine fg_getV (v := (nI n)) (fg_ft (pc := 208) tb_Mo_advance 106 rfl) ff_Mo_74 ly_287 rfl (fg_lt ly_287 (by decide)) hn3 ?_
      refine fg_aloadn (fg_ft (pc := 211) tb_Mo_advance 107 rfl) rfl ?_
      refine fg_getV (v := (nI s)) (fg_ft (pc := 212) tb_Mo_advance 108 rfl) ff_Mo_81 ly_287 rfl (fg_lt ly_287 (by decide)) ((hag 287 4 (by omega)).trans hs4) ?_
      refine fg_isubN (fg_ft (pc := 215) tb_Mo_advance 109 rfl) (by omega) ?_
      refine fg_iconst (fg_ft (pc := 216) tb_Mo_advance 110 rfl) ic_2 ?_
      refine fg_icmp_geN (tgt := 243) (fg_ft (pc := 217) tb_Mo_advance 111 rfl) (by decide) (by omega) (by decide) (fun c217 => ?_) (fun c217 => ?_)
      · refine fg_aloadn (fg_ft (pc := 243) tb_Mo_advance 125 rfl) rfl ?_
        refine fg_dup (fg_ft (pc := 244) tb_Mo_advance 126 rfl) rfl ?_
        refine fg_getV (v := (nI n)) (fg_ft (pc := 245) tb_Mo_advance 127 rfl) ff_Mo_74 ly_287 rfl (fg_lt ly_287 (by decide)) hn3 ?_
        refine fg_iconst (fg_ft (pc := 248) tb_Mo_advance 128 rfl) ic_1 ?_
        refine fg_iaddN (fg_ft (pc := 249) tb_Mo_advance 129 rfl) ?_
        refine fg_putI (fg_ft (pc := 250) tb_Mo_advance 130 rfl) ff_Mo_74 ly_287 rfl (fg_lt ly_287 (by decide)) (fg_nokI _) (fun _ _ h => by cases h; rfl) ?_
        show fg_wp _ _ _ _ _ _ _ _ _ (fg_u2 ν 287 3 (nI (n + 1)), fg_rho R, 304)
        refine fg_goto (tgt := 193) (fg_ft (pc := 253) tb_Mo_advance 131 rfl) (by decide) ?_
        refine ih (n + 1) _ (by omega) (by omega) (by have := pz_dg_lt hdgt; omega) (fun k k1 k2 => by rcases Nat.lt_or_ge k n with q | q; exact hdg k k1 q; rw [show k = n by omega]; exact hdgt) (fun a j h => ((fg_u2nx (by omega)).trans (hag a j h))) fg_u2eq ?_
        rw [show min (n + 1 - s) 2 = min (n - s) 2 by omega]; exact (fg_u2ns (by decide)).trans hx
      · refine fg_aloadn (fg_ft (pc := 220) tb_Mo_advance 112 rfl) rfl ?_
        refine fg_bipush (fg_ft (pc := 221) tb_Mo_advance 113 rfl) ib_10 ?_
        refine fg_aloadn (fg_ft (pc := 223) tb_Mo_advance 114 rfl) rfl ?_
        refine fg_getV (v := (nI (pz_nv b s (min (n - s) 2)))) (fg_ft (pc := 224) tb_Mo_advance 115 rfl) ff_Mo_100 ly_287 rfl (fg_lt ly_287 (by decide)) hx ?_
        refine fg_imulN (fg_ft (pc := 227) tb_Mo_advance 116 rfl) ?_
        refine fg_aloadn (fg_ft (pc := 228) tb_Mo_advance 117 rfl) rfl ?_
        refine fg_aloadn (fg_ft (pc := 229) tb_Mo_advance 118 rfl) rfl ?_
        refine fg_getV (v := (nI n)) (fg_ft (pc := 230) tb_Mo_advance 119 rfl) ff_Mo_74 ly_287 rfl (fg_lt ly_287 (by decide)) hn3 ?_
        refine fg_callV (fg_ft (pc := 233) tb_Mo_advance 120 rfl) cf_Mo_77 (fg_isOf ly_287 rfl (fg_lt ly_287 (by decide))) (as := [.int (nI n)]) (st := [.int (nI (10 * (pz_nv b s (min (n - s) 2)))), .ref 287]) rfl rfl (Nat.le_of_ble_eq_true rfl) (Nat.le_refl _) (Nat.le_refl _) (ev_Mo_byteAtD (k := n) (((hag 287 2 (by omega)).trans hsz)) hle (fun jj hjj => ((hag 288 (10 + jj) (by omega)).trans (hb jj hjj))) hb256 (pz_dg_lt hdgt) ?_)
        refine fg_iaddN (fg_ft (pc := 236) tb_Mo_advance 121 rfl) ?_
        refine fg_bipush (fg_ft (pc := 237) tb_Mo_advance 122 rfl) ib_48 ?_
        refine fg_isubN (fg_ft (pc := 239) tb_Mo_advance 123 rfl) (by have := (of_decide_eq_true hdgt).2.1; omega) ?_
        refine fg_putI (fg_ft (pc := 240) tb_Mo_advance 124 rfl) ff_Mo_100 ly_287 rfl (fg_lt ly_287 (by decide)) (fg_nokI _) (fun _ _ h => by cases h; rfl) ?_
        show fg_wp _ _ _ _ _ _ _ _ _ (fg_u2 ν 287 6 (nI (((10 * (pz_nv b s (min (n - s) 2))) + (b n)) - 48)), fg_rho R, 304)
        refine fg_aloadn (fg_ft (pc := 243) tb_Mo_advance 125 rfl) rfl ?_
        refine fg_dup (fg_ft (pc := 244) tb_Mo_advance 126 rfl) rfl ?_
        refine fg_getV (v := (nI n)) (fg_ft (pc := 245) tb_Mo_advance 127 rfl) ff_Mo_74 ly_287 rfl (fg_lt ly_287 (by decide)) ((fg_u2ns (f := ν) (a := 287) (k := 6) (b := 287) (j := 3) (x := (nI (((10 * (pz_nv b s (min (n - s) 2))) + (b n)) - 48))) (by decide)).trans hn3) ?_
        refine fg_iconst (fg_ft (pc := 248) tb_Mo_advance 128 rfl) ic_1 ?_
        refine fg_iaddN (fg_ft (pc := 249) tb_Mo_advance 129 rfl) ?_
        refine fg_putI (fg_ft (pc := 250) tb_Mo_advance 130 rfl) ff_Mo_74 ly_287 rfl (fg_lt ly_287 (by decide)) (fg_nokI _) (fun _ _ h => by cases h; rfl) ?_
        show fg_wp _ _ _ _ _ _ _ _ _ (fg_u2 (fg_u2 ν 287 6 (nI (((10 * (pz_nv b s (min (n - s) 2))) + (b n)) - 48))) 287 3 (nI (n + 1)), fg_rho R, 304)
        refine fg_goto (tgt := 193) (fg_ft (pc := 253) tb_Mo_advance 131 rfl) (by decide) ?_
        refine ih (n + 1) _ (by omega) (by omega) (by have := pz_dg_lt hdgt; omega) (fun k k1 k2 => by rcases Nat.lt_or_ge k n with q | q; exact hdg k k1 q; rw [show k = n by omega]; exact hdgt) (fun a j h => ((fg_u2nx (by omega)).trans ((fg_u2nx (by omega)).trans (hag a j h)))) fg_u2eq ?_
        refine (fg_u2ns (by decide)).trans (fg_u2eq.trans (congrArg nI ?_))
        rw [show min (n + 1 - s) 2 = (n - s) + 1 by omega, show min (n - s) 2 = n - s by omega]; show _ = pz_nv b s (n - s) * 10 + (b (s + (n - s)) - 48); rw [show s + (n - s) = n by omega]; have := (of_decide_eq_true hdgt).2.1; omega
theorem ev_Mo_advance {E : fg_E} {d : Nat} {μ : Nat → Nat → Int32} {R : fg_T4} {Q : Option Value → fg_M → Prop} {b : Nat → Nat} {len : Nat} (hsz : μ 287 2 = nI len) (hle : len ≤ 600) (hb : ∀ j, j < len → μ 288 (10 + j) = nI (b j)) (hb256 : ∀ j, b j < 256) {n0 : Nat} (h3 : μ 287 3 = nI n0) (hn0 : n0 ≤ len) (hQ : ∀ μ' : Nat → Nat → Int32, pz_agM μ μ' → μ' 287 3 = nI (pz_tk b len n0).2.2.2 → μ' 287 4 = nI (pz_tk b len n0).1 → μ' 287 5 = nI (pz_tk b len n0).2.1 → ((pz_tk b len n0).2.1 = 1 → μ' 287 6 = nI (pz_tk b len n0).2.2.1) → ((pz_tk b len n0).2.1 = 3 → μ' 287 7 = nI ((pz_tk b len n0).2.2.1 + 1)) → Q none (μ', fg_rho R, 304)) : fg_Ev E yy_Mo_advance (d + 4) [.ref 287] (μ, fg_rho R, 304) 304 Q := by
  have rest : ∀ (s : Nat) (ν : Nat → Nat → Int32), pz_s b len n0 = s → s ≤ len → pz_agM μ ν → ν 287 3 = nI s → fg_wp E yy_Mo_advance (d + 4) 304 304 Q 39 [.ref 287, .retAddr 0, .retAddr 0] [] (ν, fg_rho R, 304) := by
    intro s ν hss hsl hag hn3
    refine fg_aloadn (fg_ft (pc := 39) tb_Mo_advance 19 rfl) rfl ?_
    refine fg_aloadn (fg_ft (pc := 40) tb_Mo_advance 20 rfl) rfl ?_
    refine fg_getV (v := (nI s)) (fg_ft (pc := 41) tb_Mo_advance 21 rfl) ff_Mo_74 ly_287 rfl (fg_lt ly_287 (by decide)) hn3 ?_
    refine fg_putI (fg_ft (pc := 44) tb_Mo_advance 22 rfl) ff_Mo_81 ly_287 rfl (fg_lt ly_287 (by decide)) (fg_nokI _) (fun _ _ h => by cases h; rfl) ?_
    show fg_wp _ _ _ _ _ _ _ _ _ (fg_u2 ν 287 4 (nI s), fg_rho R, 304)
    refine fg_aloadn (fg_ft (pc := 47) tb_Mo_advance 23 rfl) rfl ?_
    refine fg_aloadn (fg_ft (pc := 48) tb_Mo_advance 24 rfl) rfl ?_
    refine fg_getV (v := (nI s)) (fg_ft (pc := 49) tb_Mo_advance 25 rfl) ff_Mo_74 ly_287 rfl (fg_lt ly_287 (by decide)) ((fg_u2ns (f := ν) (a := 287) (k := 4) (b := 287) (j := 3) (x := (nI s)) (by decide)).trans hn3) ?_
    refine fg_callV (fg_ft (pc := 52) tb_Mo_advance 26 rfl) cf_Mo_77 (fg_isOf ly_287 rfl (fg_lt ly_287 (by decide))) (as := [.int (nI s)]) (st := []) rfl rfl (Nat.le_of_ble_eq_true rfl) (Nat.le_refl _) (Nat.le_refl _) (ev_Mo_byteAt (k := s) (((fg_u2ns (f := ν) (a := 287) (k := 4) (b := 287) (j := 2) (x := (nI s)) (by decide)).trans ((hag 287 2 (by omega)).trans hsz))) hle (fun jj hjj => ((fg_u2ne (by decide)).trans ((hag 288 (10 + jj) (by omega)).trans (hb jj hjj)))) (by omega) ?_)
    refine fg_istoren (fg_ft (pc := 55) tb_Mo_advance 27 rfl) (Nat.le_of_ble_eq_true rfl) ?_
    refine fg_iloadn (fg_ft (pc := 56) tb_Mo_advance 28 rfl) rfl ?_
    refine fg_if_ge (tgt := 68) (fg_ft (pc := 57) tb_Mo_advance 29 rfl) (by decide) (fun c57 => ?_) (fun c57 => ?_)
    · have g0 : ¬ len ≤ pz_s b len n0 := by
        rw [hss]
        intro hh
        have g9 := (pz_byn (len := len) (k := s) hb256).mpr (by omega)
        first
        | exact c57 g9
        | exact absurd g9 (Int32.not_lt.mpr c57)
      refine fg_iloadn (fg_ft (pc := 68) tb_Mo_advance 34 rfl) rfl ?_
      refine fg_callS (fg_ft (pc := 69) tb_Mo_advance 35 rfl) cf_Mo_87 (as := [.int (fg_by len b s)]) (st := []) rfl rfl (Nat.le_of_ble_eq_true rfl) (Nat.le_refl _) (Nat.le_refl _) (ev_Mo_isLetter ?_)
      refine fg_ifB_eq (tgt := 181) (fg_ft (pc := 72) tb_Mo_advance 36 rfl) (by decide) (fun c72 => ?_) (fun c72 => ?_)
      · have g1 : ¬ pz_lt b len s = true := fun hh => c72 ((pz_bltI hb256).mpr hh)
        refine fg_iloadn (fg_ft (pc := 181) tb_Mo_advance 93 rfl) rfl ?_
        refine fg_callS (fg_ft (pc := 182) tb_Mo_advance 94 rfl) cf_Mo_97 (as := [.int (fg_by len b s)]) (st := []) rfl rfl (Nat.le_of_ble_eq_true rfl) (Nat.le_refl _) (Nat.le_refl _) (ev_Mo_isDigit ?_)
        refine fg_ifB_eq (tgt := 281) (fg_ft (pc := 185) tb_Mo_advance 95 rfl) (by decide) (fun c185 => ?_) (fun c185 => ?_)
        · have g2 : ¬ pz_dg b len s = true := fun hh => c185 ((pz_bdgI hb256).mpr hh)
          refine fg_aloadn (fg_ft (pc := 281) tb_Mo_advance 145 rfl) rfl ?_
          refine fg_dup (fg_ft (pc := 282) tb_Mo_advance 146 rfl) rfl ?_
          refine fg_getV (v := (nI s)) (fg_ft (pc := 283) tb_Mo_advance 147 rfl) ff_Mo_74 ly_287 rfl (fg_lt ly_287 (by decide)) ((fg_u2ns (f := ν) (a := 287) (k := 4) (b := 287) (j := 3) (x := (nI s)) (by decide)).trans hn3) ?_
          refine fg_iconst (fg_ft (pc := 286) tb_Mo_advance 148 rfl) ic_1 ?_
          refine fg_iaddN (fg_ft (pc := 287) tb_Mo_advance 149 rfl) ?_
          refine fg_putI (fg_ft (pc := 288) tb_Mo_advance 150 rfl) ff_Mo_74 ly_287 rfl (fg_lt ly_287 (by decide)) (fg_nokI _) (fun _ _ h => by cases h; rfl) ?_
          show fg_wp _ _ _ _ _ _ _ _ _ (fg_u2 (fg_u2 ν 287 4 (nI s)) 287 3 (nI (s + 1)), fg_rho R, 304)
          refine fg_aloadn (fg_ft (pc := 291) tb_Mo_advance 151 rfl) rfl ?_
          refine fg_iloadn (fg_ft (pc := 292) tb_Mo_advance 152 rfl) rfl ?_
          refine fg_bipush (fg_ft (pc := 293) tb_Mo_advance 153 rfl) ib_59 ?_
          refine fg_icmp_ne (tgt := 302) (fg_ft (pc := 295) tb_Mo_advance 154 rfl) (by decide) (fun c295 => ?_) (fun c295 => ?_)
          · have g3 : ¬ b s = 59 := fun hh => c295 ((pz_beq hb256 (by decide)).mpr ⟨by omega, hh⟩)
            refine fg_iconst (fg_ft (pc := 302) tb_Mo_advance 157 rfl) ic_4 ?_
            refine fg_putI (fg_ft (pc := 303) tb_Mo_advance 158 rfl) ff_Mo_84 ly_287 rfl (fg_lt ly_287 (by decide)) (fg_nokI _) (fun _ _ h => by cases h; rfl) ?_
            show fg_wp _ _ _ _ _ _ _ _ _ (fg_u2 (fg_u2 (fg_u2 ν 287 4 (nI s)) 287 3 (nI (s + 1))) 287 5 (nI 4), fg_rho R, 304)
            exact fg_vret (fg_ft (pc := 306) tb_Mo_advance 159 rfl) rfl rfl (by
  have e1 : pz_tk b len n0 = (s, 4, 0, s + 1) := by unfold pz_tk; rw [if_neg g0, hss, if_neg g1, if_neg g2, if_neg g3]
  rw [e1] at hQ
  exact hQ _ (fun a j h => ((fg_u2nx (by omega)).trans ((fg_u2nx (by omega)).trans ((fg_u2nx (by omega)).trans (hag a j h))))) ((fg_u2ns (by decide)).trans fg_u2eq) ((fg_u2ns (by decide)).trans ((fg_u2ns (by decide)).trans fg_u2eq)) fg_u2eq (fun hh => absurd hh (by show ¬ 4 = 1; decide)) (fun hh => absurd hh (by show ¬ 4 = 3; decide)))
          · have g3 : b s = 59 := ((pz_beq hb256 (by decide)).mp c295).2
            refine fg_iconst (fg_ft (pc := 298) tb_Mo_advance 155 rfl) ic_2 ?_
            refine fg_goto (tgt := 303) (fg_ft (pc := 299) tb_Mo_advance 156 rfl) (by decide) ?_
            refine fg_putI (fg_ft (pc := 303) tb_Mo_advance 158 rfl) ff_Mo_84 ly_287 rfl (fg_lt ly_287 (by decide)) (fg_nokI _) (fun _ _ h => by cases h; rfl) ?_
            show fg_wp _ _ _ _ _ _ _ _ _ (fg_u2 (fg_u2 (fg_u2 ν 287 4 (nI s)) 287 3 (nI (s + 1))) 287 5 (nI 2), fg_rho R, 304)
            exact fg_vret (fg_ft (pc := 306) tb_Mo_advance 159 rfl) rfl rfl (by
  have e1 : pz_tk b len n0 = (s, 2, 0, s + 1) := by unfold pz_tk; rw [if_neg g0, hss, if_neg g1, if_neg g2, if_pos g3]
  rw [e1] at hQ
  exact hQ _ (fun a j h => ((fg_u2nx (by omega)).trans ((fg_u2nx (by omega)).trans ((fg_u2nx (by omega)).trans (hag a j h))))) ((fg_u2ns (by decide)).trans fg_u2eq) ((fg_u2ns (by decide)).trans ((fg_u2ns (by decide)).trans fg_u2eq)) fg_u2eq (fun hh => absurd hh (by show ¬ 2 = 1; decide)) (fun hh => absurd hh (by show ¬ 2 = 3; decide)))
        · have g2 := (pz_bdgI hb256).mp c185
          refine fg_aloadn (fg_ft (pc := 188) tb_Mo_advance 96 rfl) rfl ?_
          refine fg_iconst (fg_ft (pc := 189) tb_Mo_advance 97 rfl) ic_0 ?_
          refine fg_putI (fg_ft (pc := 190) tb_Mo_advance 98 rfl) ff_Mo_100 ly_287 rfl (fg_lt ly_287 (by decide)) (fg_nokI _) (fun _ _ h => by cases h; rfl) ?_
          show fg_wp _ _ _ _ _ _ _ _ _ (fg_u2 (fg_u2 ν 287 4 (nI s)) 287 6 (nI 0), fg_rho R, 304)
          exact pz_adv_dig hle hb256 hss g0 g1 g2 ((fg_u2ns (f := (fg_u2 ν 287 4 (nI s))) (a := 287) (k := 6) (b := 287) (j := 2) (x := (nI 0)) (by decide)).trans ((fg_u2ns (f := ν) (a := 287) (k := 4) (b := 287) (j := 2) (x := (nI s)) (by decide)).trans ((hag 287 2 (by omega)).trans hsz))) (fun jj hjj => (fg_u2ne (by decide)).trans ((fg_u2ne (by decide)).trans ((hag 288 (10 + jj) (by omega)).trans (hb jj hjj)))) (fun a j h => ((fg_u2nx (by omega)).trans ((fg_u2nx (by omega)).trans (hag a j h)))) ((fg_u2ns (by decide)).trans fg_u2eq) hQ (len + 1) s _ (by omega) (Nat.le_refl _) (by have := pz_dg_lt g2; omega) (fun k k1 k2 => absurd k2 (by omega)) (fun _ _ _ => rfl) ((fg_u2ns (f := (fg_u2 ν 287 4 (nI s))) (a := 287) (k := 6) (b := 287) (j := 3) (x := (nI 0)) (by decide)).trans ((fg_u2ns (f := ν) (a := 287) (k := 4) (b := 287) (j := 3) (x := (nI s)) (by decide)).trans hn3)) (by rw [Nat.sub_self]; exact fg_u2eq)
      · have g1 := (pz_bltI hb256).mp c72
        refine fg_iconst (fg_ft (pc := 75) tb_Mo_advance 37 rfl) ic_0 ?_
        refine fg_istoren (fg_ft (pc := 76) tb_Mo_advance 38 rfl) (Nat.le_of_ble_eq_true rfl) ?_
        have h9 := pz_adv_let (E := E) (d := d) (vx := .int (fg_by len b s)) hle hb256 hss g0 g1 ((fg_u2ns (f := ν) (a := 287) (k := 4) (b := 287) (j := 2) (x := (nI s)) (by decide)).trans ((hag 287 2 (by omega)).trans hsz)) (fun jj hjj => (fg_u2ne (by decide)).trans ((hag 288 (10 + jj) (by omega)).trans (hb jj hjj))) (fun a j h => ((fg_u2nx (by omega)).trans (hag a j h))) fg_u2eq hQ (len + 1) s _ (by omega) (Nat.le_refl _) (by have := pz_lt_lt g1; omega) (fun k k1 k2 => absurd k2 (by omega)) (fun _ _ _ => rfl) ((fg_u2ns (f := ν) (a := 287) (k := 4) (b := 287) (j := 3) (x := (nI s)) (by decide)).trans hn3)
        rw [show pz_hv b s (min (s - s) 5) = 0 by rw [Nat.sub_self]; rfl] at h9
        exact h9
    · have g0 : len ≤ pz_s b len n0 := by
        rw [hss]
        have g9 := (pz_byn (len := len) (k := s) hb256)
        first
        | (have := g9.mp c57; omega)
        | (have := g9.mp (Int32.not_le.mp c57); omega)
      refine fg_aloadn (fg_ft (pc := 60) tb_Mo_advance 30 rfl) rfl ?_
      refine fg_iconst (fg_ft (pc := 61) tb_Mo_advance 31 rfl) ic_0 ?_
      refine fg_putI (fg_ft (pc := 62) tb_Mo_advance 32 rfl) ff_Mo_84 ly_287 rfl (fg_lt ly_287 (by decide)) (fg_nokI _) (fun _ _ h => by cases h; rfl) ?_
      show fg_wp _ _ _ _ _ _ _ _ _ (fg_u2 (fg_u2 ν 287 4 (nI s)) 287 5 (nI 0), fg_rho R, 304)
      refine fg_goto (tgt := 306) (fg_ft (pc := 65) tb_Mo_advance 33 rfl) (by decide) ?_
      exact fg_vret (fg_ft (pc := 306) tb_Mo_advance 159 rfl) rfl rfl (by
  have e1 : pz_tk b len n0 = (s, 0, 0, s) := by unfold pz_tk; rw [if_pos g0]; rw [hss]
  rw [e1] at hQ
  exact hQ _ (fun a j h => ((fg_u2nx (by omega)).trans ((fg_u2nx (by omega)).trans (hag a j h)))) ((fg_u2ns (by decide)).trans ((fg_u2ns (by decide)).trans hn3)) ((fg_u2ns (by decide)).trans fg_u2eq) fg_u2eq (fun hh => absurd hh (by show ¬ 0 = 1; decide)) (fun hh => absurd hh (by show ¬ 0 = 3; decide)))
  have loop : ∀ (m n : Nat) (ν : Nat → Nat → Int32), len - n < m → n0 ≤ n → n ≤ len → (∀ k, n0 ≤ k → k < n → pz_bl b len k = true) → pz_agM μ ν → ν 287 3 = nI n → fg_wp E yy_Mo_advance (d + 4) 304 304 Q 0 [.ref 287, .retAddr 0, .retAddr 0] [] (ν, fg_rho R, 304) := by
    intro m
    induction m with
    | zero => intro n ν h; exact absurd h (Nat.not_lt_zero _)
    | succ m ih =>
      intro n ν hm hsn hnl hdg hag hn3
      refine fg_aloadn (fg_ft (pc := 0) tb_Mo_advance 0 rfl) rfl ?_
      refine fg_aloadn (fg_ft (pc := 1) tb_Mo_advance 1 rfl) rfl ?_
      refine fg_getV (v := (nI n)) (fg_ft (pc := 2) tb_Mo_advance 2 rfl) ff_Mo_74 ly_287 rfl (fg_lt ly_287 (by decide)) hn3 ?_
      refine fg_callV (fg_ft (pc := 5) tb_Mo_advance 3 rfl) cf_Mo_77 (fg_isOf ly_287 rfl (fg_lt ly_287 (by decide))) (as := [.int (nI n)]) (st := []) rfl rfl (Nat.le_of_ble_eq_true rfl) (Nat.le_refl _) (Nat.le_refl _) (ev_Mo_byteAt (k := n) (((hag 287 2 (by omega)).trans hsz)) hle (fun jj hjj => ((hag 288 (10 + jj) (by omega)).trans (hb jj hjj))) (by omega) ?_)
      refine fg_bipush (fg_ft (pc := 8) tb_Mo_advance 4 rfl) ib_10 ?_
      refine fg_icmp_eq (tgt := 26) (fg_ft (pc := 10) tb_Mo_advance 5 rfl) (by decide) (fun c10 => ?_) (fun c10 => ?_)
      · refine fg_aloadn (fg_ft (pc := 26) tb_Mo_advance 12 rfl) rfl ?_
        refine fg_dup (fg_ft (pc := 27) tb_Mo_advance 13 rfl) rfl ?_
        refine fg_getV (v := (nI n)) (fg_ft (pc := 28) tb_Mo_advance 14 rfl) ff_Mo_74 ly_287 rfl (fg_lt ly_287 (by decide)) hn3 ?_
        refine fg_iconst (fg_ft (pc := 31) tb_Mo_advance 15 rfl) ic_1 ?_
        refine fg_iaddN (fg_ft (pc := 32) tb_Mo_advance 16 rfl) ?_
        refine fg_putI (fg_ft (pc := 33) tb_Mo_advance 17 rfl) ff_Mo_74 ly_287 rfl (fg_lt ly_287 (by decide)) (fg_nokI _) (fun _ _ h => by cases h; rfl) ?_
        show fg_wp _ _ _ _ _ _ _ _ _ (fg_u2 ν 287 3 (nI (n + 1)), fg_rho R, 304)
        refine fg_goto (tgt := 0) (fg_ft (pc := 36) tb_Mo_advance 18 rfl) (by decide) ?_
        have hb9 : n < len ∧ (b n = 10 ∨ b n = 32) := by
          first
          | exact ⟨((pz_beq hb256 (by decide)).mp c10).1, Or.inl ((pz_beq hb256 (by decide)).mp c10).2⟩
          | exact ⟨((pz_beq hb256 (by decide)).mp c23).1, Or.inr ((pz_beq hb256 (by decide)).mp c23).2⟩
        exact ih (n + 1) _ (by omega) (by omega) (by omega) (fun k k1 k2 => by rcases Nat.lt_or_ge k n with q | q; exact hdg k k1 q; rw [show k = n by omega]; exact decide_eq_true hb9) (fun a j h => (fg_u2nx (by omega)).trans (hag a j h)) fg_u2eq
      · refine fg_aloadn (fg_ft (pc := 13) tb_Mo_advance 6 rfl) rfl ?_
        refine fg_aloadn (fg_ft (pc := 14) tb_Mo_advance 7 rfl) rfl ?_
        refine fg_getV (v := (nI n)) (fg_ft (pc := 15) tb_Mo_advance 8 rfl) ff_Mo_74 ly_287 rfl (fg_lt ly_287 (by decide)) hn3 ?_
        refine fg_callV (fg_ft (pc := 18) tb_Mo_advance 9 rfl) cf_Mo_77 (fg_isOf ly_287 rfl (fg_lt ly_287 (by decide))) (as := [.int (nI n)]) (st := []) rfl rfl (Nat.le_of_ble_eq_true rfl) (Nat.le_refl _) (Nat.le_refl _) (ev_Mo_byteAt (k := n) (((hag 287 2 (by omega)).trans hsz)) hle (fun jj hjj => ((hag 288 (10 + jj) (by omega)).trans (hb jj hjj))) (by omega) ?_)
        refine fg_bipush (fg_ft (pc := 21) tb_Mo_advance 10 rfl) ib_32 ?_
        refine fg_icmp_ne (tgt := 39) (fg_ft (pc := 23) tb_Mo_advance 11 rfl) (by decide) (fun c23 => ?_) (fun c23 => ?_)
        · have hend : pz_bl b len n = false := by
            cases hh : pz_bl b len n with
            | false => rfl
            | true =>
              have h9 := of_decide_eq_true hh
              rcases h9.2 with q | q
              · exact absurd ((pz_beq hb256 (by decide)).mpr ⟨h9.1, q⟩) c10
              · exact absurd ((pz_beq hb256 (by decide)).mpr ⟨h9.1, q⟩) c23
          have er : pz_s b len n0 = n := pz_ru_of (P := pz_bl b len) (len := len) (n := n0) (r := n) hsn hnl hdg hend
          exact rest n _ er hnl hag hn3
        · refine fg_aloadn (fg_ft (pc := 26) tb_Mo_advance 12 rfl) rfl ?_
          refine fg_dup (fg_ft (pc := 27) tb_Mo_advance 13 rfl) rfl ?_
          refine fg_getV (v := (nI n)) (fg_ft (pc := 28) tb_Mo_advance 14 rfl) ff_Mo_74 ly_287 rfl (fg_lt ly_287 (by decide)) hn3 ?_
          refine fg_iconst (fg_ft (pc := 31) tb_Mo_advance 15 rfl) ic_1 ?_
          refine fg_iaddN (fg_ft (pc := 32) tb_Mo_advance 16 rfl) ?_
          refine fg_putI (fg_ft (pc := 33) tb_Mo_advance 17 rfl) ff_Mo_74 ly_287 rfl (fg_lt ly_287 (by decide)) (fg_nokI _) (fun _ _ h => by cases h; rfl) ?_
          show fg_wp _ _ _ _ _ _ _ _ _ (fg_u2 ν 287 3 (nI (n + 1)), fg_rho R, 304)
          refine fg_goto (tgt := 0) (fg_ft (pc := 36) tb_Mo_advance 18 rfl) (by decide) ?_
          have hb9 : n < len ∧ (b n = 10 ∨ b n = 32) := by
            first
            | exact ⟨((pz_beq hb256 (by decide)).mp c10).1, Or.inl ((pz_beq hb256 (by decide)).mp c10).2⟩
            | exact ⟨((pz_beq hb256 (by decide)).mp c23).1, Or.inr ((pz_beq hb256 (by decide)).mp c23).2⟩
          exact ih (n + 1) _ (by omega) (by omega) (by omega) (fun k k1 k2 => by rcases Nat.lt_or_ge k n with q | q; exact hdg k k1 q; rw [show k = n by omega]; exact decide_eq_true hb9) (fun a j h => (fg_u2nx (by omega)).trans (hag a j h)) fg_u2eq
  refine fg_intro (by decide +kernel) (Nat.le_of_ble_eq_true rfl) (fg_okAs rfl) (Nat.le_refl _) ?_
  exact loop (len + 1) n0 μ (by omega) (Nat.le_refl _) hn0 (fun k k1 k2 => absurd k2 (by omega)) (fun a j h => rfl) h3
