/-! the reference's order -/
def fg_agG (μ μ' : Nat → Nat → Int32) : Prop := ∀ a, a ≠ 303 → ∀ j, μ' a j = μ a j
theorem fg_sub1 (j : Nat) : nI j + Int32.ofInt (-1) = nI j - nI 1 := by
  rw [Int32.sub_eq_add_neg]; rfl
theorem fg_sub2 (j : Nat) : nI (j + 1) - nI 1 = nI j := by
  rw [nI_sub (by omega), Nat.add_sub_cancel]
theorem ev_Mo_power {E : fg_E} {d : Nat} {μ : Nat → Nat → Int32} {R : fg_T4} {Q : Option Value → fg_M → Prop} {k : Nat} (hk : k ≤ 5) (hQ : Q (some (.int (nI (k ^ k)))) (μ, fg_rho R, 304)) : fg_Ev E yy_Mo_power (d + 1) [.int (nI k)] (μ, fg_rho R, 304) 304 Q := by
  have loop : ∀ (m i : Nat), k - i < m → i ≤ k → fg_wp E yy_Mo_power (d + 1) 304 304 Q 4 [.int (nI k), .int (nI (k ^ i)), .int (nI i)] [] (μ, fg_rho R, 304) := by
    intro m
    induction m with
    | zero => intro i h; exact absurd h (Nat.not_lt_zero _)
    | succ m ih =>
      intro i hm hi
      refine fg_iloadn (fg_ft (pc := 4) tb_Mo_power 4 rfl) rfl ?_
      refine fg_iloadn (fg_ft (pc := 5) tb_Mo_power 5 rfl) rfl ?_
      refine fg_icmp_geN (tgt := 19) (fg_ft (pc := 6) tb_Mo_power 6 rfl) (by decide) (by omega) (by omega) (fun c6 => ?_) (fun c6 => ?_)
      · refine fg_iloadn (fg_ft (pc := 19) tb_Mo_power 13 rfl) rfl ?_
        exact fg_iret (fg_ft (pc := 20) tb_Mo_power 14 rfl) rfl rfl (by rw [show k ^ k = k ^ i by rw [show k = i by omega]] at hQ; exact hQ)
      · refine fg_iloadn (fg_ft (pc := 9) tb_Mo_power 7 rfl) rfl ?_
        refine fg_iloadn (fg_ft (pc := 10) tb_Mo_power 8 rfl) rfl ?_
        refine fg_imulN (fg_ft (pc := 11) tb_Mo_power 9 rfl) ?_
        refine fg_istoren (fg_ft (pc := 12) tb_Mo_power 10 rfl) (Nat.le_of_ble_eq_true rfl) ?_
        refine fg_iincN (fg_ft (pc := 13) tb_Mo_power 11 rfl) rfl ic_1 rfl ?_
        refine fg_goto (tgt := 4) (fg_ft (pc := 16) tb_Mo_power 12 rfl) (by decide) ?_
        have q9 := ih (i + 1) (by omega) (by omega)
        rw [Nat.pow_succ] at q9
        exact q9
  refine fg_intro (by decide +kernel) (Nat.le_of_ble_eq_true rfl) (fg_okAs rfl) (Nat.le_refl _) ?_
  refine fg_iconst (fg_ft (pc := 0) tb_Mo_power 0 rfl) ic_1 ?_
  refine fg_istoren (fg_ft (pc := 1) tb_Mo_power 1 rfl) (Nat.le_of_ble_eq_true rfl) ?_
  refine fg_iconst (fg_ft (pc := 2) tb_Mo_power 2 rfl) ic_0 ?_
  refine fg_istoren (fg_ft (pc := 3) tb_Mo_power 3 rfl) (Nat.le_of_ble_eq_true rfl) ?_
  exact loop (k + 1) 0 (by omega) (by omega)
theorem ev_Mo_isRow {E : fg_E} {d : Nat} {μ : Nat → Nat → Int32} {R : fg_T4} {Q : Option Value → fg_M → Prop} {k c : Nat} (hk0 : 0 < k) (hk : k ≤ 5) (hc : c < 2 ^ 30) (hQ : ∀ μ' : Nat → Nat → Int32, fg_agG μ μ' → (∀ i, i < k → μ' 303 i = nI (fg_dg k k c i)) → Q (some (.int (fg_bI (fg_us k (fg_dg k k c) = 2 ^ k - 1)))) (μ', fg_rho R, 304)) : fg_Ev E yy_Mo_isRow (d + 1) [.ref 287, .int (nI k), .int (nI c)] (μ, fg_rho R, 304) 304 Q := by
  have h32 : 2 ^ k ≤ 32 := Nat.pow_le_pow_right (n := 2) (j := 5) (by decide) hk
  have loop : ∀ (j rest seen : Nat) (ν : Nat → Nat → Int32), j ≤ k → fg_agG μ ν → rest = c / k ^ (k - j) → seen = fg_us (k - j) (fun i => fg_dg k k c (j + i)) → (∀ i, j ≤ i → i < k → ν 303 i = nI (fg_dg k k c i)) → fg_wp E yy_Mo_isRow (d + 1) 304 304 Q 10 [.ref 287, .int (nI k), .int (nI c), .int (nI rest), .int (nI seen), (.int (nI j - nI 1))] [] (ν, fg_rho R, 304) := by
    intro j
    induction j with
    | zero =>
      intro rest seen ν hj hag hr hs hdg
      have hrc : rest ≤ c := by rw [hr]; exact Nat.div_le_self _ _
      have hsl : seen < 2 ^ k := by rw [hs]; exact fg_us_lt _ _ (fun i _ => Nat.mod_lt _ (by omega))
      show fg_wp E yy_Mo_isRow (d + 1) 304 304 Q 10 [.ref 287, .int (nI k), .int (nI c), .int (nI rest), .int (nI seen), .int (-1)] [] (ν, fg_rho R, 304)
      refine fg_iload (fg_ft (pc := 10) tb_Mo_isRow 8 rfl) rfl ?_
      refine fg_if_lt (tgt := 49) (fg_ft (pc := 12) tb_Mo_isRow 9 rfl) (by decide) (fun c12 => ?_) (fun c12 => (absurd c12 (by decide)))
      refine fg_iload (fg_ft (pc := 49) tb_Mo_isRow 32 rfl) rfl ?_
      refine fg_iconst (fg_ft (pc := 51) tb_Mo_isRow 33 rfl) ic_1 ?_
      refine fg_iloadn (fg_ft (pc := 52) tb_Mo_isRow 34 rfl) rfl ?_
      refine fg_ishl1 (fg_ft (pc := 53) tb_Mo_isRow 35 rfl) (by omega) ?_
      refine fg_iconst (fg_ft (pc := 54) tb_Mo_isRow 36 rfl) ic_1 ?_
      refine fg_isubN (fg_ft (pc := 55) tb_Mo_isRow 37 rfl) (Nat.one_le_two_pow) ?_
      refine fg_icmp_neN (tgt := 63) (fg_ft (pc := 56) tb_Mo_isRow 38 rfl) (by decide) (by omega) (by omega) (fun c56 => ?_) (fun c56 => ?_)
      · refine fg_iconst (fg_ft (pc := 63) tb_Mo_isRow 41 rfl) ic_0 ?_
        exact fg_zret (fg_ft (pc := 64) tb_Mo_isRow 42 rfl) rfl (by decide) rfl (by
  have q9 := hQ ν hag (fun i hi => hdg i (Nat.zero_le _) hi)
  rw [show fg_dg k k c = (fun i => fg_dg k k c (0 + i)) from funext (fun i => by rw [Nat.zero_add])] at q9
  rw [show fg_us k (fun i => fg_dg k k c (0 + i)) = seen from hs.symm] at q9
  rw [fg_bF c56] at q9
  exact q9)
      · refine fg_iconst (fg_ft (pc := 59) tb_Mo_isRow 39 rfl) ic_1 ?_
        refine fg_goto (tgt := 64) (fg_ft (pc := 60) tb_Mo_isRow 40 rfl) (by decide) ?_
        exact fg_zret (fg_ft (pc := 64) tb_Mo_isRow 42 rfl) rfl (by decide) rfl (by
  have q9 := hQ ν hag (fun i hi => hdg i (Nat.zero_le _) hi)
  rw [show fg_dg k k c = (fun i => fg_dg k k c (0 + i)) from funext (fun i => by rw [Nat.zero_add])] at q9
  rw [show fg_us k (fun i => fg_dg k k c (0 + i)) = seen from hs.symm] at q9
  rw [fg_bT c56] at q9
  exact q9)
    | succ j ih =>
      intro rest seen ν hj hag hr hs hdg
      have hrc : rest ≤ c := by rw [hr]; exact Nat.div_le_self _ _
      have hsl : seen < 2 ^ k := by rw [hs]; exact fg_us_lt _ _ (fun i _ => Nat.mod_lt _ (by omega))
      rw [fg_sub2]
      refine fg_iload (fg_ft (pc := 10) tb_Mo_isRow 8 rfl) rfl ?_
      refine fg_if_ltN (tgt := 49) (fg_ft (pc := 12) tb_Mo_isRow 9 rfl) (by decide) (by omega) ?_
      refine fg_aloadn (fg_ft (pc := 15) tb_Mo_isRow 10 rfl) rfl ?_
      refine fg_getR (fg_ft (pc := 16) tb_Mo_isRow 11 rfl) ff_Mo_60 ly_287 rfl (fg_lt ly_287 (by decide)) (rh_287_30 R) ?_
      refine fg_iload (fg_ft (pc := 19) tb_Mo_isRow 12 rfl) rfl ?_
      refine fg_iloadn (fg_ft (pc := 21) tb_Mo_isRow 13 rfl) rfl ?_
      refine fg_iloadn (fg_ft (pc := 22) tb_Mo_isRow 14 rfl) rfl ?_
      refine fg_iremN (fg_ft (pc := 23) tb_Mo_isRow 15 rfl) (by omega) (by omega) (nI_ne0 (by omega) (by omega)) ?_
      refine fg_iastN (fg_ft (pc := 24) tb_Mo_isRow 16 rfl) ly_303 (fg_lt ly_303 (by decide)) (by omega) ?_
      show fg_wp _ _ _ _ _ _ _ _ _ (fg_u2 ν 303 j (nI (rest % k)), fg_rho R, 304)
      refine fg_iloadn (fg_ft (pc := 25) tb_Mo_isRow 17 rfl) rfl ?_
      refine fg_iloadn (fg_ft (pc := 26) tb_Mo_isRow 18 rfl) rfl ?_
      refine fg_idivN (fg_ft (pc := 27) tb_Mo_isRow 19 rfl) (by omega) (by omega) (nI_ne0 (by omega) (by omega)) ?_
      refine fg_istoren (fg_ft (pc := 28) tb_Mo_isRow 20 rfl) (Nat.le_of_ble_eq_true rfl) ?_
      refine fg_iload (fg_ft (pc := 29) tb_Mo_isRow 21 rfl) rfl ?_
      refine fg_iconst (fg_ft (pc := 31) tb_Mo_isRow 22 rfl) ic_1 ?_
      refine fg_aloadn (fg_ft (pc := 32) tb_Mo_isRow 23 rfl) rfl ?_
      refine fg_getR (fg_ft (pc := 33) tb_Mo_isRow 24 rfl) ff_Mo_60 ly_287 rfl (fg_lt ly_287 (by decide)) (rh_287_30 R) ?_
      refine fg_iload (fg_ft (pc := 36) tb_Mo_isRow 25 rfl) rfl ?_
      refine fg_ialdV (v := (nI (rest % k))) (fg_ft (pc := 38) tb_Mo_isRow 26 rfl) ly_303 (fg_lt ly_303 (by decide)) (by omega) (fg_u2eq (f := ν) (a := 303) (k := j) (x := nI (rest % k))) ?_
      refine fg_ishl1 (fg_ft (pc := 39) tb_Mo_isRow 27 rfl) (by have := Nat.mod_lt rest (show 0 < k by omega); omega) ?_
      refine fg_iorN (fg_ft (pc := 40) tb_Mo_isRow 28 rfl) ?_
      refine fg_istore (fg_ft (pc := 41) tb_Mo_isRow 29 rfl) (Nat.le_of_ble_eq_true rfl) ?_
      refine fg_iinc (fg_ft (pc := 43) tb_Mo_isRow 30 rfl) rfl rfl ?_
      refine fg_goto (tgt := 10) (fg_ft (pc := 46) tb_Mo_isRow 31 rfl) (by decide) ?_
      rw [fg_sub1]
      have e1 : rest % k = fg_dg k k c j := by
        unfold fg_dg
        rw [hr, show k - (j + 1) = k - 1 - j by omega]
      have e2 : k - j = k - (j + 1) + 1 := by omega
      refine ih _ _ _ (by omega) (fun a ha x => (fg_u2ne ha).trans (hag a ha x)) ?_ ?_ (fun i h1 h2 => ?_)
      · rw [hr, Nat.div_div_eq_div_mul, ← Nat.pow_succ]; exact congrArg (fun z => c / k ^ z) e2.symm
      · rw [e2]
        show seen ||| 2 ^ (rest % k) = 2 ^ fg_dg k k c (j + 0) ||| fg_us (k - (j + 1)) (fun i => fg_dg k k c (j + (i + 1)))
        rw [Nat.or_comm, e1, hs]
        congr 2
        funext i
        rw [show j + 1 + i = j + (i + 1) by omega]
      · rcases Nat.decEq i j with z | z
        · exact (fg_u2ns z).trans (hdg i (by omega) h2)
        · rw [z, ← e1]; exact fg_u2eq
  refine fg_intro (by decide +kernel) (Nat.le_of_ble_eq_true rfl) (fg_okAs rfl) (Nat.le_refl _) ?_
  refine fg_iloadn (fg_ft (pc := 0) tb_Mo_isRow 0 rfl) rfl ?_
  refine fg_istoren (fg_ft (pc := 1) tb_Mo_isRow 1 rfl) (Nat.le_of_ble_eq_true rfl) ?_
  refine fg_iconst (fg_ft (pc := 2) tb_Mo_isRow 2 rfl) ic_0 ?_
  refine fg_istore (fg_ft (pc := 3) tb_Mo_isRow 3 rfl) (Nat.le_of_ble_eq_true rfl) ?_
  refine fg_iloadn (fg_ft (pc := 5) tb_Mo_isRow 4 rfl) rfl ?_
  refine fg_iconst (fg_ft (pc := 6) tb_Mo_isRow 5 rfl) ic_1 ?_
  refine fg_isub (fg_ft (pc := 7) tb_Mo_isRow 6 rfl) ?_
  refine fg_istore (fg_ft (pc := 8) tb_Mo_isRow 7 rfl) (Nat.le_of_ble_eq_true rfl) ?_
  exact loop k c 0 μ (Nat.le_refl _) (fun _ _ _ => rfl) (by rw [Nat.sub_self, Nat.pow_zero, Nat.div_one]) (by rw [Nat.sub_self]; rfl) (fun i h1 h2 => by omega)
