def fg_ub {σ : Type} (F : Nat → σ → σ) : Nat → σ → σ
  | 0, s => s
  | n + 1, s => F n (fg_ub F n s)
theorem fg_ub_comm {σ : Type} {F : Nat → σ → σ} (hc : ∀ a b s, F a (F b s) = F b (F a s)) : ∀ n b s, fg_ub F n (F b s) = F b (fg_ub F n s) := by
  intro n
  induction n with
  | zero => intro b s; rfl
  | succ n ih =>
    intro b s
    show F n (fg_ub F n (F b s)) = F b (F n (fg_ub F n s))
    rw [ih, hc]
theorem fg_db_ub {σ : Type} {F : Nat → σ → σ} (hc : ∀ a b s, F a (F b s) = F b (F a s)) : ∀ n s, fg_db F n s = fg_ub F n s := by
  intro n
  induction n with
  | zero => intro s; rfl
  | succ n ih =>
    intro s
    show fg_db F n (F n s) = F n (fg_ub F n s)
    rw [ih, fg_ub_comm hc]
theorem fg_ub_id {σ : Type} {F : Nat → σ → σ} {a : Nat} {s : σ} : ∀ k, (∀ q, a ≤ q → q < a + k → ∀ s, F q s = s) → fg_ub F (a + k) s = fg_ub F a s := by
  intro k
  induction k with
  | zero => intro _; rfl
  | succ k ih =>
    intro h
    show F (a + k) (fg_ub F (a + k) s) = _
    rw [h (a + k) (by omega) (by omega), ih (fun q h1 h2 => h q h1 (by omega))]
theorem fg_sf_comm {σ : Type} {free : Nat} {g : Nat → σ → σ} (hc : ∀ a b s, g a (g b s) = g b (g a s)) (a b : Nat) (s : σ) : fg_sf free g a (fg_sf free g b s) = fg_sf free g b (fg_sf free g a s) := by
  unfold fg_sf
  by_cases h1 : fg_df a free = 0 <;> by_cases h2 : fg_df b free = 0
  · rw [if_pos h1, if_pos h2, if_pos h1, if_pos h2]; exact hc a b s
  · simp only [if_neg h2, if_pos h1]
  · simp only [if_neg h1, if_pos h2]
  · simp only [if_neg h1, if_neg h2]
theorem fg_wyg_comm {T : Nat → Nat} {f : Nat} (a b : Nat) (s : Nat × Nat × Nat) : fg_wyg T f a (fg_wyg T f b s) = fg_wyg T f b (fg_wyg T f a s) := by
  unfold fg_wyg
  rcases Classical.em (fg_way T a f) with h1 | h1 <;> rcases Classical.em (fg_way T b f) with h2 | h2
  · rw [fg_ifT h1, fg_ifT h2, fg_ifT h1, fg_ifT h2]
    show (s.1 + 1 + 1, s.2.1 ||| b ||| a, s.2.2 &&& b &&& a) = (s.1 + 1 + 1, s.2.1 ||| a ||| b, s.2.2 &&& a &&& b)
    rw [Nat.or_assoc, Nat.or_comm b a, ← Nat.or_assoc, Nat.and_assoc, Nat.and_comm b a, ← Nat.and_assoc]
  · simp only [fg_ifF h2, fg_ifT h1]
  · simp only [fg_ifF h1, fg_ifT h2]
  · simp only [fg_ifF h1, fg_ifF h2]
theorem fg_way0 {T : Nat → Nat} (hok : fg_ok T) {f : Nat} : ¬ fg_way T 0 f := by
  intro h
  have := h.1
  rw [fg_clo_cl (fg_clsd0 hok)] at this
  exact fg_z0 this
theorem fg_rest_le {q m f : Nat} : fg_le q (fg_df m (2 ^ f)) ↔ fg_le q m ∧ ¬ q.testBit f = true := by
  constructor
  · intro h
    refine ⟨fg_le_tr h (fg_df_le _ _), fun hb => ?_⟩
    have := h f hb
    rw [fg_df_bit, Nat.testBit_two_pow_self, Bool.not_true, Bool.and_false] at this
    cases this
  · rintro ⟨h1, h2⟩ i hi
    rw [fg_df_bit, h1 i hi]
    rcases Nat.decEq f i with e | e
    · rw [Nat.testBit_two_pow_of_ne e]; rfl
    · subst e; exact absurd hi h2
noncomputable def fg_wF (T : Nat → Nat) (m f : Nat) : Nat → Nat × Nat × Nat → Nat × Nat × Nat := fg_sf (fg_df m (2 ^ f)) (fg_wyg T f)
theorem fg_wy_ub {T : Nat → Nat} {m f : Nat} : fg_wy T m f = fg_ub (fg_wF T m f) (m + 1) (0, 0, fg_df m (2 ^ f)) := by
  unfold fg_wy
  rw [fg_db_ub (fg_sf_comm fg_wyg_comm)]
  have hl := fg_le_le (fg_df_le m (2 ^ f))
  have := fg_ub_id (F := fg_wF T m f) (a := fg_df m (2 ^ f) + 1) (s := (0, 0, fg_df m (2 ^ f))) (m - fg_df m (2 ^ f)) (fun q h1 h2 s => by
    unfold fg_wF fg_sf
    refine if_neg (fun h => ?_)
    have := fg_le_le (fg_df0.mp h)
    omega)
  rw [show fg_df m (2 ^ f) + 1 + (m - fg_df m (2 ^ f)) = m + 1 by omega] at this
  exact this.symm
theorem fg_wF_1 {T : Nat → Nat} {m f q : Nat} {s : Nat × Nat × Nat} (h1 : fg_le q m) (h2 : ¬ q.testBit f = true) (h3 : fg_way T q f) : fg_wF T m f q s = (s.1 + 1, s.2.1 ||| q, s.2.2 &&& q) := by
  unfold fg_wF fg_sf
  rw [if_pos (fg_df0.mpr (fg_rest_le.mpr ⟨h1, h2⟩))]
  exact fg_ifT h3
theorem fg_wF_0 {T : Nat → Nat} {m f q : Nat} {s : Nat × Nat × Nat} (h : ¬ fg_le q m ∨ q.testBit f = true ∨ ¬ fg_way T q f) : fg_wF T m f q s = s := by
  unfold fg_wF fg_sf
  by_cases c : fg_df q (fg_df m (2 ^ f)) = 0
  · rw [if_pos c]
    have := fg_rest_le.mp (fg_df0.mp c)
    rcases h with h | h | h
    · exact absurd this.1 h
    · exact absurd h this.2
    · exact fg_ifF h
  · rw [if_neg c]
theorem fg_wy_any {T : Nat → Nat} (hok : fg_ok T) {m f : Nat} : (fg_wy T m f).1 = 0 ↔ (fg_wy T m f).2.1 = 0 := by
  refine fg_db_inv (fun s : Nat × Nat × Nat => s.1 = 0 ↔ s.2.1 = 0) _ _ ⟨fun _ => rfl, fun _ => rfl⟩ (fun q s hq hs => ?_)
  unfold fg_sf
  split
  · unfold fg_wyg
    rcases Classical.em (fg_way T q f) with g | g
    · rw [fg_ifT g]
      refine ⟨fun h => absurd h (Nat.succ_ne_zero _), fun h => ?_⟩
      exfalso
      have hq0 : q = 0 := by
        have h1 := fg_le_or2 s.2.1 q
        have h : s.2.1 ||| q = 0 := h
        rw [h] at h1
        exact Nat.le_zero.mp (fg_le_le h1)
      subst hq0
      exact fg_way0 hok g
    · rw [fg_ifF g]; exact hs
  · exact hs
def fg_ag3 (μ μ' : Nat → Nat → Int32) : Prop := (∀ a, a ≠ 287 → ∀ j, μ' a j = μ a j) ∧ ∀ j, j ≠ 31 → j ≠ 32 → j ≠ 33 → μ' 287 j = μ 287 j
theorem fg_ag3_rf (μ : Nat → Nat → Int32) : fg_ag3 μ μ := ⟨fun _ _ _ => rfl, fun _ _ _ _ => rfl⟩
theorem fg_ag3_tr {μ μ' μ'' : Nat → Nat → Int32} (h1 : fg_ag3 μ μ') (h2 : fg_ag3 μ' μ'') : fg_ag3 μ μ'' := ⟨fun a ha j => (h2.1 a ha j).trans (h1.1 a ha j), fun j a b c => (h2.2 j a b c).trans (h1.2 j a b c)⟩
theorem fg_ag3_u {μ : Nat → Nat → Int32} {k : Nat} {x : Int32} (h : k = 31 ∨ k = 32 ∨ k = 33) : fg_ag3 μ (fg_u2 μ 287 k x) := ⟨fun a ha j => fg_u2ne ha, fun j a b c => fg_u2ns (by omega)⟩
theorem fg_agR_3 {μ μ' : Nat → Nat → Int32} (h : fg_ag3 μ μ') : fg_agR μ μ' := ⟨fun a ha j => h.1 a (by omega) j, h.2 17 (by decide) (by decide) (by decide), h.2 19 (by decide) (by decide) (by decide)⟩
theorem fg_MC.ag {μ μ' : Nat → Nat → Int32} {T : Nat → Nat} (h : fg_MC μ T) (e : ∀ j, μ' 291 j = μ 291 j) : fg_MC μ' T := fun s hs => (e s).trans (h s hs)
theorem fg_way_l {T : Nat → Nat} {q f i : Nat} (hq : q < 2 ^ T 0) (h1 : q.testBit i = true) (h2 : (fg_clo T (fg_df q (2 ^ i))).testBit f = true) : ¬ fg_way T q f := fun h => by
  have := h.2 i (fg_bit_lt hq h1) h1
  rw [h2] at this
  cases this
theorem ev_Mo_allWays {E : fg_E} {d : Nat} {μ : Nat → Nat → Int32} {R : fg_T4} {Q : Option Value → fg_M → Prop} {v : Nat} {T : Nat → Nat} (hM : fg_MT (μ 288) v T) (hok : fg_ok T) (hC : fg_MC μ T) {m f : Nat} (hm : m < 2 ^ T 0) (hf : f < T 0) (hQ : ∀ μ' : Nat → Nat → Int32, fg_ag3 μ μ' → μ' 287 31 = nI (fg_wy T m f).1 → μ' 287 32 = nI (fg_wy T m f).2.1 → μ' 287 33 = nI (if (fg_wy T m f).1 = 0 then 0 else (fg_wy T m f).2.2) → Q none (μ', fg_rho R, 304)) : fg_Ev E yy_Mo_allWays (d + 4) [.ref 287, .int (nI v), .int (nI m), .int (nI f)] (μ, fg_rho R, 304) 304 Q := by
  have hv0 := hM.1
  have hb0 := hok.1
  have hb1 := hok.2.1
  have hp := hok.p
  have hq := Nat.two_pow_pos (T 0)
  have outer : ∀ (q s c an ea : Nat) (ν : Nat → Nat → Int32) (v5 v6 : Value), m + 1 - s < q → s ≤ m + 1 → c ≤ s → fg_ag3 μ ν → fg_ub (fg_wF T m f) s (0, 0, fg_df m (2 ^ f)) = (c, an, ea) → (ν 287 31 = nI c ∧ ν 287 32 = nI an ∧ ν 287 33 = nI ea) → fg_wp E yy_Mo_allWays (d + 4) 304 304 Q 24 [.ref 287, .int (nI v), .int (nI m), .int (nI f), .int (nI s), v5, v6] [] (ν, fg_rho R, 304) := by
    intro q
    induction q with
    | zero => intro s c an ea ν v5 v6 h; exact absurd h (Nat.not_lt_zero _)
    | succ q ih =>
      intro s c an ea ν v5 v6 hq hs hcs hag hub h3
      have hMn := hM.ag (hag.1 288 (by decide))
      have hCn := hC.ag (hag.1 291 (by decide))
      refine fg_iload (fg_ft (pc := 24) tb_Mo_allWays 17 rfl) rfl ?_
      refine fg_iloadn (fg_ft (pc := 26) tb_Mo_allWays 18 rfl) rfl ?_
      refine fg_icmp_gtN (tgt := 168) (fg_ft (pc := 27) tb_Mo_allWays 19 rfl) (by decide) (by omega) (by omega) (fun c27 => ?_) (fun c27 => ?_)
      · have hW : fg_wy T m f = (c, an, ea) := by rw [fg_wy_ub, show m + 1 = s by omega]; exact hub
        refine fg_aloadn (fg_ft (pc := 168) tb_Mo_allWays 96 rfl) rfl ?_
        refine fg_aloadn (fg_ft (pc := 169) tb_Mo_allWays 97 rfl) rfl ?_
        refine fg_getV (v := (nI c)) (fg_ft (pc := 170) tb_Mo_allWays 98 rfl) ff_Mo_306 ly_287 rfl (fg_lt ly_287 (by decide)) h3.1 ?_
        refine fg_if_neN (tgt := 180) (fg_ft (pc := 173) tb_Mo_allWays 99 rfl) (by decide) (by omega) (fun c173 => ?_) (fun c173 => ?_)
        · refine fg_aloadn (fg_ft (pc := 180) tb_Mo_allWays 102 rfl) rfl ?_
          refine fg_getV (v := (nI ea)) (fg_ft (pc := 181) tb_Mo_allWays 103 rfl) ff_Mo_312 ly_287 rfl (fg_lt ly_287 (by decide)) h3.2.2 ?_
          refine fg_putI (fg_ft (pc := 184) tb_Mo_allWays 104 rfl) ff_Mo_312 ly_287 rfl (fg_lt ly_287 (by decide)) (fg_nokI _) (fun _ _ h => by cases h; rfl) ?_
          show fg_wp _ _ _ _ _ _ _ _ _ (fg_u2 ν 287 33 (nI ea), fg_rho R, 304)
          exact fg_vret (fg_ft (pc := 187) tb_Mo_allWays 105 rfl) rfl rfl (by
  have q9 := hQ _ (fg_ag3_tr hag (fg_ag3_u (k := 33) (x := nI ea) (Or.inr (Or.inr rfl)))) ((fg_u2ns (by decide)).trans (by rw [hW]; exact h3.1)) ((fg_u2ns (by decide)).trans (by rw [hW]; exact h3.2.1)) (by rw [hW]; first | (rw [if_pos c173]; exact fg_u2eq) | (rw [if_neg c173]; exact fg_u2eq))
  exact q9)
        · refine fg_iconst (fg_ft (pc := 176) tb_Mo_allWays 100 rfl) ic_0 ?_
          refine fg_goto (tgt := 184) (fg_ft (pc := 177) tb_Mo_allWays 101 rfl) (by decide) ?_
          refine fg_putI (fg_ft (pc := 184) tb_Mo_allWays 104 rfl) ff_Mo_312 ly_287 rfl (fg_lt ly_287 (by decide)) (fg_nokI _) (fun _ _ h => by cases h; rfl) ?_
          show fg_wp _ _ _ _ _ _ _ _ _ (fg_u2 ν 287 33 (nI 0), fg_rho R, 304)
          exact fg_vret (fg_ft (pc := 187) tb_Mo_allWays 105 rfl) rfl rfl (by
  have q9 := hQ _ (fg_ag3_tr hag (fg_ag3_u (k := 33) (x := nI 0) (Or.inr (Or.inr rfl)))) ((fg_u2ns (by decide)).trans (by rw [hW]; exact h3.1)) ((fg_u2ns (by decide)).trans (by rw [hW]; exact h3.2.1)) (by rw [hW]; first | (rw [if_pos c173]; exact fg_u2eq) | (rw [if_neg c173]; exact fg_u2eq))
  exact q9)
      · refine fg_iload (fg_ft (pc := 30) tb_Mo_allWays 20 rfl) rfl ?_
        refine fg_iloadn (fg_ft (pc := 32) tb_Mo_allWays 21 rfl) rfl ?_
        refine fg_iconst (fg_ft (pc := 33) tb_Mo_allWays 22 rfl) ic_m1 ?_
        refine fg_ixor (fg_ft (pc := 34) tb_Mo_allWays 23 rfl) ?_
        refine fg_iandD (fg_ft (pc := 35) tb_Mo_allWays 24 rfl) ?_
        refine fg_if_neN (tgt := 162) (fg_ft (pc := 36) tb_Mo_allWays 25 rfl) (by decide) (fg_df_le31 (by omega)) (fun c36 => ?_) (fun c36 => ?_)
        · refine fg_iincN (fg_ft (pc := 162) tb_Mo_allWays 94 rfl) rfl ic_1 rfl ?_
          refine fg_goto (tgt := 24) (fg_ft (pc := 165) tb_Mo_allWays 95 rfl) (by decide) ?_
          exact ih (s + 1) c an ea ν _ _ (by omega) (by omega) (by omega) hag (by show fg_wF T m f s _ = _; rw [hub]; exact fg_wF_0 (by first | exact Or.inl (fun hh => c36 (fg_df0.mpr hh)) | exact Or.inr (Or.inl c46) | exact Or.inr (Or.inr (fun hh => c57 hh.1)))) h3
        · refine fg_iload (fg_ft (pc := 39) tb_Mo_allWays 26 rfl) rfl ?_
          refine fg_iloadn (fg_ft (pc := 41) tb_Mo_allWays 27 rfl) rfl ?_
          refine fg_ishrN (fg_ft (pc := 42) tb_Mo_allWays 28 rfl) (by omega) (by omega) ?_
          refine fg_iconst (fg_ft (pc := 43) tb_Mo_allWays 29 rfl) ic_1 ?_
          refine fg_iandN (fg_ft (pc := 44) tb_Mo_allWays 30 rfl) ?_
          refine fg_iconst (fg_ft (pc := 45) tb_Mo_allWays 31 rfl) ic_1 ?_
          refine fg_icmpbit_eq (tgt := 162) (fg_ft (pc := 46) tb_Mo_allWays 32 rfl) (by decide) (fun c46 => ?_) (fun c46 => ?_)
          · refine fg_iincN (fg_ft (pc := 162) tb_Mo_allWays 94 rfl) rfl ic_1 rfl ?_
            refine fg_goto (tgt := 24) (fg_ft (pc := 165) tb_Mo_allWays 95 rfl) (by decide) ?_
            exact ih (s + 1) c an ea ν _ _ (by omega) (by omega) (by omega) hag (by show fg_wF T m f s _ = _; rw [hub]; exact fg_wF_0 (by first | exact Or.inl (fun hh => c36 (fg_df0.mpr hh)) | exact Or.inr (Or.inl c46) | exact Or.inr (Or.inr (fun hh => c57 hh.1)))) h3
          · have hsl : s < 2 ^ T 0 := fg_le_lt (fg_df0.mp c36) hm
            refine fg_aloadn (fg_ft (pc := 49) tb_Mo_allWays 33 rfl) rfl ?_
            refine fg_iloadn (fg_ft (pc := 50) tb_Mo_allWays 34 rfl) rfl ?_
            refine fg_iload (fg_ft (pc := 51) tb_Mo_allWays 35 rfl) rfl ?_
            refine fg_iloadn (fg_ft (pc := 53) tb_Mo_allWays 36 rfl) rfl ?_
            refine fg_callV (fg_ft (pc := 54) tb_Mo_allWays 37 rfl) cf_Mo_315 (fg_isOf ly_287 rfl (fg_lt ly_287 (by decide))) (as := [.int (nI v), .int (nI s), .int (nI f)]) (st := []) rfl rfl (Nat.le_of_ble_eq_true rfl) (Nat.le_refl _) (Nat.le_refl _) (ev_Mo_follows hMn hok hCn (s := s) (f := f) (hsl) (by omega) ?_)
            refine fg_ifB_ne (tgt := 63) (fg_ft (pc := 57) tb_Mo_allWays 38 rfl) (by decide) (fun c57 => ?_) (fun c57 => ?_)
            · refine fg_iconst (fg_ft (pc := 63) tb_Mo_allWays 40 rfl) ic_1 ?_
              refine fg_istore (fg_ft (pc := 64) tb_Mo_allWays 41 rfl) (Nat.le_of_ble_eq_true rfl) ?_
              refine fg_iconst (fg_ft (pc := 66) tb_Mo_allWays 42 rfl) ic_0 ?_
              refine fg_istore (fg_ft (pc := 67) tb_Mo_allWays 43 rfl) (Nat.le_of_ble_eq_true rfl) ?_
              have inner : ∀ (q2 k b : Nat), 10 - k < q2 → k ≤ 10 → ((b = 1 ∧ ∀ i, i < k → s.testBit i = true → ¬ (fg_clo T (fg_df s (2 ^ i))).testBit f = true) ∨ (b = 0 ∧ ¬ fg_way T s f)) → fg_wp E yy_Mo_allWays (d + 4) 304 304 Q 69 [.ref 287, .int (nI v), .int (nI m), .int (nI f), .int (nI s), .int (nI b), .int (nI k)] [] (ν, fg_rho R, 304) := by
                intro q2
                induction q2 with
                | zero => intro k b h; exact absurd h (Nat.not_lt_zero _)
                | succ q2 ih2 =>
                  intro k b hq2 hk hI
                  rcases hI with ⟨rfl, hI⟩ | ⟨rfl, hI⟩
                  · refine fg_iload (fg_ft (pc := 69) tb_Mo_allWays 44 rfl) rfl ?_
                    refine fg_bipush (fg_ft (pc := 71) tb_Mo_allWays 45 rfl) ib_10 ?_
                    refine fg_icmp_geN (tgt := 122) (fg_ft (pc := 73) tb_Mo_allWays 46 rfl) (by decide) (by omega) (by decide) (fun c73 => ?_) (fun c73 => ?_)
                    · refine fg_iload (fg_ft (pc := 122) tb_Mo_allWays 73 rfl) rfl ?_
                      refine fg_if_ne (tgt := 130) (fg_ft (pc := 124) tb_Mo_allWays 74 rfl) (by decide) (fun _ => ?_) (fun h => absurd h (by decide))
                      refine fg_aloadn (fg_ft (pc := 130) tb_Mo_allWays 76 rfl) rfl ?_
                      refine fg_dup (fg_ft (pc := 131) tb_Mo_allWays 77 rfl) rfl ?_
                      refine fg_getV (v := (nI c)) (fg_ft (pc := 132) tb_Mo_allWays 78 rfl) ff_Mo_306 ly_287 rfl (fg_lt ly_287 (by decide)) h3.1 ?_
                      refine fg_iconst (fg_ft (pc := 135) tb_Mo_allWays 79 rfl) ic_1 ?_
                      refine fg_iaddN (fg_ft (pc := 136) tb_Mo_allWays 80 rfl) ?_
                      refine fg_putI (fg_ft (pc := 137) tb_Mo_allWays 81 rfl) ff_Mo_306 ly_287 rfl (fg_lt ly_287 (by decide)) (fg_nokI _) (fun _ _ h => by cases h; rfl) ?_
                      show fg_wp _ _ _ _ _ _ _ _ _ (fg_u2 ν 287 31 (nI (c + 1)), fg_rho R, 304)
                      refine fg_aloadn (fg_ft (pc := 140) tb_Mo_allWays 82 rfl) rfl ?_
                      refine fg_dup (fg_ft (pc := 141) tb_Mo_allWays 83 rfl) rfl ?_
                      refine fg_getV (v := (nI an)) (fg_ft (pc := 142) tb_Mo_allWays 84 rfl) ff_Mo_309 ly_287 rfl (fg_lt ly_287 (by decide)) ((fg_u2ns (f := ν) (a := 287) (k := 31) (b := 287) (j := 32) (x := (nI (c + 1))) (by decide)).trans h3.2.1) ?_
                      refine fg_iload (fg_ft (pc := 145) tb_Mo_allWays 85 rfl) rfl ?_
                      refine fg_iorN (fg_ft (pc := 147) tb_Mo_allWays 86 rfl) ?_
                      refine fg_putI (fg_ft (pc := 148) tb_Mo_allWays 87 rfl) ff_Mo_309 ly_287 rfl (fg_lt ly_287 (by decide)) (fg_nokI _) (fun _ _ h => by cases h; rfl) ?_
                      show fg_wp _ _ _ _ _ _ _ _ _ (fg_u2 (fg_u2 ν 287 31 (nI (c + 1))) 287 32 (nI (an ||| s)), fg_rho R, 304)
                      refine fg_aloadn (fg_ft (pc := 151) tb_Mo_allWays 88 rfl) rfl ?_
                      refine fg_dup (fg_ft (pc := 152) tb_Mo_allWays 89 rfl) rfl ?_
                      refine fg_getV (v := (nI ea)) (fg_ft (pc := 153) tb_Mo_allWays 90 rfl) ff_Mo_312 ly_287 rfl (fg_lt ly_287 (by decide)) ((fg_u2ns (f := (fg_u2 ν 287 31 (nI (c + 1)))) (a := 287) (k := 32) (b := 287) (j := 33) (x := (nI (an ||| s))) (by decide)).trans ((fg_u2ns (f := ν) (a := 287) (k := 31) (b := 287) (j := 33) (x := (nI (c + 1))) (by decide)).trans h3.2.2)) ?_
                      refine fg_iload (fg_ft (pc := 156) tb_Mo_allWays 91 rfl) rfl ?_
                      refine fg_iandN (fg_ft (pc := 158) tb_Mo_allWays 92 rfl) ?_
                      refine fg_putI (fg_ft (pc := 159) tb_Mo_allWays 93 rfl) ff_Mo_312 ly_287 rfl (fg_lt ly_287 (by decide)) (fg_nokI _) (fun _ _ h => by cases h; rfl) ?_
                      show fg_wp _ _ _ _ _ _ _ _ _ (fg_u2 (fg_u2 (fg_u2 ν 287 31 (nI (c + 1))) 287 32 (nI (an ||| s))) 287 33 (nI (ea &&& s)), fg_rho R, 304)
                      refine fg_iincN (fg_ft (pc := 162) tb_Mo_allWays 94 rfl) rfl ic_1 rfl ?_
                      refine fg_goto (tgt := 24) (fg_ft (pc := 165) tb_Mo_allWays 95 rfl) (by decide) ?_
                      exact ih (s + 1) (c + 1) (an ||| s) (ea &&& s) _ _ _ (by omega) (by omega) (by omega) (fg_ag3_tr hag (fg_ag3_tr (fg_ag3_tr (fg_ag3_u (Or.inl rfl)) (fg_ag3_u (Or.inr (Or.inl rfl)))) (fg_ag3_u (Or.inr (Or.inr rfl))))) (by show fg_wF T m f s _ = _; rw [hub]; exact fg_wF_1 (fg_df0.mp c36) (by rw [c46]; decide) ⟨c57, fun i hi hb => by have := hI i (by omega) hb; simpa using this⟩) ⟨(fg_u2ns (by decide)).trans ((fg_u2ns (by decide)).trans fg_u2eq), (fg_u2ns (by decide)).trans fg_u2eq, fg_u2eq⟩
                    · refine fg_iload (fg_ft (pc := 76) tb_Mo_allWays 47 rfl) rfl ?_
                      refine fg_if_eq (tgt := 122) (fg_ft (pc := 78) tb_Mo_allWays 48 rfl) (by decide) (fun h => absurd h (by decide)) (fun _ => ?_)
                      refine fg_iload (fg_ft (pc := 81) tb_Mo_allWays 49 rfl) rfl ?_
                      refine fg_iload (fg_ft (pc := 83) tb_Mo_allWays 50 rfl) rfl ?_
                      refine fg_ishrN (fg_ft (pc := 85) tb_Mo_allWays 51 rfl) (by omega) (by omega) ?_
                      refine fg_iconst (fg_ft (pc := 86) tb_Mo_allWays 52 rfl) ic_1 ?_
                      refine fg_iandN (fg_ft (pc := 87) tb_Mo_allWays 53 rfl) ?_
                      refine fg_ifbit_eq (tgt := 109) (fg_ft (pc := 88) tb_Mo_allWays 54 rfl) (by decide) (fun c88 => ?_) (fun c88 => ?_)
                      · refine fg_iconst (fg_ft (pc := 109) tb_Mo_allWays 67 rfl) ic_1 ?_
                        refine fg_goto (tgt := 114) (fg_ft (pc := 110) tb_Mo_allWays 68 rfl) (by decide) ?_
                        refine fg_istore (fg_ft (pc := 114) tb_Mo_allWays 70 rfl) (Nat.le_of_ble_eq_true rfl) ?_
                        refine fg_iincN (fg_ft (pc := 116) tb_Mo_allWays 71 rfl) rfl ic_1 rfl ?_
                        refine fg_goto (tgt := 69) (fg_ft (pc := 119) tb_Mo_allWays 72 rfl) (by decide) ?_
                        exact ih2 (k + 1) 1 (by omega) (by omega) (Or.inl ⟨rfl, fun i hi hb => by
                          rcases Nat.lt_or_ge i k with z | z
                          · exact hI i z hb
                          · obtain rfl : i = k := by omega
                            first | exact c106 | (rw [c88] at hb; cases hb)⟩)
                      · refine fg_aloadn (fg_ft (pc := 91) tb_Mo_allWays 55 rfl) rfl ?_
                        refine fg_iloadn (fg_ft (pc := 92) tb_Mo_allWays 56 rfl) rfl ?_
                        refine fg_iload (fg_ft (pc := 93) tb_Mo_allWays 57 rfl) rfl ?_
                        refine fg_iconst (fg_ft (pc := 95) tb_Mo_allWays 58 rfl) ic_1 ?_
                        refine fg_iload (fg_ft (pc := 96) tb_Mo_allWays 59 rfl) rfl ?_
                        refine fg_ishl1 (fg_ft (pc := 98) tb_Mo_allWays 60 rfl) (by omega) ?_
                        refine fg_iconst (fg_ft (pc := 99) tb_Mo_allWays 61 rfl) ic_m1 ?_
                        refine fg_ixor (fg_ft (pc := 100) tb_Mo_allWays 62 rfl) ?_
                        refine fg_iandD (fg_ft (pc := 101) tb_Mo_allWays 63 rfl) ?_
                        refine fg_iloadn (fg_ft (pc := 102) tb_Mo_allWays 64 rfl) rfl ?_
                        refine fg_callV (fg_ft (pc := 103) tb_Mo_allWays 65 rfl) cf_Mo_315 (fg_isOf ly_287 rfl (fg_lt ly_287 (by decide))) (as := [.int (nI v), .int (nI (fg_df s (2 ^ k))), .int (nI f)]) (st := []) rfl rfl (Nat.le_of_ble_eq_true rfl) (Nat.le_refl _) (Nat.le_refl _) (ev_Mo_follows hMn hok hCn (s := (fg_df s (2 ^ k))) (f := f) (fg_df_lt hsl) (by omega) ?_)
                        refine fg_ifB_ne (tgt := 113) (fg_ft (pc := 106) tb_Mo_allWays 66 rfl) (by decide) (fun c106 => ?_) (fun c106 => ?_)
                        · refine fg_iconst (fg_ft (pc := 113) tb_Mo_allWays 69 rfl) ic_0 ?_
                          refine fg_istore (fg_ft (pc := 114) tb_Mo_allWays 70 rfl) (Nat.le_of_ble_eq_true rfl) ?_
                          refine fg_iincN (fg_ft (pc := 116) tb_Mo_allWays 71 rfl) rfl ic_1 rfl ?_
                          refine fg_goto (tgt := 69) (fg_ft (pc := 119) tb_Mo_allWays 72 rfl) (by decide) ?_
                          exact ih2 (k + 1) 0 (by omega) (by omega) (Or.inr ⟨rfl, fg_way_l hsl c88 c106⟩)
                        · refine fg_iconst (fg_ft (pc := 109) tb_Mo_allWays 67 rfl) ic_1 ?_
                          refine fg_goto (tgt := 114) (fg_ft (pc := 110) tb_Mo_allWays 68 rfl) (by decide) ?_
                          refine fg_istore (fg_ft (pc := 114) tb_Mo_allWays 70 rfl) (Nat.le_of_ble_eq_true rfl) ?_
                          refine fg_iincN (fg_ft (pc := 116) tb_Mo_allWays 71 rfl) rfl ic_1 rfl ?_
                          refine fg_goto (tgt := 69) (fg_ft (pc := 119) tb_Mo_allWays 72 rfl) (by decide) ?_
                          exact ih2 (k + 1) 1 (by omega) (by omega) (Or.inl ⟨rfl, fun i hi hb => by
                            rcases Nat.lt_or_ge i k with z | z
                            · exact hI i z hb
                            · obtain rfl : i = k := by omega
                              first | exact c106 | (rw [c88] at hb; cases hb)⟩)
                  · refine fg_iload (fg_ft (pc := 69) tb_Mo_allWays 44 rfl) rfl ?_
                    refine fg_bipush (fg_ft (pc := 71) tb_Mo_allWays 45 rfl) ib_10 ?_
                    refine fg_icmp_geN (tgt := 122) (fg_ft (pc := 73) tb_Mo_allWays 46 rfl) (by decide) (by omega) (by decide) (fun c73 => ?_) (fun c73 => ?_)
                    · refine fg_iload (fg_ft (pc := 122) tb_Mo_allWays 73 rfl) rfl ?_
                      refine fg_if_ne (tgt := 130) (fg_ft (pc := 124) tb_Mo_allWays 74 rfl) (by decide) (fun h => absurd h (by decide)) (fun _ => ?_)
                      refine fg_goto (tgt := 162) (fg_ft (pc := 127) tb_Mo_allWays 75 rfl) (by decide) ?_
                      refine fg_iincN (fg_ft (pc := 162) tb_Mo_allWays 94 rfl) rfl ic_1 rfl ?_
                      refine fg_goto (tgt := 24) (fg_ft (pc := 165) tb_Mo_allWays 95 rfl) (by decide) ?_
                      exact ih (s + 1) c an ea ν _ _ (by omega) (by omega) (by omega) hag (by show fg_wF T m f s _ = _; rw [hub]; exact fg_wF_0 (Or.inr (Or.inr hI))) h3
                    · refine fg_iload (fg_ft (pc := 76) tb_Mo_allWays 47 rfl) rfl ?_
                      refine fg_if_eq (tgt := 122) (fg_ft (pc := 78) tb_Mo_allWays 48 rfl) (by decide) (fun _ => ?_) (fun h => absurd h (by decide))
                      refine fg_iload (fg_ft (pc := 122) tb_Mo_allWays 73 rfl) rfl ?_
                      refine fg_if_ne (tgt := 130) (fg_ft (pc := 124) tb_Mo_allWays 74 rfl) (by decide) (fun h => absurd h (by decide)) (fun _ => ?_)
                      refine fg_goto (tgt := 162) (fg_ft (pc := 127) tb_Mo_allWays 75 rfl) (by decide) ?_
                      refine fg_iincN (fg_ft (pc := 162) tb_Mo_allWays 94 rfl) rfl ic_1 rfl ?_
                      refine fg_goto (tgt := 24) (fg_ft (pc := 165) tb_Mo_allWays 95 rfl) (by decide) ?_
                      exact ih (s + 1) c an ea ν _ _ (by omega) (by omega) (by omega) hag (by show fg_wF T m f s _ = _; rw [hub]; exact fg_wF_0 (Or.inr (Or.inr hI))) h3
              exact inner 11 0 1 (by decide) (by decide) (Or.inl ⟨rfl, fun i hi => absurd hi (Nat.not_lt_zero _)⟩)
            · refine fg_goto (tgt := 162) (fg_ft (pc := 60) tb_Mo_allWays 39 rfl) (by decide) ?_
              refine fg_iincN (fg_ft (pc := 162) tb_Mo_allWays 94 rfl) rfl ic_1 rfl ?_
              refine fg_goto (tgt := 24) (fg_ft (pc := 165) tb_Mo_allWays 95 rfl) (by decide) ?_
              exact ih (s + 1) c an ea ν _ _ (by omega) (by omega) (by omega) hag (by show fg_wF T m f s _ = _; rw [hub]; exact fg_wF_0 (by first | exact Or.inl (fun hh => c36 (fg_df0.mpr hh)) | exact Or.inr (Or.inl c46) | exact Or.inr (Or.inr (fun hh => c57 hh.1)))) h3
  refine fg_intro (by decide +kernel) (Nat.le_of_ble_eq_true rfl) (fg_okAs rfl) (Nat.le_refl _) ?_
  refine fg_aloadn (fg_ft (pc := 0) tb_Mo_allWays 0 rfl) rfl ?_
  refine fg_iconst (fg_ft (pc := 1) tb_Mo_allWays 1 rfl) ic_0 ?_
  refine fg_putI (fg_ft (pc := 2) tb_Mo_allWays 2 rfl) ff_Mo_306 ly_287 rfl (fg_lt ly_287 (by decide)) (fg_nokI _) (fun _ _ h => by cases h; rfl) ?_
  show fg_wp _ _ _ _ _ _ _ _ _ (fg_u2 μ 287 31 (nI 0), fg_rho R, 304)
  refine fg_aloadn (fg_ft (pc := 5) tb_Mo_allWays 3 rfl) rfl ?_
  refine fg_iconst (fg_ft (pc := 6) tb_Mo_allWays 4 rfl) ic_0 ?_
  refine fg_putI (fg_ft (pc := 7) tb_Mo_allWays 5 rfl) ff_Mo_309 ly_287 rfl (fg_lt ly_287 (by decide)) (fg_nokI _) (fun _ _ h => by cases h; rfl) ?_
  show fg_wp _ _ _ _ _ _ _ _ _ (fg_u2 (fg_u2 μ 287 31 (nI 0)) 287 32 (nI 0), fg_rho R, 304)
  refine fg_aloadn (fg_ft (pc := 10) tb_Mo_allWays 6 rfl) rfl ?_
  refine fg_iloadn (fg_ft (pc := 11) tb_Mo_allWays 7 rfl) rfl ?_
  refine fg_iconst (fg_ft (pc := 12) tb_Mo_allWays 8 rfl) ic_1 ?_
  refine fg_iloadn (fg_ft (pc := 13) tb_Mo_allWays 9 rfl) rfl ?_
  refine fg_ishl1 (fg_ft (pc := 14) tb_Mo_allWays 10 rfl) (by omega) ?_
  refine fg_iconst (fg_ft (pc := 15) tb_Mo_allWays 11 rfl) ic_m1 ?_
  refine fg_ixor (fg_ft (pc := 16) tb_Mo_allWays 12 rfl) ?_
  refine fg_iandD (fg_ft (pc := 17) tb_Mo_allWays 13 rfl) ?_
  refine fg_putI (fg_ft (pc := 18) tb_Mo_allWays 14 rfl) ff_Mo_312 ly_287 rfl (fg_lt ly_287 (by decide)) (fg_nokI _) (fun _ _ h => by cases h; rfl) ?_
  show fg_wp _ _ _ _ _ _ _ _ _ (fg_u2 (fg_u2 (fg_u2 μ 287 31 (nI 0)) 287 32 (nI 0)) 287 33 (nI (fg_df m (2 ^ f))), fg_rho R, 304)
  refine fg_iconst (fg_ft (pc := 21) tb_Mo_allWays 15 rfl) ic_1 ?_
  refine fg_istore (fg_ft (pc := 22) tb_Mo_allWays 16 rfl) (Nat.le_of_ble_eq_true rfl) ?_
  exact outer (m + 2) 1 0 0 (fg_df m (2 ^ f)) _ _ _ (by omega) (by omega) (by decide) (fg_ag3_tr (fg_ag3_tr (fg_ag3_u (Or.inl rfl)) (fg_ag3_u (Or.inr (Or.inl rfl)))) (fg_ag3_u (Or.inr (Or.inr rfl)))) (by show fg_wF T m f 0 _ = _; exact fg_wF_0 (Or.inr (Or.inr (fg_way0 hok)))) ⟨(fg_u2ns (by decide)).trans ((fg_u2ns (by decide)).trans fg_u2eq), (fg_u2ns (by decide)).trans fg_u2eq, fg_u2eq⟩
theorem ev_Mo_ways {E : fg_E} {d : Nat} {μ : Nat → Nat → Int32} {R : fg_T4} {Q : Option Value → fg_M → Prop} {A : fg_Tl} (hL : fg_ML (μ 288) A) (hw : fg_wA A) (h17 : μ 287 17 = -1) (h19 : μ 287 19 = nI 0) {town day n person fact : Nat} (htown : town < 2 ^ 32) (hday : day < 2 ^ 32) (hn : n < 2 ^ 32) (hperson : person < 2 ^ 32) (hfact : fact < 2 ^ 32) (hQ : ∀ μ' : Nat → Nat → Int32, fg_agR μ μ' → Q (some (.int (an_ways A town day n person fact))) (μ', fg_rho R, 304)) : fg_Ev E yy_Mo_ways (d + 12) [.ref 287, .int (nI town), .int (nI day), .int (nI n), .int (nI person), .int (nI fact)] (μ, fg_rho R, 304) 304 Q := by
  have ht2 := hw.2.1
  have hd3 := hw.2.2.1
  refine fg_intro (by decide +kernel) (Nat.le_of_ble_eq_true rfl) (fg_okAs rfl) (Nat.le_refl _) ?_
  refine fg_aloadn (fg_ft (pc := 0) tb_Mo_ways 0 rfl) rfl ?_
  refine fg_iloadn (fg_ft (pc := 1) tb_Mo_ways 1 rfl) rfl ?_
  refine fg_iloadn (fg_ft (pc := 2) tb_Mo_ways 2 rfl) rfl ?_
  refine fg_iloadn (fg_ft (pc := 3) tb_Mo_ways 3 rfl) rfl ?_
  refine fg_iload (fg_ft (pc := 4) tb_Mo_ways 4 rfl) rfl ?_
  refine fg_iload (fg_ft (pc := 6) tb_Mo_ways 5 rfl) rfl ?_
  refine fg_callV (fg_ft (pc := 8) tb_Mo_ways 6 rfl) cf_Mo_269 (fg_isOf ly_287 rfl (fg_lt ly_287 (by decide))) (as := [.int (nI town), .int (nI day), .int (nI n), .int (nI person), .int (nI fact)]) (st := []) rfl rfl (Nat.le_of_ble_eq_true rfl) (Nat.le_refl _) (Nat.le_refl _) (ev_Mo_hasFact hL hw h17 h19 htown hday hn hperson hfact (fun n4 μ1 ha1 => ?_) (fun S lv y4 y5 y6 μ1 n1 y1 ha1 hC1 hS1 => ?_))
  · refine fg_if_ne (tgt := 16) (fg_ft (pc := 11) tb_Mo_ways 7 rfl) (by decide) (fun h => absurd h (by decide)) (fun _ => ?_)
    refine fg_iconst (fg_ft (pc := 14) tb_Mo_ways 8 rfl) ic_m1 ?_
    exact fg_iret (fg_ft (pc := 15) tb_Mo_ways 9 rfl) rfl rfl (fg_q (hQ _ (fg_agR_A ha1)) (by rcases n4 with n4 | ⟨S, lv, y4, y5, y6⟩; (unfold an_ways; rw [fg_g1_none n4]); (unfold an_ways; rw [fg_g1_some y4 y5] <;> ((repeat (first | rw [if_pos (by assumption)] | rw [if_neg (by assumption)] | rw [if_pos (by omega)] | rw [if_neg (by omega)] | rw [if_pos (by constructor <;> assumption)] | rw [if_neg (by intro hh; exact absurd hh.1 (by assumption))] | rw [if_neg (by intro hh; exact absurd hh.2 (by assumption))])); (try rfl)))))
  · have ytc := fg_fnd_t y4
    have hok := hw.2.2.2.1 town ytc
    have hM1 := (hL.2.2.1 town ytc).ag ha1.m
    have hz : fg_zok (A.ts town) S.1 (S.2.1.1, 0, 0, 0) S.2.2 := fg_zok.news (fg_fnd_okW hw y4)
    have hv0 := hM1.1
    have hb0 := hok.1
    have hb1 := hok.2.1
    have hp := hok.p
    have hz9 := hz.1
    have hm2 := hz.2.1 person y5
    have hm0 : S.2.1.1 person < 2 ^ A.ts town 0 := hm2.1
    have hmc : fg_clsd (A.ts town) (S.2.1.1 person) := hm2.2
    have hm10 : S.2.1.1 person < 1024 := by omega
    have hfT : fact < A.ts town 0 := fg_bit_lt hm0 y6
    refine fg_if_ne (tgt := 16) (fg_ft (pc := 11) tb_Mo_ways 7 rfl) (by decide) (fun _ => ?_) (fun h => absurd h (by decide))
    refine fg_aloadn (fg_ft (pc := 16) tb_Mo_ways 10 rfl) rfl ?_
    refine fg_iconst (fg_ft (pc := 17) tb_Mo_ways 11 rfl) ic_0 ?_
    refine fg_iloadn (fg_ft (pc := 18) tb_Mo_ways 12 rfl) rfl ?_
    refine fg_callS (fg_ft (pc := 19) tb_Mo_ways 13 rfl) cf_Mo_166 (as := [.int (nI 0), .int (nI town)]) (st := [.ref 287]) rfl rfl (Nat.le_of_ble_eq_true rfl) (Nat.le_refl _) (Nat.le_refl _) (ev_Mo_placeOf0 (k := town) ?_)
    refine fg_aloadn (fg_ft (pc := 22) tb_Mo_ways 14 rfl) rfl ?_
    refine fg_getR (fg_ft (pc := 23) tb_Mo_ways 15 rfl) ff_Mo_23 ly_287 rfl (fg_lt ly_287 (by decide)) (rh_287_12 R) ?_
    refine fg_iload (fg_ft (pc := 26) tb_Mo_ways 16 rfl) rfl ?_
    refine fg_ialdV (v := (nI (S.2.1.1 person))) (fg_ft (pc := 28) tb_Mo_ways 17 rfl) ly_292 (fg_lt ly_292 (by decide)) (by omega) (hS1.2.1 _ (by omega)) ?_
    refine fg_iload (fg_ft (pc := 29) tb_Mo_ways 18 rfl) rfl ?_
    refine fg_callV (fg_ft (pc := 31) tb_Mo_ways 19 rfl) cf_Mo_318 (fg_isOf ly_287 rfl (fg_lt ly_287 (by decide))) (as := [.int (nI (610 + 152 * town)), .int (nI (S.2.1.1 person)), .int (nI fact)]) (st := []) rfl rfl (Nat.le_of_ble_eq_true rfl) (Nat.le_refl _) (Nat.le_refl _) (ev_Mo_allWays hM1 hok hC1 (m := (S.2.1.1 person)) (f := fact) hm0 hfT ?_)
    intro μ2 hag3 h31 h32 h33
    show fg_wp _ _ _ _ _ _ _ _ _ (μ2, fg_rho R, 304)
    refine fg_aloadn (fg_ft (pc := 34) tb_Mo_ways 20 rfl) rfl ?_
    refine fg_getV (v := (nI ((fg_wy (A.ts town) (S.2.1.1 person) fact).1))) (fg_ft (pc := 35) tb_Mo_ways 21 rfl) ff_Mo_306 ly_287 rfl (fg_lt ly_287 (by decide)) h31 ?_
    exact fg_iret (fg_ft (pc := 38) tb_Mo_ways 22 rfl) rfl rfl (fg_q (hQ _ (fg_agR_tr (fg_agR_A ha1) (fg_agR_3 hag3))) (by unfold an_ways; rw [fg_g1_some y4 y5] <;> ((repeat (first | rw [if_pos (by assumption)] | rw [if_neg (by assumption)] | rw [if_pos (by omega)] | rw [if_neg (by omega)] | rw [if_pos (by constructor <;> assumption)] | rw [if_neg (by intro hh; exact absurd hh.1 (by assumption))] | rw [if_neg (by intro hh; exact absurd hh.2 (by assumption))])); (try rfl))))
theorem ev_Mo_leans0 {E : fg_E} {d : Nat} {μ : Nat → Nat → Int32} {R : fg_T4} {Q : Option Value → fg_M → Prop} {A : fg_Tl} (hL : fg_ML (μ 288) A) (hw : fg_wA A) (h17 : μ 287 17 = -1) (h19 : μ 287 19 = nI 0) {town day n person fact : Nat} (htown : town < 2 ^ 32) (hday : day < 2 ^ 32) (hn : n < 2 ^ 32) (hperson : person < 2 ^ 32) (hfact : fact < 2 ^ 32) (hQ : ∀ μ' : Nat → Nat → Int32, fg_agR μ μ' → Q (some (.int (an_leans A town day n person fact 0))) (μ', fg_rho R, 304)) : fg_Ev E yy_Mo_leans (d + 12) [.ref 287, .int (nI town), .int (nI day), .int (nI n), .int (nI person), .int (nI fact), .int (nI 0)] (μ, fg_rho R, 304) 304 Q := by
  have ht2 := hw.2.1
  have hd3 := hw.2.2.1
  refine fg_intro (by decide +kernel) (Nat.le_of_ble_eq_true rfl) (fg_okAs rfl) (Nat.le_refl _) ?_
  refine fg_aloadn (fg_ft (pc := 0) tb_Mo_leans 0 rfl) rfl ?_
  refine fg_iloadn (fg_ft (pc := 1) tb_Mo_leans 1 rfl) rfl ?_
  refine fg_iloadn (fg_ft (pc := 2) tb_Mo_leans 2 rfl) rfl ?_
  refine fg_iloadn (fg_ft (pc := 3) tb_Mo_leans 3 rfl) rfl ?_
  refine fg_iload (fg_ft (pc := 4) tb_Mo_leans 4 rfl) rfl ?_
  refine fg_iload (fg_ft (pc := 6) tb_Mo_leans 5 rfl) rfl ?_
  refine fg_callV (fg_ft (pc := 8) tb_Mo_leans 6 rfl) cf_Mo_269 (fg_isOf ly_287 rfl (fg_lt ly_287 (by decide))) (as := [.int (nI town), .int (nI day), .int (nI n), .int (nI person), .int (nI fact)]) (st := []) rfl rfl (Nat.le_of_ble_eq_true rfl) (Nat.le_refl _) (Nat.le_refl _) (ev_Mo_hasFact hL hw h17 h19 htown hday hn hperson hfact (fun n4 μ1 ha1 => ?_) (fun S lv y4 y5 y6 μ1 n1 y1 ha1 hC1 hS1 => ?_))
  · refine fg_if_ne (tgt := 16) (fg_ft (pc := 11) tb_Mo_leans 7 rfl) (by decide) (fun h => absurd h (by decide)) (fun _ => ?_)
    refine fg_iconst (fg_ft (pc := 14) tb_Mo_leans 8 rfl) ic_m1 ?_
    exact fg_iret (fg_ft (pc := 15) tb_Mo_leans 9 rfl) rfl rfl (fg_q (hQ _ (fg_agR_A ha1)) (by unfold an_leans; rcases n4 with n4 | ⟨S, lv, y4, y5, y6⟩; rw [fg_g1_none n4]; rw [fg_g1_some y4 y5] <;> (rw [if_neg y6])))
  · have ytc := fg_fnd_t y4
    have hok := hw.2.2.2.1 town ytc
    have hM1 := (hL.2.2.1 town ytc).ag ha1.m
    have hz : fg_zok (A.ts town) S.1 (S.2.1.1, 0, 0, 0) S.2.2 := fg_zok.news (fg_fnd_okW hw y4)
    have hv0 := hM1.1
    have hb0 := hok.1
    have hb1 := hok.2.1
    have hp := hok.p
    have hz9 := hz.1
    have hm2 := hz.2.1 person y5
    have hm0 : S.2.1.1 person < 2 ^ A.ts town 0 := hm2.1
    have hmc : fg_clsd (A.ts town) (S.2.1.1 person) := hm2.2
    have hm10 : S.2.1.1 person < 1024 := by omega
    have hfT : fact < A.ts town 0 := fg_bit_lt hm0 y6
    refine fg_if_ne (tgt := 16) (fg_ft (pc := 11) tb_Mo_leans 7 rfl) (by decide) (fun _ => ?_) (fun h => absurd h (by decide))
    refine fg_aloadn (fg_ft (pc := 16) tb_Mo_leans 10 rfl) rfl ?_
    refine fg_iconst (fg_ft (pc := 17) tb_Mo_leans 11 rfl) ic_0 ?_
    refine fg_iloadn (fg_ft (pc := 18) tb_Mo_leans 12 rfl) rfl ?_
    refine fg_callS (fg_ft (pc := 19) tb_Mo_leans 13 rfl) cf_Mo_166 (as := [.int (nI 0), .int (nI town)]) (st := [.ref 287]) rfl rfl (Nat.le_of_ble_eq_true rfl) (Nat.le_refl _) (Nat.le_refl _) (ev_Mo_placeOf0 (k := town) ?_)
    refine fg_aloadn (fg_ft (pc := 22) tb_Mo_leans 14 rfl) rfl ?_
    refine fg_getR (fg_ft (pc := 23) tb_Mo_leans 15 rfl) ff_Mo_23 ly_287 rfl (fg_lt ly_287 (by decide)) (rh_287_12 R) ?_
    refine fg_iload (fg_ft (pc := 26) tb_Mo_leans 16 rfl) rfl ?_
    refine fg_ialdV (v := (nI (S.2.1.1 person))) (fg_ft (pc := 28) tb_Mo_leans 17 rfl) ly_292 (fg_lt ly_292 (by decide)) (by omega) (hS1.2.1 _ (by omega)) ?_
    refine fg_iload (fg_ft (pc := 29) tb_Mo_leans 18 rfl) rfl ?_
    refine fg_callV (fg_ft (pc := 31) tb_Mo_leans 19 rfl) cf_Mo_318 (fg_isOf ly_287 rfl (fg_lt ly_287 (by decide))) (as := [.int (nI (610 + 152 * town)), .int (nI (S.2.1.1 person)), .int (nI fact)]) (st := []) rfl rfl (Nat.le_of_ble_eq_true rfl) (Nat.le_refl _) (Nat.le_refl _) (ev_Mo_allWays hM1 hok hC1 (m := (S.2.1.1 person)) (f := fact) hm0 hfT ?_)
    intro μ2 hag3 h31 h32 h33
    show fg_wp _ _ _ _ _ _ _ _ _ (μ2, fg_rho R, 304)
    refine fg_iload (fg_ft (pc := 34) tb_Mo_leans 20 rfl) rfl ?_
    refine fg_if_eq (tgt := 46) (fg_ft (pc := 36) tb_Mo_leans 21 rfl) (by decide) (fun _ => ?_) (fun h => absurd h (by decide))
    refine fg_aloadn (fg_ft (pc := 46) tb_Mo_leans 25 rfl) rfl ?_
    refine fg_getV (v := (nI ((fg_wy (A.ts town) (S.2.1.1 person) fact).2.1))) (fg_ft (pc := 47) tb_Mo_leans 26 rfl) ff_Mo_309 ly_287 rfl (fg_lt ly_287 (by decide)) h32 ?_
    exact fg_iret (fg_ft (pc := 50) tb_Mo_leans 27 rfl) rfl rfl (fg_q (hQ _ (fg_agR_tr (fg_agR_A ha1) (fg_agR_3 hag3))) (by unfold an_leans; rw [fg_g1_some y4 y5] <;> (rw [if_pos y6, if_pos (Or.inr rfl)])))
theorem ev_Mo_leans1 {E : fg_E} {d : Nat} {μ : Nat → Nat → Int32} {R : fg_T4} {Q : Option Value → fg_M → Prop} {A : fg_Tl} (hL : fg_ML (μ 288) A) (hw : fg_wA A) (h17 : μ 287 17 = -1) (h19 : μ 287 19 = nI 0) {town day n person fact : Nat} (htown : town < 2 ^ 32) (hday : day < 2 ^ 32) (hn : n < 2 ^ 32) (hperson : person < 2 ^ 32) (hfact : fact < 2 ^ 32) (hQ : ∀ μ' : Nat → Nat → Int32, fg_agR μ μ' → Q (some (.int (an_leans A town day n person fact 1))) (μ', fg_rho R, 304)) : fg_Ev E yy_Mo_leans (d + 12) [.ref 287, .int (nI town), .int (nI day), .int (nI n), .int (nI person), .int (nI fact), .int (nI 1)] (μ, fg_rho R, 304) 304 Q := by
  have ht2 := hw.2.1
  have hd3 := hw.2.2.1
  refine fg_intro (by decide +kernel) (Nat.le_of_ble_eq_true rfl) (fg_okAs rfl) (Nat.le_refl _) ?_
  refine fg_aloadn (fg_ft (pc := 0) tb_Mo_leans 0 rfl) rfl ?_
  refine fg_iloadn (fg_ft (pc := 1) tb_Mo_leans 1 rfl) rfl ?_
  refine fg_iloadn (fg_ft (pc := 2) tb_Mo_leans 2 rfl) rfl ?_
  refine fg_iloadn (fg_ft (pc := 3) tb_Mo_leans 3 rfl) rfl ?_
  refine fg_iload (fg_ft (pc := 4) tb_Mo_leans 4 rfl) rfl ?_
  refine fg_iload (fg_ft (pc := 6) tb_Mo_leans 5 rfl) rfl ?_
  refine fg_callV (fg_ft (pc := 8) tb_Mo_leans 6 rfl) cf_Mo_269 (fg_isOf ly_287 rfl (fg_lt ly_287 (by decide))) (as := [.int (nI town), .int (nI day), .int (nI n), .int (nI person), .int (nI fact)]) (st := []) rfl rfl (Nat.le_of_ble_eq_true rfl) (Nat.le_refl _) (Nat.le_refl _) (ev_Mo_hasFact hL hw h17 h19 htown hday hn hperson hfact (fun n4 μ1 ha1 => ?_) (fun S lv y4 y5 y6 μ1 n1 y1 ha1 hC1 hS1 => ?_))
  · refine fg_if_ne (tgt := 16) (fg_ft (pc := 11) tb_Mo_leans 7 rfl) (by decide) (fun h => absurd h (by decide)) (fun _ => ?_)
    refine fg_iconst (fg_ft (pc := 14) tb_Mo_leans 8 rfl) ic_m1 ?_
    exact fg_iret (fg_ft (pc := 15) tb_Mo_leans 9 rfl) rfl rfl (fg_q (hQ _ (fg_agR_A ha1)) (by unfold an_leans; rcases n4 with n4 | ⟨S, lv, y4, y5, y6⟩; rw [fg_g1_none n4]; rw [fg_g1_some y4 y5] <;> (rw [if_neg y6])))
  · have ytc := fg_fnd_t y4
    have hok := hw.2.2.2.1 town ytc
    have hM1 := (hL.2.2.1 town ytc).ag ha1.m
    have hz : fg_zok (A.ts town) S.1 (S.2.1.1, 0, 0, 0) S.2.2 := fg_zok.news (fg_fnd_okW hw y4)
    have hv0 := hM1.1
    have hb0 := hok.1
    have hb1 := hok.2.1
    have hp := hok.p
    have hz9 := hz.1
    have hm2 := hz.2.1 person y5
    have hm0 : S.2.1.1 person < 2 ^ A.ts town 0 := hm2.1
    have hmc : fg_clsd (A.ts town) (S.2.1.1 person) := hm2.2
    have hm10 : S.2.1.1 person < 1024 := by omega
    have hfT : fact < A.ts town 0 := fg_bit_lt hm0 y6
    refine fg_if_ne (tgt := 16) (fg_ft (pc := 11) tb_Mo_leans 7 rfl) (by decide) (fun _ => ?_) (fun h => absurd h (by decide))
    refine fg_aloadn (fg_ft (pc := 16) tb_Mo_leans 10 rfl) rfl ?_
    refine fg_iconst (fg_ft (pc := 17) tb_Mo_leans 11 rfl) ic_0 ?_
    refine fg_iloadn (fg_ft (pc := 18) tb_Mo_leans 12 rfl) rfl ?_
    refine fg_callS (fg_ft (pc := 19) tb_Mo_leans 13 rfl) cf_Mo_166 (as := [.int (nI 0), .int (nI town)]) (st := [.ref 287]) rfl rfl (Nat.le_of_ble_eq_true rfl) (Nat.le_refl _) (Nat.le_refl _) (ev_Mo_placeOf0 (k := town) ?_)
    refine fg_aloadn (fg_ft (pc := 22) tb_Mo_leans 14 rfl) rfl ?_
    refine fg_getR (fg_ft (pc := 23) tb_Mo_leans 15 rfl) ff_Mo_23 ly_287 rfl (fg_lt ly_287 (by decide)) (rh_287_12 R) ?_
    refine fg_iload (fg_ft (pc := 26) tb_Mo_leans 16 rfl) rfl ?_
    refine fg_ialdV (v := (nI (S.2.1.1 person))) (fg_ft (pc := 28) tb_Mo_leans 17 rfl) ly_292 (fg_lt ly_292 (by decide)) (by omega) (hS1.2.1 _ (by omega)) ?_
    refine fg_iload (fg_ft (pc := 29) tb_Mo_leans 18 rfl) rfl ?_
    refine fg_callV (fg_ft (pc := 31) tb_Mo_leans 19 rfl) cf_Mo_318 (fg_isOf ly_287 rfl (fg_lt ly_287 (by decide))) (as := [.int (nI (610 + 152 * town)), .int (nI (S.2.1.1 person)), .int (nI fact)]) (st := []) rfl rfl (Nat.le_of_ble_eq_true rfl) (Nat.le_refl _) (Nat.le_refl _) (ev_Mo_allWays hM1 hok hC1 (m := (S.2.1.1 person)) (f := fact) hm0 hfT ?_)
    intro μ2 hag3 h31 h32 h33
    show fg_wp _ _ _ _ _ _ _ _ _ (μ2, fg_rho R, 304)
    refine fg_iload (fg_ft (pc := 34) tb_Mo_leans 20 rfl) rfl ?_
    refine fg_if_eq (tgt := 46) (fg_ft (pc := 36) tb_Mo_leans 21 rfl) (by decide) (fun h => absurd h (by decide)) (fun _ => ?_)
    refine fg_aloadn (fg_ft (pc := 39) tb_Mo_leans 22 rfl) rfl ?_
    refine fg_getV (v := (nI (if (fg_wy (A.ts town) (S.2.1.1 person) fact).1 = 0 then 0 else (fg_wy (A.ts town) (S.2.1.1 person) fact).2.2))) (fg_ft (pc := 40) tb_Mo_leans 23 rfl) ff_Mo_312 ly_287 rfl (fg_lt ly_287 (by decide)) h33 ?_
    refine fg_goto (tgt := 50) (fg_ft (pc := 43) tb_Mo_leans 24 rfl) (by decide) ?_
    exact fg_iret (fg_ft (pc := 50) tb_Mo_leans 27 rfl) rfl rfl (fg_q (hQ _ (fg_agR_tr (fg_agR_A ha1) (fg_agR_3 hag3))) (by unfold an_leans; rw [fg_g1_some y4 y5] <;> (rw [if_pos y6]; by_cases e9 : (fg_wy (A.ts town) (S.2.1.1 person) fact).1 = 0; (rw [if_pos e9, if_pos (Or.inl ((fg_wy_any hok).mp e9)), (fg_wy_any hok).mp e9]); (rw [if_neg e9, if_neg (fun hh => hh.elim (fun z => e9 ((fg_wy_any hok).mpr z)) (by decide))]))))
