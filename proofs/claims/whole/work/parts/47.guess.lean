theorem fg_descG {σ : Type} {free : Nat} (hfree : free < 4096) (W : Nat → Nat → σ → Prop) (g : Nat → σ → σ) (I : σ → Prop) {r : σ} (hI : ∀ q s, fg_le q free → I s → I (g q s)) (hx : ∀ part, I r → W 0 part r)
    (hs : ∀ left part s, left < 4096 → fg_le part free → I s → W left (fg_nx part free) (g part s) → W (left + 1) part s) {s : σ} (h0 : I s) (h : fg_db (fg_sf free g) (free + 1) s = r) : W (2 ^ fg_pc free) free s := by
  refine fg_descLoop hfree W (fun S s => I s ∧ ∃ lo, (∀ q, S q ↔ (fg_le q free ∧ lo ≤ q)) ∧ fg_db (fg_sf free g) lo s = r) ?_ ?_ s ⟨h0, free + 1, fun q => ⟨fun h => h.elim, fun h => by have := fg_le_le h.1; have := h.2; omega⟩, h⟩
  · rintro part s ⟨i0, lo, h1, h2⟩
    have h0 := ((h1 0).mp (fun i hi => by rw [Nat.zero_testBit] at hi; cases hi)).2
    obtain rfl : lo = 0 := by omega
    have h2 : s = r := h2
    rw [h2] at i0 ⊢
    exact hx part i0
  · rintro left part s hl hp ⟨i0, lo, h1, h2⟩ hk
    have hlo : part + 1 ≤ lo := by
      rcases Nat.lt_or_ge part lo with q | q
      · exact q
      · exact absurd ((h1 part).mpr ⟨hp, q⟩).2 (Nat.lt_irrefl _)
    have e : fg_db (fg_sf free g) lo s = fg_db (fg_sf free g) (part + 1) s := by
      have := fg_db_id (F := fg_sf free g) (a := part + 1) (lo - (part + 1)) s (fun q h3 h4 s => by
        unfold fg_sf
        refine if_neg (fun h5 => ?_)
        have := (h1 q).mp ⟨fg_df0.mp h5, by omega⟩
        omega)
      rw [show part + 1 + (lo - (part + 1)) = lo by omega] at this
      exact this
    rw [e] at h2
    refine hs left part s hl hp i0 (hk (g part s) ⟨hI part s hp i0, part, fun q => Iff.rfl, ?_⟩)
    have e2 : fg_sf free g part s = g part s := by unfold fg_sf; exact if_pos (fg_df0.mpr hp)
    have h2 : fg_db (fg_sf free g) part (fg_sf free g part s) = r := h2
    rw [e2] at h2
    exact h2
def fg_mo : Nat → Int32
  | 0 => -1
  | n + 1 => nI n
theorem fg_mo_lt {z M : Nat} (hz : z < 2 ^ 31) (hM : M < 2 ^ 31) : nI z < fg_mo M ↔ z + 1 < M := by
  cases M with
  | zero =>
    show nI z < -1 ↔ _
    rw [Int32.lt_iff_toInt_lt, fg_tI hz]
    have : (-1 : Int32).toInt = -1 := rfl
    omega
  | succ n =>
    show nI z < nI n ↔ _
    rw [Int32.lt_iff_toInt_lt, fg_tI hz, fg_tI (by omega)]
    omega
theorem fg_mo_le {z M : Nat} (hz : z < 2 ^ 31) (hM : M < 2 ^ 31) : nI z ≤ fg_mo M ↔ z + 1 ≤ M := by
  cases M with
  | zero =>
    show nI z ≤ -1 ↔ _
    rw [Int32.le_iff_toInt_le, fg_tI hz]
    have : (-1 : Int32).toInt = -1 := rfl
    omega
  | succ n =>
    show nI z ≤ nI n ↔ _
    rw [Int32.le_iff_toInt_le, fg_tI hz, fg_tI (by omega)]
    omega
theorem fg_mo_m1 {M : Nat} (hM : M < 2 ^ 31) : fg_mo M = -1 ↔ M = 0 := by
  cases M with
  | zero => exact ⟨fun _ => rfl, fun _ => rfl⟩
  | succ n => exact ⟨fun h => absurd h (fg_nIm1 (by omega)), fun h => absurd h (by omega)⟩
theorem fg_msk {can k : Nat} (hc : can < 2 ^ 32) (hk : k ≤ 6) : nI can &&& -nI (2 ^ k) = 0 ↔ can < 2 ^ k := by
  have e : -nI (2 ^ k) = nI ((2 ^ (32 - k) - 1) <<< k) := by
    rcases (show k = 0 ∨ k = 1 ∨ k = 2 ∨ k = 3 ∨ k = 4 ∨ k = 5 ∨ k = 6 by omega) with rfl | rfl | rfl | rfl | rfl | rfl | rfl <;> decide
  rw [e, nI_and]
  constructor
  · intro h
    have h0 : can &&& ((2 ^ (32 - k) - 1) <<< k) = 0 := fg_nI_injW (Nat.lt_of_le_of_lt Nat.and_le_left hc) (by decide) h
    refine fg_lt2 (fun i hi => ?_)
    rcases Nat.lt_or_ge i k with g | g
    · exact g
    · exfalso
      have hi32 := fg_bit_lt hc hi
      have : (can &&& ((2 ^ (32 - k) - 1) <<< k)).testBit i = true := by
        rw [Nat.testBit_and, hi, Nat.testBit_shiftLeft, fg_all_bit, decide_eq_true (show i ≥ k from g), decide_eq_true (show i - k < 32 - k by omega)]
        rfl
      rw [h0, Nat.zero_testBit] at this
      cases this
  · intro h
    have h0 : can &&& ((2 ^ (32 - k) - 1) <<< k) = 0 := by
      apply Nat.eq_of_testBit_eq
      intro i
      rw [Nat.zero_testBit, Nat.testBit_and, Nat.testBit_shiftLeft]
      rcases Nat.lt_or_ge i k with g | g
      · rw [decide_eq_false (show ¬ i ≥ k by omega)]; simp
      · rw [Nat.testBit_lt_two_pow (Nat.lt_of_lt_of_le h (Nat.pow_le_pow_right (by decide) g))]; rfl
    rw [h0]
    rfl
def fg_gsP (T : Nat → Nat) (can cannot q : Nat) : Prop := fg_clsd T q ∧ fg_df can (fg_lS T q) = 0 ∧ cannot &&& fg_lS T q = 0
noncomputable def fg_gsg (T : Nat → Nat) (can cannot mind q : Nat) (s : Nat × Nat × Nat) : Nat × Nat × Nat := fg_ifP (s.1 ≤ fg_pc q + 1 ∧ fg_gsP T can cannot q) (fg_pc q + 1, if s.1 < fg_pc q + 1 then 1 else s.2.1 + 1, fg_df (if s.1 < fg_pc q + 1 then mind else s.2.2) q) s
noncomputable def fg_gs (T : Nat → Nat) (can cannot m : Nat) : Nat × Nat × Nat := fg_db (fg_sf m (fg_gsg T can cannot m)) (m + 1) (0, 0, 0)
noncomputable def an_guess (A : fg_Tl) (town day n person can cannot what : Nat) : Int32 := fg_g1 A town day n person (-1) (fun T S _ => if what < 3 then (if can < 2 ^ T 5 then (if cannot < 2 ^ T 5 then (if (fg_gs T can cannot (S.2.1.1 person)).1 = 0 then -1 else if what = 0 then nI (fg_pc (S.2.1.1 person)) - fg_mo (fg_gs T can cannot (S.2.1.1 person)).1 else if what = 1 then nI (fg_gs T can cannot (S.2.1.1 person)).2.1 else nI (fg_gs T can cannot (S.2.1.1 person)).2.2) else -1) else -1) else -1)
theorem fg_gsg_I {T : Nat → Nat} {can cannot m q : Nat} {s : Nat × Nat × Nat} (h : s.1 ≤ 13) : (fg_gsg T can cannot m q s).1 ≤ 13 := by
  unfold fg_gsg
  rcases Classical.em (s.1 ≤ fg_pc q + 1 ∧ fg_gsP T can cannot q) with g | g
  · rw [fg_ifT g]
    have := fg_pc_le q
    show fg_pc q + 1 ≤ 13
    omega
  · rw [fg_ifF g]; exact h
theorem ev_Fb_guess {E : fg_E} {d : Nat} {μ : Nat → Nat → Int32} {R : fg_T4} {Q : Option Value → fg_M → Prop} {A : fg_Tl} (hA : fg_TL μ 101 A) {town day n person can cannot what : Nat} (htown : town < 2 ^ 32) (hday : day < 2 ^ 32) (hn : n < 2 ^ 32) (hperson : person < 2 ^ 32) (hcan : can < 2 ^ 32) (hcannot : cannot < 2 ^ 32) (hwhat : what < 2 ^ 32) (hQ : ∀ (μ' : Nat → Nat → Int32) (R' : fg_T4), fg_agQ μ μ' → Q (some (.int (an_guess A town day n person can cannot what))) (μ', fg_rho R', 304)) : fg_Ev E yy_Fb_guess (d + 12) [.ref 100, .int (nI town), .int (nI day), .int (nI n), .int (nI person), .int (nI can), .int (nI cannot), .int (nI what)] (μ, fg_rho R, 304) 304 Q := by
  have ht2 := hA.2.2.2.1.2
  have hd3 := hA.2.2.2.2.1.2
  refine fg_intro (by decide +kernel) (Nat.le_of_ble_eq_true rfl) (fg_okAs rfl) (Nat.le_refl _) ?_
  refine fg_aloadn (fg_ft (pc := 0) tb_Fb_guess 0 rfl) rfl ?_
  refine fg_iloadn (fg_ft (pc := 1) tb_Fb_guess 1 rfl) rfl ?_
  refine fg_iloadn (fg_ft (pc := 2) tb_Fb_guess 2 rfl) rfl ?_
  refine fg_iloadn (fg_ft (pc := 3) tb_Fb_guess 3 rfl) rfl ?_
  refine fg_iload (fg_ft (pc := 4) tb_Fb_guess 4 rfl) rfl ?_
  refine fg_callV (fg_ft (pc := 6) tb_Fb_guess 5 rfl) cf_Fb_221 (fg_isOf ly_100 rfl (fg_lt ly_100 (by decide))) (as := [.int (nI town), .int (nI day), .int (nI n), .int (nI person)]) (st := []) rfl rfl (Nat.le_of_ble_eq_true rfl) (Nat.le_refl _) (Nat.le_refl _) (ev_Fb_findOne hA htown hday hn hperson (fun n4 μ1 R1 ho1 hR1 => ?_) (fun S lv y4 y5 μ1 ho1 hF1 => ?_))
  · refine fg_astoreN (fg_ft (pc := 9) tb_Fb_guess 6 rfl) (Nat.le_of_ble_eq_true rfl) ?_
    refine fg_aloadN (fg_ft (pc := 11) tb_Fb_guess 7 rfl) rfl ?_
    refine fg_ifnull (tgt := 27) (fg_ft (pc := 13) tb_Fb_guess 8 rfl) (by decide) ?_
    refine fg_iconst (fg_ft (pc := 27) tb_Fb_guess 14 rfl) ic_m1 ?_
    exact fg_iret (fg_ft (pc := 28) tb_Fb_guess 15 rfl) rfl rfl (fg_q (hQ _ R1 (fg_agQ_F (Or.inl rfl) ho1)) (by unfold an_guess; first | (rw [fg_g1_none n4]; done) | (rw [fg_g1_some y4 y5]; first | (rw [if_neg (show ¬ what < 3 by omega)]; done) | (rw [if_pos (show what < 3 by omega), if_neg (fun hh => c54 ((fg_msk hcan (by omega)).mpr hh))]; done) | (rw [if_pos (show what < 3 by omega), if_pos ((fg_msk hcan (by omega)).mp c54), if_neg (fun hh => c62 ((fg_msk hcannot (by omega)).mpr hh))]; done))))
  · have ytc := fg_fnd_t y4
    have hok := (hA.2.2.2.2.2.1 town ytc).2
    have ht : fg_isT (104 + 14 * town) := fg_isT_told (by omega)
    have hT1 := fg_TL.town hA (Or.inl rfl) ytc ho1
    have hz := fg_fnd_ok hA y4
    have hb0 := hok.1
    have hb1 := hok.2.1
    have hp := hok.p
    have hm2 := hz.2.1 person y5
    have hm0 : S.2.1.1 person < 2 ^ A.ts town 0 := hm2.1
    have hmc : fg_clsd (A.ts town) (S.2.1.1 person) := hm2.2
    have hm10 : S.2.1.1 person < 1024 := by omega
    refine fg_astore (fg_ft (pc := 9) tb_Fb_guess 6 rfl) (Nat.le_of_ble_eq_true rfl) ?_
    refine fg_aload (fg_ft (pc := 11) tb_Fb_guess 7 rfl) rfl ?_
    refine fg_ifnull_r (fg_ft (pc := 13) tb_Fb_guess 8 rfl) ?_
    refine fg_iload (fg_ft (pc := 16) tb_Fb_guess 9 rfl) rfl ?_
    refine fg_if_ltW (tgt := 27) (fg_ft (pc := 18) tb_Fb_guess 10 rfl) (by decide) (hwhat) (fun c18 => ?_) (fun c18 => ?_)
    · refine fg_iconst (fg_ft (pc := 27) tb_Fb_guess 14 rfl) ic_m1 ?_
      exact fg_iret (fg_ft (pc := 28) tb_Fb_guess 15 rfl) rfl rfl (fg_q (hQ _ (some (104 + 14 * town), R.2.1, R.2.2.1, R.2.2.2) (fg_agQ_F (Or.inl rfl) ho1)) (by unfold an_guess; first | (rw [fg_g1_none n4]; done) | (rw [fg_g1_some y4 y5]; first | (rw [if_neg (show ¬ what < 3 by omega)]; done) | (rw [if_pos (show what < 3 by omega), if_neg (fun hh => c54 ((fg_msk hcan (by omega)).mpr hh))]; done) | (rw [if_pos (show what < 3 by omega), if_pos ((fg_msk hcan (by omega)).mp c54), if_neg (fun hh => c62 ((fg_msk hcannot (by omega)).mpr hh))]; done))))
    · refine fg_iload (fg_ft (pc := 21) tb_Fb_guess 11 rfl) rfl ?_
      refine fg_iconst (fg_ft (pc := 23) tb_Fb_guess 12 rfl) ic_2 ?_
      refine fg_icmp_leW (tgt := 29) (fg_ft (pc := 24) tb_Fb_guess 13 rfl) (by decide) (hwhat) (by decide) (fun c24 => ?_) (fun c24 => ?_)
      · refine fg_aload (fg_ft (pc := 29) tb_Fb_guess 16 rfl) rfl ?_
        refine fg_getR (fg_ft (pc := 31) tb_Fb_guess 17 rfl) ff_Fb_194 ly_273 rfl (fg_lt ly_273 (by decide)) rfl ?_
        refine fg_astore (fg_ft (pc := 34) tb_Fb_guess 18 rfl) (Nat.le_of_ble_eq_true rfl) ?_
        refine fg_iconst (fg_ft (pc := 36) tb_Fb_guess 19 rfl) ic_1 ?_
        refine fg_aload (fg_ft (pc := 37) tb_Fb_guess 20 rfl) rfl ?_
        refine fg_getR (fg_ft (pc := 39) tb_Fb_guess 21 rfl) ff_Fb_122 (tT_lay ht) rfl (fg_lt (tT_lay ht) (by decide)) (tT_r6 ht) ?_
        refine fg_getV (v := (nI ((A.ts town) 5))) (fg_ft (pc := 42) tb_Fb_guess 22 rfl) ff_Fb_108 ((tT_w6 (R := (some (104 + 14 * town), R.2.1, R.2.2.1, R.2.2.2)) ht).1) rfl (fg_lt ((tT_w6 (R := (some (104 + 14 * town), R.2.1, R.2.2.1, R.2.2.2)) ht).1) (by decide)) hT1.2.2.2.2.2.1.2.1 ?_
        refine fg_ishl1 (fg_ft (pc := 45) tb_Fb_guess 23 rfl) (by omega) ?_
        refine fg_ineg (fg_ft (pc := 46) tb_Fb_guess 24 rfl) ?_
        refine fg_istore (fg_ft (pc := 47) tb_Fb_guess 25 rfl) (Nat.le_of_ble_eq_true rfl) ?_
        refine fg_iload (fg_ft (pc := 49) tb_Fb_guess 26 rfl) rfl ?_
        refine fg_iload (fg_ft (pc := 51) tb_Fb_guess 27 rfl) rfl ?_
        refine fg_iand (fg_ft (pc := 53) tb_Fb_guess 28 rfl) ?_
        refine fg_if_ne (tgt := 65) (fg_ft (pc := 54) tb_Fb_guess 29 rfl) (by decide) (fun c54 => ?_) (fun c54 => ?_)
        · refine fg_iconst (fg_ft (pc := 65) tb_Fb_guess 34 rfl) ic_m1 ?_
          exact fg_iret (fg_ft (pc := 66) tb_Fb_guess 35 rfl) rfl rfl (fg_q (hQ _ (some (104 + 14 * town), R.2.1, R.2.2.1, R.2.2.2) (fg_agQ_F (Or.inl rfl) ho1)) (by unfold an_guess; first | (rw [fg_g1_none n4]; done) | (rw [fg_g1_some y4 y5]; first | (rw [if_neg (show ¬ what < 3 by omega)]; done) | (rw [if_pos (show what < 3 by omega), if_neg (fun hh => c54 ((fg_msk hcan (by omega)).mpr hh))]; done) | (rw [if_pos (show what < 3 by omega), if_pos ((fg_msk hcan (by omega)).mp c54), if_neg (fun hh => c62 ((fg_msk hcannot (by omega)).mpr hh))]; done))))
        · refine fg_iload (fg_ft (pc := 57) tb_Fb_guess 30 rfl) rfl ?_
          refine fg_iload (fg_ft (pc := 59) tb_Fb_guess 31 rfl) rfl ?_
          refine fg_iand (fg_ft (pc := 61) tb_Fb_guess 32 rfl) ?_
          refine fg_if_eq (tgt := 67) (fg_ft (pc := 62) tb_Fb_guess 33 rfl) (by decide) (fun c62 => ?_) (fun c62 => ?_)
          · have hcT : can < 2 ^ A.ts town 5 := (fg_msk hcan (by omega)).mp c54
            have hnT : cannot < 2 ^ A.ts town 5 := (fg_msk hcannot (by omega)).mp c62
            have h64 : 2 ^ A.ts town 5 ≤ 64 := Nat.pow_le_pow_right (n := 2) (by decide) (show A.ts town 5 ≤ 6 by omega)
            have hpcm := fg_pc_le (S.2.1.1 person)
            refine fg_aload (fg_ft (pc := 67) tb_Fb_guess 36 rfl) rfl ?_
            refine fg_iload (fg_ft (pc := 69) tb_Fb_guess 37 rfl) rfl ?_
            refine fg_callV (fg_ft (pc := 71) tb_Fb_guess 38 rfl) cf_Fb_181 (fg_isOf ly_273 rfl (fg_lt ly_273 (by decide))) (as := [.int (nI person)]) (st := []) rfl rfl (Nat.le_of_ble_eq_true rfl) (Nat.le_refl _) (Nat.le_refl _) (ev_Folk_mind ht hT1 hok (Or.inl rfl) rfl hF1 hz (p := person) (by omega) ?_)
            refine fg_istore (fg_ft (pc := 74) tb_Fb_guess 39 rfl) (Nat.le_of_ble_eq_true rfl) ?_
            refine fg_iconst (fg_ft (pc := 76) tb_Fb_guess 40 rfl) ic_m1 ?_
            refine fg_istore (fg_ft (pc := 77) tb_Fb_guess 41 rfl) (Nat.le_of_ble_eq_true rfl) ?_
            refine fg_iconst (fg_ft (pc := 79) tb_Fb_guess 42 rfl) ic_0 ?_
            refine fg_istore (fg_ft (pc := 80) tb_Fb_guess 43 rfl) (Nat.le_of_ble_eq_true rfl) ?_
            refine fg_iconst (fg_ft (pc := 82) tb_Fb_guess 44 rfl) ic_0 ?_
            refine fg_istore (fg_ft (pc := 83) tb_Fb_guess 45 rfl) (Nat.le_of_ble_eq_true rfl) ?_
            refine fg_iload (fg_ft (pc := 85) tb_Fb_guess 46 rfl) rfl ?_
            refine fg_istore (fg_ft (pc := 87) tb_Fb_guess 47 rfl) (Nat.le_of_ble_eq_true rfl) ?_
            refine fg_iconst (fg_ft (pc := 89) tb_Fb_guess 48 rfl) ic_1 ?_
            refine fg_iload (fg_ft (pc := 90) tb_Fb_guess 49 rfl) rfl ?_
            refine fg_callS (fg_ft (pc := 92) tb_Fb_guess 50 rfl) cf_Fb_292 (as := [.int (nI (S.2.1.1 person))]) (st := [.int (nI 1)]) rfl rfl (Nat.le_of_ble_eq_true rfl) (Nat.le_refl _) (Nat.le_refl _) (ev_Int_bitCount (s := (S.2.1.1 person)) (by omega) ?_)
            refine fg_ishl1 (fg_ft (pc := 95) tb_Fb_guess 51 rfl) (by omega) ?_
            refine fg_istore (fg_ft (pc := 96) tb_Fb_guess 52 rfl) (Nat.le_of_ble_eq_true rfl) ?_
            refine fg_descG (free := (S.2.1.1 person)) (by omega) (fun (left part : Nat) (s : Nat × Nat × Nat) => ∀ v17 : Value, fg_wp E yy_Fb_guess (d + 12) 304 304 Q 98 [.ref 100, .int (nI town), .int (nI day), .int (nI n), .int (nI person), .int (nI can), .int (nI cannot), .int (nI what), .ref 273, .ref (104 + 14 * town), .int (-(nI (2 ^ ((A.ts town) 5)))), .int (nI (S.2.1.1 person)), .int (fg_mo s.1), .int (nI (s.2.1)), .int (nI (s.2.2)), .int (nI part), .int (nI left), v17] [] (μ1, fg_rho (some (104 + 14 * town), R.2.1, R.2.2.1, R.2.2.2), 304)) (fg_gsg (A.ts town) can cannot (S.2.1.1 person)) (fun s => s.1 ≤ 13) (fun q s _ hs => fg_gsg_I hs) (r := (fg_gs (A.ts town) can cannot (S.2.1.1 person))) ?_ ?_ (s := (0, 0, 0)) (by decide) rfl _
            · intro part hI v17
              refine fg_iload (fg_ft (pc := 98) tb_Fb_guess 53 rfl) rfl ?_
              refine fg_if_leN (tgt := 198) (fg_ft (pc := 100) tb_Fb_guess 54 rfl) (by decide) (by decide) (fun c100 => ?_) (fun c100 => (absurd c100 (by decide)))
              refine fg_iload (fg_ft (pc := 198) tb_Fb_guess 101 rfl) rfl ?_
              refine fg_iconst (fg_ft (pc := 200) tb_Fb_guess 102 rfl) ic_m1 ?_
              refine fg_icmp_ne (tgt := 206) (fg_ft (pc := 201) tb_Fb_guess 103 rfl) (by decide) (fun c201 => ?_) (fun c201 => ?_)
              · refine fg_iload (fg_ft (pc := 206) tb_Fb_guess 106 rfl) rfl ?_
                refine fg_if_neW (tgt := 220) (fg_ft (pc := 208) tb_Fb_guess 107 rfl) (by decide) (hwhat) (fun c208 => ?_) (fun c208 => ?_)
                · refine fg_iload (fg_ft (pc := 220) tb_Fb_guess 113 rfl) rfl ?_
                  refine fg_iconst (fg_ft (pc := 222) tb_Fb_guess 114 rfl) ic_1 ?_
                  refine fg_icmp_neW (tgt := 231) (fg_ft (pc := 223) tb_Fb_guess 115 rfl) (by decide) (hwhat) (by decide) (fun c223 => ?_) (fun c223 => ?_)
                  · refine fg_iload (fg_ft (pc := 231) tb_Fb_guess 118 rfl) rfl ?_
                    exact fg_iret (fg_ft (pc := 233) tb_Fb_guess 119 rfl) rfl rfl (fg_q (hQ _ (some (104 + 14 * town), R.2.1, R.2.2.1, R.2.2.2) (fg_agQ_F (Or.inl rfl) ho1)) (by unfold an_guess; rw [fg_g1_some y4 y5]; rw [if_pos (show what < 3 by omega), if_pos hcT, if_pos hnT]; first | (rw [if_pos ((fg_mo_m1 (by omega)).mp c201)]; done) | (rw [if_neg (mt (fg_mo_m1 (by omega)).mpr c201), if_pos c208]; done) | (rw [if_neg (mt (fg_mo_m1 (by omega)).mpr c201), if_neg c208, if_pos c223]; done) | (rw [if_neg (mt (fg_mo_m1 (by omega)).mpr c201), if_neg c208, if_neg c223]; done)))
                  · refine fg_iload (fg_ft (pc := 226) tb_Fb_guess 116 rfl) rfl ?_
                    refine fg_goto (tgt := 233) (fg_ft (pc := 228) tb_Fb_guess 117 rfl) (by decide) ?_
                    exact fg_iret (fg_ft (pc := 233) tb_Fb_guess 119 rfl) rfl rfl (fg_q (hQ _ (some (104 + 14 * town), R.2.1, R.2.2.1, R.2.2.2) (fg_agQ_F (Or.inl rfl) ho1)) (by unfold an_guess; rw [fg_g1_some y4 y5]; rw [if_pos (show what < 3 by omega), if_pos hcT, if_pos hnT]; first | (rw [if_pos ((fg_mo_m1 (by omega)).mp c201)]; done) | (rw [if_neg (mt (fg_mo_m1 (by omega)).mpr c201), if_pos c208]; done) | (rw [if_neg (mt (fg_mo_m1 (by omega)).mpr c201), if_neg c208, if_pos c223]; done) | (rw [if_neg (mt (fg_mo_m1 (by omega)).mpr c201), if_neg c208, if_neg c223]; done)))
                · refine fg_iload (fg_ft (pc := 211) tb_Fb_guess 108 rfl) rfl ?_
                  refine fg_callS (fg_ft (pc := 213) tb_Fb_guess 109 rfl) cf_Fb_292 (as := [.int (nI (S.2.1.1 person))]) (st := []) rfl rfl (Nat.le_of_ble_eq_true rfl) (Nat.le_refl _) (Nat.le_refl _) (ev_Int_bitCount (s := (S.2.1.1 person)) (by omega) ?_)
                  refine fg_iload (fg_ft (pc := 216) tb_Fb_guess 110 rfl) rfl ?_
                  refine fg_isub (fg_ft (pc := 218) tb_Fb_guess 111 rfl) ?_
                  exact fg_iret (fg_ft (pc := 219) tb_Fb_guess 112 rfl) rfl rfl (fg_q (hQ _ (some (104 + 14 * town), R.2.1, R.2.2.1, R.2.2.2) (fg_agQ_F (Or.inl rfl) ho1)) (by unfold an_guess; rw [fg_g1_some y4 y5]; rw [if_pos (show what < 3 by omega), if_pos hcT, if_pos hnT]; first | (rw [if_pos ((fg_mo_m1 (by omega)).mp c201)]; done) | (rw [if_neg (mt (fg_mo_m1 (by omega)).mpr c201), if_pos c208]; done) | (rw [if_neg (mt (fg_mo_m1 (by omega)).mpr c201), if_neg c208, if_pos c223]; done) | (rw [if_neg (mt (fg_mo_m1 (by omega)).mpr c201), if_neg c208, if_neg c223]; done)))
              · refine fg_iconst (fg_ft (pc := 204) tb_Fb_guess 104 rfl) ic_m1 ?_
                exact fg_iret (fg_ft (pc := 205) tb_Fb_guess 105 rfl) rfl rfl (fg_q (hQ _ (some (104 + 14 * town), R.2.1, R.2.2.1, R.2.2.2) (fg_agQ_F (Or.inl rfl) ho1)) (by unfold an_guess; rw [fg_g1_some y4 y5]; rw [if_pos (show what < 3 by omega), if_pos hcT, if_pos hnT]; first | (rw [if_pos ((fg_mo_m1 (by omega)).mp c201)]; done) | (rw [if_neg (mt (fg_mo_m1 (by omega)).mpr c201), if_pos c208]; done) | (rw [if_neg (mt (fg_mo_m1 (by omega)).mpr c201), if_neg c208, if_pos c223]; done) | (rw [if_neg (mt (fg_mo_m1 (by omega)).mpr c201), if_neg c208, if_neg c223]; done)))
            · intro left part s hl hp hI hk v17
              have hpF : part < 2 ^ A.ts town 0 := fg_le_lt hp hm0
              have hpp := fg_pc_le part
              refine fg_iload (fg_ft (pc := 98) tb_Fb_guess 53 rfl) rfl ?_
              refine fg_if_leN (tgt := 198) (fg_ft (pc := 100) tb_Fb_guess 54 rfl) (by decide) (by omega) (fun c100 => (absurd c100 (by omega))) (fun c100 => ?_)
              refine fg_iload (fg_ft (pc := 103) tb_Fb_guess 55 rfl) rfl ?_
              refine fg_callS (fg_ft (pc := 105) tb_Fb_guess 56 rfl) cf_Fb_292 (as := [.int (nI part)]) (st := []) rfl rfl (Nat.le_of_ble_eq_true rfl) (Nat.le_refl _) (Nat.le_refl _) (ev_Int_bitCount (s := part) (by omega) ?_)
              refine fg_istore (fg_ft (pc := 108) tb_Fb_guess 57 rfl) (Nat.le_of_ble_eq_true rfl) ?_
              refine fg_iload (fg_ft (pc := 110) tb_Fb_guess 58 rfl) rfl ?_
              refine fg_iload (fg_ft (pc := 112) tb_Fb_guess 59 rfl) rfl ?_
              refine fg_icmp_lt (tgt := 183) (fg_ft (pc := 114) tb_Fb_guess 60 rfl) (by decide) (fun c114 => ?_) (fun c114 => ?_)
              · refine fg_iload (fg_ft (pc := 183) tb_Fb_guess 93 rfl) rfl ?_
                refine fg_iconst (fg_ft (pc := 185) tb_Fb_guess 94 rfl) ic_1 ?_
                refine fg_isub (fg_ft (pc := 186) tb_Fb_guess 95 rfl) ?_
                refine fg_iload (fg_ft (pc := 187) tb_Fb_guess 96 rfl) rfl ?_
                refine fg_iand (fg_ft (pc := 189) tb_Fb_guess 97 rfl) ?_
                refine fg_top fg_nx_I ?_
                refine fg_istore (fg_ft (pc := 190) tb_Fb_guess 98 rfl) (Nat.le_of_ble_eq_true rfl) ?_
                refine fg_iinc (fg_ft (pc := 192) tb_Fb_guess 99 rfl) rfl (v := nI left) (by rw [ic_m1]; exact pk_m1 _) ?_
                refine fg_goto (tgt := 98) (fg_ft (pc := 195) tb_Fb_guess 100 rfl) (by decide) ?_
                rw [show fg_gsg (A.ts town) can cannot (S.2.1.1 person) part s = s from fg_ifF (fun hh => by first | exact absurd hh.1 (by have := (fg_mo_lt (by omega) (by omega)).mp c114; omega) | exact c124 hh.2.1 | exact c138 hh.2.2)] at hk; exact hk _
              · refine fg_aload (fg_ft (pc := 117) tb_Fb_guess 61 rfl) rfl ?_
                refine fg_iload (fg_ft (pc := 119) tb_Fb_guess 62 rfl) rfl ?_
                refine fg_callV (fg_ft (pc := 121) tb_Fb_guess 63 rfl) cf_Fb_301 (fg_isOf (tT_lay ht) rfl (fg_lt (tT_lay ht) (by decide))) (as := [.int (nI part)]) (st := []) rfl rfl (Nat.le_of_ble_eq_true rfl) (Nat.le_refl _) (Nat.le_refl _) (ev_Town_isClosed ht hT1 hok (s := part) (hpF) ?_)
                refine fg_ifB_eq (tgt := 183) (fg_ft (pc := 124) tb_Fb_guess 64 rfl) (by decide) (fun c124 => ?_) (fun c124 => ?_)
                · refine fg_iload (fg_ft (pc := 183) tb_Fb_guess 93 rfl) rfl ?_
                  refine fg_iconst (fg_ft (pc := 185) tb_Fb_guess 94 rfl) ic_1 ?_
                  refine fg_isub (fg_ft (pc := 186) tb_Fb_guess 95 rfl) ?_
                  refine fg_iload (fg_ft (pc := 187) tb_Fb_guess 96 rfl) rfl ?_
                  refine fg_iand (fg_ft (pc := 189) tb_Fb_guess 97 rfl) ?_
                  refine fg_top fg_nx_I ?_
                  refine fg_istore (fg_ft (pc := 190) tb_Fb_guess 98 rfl) (Nat.le_of_ble_eq_true rfl) ?_
                  refine fg_iinc (fg_ft (pc := 192) tb_Fb_guess 99 rfl) rfl (v := nI left) (by rw [ic_m1]; exact pk_m1 _) ?_
                  refine fg_goto (tgt := 98) (fg_ft (pc := 195) tb_Fb_guess 100 rfl) (by decide) ?_
                  rw [show fg_gsg (A.ts town) can cannot (S.2.1.1 person) part s = s from fg_ifF (fun hh => by first | exact absurd hh.1 (by have := (fg_mo_lt (by omega) (by omega)).mp c114; omega) | exact c124 hh.2.1 | exact c138 hh.2.2)] at hk; exact hk _
                · refine fg_aload (fg_ft (pc := 127) tb_Fb_guess 65 rfl) rfl ?_
                  refine fg_iload (fg_ft (pc := 129) tb_Fb_guess 66 rfl) rfl ?_
                  refine fg_iload (fg_ft (pc := 131) tb_Fb_guess 67 rfl) rfl ?_
                  refine fg_iload (fg_ft (pc := 133) tb_Fb_guess 68 rfl) rfl ?_
                  refine fg_callV (fg_ft (pc := 135) tb_Fb_guess 69 rfl) cf_Fb_304 (fg_isOf (tT_lay ht) rfl (fg_lt (tT_lay ht) (by decide))) (as := [.int (nI part), .int (nI can), .int (nI cannot)]) (st := []) rfl rfl (Nat.le_of_ble_eq_true rfl) (Nat.le_refl _) (Nat.le_refl _) (ev_Town_does ht hT1 hok (m := part) (can := can) (cannot := cannot) (by omega) (by omega) (by omega) ?_)
                  refine fg_ifB_eq (tgt := 183) (fg_ft (pc := 138) tb_Fb_guess 70 rfl) (by decide) (fun c138 => ?_) (fun c138 => ?_)
                  · refine fg_iload (fg_ft (pc := 183) tb_Fb_guess 93 rfl) rfl ?_
                    refine fg_iconst (fg_ft (pc := 185) tb_Fb_guess 94 rfl) ic_1 ?_
                    refine fg_isub (fg_ft (pc := 186) tb_Fb_guess 95 rfl) ?_
                    refine fg_iload (fg_ft (pc := 187) tb_Fb_guess 96 rfl) rfl ?_
                    refine fg_iand (fg_ft (pc := 189) tb_Fb_guess 97 rfl) ?_
                    refine fg_top fg_nx_I ?_
                    refine fg_istore (fg_ft (pc := 190) tb_Fb_guess 98 rfl) (Nat.le_of_ble_eq_true rfl) ?_
                    refine fg_iinc (fg_ft (pc := 192) tb_Fb_guess 99 rfl) rfl (v := nI left) (by rw [ic_m1]; exact pk_m1 _) ?_
                    refine fg_goto (tgt := 98) (fg_ft (pc := 195) tb_Fb_guess 100 rfl) (by decide) ?_
                    rw [show fg_gsg (A.ts town) can cannot (S.2.1.1 person) part s = s from fg_ifF (fun hh => by first | exact absurd hh.1 (by have := (fg_mo_lt (by omega) (by omega)).mp c114; omega) | exact c124 hh.2.1 | exact c138 hh.2.2)] at hk; exact hk _
                  · refine fg_iload (fg_ft (pc := 141) tb_Fb_guess 71 rfl) rfl ?_
                    refine fg_iload (fg_ft (pc := 143) tb_Fb_guess 72 rfl) rfl ?_
                    refine fg_icmp_le (tgt := 152) (fg_ft (pc := 145) tb_Fb_guess 73 rfl) (by decide) (fun c145 => ?_) (fun c145 => ?_)
                    · refine fg_iload (fg_ft (pc := 152) tb_Fb_guess 76 rfl) rfl ?_
                      refine fg_iconst (fg_ft (pc := 154) tb_Fb_guess 77 rfl) ic_1 ?_
                      refine fg_iaddN (fg_ft (pc := 155) tb_Fb_guess 78 rfl) ?_
                      refine fg_istore (fg_ft (pc := 156) tb_Fb_guess 79 rfl) (Nat.le_of_ble_eq_true rfl) ?_
                      refine fg_iload (fg_ft (pc := 158) tb_Fb_guess 80 rfl) rfl ?_
                      refine fg_iload (fg_ft (pc := 160) tb_Fb_guess 81 rfl) rfl ?_
                      refine fg_icmp_le (tgt := 170) (fg_ft (pc := 162) tb_Fb_guess 82 rfl) (by decide) (fun c162 => ?_) (fun c162 => ?_)
                      · refine fg_iload (fg_ft (pc := 170) tb_Fb_guess 85 rfl) rfl ?_
                        refine fg_iload (fg_ft (pc := 172) tb_Fb_guess 86 rfl) rfl ?_
                        refine fg_iconst (fg_ft (pc := 174) tb_Fb_guess 87 rfl) ic_m1 ?_
                        refine fg_ixor (fg_ft (pc := 175) tb_Fb_guess 88 rfl) ?_
                        refine fg_iandD (fg_ft (pc := 176) tb_Fb_guess 89 rfl) ?_
                        refine fg_istore (fg_ft (pc := 177) tb_Fb_guess 90 rfl) (Nat.le_of_ble_eq_true rfl) ?_
                        refine fg_iload (fg_ft (pc := 179) tb_Fb_guess 91 rfl) rfl ?_
                        refine fg_istore (fg_ft (pc := 181) tb_Fb_guess 92 rfl) (Nat.le_of_ble_eq_true rfl) ?_
                        refine fg_iload (fg_ft (pc := 183) tb_Fb_guess 93 rfl) rfl ?_
                        refine fg_iconst (fg_ft (pc := 185) tb_Fb_guess 94 rfl) ic_1 ?_
                        refine fg_isub (fg_ft (pc := 186) tb_Fb_guess 95 rfl) ?_
                        refine fg_iload (fg_ft (pc := 187) tb_Fb_guess 96 rfl) rfl ?_
                        refine fg_iand (fg_ft (pc := 189) tb_Fb_guess 97 rfl) ?_
                        refine fg_top fg_nx_I ?_
                        refine fg_istore (fg_ft (pc := 190) tb_Fb_guess 98 rfl) (Nat.le_of_ble_eq_true rfl) ?_
                        refine fg_iinc (fg_ft (pc := 192) tb_Fb_guess 99 rfl) rfl (v := nI left) (by rw [ic_m1]; exact pk_m1 _) ?_
                        refine fg_goto (tgt := 98) (fg_ft (pc := 195) tb_Fb_guess 100 rfl) (by decide) ?_
                        first | exact absurd c145 c162 | exact absurd c162 c145 | (rw [show fg_gsg (A.ts town) can cannot (S.2.1.1 person) part s = (fg_pc part + 1, if s.1 < fg_pc part + 1 then 1 else s.2.1 + 1, fg_df (if s.1 < fg_pc part + 1 then (S.2.1.1 person) else s.2.2) part) from fg_ifT ⟨by have := mt (fg_mo_lt (z := fg_pc part) (M := s.1) (by omega) (by omega)).mpr c114; omega, c124, c138⟩] at hk; have g9 : ¬ s.1 < fg_pc part + 1 := (by have g8 := (fg_mo_le (z := fg_pc part) (M := s.1) (by omega) (by omega)).mp c145; omega); rw [if_neg g9, if_neg g9] at hk; exact hk _)
                      · refine fg_iload (fg_ft (pc := 165) tb_Fb_guess 83 rfl) rfl ?_
                        refine fg_goto (tgt := 172) (fg_ft (pc := 167) tb_Fb_guess 84 rfl) (by decide) ?_
                        refine fg_iload (fg_ft (pc := 172) tb_Fb_guess 86 rfl) rfl ?_
                        refine fg_iconst (fg_ft (pc := 174) tb_Fb_guess 87 rfl) ic_m1 ?_
                        refine fg_ixor (fg_ft (pc := 175) tb_Fb_guess 88 rfl) ?_
                        refine fg_iandD (fg_ft (pc := 176) tb_Fb_guess 89 rfl) ?_
                        refine fg_istore (fg_ft (pc := 177) tb_Fb_guess 90 rfl) (Nat.le_of_ble_eq_true rfl) ?_
                        refine fg_iload (fg_ft (pc := 179) tb_Fb_guess 91 rfl) rfl ?_
                        refine fg_istore (fg_ft (pc := 181) tb_Fb_guess 92 rfl) (Nat.le_of_ble_eq_true rfl) ?_
                        refine fg_iload (fg_ft (pc := 183) tb_Fb_guess 93 rfl) rfl ?_
                        refine fg_iconst (fg_ft (pc := 185) tb_Fb_guess 94 rfl) ic_1 ?_
                        refine fg_isub (fg_ft (pc := 186) tb_Fb_guess 95 rfl) ?_
                        refine fg_iload (fg_ft (pc := 187) tb_Fb_guess 96 rfl) rfl ?_
                        refine fg_iand (fg_ft (pc := 189) tb_Fb_guess 97 rfl) ?_
                        refine fg_top fg_nx_I ?_
                        refine fg_istore (fg_ft (pc := 190) tb_Fb_guess 98 rfl) (Nat.le_of_ble_eq_true rfl) ?_
                        refine fg_iinc (fg_ft (pc := 192) tb_Fb_guess 99 rfl) rfl (v := nI left) (by rw [ic_m1]; exact pk_m1 _) ?_
                        refine fg_goto (tgt := 98) (fg_ft (pc := 195) tb_Fb_guess 100 rfl) (by decide) ?_
                        first | exact absurd c145 c162 | exact absurd c162 c145 | (rw [show fg_gsg (A.ts town) can cannot (S.2.1.1 person) part s = (fg_pc part + 1, if s.1 < fg_pc part + 1 then 1 else s.2.1 + 1, fg_df (if s.1 < fg_pc part + 1 then (S.2.1.1 person) else s.2.2) part) from fg_ifT ⟨by have := mt (fg_mo_lt (z := fg_pc part) (M := s.1) (by omega) (by omega)).mpr c114; omega, c124, c138⟩] at hk; have g9 : ¬ s.1 < fg_pc part + 1 := (by have g8 := (fg_mo_le (z := fg_pc part) (M := s.1) (by omega) (by omega)).mp c145; omega); rw [if_neg g9, if_neg g9] at hk; exact hk _)
                    · refine fg_iconst (fg_ft (pc := 148) tb_Fb_guess 74 rfl) ic_1 ?_
                      refine fg_goto (tgt := 156) (fg_ft (pc := 149) tb_Fb_guess 75 rfl) (by decide) ?_
                      refine fg_istore (fg_ft (pc := 156) tb_Fb_guess 79 rfl) (Nat.le_of_ble_eq_true rfl) ?_
                      refine fg_iload (fg_ft (pc := 158) tb_Fb_guess 80 rfl) rfl ?_
                      refine fg_iload (fg_ft (pc := 160) tb_Fb_guess 81 rfl) rfl ?_
                      refine fg_icmp_le (tgt := 170) (fg_ft (pc := 162) tb_Fb_guess 82 rfl) (by decide) (fun c162 => ?_) (fun c162 => ?_)
                      · refine fg_iload (fg_ft (pc := 170) tb_Fb_guess 85 rfl) rfl ?_
                        refine fg_iload (fg_ft (pc := 172) tb_Fb_guess 86 rfl) rfl ?_
                        refine fg_iconst (fg_ft (pc := 174) tb_Fb_guess 87 rfl) ic_m1 ?_
                        refine fg_ixor (fg_ft (pc := 175) tb_Fb_guess 88 rfl) ?_
                        refine fg_iandD (fg_ft (pc := 176) tb_Fb_guess 89 rfl) ?_
                        refine fg_istore (fg_ft (pc := 177) tb_Fb_guess 90 rfl) (Nat.le_of_ble_eq_true rfl) ?_
                        refine fg_iload (fg_ft (pc := 179) tb_Fb_guess 91 rfl) rfl ?_
                        refine fg_istore (fg_ft (pc := 181) tb_Fb_guess 92 rfl) (Nat.le_of_ble_eq_true rfl) ?_
                        refine fg_iload (fg_ft (pc := 183) tb_Fb_guess 93 rfl) rfl ?_
                        refine fg_iconst (fg_ft (pc := 185) tb_Fb_guess 94 rfl) ic_1 ?_
                        refine fg_isub (fg_ft (pc := 186) tb_Fb_guess 95 rfl) ?_
                        refine fg_iload (fg_ft (pc := 187) tb_Fb_guess 96 rfl) rfl ?_
                        refine fg_iand (fg_ft (pc := 189) tb_Fb_guess 97 rfl) ?_
                        refine fg_top fg_nx_I ?_
                        refine fg_istore (fg_ft (pc := 190) tb_Fb_guess 98 rfl) (Nat.le_of_ble_eq_true rfl) ?_
                        refine fg_iinc (fg_ft (pc := 192) tb_Fb_guess 99 rfl) rfl (v := nI left) (by rw [ic_m1]; exact pk_m1 _) ?_
                        refine fg_goto (tgt := 98) (fg_ft (pc := 195) tb_Fb_guess 100 rfl) (by decide) ?_
                        first | exact absurd c145 c162 | exact absurd c162 c145 | (rw [show fg_gsg (A.ts town) can cannot (S.2.1.1 person) part s = (fg_pc part + 1, if s.1 < fg_pc part + 1 then 1 else s.2.1 + 1, fg_df (if s.1 < fg_pc part + 1 then (S.2.1.1 person) else s.2.2) part) from fg_ifT ⟨by have := mt (fg_mo_lt (z := fg_pc part) (M := s.1) (by omega) (by omega)).mpr c114; omega, c124, c138⟩] at hk; have g9 :  s.1 < fg_pc part + 1 := (by have g8 := mt (fg_mo_le (z := fg_pc part) (M := s.1) (by omega) (by omega)).mpr c145; omega); rw [if_pos g9, if_pos g9] at hk; exact hk _)
                      · refine fg_iload (fg_ft (pc := 165) tb_Fb_guess 83 rfl) rfl ?_
                        refine fg_goto (tgt := 172) (fg_ft (pc := 167) tb_Fb_guess 84 rfl) (by decide) ?_
                        refine fg_iload (fg_ft (pc := 172) tb_Fb_guess 86 rfl) rfl ?_
                        refine fg_iconst (fg_ft (pc := 174) tb_Fb_guess 87 rfl) ic_m1 ?_
                        refine fg_ixor (fg_ft (pc := 175) tb_Fb_guess 88 rfl) ?_
                        refine fg_iandD (fg_ft (pc := 176) tb_Fb_guess 89 rfl) ?_
                        refine fg_istore (fg_ft (pc := 177) tb_Fb_guess 90 rfl) (Nat.le_of_ble_eq_true rfl) ?_
                        refine fg_iload (fg_ft (pc := 179) tb_Fb_guess 91 rfl) rfl ?_
                        refine fg_istore (fg_ft (pc := 181) tb_Fb_guess 92 rfl) (Nat.le_of_ble_eq_true rfl) ?_
                        refine fg_iload (fg_ft (pc := 183) tb_Fb_guess 93 rfl) rfl ?_
                        refine fg_iconst (fg_ft (pc := 185) tb_Fb_guess 94 rfl) ic_1 ?_
                        refine fg_isub (fg_ft (pc := 186) tb_Fb_guess 95 rfl) ?_
                        refine fg_iload (fg_ft (pc := 187) tb_Fb_guess 96 rfl) rfl ?_
                        refine fg_iand (fg_ft (pc := 189) tb_Fb_guess 97 rfl) ?_
                        refine fg_top fg_nx_I ?_
                        refine fg_istore (fg_ft (pc := 190) tb_Fb_guess 98 rfl) (Nat.le_of_ble_eq_true rfl) ?_
                        refine fg_iinc (fg_ft (pc := 192) tb_Fb_guess 99 rfl) rfl (v := nI left) (by rw [ic_m1]; exact pk_m1 _) ?_
                        refine fg_goto (tgt := 98) (fg_ft (pc := 195) tb_Fb_guess 100 rfl) (by decide) ?_
                        first | exact absurd c145 c162 | exact absurd c162 c145 | (rw [show fg_gsg (A.ts town) can cannot (S.2.1.1 person) part s = (fg_pc part + 1, if s.1 < fg_pc part + 1 then 1 else s.2.1 + 1, fg_df (if s.1 < fg_pc part + 1 then (S.2.1.1 person) else s.2.2) part) from fg_ifT ⟨by have := mt (fg_mo_lt (z := fg_pc part) (M := s.1) (by omega) (by omega)).mpr c114; omega, c124, c138⟩] at hk; have g9 :  s.1 < fg_pc part + 1 := (by have g8 := mt (fg_mo_le (z := fg_pc part) (M := s.1) (by omega) (by omega)).mpr c145; omega); rw [if_pos g9, if_pos g9] at hk; exact hk _)
          · refine fg_iconst (fg_ft (pc := 65) tb_Fb_guess 34 rfl) ic_m1 ?_
            exact fg_iret (fg_ft (pc := 66) tb_Fb_guess 35 rfl) rfl rfl (fg_q (hQ _ (some (104 + 14 * town), R.2.1, R.2.2.1, R.2.2.2) (fg_agQ_F (Or.inl rfl) ho1)) (by unfold an_guess; first | (rw [fg_g1_none n4]; done) | (rw [fg_g1_some y4 y5]; first | (rw [if_neg (show ¬ what < 3 by omega)]; done) | (rw [if_pos (show what < 3 by omega), if_neg (fun hh => c54 ((fg_msk hcan (by omega)).mpr hh))]; done) | (rw [if_pos (show what < 3 by omega), if_pos ((fg_msk hcan (by omega)).mp c54), if_neg (fun hh => c62 ((fg_msk hcannot (by omega)).mpr hh))]; done))))
      · refine fg_iconst (fg_ft (pc := 27) tb_Fb_guess 14 rfl) ic_m1 ?_
        exact fg_iret (fg_ft (pc := 28) tb_Fb_guess 15 rfl) rfl rfl (fg_q (hQ _ (some (104 + 14 * town), R.2.1, R.2.2.1, R.2.2.2) (fg_agQ_F (Or.inl rfl) ho1)) (by unfold an_guess; first | (rw [fg_g1_none n4]; done) | (rw [fg_g1_some y4 y5]; first | (rw [if_neg (show ¬ what < 3 by omega)]; done) | (rw [if_pos (show what < 3 by omega), if_neg (fun hh => c54 ((fg_msk hcan (by omega)).mpr hh))]; done) | (rw [if_pos (show what < 3 by omega), if_pos ((fg_msk hcan (by omega)).mp c54), if_neg (fun hh => c62 ((fg_msk hcannot (by omega)).mpr hh))]; done))))
