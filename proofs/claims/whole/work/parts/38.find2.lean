noncomputable def fg_fn1 (A : fg_Tl) (town day n person : Nat) : Option (fg_H3 × (Nat → Nat)) := if person < A.ts town 2 then fg_fnd A town day n else none
theorem fg_TL.town {μ μ' : Nat → Nat → Int32} {A : fg_Tl} {i f : Nat} (hA : fg_TL μ 101 A) (hf : fg_isF f) (hi : i < A.tc) (hag : fg_agF f μ μ') : fg_TW μ' (104 + 14 * i) (A.ts i) := fg_TWp.agF (fg_isT_told (by have := hA.2.2.2.1.2; omega)) hf (hA.2.2.2.2.2.1 i hi).1 hag
theorem ev_Fb_findOne {E : fg_E} {d : Nat} {μ : Nat → Nat → Int32} {R : fg_T4} {Q : Option Value → fg_M → Prop} {A : fg_Tl} (hA : fg_TL μ 101 A) {town day n person : Nat} (htown : town < 2 ^ 32) (hday : day < 2 ^ 32) (hn : n < 2 ^ 32) (hperson : person < 2 ^ 32) (hN : fg_fn1 A town day n person = none → ∀ (μ' : Nat → Nat → Int32) (R' : fg_T4), fg_agF 273 μ μ' → R'.2 = R.2 → Q (some .null) (μ', fg_rho R', 304)) (hY : ∀ (S : fg_H3) (lv : Nat → Nat), fg_fnd A town day n = some (S, lv) → person < A.ts town 2 → ∀ μ' : Nat → Nat → Int32, fg_agF 273 μ μ' → fg_FS μ' 273 (A.ts town) S lv (none, 0, 0) → Q (some (.ref 273)) (μ', fg_rho (some (104 + 14 * town), R.2.1, R.2.2.1, R.2.2.2), 304)) : fg_Ev E yy_Fb_findOne (d + 9) [.ref 100, .int (nI town), .int (nI day), .int (nI n), .int (nI person)] (μ, fg_rho R, 304) 304 Q := by
  have ht2 := hA.2.2.2.1.2
  have hd3 := hA.2.2.2.2.1.2
  refine fg_intro (by decide +kernel) (Nat.le_of_ble_eq_true rfl) (fg_okAs rfl) (Nat.le_refl _) ?_
  refine fg_aloadn (fg_ft (pc := 0) tb_Fb_findOne 0 rfl) rfl ?_
  refine fg_iloadn (fg_ft (pc := 1) tb_Fb_findOne 1 rfl) rfl ?_
  refine fg_iloadn (fg_ft (pc := 2) tb_Fb_findOne 2 rfl) rfl ?_
  refine fg_iloadn (fg_ft (pc := 3) tb_Fb_findOne 3 rfl) rfl ?_
  refine fg_callV (fg_ft (pc := 4) tb_Fb_findOne 4 rfl) cf_Fb_184 (fg_isOf ly_100 rfl (fg_lt ly_100 (by decide))) (as := [.int (nI town), .int (nI day), .int (nI n)]) (st := []) rfl rfl (Nat.le_of_ble_eq_true rfl) (Nat.le_refl _) (Nat.le_refl _) (ev_Fb_find hA htown hday hn (fun n4 μ1 R1 ho1 hR1 => ?_) (fun S lv y4 μ1 ho1 hF1 => ?_))
  · refine fg_astoreN (fg_ft (pc := 7) tb_Fb_findOne 5 rfl) (Nat.le_of_ble_eq_true rfl) ?_
    refine fg_aloadN (fg_ft (pc := 9) tb_Fb_findOne 6 rfl) rfl ?_
    refine fg_ifnull (tgt := 27) (fg_ft (pc := 11) tb_Fb_findOne 7 rfl) (by decide) ?_
    refine fg_null (fg_ft (pc := 27) tb_Fb_findOne 13 rfl) ?_
    refine fg_goto (tgt := 33) (fg_ft (pc := 28) tb_Fb_findOne 14 rfl) (by decide) ?_
    exact fg_nret (fg_ft (pc := 33) tb_Fb_findOne 16 rfl) rfl (by first | exact Or.inl ⟨_, rfl⟩ | exact Or.inr ⟨_, rfl⟩) rfl (hN (by unfold fg_fn1; rw [n4]; split <;> rfl) μ1 R1 ho1 hR1)
  · have ytc := fg_fnd_t y4
    refine fg_astore (fg_ft (pc := 7) tb_Fb_findOne 5 rfl) (Nat.le_of_ble_eq_true rfl) ?_
    refine fg_aload (fg_ft (pc := 9) tb_Fb_findOne 6 rfl) rfl ?_
    refine fg_ifnull_r (fg_ft (pc := 11) tb_Fb_findOne 7 rfl) ?_
    refine fg_aload (fg_ft (pc := 14) tb_Fb_findOne 8 rfl) rfl ?_
    refine fg_getR (fg_ft (pc := 16) tb_Fb_findOne 9 rfl) ff_Fb_194 ly_273 rfl (fg_lt ly_273 (by decide)) rfl ?_
    refine fg_iload (fg_ft (pc := 19) tb_Fb_findOne 10 rfl) rfl ?_
    refine fg_callV (fg_ft (pc := 21) tb_Fb_findOne 11 rfl) cf_Fb_178 (fg_isOf (tT_lay (fg_isT_told (by omega))) rfl (fg_lt (tT_lay (fg_isT_told (by omega))) (by decide))) (as := [.int (nI person)]) (st := []) rfl rfl (Nat.le_of_ble_eq_true rfl) (Nat.le_refl _) (Nat.le_refl _) (ev_Town_hasPersonX (fg_isT_told (by omega)) (fg_TL.town hA (Or.inl rfl) ytc ho1) (hA.2.2.2.2.2.1 town ytc).2 (k := person) hperson ?_)
    refine fg_ifB_ne (tgt := 31) (fg_ft (pc := 24) tb_Fb_findOne 12 rfl) (by decide) (fun c24 => ?_) (fun c24 => ?_)
    · refine fg_aload (fg_ft (pc := 31) tb_Fb_findOne 15 rfl) rfl ?_
      exact fg_aret (fg_ft (pc := 33) tb_Fb_findOne 16 rfl) rfl (by first | exact Or.inl ⟨_, rfl⟩ | exact Or.inr ⟨_, rfl⟩) rfl (hY S lv y4 c24 μ1 ho1 hF1)
    · refine fg_null (fg_ft (pc := 27) tb_Fb_findOne 13 rfl) ?_
      refine fg_goto (tgt := 33) (fg_ft (pc := 28) tb_Fb_findOne 14 rfl) (by decide) ?_
      exact fg_nret (fg_ft (pc := 33) tb_Fb_findOne 16 rfl) rfl (by first | exact Or.inl ⟨_, rfl⟩ | exact Or.inr ⟨_, rfl⟩) rfl (hN (by unfold fg_fn1; rw [if_neg c24]) μ1 (some (104 + 14 * town), R.2.1, R.2.2.1, R.2.2.2) ho1 rfl)
theorem ev_Fb_eveningOf {E : fg_E} {d : Nat} {μ : Nat → Nat → Int32} {R : fg_T4} {Q : Option Value → fg_M → Prop} {t : Nat} {T : Nat → Nat} (ht : fg_isT t) (hT : fg_TW μ t T) (hok : fg_ok T) {h : Nat} {Z : fg_Z} {hv lv : Nat → Nat} {o : Option Nat × Nat × Nat} (hft : fg_rho R 273 0 = some t) (hF : fg_FZ μ 273 T h Z hv lv o) (hz : fg_zok T h Z hv) (hQ : ∀ μ' : Nat → Nat → Int32, fg_agF 277 μ μ' → fg_FS μ' 277 T (fg_pn T (none, 0, 0) (9 - h) (h, (Z.1, 0, 0, 0), hv)) lv (none, 0, 0) → Q (some (.ref 277)) (μ', fg_rho (R.1, some t, R.2.2.1, R.2.2.2), 304)) : fg_Ev E yy_Fb_eveningOf (d + 7) [.ref 100, .ref 273] (μ, fg_rho R, 304) 304 Q := by
  refine fg_intro (by decide +kernel) (Nat.le_of_ble_eq_true rfl) (fg_okAs rfl) (Nat.le_refl _) ?_
  refine fg_aloadn (fg_ft (pc := 0) tb_Fb_eveningOf 0 rfl) rfl ?_
  refine fg_getR (fg_ft (pc := 1) tb_Fb_eveningOf 1 rfl) ff_Fb_38 ly_100 rfl (fg_lt ly_100 (by decide)) (rh_100_5 R) ?_
  refine fg_aloadn (fg_ft (pc := 4) tb_Fb_eveningOf 2 rfl) rfl ?_
  refine fg_callV (fg_ft (pc := 5) tb_Fb_eveningOf 3 rfl) cf_Fb_233 (fg_isOf ly_277 rfl (fg_lt ly_277 (by decide))) (as := [.ref 273]) (st := []) rfl rfl (Nat.le_of_ble_eq_true rfl) (Nat.le_refl _) (Nat.le_refl _) (ev_Folk_copyFrom ht hT hok hft hF hz ?_)
  intro μ1 ho1 hF1
  show fg_wp _ _ _ _ _ _ _ _ _ (μ1, fg_rho (R.1, some t, R.2.2.1, R.2.2.2), 304)
  refine fg_aloadn (fg_ft (pc := 8) tb_Fb_eveningOf 4 rfl) rfl ?_
  refine fg_getR (fg_ft (pc := 9) tb_Fb_eveningOf 5 rfl) ff_Fb_38 ly_100 rfl (fg_lt ly_100 (by decide)) (rh_100_5 (R.1, some t, R.2.2.1, R.2.2.2)) ?_
  refine fg_callV (fg_ft (pc := 12) tb_Fb_eveningOf 6 rfl) cf_Fb_353 (fg_isOf ly_277 rfl (fg_lt ly_277 (by decide))) (as := []) (st := []) rfl rfl (Nat.le_of_ble_eq_true rfl) (Nat.le_refl _) (Nat.le_refl _) (ev_Folk_passDay (R := (R.1, some t, R.2.2.1, R.2.2.2)) ht (fg_TWp.agF ht (Or.inr rfl) hT ho1) hok (f := 277) (Or.inr rfl) rfl hF1 (fg_zok.news hz) (by decide) ?_)
  intro μ2 ho2 hF2
  show fg_wp _ _ _ _ _ _ _ _ _ (μ2, fg_rho (R.1, some t, R.2.2.1, R.2.2.2), 304)
  refine fg_aloadn (fg_ft (pc := 15) tb_Fb_eveningOf 7 rfl) rfl ?_
  refine fg_getR (fg_ft (pc := 16) tb_Fb_eveningOf 8 rfl) ff_Fb_38 ly_100 rfl (fg_lt ly_100 (by decide)) (rh_100_5 (R.1, some t, R.2.2.1, R.2.2.2)) ?_
  exact fg_aret (fg_ft (pc := 19) tb_Fb_eveningOf 9 rfl) rfl (by first | exact Or.inl ⟨_, rfl⟩ | exact Or.inr ⟨_, rfl⟩) rfl (hQ μ2 (fg_agF_tr ho1 ho2) hF2)
/-- whether one has a fact by evening, with a mind set in its place -/
def fg_hbe (T : Nat → Nat) (S : fg_H3) (p m k : Nat) : Prop := ((fg_ch T (none, 0, 0) p k (9 - S.1) (S.1, (fg_up1 S.2.1.1 p m, 0, 0, 0), S.2.2)).2.1.1 p).testBit k = true
theorem fg_zok.set {T : Nat → Nat} {h p m : Nat} {Z : fg_Z} {hv : Nat → Nat} (H : fg_zok T h Z hv) (h1 : m < 2 ^ T 0) (h2 : fg_clsd T m) {x : Nat × Nat × Nat} : fg_zok T h (fg_up1 Z.1 p m, x) hv := by
  refine ⟨H.1, fun q hq => ?_, H.2.2⟩
  show fg_up1 Z.1 p m q < _ ∧ fg_clsd T (fg_up1 Z.1 p m q)
  rcases Nat.decEq q p with e | e
  · rw [fg_up1_ne e]; exact H.2.1 q hq
  · rw [e, fg_up1_eq]; exact ⟨h1, h2⟩
theorem ev_Fb_hasByEvening {E : fg_E} {d : Nat} {μ : Nat → Nat → Int32} {R : fg_T4} {Q : Option Value → fg_M → Prop} {t : Nat} {T : Nat → Nat} (ht : fg_isT t) (hT : fg_TW μ t T) (hok : fg_ok T) {h : Nat} {Z : fg_Z} {hv lv : Nat → Nat} {o : Option Nat × Nat × Nat} (hft : fg_rho R 273 0 = some t) (hF : fg_FZ μ 273 T h Z hv lv o) (hz : fg_zok T h Z hv) {p m k : Nat} (hpT : p < T 2) (hm : m < 2 ^ T 0) (hmc : fg_clsd T m) (hk31 : k < 2 ^ 31) (hQ : ∀ μ' : Nat → Nat → Int32, fg_agF 277 μ μ' → Q (some (.int (fg_bI (p < T 2 ∧ fg_hbe T (h, Z, hv) p m k)))) (μ', fg_rho (R.1, some t, R.2.2.1, R.2.2.2), 304)) : fg_Ev E yy_Fb_hasByEvening (d + 7) [.ref 100, .ref 273, .int (nI p), .int (nI m), .int (nI k)] (μ, fg_rho R, 304) 304 Q := by
  have hb1 := hok.2.1
  refine fg_intro (by decide +kernel) (Nat.le_of_ble_eq_true rfl) (fg_okAs rfl) (Nat.le_refl _) ?_
  refine fg_aloadn (fg_ft (pc := 0) tb_Fb_hasByEvening 0 rfl) rfl ?_
  refine fg_getR (fg_ft (pc := 1) tb_Fb_hasByEvening 1 rfl) ff_Fb_38 ly_100 rfl (fg_lt ly_100 (by decide)) (rh_100_5 R) ?_
  refine fg_aloadn (fg_ft (pc := 4) tb_Fb_hasByEvening 2 rfl) rfl ?_
  refine fg_callV (fg_ft (pc := 5) tb_Fb_hasByEvening 3 rfl) cf_Fb_233 (fg_isOf ly_277 rfl (fg_lt ly_277 (by decide))) (as := [.ref 273]) (st := []) rfl rfl (Nat.le_of_ble_eq_true rfl) (Nat.le_refl _) (Nat.le_refl _) (ev_Folk_copyFrom ht hT hok hft hF hz ?_)
  intro μ1 ho1 hF1
  show fg_wp _ _ _ _ _ _ _ _ _ (μ1, fg_rho (R.1, some t, R.2.2.1, R.2.2.2), 304)
  refine fg_aloadn (fg_ft (pc := 8) tb_Fb_hasByEvening 4 rfl) rfl ?_
  refine fg_getR (fg_ft (pc := 9) tb_Fb_hasByEvening 5 rfl) ff_Fb_38 ly_100 rfl (fg_lt ly_100 (by decide)) (rh_100_5 (R.1, some t, R.2.2.1, R.2.2.2)) ?_
  refine fg_iloadn (fg_ft (pc := 12) tb_Fb_hasByEvening 6 rfl) rfl ?_
  refine fg_iloadn (fg_ft (pc := 13) tb_Fb_hasByEvening 7 rfl) rfl ?_
  refine fg_callV (fg_ft (pc := 14) tb_Fb_hasByEvening 8 rfl) cf_Fb_281 (fg_isOf ly_277 rfl (fg_lt ly_277 (by decide))) (as := [.int (nI p), .int (nI m)]) (st := []) rfl rfl (Nat.le_of_ble_eq_true rfl) (Nat.le_refl _) (Nat.le_refl _) (ev_Folk_setMind (R := (R.1, some t, R.2.2.1, R.2.2.2)) ht (fg_TWp.agF ht (Or.inr rfl) hT ho1) hok (f := 277) (Or.inr rfl) rfl hF1 (fg_zok.news hz) (p := p) (m := m) hpT ?_)
  show fg_wp _ _ _ _ _ _ _ _ _ (fg_u2 μ1 278 p (nI m), fg_rho (R.1, some t, R.2.2.1, R.2.2.2), 304)
  refine fg_aloadn (fg_ft (pc := 17) tb_Fb_hasByEvening 9 rfl) rfl ?_
  refine fg_getR (fg_ft (pc := 18) tb_Fb_hasByEvening 10 rfl) ff_Fb_38 ly_100 rfl (fg_lt ly_100 (by decide)) (rh_100_5 (R.1, some t, R.2.2.1, R.2.2.2)) ?_
  refine fg_iloadn (fg_ft (pc := 21) tb_Fb_hasByEvening 11 rfl) rfl ?_
  refine fg_iload (fg_ft (pc := 22) tb_Fb_hasByEvening 12 rfl) rfl ?_
  refine fg_callV (fg_ft (pc := 24) tb_Fb_hasByEvening 13 rfl) cf_Fb_236 (fg_isOf ly_277 rfl (fg_lt ly_277 (by decide))) (as := [.int (nI p), .int (nI k)]) (st := []) rfl rfl (Nat.le_of_ble_eq_true rfl) (Nat.le_refl _) (Nat.le_refl _) (ev_Folk_comesToHave (R := (R.1, some t, R.2.2.1, R.2.2.2)) ht (fg_TWp.agF ht (Or.inr rfl) hT (fg_agF_tr ho1 (fg_agF_u (by decide) (by decide)))) hok (f := 277) (Or.inr rfl) rfl (hF1.setMind (p := p) (m := m)) (fg_zok.set hz hm hmc) (p := p) (k := k) (by omega) hk31 (by decide) ?_)
  intro μ2 ho2 hF2
  show fg_wp _ _ _ _ _ _ _ _ _ (μ2, fg_rho (R.1, some t, R.2.2.1, R.2.2.2), 304)
  exact fg_zret (fg_ft (pc := 27) tb_Fb_hasByEvening 14 rfl) rfl (fg_bN _) rfl (hQ μ2 (fg_agF_tr ho1 (fg_agF_tr (fg_agF_u (by decide) (by decide)) ho2)))
