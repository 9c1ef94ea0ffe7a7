/-! the public methods: answers as functions of what is told -/
def fg_agQ (μ μ' : Nat → Nat → Int32) : Prop := ∀ a, (a < 273 ∨ 286 < a) → ∀ j, μ' a j = μ a j
theorem fg_agQ_rf (μ : Nat → Nat → Int32) : fg_agQ μ μ := fun _ _ _ => rfl
theorem fg_agQ_tr {μ μ' μ'' : Nat → Nat → Int32} (h1 : fg_agQ μ μ') (h2 : fg_agQ μ' μ'') : fg_agQ μ μ'' := fun a ha j => (h2 a ha j).trans (h1 a ha j)
theorem fg_agQ_F {f : Nat} {μ μ' : Nat → Nat → Int32} (hf : fg_isF f) (h : fg_agF f μ μ') : fg_agQ μ μ' := fun a ha j => h a (by rcases hf with rfl | rfl <;> omega) j
theorem fg_q {Q : Option Value → fg_M → Prop} {x y : Int32} {M : fg_M} (h : Q (some (.int x)) M) (e : x = y) : Q (some (.int y)) M := e ▸ h
theorem fg_FZ.ag7 {μ μ' : Nat → Nat → Int32} {h : Nat} {T : Nat → Nat} {Z : fg_Z} {hv lv : Nat → Nat} {o : Option Nat × Nat × Nat} (H : fg_FZ μ 273 T h Z hv lv o) (ho : fg_agF 277 μ μ') : fg_FZ μ' 273 T h Z hv lv o := by
  obtain ⟨h1, h2, h3, h4, h5, ⟨h6, h7, h8⟩, h9, h10, h11⟩ := H
  have e : ∀ a j, a < 277 → μ' a j = μ a j := fun a j ha => ho a (Or.inl ha) j
  exact ⟨(e _ _ (by decide)).trans h1, (e _ _ (by decide)).trans h2, fun q hq => (e _ _ (by decide)).trans (h3 q hq), fun q hq => (e _ _ (by decide)).trans (h4 q hq), fun q hq => (e _ _ (by decide)).trans (h5 q hq), ⟨(e _ _ (by decide)).trans h6, (e _ _ (by decide)).trans h7, (e _ _ (by decide)).trans h8⟩, (e _ _ (by decide)).trans h9, (e _ _ (by decide)).trans h10, (e _ _ (by decide)).trans h11⟩
noncomputable def fg_g0 (A : fg_Tl) (town day n : Nat) (x : Int32) (f : (Nat → Nat) → fg_H3 → (Nat → Nat) → Int32) : Int32 := match fg_fnd A town day n with
  | none => x
  | some q => f (A.ts town) q.1 q.2
noncomputable def fg_g1 (A : fg_Tl) (town day n person : Nat) (x : Int32) (f : (Nat → Nat) → fg_H3 → (Nat → Nat) → Int32) : Int32 := match fg_fn1 A town day n person with
  | none => x
  | some q => f (A.ts town) q.1 q.2
theorem fg_g0_none {A : fg_Tl} {town day n : Nat} {x : Int32} {f : (Nat → Nat) → fg_H3 → (Nat → Nat) → Int32} (h : fg_fnd A town day n = none) : fg_g0 A town day n x f = x := by
  unfold fg_g0; rw [h]
theorem fg_g0_some {A : fg_Tl} {town day n : Nat} {x : Int32} {f : (Nat → Nat) → fg_H3 → (Nat → Nat) → Int32} {S : fg_H3} {lv : Nat → Nat} (h : fg_fnd A town day n = some (S, lv)) : fg_g0 A town day n x f = f (A.ts town) S lv := by
  unfold fg_g0; rw [h]
theorem fg_g1_none {A : fg_Tl} {town day n person : Nat} {x : Int32} {f : (Nat → Nat) → fg_H3 → (Nat → Nat) → Int32} (h : fg_fn1 A town day n person = none) : fg_g1 A town day n person x f = x := by
  unfold fg_g1; rw [h]
theorem fg_g1_some {A : fg_Tl} {town day n person : Nat} {x : Int32} {f : (Nat → Nat) → fg_H3 → (Nat → Nat) → Int32} {S : fg_H3} {lv : Nat → Nat} (h : fg_fnd A town day n = some (S, lv)) (hp : person < A.ts town 2) : fg_g1 A town day n person x f = f (A.ts town) S lv := by
  unfold fg_g1 fg_fn1; rw [if_pos hp, h]
/-- the evening of a state -/
noncomputable def fg_ev (T : Nat → Nat) (S : fg_H3) : fg_H3 := fg_pn T (none, 0, 0) (9 - S.1) (S.1, (S.2.1.1, 0, 0, 0), S.2.2)
theorem fg_ev_ok {T : Nat → Nat} (hok : fg_ok T) {S : fg_H3} (h : fg_zok T S.1 S.2.1 S.2.2) : fg_zok T (fg_ev T S).1 (fg_ev T S).2.1 (fg_ev T S).2.2 := fg_pn_ok hok _ _ (fg_zok.news h)
theorem ev_Rows_hasX {E : fg_E} {d : Nat} {μ : Nat → Nat → Int32} {R : fg_T4} {Q : Option Value → fg_M → Prop} {r c n w sz : Nat} (hr : fg_rows R r c n) (hw : μ r 0 = nI w) (hs : μ r 2 = nI sz) (hf : sz * w ≤ n) (hwl : w < 2 ^ 31) (hz : sz < 2 ^ 31) {i j : Nat} (hi : i < 2 ^ 32) (hj : j < 2 ^ 32) (hQ : Q (some (.int (fg_bI (i < sz ∧ j < w)))) (μ, fg_rho R, 304)) : fg_Ev E yy_Rows_has (d + 1) [.ref r, .int (nI i), .int (nI j)] (μ, fg_rho R, 304) 304 Q := by
  refine ev_Rows_has hr hw hs hf hwl hz (fg_q hQ (fg_bc ⟨fun h => ?_, fun hh => ?_⟩))
  · obtain ⟨a1, a2⟩ := (fg_inN hz).mpr ⟨i, h.1, rfl⟩
    obtain ⟨b1, b2⟩ := (fg_inN hwl).mpr ⟨j, h.2, rfl⟩
    exact ⟨a1, a2, b1, b2⟩
  · obtain ⟨k1, h1, e1⟩ := (fg_inN hz).mp ⟨hh.1, hh.2.1⟩
    obtain ⟨k2, h2, e2⟩ := (fg_inN hwl).mp ⟨hh.2.2.1, hh.2.2.2⟩
    have g1 := fg_nI_injW hi (by omega) e1
    have g2 := fg_nI_injW hj (by omega) e2
    omega
def an_count (A : fg_Tl) (what : Nat) : Int32 := if what = 0 then nI A.tc else if what = 1 then nI A.dc else -2
def an_fault (A : fg_Tl) (what : Nat) : Int32 := if what = 0 then nI A.fault else if what = 1 then A.place else -1
def an_town (A : fg_Tl) (town what : Nat) : Int32 := if town < A.tc then (if what < 8 then nI (A.ts town what) else if what = 8 then nI (fg_df (2 ^ A.ts town 0 - 1) (fg_tol (A.ts town) (A.ts town 1))) else -1) else -1
def fg_thg (A : fg_Tl) (town cnt base w k what : Nat) : Int32 := if town < A.tc then (if k < A.ts town cnt ∧ what < w then nI (A.ts town (base + (k * w + what))) else -1) else -1
def an_rule (A : fg_Tl) (town k what : Nat) : Int32 := fg_thg A town 1 8 2 k what
def an_person (A : fg_Tl) (town k what : Nat) : Int32 := fg_thg A town 2 40 3 k what
def an_sign (A : fg_Tl) (town k what : Nat) : Int32 := fg_thg A town 3 55 2 k what
def an_meet (A : fg_Tl) (town k what : Nat) : Int32 := fg_thg A town 4 79 4 k what
def an_skill (A : fg_Tl) (town k hurt what : Nat) : Int32 := if hurt = 0 then fg_thg A town 5 127 2 k what else fg_thg A town 6 139 2 k what
def an_act (A : fg_Tl) (day act what : Nat) : Int32 := if day < A.dc then (if act = 4294967295 ∧ what = 0 then nI (A.nd day) else if act < A.nd day ∧ what < 4 then A.ds day (1 + (act * 4 + what)) else -2) else -2
noncomputable def an_reach (A : fg_Tl) (town facts : Nat) : Int32 := if town < A.tc then (if facts < 2 ^ A.ts town 0 then nI (fg_clo (A.ts town) facts) else -1) else -1
theorem ev_Fb_count {E : fg_E} {d : Nat} {μ : Nat → Nat → Int32} {R : fg_T4} {Q : Option Value → fg_M → Prop} {A : fg_Tl} (hA : fg_TL μ 101 A) {what : Nat} (hwhat : what < 2 ^ 32) (hQ : ∀ (μ' : Nat → Nat → Int32) (R' : fg_T4), fg_agQ μ μ' → Q (some (.int (an_count A what))) (μ', fg_rho R', 304)) : fg_Ev E yy_Fb_count (d + 12) [.ref 100, .int (nI what)] (μ, fg_rho R, 304) 304 Q := by
  have ht2 := hA.2.2.2.1.2
  have hd3 := hA.2.2.2.2.1.2
  refine fg_intro (by decide +kernel) (Nat.le_of_ble_eq_true rfl) (fg_okAs rfl) (Nat.le_refl _) ?_
  refine fg_iloadn (fg_ft (pc := 0) tb_Fb_count 0 rfl) rfl ?_
  refine fg_if_neW (tgt := 12) (fg_ft (pc := 1) tb_Fb_count 1 rfl) (by decide) (hwhat) (fun c1 => ?_) (fun c1 => ?_)
  · refine fg_iloadn (fg_ft (pc := 12) tb_Fb_count 6 rfl) rfl ?_
    refine fg_iconst (fg_ft (pc := 13) tb_Fb_count 7 rfl) ic_1 ?_
    refine fg_icmp_neW (tgt := 27) (fg_ft (pc := 14) tb_Fb_count 8 rfl) (by decide) (hwhat) (by decide) (fun c14 => ?_) (fun c14 => ?_)
    · refine fg_bipush (fg_ft (pc := 27) tb_Fb_count 13 rfl) ib_m2 ?_
      exact fg_iret (fg_ft (pc := 29) tb_Fb_count 14 rfl) rfl rfl (fg_q (hQ _ R (fg_agQ_rf μ)) (by unfold an_count; (repeat (first | rw [if_pos (by assumption)] | rw [if_neg (by assumption)] | rw [if_pos (by omega)] | rw [if_neg (by omega)] | rw [if_pos (by constructor <;> assumption)] | rw [if_neg (by intro hh; exact absurd hh.1 (by assumption))] | rw [if_neg (by intro hh; exact absurd hh.2 (by assumption))]))))
    · refine fg_aloadn (fg_ft (pc := 17) tb_Fb_count 9 rfl) rfl ?_
      refine fg_getR (fg_ft (pc := 18) tb_Fb_count 10 rfl) ff_Fb_12 ly_100 rfl (fg_lt ly_100 (by decide)) (rh_100_0 R) ?_
      refine fg_getV (v := (nI (A.dc))) (fg_ft (pc := 21) tb_Fb_count 11 rfl) ff_Fb_149 ly_101 rfl (fg_lt ly_101 (by decide)) hA.2.2.2.2.1.1 ?_
      refine fg_goto (tgt := 29) (fg_ft (pc := 24) tb_Fb_count 12 rfl) (by decide) ?_
      exact fg_iret (fg_ft (pc := 29) tb_Fb_count 14 rfl) rfl rfl (fg_q (hQ _ R (fg_agQ_rf μ)) (by unfold an_count; (repeat (first | rw [if_pos (by assumption)] | rw [if_neg (by assumption)] | rw [if_pos (by omega)] | rw [if_neg (by omega)] | rw [if_pos (by constructor <;> assumption)] | rw [if_neg (by intro hh; exact absurd hh.1 (by assumption))] | rw [if_neg (by intro hh; exact absurd hh.2 (by assumption))]))))
  · refine fg_aloadn (fg_ft (pc := 4) tb_Fb_count 2 rfl) rfl ?_
    refine fg_getR (fg_ft (pc := 5) tb_Fb_count 3 rfl) ff_Fb_12 ly_100 rfl (fg_lt ly_100 (by decide)) (rh_100_0 R) ?_
    refine fg_getV (v := (nI (A.tc))) (fg_ft (pc := 8) tb_Fb_count 4 rfl) ff_Fb_146 ly_101 rfl (fg_lt ly_101 (by decide)) hA.2.2.2.1.1 ?_
    exact fg_iret (fg_ft (pc := 11) tb_Fb_count 5 rfl) rfl rfl (fg_q (hQ _ R (fg_agQ_rf μ)) (by unfold an_count; (repeat (first | rw [if_pos (by assumption)] | rw [if_neg (by assumption)] | rw [if_pos (by omega)] | rw [if_neg (by omega)] | rw [if_pos (by constructor <;> assumption)] | rw [if_neg (by intro hh; exact absurd hh.1 (by assumption))] | rw [if_neg (by intro hh; exact absurd hh.2 (by assumption))]))))
theorem ev_Fb_fault {E : fg_E} {d : Nat} {μ : Nat → Nat → Int32} {R : fg_T4} {Q : Option Value → fg_M → Prop} {A : fg_Tl} (hA : fg_TL μ 101 A) {what : Nat} (hwhat : what < 2 ^ 32) (hQ : ∀ (μ' : Nat → Nat → Int32) (R' : fg_T4), fg_agQ μ μ' → Q (some (.int (an_fault A what))) (μ', fg_rho R', 304)) : fg_Ev E yy_Fb_fault (d + 12) [.ref 100, .int (nI what)] (μ, fg_rho R, 304) 304 Q := by
  have ht2 := hA.2.2.2.1.2
  have hd3 := hA.2.2.2.2.1.2
  refine fg_intro (by decide +kernel) (Nat.le_of_ble_eq_true rfl) (fg_okAs rfl) (Nat.le_refl _) ?_
  refine fg_iloadn (fg_ft (pc := 0) tb_Fb_fault 0 rfl) rfl ?_
  refine fg_if_neW (tgt := 12) (fg_ft (pc := 1) tb_Fb_fault 1 rfl) (by decide) (hwhat) (fun c1 => ?_) (fun c1 => ?_)
  · refine fg_iloadn (fg_ft (pc := 12) tb_Fb_fault 6 rfl) rfl ?_
    refine fg_iconst (fg_ft (pc := 13) tb_Fb_fault 7 rfl) ic_1 ?_
    refine fg_icmp_neW (tgt := 27) (fg_ft (pc := 14) tb_Fb_fault 8 rfl) (by decide) (hwhat) (by decide) (fun c14 => ?_) (fun c14 => ?_)
    · refine fg_iconst (fg_ft (pc := 27) tb_Fb_fault 13 rfl) ic_m1 ?_
      exact fg_iret (fg_ft (pc := 28) tb_Fb_fault 14 rfl) rfl rfl (fg_q (hQ _ R (fg_agQ_rf μ)) (by unfold an_fault; (repeat (first | rw [if_pos (by assumption)] | rw [if_neg (by assumption)] | rw [if_pos (by omega)] | rw [if_neg (by omega)] | rw [if_pos (by constructor <;> assumption)] | rw [if_neg (by intro hh; exact absurd hh.1 (by assumption))] | rw [if_neg (by intro hh; exact absurd hh.2 (by assumption))]))))
    · refine fg_aloadn (fg_ft (pc := 17) tb_Fb_fault 9 rfl) rfl ?_
      refine fg_getR (fg_ft (pc := 18) tb_Fb_fault 10 rfl) ff_Fb_12 ly_100 rfl (fg_lt ly_100 (by decide)) (rh_100_0 R) ?_
      refine fg_getV (v := (A.place)) (fg_ft (pc := 21) tb_Fb_fault 11 rfl) ff_Fb_63 ly_101 rfl (fg_lt ly_101 (by decide)) hA.2.2.1.2 ?_
      refine fg_goto (tgt := 28) (fg_ft (pc := 24) tb_Fb_fault 12 rfl) (by decide) ?_
      exact fg_iret (fg_ft (pc := 28) tb_Fb_fault 14 rfl) rfl rfl (fg_q (hQ _ R (fg_agQ_rf μ)) (by unfold an_fault; (repeat (first | rw [if_pos (by assumption)] | rw [if_neg (by assumption)] | rw [if_pos (by omega)] | rw [if_neg (by omega)] | rw [if_pos (by constructor <;> assumption)] | rw [if_neg (by intro hh; exact absurd hh.1 (by assumption))] | rw [if_neg (by intro hh; exact absurd hh.2 (by assumption))]))))
  · refine fg_aloadn (fg_ft (pc := 4) tb_Fb_fault 2 rfl) rfl ?_
    refine fg_getR (fg_ft (pc := 5) tb_Fb_fault 3 rfl) ff_Fb_12 ly_100 rfl (fg_lt ly_100 (by decide)) (rh_100_0 R) ?_
    refine fg_getV (v := (nI (A.fault))) (fg_ft (pc := 8) tb_Fb_fault 4 rfl) ff_Fb_60 ly_101 rfl (fg_lt ly_101 (by decide)) hA.2.2.1.1 ?_
    exact fg_iret (fg_ft (pc := 11) tb_Fb_fault 5 rfl) rfl rfl (fg_q (hQ _ R (fg_agQ_rf μ)) (by unfold an_fault; (repeat (first | rw [if_pos (by assumption)] | rw [if_neg (by assumption)] | rw [if_pos (by omega)] | rw [if_neg (by omega)] | rw [if_pos (by constructor <;> assumption)] | rw [if_neg (by intro hh; exact absurd hh.1 (by assumption))] | rw [if_neg (by intro hh; exact absurd hh.2 (by assumption))]))))
theorem ev_Fb_town {E : fg_E} {d : Nat} {μ : Nat → Nat → Int32} {R : fg_T4} {Q : Option Value → fg_M → Prop} {A : fg_Tl} (hA : fg_TL μ 101 A) {town what : Nat} (htown : town < 2 ^ 32) (hwhat : what < 2 ^ 32) (hQ : ∀ (μ' : Nat → Nat → Int32) (R' : fg_T4), fg_agQ μ μ' → Q (some (.int (an_town A town what))) (μ', fg_rho R', 304)) : fg_Ev E yy_Fb_town (d + 12) [.ref 100, .int (nI town), .int (nI what)] (μ, fg_rho R, 304) 304 Q := by
  have ht2 := hA.2.2.2.1.2
  have hd3 := hA.2.2.2.2.1.2
  refine fg_intro (by decide +kernel) (Nat.le_of_ble_eq_true rfl) (fg_okAs rfl) (Nat.le_refl _) ?_
  refine fg_aloadn (fg_ft (pc := 0) tb_Fb_town 0 rfl) rfl ?_
  refine fg_getR (fg_ft (pc := 1) tb_Fb_town 1 rfl) ff_Fb_12 ly_100 rfl (fg_lt ly_100 (by decide)) (rh_100_0 R) ?_
  refine fg_iloadn (fg_ft (pc := 4) tb_Fb_town 2 rfl) rfl ?_
  refine fg_callV (fg_ft (pc := 5) tb_Fb_town 3 rfl) cf_Fb_96 (fg_isOf ly_101 rfl (fg_lt ly_101 (by decide))) (as := [.int (nI town)]) (st := []) rfl rfl (Nat.le_of_ble_eq_true rfl) (Nat.le_refl _) (Nat.le_refl _) (ev_Told_townAt hA (i := town) htown (fun n5 => ?_) (fun y5 => ?_))
  · refine fg_astorenN (fg_ft (pc := 8) tb_Fb_town 4 rfl) (Nat.le_of_ble_eq_true rfl) ?_
    refine fg_aloadnN (fg_ft (pc := 9) tb_Fb_town 5 rfl) rfl ?_
    refine fg_ifnonnull_n (fg_ft (pc := 10) tb_Fb_town 6 rfl) ?_
    refine fg_iconst (fg_ft (pc := 13) tb_Fb_town 7 rfl) ic_m1 ?_
    exact fg_iret (fg_ft (pc := 14) tb_Fb_town 8 rfl) rfl rfl (fg_q (hQ _ R (fg_agQ_rf μ)) (by unfold an_town; rw [if_neg n5]))
  · have hok := (hA.2.2.2.2.2.1 town y5).2
    have hT := (hA.2.2.2.2.2.1 town y5).1
    have ht : fg_isT (104 + 14 * town) := fg_isT_told (by omega)
    have hb0 := hok.1
    have hb1 := hok.2.1
    have hp := hok.p
    refine fg_astoren (fg_ft (pc := 8) tb_Fb_town 4 rfl) (Nat.le_of_ble_eq_true rfl) ?_
    refine fg_aloadn (fg_ft (pc := 9) tb_Fb_town 5 rfl) rfl ?_
    refine fg_ifnonnull (tgt := 15) (fg_ft (pc := 10) tb_Fb_town 6 rfl) (by decide) ?_
    refine fg_iloadn (fg_ft (pc := 15) tb_Fb_town 9 rfl) rfl ?_
    by_cases e16_0 : what = 0
    · refine fg_swN (tgt := 68) (fg_ft (pc := 16) tb_Fb_town 10 rfl) e16_0 (by decide) (by decide) (by decide) rfl (by decide) ?_
      refine fg_aloadn (fg_ft (pc := 68) tb_Fb_town 11 rfl) rfl ?_
      refine fg_getV (v := (nI ((A.ts town) 0))) (fg_ft (pc := 69) tb_Fb_town 12 rfl) ff_Fb_100 (tT_lay ht) rfl (fg_lt (tT_lay ht) (by decide)) hT.1.1 ?_
      exact fg_iret (fg_ft (pc := 72) tb_Fb_town 13 rfl) rfl rfl (fg_q (hQ _ R (fg_agQ_rf μ)) (by unfold an_town; rw [if_pos y5, if_pos (by omega)]; (first | rw [e16_0] | rw [e16_1] | rw [e16_2] | rw [e16_3] | rw [e16_4] | rw [e16_5] | rw [e16_6] | rw [e16_7])))
    by_cases e16_1 : what = 1
    · refine fg_swN (tgt := 73) (fg_ft (pc := 16) tb_Fb_town 10 rfl) e16_1 (by decide) (by decide) (by decide) rfl (by decide) ?_
      refine fg_aloadn (fg_ft (pc := 73) tb_Fb_town 14 rfl) rfl ?_
      refine fg_getR (fg_ft (pc := 74) tb_Fb_town 15 rfl) ff_Fb_105 (tT_lay ht) rfl (fg_lt (tT_lay ht) (by decide)) (tT_r2 ht) ?_
      refine fg_getV (v := (nI ((A.ts town) 1))) (fg_ft (pc := 77) tb_Fb_town 16 rfl) ff_Fb_108 ((tT_w2 (R := R) ht).1) rfl (fg_lt ((tT_w2 (R := R) ht).1) (by decide)) hT.2.1.2.1 ?_
      exact fg_iret (fg_ft (pc := 80) tb_Fb_town 17 rfl) rfl rfl (fg_q (hQ _ R (fg_agQ_rf μ)) (by unfold an_town; rw [if_pos y5, if_pos (by omega)]; (first | rw [e16_0] | rw [e16_1] | rw [e16_2] | rw [e16_3] | rw [e16_4] | rw [e16_5] | rw [e16_6] | rw [e16_7])))
    by_cases e16_2 : what = 2
    · refine fg_swN (tgt := 81) (fg_ft (pc := 16) tb_Fb_town 10 rfl) e16_2 (by decide) (by decide) (by decide) rfl (by decide) ?_
      refine fg_aloadn (fg_ft (pc := 81) tb_Fb_town 18 rfl) rfl ?_
      refine fg_getR (fg_ft (pc := 82) tb_Fb_town 19 rfl) ff_Fb_113 (tT_lay ht) rfl (fg_lt (tT_lay ht) (by decide)) (tT_r3 ht) ?_
      refine fg_getV (v := (nI ((A.ts town) 2))) (fg_ft (pc := 85) tb_Fb_town 20 rfl) ff_Fb_108 ((tT_w3 (R := R) ht).1) rfl (fg_lt ((tT_w3 (R := R) ht).1) (by decide)) hT.2.2.1.2.1 ?_
      exact fg_iret (fg_ft (pc := 88) tb_Fb_town 21 rfl) rfl rfl (fg_q (hQ _ R (fg_agQ_rf μ)) (by unfold an_town; rw [if_pos y5, if_pos (by omega)]; (first | rw [e16_0] | rw [e16_1] | rw [e16_2] | rw [e16_3] | rw [e16_4] | rw [e16_5] | rw [e16_6] | rw [e16_7])))
    by_cases e16_3 : what = 3
    · refine fg_swN (tgt := 89) (fg_ft (pc := 16) tb_Fb_town 10 rfl) e16_3 (by decide) (by decide) (by decide) rfl (by decide) ?_
      refine fg_aloadn (fg_ft (pc := 89) tb_Fb_town 22 rfl) rfl ?_
      refine fg_getR (fg_ft (pc := 90) tb_Fb_town 23 rfl) ff_Fb_116 (tT_lay ht) rfl (fg_lt (tT_lay ht) (by decide)) (tT_r4 ht) ?_
      refine fg_getV (v := (nI ((A.ts town) 3))) (fg_ft (pc := 93) tb_Fb_town 24 rfl) ff_Fb_108 ((tT_w4 (R := R) ht).1) rfl (fg_lt ((tT_w4 (R := R) ht).1) (by decide)) hT.2.2.2.1.2.1 ?_
      exact fg_iret (fg_ft (pc := 96) tb_Fb_town 25 rfl) rfl rfl (fg_q (hQ _ R (fg_agQ_rf μ)) (by unfold an_town; rw [if_pos y5, if_pos (by omega)]; (first | rw [e16_0] | rw [e16_1] | rw [e16_2] | rw [e16_3] | rw [e16_4] | rw [e16_5] | rw [e16_6] | rw [e16_7])))
    by_cases e16_4 : what = 4
    · refine fg_swN (tgt := 97) (fg_ft (pc := 16) tb_Fb_town 10 rfl) e16_4 (by decide) (by decide) (by decide) rfl (by decide) ?_
      refine fg_aloadn (fg_ft (pc := 97) tb_Fb_town 26 rfl) rfl ?_
      refine fg_getR (fg_ft (pc := 98) tb_Fb_town 27 rfl) ff_Fb_119 (tT_lay ht) rfl (fg_lt (tT_lay ht) (by decide)) (tT_r5 ht) ?_
      refine fg_getV (v := (nI ((A.ts town) 4))) (fg_ft (pc := 101) tb_Fb_town 28 rfl) ff_Fb_108 ((tT_w5 (R := R) ht).1) rfl (fg_lt ((tT_w5 (R := R) ht).1) (by decide)) hT.2.2.2.2.1.2.1 ?_
      exact fg_iret (fg_ft (pc := 104) tb_Fb_town 29 rfl) rfl rfl (fg_q (hQ _ R (fg_agQ_rf μ)) (by unfold an_town; rw [if_pos y5, if_pos (by omega)]; (first | rw [e16_0] | rw [e16_1] | rw [e16_2] | rw [e16_3] | rw [e16_4] | rw [e16_5] | rw [e16_6] | rw [e16_7])))
    by_cases e16_5 : what = 5
    · refine fg_swN (tgt := 105) (fg_ft (pc := 16) tb_Fb_town 10 rfl) e16_5 (by decide) (by decide) (by decide) rfl (by decide) ?_
      refine fg_aloadn (fg_ft (pc := 105) tb_Fb_town 30 rfl) rfl ?_
      refine fg_getR (fg_ft (pc := 106) tb_Fb_town 31 rfl) ff_Fb_122 (tT_lay ht) rfl (fg_lt (tT_lay ht) (by decide)) (tT_r6 ht) ?_
      refine fg_getV (v := (nI ((A.ts town) 5))) (fg_ft (pc := 109) tb_Fb_town 32 rfl) ff_Fb_108 ((tT_w6 (R := R) ht).1) rfl (fg_lt ((tT_w6 (R := R) ht).1) (by decide)) hT.2.2.2.2.2.1.2.1 ?_
      exact fg_iret (fg_ft (pc := 112) tb_Fb_town 33 rfl) rfl rfl (fg_q (hQ _ R (fg_agQ_rf μ)) (by unfold an_town; rw [if_pos y5, if_pos (by omega)]; (first | rw [e16_0] | rw [e16_1] | rw [e16_2] | rw [e16_3] | rw [e16_4] | rw [e16_5] | rw [e16_6] | rw [e16_7])))
    by_cases e16_6 : what = 6
    · refine fg_swN (tgt := 113) (fg_ft (pc := 16) tb_Fb_town 10 rfl) e16_6 (by decide) (by decide) (by decide) rfl (by decide) ?_
      refine fg_aloadn (fg_ft (pc := 113) tb_Fb_town 34 rfl) rfl ?_
      refine fg_getR (fg_ft (pc := 114) tb_Fb_town 35 rfl) ff_Fb_125 (tT_lay ht) rfl (fg_lt (tT_lay ht) (by decide)) (tT_r7 ht) ?_
      refine fg_getV (v := (nI ((A.ts town) 6))) (fg_ft (pc := 117) tb_Fb_town 36 rfl) ff_Fb_108 ((tT_w7 (R := R) ht).1) rfl (fg_lt ((tT_w7 (R := R) ht).1) (by decide)) hT.2.2.2.2.2.2.1.2.1 ?_
      exact fg_iret (fg_ft (pc := 120) tb_Fb_town 37 rfl) rfl rfl (fg_q (hQ _ R (fg_agQ_rf μ)) (by unfold an_town; rw [if_pos y5, if_pos (by omega)]; (first | rw [e16_0] | rw [e16_1] | rw [e16_2] | rw [e16_3] | rw [e16_4] | rw [e16_5] | rw [e16_6] | rw [e16_7])))
    by_cases e16_7 : what = 7
    · refine fg_swN (tgt := 121) (fg_ft (pc := 16) tb_Fb_town 10 rfl) e16_7 (by decide) (by decide) (by decide) rfl (by decide) ?_
      refine fg_aloadn (fg_ft (pc := 121) tb_Fb_town 38 rfl) rfl ?_
      refine fg_getV (v := (nI ((A.ts town) 7))) (fg_ft (pc := 122) tb_Fb_town 39 rfl) ff_Fb_128 (tT_lay ht) rfl (fg_lt (tT_lay ht) (by decide)) hT.1.2 ?_
      exact fg_iret (fg_ft (pc := 125) tb_Fb_town 40 rfl) rfl rfl (fg_q (hQ _ R (fg_agQ_rf μ)) (by unfold an_town; rw [if_pos y5, if_pos (by omega)]; (first | rw [e16_0] | rw [e16_1] | rw [e16_2] | rw [e16_3] | rw [e16_4] | rw [e16_5] | rw [e16_6] | rw [e16_7])))
    by_cases e16_8 : what = 8
    · refine fg_swN (tgt := 126) (fg_ft (pc := 16) tb_Fb_town 10 rfl) e16_8 (by decide) (by decide) (by decide) rfl (by decide) ?_
      refine fg_aloadn (fg_ft (pc := 126) tb_Fb_town 41 rfl) rfl ?_
      refine fg_callV (fg_ft (pc := 127) tb_Fb_town 42 rfl) cf_Fb_131 (fg_isOf (tT_lay ht) rfl (fg_lt (tT_lay ht) (by decide))) (as := []) (st := []) rfl rfl (Nat.le_of_ble_eq_true rfl) (Nat.le_refl _) (Nat.le_refl _) (ev_Town_lonely ht hT hok ?_)
      exact fg_iret (fg_ft (pc := 130) tb_Fb_town 43 rfl) rfl rfl (fg_q (hQ _ R (fg_agQ_rf μ)) (by unfold an_town; rw [if_pos y5, if_neg (by omega), if_pos (by omega)]))
    refine fg_swO (tgt := 131) (fg_ft (pc := 16) tb_Fb_town 10 rfl) (hwhat) (by decide) (by decide) (fun i h1 h2 he => by omega) (by decide) ?_
    refine fg_iconst (fg_ft (pc := 131) tb_Fb_town 44 rfl) ic_m1 ?_
    exact fg_iret (fg_ft (pc := 132) tb_Fb_town 45 rfl) rfl rfl (fg_q (hQ _ R (fg_agQ_rf μ)) (by unfold an_town; rw [if_pos y5, if_neg (by omega), if_neg (by omega)]))
theorem ev_Fb_rule {E : fg_E} {d : Nat} {μ : Nat → Nat → Int32} {R : fg_T4} {Q : Option Value → fg_M → Prop} {A : fg_Tl} (hA : fg_TL μ 101 A) {town rule what : Nat} (htown : town < 2 ^ 32) (hrule : rule < 2 ^ 32) (hwhat : what < 2 ^ 32) (hQ : ∀ (μ' : Nat → Nat → Int32) (R' : fg_T4), fg_agQ μ μ' → Q (some (.int (an_rule A town rule what))) (μ', fg_rho R', 304)) : fg_Ev E yy_Fb_rule (d + 12) [.ref 100, .int (nI town), .int (nI rule), .int (nI what)] (μ, fg_rho R, 304) 304 Q := by
  have ht2 := hA.2.2.2.1.2
  have hd3 := hA.2.2.2.2.1.2
  refine fg_intro (by decide +kernel) (Nat.le_of_ble_eq_true rfl) (fg_okAs rfl) (Nat.le_refl _) ?_
  refine fg_aloadn (fg_ft (pc := 0) tb_Fb_rule 0 rfl) rfl ?_
  refine fg_getR (fg_ft (pc := 1) tb_Fb_rule 1 rfl) ff_Fb_12 ly_100 rfl (fg_lt ly_100 (by decide)) (rh_100_0 R) ?_
  refine fg_iloadn (fg_ft (pc := 4) tb_Fb_rule 2 rfl) rfl ?_
  refine fg_callV (fg_ft (pc := 5) tb_Fb_rule 3 rfl) cf_Fb_96 (fg_isOf ly_101 rfl (fg_lt ly_101 (by decide))) (as := [.int (nI town)]) (st := []) rfl rfl (Nat.le_of_ble_eq_true rfl) (Nat.le_refl _) (Nat.le_refl _) (ev_Told_townAt hA (i := town) htown (fun n5 => ?_) (fun y5 => ?_))
  · refine fg_astoreN (fg_ft (pc := 8) tb_Fb_rule 4 rfl) (Nat.le_of_ble_eq_true rfl) ?_
    refine fg_aloadN (fg_ft (pc := 10) tb_Fb_rule 5 rfl) rfl ?_
    refine fg_ifnonnull_n (fg_ft (pc := 12) tb_Fb_rule 6 rfl) ?_
    refine fg_iconst (fg_ft (pc := 15) tb_Fb_rule 7 rfl) ic_m1 ?_
    refine fg_goto (tgt := 29) (fg_ft (pc := 16) tb_Fb_rule 8 rfl) (by decide) ?_
    exact fg_iret (fg_ft (pc := 29) tb_Fb_rule 14 rfl) rfl rfl (fg_q (hQ _ R (fg_agQ_rf μ)) (by unfold an_rule fg_thg; first | rw [if_neg n5] | rw [if_pos y5, if_neg n6] | (rw [if_pos y5, if_pos ⟨y6, y7⟩]; exact (hT.2.1.2.2 (rule * 2 + what) (fg_ix y6 y7 (Nat.le_refl _))).symm)))
  · have hok := (hA.2.2.2.2.2.1 town y5).2
    have hT := (hA.2.2.2.2.2.1 town y5).1
    have ht : fg_isT (104 + 14 * town) := fg_isT_told (by omega)
    have hb0 := hok.1
    have hb1 := hok.2.1
    have hp := hok.p
    refine fg_astore (fg_ft (pc := 8) tb_Fb_rule 4 rfl) (Nat.le_of_ble_eq_true rfl) ?_
    refine fg_aload (fg_ft (pc := 10) tb_Fb_rule 5 rfl) rfl ?_
    refine fg_ifnonnull (tgt := 19) (fg_ft (pc := 12) tb_Fb_rule 6 rfl) (by decide) ?_
    refine fg_aload (fg_ft (pc := 19) tb_Fb_rule 9 rfl) rfl ?_
    refine fg_getR (fg_ft (pc := 21) tb_Fb_rule 10 rfl) ff_Fb_105 (tT_lay ht) rfl (fg_lt (tT_lay ht) (by decide)) (tT_r2 ht) ?_
    refine fg_iloadn (fg_ft (pc := 24) tb_Fb_rule 11 rfl) rfl ?_
    refine fg_iloadn (fg_ft (pc := 25) tb_Fb_rule 12 rfl) rfl ?_
    refine fg_callV (fg_ft (pc := 26) tb_Fb_rule 13 rfl) cf_Fb_135 (fg_isOf ((tT_w2 (R := R) ht).1) rfl (fg_lt ((tT_w2 (R := R) ht).1) (by decide))) (as := [.int (nI rule), .int (nI what)]) (st := []) rfl rfl (Nat.le_of_ble_eq_true rfl) (Nat.le_refl _) (Nat.le_refl _) (ev_Rows_cellX (tT_w2 (R := R) ht) hT.2.1.1 hT.2.1.2.1 (by have := hok.2.1; omega) (by decide) (by have := hok.2.1; omega) hrule hwhat (fun y6 y7 => ?_) (fun n6 => ?_))
    · exact fg_iret (fg_ft (pc := 29) tb_Fb_rule 14 rfl) rfl rfl (fg_q (hQ _ R (fg_agQ_rf μ)) (by unfold an_rule fg_thg; first | rw [if_neg n5] | rw [if_pos y5, if_neg n6] | (rw [if_pos y5, if_pos ⟨y6, y7⟩]; exact (hT.2.1.2.2 (rule * 2 + what) (fg_ix y6 y7 (Nat.le_refl _))).symm)))
    · exact fg_iret (fg_ft (pc := 29) tb_Fb_rule 14 rfl) rfl rfl (fg_q (hQ _ R (fg_agQ_rf μ)) (by unfold an_rule fg_thg; first | rw [if_neg n5] | rw [if_pos y5, if_neg n6] | (rw [if_pos y5, if_pos ⟨y6, y7⟩]; exact (hT.2.1.2.2 (rule * 2 + what) (fg_ix y6 y7 (Nat.le_refl _))).symm)))
theorem ev_Fb_person {E : fg_E} {d : Nat} {μ : Nat → Nat → Int32} {R : fg_T4} {Q : Option Value → fg_M → Prop} {A : fg_Tl} (hA : fg_TL μ 101 A) {town person what : Nat} (htown : town < 2 ^ 32) (hperson : person < 2 ^ 32) (hwhat : what < 2 ^ 32) (hQ : ∀ (μ' : Nat → Nat → Int32) (R' : fg_T4), fg_agQ μ μ' → Q (some (.int (an_person A town person what))) (μ', fg_rho R', 304)) : fg_Ev E yy_Fb_person (d + 12) [.ref 100, .int (nI town), .int (nI person), .int (nI what)] (μ, fg_rho R, 304) 304 Q := by
  have ht2 := hA.2.2.2.1.2
  have hd3 := hA.2.2.2.2.1.2
  refine fg_intro (by decide +kernel) (Nat.le_of_ble_eq_true rfl) (fg_okAs rfl) (Nat.le_refl _) ?_
  refine fg_aloadn (fg_ft (pc := 0) tb_Fb_person 0 rfl) rfl ?_
  refine fg_getR (fg_ft (pc := 1) tb_Fb_person 1 rfl) ff_Fb_12 ly_100 rfl (fg_lt ly_100 (by decide)) (rh_100_0 R) ?_
  refine fg_iloadn (fg_ft (pc := 4) tb_Fb_person 2 rfl) rfl ?_
  refine fg_callV (fg_ft (pc := 5) tb_Fb_person 3 rfl) cf_Fb_96 (fg_isOf ly_101 rfl (fg_lt ly_101 (by decide))) (as := [.int (nI town)]) (st := []) rfl rfl (Nat.le_of_ble_eq_true rfl) (Nat.le_refl _) (Nat.le_refl _) (ev_Told_townAt hA (i := town) htown (fun n5 => ?_) (fun y5 => ?_))
  · refine fg_astoreN (fg_ft (pc := 8) tb_Fb_person 4 rfl) (Nat.le_of_ble_eq_true rfl) ?_
    refine fg_aloadN (fg_ft (pc := 10) tb_Fb_person 5 rfl) rfl ?_
    refine fg_ifnonnull_n (fg_ft (pc := 12) tb_Fb_person 6 rfl) ?_
    refine fg_iconst (fg_ft (pc := 15) tb_Fb_person 7 rfl) ic_m1 ?_
    refine fg_goto (tgt := 29) (fg_ft (pc := 16) tb_Fb_person 8 rfl) (by decide) ?_
    exact fg_iret (fg_ft (pc := 29) tb_Fb_person 14 rfl) rfl rfl (fg_q (hQ _ R (fg_agQ_rf μ)) (by unfold an_person fg_thg; first | rw [if_neg n5] | rw [if_pos y5, if_neg n6] | (rw [if_pos y5, if_pos ⟨y6, y7⟩]; exact (hT.2.2.1.2.2 (person * 3 + what) (fg_ix y6 y7 (Nat.le_refl _))).symm)))
  · have hok := (hA.2.2.2.2.2.1 town y5).2
    have hT := (hA.2.2.2.2.2.1 town y5).1
    have ht : fg_isT (104 + 14 * town) := fg_isT_told (by omega)
    have hb0 := hok.1
    have hb1 := hok.2.1
    have hp := hok.p
    refine fg_astore (fg_ft (pc := 8) tb_Fb_person 4 rfl) (Nat.le_of_ble_eq_true rfl) ?_
    refine fg_aload (fg_ft (pc := 10) tb_Fb_person 5 rfl) rfl ?_
    refine fg_ifnonnull (tgt := 19) (fg_ft (pc := 12) tb_Fb_person 6 rfl) (by decide) ?_
    refine fg_aload (fg_ft (pc := 19) tb_Fb_person 9 rfl) rfl ?_
    refine fg_getR (fg_ft (pc := 21) tb_Fb_person 10 rfl) ff_Fb_113 (tT_lay ht) rfl (fg_lt (tT_lay ht) (by decide)) (tT_r3 ht) ?_
    refine fg_iloadn (fg_ft (pc := 24) tb_Fb_person 11 rfl) rfl ?_
    refine fg_iloadn (fg_ft (pc := 25) tb_Fb_person 12 rfl) rfl ?_
    refine fg_callV (fg_ft (pc := 26) tb_Fb_person 13 rfl) cf_Fb_135 (fg_isOf ((tT_w3 (R := R) ht).1) rfl (fg_lt ((tT_w3 (R := R) ht).1) (by decide))) (as := [.int (nI person), .int (nI what)]) (st := []) rfl rfl (Nat.le_of_ble_eq_true rfl) (Nat.le_refl _) (Nat.le_refl _) (ev_Rows_cellX (tT_w3 (R := R) ht) hT.2.2.1.1 hT.2.2.1.2.1 (by have := hok.2.1; omega) (by decide) (by have := hok.2.1; omega) hperson hwhat (fun y6 y7 => ?_) (fun n6 => ?_))
    · exact fg_iret (fg_ft (pc := 29) tb_Fb_person 14 rfl) rfl rfl (fg_q (hQ _ R (fg_agQ_rf μ)) (by unfold an_person fg_thg; first | rw [if_neg n5] | rw [if_pos y5, if_neg n6] | (rw [if_pos y5, if_pos ⟨y6, y7⟩]; exact (hT.2.2.1.2.2 (person * 3 + what) (fg_ix y6 y7 (Nat.le_refl _))).symm)))
    · exact fg_iret (fg_ft (pc := 29) tb_Fb_person 14 rfl) rfl rfl (fg_q (hQ _ R (fg_agQ_rf μ)) (by unfold an_person fg_thg; first | rw [if_neg n5] | rw [if_pos y5, if_neg n6] | (rw [if_pos y5, if_pos ⟨y6, y7⟩]; exact (hT.2.2.1.2.2 (person * 3 + what) (fg_ix y6 y7 (Nat.le_refl _))).symm)))
theorem ev_Fb_sign {E : fg_E} {d : Nat} {μ : Nat → Nat → Int32} {R : fg_T4} {Q : Option Value → fg_M → Prop} {A : fg_Tl} (hA : fg_TL μ 101 A) {town sign what : Nat} (htown : town < 2 ^ 32) (hsign : sign < 2 ^ 32) (hwhat : what < 2 ^ 32) (hQ : ∀ (μ' : Nat → Nat → Int32) (R' : fg_T4), fg_agQ μ μ' → Q (some (.int (an_sign A town sign what))) (μ', fg_rho R', 304)) : fg_Ev E yy_Fb_sign (d + 12) [.ref 100, .int (nI town), .int (nI sign), .int (nI what)] (μ, fg_rho R, 304) 304 Q := by
  have ht2 := hA.2.2.2.1.2
  have hd3 := hA.2.2.2.2.1.2
  refine fg_intro (by decide +kernel) (Nat.le_of_ble_eq_true rfl) (fg_okAs rfl) (Nat.le_refl _) ?_
  refine fg_aloadn (fg_ft (pc := 0) tb_Fb_sign 0 rfl) rfl ?_
  refine fg_getR (fg_ft (pc := 1) tb_Fb_sign 1 rfl) ff_Fb_12 ly_100 rfl (fg_lt ly_100 (by decide)) (rh_100_0 R) ?_
  refine fg_iloadn (fg_ft (pc := 4) tb_Fb_sign 2 rfl) rfl ?_
  refine fg_callV (fg_ft (pc := 5) tb_Fb_sign 3 rfl) cf_Fb_96 (fg_isOf ly_101 rfl (fg_lt ly_101 (by decide))) (as := [.int (nI town)]) (st := []) rfl rfl (Nat.le_of_ble_eq_true rfl) (Nat.le_refl _) (Nat.le_refl _) (ev_Told_townAt hA (i := town) htown (fun n5 => ?_) (fun y5 => ?_))
  · refine fg_astoreN (fg_ft (pc := 8) tb_Fb_sign 4 rfl) (Nat.le_of_ble_eq_true rfl) ?_
    refine fg_aloadN (fg_ft (pc := 10) tb_Fb_sign 5 rfl) rfl ?_
    refine fg_ifnonnull_n (fg_ft (pc := 12) tb_Fb_sign 6 rfl) ?_
    refine fg_iconst (fg_ft (pc := 15) tb_Fb_sign 7 rfl) ic_m1 ?_
    refine fg_goto (tgt := 29) (fg_ft (pc := 16) tb_Fb_sign 8 rfl) (by decide) ?_
    exact fg_iret (fg_ft (pc := 29) tb_Fb_sign 14 rfl) rfl rfl (fg_q (hQ _ R (fg_agQ_rf μ)) (by unfold an_sign fg_thg; first | rw [if_neg n5] | rw [if_pos y5, if_neg n6] | (rw [if_pos y5, if_pos ⟨y6, y7⟩]; exact (hT.2.2.2.1.2.2 (sign * 2 + what) (fg_ix y6 y7 (Nat.le_refl _))).symm)))
  · have hok := (hA.2.2.2.2.2.1 town y5).2
    have hT := (hA.2.2.2.2.2.1 town y5).1
    have ht : fg_isT (104 + 14 * town) := fg_isT_told (by omega)
    have hb0 := hok.1
    have hb1 := hok.2.1
    have hp := hok.p
    refine fg_astore (fg_ft (pc := 8) tb_Fb_sign 4 rfl) (Nat.le_of_ble_eq_true rfl) ?_
    refine fg_aload (fg_ft (pc := 10) tb_Fb_sign 5 rfl) rfl ?_
    refine fg_ifnonnull (tgt := 19) (fg_ft (pc := 12) tb_Fb_sign 6 rfl) (by decide) ?_
    refine fg_aload (fg_ft (pc := 19) tb_Fb_sign 9 rfl) rfl ?_
    refine fg_getR (fg_ft (pc := 21) tb_Fb_sign 10 rfl) ff_Fb_116 (tT_lay ht) rfl (fg_lt (tT_lay ht) (by decide)) (tT_r4 ht) ?_
    refine fg_iloadn (fg_ft (pc := 24) tb_Fb_sign 11 rfl) rfl ?_
    refine fg_iloadn (fg_ft (pc := 25) tb_Fb_sign 12 rfl) rfl ?_
    refine fg_callV (fg_ft (pc := 26) tb_Fb_sign 13 rfl) cf_Fb_135 (fg_isOf ((tT_w4 (R := R) ht).1) rfl (fg_lt ((tT_w4 (R := R) ht).1) (by decide))) (as := [.int (nI sign), .int (nI what)]) (st := []) rfl rfl (Nat.le_of_ble_eq_true rfl) (Nat.le_refl _) (Nat.le_refl _) (ev_Rows_cellX (tT_w4 (R := R) ht) hT.2.2.2.1.1 hT.2.2.2.1.2.1 (by have := hok.2.1; omega) (by decide) (by have := hok.2.1; omega) hsign hwhat (fun y6 y7 => ?_) (fun n6 => ?_))
    · exact fg_iret (fg_ft (pc := 29) tb_Fb_sign 14 rfl) rfl rfl (fg_q (hQ _ R (fg_agQ_rf μ)) (by unfold an_sign fg_thg; first | rw [if_neg n5] | rw [if_pos y5, if_neg n6] | (rw [if_pos y5, if_pos ⟨y6, y7⟩]; exact (hT.2.2.2.1.2.2 (sign * 2 + what) (fg_ix y6 y7 (Nat.le_refl _))).symm)))
    · exact fg_iret (fg_ft (pc := 29) tb_Fb_sign 14 rfl) rfl rfl (fg_q (hQ _ R (fg_agQ_rf μ)) (by unfold an_sign fg_thg; first | rw [if_neg n5] | rw [if_pos y5, if_neg n6] | (rw [if_pos y5, if_pos ⟨y6, y7⟩]; exact (hT.2.2.2.1.2.2 (sign * 2 + what) (fg_ix y6 y7 (Nat.le_refl _))).symm)))
theorem ev_Fb_meet {E : fg_E} {d : Nat} {μ : Nat → Nat → Int32} {R : fg_T4} {Q : Option Value → fg_M → Prop} {A : fg_Tl} (hA : fg_TL μ 101 A) {town meet what : Nat} (htown : town < 2 ^ 32) (hmeet : meet < 2 ^ 32) (hwhat : what < 2 ^ 32) (hQ : ∀ (μ' : Nat → Nat → Int32) (R' : fg_T4), fg_agQ μ μ' → Q (some (.int (an_meet A town meet what))) (μ', fg_rho R', 304)) : fg_Ev E yy_Fb_meet (d + 12) [.ref 100, .int (nI town), .int (nI meet), .int (nI what)] (μ, fg_rho R, 304) 304 Q := by
  have ht2 := hA.2.2.2.1.2
  have hd3 := hA.2.2.2.2.1.2
  refine fg_intro (by decide +kernel) (Nat.le_of_ble_eq_true rfl) (fg_okAs rfl) (Nat.le_refl _) ?_
  refine fg_aloadn (fg_ft (pc := 0) tb_Fb_meet 0 rfl) rfl ?_
  refine fg_getR (fg_ft (pc := 1) tb_Fb_meet 1 rfl) ff_Fb_12 ly_100 rfl (fg_lt ly_100 (by decide)) (rh_100_0 R) ?_
  refine fg_iloadn (fg_ft (pc := 4) tb_Fb_meet 2 rfl) rfl ?_
  refine fg_callV (fg_ft (pc := 5) tb_Fb_meet 3 rfl) cf_Fb_96 (fg_isOf ly_101 rfl (fg_lt ly_101 (by decide))) (as := [.int (nI town)]) (st := []) rfl rfl (Nat.le_of_ble_eq_true rfl) (Nat.le_refl _) (Nat.le_refl _) (ev_Told_townAt hA (i := town) htown (fun n5 => ?_) (fun y5 => ?_))
  · refine fg_astoreN (fg_ft (pc := 8) tb_Fb_meet 4 rfl) (Nat.le_of_ble_eq_true rfl) ?_
    refine fg_aloadN (fg_ft (pc := 10) tb_Fb_meet 5 rfl) rfl ?_
    refine fg_ifnonnull_n (fg_ft (pc := 12) tb_Fb_meet 6 rfl) ?_
    refine fg_iconst (fg_ft (pc := 15) tb_Fb_meet 7 rfl) ic_m1 ?_
    refine fg_goto (tgt := 29) (fg_ft (pc := 16) tb_Fb_meet 8 rfl) (by decide) ?_
    exact fg_iret (fg_ft (pc := 29) tb_Fb_meet 14 rfl) rfl rfl (fg_q (hQ _ R (fg_agQ_rf μ)) (by unfold an_meet fg_thg; first | rw [if_neg n5] | rw [if_pos y5, if_neg n6] | (rw [if_pos y5, if_pos ⟨y6, y7⟩]; exact (hT.2.2.2.2.1.2.2 (meet * 4 + what) (fg_ix y6 y7 (Nat.le_refl _))).symm)))
  · have hok := (hA.2.2.2.2.2.1 town y5).2
    have hT := (hA.2.2.2.2.2.1 town y5).1
    have ht : fg_isT (104 + 14 * town) := fg_isT_told (by omega)
    have hb0 := hok.1
    have hb1 := hok.2.1
    have hp := hok.p
    refine fg_astore (fg_ft (pc := 8) tb_Fb_meet 4 rfl) (Nat.le_of_ble_eq_true rfl) ?_
    refine fg_aload (fg_ft (pc := 10) tb_Fb_meet 5 rfl) rfl ?_
    refine fg_ifnonnull (tgt := 19) (fg_ft (pc := 12) tb_Fb_meet 6 rfl) (by decide) ?_
    refine fg_aload (fg_ft (pc := 19) tb_Fb_meet 9 rfl) rfl ?_
    refine fg_getR (fg_ft (pc := 21) tb_Fb_meet 10 rfl) ff_Fb_119 (tT_lay ht) rfl (fg_lt (tT_lay ht) (by decide)) (tT_r5 ht) ?_
    refine fg_iloadn (fg_ft (pc := 24) tb_Fb_meet 11 rfl) rfl ?_
    refine fg_iloadn (fg_ft (pc := 25) tb_Fb_meet 12 rfl) rfl ?_
    refine fg_callV (fg_ft (pc := 26) tb_Fb_meet 13 rfl) cf_Fb_135 (fg_isOf ((tT_w5 (R := R) ht).1) rfl (fg_lt ((tT_w5 (R := R) ht).1) (by decide))) (as := [.int (nI meet), .int (nI what)]) (st := []) rfl rfl (Nat.le_of_ble_eq_true rfl) (Nat.le_refl _) (Nat.le_refl _) (ev_Rows_cellX (tT_w5 (R := R) ht) hT.2.2.2.2.1.1 hT.2.2.2.2.1.2.1 (by have := hok.2.1; omega) (by decide) (by have := hok.2.1; omega) hmeet hwhat (fun y6 y7 => ?_) (fun n6 => ?_))
    · exact fg_iret (fg_ft (pc := 29) tb_Fb_meet 14 rfl) rfl rfl (fg_q (hQ _ R (fg_agQ_rf μ)) (by unfold an_meet fg_thg; first | rw [if_neg n5] | rw [if_pos y5, if_neg n6] | (rw [if_pos y5, if_pos ⟨y6, y7⟩]; exact (hT.2.2.2.2.1.2.2 (meet * 4 + what) (fg_ix y6 y7 (Nat.le_refl _))).symm)))
    · exact fg_iret (fg_ft (pc := 29) tb_Fb_meet 14 rfl) rfl rfl (fg_q (hQ _ R (fg_agQ_rf μ)) (by unfold an_meet fg_thg; first | rw [if_neg n5] | rw [if_pos y5, if_neg n6] | (rw [if_pos y5, if_pos ⟨y6, y7⟩]; exact (hT.2.2.2.2.1.2.2 (meet * 4 + what) (fg_ix y6 y7 (Nat.le_refl _))).symm)))
theorem ev_Fb_skill0 {E : fg_E} {d : Nat} {μ : Nat → Nat → Int32} {R : fg_T4} {Q : Option Value → fg_M → Prop} {A : fg_Tl} (hA : fg_TL μ 101 A) {town skill what : Nat} (htown : town < 2 ^ 32) (hskill : skill < 2 ^ 32) (hwhat : what < 2 ^ 32) (hQ : ∀ (μ' : Nat → Nat → Int32) (R' : fg_T4), fg_agQ μ μ' → Q (some (.int (an_skill A town skill 0 what))) (μ', fg_rho R', 304)) : fg_Ev E yy_Fb_skill (d + 12) [.ref 100, .int (nI town), .int (nI skill), .int (nI 0), .int (nI what)] (μ, fg_rho R, 304) 304 Q := by
  have ht2 := hA.2.2.2.1.2
  have hd3 := hA.2.2.2.2.1.2
  refine fg_intro (by decide +kernel) (Nat.le_of_ble_eq_true rfl) (fg_okAs rfl) (Nat.le_refl _) ?_
  refine fg_aloadn (fg_ft (pc := 0) tb_Fb_skill 0 rfl) rfl ?_
  refine fg_getR (fg_ft (pc := 1) tb_Fb_skill 1 rfl) ff_Fb_12 ly_100 rfl (fg_lt ly_100 (by decide)) (rh_100_0 R) ?_
  refine fg_iloadn (fg_ft (pc := 4) tb_Fb_skill 2 rfl) rfl ?_
  refine fg_callV (fg_ft (pc := 5) tb_Fb_skill 3 rfl) cf_Fb_96 (fg_isOf ly_101 rfl (fg_lt ly_101 (by decide))) (as := [.int (nI town)]) (st := []) rfl rfl (Nat.le_of_ble_eq_true rfl) (Nat.le_refl _) (Nat.le_refl _) (ev_Told_townAt hA (i := town) htown (fun n5 => ?_) (fun y5 => ?_))
  · refine fg_astoreN (fg_ft (pc := 8) tb_Fb_skill 4 rfl) (Nat.le_of_ble_eq_true rfl) ?_
    refine fg_aloadN (fg_ft (pc := 10) tb_Fb_skill 5 rfl) rfl ?_
    refine fg_ifnonnull_n (fg_ft (pc := 12) tb_Fb_skill 6 rfl) ?_
    refine fg_iconst (fg_ft (pc := 15) tb_Fb_skill 7 rfl) ic_m1 ?_
    exact fg_iret (fg_ft (pc := 16) tb_Fb_skill 8 rfl) rfl rfl (fg_q (hQ _ R (fg_agQ_rf μ)) (by unfold an_skill; rw [if_pos (by decide)]; unfold fg_thg; first | rw [if_neg n5] | rw [if_pos y5, if_neg n6] | (rw [if_pos y5, if_pos ⟨y6, y7⟩]; exact (hT.2.2.2.2.2.1.2.2 (skill * 2 + what) (fg_ix y6 y7 (Nat.le_refl _))).symm)))
  · have hok := (hA.2.2.2.2.2.1 town y5).2
    have hT := (hA.2.2.2.2.2.1 town y5).1
    have ht : fg_isT (104 + 14 * town) := fg_isT_told (by omega)
    have hb0 := hok.1
    have hb1 := hok.2.1
    have hp := hok.p
    refine fg_astore (fg_ft (pc := 8) tb_Fb_skill 4 rfl) (Nat.le_of_ble_eq_true rfl) ?_
    refine fg_aload (fg_ft (pc := 10) tb_Fb_skill 5 rfl) rfl ?_
    refine fg_ifnonnull (tgt := 17) (fg_ft (pc := 12) tb_Fb_skill 6 rfl) (by decide) ?_
    refine fg_iloadn (fg_ft (pc := 17) tb_Fb_skill 9 rfl) rfl ?_
    refine fg_if_eq (tgt := 35) (fg_ft (pc := 18) tb_Fb_skill 10 rfl) (by decide) (fun _ => ?_) (fun h => absurd h (by decide))
    refine fg_aload (fg_ft (pc := 35) tb_Fb_skill 17 rfl) rfl ?_
    refine fg_getR (fg_ft (pc := 37) tb_Fb_skill 18 rfl) ff_Fb_122 (tT_lay ht) rfl (fg_lt (tT_lay ht) (by decide)) (tT_r6 ht) ?_
    refine fg_iloadn (fg_ft (pc := 40) tb_Fb_skill 19 rfl) rfl ?_
    refine fg_iload (fg_ft (pc := 41) tb_Fb_skill 20 rfl) rfl ?_
    refine fg_callV (fg_ft (pc := 43) tb_Fb_skill 21 rfl) cf_Fb_135 (fg_isOf ((tT_w6 (R := R) ht).1) rfl (fg_lt ((tT_w6 (R := R) ht).1) (by decide))) (as := [.int (nI skill), .int (nI what)]) (st := []) rfl rfl (Nat.le_of_ble_eq_true rfl) (Nat.le_refl _) (Nat.le_refl _) (ev_Rows_cellX (tT_w6 (R := R) ht) hT.2.2.2.2.2.1.1 hT.2.2.2.2.2.1.2.1 (by have := hok.2.1; omega) (by decide) (by have := hok.2.1; omega) hskill hwhat (fun y6 y7 => ?_) (fun n6 => ?_))
    · exact fg_iret (fg_ft (pc := 46) tb_Fb_skill 22 rfl) rfl rfl (fg_q (hQ _ R (fg_agQ_rf μ)) (by unfold an_skill; rw [if_pos (by decide)]; unfold fg_thg; first | rw [if_neg n5] | rw [if_pos y5, if_neg n6] | (rw [if_pos y5, if_pos ⟨y6, y7⟩]; exact (hT.2.2.2.2.2.1.2.2 (skill * 2 + what) (fg_ix y6 y7 (Nat.le_refl _))).symm)))
    · exact fg_iret (fg_ft (pc := 46) tb_Fb_skill 22 rfl) rfl rfl (fg_q (hQ _ R (fg_agQ_rf μ)) (by unfold an_skill; rw [if_pos (by decide)]; unfold fg_thg; first | rw [if_neg n5] | rw [if_pos y5, if_neg n6] | (rw [if_pos y5, if_pos ⟨y6, y7⟩]; exact (hT.2.2.2.2.2.1.2.2 (skill * 2 + what) (fg_ix y6 y7 (Nat.le_refl _))).symm)))
theorem ev_Fb_skill1 {E : fg_E} {d : Nat} {μ : Nat → Nat → Int32} {R : fg_T4} {Q : Option Value → fg_M → Prop} {A : fg_Tl} (hA : fg_TL μ 101 A) {town skill what : Nat} (htown : town < 2 ^ 32) (hskill : skill < 2 ^ 32) (hwhat : what < 2 ^ 32) (hQ : ∀ (μ' : Nat → Nat → Int32) (R' : fg_T4), fg_agQ μ μ' → Q (some (.int (an_skill A town skill 1 what))) (μ', fg_rho R', 304)) : fg_Ev E yy_Fb_skill (d + 12) [.ref 100, .int (nI town), .int (nI skill), .int (nI 1), .int (nI what)] (μ, fg_rho R, 304) 304 Q := by
  have ht2 := hA.2.2.2.1.2
  have hd3 := hA.2.2.2.2.1.2
  refine fg_intro (by decide +kernel) (Nat.le_of_ble_eq_true rfl) (fg_okAs rfl) (Nat.le_refl _) ?_
  refine fg_aloadn (fg_ft (pc := 0) tb_Fb_skill 0 rfl) rfl ?_
  refine fg_getR (fg_ft (pc := 1) tb_Fb_skill 1 rfl) ff_Fb_12 ly_100 rfl (fg_lt ly_100 (by decide)) (rh_100_0 R) ?_
  refine fg_iloadn (fg_ft (pc := 4) tb_Fb_skill 2 rfl) rfl ?_
  refine fg_callV (fg_ft (pc := 5) tb_Fb_skill 3 rfl) cf_Fb_96 (fg_isOf ly_101 rfl (fg_lt ly_101 (by decide))) (as := [.int (nI town)]) (st := []) rfl rfl (Nat.le_of_ble_eq_true rfl) (Nat.le_refl _) (Nat.le_refl _) (ev_Told_townAt hA (i := town) htown (fun n5 => ?_) (fun y5 => ?_))
  · refine fg_astoreN (fg_ft (pc := 8) tb_Fb_skill 4 rfl) (Nat.le_of_ble_eq_true rfl) ?_
    refine fg_aloadN (fg_ft (pc := 10) tb_Fb_skill 5 rfl) rfl ?_
    refine fg_ifnonnull_n (fg_ft (pc := 12) tb_Fb_skill 6 rfl) ?_
    refine fg_iconst (fg_ft (pc := 15) tb_Fb_skill 7 rfl) ic_m1 ?_
    exact fg_iret (fg_ft (pc := 16) tb_Fb_skill 8 rfl) rfl rfl (fg_q (hQ _ R (fg_agQ_rf μ)) (by unfold an_skill; rw [if_neg (by decide)]; unfold fg_thg; first | rw [if_neg n5] | rw [if_pos y5, if_neg n6] | (rw [if_pos y5, if_pos ⟨y6, y7⟩]; exact (hT.2.2.2.2.2.2.1.2.2 (skill * 2 + what) (fg_ix y6 y7 (Nat.le_refl _))).symm)))
  · have hok := (hA.2.2.2.2.2.1 town y5).2
    have hT := (hA.2.2.2.2.2.1 town y5).1
    have ht : fg_isT (104 + 14 * town) := fg_isT_told (by omega)
    have hb0 := hok.1
    have hb1 := hok.2.1
    have hp := hok.p
    refine fg_astore (fg_ft (pc := 8) tb_Fb_skill 4 rfl) (Nat.le_of_ble_eq_true rfl) ?_
    refine fg_aload (fg_ft (pc := 10) tb_Fb_skill 5 rfl) rfl ?_
    refine fg_ifnonnull (tgt := 17) (fg_ft (pc := 12) tb_Fb_skill 6 rfl) (by decide) ?_
    refine fg_iloadn (fg_ft (pc := 17) tb_Fb_skill 9 rfl) rfl ?_
    refine fg_if_eq (tgt := 35) (fg_ft (pc := 18) tb_Fb_skill 10 rfl) (by decide) (fun h => absurd h (by decide)) (fun _ => ?_)
    refine fg_aload (fg_ft (pc := 21) tb_Fb_skill 11 rfl) rfl ?_
    refine fg_getR (fg_ft (pc := 23) tb_Fb_skill 12 rfl) ff_Fb_125 (tT_lay ht) rfl (fg_lt (tT_lay ht) (by decide)) (tT_r7 ht) ?_
    refine fg_iloadn (fg_ft (pc := 26) tb_Fb_skill 13 rfl) rfl ?_
    refine fg_iload (fg_ft (pc := 27) tb_Fb_skill 14 rfl) rfl ?_
    refine fg_callV (fg_ft (pc := 29) tb_Fb_skill 15 rfl) cf_Fb_135 (fg_isOf ((tT_w7 (R := R) ht).1) rfl (fg_lt ((tT_w7 (R := R) ht).1) (by decide))) (as := [.int (nI skill), .int (nI what)]) (st := []) rfl rfl (Nat.le_of_ble_eq_true rfl) (Nat.le_refl _) (Nat.le_refl _) (ev_Rows_cellX (tT_w7 (R := R) ht) hT.2.2.2.2.2.2.1.1 hT.2.2.2.2.2.2.1.2.1 (by have := hok.2.1; omega) (by decide) (by have := hok.2.1; omega) hskill hwhat (fun y6 y7 => ?_) (fun n6 => ?_))
    · refine fg_goto (tgt := 46) (fg_ft (pc := 32) tb_Fb_skill 16 rfl) (by decide) ?_
      exact fg_iret (fg_ft (pc := 46) tb_Fb_skill 22 rfl) rfl rfl (fg_q (hQ _ R (fg_agQ_rf μ)) (by unfold an_skill; rw [if_neg (by decide)]; unfold fg_thg; first | rw [if_neg n5] | rw [if_pos y5, if_neg n6] | (rw [if_pos y5, if_pos ⟨y6, y7⟩]; exact (hT.2.2.2.2.2.2.1.2.2 (skill * 2 + what) (fg_ix y6 y7 (Nat.le_refl _))).symm)))
    · refine fg_goto (tgt := 46) (fg_ft (pc := 32) tb_Fb_skill 16 rfl) (by decide) ?_
      exact fg_iret (fg_ft (pc := 46) tb_Fb_skill 22 rfl) rfl rfl (fg_q (hQ _ R (fg_agQ_rf μ)) (by unfold an_skill; rw [if_neg (by decide)]; unfold fg_thg; first | rw [if_neg n5] | rw [if_pos y5, if_neg n6] | (rw [if_pos y5, if_pos ⟨y6, y7⟩]; exact (hT.2.2.2.2.2.2.1.2.2 (skill * 2 + what) (fg_ix y6 y7 (Nat.le_refl _))).symm)))
theorem ev_Fb_act {E : fg_E} {d : Nat} {μ : Nat → Nat → Int32} {R : fg_T4} {Q : Option Value → fg_M → Prop} {A : fg_Tl} (hA : fg_TL μ 101 A) {day act what : Nat} (hday : day < 2 ^ 32) (hact : act < 2 ^ 32) (hwhat : what < 2 ^ 32) (hQ : ∀ (μ' : Nat → Nat → Int32) (R' : fg_T4), fg_agQ μ μ' → Q (some (.int (an_act A day act what))) (μ', fg_rho R', 304)) : fg_Ev E yy_Fb_act (d + 12) [.ref 100, .int (nI day), .int (nI act), .int (nI what)] (μ, fg_rho R, 304) 304 Q := by
  have ht2 := hA.2.2.2.1.2
  have hd3 := hA.2.2.2.2.1.2
  refine fg_intro (by decide +kernel) (Nat.le_of_ble_eq_true rfl) (fg_okAs rfl) (Nat.le_refl _) ?_
  refine fg_aloadn (fg_ft (pc := 0) tb_Fb_act 0 rfl) rfl ?_
  refine fg_getR (fg_ft (pc := 1) tb_Fb_act 1 rfl) ff_Fb_12 ly_100 rfl (fg_lt ly_100 (by decide)) (rh_100_0 R) ?_
  refine fg_iloadn (fg_ft (pc := 4) tb_Fb_act 2 rfl) rfl ?_
  refine fg_callV (fg_ft (pc := 5) tb_Fb_act 3 rfl) cf_Fb_138 (fg_isOf ly_101 rfl (fg_lt ly_101 (by decide))) (as := [.int (nI day)]) (st := []) rfl rfl (Nat.le_of_ble_eq_true rfl) (Nat.le_refl _) (Nat.le_refl _) (ev_Told_dayAt hA (i := day) hday (fun n5 => ?_) (fun y5 => ?_))
  · refine fg_astoreN (fg_ft (pc := 8) tb_Fb_act 4 rfl) (Nat.le_of_ble_eq_true rfl) ?_
    refine fg_aloadN (fg_ft (pc := 10) tb_Fb_act 5 rfl) rfl ?_
    refine fg_ifnonnull_n (fg_ft (pc := 12) tb_Fb_act 6 rfl) ?_
    refine fg_bipush (fg_ft (pc := 15) tb_Fb_act 7 rfl) ib_m2 ?_
    exact fg_iret (fg_ft (pc := 17) tb_Fb_act 8 rfl) rfl rfl (fg_q (hQ _ R (fg_agQ_rf μ)) (by unfold an_act; first | (exfalso; omega) | exact absurd c40 n6 | rw [if_neg n5] | (rw [if_pos y5, if_neg (by omega), if_pos ⟨y6, y7⟩]; exact (hD.2.2.2 (act * 4 + what) (by omega)).symm) | (rw [if_pos y5, if_neg (by omega), if_neg (by assumption)]; done) | (rw [if_pos y5, if_pos ⟨by omega, by omega⟩]; done)))
  · have hD := (hA.2.2.2.2.2.2.1 day y5).1
    have hn30 := hD.2.2.1
    refine fg_astore (fg_ft (pc := 8) tb_Fb_act 4 rfl) (Nat.le_of_ble_eq_true rfl) ?_
    refine fg_aload (fg_ft (pc := 10) tb_Fb_act 5 rfl) rfl ?_
    refine fg_ifnonnull (tgt := 18) (fg_ft (pc := 12) tb_Fb_act 6 rfl) (by decide) ?_
    refine fg_iloadn (fg_ft (pc := 18) tb_Fb_act 9 rfl) rfl ?_
    refine fg_iconst (fg_ft (pc := 19) tb_Fb_act 10 rfl) ic_m1 ?_
    refine fg_icmp_neM (tgt := 33) (fg_ft (pc := 20) tb_Fb_act 11 rfl) (by decide) (hact) (fun c20 => ?_) (fun c20 => ?_)
    · refine fg_aload (fg_ft (pc := 33) tb_Fb_act 17 rfl) rfl ?_
      refine fg_iloadn (fg_ft (pc := 35) tb_Fb_act 18 rfl) rfl ?_
      refine fg_iloadn (fg_ft (pc := 36) tb_Fb_act 19 rfl) rfl ?_
      refine fg_callV (fg_ft (pc := 37) tb_Fb_act 20 rfl) cf_Fb_142 (fg_isOf ((fD_w (R := R) (fg_isD_told (by omega : day < 3))).1) rfl (fg_lt ((fD_w (R := R) (fg_isD_told (by omega : day < 3))).1) (by decide))) (as := [.int (nI act), .int (nI what)]) (st := []) rfl rfl (Nat.le_of_ble_eq_true rfl) (Nat.le_refl _) (Nat.le_refl _) (ev_Rows_hasX (fD_w (fg_isD_told (by omega))) hD.1 hD.2.1 (by omega) (by decide) (by omega) hact hwhat ?_)
      refine fg_ifB_eq (tgt := 53) (fg_ft (pc := 40) tb_Fb_act 21 rfl) (by decide) (fun c40 => ?_) (fun c40 => ?_)
      · refine fg_bipush (fg_ft (pc := 53) tb_Fb_act 27 rfl) ib_m2 ?_
        exact fg_iret (fg_ft (pc := 55) tb_Fb_act 28 rfl) rfl rfl (fg_q (hQ _ R (fg_agQ_rf μ)) (by unfold an_act; first | (exfalso; omega) | exact absurd c40 n6 | rw [if_neg n5] | (rw [if_pos y5, if_neg (by omega), if_pos ⟨y6, y7⟩]; exact (hD.2.2.2 (act * 4 + what) (by omega)).symm) | (rw [if_pos y5, if_neg (by omega), if_neg (by assumption)]; done) | (rw [if_pos y5, if_pos ⟨by omega, by omega⟩]; done)))
      · refine fg_aload (fg_ft (pc := 43) tb_Fb_act 22 rfl) rfl ?_
        refine fg_iloadn (fg_ft (pc := 45) tb_Fb_act 23 rfl) rfl ?_
        refine fg_iloadn (fg_ft (pc := 46) tb_Fb_act 24 rfl) rfl ?_
        refine fg_callV (fg_ft (pc := 47) tb_Fb_act 25 rfl) cf_Fb_135 (fg_isOf ((fD_w (R := R) (fg_isD_told (by omega : day < 3))).1) rfl (fg_lt ((fD_w (R := R) (fg_isD_told (by omega : day < 3))).1) (by decide))) (as := [.int (nI act), .int (nI what)]) (st := []) rfl rfl (Nat.le_of_ble_eq_true rfl) (Nat.le_refl _) (Nat.le_refl _) (ev_Rows_cellX (fD_w (fg_isD_told (by omega))) hD.1 hD.2.1 (by omega) (by decide) (by omega) hact hwhat (fun y6 y7 => ?_) (fun n6 => ?_))
        · refine fg_goto (tgt := 55) (fg_ft (pc := 50) tb_Fb_act 26 rfl) (by decide) ?_
          exact fg_iret (fg_ft (pc := 55) tb_Fb_act 28 rfl) rfl rfl (fg_q (hQ _ R (fg_agQ_rf μ)) (by unfold an_act; first | (exfalso; omega) | exact absurd c40 n6 | rw [if_neg n5] | (rw [if_pos y5, if_neg (by omega), if_pos ⟨y6, y7⟩]; exact (hD.2.2.2 (act * 4 + what) (by omega)).symm) | (rw [if_pos y5, if_neg (by omega), if_neg (by assumption)]; done) | (rw [if_pos y5, if_pos ⟨by omega, by omega⟩]; done)))
        · refine fg_goto (tgt := 55) (fg_ft (pc := 50) tb_Fb_act 26 rfl) (by decide) ?_
          exact fg_iret (fg_ft (pc := 55) tb_Fb_act 28 rfl) rfl rfl (fg_q (hQ _ R (fg_agQ_rf μ)) (by unfold an_act; first | (exfalso; omega) | exact absurd c40 n6 | rw [if_neg n5] | (rw [if_pos y5, if_neg (by omega), if_pos ⟨y6, y7⟩]; exact (hD.2.2.2 (act * 4 + what) (by omega)).symm) | (rw [if_pos y5, if_neg (by omega), if_neg (by assumption)]; done) | (rw [if_pos y5, if_pos ⟨by omega, by omega⟩]; done)))
    · refine fg_iloadn (fg_ft (pc := 23) tb_Fb_act 12 rfl) rfl ?_
      refine fg_if_neW (tgt := 33) (fg_ft (pc := 24) tb_Fb_act 13 rfl) (by decide) (hwhat) (fun c24 => ?_) (fun c24 => ?_)
      · refine fg_aload (fg_ft (pc := 33) tb_Fb_act 17 rfl) rfl ?_
        refine fg_iloadn (fg_ft (pc := 35) tb_Fb_act 18 rfl) rfl ?_
        refine fg_iloadn (fg_ft (pc := 36) tb_Fb_act 19 rfl) rfl ?_
        refine fg_callV (fg_ft (pc := 37) tb_Fb_act 20 rfl) cf_Fb_142 (fg_isOf ((fD_w (R := R) (fg_isD_told (by omega : day < 3))).1) rfl (fg_lt ((fD_w (R := R) (fg_isD_told (by omega : day < 3))).1) (by decide))) (as := [.int (nI act), .int (nI what)]) (st := []) rfl rfl (Nat.le_of_ble_eq_true rfl) (Nat.le_refl _) (Nat.le_refl _) (ev_Rows_hasX (fD_w (fg_isD_told (by omega))) hD.1 hD.2.1 (by omega) (by decide) (by omega) hact hwhat ?_)
        refine fg_ifB_eq (tgt := 53) (fg_ft (pc := 40) tb_Fb_act 21 rfl) (by decide) (fun c40 => ?_) (fun c40 => ?_)
        · refine fg_bipush (fg_ft (pc := 53) tb_Fb_act 27 rfl) ib_m2 ?_
          exact fg_iret (fg_ft (pc := 55) tb_Fb_act 28 rfl) rfl rfl (fg_q (hQ _ R (fg_agQ_rf μ)) (by unfold an_act; first | (exfalso; omega) | exact absurd c40 n6 | rw [if_neg n5] | (rw [if_pos y5, if_neg (by omega), if_pos ⟨y6, y7⟩]; exact (hD.2.2.2 (act * 4 + what) (by omega)).symm) | (rw [if_pos y5, if_neg (by omega), if_neg (by assumption)]; done) | (rw [if_pos y5, if_pos ⟨by omega, by omega⟩]; done)))
        · refine fg_aload (fg_ft (pc := 43) tb_Fb_act 22 rfl) rfl ?_
          refine fg_iloadn (fg_ft (pc := 45) tb_Fb_act 23 rfl) rfl ?_
          refine fg_iloadn (fg_ft (pc := 46) tb_Fb_act 24 rfl) rfl ?_
          refine fg_callV (fg_ft (pc := 47) tb_Fb_act 25 rfl) cf_Fb_135 (fg_isOf ((fD_w (R := R) (fg_isD_told (by omega : day < 3))).1) rfl (fg_lt ((fD_w (R := R) (fg_isD_told (by omega : day < 3))).1) (by decide))) (as := [.int (nI act), .int (nI what)]) (st := []) rfl rfl (Nat.le_of_ble_eq_true rfl) (Nat.le_refl _) (Nat.le_refl _) (ev_Rows_cellX (fD_w (fg_isD_told (by omega))) hD.1 hD.2.1 (by omega) (by decide) (by omega) hact hwhat (fun y6 y7 => ?_) (fun n6 => ?_))
          · refine fg_goto (tgt := 55) (fg_ft (pc := 50) tb_Fb_act 26 rfl) (by decide) ?_
            exact fg_iret (fg_ft (pc := 55) tb_Fb_act 28 rfl) rfl rfl (fg_q (hQ _ R (fg_agQ_rf μ)) (by unfold an_act; first | (exfalso; omega) | exact absurd c40 n6 | rw [if_neg n5] | (rw [if_pos y5, if_neg (by omega), if_pos ⟨y6, y7⟩]; exact (hD.2.2.2 (act * 4 + what) (by omega)).symm) | (rw [if_pos y5, if_neg (by omega), if_neg (by assumption)]; done) | (rw [if_pos y5, if_pos ⟨by omega, by omega⟩]; done)))
          · refine fg_goto (tgt := 55) (fg_ft (pc := 50) tb_Fb_act 26 rfl) (by decide) ?_
            exact fg_iret (fg_ft (pc := 55) tb_Fb_act 28 rfl) rfl rfl (fg_q (hQ _ R (fg_agQ_rf μ)) (by unfold an_act; first | (exfalso; omega) | exact absurd c40 n6 | rw [if_neg n5] | (rw [if_pos y5, if_neg (by omega), if_pos ⟨y6, y7⟩]; exact (hD.2.2.2 (act * 4 + what) (by omega)).symm) | (rw [if_pos y5, if_neg (by omega), if_neg (by assumption)]; done) | (rw [if_pos y5, if_pos ⟨by omega, by omega⟩]; done)))
      · refine fg_aload (fg_ft (pc := 27) tb_Fb_act 14 rfl) rfl ?_
        refine fg_getV (v := (nI (A.nd day))) (fg_ft (pc := 29) tb_Fb_act 15 rfl) ff_Fb_108 ((fD_w (R := R) (fg_isD_told (by omega : day < 3))).1) rfl (fg_lt ((fD_w (R := R) (fg_isD_told (by omega : day < 3))).1) (by decide)) (hA.2.2.2.2.2.2.1 day y5).1.2.1 ?_
        exact fg_iret (fg_ft (pc := 32) tb_Fb_act 16 rfl) rfl rfl (fg_q (hQ _ R (fg_agQ_rf μ)) (by unfold an_act; first | (exfalso; omega) | exact absurd c40 n6 | rw [if_neg n5] | (rw [if_pos y5, if_neg (by omega), if_pos ⟨y6, y7⟩]; exact (hD.2.2.2 (act * 4 + what) (by omega)).symm) | (rw [if_pos y5, if_neg (by omega), if_neg (by assumption)]; done) | (rw [if_pos y5, if_pos ⟨by omega, by omega⟩]; done)))
theorem ev_Fb_reach {E : fg_E} {d : Nat} {μ : Nat → Nat → Int32} {R : fg_T4} {Q : Option Value → fg_M → Prop} {A : fg_Tl} (hA : fg_TL μ 101 A) {town facts : Nat} (htown : town < 2 ^ 32) (hfacts : facts < 2 ^ 32) (hQ : ∀ (μ' : Nat → Nat → Int32) (R' : fg_T4), fg_agQ μ μ' → Q (some (.int (an_reach A town facts))) (μ', fg_rho R', 304)) : fg_Ev E yy_Fb_reach (d + 12) [.ref 100, .int (nI town), .int (nI facts)] (μ, fg_rho R, 304) 304 Q := by
  have ht2 := hA.2.2.2.1.2
  have hd3 := hA.2.2.2.2.1.2
  refine fg_intro (by decide +kernel) (Nat.le_of_ble_eq_true rfl) (fg_okAs rfl) (Nat.le_refl _) ?_
  refine fg_aloadn (fg_ft (pc := 0) tb_Fb_reach 0 rfl) rfl ?_
  refine fg_getR (fg_ft (pc := 1) tb_Fb_reach 1 rfl) ff_Fb_12 ly_100 rfl (fg_lt ly_100 (by decide)) (rh_100_0 R) ?_
  refine fg_iloadn (fg_ft (pc := 4) tb_Fb_reach 2 rfl) rfl ?_
  refine fg_callV (fg_ft (pc := 5) tb_Fb_reach 3 rfl) cf_Fb_96 (fg_isOf ly_101 rfl (fg_lt ly_101 (by decide))) (as := [.int (nI town)]) (st := []) rfl rfl (Nat.le_of_ble_eq_true rfl) (Nat.le_refl _) (Nat.le_refl _) (ev_Told_townAt hA (i := town) htown (fun n5 => ?_) (fun y5 => ?_))
  · refine fg_astorenN (fg_ft (pc := 8) tb_Fb_reach 4 rfl) (Nat.le_of_ble_eq_true rfl) ?_
    refine fg_aloadnN (fg_ft (pc := 9) tb_Fb_reach 5 rfl) rfl ?_
    refine fg_ifnull (tgt := 21) (fg_ft (pc := 10) tb_Fb_reach 6 rfl) (by decide) ?_
    refine fg_iconst (fg_ft (pc := 21) tb_Fb_reach 11 rfl) ic_m1 ?_
    refine fg_goto (tgt := 30) (fg_ft (pc := 22) tb_Fb_reach 12 rfl) (by decide) ?_
    exact fg_iret (fg_ft (pc := 30) tb_Fb_reach 16 rfl) rfl rfl (fg_q (hQ _ R (fg_agQ_rf μ)) (by unfold an_reach; (repeat (first | rw [if_pos (by assumption)] | rw [if_neg (by assumption)] | rw [if_pos (by omega)] | rw [if_neg (by omega)] | rw [if_pos (by constructor <;> assumption)] | rw [if_neg (by intro hh; exact absurd hh.1 (by assumption))] | rw [if_neg (by intro hh; exact absurd hh.2 (by assumption))]))))
  · have hok := (hA.2.2.2.2.2.1 town y5).2
    have hT := (hA.2.2.2.2.2.1 town y5).1
    have ht : fg_isT (104 + 14 * town) := fg_isT_told (by omega)
    have hb0 := hok.1
    have hb1 := hok.2.1
    have hp := hok.p
    refine fg_astoren (fg_ft (pc := 8) tb_Fb_reach 4 rfl) (Nat.le_of_ble_eq_true rfl) ?_
    refine fg_aloadn (fg_ft (pc := 9) tb_Fb_reach 5 rfl) rfl ?_
    refine fg_ifnull_r (fg_ft (pc := 10) tb_Fb_reach 6 rfl) ?_
    refine fg_aloadn (fg_ft (pc := 13) tb_Fb_reach 7 rfl) rfl ?_
    refine fg_iloadn (fg_ft (pc := 14) tb_Fb_reach 8 rfl) rfl ?_
    refine fg_callV (fg_ft (pc := 15) tb_Fb_reach 9 rfl) cf_Fb_156 (fg_isOf (tT_lay ht) rfl (fg_lt (tT_lay ht) (by decide))) (as := [.int (nI facts)]) (st := []) rfl rfl (Nat.le_of_ble_eq_true rfl) (Nat.le_refl _) (Nat.le_refl _) (ev_Town_hasFactsX ht hT hok (k := facts) hfacts ?_)
    refine fg_ifB_ne (tgt := 25) (fg_ft (pc := 18) tb_Fb_reach 10 rfl) (by decide) (fun c18 => ?_) (fun c18 => ?_)
    · refine fg_aloadn (fg_ft (pc := 25) tb_Fb_reach 13 rfl) rfl ?_
      refine fg_iloadn (fg_ft (pc := 26) tb_Fb_reach 14 rfl) rfl ?_
      refine fg_callV (fg_ft (pc := 27) tb_Fb_reach 15 rfl) cf_Fb_160 (fg_isOf (tT_lay ht) rfl (fg_lt (tT_lay ht) (by decide))) (as := [.int (nI facts)]) (st := []) rfl rfl (Nat.le_of_ble_eq_true rfl) (Nat.le_refl _) (Nat.le_refl _) (ev_Town_close ht hT hok (s := facts) (by assumption) ?_)
      exact fg_iret (fg_ft (pc := 30) tb_Fb_reach 16 rfl) rfl rfl (fg_q (hQ _ R (fg_agQ_rf μ)) (by unfold an_reach; (repeat (first | rw [if_pos (by assumption)] | rw [if_neg (by assumption)] | rw [if_pos (by omega)] | rw [if_neg (by omega)] | rw [if_pos (by constructor <;> assumption)] | rw [if_neg (by intro hh; exact absurd hh.1 (by assumption))] | rw [if_neg (by intro hh; exact absurd hh.2 (by assumption))]))))
    · refine fg_iconst (fg_ft (pc := 21) tb_Fb_reach 11 rfl) ic_m1 ?_
      refine fg_goto (tgt := 30) (fg_ft (pc := 22) tb_Fb_reach 12 rfl) (by decide) ?_
      exact fg_iret (fg_ft (pc := 30) tb_Fb_reach 16 rfl) rfl rfl (fg_q (hQ _ R (fg_agQ_rf μ)) (by unfold an_reach; (repeat (first | rw [if_pos (by assumption)] | rw [if_neg (by assumption)] | rw [if_pos (by omega)] | rw [if_neg (by omega)] | rw [if_pos (by constructor <;> assumption)] | rw [if_neg (by intro hh; exact absurd hh.1 (by assumption))] | rw [if_neg (by intro hh; exact absurd hh.2 (by assumption))]))))
