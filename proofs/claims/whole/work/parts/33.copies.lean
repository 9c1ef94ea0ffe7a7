theorem ev_Rows_copyFromA {E : fg_E} {d : Nat} {μ : Nat → Nat → Int32} {R : fg_T4} {Q : Option Value → fg_M → Prop} {r c n o co : Nat} (hr : fg_rows R r c n) (ho : fg_rows R o co n) (h1 : r ≠ c) (h2 : o ≠ c) (hQ : ∀ μ' : Nat → Nat → Int32, (∀ b j, b ≠ r → b ≠ c → μ' b j = μ b j) → (μ' r 0 = μ r 0 ∧ μ' r 2 = μ o 2 ∧ ∀ j, j < n → μ' c j = μ co j) → Q none (μ', fg_rho R, 304)) : fg_Ev E yy_Rows_copyFrom (d + 1) [.ref r, .ref o] (μ, fg_rho R, 304) 304 Q :=
  ev_Rows_copyFrom hr ho (hQ _ (fun b j hb hc => (fg_u2ne hb).trans (fg_cp1_ne hc)) ⟨(fg_u2ns (by decide)).trans (fg_cp1_ne h1), fg_u2eq.trans (fg_cp1_ne h2), fun j hj => (fg_u2ne (fun e => h1 e.symm)).trans (fg_cp1_lt hj)⟩)
def fg_agT (t : Nat) (μ μ' : Nat → Nat → Int32) : Prop := ∀ a, (a < t ∨ t + 14 ≤ a) → ∀ j, μ' a j = μ a j
/-- the rows of two towns are as many of as many -/
def fg_TC (μ : Nat → Nat → Int32) (t2 : Nat) (μ' : Nat → Nat → Int32) (t : Nat) : Prop := (μ' t 0 = μ t2 0 ∧ μ' t 1 = μ t2 1) ∧
  (μ' (t + 1) 2 = μ (t2 + 1) 2 ∧ ∀ j, j < 32 → μ' (t + 2) j = μ (t2 + 2) j) ∧ (μ' (t + 3) 2 = μ (t2 + 3) 2 ∧ ∀ j, j < 15 → μ' (t + 4) j = μ (t2 + 4) j) ∧
  (μ' (t + 5) 2 = μ (t2 + 5) 2 ∧ ∀ j, j < 24 → μ' (t + 6) j = μ (t2 + 6) j) ∧ (μ' (t + 7) 2 = μ (t2 + 7) 2 ∧ ∀ j, j < 48 → μ' (t + 8) j = μ (t2 + 8) j) ∧
  (μ' (t + 9) 2 = μ (t2 + 9) 2 ∧ ∀ j, j < 12 → μ' (t + 10) j = μ (t2 + 10) j) ∧ (μ' (t + 11) 2 = μ (t2 + 11) 2 ∧ ∀ j, j < 12 → μ' (t + 12) j = μ (t2 + 12) j) ∧ ∀ j, j < 1024 → μ' (t + 13) j = μ (t2 + 13) j
def fg_wdT (μ : Nat → Nat → Int32) (t : Nat) : Prop := μ (t + 1) 0 = nI 2 ∧ μ (t + 3) 0 = nI 3 ∧ μ (t + 5) 0 = nI 2 ∧ μ (t + 7) 0 = nI 4 ∧ μ (t + 9) 0 = nI 2 ∧ μ (t + 11) 0 = nI 2
theorem fg_TC.tw {μ μ' : Nat → Nat → Int32} {t t2 : Nat} {T : Nat → Nat} (h : fg_TC μ t2 μ' t) (hw : fg_wdT μ' t) (hok : fg_ok T) (H : fg_TW μ t2 T) : fg_TW μ' t T := by
  obtain ⟨⟨h0, h1⟩, ⟨a1, b1⟩, ⟨a2, b2⟩, ⟨a3, b3⟩, ⟨a4, b4⟩, ⟨a5, b5⟩, ⟨a6, b6⟩, h7⟩ := h
  obtain ⟨⟨g0, g1⟩, ⟨_, c1, d1⟩, ⟨_, c2, d2⟩, ⟨_, c3, d3⟩, ⟨_, c4, d4⟩, ⟨_, c5, d5⟩, ⟨_, c6, d6⟩, g7⟩ := H
  obtain ⟨w1, w2, w3, w4, w5, w6⟩ := hw
  have hb1 := hok.2.1
  have hp := hok.p
  exact ⟨⟨h0.trans g0, h1.trans g1⟩, ⟨w1, a1.trans c1, fun j hj => (b1 j (by omega)).trans (d1 j hj)⟩, ⟨w2, a2.trans c2, fun j hj => (b2 j (by omega)).trans (d2 j hj)⟩, ⟨w3, a3.trans c3, fun j hj => (b3 j (by omega)).trans (d3 j hj)⟩, ⟨w4, a4.trans c4, fun j hj => (b4 j (by omega)).trans (d4 j hj)⟩, ⟨w5, a5.trans c5, fun j hj => (b5 j (by omega)).trans (d5 j hj)⟩, ⟨w6, a6.trans c6, fun j hj => (b6 j (by omega)).trans (d6 j hj)⟩, fun s hs => (h7 s (by omega)).trans (g7 s hs)⟩
theorem fg_isT_far {t t2 : Nat} (h : fg_isT t) (h2 : fg_isT t2) (hne : t ≠ t2) : t + 14 ≤ t2 ∨ t2 + 14 ≤ t := by
  simp only [fg_isT, List.mem_cons, List.not_mem_nil, or_false] at h h2
  omega
theorem ev_Town_copyFrom {E : fg_E} {d : Nat} {μ : Nat → Nat → Int32} {R : fg_T4} {Q : Option Value → fg_M → Prop} {t t2 : Nat} (ht : fg_isT t) (ht2 : fg_isT t2) (hne : t ≠ t2) (hQ : ∀ μ' : Nat → Nat → Int32, fg_agT t μ μ' → fg_TC μ t2 μ' t → (fg_wdT μ t → fg_wdT μ' t) → Q none (μ', fg_rho R, 304)) : fg_Ev E yy_Town_copyFrom (d + 2) [.ref t, .ref t2] (μ, fg_rho R, 304) 304 Q := by
  have hfar := fg_isT_far ht ht2 hne
  refine fg_intro (by decide +kernel) (Nat.le_of_ble_eq_true rfl) (fg_okAs rfl) (Nat.le_refl _) ?_
  refine fg_aloadn (fg_ft (pc := 0) tb_Town_copyFrom 0 rfl) rfl ?_
  refine fg_aloadn (fg_ft (pc := 1) tb_Town_copyFrom 1 rfl) rfl ?_
  refine fg_getI (fg_ft (pc := 2) tb_Town_copyFrom 2 rfl) ff_Town_9 (tT_lay ht2) rfl (fg_lt (tT_lay ht2) (by decide)) ?_
  refine fg_putI (fg_ft (pc := 5) tb_Town_copyFrom 3 rfl) ff_Town_9 (tT_lay ht) rfl (fg_lt (tT_lay ht) (by decide)) (fg_nokI _) (fun _ _ h => by cases h; rfl) ?_
  show fg_wp _ _ _ _ _ _ _ _ _ (fg_u2 μ t 0 (μ t2 0), fg_rho R, 304)
  refine fg_aloadn (fg_ft (pc := 8) tb_Town_copyFrom 4 rfl) rfl ?_
  refine fg_aloadn (fg_ft (pc := 9) tb_Town_copyFrom 5 rfl) rfl ?_
  refine fg_getI (fg_ft (pc := 10) tb_Town_copyFrom 6 rfl) ff_Town_15 (tT_lay ht2) rfl (fg_lt (tT_lay ht2) (by decide)) ?_
  refine fg_putI (fg_ft (pc := 13) tb_Town_copyFrom 7 rfl) ff_Town_15 (tT_lay ht) rfl (fg_lt (tT_lay ht) (by decide)) (fg_nokI _) (fun _ _ h => by cases h; rfl) ?_
  show fg_wp _ _ _ _ _ _ _ _ _ (fg_u2 (fg_u2 μ t 0 (μ t2 0)) t 1 ((fg_u2 μ t 0 (μ t2 0)) t2 1), fg_rho R, 304)
  refine fg_aloadn (fg_ft (pc := 16) tb_Town_copyFrom 8 rfl) rfl ?_
  refine fg_getR (fg_ft (pc := 17) tb_Town_copyFrom 9 rfl) ff_Town_23 (tT_lay ht) rfl (fg_lt (tT_lay ht) (by decide)) (tT_r2 ht) ?_
  refine fg_aloadn (fg_ft (pc := 20) tb_Town_copyFrom 10 rfl) rfl ?_
  refine fg_getR (fg_ft (pc := 21) tb_Town_copyFrom 11 rfl) ff_Town_23 (tT_lay ht2) rfl (fg_lt (tT_lay ht2) (by decide)) (tT_r2 ht2) ?_
  refine fg_callV (fg_ft (pc := 24) tb_Town_copyFrom 12 rfl) cf_Town_49 (fg_isOf ((tT_w2 (R := R) ht).1) rfl (fg_lt ((tT_w2 (R := R) ht).1) (by decide))) (as := [.ref (t2 + 1)]) (st := []) rfl rfl (Nat.le_of_ble_eq_true rfl) (Nat.le_refl _) (Nat.le_refl _) (ev_Rows_copyFromA (tT_w2 (R := R) ht) (tT_w2 (R := R) ht2) (by omega) (by omega) ?_)
  intro ν0 u0 v0
  show fg_wp _ _ _ _ _ _ _ _ _ (ν0, fg_rho R, 304)
  refine fg_aloadn (fg_ft (pc := 27) tb_Town_copyFrom 13 rfl) rfl ?_
  refine fg_getR (fg_ft (pc := 28) tb_Town_copyFrom 14 rfl) ff_Town_27 (tT_lay ht) rfl (fg_lt (tT_lay ht) (by decide)) (tT_r3 ht) ?_
  refine fg_aloadn (fg_ft (pc := 31) tb_Town_copyFrom 15 rfl) rfl ?_
  refine fg_getR (fg_ft (pc := 32) tb_Town_copyFrom 16 rfl) ff_Town_27 (tT_lay ht2) rfl (fg_lt (tT_lay ht2) (by decide)) (tT_r3 ht2) ?_
  refine fg_callV (fg_ft (pc := 35) tb_Town_copyFrom 17 rfl) cf_Town_49 (fg_isOf ((tT_w3 (R := R) ht).1) rfl (fg_lt ((tT_w3 (R := R) ht).1) (by decide))) (as := [.ref (t2 + 3)]) (st := []) rfl rfl (Nat.le_of_ble_eq_true rfl) (Nat.le_refl _) (Nat.le_refl _) (ev_Rows_copyFromA (tT_w3 (R := R) ht) (tT_w3 (R := R) ht2) (by omega) (by omega) ?_)
  intro ν1 u1 v1
  show fg_wp _ _ _ _ _ _ _ _ _ (ν1, fg_rho R, 304)
  refine fg_aloadn (fg_ft (pc := 38) tb_Town_copyFrom 18 rfl) rfl ?_
  refine fg_getR (fg_ft (pc := 39) tb_Town_copyFrom 19 rfl) ff_Town_30 (tT_lay ht) rfl (fg_lt (tT_lay ht) (by decide)) (tT_r4 ht) ?_
  refine fg_aloadn (fg_ft (pc := 42) tb_Town_copyFrom 20 rfl) rfl ?_
  refine fg_getR (fg_ft (pc := 43) tb_Town_copyFrom 21 rfl) ff_Town_30 (tT_lay ht2) rfl (fg_lt (tT_lay ht2) (by decide)) (tT_r4 ht2) ?_
  refine fg_callV (fg_ft (pc := 46) tb_Town_copyFrom 22 rfl) cf_Town_49 (fg_isOf ((tT_w4 (R := R) ht).1) rfl (fg_lt ((tT_w4 (R := R) ht).1) (by decide))) (as := [.ref (t2 + 5)]) (st := []) rfl rfl (Nat.le_of_ble_eq_true rfl) (Nat.le_refl _) (Nat.le_refl _) (ev_Rows_copyFromA (tT_w4 (R := R) ht) (tT_w4 (R := R) ht2) (by omega) (by omega) ?_)
  intro ν2 u2 v2
  show fg_wp _ _ _ _ _ _ _ _ _ (ν2, fg_rho R, 304)
  refine fg_aloadn (fg_ft (pc := 49) tb_Town_copyFrom 23 rfl) rfl ?_
  refine fg_getR (fg_ft (pc := 50) tb_Town_copyFrom 24 rfl) ff_Town_33 (tT_lay ht) rfl (fg_lt (tT_lay ht) (by decide)) (tT_r5 ht) ?_
  refine fg_aloadn (fg_ft (pc := 53) tb_Town_copyFrom 25 rfl) rfl ?_
  refine fg_getR (fg_ft (pc := 54) tb_Town_copyFrom 26 rfl) ff_Town_33 (tT_lay ht2) rfl (fg_lt (tT_lay ht2) (by decide)) (tT_r5 ht2) ?_
  refine fg_callV (fg_ft (pc := 57) tb_Town_copyFrom 27 rfl) cf_Town_49 (fg_isOf ((tT_w5 (R := R) ht).1) rfl (fg_lt ((tT_w5 (R := R) ht).1) (by decide))) (as := [.ref (t2 + 7)]) (st := []) rfl rfl (Nat.le_of_ble_eq_true rfl) (Nat.le_refl _) (Nat.le_refl _) (ev_Rows_copyFromA (tT_w5 (R := R) ht) (tT_w5 (R := R) ht2) (by omega) (by omega) ?_)
  intro ν3 u3 v3
  show fg_wp _ _ _ _ _ _ _ _ _ (ν3, fg_rho R, 304)
  refine fg_aloadn (fg_ft (pc := 60) tb_Town_copyFrom 28 rfl) rfl ?_
  refine fg_getR (fg_ft (pc := 61) tb_Town_copyFrom 29 rfl) ff_Town_36 (tT_lay ht) rfl (fg_lt (tT_lay ht) (by decide)) (tT_r6 ht) ?_
  refine fg_aloadn (fg_ft (pc := 64) tb_Town_copyFrom 30 rfl) rfl ?_
  refine fg_getR (fg_ft (pc := 65) tb_Town_copyFrom 31 rfl) ff_Town_36 (tT_lay ht2) rfl (fg_lt (tT_lay ht2) (by decide)) (tT_r6 ht2) ?_
  refine fg_callV (fg_ft (pc := 68) tb_Town_copyFrom 32 rfl) cf_Town_49 (fg_isOf ((tT_w6 (R := R) ht).1) rfl (fg_lt ((tT_w6 (R := R) ht).1) (by decide))) (as := [.ref (t2 + 9)]) (st := []) rfl rfl (Nat.le_of_ble_eq_true rfl) (Nat.le_refl _) (Nat.le_refl _) (ev_Rows_copyFromA (tT_w6 (R := R) ht) (tT_w6 (R := R) ht2) (by omega) (by omega) ?_)
  intro ν4 u4 v4
  show fg_wp _ _ _ _ _ _ _ _ _ (ν4, fg_rho R, 304)
  refine fg_aloadn (fg_ft (pc := 71) tb_Town_copyFrom 33 rfl) rfl ?_
  refine fg_getR (fg_ft (pc := 72) tb_Town_copyFrom 34 rfl) ff_Town_39 (tT_lay ht) rfl (fg_lt (tT_lay ht) (by decide)) (tT_r7 ht) ?_
  refine fg_aloadn (fg_ft (pc := 75) tb_Town_copyFrom 35 rfl) rfl ?_
  refine fg_getR (fg_ft (pc := 76) tb_Town_copyFrom 36 rfl) ff_Town_39 (tT_lay ht2) rfl (fg_lt (tT_lay ht2) (by decide)) (tT_r7 ht2) ?_
  refine fg_callV (fg_ft (pc := 79) tb_Town_copyFrom 37 rfl) cf_Town_49 (fg_isOf ((tT_w7 (R := R) ht).1) rfl (fg_lt ((tT_w7 (R := R) ht).1) (by decide))) (as := [.ref (t2 + 11)]) (st := []) rfl rfl (Nat.le_of_ble_eq_true rfl) (Nat.le_refl _) (Nat.le_refl _) (ev_Rows_copyFromA (tT_w7 (R := R) ht) (tT_w7 (R := R) ht2) (by omega) (by omega) ?_)
  intro ν5 u5 v5
  show fg_wp _ _ _ _ _ _ _ _ _ (ν5, fg_rho R, 304)
  refine fg_aloadn (fg_ft (pc := 82) tb_Town_copyFrom 38 rfl) rfl ?_
  refine fg_getR (fg_ft (pc := 83) tb_Town_copyFrom 39 rfl) ff_Town_42 (tT_lay ht2) rfl (fg_lt (tT_lay ht2) (by decide)) (tT_r8 ht2) ?_
  refine fg_iconst (fg_ft (pc := 86) tb_Town_copyFrom 40 rfl) ic_0 ?_
  refine fg_aloadn (fg_ft (pc := 87) tb_Town_copyFrom 41 rfl) rfl ?_
  refine fg_getR (fg_ft (pc := 88) tb_Town_copyFrom 42 rfl) ff_Town_42 (tT_lay ht) rfl (fg_lt (tT_lay ht) (by decide)) (tT_r8 ht) ?_
  refine fg_iconst (fg_ft (pc := 91) tb_Town_copyFrom 43 rfl) ic_0 ?_
  refine fg_sipush (fg_ft (pc := 92) tb_Town_copyFrom 44 rfl) is_1024 ?_
  refine fg_copy (fg_ft (pc := 95) tb_Town_copyFrom 45 rfl) fy_Town_53 fy_native fy_static fy_init (Or.inl rfl) (tT_c8 ht2) (tT_c8 ht) (fg_lt (tT_c8 ht2) (by decide)) (fg_lt (tT_c8 ht) (by decide)) rfl rfl rfl (by omega) (by omega) (fun _ _ => rfl) (Nat.le_of_ble_eq_true rfl) ?_
  show fg_wp _ _ _ _ _ _ _ _ _ (fg_cp1 ν5 (t2 + 13) (t + 13) 1024, fg_rho R, 304)
  exact fg_vret (fg_ft (pc := 98) tb_Town_copyFrom 46 rfl) rfl rfl (hQ _ (fun a ha j => (fg_cp1_ne (by omega)).trans ((u5 _ _ (by omega) (by omega)).trans ((u4 _ _ (by omega) (by omega)).trans ((u3 _ _ (by omega) (by omega)).trans ((u2 _ _ (by omega) (by omega)).trans ((u1 _ _ (by omega) (by omega)).trans ((u0 _ _ (by omega) (by omega)).trans ((fg_u2ne (by omega)).trans (fg_u2ne (by omega)))))))))) ⟨⟨(fg_cp1_ne (by omega)).trans ((u5 _ _ (by omega) (by omega)).trans ((u4 _ _ (by omega) (by omega)).trans ((u3 _ _ (by omega) (by omega)).trans ((u2 _ _ (by omega) (by omega)).trans ((u1 _ _ (by omega) (by omega)).trans ((u0 _ _ (by omega) (by omega)).trans ((fg_u2ns (by decide)).trans (fg_u2eq)))))))), (fg_cp1_ne (by omega)).trans ((u5 _ _ (by omega) (by omega)).trans ((u4 _ _ (by omega) (by omega)).trans ((u3 _ _ (by omega) (by omega)).trans ((u2 _ _ (by omega) (by omega)).trans ((u1 _ _ (by omega) (by omega)).trans ((u0 _ _ (by omega) (by omega)).trans ((fg_u2eq).trans (fg_u2ne (by omega)))))))))⟩, ⟨(fg_cp1_ne (by omega)).trans ((u5 _ _ (by omega) (by omega)).trans ((u4 _ _ (by omega) (by omega)).trans ((u3 _ _ (by omega) (by omega)).trans ((u2 _ _ (by omega) (by omega)).trans ((u1 _ _ (by omega) (by omega)).trans ((v0.2.1).trans ((fg_u2ne (by omega)).trans (fg_u2ne (by omega))))))))), fun j hj => (fg_cp1_ne (by omega)).trans ((u5 _ _ (by omega) (by omega)).trans ((u4 _ _ (by omega) (by omega)).trans ((u3 _ _ (by omega) (by omega)).trans ((u2 _ _ (by omega) (by omega)).trans ((u1 _ _ (by omega) (by omega)).trans ((v0.2.2 j hj).trans ((fg_u2ne (by omega)).trans (fg_u2ne (by omega)))))))))⟩, ⟨(fg_cp1_ne (by omega)).trans ((u5 _ _ (by omega) (by omega)).trans ((u4 _ _ (by omega) (by omega)).trans ((u3 _ _ (by omega) (by omega)).trans ((u2 _ _ (by omega) (by omega)).trans ((v1.2.1).trans ((u0 _ _ (by omega) (by omega)).trans ((fg_u2ne (by omega)).trans (fg_u2ne (by omega))))))))), fun j hj => (fg_cp1_ne (by omega)).trans ((u5 _ _ (by omega) (by omega)).trans ((u4 _ _ (by omega) (by omega)).trans ((u3 _ _ (by omega) (by omega)).trans ((u2 _ _ (by omega) (by omega)).trans ((v1.2.2 j hj).trans ((u0 _ _ (by omega) (by omega)).trans ((fg_u2ne (by omega)).trans (fg_u2ne (by omega)))))))))⟩, ⟨(fg_cp1_ne (by omega)).trans ((u5 _ _ (by omega) (by omega)).trans ((u4 _ _ (by omega) (by omega)).trans ((u3 _ _ (by omega) (by omega)).trans ((v2.2.1).trans ((u1 _ _ (by omega) (by omega)).trans ((u0 _ _ (by omega) (by omega)).trans ((fg_u2ne (by omega)).trans (fg_u2ne (by omega))))))))), fun j hj => (fg_cp1_ne (by omega)).trans ((u5 _ _ (by omega) (by omega)).trans ((u4 _ _ (by omega) (by omega)).trans ((u3 _ _ (by omega) (by omega)).trans ((v2.2.2 j hj).trans ((u1 _ _ (by omega) (by omega)).trans ((u0 _ _ (by omega) (by omega)).trans ((fg_u2ne (by omega)).trans (fg_u2ne (by omega)))))))))⟩, ⟨(fg_cp1_ne (by omega)).trans ((u5 _ _ (by omega) (by omega)).trans ((u4 _ _ (by omega) (by omega)).trans ((v3.2.1).trans ((u2 _ _ (by omega) (by omega)).trans ((u1 _ _ (by omega) (by omega)).trans ((u0 _ _ (by omega) (by omega)).trans ((fg_u2ne (by omega)).trans (fg_u2ne (by omega))))))))), fun j hj => (fg_cp1_ne (by omega)).trans ((u5 _ _ (by omega) (by omega)).trans ((u4 _ _ (by omega) (by omega)).trans ((v3.2.2 j hj).trans ((u2 _ _ (by omega) (by omega)).trans ((u1 _ _ (by omega) (by omega)).trans ((u0 _ _ (by omega) (by omega)).trans ((fg_u2ne (by omega)).trans (fg_u2ne (by omega)))))))))⟩, ⟨(fg_cp1_ne (by omega)).trans ((u5 _ _ (by omega) (by omega)).trans ((v4.2.1).trans ((u3 _ _ (by omega) (by omega)).trans ((u2 _ _ (by omega) (by omega)).trans ((u1 _ _ (by omega) (by omega)).trans ((u0 _ _ (by omega) (by omega)).trans ((fg_u2ne (by omega)).trans (fg_u2ne (by omega))))))))), fun j hj => (fg_cp1_ne (by omega)).trans ((u5 _ _ (by omega) (by omega)).trans ((v4.2.2 j hj).trans ((u3 _ _ (by omega) (by omega)).trans ((u2 _ _ (by omega) (by omega)).trans ((u1 _ _ (by omega) (by omega)).trans ((u0 _ _ (by omega) (by omega)).trans ((fg_u2ne (by omega)).trans (fg_u2ne (by omega)))))))))⟩, ⟨(fg_cp1_ne (by omega)).trans ((v5.2.1).trans ((u4 _ _ (by omega) (by omega)).trans ((u3 _ _ (by omega) (by omega)).trans ((u2 _ _ (by omega) (by omega)).trans ((u1 _ _ (by omega) (by omega)).trans ((u0 _ _ (by omega) (by omega)).trans ((fg_u2ne (by omega)).trans (fg_u2ne (by omega))))))))), fun j hj => (fg_cp1_ne (by omega)).trans ((v5.2.2 j hj).trans ((u4 _ _ (by omega) (by omega)).trans ((u3 _ _ (by omega) (by omega)).trans ((u2 _ _ (by omega) (by omega)).trans ((u1 _ _ (by omega) (by omega)).trans ((u0 _ _ (by omega) (by omega)).trans ((fg_u2ne (by omega)).trans (fg_u2ne (by omega)))))))))⟩, fun j hj => (fg_cp1_lt hj).trans ((u5 _ _ (by omega) (by omega)).trans ((u4 _ _ (by omega) (by omega)).trans ((u3 _ _ (by omega) (by omega)).trans ((u2 _ _ (by omega) (by omega)).trans ((u1 _ _ (by omega) (by omega)).trans ((u0 _ _ (by omega) (by omega)).trans ((fg_u2ne (by omega)).trans (fg_u2ne (by omega)))))))))⟩ (fun hw => ⟨((fg_cp1_ne (by omega)).trans ((u5 _ _ (by omega) (by omega)).trans ((u4 _ _ (by omega) (by omega)).trans ((u3 _ _ (by omega) (by omega)).trans ((u2 _ _ (by omega) (by omega)).trans ((u1 _ _ (by omega) (by omega)).trans ((v0.1).trans ((fg_u2ne (by omega)).trans (fg_u2ne (by omega)))))))))).trans hw.1, ((fg_cp1_ne (by omega)).trans ((u5 _ _ (by omega) (by omega)).trans ((u4 _ _ (by omega) (by omega)).trans ((u3 _ _ (by omega) (by omega)).trans ((u2 _ _ (by omega) (by omega)).trans ((v1.1).trans ((u0 _ _ (by omega) (by omega)).trans ((fg_u2ne (by omega)).trans (fg_u2ne (by omega)))))))))).trans hw.2.1, ((fg_cp1_ne (by omega)).trans ((u5 _ _ (by omega) (by omega)).trans ((u4 _ _ (by omega) (by omega)).trans ((u3 _ _ (by omega) (by omega)).trans ((v2.1).trans ((u1 _ _ (by omega) (by omega)).trans ((u0 _ _ (by omega) (by omega)).trans ((fg_u2ne (by omega)).trans (fg_u2ne (by omega)))))))))).trans hw.2.2.1, ((fg_cp1_ne (by omega)).trans ((u5 _ _ (by omega) (by omega)).trans ((u4 _ _ (by omega) (by omega)).trans ((v3.1).trans ((u2 _ _ (by omega) (by omega)).trans ((u1 _ _ (by omega) (by omega)).trans ((u0 _ _ (by omega) (by omega)).trans ((fg_u2ne (by omega)).trans (fg_u2ne (by omega)))))))))).trans hw.2.2.2.1, ((fg_cp1_ne (by omega)).trans ((u5 _ _ (by omega) (by omega)).trans ((v4.1).trans ((u3 _ _ (by omega) (by omega)).trans ((u2 _ _ (by omega) (by omega)).trans ((u1 _ _ (by omega) (by omega)).trans ((u0 _ _ (by omega) (by omega)).trans ((fg_u2ne (by omega)).trans (fg_u2ne (by omega)))))))))).trans hw.2.2.2.2.1, ((fg_cp1_ne (by omega)).trans ((v5.1).trans ((u4 _ _ (by omega) (by omega)).trans ((u3 _ _ (by omega) (by omega)).trans ((u2 _ _ (by omega) (by omega)).trans ((u1 _ _ (by omega) (by omega)).trans ((u0 _ _ (by omega) (by omega)).trans ((fg_u2ne (by omega)).trans (fg_u2ne (by omega)))))))))).trans hw.2.2.2.2.2⟩))
def fg_T0 : Nat → Nat := fun i => if i = 0 then 6 else if i = 7 then 4 else 0
theorem ev_Town_clear {E : fg_E} {d : Nat} {μ : Nat → Nat → Int32} {R : fg_T4} {Q : Option Value → fg_M → Prop} {t : Nat} (ht : fg_isT t) (hw : fg_wdT μ t) (hQ : ∀ μ' : Nat → Nat → Int32, fg_agT t μ μ' → fg_TWp μ' t fg_T0 True → Q none (μ', fg_rho R, 304)) : fg_Ev E yy_Town_clear (d + 1) [.ref t] (μ, fg_rho R, 304) 304 Q := by
  refine fg_intro (by decide +kernel) (Nat.le_of_ble_eq_true rfl) (fg_okAs rfl) (Nat.le_refl _) ?_
  refine fg_aloadn (fg_ft (pc := 0) tb_Town_clear 0 rfl) rfl ?_
  refine fg_bipush (fg_ft (pc := 1) tb_Town_clear 1 rfl) ib_6 ?_
  refine fg_putI (fg_ft (pc := 3) tb_Town_clear 2 rfl) ff_Town_9 (tT_lay ht) rfl (fg_lt (tT_lay ht) (by decide)) (fg_nokI _) (fun _ _ h => by cases h; rfl) ?_
  show fg_wp _ _ _ _ _ _ _ _ _ (fg_u2 μ t 0 (nI 6), fg_rho R, 304)
  refine fg_aloadn (fg_ft (pc := 6) tb_Town_clear 3 rfl) rfl ?_
  refine fg_iconst (fg_ft (pc := 7) tb_Town_clear 4 rfl) ic_4 ?_
  refine fg_putI (fg_ft (pc := 8) tb_Town_clear 5 rfl) ff_Town_15 (tT_lay ht) rfl (fg_lt (tT_lay ht) (by decide)) (fg_nokI _) (fun _ _ h => by cases h; rfl) ?_
  show fg_wp _ _ _ _ _ _ _ _ _ (fg_u2 (fg_u2 μ t 0 (nI 6)) t 1 (nI 4), fg_rho R, 304)
  refine fg_aloadn (fg_ft (pc := 11) tb_Town_clear 6 rfl) rfl ?_
  refine fg_getR (fg_ft (pc := 12) tb_Town_clear 7 rfl) ff_Town_23 (tT_lay ht) rfl (fg_lt (tT_lay ht) (by decide)) (tT_r2 ht) ?_
  refine fg_iconst (fg_ft (pc := 15) tb_Town_clear 8 rfl) ic_0 ?_
  refine fg_putI (fg_ft (pc := 16) tb_Town_clear 9 rfl) ff_Town_46 ((tT_w2 (R := R) ht).1) rfl (fg_lt ((tT_w2 (R := R) ht).1) (by decide)) (fg_nokI _) (fun _ _ h => by cases h; rfl) ?_
  show fg_wp _ _ _ _ _ _ _ _ _ (fg_u2 (fg_u2 (fg_u2 μ t 0 (nI 6)) t 1 (nI 4)) (t + 1) 2 (nI 0), fg_rho R, 304)
  refine fg_aloadn (fg_ft (pc := 19) tb_Town_clear 10 rfl) rfl ?_
  refine fg_getR (fg_ft (pc := 20) tb_Town_clear 11 rfl) ff_Town_27 (tT_lay ht) rfl (fg_lt (tT_lay ht) (by decide)) (tT_r3 ht) ?_
  refine fg_iconst (fg_ft (pc := 23) tb_Town_clear 12 rfl) ic_0 ?_
  refine fg_putI (fg_ft (pc := 24) tb_Town_clear 13 rfl) ff_Town_46 ((tT_w3 (R := R) ht).1) rfl (fg_lt ((tT_w3 (R := R) ht).1) (by decide)) (fg_nokI _) (fun _ _ h => by cases h; rfl) ?_
  show fg_wp _ _ _ _ _ _ _ _ _ (fg_u2 (fg_u2 (fg_u2 (fg_u2 μ t 0 (nI 6)) t 1 (nI 4)) (t + 1) 2 (nI 0)) (t + 3) 2 (nI 0), fg_rho R, 304)
  refine fg_aloadn (fg_ft (pc := 27) tb_Town_clear 14 rfl) rfl ?_
  refine fg_getR (fg_ft (pc := 28) tb_Town_clear 15 rfl) ff_Town_30 (tT_lay ht) rfl (fg_lt (tT_lay ht) (by decide)) (tT_r4 ht) ?_
  refine fg_iconst (fg_ft (pc := 31) tb_Town_clear 16 rfl) ic_0 ?_
  refine fg_putI (fg_ft (pc := 32) tb_Town_clear 17 rfl) ff_Town_46 ((tT_w4 (R := R) ht).1) rfl (fg_lt ((tT_w4 (R := R) ht).1) (by decide)) (fg_nokI _) (fun _ _ h => by cases h; rfl) ?_
  show fg_wp _ _ _ _ _ _ _ _ _ (fg_u2 (fg_u2 (fg_u2 (fg_u2 (fg_u2 μ t 0 (nI 6)) t 1 (nI 4)) (t + 1) 2 (nI 0)) (t + 3) 2 (nI 0)) (t + 5) 2 (nI 0), fg_rho R, 304)
  refine fg_aloadn (fg_ft (pc := 35) tb_Town_clear 18 rfl) rfl ?_
  refine fg_getR (fg_ft (pc := 36) tb_Town_clear 19 rfl) ff_Town_33 (tT_lay ht) rfl (fg_lt (tT_lay ht) (by decide)) (tT_r5 ht) ?_
  refine fg_iconst (fg_ft (pc := 39) tb_Town_clear 20 rfl) ic_0 ?_
  refine fg_putI (fg_ft (pc := 40) tb_Town_clear 21 rfl) ff_Town_46 ((tT_w5 (R := R) ht).1) rfl (fg_lt ((tT_w5 (R := R) ht).1) (by decide)) (fg_nokI _) (fun _ _ h => by cases h; rfl) ?_
  show fg_wp _ _ _ _ _ _ _ _ _ (fg_u2 (fg_u2 (fg_u2 (fg_u2 (fg_u2 (fg_u2 μ t 0 (nI 6)) t 1 (nI 4)) (t + 1) 2 (nI 0)) (t + 3) 2 (nI 0)) (t + 5) 2 (nI 0)) (t + 7) 2 (nI 0), fg_rho R, 304)
  refine fg_aloadn (fg_ft (pc := 43) tb_Town_clear 22 rfl) rfl ?_
  refine fg_getR (fg_ft (pc := 44) tb_Town_clear 23 rfl) ff_Town_36 (tT_lay ht) rfl (fg_lt (tT_lay ht) (by decide)) (tT_r6 ht) ?_
  refine fg_iconst (fg_ft (pc := 47) tb_Town_clear 24 rfl) ic_0 ?_
  refine fg_putI (fg_ft (pc := 48) tb_Town_clear 25 rfl) ff_Town_46 ((tT_w6 (R := R) ht).1) rfl (fg_lt ((tT_w6 (R := R) ht).1) (by decide)) (fg_nokI _) (fun _ _ h => by cases h; rfl) ?_
  show fg_wp _ _ _ _ _ _ _ _ _ (fg_u2 (fg_u2 (fg_u2 (fg_u2 (fg_u2 (fg_u2 (fg_u2 μ t 0 (nI 6)) t 1 (nI 4)) (t + 1) 2 (nI 0)) (t + 3) 2 (nI 0)) (t + 5) 2 (nI 0)) (t + 7) 2 (nI 0)) (t + 9) 2 (nI 0), fg_rho R, 304)
  refine fg_aloadn (fg_ft (pc := 51) tb_Town_clear 26 rfl) rfl ?_
  refine fg_getR (fg_ft (pc := 52) tb_Town_clear 27 rfl) ff_Town_39 (tT_lay ht) rfl (fg_lt (tT_lay ht) (by decide)) (tT_r7 ht) ?_
  refine fg_iconst (fg_ft (pc := 55) tb_Town_clear 28 rfl) ic_0 ?_
  refine fg_putI (fg_ft (pc := 56) tb_Town_clear 29 rfl) ff_Town_46 ((tT_w7 (R := R) ht).1) rfl (fg_lt ((tT_w7 (R := R) ht).1) (by decide)) (fg_nokI _) (fun _ _ h => by cases h; rfl) ?_
  show fg_wp _ _ _ _ _ _ _ _ _ (fg_u2 (fg_u2 (fg_u2 (fg_u2 (fg_u2 (fg_u2 (fg_u2 (fg_u2 μ t 0 (nI 6)) t 1 (nI 4)) (t + 1) 2 (nI 0)) (t + 3) 2 (nI 0)) (t + 5) 2 (nI 0)) (t + 7) 2 (nI 0)) (t + 9) 2 (nI 0)) (t + 11) 2 (nI 0), fg_rho R, 304)
  exact fg_vret (fg_ft (pc := 59) tb_Town_clear 30 rfl) rfl rfl (hQ _ (fun a ha j => (fg_u2nx (by omega)).trans ((fg_u2nx (by omega)).trans ((fg_u2nx (by omega)).trans ((fg_u2nx (by omega)).trans ((fg_u2nx (by omega)).trans ((fg_u2nx (by omega)).trans ((fg_u2nx (by omega)).trans (fg_u2nx (by omega))))))))) ⟨⟨(fg_u2nx (by omega)).trans ((fg_u2nx (by omega)).trans ((fg_u2nx (by omega)).trans ((fg_u2nx (by omega)).trans ((fg_u2nx (by omega)).trans ((fg_u2nx (by omega)).trans ((fg_u2nx (by omega)).trans (fg_u2eq))))))), (fg_u2nx (by omega)).trans ((fg_u2nx (by omega)).trans ((fg_u2nx (by omega)).trans ((fg_u2nx (by omega)).trans ((fg_u2nx (by omega)).trans ((fg_u2nx (by omega)).trans (fg_u2eq))))))⟩, ⟨(fg_u2nx (by omega)).trans ((fg_u2nx (by omega)).trans ((fg_u2nx (by omega)).trans ((fg_u2nx (by omega)).trans ((fg_u2nx (by omega)).trans ((fg_u2nx (by omega)).trans ((fg_u2nx (by omega)).trans ((fg_u2nx (by omega)).trans (hw.1)))))))), (fg_u2nx (by omega)).trans ((fg_u2nx (by omega)).trans ((fg_u2nx (by omega)).trans ((fg_u2nx (by omega)).trans ((fg_u2nx (by omega)).trans (fg_u2eq))))), fun j hj => absurd (show j < 0 from hj) (Nat.not_lt_zero _)⟩, ⟨(fg_u2nx (by omega)).trans ((fg_u2nx (by omega)).trans ((fg_u2nx (by omega)).trans ((fg_u2nx (by omega)).trans ((fg_u2nx (by omega)).trans ((fg_u2nx (by omega)).trans ((fg_u2nx (by omega)).trans ((fg_u2nx (by omega)).trans (hw.2.1)))))))), (fg_u2nx (by omega)).trans ((fg_u2nx (by omega)).trans ((fg_u2nx (by omega)).trans ((fg_u2nx (by omega)).trans (fg_u2eq)))), fun j hj => absurd (show j < 0 from hj) (Nat.not_lt_zero _)⟩, ⟨(fg_u2nx (by omega)).trans ((fg_u2nx (by omega)).trans ((fg_u2nx (by omega)).trans ((fg_u2nx (by omega)).trans ((fg_u2nx (by omega)).trans ((fg_u2nx (by omega)).trans ((fg_u2nx (by omega)).trans ((fg_u2nx (by omega)).trans (hw.2.2.1)))))))), (fg_u2nx (by omega)).trans ((fg_u2nx (by omega)).trans ((fg_u2nx (by omega)).trans (fg_u2eq))), fun j hj => absurd (show j < 0 from hj) (Nat.not_lt_zero _)⟩, ⟨(fg_u2nx (by omega)).trans ((fg_u2nx (by omega)).trans ((fg_u2nx (by omega)).trans ((fg_u2nx (by omega)).trans ((fg_u2nx (by omega)).trans ((fg_u2nx (by omega)).trans ((fg_u2nx (by omega)).trans ((fg_u2nx (by omega)).trans (hw.2.2.2.1)))))))), (fg_u2nx (by omega)).trans ((fg_u2nx (by omega)).trans (fg_u2eq)), fun j hj => absurd (show j < 0 from hj) (Nat.not_lt_zero _)⟩, ⟨(fg_u2nx (by omega)).trans ((fg_u2nx (by omega)).trans ((fg_u2nx (by omega)).trans ((fg_u2nx (by omega)).trans ((fg_u2nx (by omega)).trans ((fg_u2nx (by omega)).trans ((fg_u2nx (by omega)).trans ((fg_u2nx (by omega)).trans (hw.2.2.2.2.1)))))))), (fg_u2nx (by omega)).trans (fg_u2eq), fun j hj => absurd (show j < 0 from hj) (Nat.not_lt_zero _)⟩, ⟨(fg_u2nx (by omega)).trans ((fg_u2nx (by omega)).trans ((fg_u2nx (by omega)).trans ((fg_u2nx (by omega)).trans ((fg_u2nx (by omega)).trans ((fg_u2nx (by omega)).trans ((fg_u2nx (by omega)).trans ((fg_u2nx (by omega)).trans (hw.2.2.2.2.2)))))))), fg_u2eq, fun j hj => absurd (show j < 0 from hj) (Nat.not_lt_zero _)⟩, trivial⟩)
