/-! constructors -/
theorem mk_layB {a k n : Nat} (h : fg_lay a = (k, n)) (hk : k ≠ 99) : n < 2 ^ 31 := by
  have hd : ∀ k, k < 204 → (fg_lay (100 + k)).2 < 2 ^ 31 := by decide +kernel
  have ha := fg_layLe a (by rw [h]; exact hk)
  have h2 := hd (a - 100) (by omega)
  rw [show 100 + (a - 100) = a by omega, h] at h2
  exact h2
def mk_Rows (a : Nat) (h w : Nat) : Prop := fg_lay a = (2, 3) ∧ fg_lay (a + 1) = (10, h * w) ∧ (∀ j, (fg_f1 (fun _ => 0) 0 (nI w)) j = fg_mu0 a j) ∧ (∀ j, (fg_f1 (fun _ => none) 1 (some (a + 1))) j = fg_rho fg_R0 a j) ∧ (∀ j, fg_mu0 (a + 1) j = 0) ∧ (∀ j, fg_rho fg_R0 (a + 1) j = none)
theorem ev_Rows_init {E : fg_E} {d : Nat} {M : fg_M} {Q : Option Value → fg_M → Prop} {a h w : Nat} (hb : mk_Rows a h w) (hn : M.2.2 = a + 1) (h0 : ∀ j, M.1 a j = 0) (h1 : ∀ j, M.2.1 a j = none) (hQ : Q none (mk_bl M a (a + 2))) : fg_Ev E yy_Rows_init (d + 2) [.ref a, .int (nI h), .int (nI w)] M (a + 2) Q := by
  refine fg_intro (by decide +kernel) (Nat.le_of_ble_eq_true rfl) (fg_okAs rfl) (by rw [hn]; omega) ?_
  refine fg_me (fg_pb0 hn h0 h1) ?_
  refine fg_aloadn (fg_ft (pc := 0) tb_Rows_init 0 rfl) rfl ?_
  refine fg_objInit (fg_ft (pc := 1) tb_Rows_init 1 rfl) fo_Rows_3 fo_1 fo_2 (Nat.le_of_ble_eq_true rfl) ?_
  refine fg_aloadn (fg_ft (pc := 4) tb_Rows_init 2 rfl) rfl ?_
  refine fg_iloadn (fg_ft (pc := 5) tb_Rows_init 3 rfl) rfl ?_
  refine fg_putIF (fg_ft (pc := 6) tb_Rows_init 4 rfl) ff_Rows_9 hb.1 rfl (by show a < a + 1; omega) (fg_nokI _) (fun _ _ h => by cases h; rfl) rfl (fun _ _ h => by cases h; rfl) ?_
  refine fg_me fg_pb1 ?_
  refine fg_aloadn (fg_ft (pc := 9) tb_Rows_init 5 rfl) rfl ?_
  refine fg_iconst (fg_ft (pc := 10) tb_Rows_init 6 rfl) ic_0 ?_
  refine fg_iloadn (fg_ft (pc := 11) tb_Rows_init 7 rfl) rfl ?_
  refine fg_iloadn (fg_ft (pc := 12) tb_Rows_init 8 rfl) rfl ?_
  refine fg_imulN (fg_ft (pc := 13) tb_Rows_init 9 rfl) ?_
  refine fg_mmaxN (fg_ft (pc := 14) tb_Rows_init 10 rfl) cf_Rows_15 (Nat.le_of_ble_eq_true rfl) (by decide) (mk_layB hb.2.1 (by decide)) ?_
  rw [Nat.zero_max]
  refine fg_newa (k := 0) (fg_ft (pc := 17) tb_Rows_init 11 rfl) rfl (by decide) fk_arrI rfl hb.2.1 (by show a + 1 < a + 2; omega) ?_
  refine fg_me (fg_pb4 (n := a + 1) (by omega) (by omega) hb.2.2.2.2.1 hb.2.2.2.2.2) ?_
  refine fg_putRF (fg_ft (pc := 19) tb_Rows_init 12 rfl) ff_Rows_21 hb.1 rfl (by show a < a + 2; omega) (fun _ _ h => by cases h; rfl) rfl (fun _ _ h => by cases h; rfl) ?_
  refine fg_me fg_pb2 ?_
  refine fg_me (fg_pb8 (by omega) hb.2.2.1 hb.2.2.2.1) ?_
  exact fg_vret (fg_ft (pc := 22) tb_Rows_init 13 rfl) rfl rfl hQ
def mk_Town (a : Nat) : Prop := fg_lay a = (5, 9) ∧ fg_lay (a + 13) = (10, 1024) ∧ (∀ j, (fg_f1 (fg_f1 (fun _ => 0) 0 (nI 6)) 1 (nI 4)) j = fg_mu0 a j) ∧ (∀ j, (fg_f1 (fg_f1 (fg_f1 (fg_f1 (fg_f1 (fg_f1 (fg_f1 (fun _ => none) 2 (some (a + 1))) 3 (some (a + 3))) 4 (some (a + 5))) 5 (some (a + 7))) 6 (some (a + 9))) 7 (some (a + 11))) 8 (some (a + 13))) j = fg_rho fg_R0 a j) ∧ (∀ j, fg_mu0 (a + 13) j = 0) ∧ (∀ j, fg_rho fg_R0 (a + 13) j = none) ∧ mk_Rows (a + 1) 16 2 ∧ mk_Rows (a + 3) 5 3 ∧ mk_Rows (a + 5) 12 2 ∧ mk_Rows (a + 7) 12 4 ∧ mk_Rows (a + 9) 6 2 ∧ mk_Rows (a + 11) 6 2
theorem ev_Town_init {E : fg_E} {d : Nat} {M : fg_M} {Q : Option Value → fg_M → Prop} {a : Nat} (hb : mk_Town a) (hn : M.2.2 = a + 1) (h0 : ∀ j, M.1 a j = 0) (h1 : ∀ j, M.2.1 a j = none) (hQ : Q none (mk_bl M a (a + 14))) : fg_Ev E yy_Town_init (d + 3) [.ref a] M (a + 14) Q := by
  refine fg_intro (by decide +kernel) (Nat.le_of_ble_eq_true rfl) (fg_okAs rfl) (by rw [hn]; omega) ?_
  refine fg_me (fg_pb0 hn h0 h1) ?_
  refine fg_aloadn (fg_ft (pc := 0) tb_Town_init 0 rfl) rfl ?_
  refine fg_objInit (fg_ft (pc := 1) tb_Town_init 1 rfl) fo_Town_3 fo_1 fo_2 (Nat.le_of_ble_eq_true rfl) ?_
  refine fg_aloadn (fg_ft (pc := 4) tb_Town_init 2 rfl) rfl ?_
  refine fg_bipush (fg_ft (pc := 5) tb_Town_init 3 rfl) ib_6 ?_
  refine fg_putI (fg_ft (pc := 7) tb_Town_init 4 rfl) ff_Town_9 hb.1 rfl (by show a < a + 1; omega) (fg_nokI _) (fun _ _ h => by cases h; rfl) ?_
  refine fg_me fg_pb1 ?_
  refine fg_aloadn (fg_ft (pc := 10) tb_Town_init 5 rfl) rfl ?_
  refine fg_iconst (fg_ft (pc := 11) tb_Town_init 6 rfl) ic_4 ?_
  refine fg_putI (fg_ft (pc := 12) tb_Town_init 7 rfl) ff_Town_15 hb.1 rfl (by show a < a + 1; omega) (fg_nokI _) (fun _ _ h => by cases h; rfl) ?_
  refine fg_me fg_pb1 ?_
  refine fg_aloadn (fg_ft (pc := 15) tb_Town_init 8 rfl) rfl ?_
  refine fg_new (fg_ft (pc := 16) tb_Town_init 9 rfl) fn_Town_18 hb.2.2.2.2.2.2.1.1 (by show a + 1 < a + 14; omega) ?_
  refine fg_dup (fg_ft (pc := 19) tb_Town_init 10 rfl) rfl ?_
  refine fg_bipush (fg_ft (pc := 20) tb_Town_init 11 rfl) ib_16 ?_
  refine fg_iconst (fg_ft (pc := 22) tb_Town_init 12 rfl) ic_2 ?_
  refine fg_callI (fg_ft (pc := 23) tb_Town_init 13 rfl) rfl cf_Town_20 (as := [.int (nI 16), .int (nI 2)]) (st := [.ref (a + 1), .ref a]) rfl rfl (Nat.le_of_ble_eq_true rfl) (n2 := a + 3) (by show a + 1 + 1 ≤ a + 3; omega) (by omega) (ev_Rows_init hb.2.2.2.2.2.2.1 rfl (fun _ => if_pos rfl) (fun _ => if_pos rfl) ?_)
  show fg_wp _ _ _ _ _ _ _ _ _ (mk_bl _ _ _)
  refine fg_me (fg_pb6 (n := a + 1) (n' := a + 3) (by omega) (by omega) (by omega)) ?_
  refine fg_putRF (fg_ft (pc := 26) tb_Town_init 14 rfl) ff_Town_23 hb.1 rfl (by show a < a + 3; omega) (fun _ _ h => by cases h; rfl) rfl (fun _ _ h => by cases h; rfl) ?_
  refine fg_me fg_pb2 ?_
  refine fg_aloadn (fg_ft (pc := 29) tb_Town_init 15 rfl) rfl ?_
  refine fg_new (fg_ft (pc := 30) tb_Town_init 16 rfl) fn_Town_18 hb.2.2.2.2.2.2.2.1.1 (by show a + 3 < a + 14; omega) ?_
  refine fg_dup (fg_ft (pc := 33) tb_Town_init 17 rfl) rfl ?_
  refine fg_iconst (fg_ft (pc := 34) tb_Town_init 18 rfl) ic_5 ?_
  refine fg_iconst (fg_ft (pc := 35) tb_Town_init 19 rfl) ic_3 ?_
  refine fg_callI (fg_ft (pc := 36) tb_Town_init 20 rfl) rfl cf_Town_20 (as := [.int (nI 5), .int (nI 3)]) (st := [.ref (a + 3), .ref a]) rfl rfl (Nat.le_of_ble_eq_true rfl) (n2 := a + 5) (by show a + 3 + 1 ≤ a + 5; omega) (by omega) (ev_Rows_init hb.2.2.2.2.2.2.2.1 rfl (fun _ => if_pos rfl) (fun _ => if_pos rfl) ?_)
  show fg_wp _ _ _ _ _ _ _ _ _ (mk_bl _ _ _)
  refine fg_me (fg_pb6 (n := a + 3) (n' := a + 5) (by omega) (by omega) (by omega)) ?_
  refine fg_putRF (fg_ft (pc := 39) tb_Town_init 21 rfl) ff_Town_27 hb.1 rfl (by show a < a + 5; omega) (fun _ _ h => by cases h; rfl) rfl (fun _ _ h => by cases h; rfl) ?_
  refine fg_me fg_pb2 ?_
  refine fg_aloadn (fg_ft (pc := 42) tb_Town_init 22 rfl) rfl ?_
  refine fg_new (fg_ft (pc := 43) tb_Town_init 23 rfl) fn_Town_18 hb.2.2.2.2.2.2.2.2.1.1 (by show a + 5 < a + 14; omega) ?_
  refine fg_dup (fg_ft (pc := 46) tb_Town_init 24 rfl) rfl ?_
  refine fg_bipush (fg_ft (pc := 47) tb_Town_init 25 rfl) ib_12 ?_
  refine fg_iconst (fg_ft (pc := 49) tb_Town_init 26 rfl) ic_2 ?_
  refine fg_callI (fg_ft (pc := 50) tb_Town_init 27 rfl) rfl cf_Town_20 (as := [.int (nI 12), .int (nI 2)]) (st := [.ref (a + 5), .ref a]) rfl rfl (Nat.le_of_ble_eq_true rfl) (n2 := a + 7) (by show a + 5 + 1 ≤ a + 7; omega) (by omega) (ev_Rows_init hb.2.2.2.2.2.2.2.2.1 rfl (fun _ => if_pos rfl) (fun _ => if_pos rfl) ?_)
  show fg_wp _ _ _ _ _ _ _ _ _ (mk_bl _ _ _)
  refine fg_me (fg_pb6 (n := a + 5) (n' := a + 7) (by omega) (by omega) (by omega)) ?_
  refine fg_putRF (fg_ft (pc := 53) tb_Town_init 28 rfl) ff_Town_30 hb.1 rfl (by show a < a + 7; omega) (fun _ _ h => by cases h; rfl) rfl (fun _ _ h => by cases h; rfl) ?_
  refine fg_me fg_pb2 ?_
  refine fg_aloadn (fg_ft (pc := 56) tb_Town_init 29 rfl) rfl ?_
  refine fg_new (fg_ft (pc := 57) tb_Town_init 30 rfl) fn_Town_18 hb.2.2.2.2.2.2.2.2.2.1.1 (by show a + 7 < a + 14; omega) ?_
  refine fg_dup (fg_ft (pc := 60) tb_Town_init 31 rfl) rfl ?_
  refine fg_bipush (fg_ft (pc := 61) tb_Town_init 32 rfl) ib_12 ?_
  refine fg_iconst (fg_ft (pc := 63) tb_Town_init 33 rfl) ic_4 ?_
  refine fg_callI (fg_ft (pc := 64) tb_Town_init 34 rfl) rfl cf_Town_20 (as := [.int (nI 12), .int (nI 4)]) (st := [.ref (a + 7), .ref a]) rfl rfl (Nat.le_of_ble_eq_true rfl) (n2 := a + 9) (by show a + 7 + 1 ≤ a + 9; omega) (by omega) (ev_Rows_init hb.2.2.2.2.2.2.2.2.2.1 rfl (fun _ => if_pos rfl) (fun _ => if_pos rfl) ?_)
  show fg_wp _ _ _ _ _ _ _ _ _ (mk_bl _ _ _)
  refine fg_me (fg_pb6 (n := a + 7) (n' := a + 9) (by omega) (by omega) (by omega)) ?_
  refine fg_putRF (fg_ft (pc := 67) tb_Town_init 35 rfl) ff_Town_33 hb.1 rfl (by show a < a + 9; omega) (fun _ _ h => by cases h; rfl) rfl (fun _ _ h => by cases h; rfl) ?_
  refine fg_me fg_pb2 ?_
  refine fg_aloadn (fg_ft (pc := 70) tb_Town_init 36 rfl) rfl ?_
  refine fg_new (fg_ft (pc := 71) tb_Town_init 37 rfl) fn_Town_18 hb.2.2.2.2.2.2.2.2.2.2.1.1 (by show a + 9 < a + 14; omega) ?_
  refine fg_dup (fg_ft (pc := 74) tb_Town_init 38 rfl) rfl ?_
  refine fg_bipush (fg_ft (pc := 75) tb_Town_init 39 rfl) ib_6 ?_
  refine fg_iconst (fg_ft (pc := 77) tb_Town_init 40 rfl) ic_2 ?_
  refine fg_callI (fg_ft (pc := 78) tb_Town_init 41 rfl) rfl cf_Town_20 (as := [.int (nI 6), .int (nI 2)]) (st := [.ref (a + 9), .ref a]) rfl rfl (Nat.le_of_ble_eq_true rfl) (n2 := a + 11) (by show a + 9 + 1 ≤ a + 11; omega) (by omega) (ev_Rows_init hb.2.2.2.2.2.2.2.2.2.2.1 rfl (fun _ => if_pos rfl) (fun _ => if_pos rfl) ?_)
  show fg_wp _ _ _ _ _ _ _ _ _ (mk_bl _ _ _)
  refine fg_me (fg_pb6 (n := a + 9) (n' := a + 11) (by omega) (by omega) (by omega)) ?_
  refine fg_putRF (fg_ft (pc := 81) tb_Town_init 42 rfl) ff_Town_36 hb.1 rfl (by show a < a + 11; omega) (fun _ _ h => by cases h; rfl) rfl (fun _ _ h => by cases h; rfl) ?_
  refine fg_me fg_pb2 ?_
  refine fg_aloadn (fg_ft (pc := 84) tb_Town_init 43 rfl) rfl ?_
  refine fg_new (fg_ft (pc := 85) tb_Town_init 44 rfl) fn_Town_18 hb.2.2.2.2.2.2.2.2.2.2.2.1 (by show a + 11 < a + 14; omega) ?_
  refine fg_dup (fg_ft (pc := 88) tb_Town_init 45 rfl) rfl ?_
  refine fg_bipush (fg_ft (pc := 89) tb_Town_init 46 rfl) ib_6 ?_
  refine fg_iconst (fg_ft (pc := 91) tb_Town_init 47 rfl) ic_2 ?_
  refine fg_callI (fg_ft (pc := 92) tb_Town_init 48 rfl) rfl cf_Town_20 (as := [.int (nI 6), .int (nI 2)]) (st := [.ref (a + 11), .ref a]) rfl rfl (Nat.le_of_ble_eq_true rfl) (n2 := a + 13) (by show a + 11 + 1 ≤ a + 13; omega) (by omega) (ev_Rows_init hb.2.2.2.2.2.2.2.2.2.2.2 rfl (fun _ => if_pos rfl) (fun _ => if_pos rfl) ?_)
  show fg_wp _ _ _ _ _ _ _ _ _ (mk_bl _ _ _)
  refine fg_me (fg_pb6 (n := a + 11) (n' := a + 13) (by omega) (by omega) (by omega)) ?_
  refine fg_putRF (fg_ft (pc := 95) tb_Town_init 49 rfl) ff_Town_39 hb.1 rfl (by show a < a + 13; omega) (fun _ _ h => by cases h; rfl) rfl (fun _ _ h => by cases h; rfl) ?_
  refine fg_me fg_pb2 ?_
  refine fg_aloadn (fg_ft (pc := 98) tb_Town_init 50 rfl) rfl ?_
  refine fg_sipush (fg_ft (pc := 99) tb_Town_init 51 rfl) is_1024 ?_
  refine fg_newa (k := 0) (fg_ft (pc := 102) tb_Town_init 52 rfl) rfl (by decide) fk_arrI rfl hb.2.1 (by show a + 13 < a + 14; omega) ?_
  refine fg_me (fg_pb4 (n := a + 13) (by omega) (by omega) hb.2.2.2.2.1 hb.2.2.2.2.2.1) ?_
  refine fg_putRF (fg_ft (pc := 104) tb_Town_init 53 rfl) ff_Town_42 hb.1 rfl (by show a < a + 14; omega) (fun _ _ h => by cases h; rfl) rfl (fun _ _ h => by cases h; rfl) ?_
  refine fg_me fg_pb2 ?_
  refine fg_me (fg_pb8 (by omega) hb.2.2.1 hb.2.2.2.1) ?_
  exact fg_vret (fg_ft (pc := 107) tb_Town_init 54 rfl) rfl rfl hQ
theorem mk_Rows_105 : mk_Rows 105 16 2 := ⟨ly_105, ly_106, (fun j => match j with | 0 => rfl | _ + 1 => rfl), (fun j => match j with | 0 => rfl | 1 => rfl | _ + 2 => rfl), (fun _ => rfl), (fun _ => rfl)⟩
theorem mk_Rows_107 : mk_Rows 107 5 3 := ⟨ly_107, ly_108, (fun j => match j with | 0 => rfl | _ + 1 => rfl), (fun j => match j with | 0 => rfl | 1 => rfl | _ + 2 => rfl), (fun _ => rfl), (fun _ => rfl)⟩
theorem mk_Rows_109 : mk_Rows 109 12 2 := ⟨ly_109, ly_110, (fun j => match j with | 0 => rfl | _ + 1 => rfl), (fun j => match j with | 0 => rfl | 1 => rfl | _ + 2 => rfl), (fun _ => rfl), (fun _ => rfl)⟩
theorem mk_Rows_111 : mk_Rows 111 12 4 := ⟨ly_111, ly_112, (fun j => match j with | 0 => rfl | _ + 1 => rfl), (fun j => match j with | 0 => rfl | 1 => rfl | _ + 2 => rfl), (fun _ => rfl), (fun _ => rfl)⟩
theorem mk_Rows_113 : mk_Rows 113 6 2 := ⟨ly_113, ly_114, (fun j => match j with | 0 => rfl | _ + 1 => rfl), (fun j => match j with | 0 => rfl | 1 => rfl | _ + 2 => rfl), (fun _ => rfl), (fun _ => rfl)⟩
theorem mk_Rows_115 : mk_Rows 115 6 2 := ⟨ly_115, ly_116, (fun j => match j with | 0 => rfl | _ + 1 => rfl), (fun j => match j with | 0 => rfl | 1 => rfl | _ + 2 => rfl), (fun _ => rfl), (fun _ => rfl)⟩
theorem mk_Town_104 : mk_Town 104 := ⟨ly_104, ly_117, (fun j => match j with | 0 => rfl | 1 => rfl | _ + 2 => rfl), (fun j => match j with | 0 => rfl | 1 => rfl | 2 => rfl | 3 => rfl | 4 => rfl | 5 => rfl | 6 => rfl | 7 => rfl | 8 => rfl | _ + 9 => rfl), (fun _ => rfl), (fun _ => rfl), mk_Rows_105, mk_Rows_107, mk_Rows_109, mk_Rows_111, mk_Rows_113, mk_Rows_115⟩
theorem mk_Rows_119 : mk_Rows 119 16 2 := ⟨ly_119, ly_120, (fun j => match j with | 0 => rfl | _ + 1 => rfl), (fun j => match j with | 0 => rfl | 1 => rfl | _ + 2 => rfl), (fun _ => rfl), (fun _ => rfl)⟩
theorem mk_Rows_121 : mk_Rows 121 5 3 := ⟨ly_121, ly_122, (fun j => match j with | 0 => rfl | _ + 1 => rfl), (fun j => match j with | 0 => rfl | 1 => rfl | _ + 2 => rfl), (fun _ => rfl), (fun _ => rfl)⟩
theorem mk_Rows_123 : mk_Rows 123 12 2 := ⟨ly_123, ly_124, (fun j => match j with | 0 => rfl | _ + 1 => rfl), (fun j => match j with | 0 => rfl | 1 => rfl | _ + 2 => rfl), (fun _ => rfl), (fun _ => rfl)⟩
theorem mk_Rows_125 : mk_Rows 125 12 4 := ⟨ly_125, ly_126, (fun j => match j with | 0 => rfl | _ + 1 => rfl), (fun j => match j with | 0 => rfl | 1 => rfl | _ + 2 => rfl), (fun _ => rfl), (fun _ => rfl)⟩
theorem mk_Rows_127 : mk_Rows 127 6 2 := ⟨ly_127, ly_128, (fun j => match j with | 0 => rfl | _ + 1 => rfl), (fun j => match j with | 0 => rfl | 1 => rfl | _ + 2 => rfl), (fun _ => rfl), (fun _ => rfl)⟩
theorem mk_Rows_129 : mk_Rows 129 6 2 := ⟨ly_129, ly_130, (fun j => match j with | 0 => rfl | _ + 1 => rfl), (fun j => match j with | 0 => rfl | 1 => rfl | _ + 2 => rfl), (fun _ => rfl), (fun _ => rfl)⟩
theorem mk_Town_118 : mk_Town 118 := ⟨ly_118, ly_131, (fun j => match j with | 0 => rfl | 1 => rfl | _ + 2 => rfl), (fun j => match j with | 0 => rfl | 1 => rfl | 2 => rfl | 3 => rfl | 4 => rfl | 5 => rfl | 6 => rfl | 7 => rfl | 8 => rfl | _ + 9 => rfl), (fun _ => rfl), (fun _ => rfl), mk_Rows_119, mk_Rows_121, mk_Rows_123, mk_Rows_125, mk_Rows_127, mk_Rows_129⟩
theorem mk_Rows_144 : mk_Rows 144 16 2 := ⟨ly_144, ly_145, (fun j => match j with | 0 => rfl | _ + 1 => rfl), (fun j => match j with | 0 => rfl | 1 => rfl | _ + 2 => rfl), (fun _ => rfl), (fun _ => rfl)⟩
theorem mk_Rows_146 : mk_Rows 146 5 3 := ⟨ly_146, ly_147, (fun j => match j with | 0 => rfl | _ + 1 => rfl), (fun j => match j with | 0 => rfl | 1 => rfl | _ + 2 => rfl), (fun _ => rfl), (fun _ => rfl)⟩
theorem mk_Rows_148 : mk_Rows 148 12 2 := ⟨ly_148, ly_149, (fun j => match j with | 0 => rfl | _ + 1 => rfl), (fun j => match j with | 0 => rfl | 1 => rfl | _ + 2 => rfl), (fun _ => rfl), (fun _ => rfl)⟩
theorem mk_Rows_150 : mk_Rows 150 12 4 := ⟨ly_150, ly_151, (fun j => match j with | 0 => rfl | _ + 1 => rfl), (fun j => match j with | 0 => rfl | 1 => rfl | _ + 2 => rfl), (fun _ => rfl), (fun _ => rfl)⟩
theorem mk_Rows_152 : mk_Rows 152 6 2 := ⟨ly_152, ly_153, (fun j => match j with | 0 => rfl | _ + 1 => rfl), (fun j => match j with | 0 => rfl | 1 => rfl | _ + 2 => rfl), (fun _ => rfl), (fun _ => rfl)⟩
theorem mk_Rows_154 : mk_Rows 154 6 2 := ⟨ly_154, ly_155, (fun j => match j with | 0 => rfl | _ + 1 => rfl), (fun j => match j with | 0 => rfl | 1 => rfl | _ + 2 => rfl), (fun _ => rfl), (fun _ => rfl)⟩
theorem mk_Town_143 : mk_Town 143 := ⟨ly_143, ly_156, (fun j => match j with | 0 => rfl | 1 => rfl | _ + 2 => rfl), (fun j => match j with | 0 => rfl | 1 => rfl | 2 => rfl | 3 => rfl | 4 => rfl | 5 => rfl | 6 => rfl | 7 => rfl | 8 => rfl | _ + 9 => rfl), (fun _ => rfl), (fun _ => rfl), mk_Rows_144, mk_Rows_146, mk_Rows_148, mk_Rows_150, mk_Rows_152, mk_Rows_154⟩
theorem mk_Rows_158 : mk_Rows 158 16 2 := ⟨ly_158, ly_159, (fun j => match j with | 0 => rfl | _ + 1 => rfl), (fun j => match j with | 0 => rfl | 1 => rfl | _ + 2 => rfl), (fun _ => rfl), (fun _ => rfl)⟩
theorem mk_Rows_160 : mk_Rows 160 5 3 := ⟨ly_160, ly_161, (fun j => match j with | 0 => rfl | _ + 1 => rfl), (fun j => match j with | 0 => rfl | 1 => rfl | _ + 2 => rfl), (fun _ => rfl), (fun _ => rfl)⟩
theorem mk_Rows_162 : mk_Rows 162 12 2 := ⟨ly_162, ly_163, (fun j => match j with | 0 => rfl | _ + 1 => rfl), (fun j => match j with | 0 => rfl | 1 => rfl | _ + 2 => rfl), (fun _ => rfl), (fun _ => rfl)⟩
theorem mk_Rows_164 : mk_Rows 164 12 4 := ⟨ly_164, ly_165, (fun j => match j with | 0 => rfl | _ + 1 => rfl), (fun j => match j with | 0 => rfl | 1 => rfl | _ + 2 => rfl), (fun _ => rfl), (fun _ => rfl)⟩
theorem mk_Rows_166 : mk_Rows 166 6 2 := ⟨ly_166, ly_167, (fun j => match j with | 0 => rfl | _ + 1 => rfl), (fun j => match j with | 0 => rfl | 1 => rfl | _ + 2 => rfl), (fun _ => rfl), (fun _ => rfl)⟩
theorem mk_Rows_168 : mk_Rows 168 6 2 := ⟨ly_168, ly_169, (fun j => match j with | 0 => rfl | _ + 1 => rfl), (fun j => match j with | 0 => rfl | 1 => rfl | _ + 2 => rfl), (fun _ => rfl), (fun _ => rfl)⟩
theorem mk_Town_157 : mk_Town 157 := ⟨ly_157, ly_170, (fun j => match j with | 0 => rfl | 1 => rfl | _ + 2 => rfl), (fun j => match j with | 0 => rfl | 1 => rfl | 2 => rfl | 3 => rfl | 4 => rfl | 5 => rfl | 6 => rfl | 7 => rfl | 8 => rfl | _ + 9 => rfl), (fun _ => rfl), (fun _ => rfl), mk_Rows_158, mk_Rows_160, mk_Rows_162, mk_Rows_164, mk_Rows_166, mk_Rows_168⟩
theorem mk_Rows_182 : mk_Rows 182 16 2 := ⟨ly_182, ly_183, (fun j => match j with | 0 => rfl | _ + 1 => rfl), (fun j => match j with | 0 => rfl | 1 => rfl | _ + 2 => rfl), (fun _ => rfl), (fun _ => rfl)⟩
theorem mk_Rows_184 : mk_Rows 184 5 3 := ⟨ly_184, ly_185, (fun j => match j with | 0 => rfl | _ + 1 => rfl), (fun j => match j with | 0 => rfl | 1 => rfl | _ + 2 => rfl), (fun _ => rfl), (fun _ => rfl)⟩
theorem mk_Rows_186 : mk_Rows 186 12 2 := ⟨ly_186, ly_187, (fun j => match j with | 0 => rfl | _ + 1 => rfl), (fun j => match j with | 0 => rfl | 1 => rfl | _ + 2 => rfl), (fun _ => rfl), (fun _ => rfl)⟩
theorem mk_Rows_188 : mk_Rows 188 12 4 := ⟨ly_188, ly_189, (fun j => match j with | 0 => rfl | _ + 1 => rfl), (fun j => match j with | 0 => rfl | 1 => rfl | _ + 2 => rfl), (fun _ => rfl), (fun _ => rfl)⟩
theorem mk_Rows_190 : mk_Rows 190 6 2 := ⟨ly_190, ly_191, (fun j => match j with | 0 => rfl | _ + 1 => rfl), (fun j => match j with | 0 => rfl | 1 => rfl | _ + 2 => rfl), (fun _ => rfl), (fun _ => rfl)⟩
theorem mk_Rows_192 : mk_Rows 192 6 2 := ⟨ly_192, ly_193, (fun j => match j with | 0 => rfl | _ + 1 => rfl), (fun j => match j with | 0 => rfl | 1 => rfl | _ + 2 => rfl), (fun _ => rfl), (fun _ => rfl)⟩
theorem mk_Town_181 : mk_Town 181 := ⟨ly_181, ly_194, (fun j => match j with | 0 => rfl | 1 => rfl | _ + 2 => rfl), (fun j => match j with | 0 => rfl | 1 => rfl | 2 => rfl | 3 => rfl | 4 => rfl | 5 => rfl | 6 => rfl | 7 => rfl | 8 => rfl | _ + 9 => rfl), (fun _ => rfl), (fun _ => rfl), mk_Rows_182, mk_Rows_184, mk_Rows_186, mk_Rows_188, mk_Rows_190, mk_Rows_192⟩
theorem mk_Rows_196 : mk_Rows 196 16 2 := ⟨ly_196, ly_197, (fun j => match j with | 0 => rfl | _ + 1 => rfl), (fun j => match j with | 0 => rfl | 1 => rfl | _ + 2 => rfl), (fun _ => rfl), (fun _ => rfl)⟩
theorem mk_Rows_198 : mk_Rows 198 5 3 := ⟨ly_198, ly_199, (fun j => match j with | 0 => rfl | _ + 1 => rfl), (fun j => match j with | 0 => rfl | 1 => rfl | _ + 2 => rfl), (fun _ => rfl), (fun _ => rfl)⟩
theorem mk_Rows_200 : mk_Rows 200 12 2 := ⟨ly_200, ly_201, (fun j => match j with | 0 => rfl | _ + 1 => rfl), (fun j => match j with | 0 => rfl | 1 => rfl | _ + 2 => rfl), (fun _ => rfl), (fun _ => rfl)⟩
theorem mk_Rows_202 : mk_Rows 202 12 4 := ⟨ly_202, ly_203, (fun j => match j with | 0 => rfl | _ + 1 => rfl), (fun j => match j with | 0 => rfl | 1 => rfl | _ + 2 => rfl), (fun _ => rfl), (fun _ => rfl)⟩
theorem mk_Rows_204 : mk_Rows 204 6 2 := ⟨ly_204, ly_205, (fun j => match j with | 0 => rfl | _ + 1 => rfl), (fun j => match j with | 0 => rfl | 1 => rfl | _ + 2 => rfl), (fun _ => rfl), (fun _ => rfl)⟩
theorem mk_Rows_206 : mk_Rows 206 6 2 := ⟨ly_206, ly_207, (fun j => match j with | 0 => rfl | _ + 1 => rfl), (fun j => match j with | 0 => rfl | 1 => rfl | _ + 2 => rfl), (fun _ => rfl), (fun _ => rfl)⟩
theorem mk_Town_195 : mk_Town 195 := ⟨ly_195, ly_208, (fun j => match j with | 0 => rfl | 1 => rfl | _ + 2 => rfl), (fun j => match j with | 0 => rfl | 1 => rfl | 2 => rfl | 3 => rfl | 4 => rfl | 5 => rfl | 6 => rfl | 7 => rfl | 8 => rfl | _ + 9 => rfl), (fun _ => rfl), (fun _ => rfl), mk_Rows_196, mk_Rows_198, mk_Rows_200, mk_Rows_202, mk_Rows_204, mk_Rows_206⟩
theorem mk_Rows_220 : mk_Rows 220 16 2 := ⟨ly_220, ly_221, (fun j => match j with | 0 => rfl | _ + 1 => rfl), (fun j => match j with | 0 => rfl | 1 => rfl | _ + 2 => rfl), (fun _ => rfl), (fun _ => rfl)⟩
theorem mk_Rows_222 : mk_Rows 222 5 3 := ⟨ly_222, ly_223, (fun j => match j with | 0 => rfl | _ + 1 => rfl), (fun j => match j with | 0 => rfl | 1 => rfl | _ + 2 => rfl), (fun _ => rfl), (fun _ => rfl)⟩
theorem mk_Rows_224 : mk_Rows 224 12 2 := ⟨ly_224, ly_225, (fun j => match j with | 0 => rfl | _ + 1 => rfl), (fun j => match j with | 0 => rfl | 1 => rfl | _ + 2 => rfl), (fun _ => rfl), (fun _ => rfl)⟩
theorem mk_Rows_226 : mk_Rows 226 12 4 := ⟨ly_226, ly_227, (fun j => match j with | 0 => rfl | _ + 1 => rfl), (fun j => match j with | 0 => rfl | 1 => rfl | _ + 2 => rfl), (fun _ => rfl), (fun _ => rfl)⟩
theorem mk_Rows_228 : mk_Rows 228 6 2 := ⟨ly_228, ly_229, (fun j => match j with | 0 => rfl | _ + 1 => rfl), (fun j => match j with | 0 => rfl | 1 => rfl | _ + 2 => rfl), (fun _ => rfl), (fun _ => rfl)⟩
theorem mk_Rows_230 : mk_Rows 230 6 2 := ⟨ly_230, ly_231, (fun j => match j with | 0 => rfl | _ + 1 => rfl), (fun j => match j with | 0 => rfl | 1 => rfl | _ + 2 => rfl), (fun _ => rfl), (fun _ => rfl)⟩
theorem mk_Town_219 : mk_Town 219 := ⟨ly_219, ly_232, (fun j => match j with | 0 => rfl | 1 => rfl | _ + 2 => rfl), (fun j => match j with | 0 => rfl | 1 => rfl | 2 => rfl | 3 => rfl | 4 => rfl | 5 => rfl | 6 => rfl | 7 => rfl | 8 => rfl | _ + 9 => rfl), (fun _ => rfl), (fun _ => rfl), mk_Rows_220, mk_Rows_222, mk_Rows_224, mk_Rows_226, mk_Rows_228, mk_Rows_230⟩
theorem mk_Rows_234 : mk_Rows 234 16 2 := ⟨ly_234, ly_235, (fun j => match j with | 0 => rfl | _ + 1 => rfl), (fun j => match j with | 0 => rfl | 1 => rfl | _ + 2 => rfl), (fun _ => rfl), (fun _ => rfl)⟩
theorem mk_Rows_236 : mk_Rows 236 5 3 := ⟨ly_236, ly_237, (fun j => match j with | 0 => rfl | _ + 1 => rfl), (fun j => match j with | 0 => rfl | 1 => rfl | _ + 2 => rfl), (fun _ => rfl), (fun _ => rfl)⟩
theorem mk_Rows_238 : mk_Rows 238 12 2 := ⟨ly_238, ly_239, (fun j => match j with | 0 => rfl | _ + 1 => rfl), (fun j => match j with | 0 => rfl | 1 => rfl | _ + 2 => rfl), (fun _ => rfl), (fun _ => rfl)⟩
theorem mk_Rows_240 : mk_Rows 240 12 4 := ⟨ly_240, ly_241, (fun j => match j with | 0 => rfl | _ + 1 => rfl), (fun j => match j with | 0 => rfl | 1 => rfl | _ + 2 => rfl), (fun _ => rfl), (fun _ => rfl)⟩
theorem mk_Rows_242 : mk_Rows 242 6 2 := ⟨ly_242, ly_243, (fun j => match j with | 0 => rfl | _ + 1 => rfl), (fun j => match j with | 0 => rfl | 1 => rfl | _ + 2 => rfl), (fun _ => rfl), (fun _ => rfl)⟩
theorem mk_Rows_244 : mk_Rows 244 6 2 := ⟨ly_244, ly_245, (fun j => match j with | 0 => rfl | _ + 1 => rfl), (fun j => match j with | 0 => rfl | 1 => rfl | _ + 2 => rfl), (fun _ => rfl), (fun _ => rfl)⟩
theorem mk_Town_233 : mk_Town 233 := ⟨ly_233, ly_246, (fun j => match j with | 0 => rfl | 1 => rfl | _ + 2 => rfl), (fun j => match j with | 0 => rfl | 1 => rfl | 2 => rfl | 3 => rfl | 4 => rfl | 5 => rfl | 6 => rfl | 7 => rfl | 8 => rfl | _ + 9 => rfl), (fun _ => rfl), (fun _ => rfl), mk_Rows_234, mk_Rows_236, mk_Rows_238, mk_Rows_240, mk_Rows_242, mk_Rows_244⟩
theorem mk_Rows_257 : mk_Rows 257 16 2 := ⟨ly_257, ly_258, (fun j => match j with | 0 => rfl | _ + 1 => rfl), (fun j => match j with | 0 => rfl | 1 => rfl | _ + 2 => rfl), (fun _ => rfl), (fun _ => rfl)⟩
theorem mk_Rows_259 : mk_Rows 259 5 3 := ⟨ly_259, ly_260, (fun j => match j with | 0 => rfl | _ + 1 => rfl), (fun j => match j with | 0 => rfl | 1 => rfl | _ + 2 => rfl), (fun _ => rfl), (fun _ => rfl)⟩
theorem mk_Rows_261 : mk_Rows 261 12 2 := ⟨ly_261, ly_262, (fun j => match j with | 0 => rfl | _ + 1 => rfl), (fun j => match j with | 0 => rfl | 1 => rfl | _ + 2 => rfl), (fun _ => rfl), (fun _ => rfl)⟩
theorem mk_Rows_263 : mk_Rows 263 12 4 := ⟨ly_263, ly_264, (fun j => match j with | 0 => rfl | _ + 1 => rfl), (fun j => match j with | 0 => rfl | 1 => rfl | _ + 2 => rfl), (fun _ => rfl), (fun _ => rfl)⟩
theorem mk_Rows_265 : mk_Rows 265 6 2 := ⟨ly_265, ly_266, (fun j => match j with | 0 => rfl | _ + 1 => rfl), (fun j => match j with | 0 => rfl | 1 => rfl | _ + 2 => rfl), (fun _ => rfl), (fun _ => rfl)⟩
theorem mk_Rows_267 : mk_Rows 267 6 2 := ⟨ly_267, ly_268, (fun j => match j with | 0 => rfl | _ + 1 => rfl), (fun j => match j with | 0 => rfl | 1 => rfl | _ + 2 => rfl), (fun _ => rfl), (fun _ => rfl)⟩
theorem mk_Town_256 : mk_Town 256 := ⟨ly_256, ly_269, (fun j => match j with | 0 => rfl | 1 => rfl | _ + 2 => rfl), (fun j => match j with | 0 => rfl | 1 => rfl | 2 => rfl | 3 => rfl | 4 => rfl | 5 => rfl | 6 => rfl | 7 => rfl | 8 => rfl | _ + 9 => rfl), (fun _ => rfl), (fun _ => rfl), mk_Rows_257, mk_Rows_259, mk_Rows_261, mk_Rows_263, mk_Rows_265, mk_Rows_267⟩
