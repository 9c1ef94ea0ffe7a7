/-! constructors: what is told, people, ways, the reference -/
def mk_Told (a : Nat) : Prop := fg_lay a = (4, 8) ∧ fg_lay (a + 1) = (11, 600) ∧ fg_lay (a + 2) = (14, 2) ∧ fg_lay (a + 31) = (15, 3) ∧ (∀ j, (fg_f1 (fun _ => 0) 3 (-1)) j = fg_mu0 a j) ∧ (∀ j, (fg_f1 (fg_f1 (fg_f1 (fun _ => none) 0 (some (a + 1))) 6 (some (a + 2))) 7 (some (a + 31))) j = fg_rho fg_R0 a j) ∧ (∀ j, fg_mu0 (a + 1) j = 0) ∧ (∀ j, fg_rho fg_R0 (a + 1) j = none) ∧ (∀ j, fg_mu0 (a + 2) j = 0) ∧ (∀ j, (fg_f1 (fg_f1 (fun _ => none) 0 (some (a + 3))) 1 (some (a + 17))) j = fg_rho fg_R0 (a + 2) j) ∧ (∀ j, fg_mu0 (a + 31) j = 0) ∧ (∀ j, (fg_f1 (fg_f1 (fg_f1 (fun _ => none) 0 (some (a + 32))) 1 (some (a + 34))) 2 (some (a + 36))) j = fg_rho fg_R0 (a + 31) j) ∧ mk_Town (a + 3) ∧ mk_Town (a + 17) ∧ mk_Rows (a + 32) 30 4 ∧ mk_Rows (a + 34) 30 4 ∧ mk_Rows (a + 36) 30 4
theorem ev_Told_init {E : fg_E} {d : Nat} {M : fg_M} {Q : Option Value → fg_M → Prop} {a : Nat} (hb : mk_Told a) (hn : M.2.2 = a + 1) (h0 : ∀ j, M.1 a j = 0) (h1 : ∀ j, M.2.1 a j = none) (hQ : Q none (mk_bl M a (a + 38))) : fg_Ev E yy_Told_init (d + 4) [.ref a] M (a + 38) Q := by
  refine fg_intro (by decide +kernel) (Nat.le_of_ble_eq_true rfl) (fg_okAs rfl) (by rw [hn]; omega) ?_
  refine fg_me (fg_pb0 hn h0 h1) ?_
  refine fg_aloadn (fg_ft (pc := 0) tb_Told_init 0 rfl) rfl ?_
  refine fg_objInit (fg_ft (pc := 1) tb_Told_init 1 rfl) fo_Told_3 fo_1 fo_2 (Nat.le_of_ble_eq_true rfl) ?_
  refine fg_aloadn (fg_ft (pc := 4) tb_Told_init 2 rfl) rfl ?_
  refine fg_sipush (fg_ft (pc := 5) tb_Told_init 3 rfl) is_600 ?_
  refine fg_newa (k := 1) (fg_ft (pc := 8) tb_Told_init 4 rfl) rfl (by decide) fk_arrB rfl hb.2.1 (by show a + 1 < a + 38; omega) ?_
  refine fg_me (fg_pb4 (n := a + 1) (by omega) (by omega) hb.2.2.2.2.2.2.1 hb.2.2.2.2.2.2.2.1) ?_
  refine fg_putRF (fg_ft (pc := 10) tb_Told_init 5 rfl) ff_Told_9 hb.1 rfl (by show a < a + 2; omega) (fun _ _ h => by cases h; rfl) rfl (fun _ _ h => by cases h; rfl) ?_
  refine fg_me fg_pb2 ?_
  refine fg_aloadn (fg_ft (pc := 13) tb_Told_init 6 rfl) rfl ?_
  refine fg_iconst (fg_ft (pc := 14) tb_Told_init 7 rfl) ic_m1 ?_
  refine fg_putI (fg_ft (pc := 15) tb_Told_init 8 rfl) ff_Told_15 hb.1 rfl (by show a < a + 2; omega) (fg_nokI _) (fun _ _ h => by cases h; rfl) ?_
  refine fg_me fg_pb1 ?_
  refine fg_aloadn (fg_ft (pc := 18) tb_Told_init 9 rfl) rfl ?_
  refine fg_iconst (fg_ft (pc := 19) tb_Told_init 10 rfl) ic_2 ?_
  refine fg_newq (k := 4) (fg_ft (pc := 20) tb_Told_init 11 rfl) rfl (by decide) (by decide) (fg_tblIn 123 (by decide +kernel) (by decide +kernel)) rfl hb.2.2.1 (by show a + 2 < a + 38; omega) ?_
  refine fg_me (fg_pb5 (n := a + 2) (by omega)) ?_
  refine fg_putRF (fg_ft (pc := 23) tb_Told_init 12 rfl) ff_Told_21 hb.1 rfl (by show a < a + 3; omega) (fun _ _ h => by cases h; rfl) rfl (fun _ _ h => by cases h; rfl) ?_
  refine fg_me fg_pb2 ?_
  refine fg_iconst (fg_ft (pc := 26) tb_Told_init 13 rfl) ic_0 ?_
  refine fg_istoren (fg_ft (pc := 27) tb_Told_init 14 rfl) (Nat.le_of_ble_eq_true rfl) ?_
  refine fg_iloadn (fg_ft (pc := 28) tb_Told_init 15 rfl) rfl ?_
  refine fg_aloadn (fg_ft (pc := 29) tb_Told_init 16 rfl) rfl ?_
  refine fg_getR (b := a + 2) (fg_ft (pc := 30) tb_Told_init 17 rfl) ff_Told_21 hb.1 rfl (by show a < a + 3; omega) (by rw [fg_pbr]; rfl) ?_
  refine fg_alen (fg_ft (pc := 33) tb_Told_init 18 rfl) hb.2.2.1 (by decide) (by show a + 2 < a + 3; omega) ?_
  refine fg_icmp_geN (tgt := 56) (fg_ft (pc := 34) tb_Told_init 19 rfl) (by decide) (by decide) (by decide) (fun h => absurd h (by decide)) (fun _ => ?_)
  refine fg_aloadn (fg_ft (pc := 37) tb_Told_init 20 rfl) rfl ?_
  refine fg_getR (b := a + 2) (fg_ft (pc := 38) tb_Told_init 21 rfl) ff_Told_21 hb.1 rfl (by show a < a + 3; omega) (by rw [fg_pbr]; rfl) ?_
  refine fg_iloadn (fg_ft (pc := 41) tb_Told_init 22 rfl) rfl ?_
  refine fg_new (fg_ft (pc := 42) tb_Told_init 23 rfl) fn_Told_19 hb.2.2.2.2.2.2.2.2.2.2.2.2.1.1 (by show a + 3 < a + 38; omega) ?_
  refine fg_dup (fg_ft (pc := 45) tb_Told_init 24 rfl) rfl ?_
  refine fg_callIN (fg_ft (pc := 46) tb_Told_init 25 rfl) rfl cf_Told_25 (as := []) (st := [.ref (a + 3), .int (nI 0), .ref (a + 2)]) rfl rfl (Nat.le_of_ble_eq_true rfl) (n2 := a + 17) (by show a + 3 + 1 ≤ a + 17; omega) (by omega) (ev_Town_init hb.2.2.2.2.2.2.2.2.2.2.2.2.1 rfl (fun _ => if_pos rfl) (fun _ => if_pos rfl) ?_)
  show fg_wp _ _ _ _ _ _ _ _ _ (mk_bl _ _ _)
  refine fg_me (fg_pb6 (n := a + 3) (n' := a + 17) (by omega) (by omega) (by omega)) ?_
  refine fg_astq (i := nI 0) (fg_ft (pc := 49) tb_Told_init 26 rfl) hb.2.2.1 (by decide) (by show a + 2 < a + 17; omega) (vp_in_nI (by decide) (by decide)) hb.2.2.2.2.2.2.2.2.2.2.2.2.1.1 (by show a + 3 < a + 17; omega) rfl rfl ?_
  refine fg_me (fg_pb3c (k := 0) (by omega) (nI_clamp (by decide))) ?_
  refine fg_iincN (fg_ft (pc := 50) tb_Told_init 27 rfl) rfl ic_1 rfl ?_
  refine fg_goto (tgt := 28) (fg_ft (pc := 53) tb_Told_init 28 rfl) (by decide) ?_
  refine fg_iloadn (fg_ft (pc := 28) tb_Told_init 15 rfl) rfl ?_
  refine fg_aloadn (fg_ft (pc := 29) tb_Told_init 16 rfl) rfl ?_
  refine fg_getR (b := a + 2) (fg_ft (pc := 30) tb_Told_init 17 rfl) ff_Told_21 hb.1 rfl (by show a < a + 17; omega) (by rw [fg_pbr]; rfl) ?_
  refine fg_alen (fg_ft (pc := 33) tb_Told_init 18 rfl) hb.2.2.1 (by decide) (by show a + 2 < a + 17; omega) ?_
  refine fg_icmp_geN (tgt := 56) (fg_ft (pc := 34) tb_Told_init 19 rfl) (by decide) (by decide) (by decide) (fun h => absurd h (by decide)) (fun _ => ?_)
  refine fg_aloadn (fg_ft (pc := 37) tb_Told_init 20 rfl) rfl ?_
  refine fg_getR (b := a + 2) (fg_ft (pc := 38) tb_Told_init 21 rfl) ff_Told_21 hb.1 rfl (by show a < a + 17; omega) (by rw [fg_pbr]; rfl) ?_
  refine fg_iloadn (fg_ft (pc := 41) tb_Told_init 22 rfl) rfl ?_
  refine fg_new (fg_ft (pc := 42) tb_Told_init 23 rfl) fn_Told_19 hb.2.2.2.2.2.2.2.2.2.2.2.2.2.1.1 (by show a + 17 < a + 38; omega) ?_
  refine fg_dup (fg_ft (pc := 45) tb_Told_init 24 rfl) rfl ?_
  refine fg_callIN (fg_ft (pc := 46) tb_Told_init 25 rfl) rfl cf_Told_25 (as := []) (st := [.ref (a + 17), .int (nI 1), .ref (a + 2)]) rfl rfl (Nat.le_of_ble_eq_true rfl) (n2 := a + 31) (by show a + 17 + 1 ≤ a + 31; omega) (by omega) (ev_Town_init hb.2.2.2.2.2.2.2.2.2.2.2.2.2.1 rfl (fun _ => if_pos rfl) (fun _ => if_pos rfl) ?_)
  show fg_wp _ _ _ _ _ _ _ _ _ (mk_bl _ _ _)
  refine fg_me (fg_pb6 (n := a + 17) (n' := a + 31) (by omega) (by omega) (by omega)) ?_
  refine fg_astq (i := nI 1) (fg_ft (pc := 49) tb_Told_init 26 rfl) hb.2.2.1 (by decide) (by show a + 2 < a + 31; omega) (vp_in_nI (by decide) (by decide)) hb.2.2.2.2.2.2.2.2.2.2.2.2.2.1.1 (by show a + 17 < a + 31; omega) rfl rfl ?_
  refine fg_me (fg_pb3c (k := 1) (by omega) (nI_clamp (by decide))) ?_
  refine fg_me (fg_pb7 (by omega) (by omega) (fun j => (hb.2.2.2.2.2.2.2.2.1 j).symm) hb.2.2.2.2.2.2.2.2.2.1) ?_
  refine fg_iincN (fg_ft (pc := 50) tb_Told_init 27 rfl) rfl ic_1 rfl ?_
  refine fg_goto (tgt := 28) (fg_ft (pc := 53) tb_Told_init 28 rfl) (by decide) ?_
  refine fg_iloadn (fg_ft (pc := 28) tb_Told_init 15 rfl) rfl ?_
  refine fg_aloadn (fg_ft (pc := 29) tb_Told_init 16 rfl) rfl ?_
  refine fg_getR (b := a + 2) (fg_ft (pc := 30) tb_Told_init 17 rfl) ff_Told_21 hb.1 rfl (by show a < a + 31; omega) (by rw [fg_pbr]; rfl) ?_
  refine fg_alen (fg_ft (pc := 33) tb_Told_init 18 rfl) hb.2.2.1 (by decide) (by show a + 2 < a + 31; omega) ?_
  refine fg_icmp_geN (tgt := 56) (fg_ft (pc := 34) tb_Told_init 19 rfl) (by decide) (by decide) (by decide) (fun _ => ?_) (fun h => absurd h (by decide))
  refine fg_aloadn (fg_ft (pc := 56) tb_Told_init 29 rfl) rfl ?_
  refine fg_iconst (fg_ft (pc := 57) tb_Told_init 30 rfl) ic_3 ?_
  refine fg_newq (k := 5) (fg_ft (pc := 58) tb_Told_init 31 rfl) rfl (by decide) (by decide) (fg_tblIn 202 (by decide +kernel) (by decide +kernel)) rfl hb.2.2.2.1 (by show a + 31 < a + 38; omega) ?_
  refine fg_me (fg_pb5 (n := a + 31) (by omega)) ?_
  refine fg_putRF (fg_ft (pc := 61) tb_Told_init 32 rfl) ff_Told_28 hb.1 rfl (by show a < a + 32; omega) (fun _ _ h => by cases h; rfl) rfl (fun _ _ h => by cases h; rfl) ?_
  refine fg_me fg_pb2 ?_
  refine fg_iconst (fg_ft (pc := 64) tb_Told_init 33 rfl) ic_0 ?_
  refine fg_istoren (fg_ft (pc := 65) tb_Told_init 34 rfl) (Nat.le_of_ble_eq_true rfl) ?_
  refine fg_iloadn (fg_ft (pc := 66) tb_Told_init 35 rfl) rfl ?_
  refine fg_aloadn (fg_ft (pc := 67) tb_Told_init 36 rfl) rfl ?_
  refine fg_getR (b := a + 31) (fg_ft (pc := 68) tb_Told_init 37 rfl) ff_Told_28 hb.1 rfl (by show a < a + 32; omega) (by rw [fg_pbr]; rfl) ?_
  refine fg_alen (fg_ft (pc := 71) tb_Told_init 38 rfl) hb.2.2.2.1 (by decide) (by show a + 31 < a + 32; omega) ?_
  refine fg_icmp_geN (tgt := 97) (fg_ft (pc := 72) tb_Told_init 39 rfl) (by decide) (by decide) (by decide) (fun h => absurd h (by decide)) (fun _ => ?_)
  refine fg_aloadn (fg_ft (pc := 75) tb_Told_init 40 rfl) rfl ?_
  refine fg_getR (b := a + 31) (fg_ft (pc := 76) tb_Told_init 41 rfl) ff_Told_28 hb.1 rfl (by show a < a + 32; omega) (by rw [fg_pbr]; rfl) ?_
  refine fg_iloadn (fg_ft (pc := 79) tb_Told_init 42 rfl) rfl ?_
  refine fg_new (fg_ft (pc := 80) tb_Told_init 43 rfl) fn_Told_26 hb.2.2.2.2.2.2.2.2.2.2.2.2.2.2.1.1 (by show a + 32 < a + 38; omega) ?_
  refine fg_dup (fg_ft (pc := 83) tb_Told_init 44 rfl) rfl ?_
  refine fg_bipush (fg_ft (pc := 84) tb_Told_init 45 rfl) ib_30 ?_
  refine fg_iconst (fg_ft (pc := 86) tb_Told_init 46 rfl) ic_4 ?_
  refine fg_callI (fg_ft (pc := 87) tb_Told_init 47 rfl) rfl cf_Told_32 (as := [.int (nI 30), .int (nI 4)]) (st := [.ref (a + 32), .int (nI 0), .ref (a + 31)]) rfl rfl (Nat.le_of_ble_eq_true rfl) (n2 := a + 34) (by show a + 32 + 1 ≤ a + 34; omega) (by omega) (ev_Rows_init hb.2.2.2.2.2.2.2.2.2.2.2.2.2.2.1 rfl (fun _ => if_pos rfl) (fun _ => if_pos rfl) ?_)
  show fg_wp _ _ _ _ _ _ _ _ _ (mk_bl _ _ _)
  refine fg_me (fg_pb6 (n := a + 32) (n' := a + 34) (by omega) (by omega) (by omega)) ?_
  refine fg_astq (i := nI 0) (fg_ft (pc := 90) tb_Told_init 48 rfl) hb.2.2.2.1 (by decide) (by show a + 31 < a + 34; omega) (vp_in_nI (by decide) (by decide)) hb.2.2.2.2.2.2.2.2.2.2.2.2.2.2.1.1 (by show a + 32 < a + 34; omega) rfl rfl ?_
  refine fg_me (fg_pb3c (k := 0) (by omega) (nI_clamp (by decide))) ?_
  refine fg_iincN (fg_ft (pc := 91) tb_Told_init 49 rfl) rfl ic_1 rfl ?_
  refine fg_goto (tgt := 66) (fg_ft (pc := 94) tb_Told_init 50 rfl) (by decide) ?_
  refine fg_iloadn (fg_ft (pc := 66) tb_Told_init 35 rfl) rfl ?_
  refine fg_aloadn (fg_ft (pc := 67) tb_Told_init 36 rfl) rfl ?_
  refine fg_getR (b := a + 31) (fg_ft (pc := 68) tb_Told_init 37 rfl) ff_Told_28 hb.1 rfl (by show a < a + 34; omega) (by rw [fg_pbr]; rfl) ?_
  refine fg_alen (fg_ft (pc := 71) tb_Told_init 38 rfl) hb.2.2.2.1 (by decide) (by show a + 31 < a + 34; omega) ?_
  refine fg_icmp_geN (tgt := 97) (fg_ft (pc := 72) tb_Told_init 39 rfl) (by decide) (by decide) (by decide) (fun h => absurd h (by decide)) (fun _ => ?_)
  refine fg_aloadn (fg_ft (pc := 75) tb_Told_init 40 rfl) rfl ?_
  refine fg_getR (b := a + 31) (fg_ft (pc := 76) tb_Told_init 41 rfl) ff_Told_28 hb.1 rfl (by show a < a + 34; omega) (by rw [fg_pbr]; rfl) ?_
  refine fg_iloadn (fg_ft (pc := 79) tb_Told_init 42 rfl) rfl ?_
  refine fg_new (fg_ft (pc := 80) tb_Told_init 43 rfl) fn_Told_26 hb.2.2.2.2.2.2.2.2.2.2.2.2.2.2.2.1.1 (by show a + 34 < a + 38; omega) ?_
  refine fg_dup (fg_ft (pc := 83) tb_Told_init 44 rfl) rfl ?_
  refine fg_bipush (fg_ft (pc := 84) tb_Told_init 45 rfl) ib_30 ?_
  refine fg_iconst (fg_ft (pc := 86) tb_Told_init 46 rfl) ic_4 ?_
  refine fg_callI (fg_ft (pc := 87) tb_Told_init 47 rfl) rfl cf_Told_32 (as := [.int (nI 30), .int (nI 4)]) (st := [.ref (a + 34), .int (nI 1), .ref (a + 31)]) rfl rfl (Nat.le_of_ble_eq_true rfl) (n2 := a + 36) (by show a + 34 + 1 ≤ a + 36; omega) (by omega) (ev_Rows_init hb.2.2.2.2.2.2.2.2.2.2.2.2.2.2.2.1 rfl (fun _ => if_pos rfl) (fun _ => if_pos rfl) ?_)
  show fg_wp _ _ _ _ _ _ _ _ _ (mk_bl _ _ _)
  refine fg_me (fg_pb6 (n := a + 34) (n' := a + 36) (by omega) (by omega) (by omega)) ?_
  refine fg_astq (i := nI 1) (fg_ft (pc := 90) tb_Told_init 48 rfl) hb.2.2.2.1 (by decide) (by show a + 31 < a + 36; omega) (vp_in_nI (by decide) (by decide)) hb.2.2.2.2.2.2.2.2.2.2.2.2.2.2.2.1.1 (by show a + 34 < a + 36; omega) rfl rfl ?_
  refine fg_me (fg_pb3c (k := 1) (by omega) (nI_clamp (by decide))) ?_
  refine fg_iincN (fg_ft (pc := 91) tb_Told_init 49 rfl) rfl ic_1 rfl ?_
  refine fg_goto (tgt := 66) (fg_ft (pc := 94) tb_Told_init 50 rfl) (by decide) ?_
  refine fg_iloadn (fg_ft (pc := 66) tb_Told_init 35 rfl) rfl ?_
  refine fg_aloadn (fg_ft (pc := 67) tb_Told_init 36 rfl) rfl ?_
  refine fg_getR (b := a + 31) (fg_ft (pc := 68) tb_Told_init 37 rfl) ff_Told_28 hb.1 rfl (by show a < a + 36; omega) (by rw [fg_pbr]; rfl) ?_
  refine fg_alen (fg_ft (pc := 71) tb_Told_init 38 rfl) hb.2.2.2.1 (by decide) (by show a + 31 < a + 36; omega) ?_
  refine fg_icmp_geN (tgt := 97) (fg_ft (pc := 72) tb_Told_init 39 rfl) (by decide) (by decide) (by decide) (fun h => absurd h (by decide)) (fun _ => ?_)
  refine fg_aloadn (fg_ft (pc := 75) tb_Told_init 40 rfl) rfl ?_
  refine fg_getR (b := a + 31) (fg_ft (pc := 76) tb_Told_init 41 rfl) ff_Told_28 hb.1 rfl (by show a < a + 36; omega) (by rw [fg_pbr]; rfl) ?_
  refine fg_iloadn (fg_ft (pc := 79) tb_Told_init 42 rfl) rfl ?_
  refine fg_new (fg_ft (pc := 80) tb_Told_init 43 rfl) fn_Told_26 hb.2.2.2.2.2.2.2.2.2.2.2.2.2.2.2.2.1 (by show a + 36 < a + 38; omega) ?_
  refine fg_dup (fg_ft (pc := 83) tb_Told_init 44 rfl) rfl ?_
  refine fg_bipush (fg_ft (pc := 84) tb_Told_init 45 rfl) ib_30 ?_
  refine fg_iconst (fg_ft (pc := 86) tb_Told_init 46 rfl) ic_4 ?_
  refine fg_callI (fg_ft (pc := 87) tb_Told_init 47 rfl) rfl cf_Told_32 (as := [.int (nI 30), .int (nI 4)]) (st := [.ref (a + 36), .int (nI 2), .ref (a + 31)]) rfl rfl (Nat.le_of_ble_eq_true rfl) (n2 := a + 38) (by show a + 36 + 1 ≤ a + 38; omega) (by omega) (ev_Rows_init hb.2.2.2.2.2.2.2.2.2.2.2.2.2.2.2.2 rfl (fun _ => if_pos rfl) (fun _ => if_pos rfl) ?_)
  show fg_wp _ _ _ _ _ _ _ _ _ (mk_bl _ _ _)
  refine fg_me (fg_pb6 (n := a + 36) (n' := a + 38) (by omega) (by omega) (by omega)) ?_
  refine fg_astq (i := nI 2) (fg_ft (pc := 90) tb_Told_init 48 rfl) hb.2.2.2.1 (by decide) (by show a + 31 < a + 38; omega) (vp_in_nI (by decide) (by decide)) hb.2.2.2.2.2.2.2.2.2.2.2.2.2.2.2.2.1 (by show a + 36 < a + 38; omega) rfl rfl ?_
  refine fg_me (fg_pb3c (k := 2) (by omega) (nI_clamp (by decide))) ?_
  refine fg_me (fg_pb7 (by omega) (by omega) (fun j => (hb.2.2.2.2.2.2.2.2.2.2.1 j).symm) hb.2.2.2.2.2.2.2.2.2.2.2.1) ?_
  refine fg_iincN (fg_ft (pc := 91) tb_Told_init 49 rfl) rfl ic_1 rfl ?_
  refine fg_goto (tgt := 66) (fg_ft (pc := 94) tb_Told_init 50 rfl) (by decide) ?_
  refine fg_iloadn (fg_ft (pc := 66) tb_Told_init 35 rfl) rfl ?_
  refine fg_aloadn (fg_ft (pc := 67) tb_Told_init 36 rfl) rfl ?_
  refine fg_getR (b := a + 31) (fg_ft (pc := 68) tb_Told_init 37 rfl) ff_Told_28 hb.1 rfl (by show a < a + 38; omega) (by rw [fg_pbr]; rfl) ?_
  refine fg_alen (fg_ft (pc := 71) tb_Told_init 38 rfl) hb.2.2.2.1 (by decide) (by show a + 31 < a + 38; omega) ?_
  refine fg_icmp_geN (tgt := 97) (fg_ft (pc := 72) tb_Told_init 39 rfl) (by decide) (by decide) (by decide) (fun _ => ?_) (fun h => absurd h (by decide))
  refine fg_me (fg_pb8 (by omega) hb.2.2.2.2.1 hb.2.2.2.2.2.1) ?_
  exact fg_vret (fg_ft (pc := 97) tb_Told_init 51 rfl) rfl rfl hQ
def mk_Folk (a : Nat) : Prop := fg_lay a = (0, 12) ∧ fg_lay (a + 1) = (10, 5) ∧ fg_lay (a + 2) = (10, 5) ∧ fg_lay (a + 3) = (10, 5) ∧ (∀ j, (fg_f1 (fun _ => 0) 6 (-1)) j = fg_mu0 a j) ∧ (∀ j, (fg_f1 (fg_f1 (fg_f1 (fg_f1 (fun _ => none) 0 none) 3 (some (a + 1))) 4 (some (a + 2))) 5 (some (a + 3))) j = fg_rho fg_R0 a j) ∧ (∀ j, fg_mu0 (a + 1) j = 0) ∧ (∀ j, fg_rho fg_R0 (a + 1) j = none) ∧ (∀ j, fg_mu0 (a + 2) j = 0) ∧ (∀ j, fg_rho fg_R0 (a + 2) j = none) ∧ (∀ j, fg_mu0 (a + 3) j = 0) ∧ (∀ j, fg_rho fg_R0 (a + 3) j = none)
theorem ev_Folk_init {E : fg_E} {d : Nat} {M : fg_M} {Q : Option Value → fg_M → Prop} {a : Nat} (hb : mk_Folk a) (hn : M.2.2 = a + 1) (h0 : ∀ j, M.1 a j = 0) (h1 : ∀ j, M.2.1 a j = none) (hQ : Q none (mk_bl M a (a + 4))) : fg_Ev E yy_Folk_init (d + 1) [.ref a] M (a + 4) Q := by
  refine fg_intro (by decide +kernel) (Nat.le_of_ble_eq_true rfl) (fg_okAs rfl) (by rw [hn]; omega) ?_
  refine fg_me (fg_pb0 hn h0 h1) ?_
  refine fg_aloadn (fg_ft (pc := 0) tb_Folk_init 0 rfl) rfl ?_
  refine fg_objInit (fg_ft (pc := 1) tb_Folk_init 1 rfl) fo_Folk_3 fo_1 fo_2 (Nat.le_of_ble_eq_true rfl) ?_
  refine fg_aloadn (fg_ft (pc := 4) tb_Folk_init 2 rfl) rfl ?_
  refine fg_null (fg_ft (pc := 5) tb_Folk_init 3 rfl) ?_
  refine fg_putN (fg_ft (pc := 6) tb_Folk_init 4 rfl) ff_Folk_9 hb.1 rfl (by show a < a + 1; omega) (fun _ _ h => by cases h; rfl) ?_
  refine fg_me fg_pb2 ?_
  refine fg_aloadn (fg_ft (pc := 9) tb_Folk_init 5 rfl) rfl ?_
  refine fg_iconst (fg_ft (pc := 10) tb_Folk_init 6 rfl) ic_5 ?_
  refine fg_newa (k := 0) (fg_ft (pc := 11) tb_Folk_init 7 rfl) rfl (by decide) fk_arrI rfl hb.2.1 (by show a + 1 < a + 4; omega) ?_
  refine fg_me (fg_pb4 (n := a + 1) (by omega) (by omega) hb.2.2.2.2.2.2.1 hb.2.2.2.2.2.2.2.1) ?_
  refine fg_putRF (fg_ft (pc := 13) tb_Folk_init 8 rfl) ff_Folk_15 hb.1 rfl (by show a < a + 2; omega) (fun _ _ h => by cases h; rfl) rfl (fun _ _ h => by cases h; rfl) ?_
  refine fg_me fg_pb2 ?_
  refine fg_aloadn (fg_ft (pc := 16) tb_Folk_init 9 rfl) rfl ?_
  refine fg_iconst (fg_ft (pc := 17) tb_Folk_init 10 rfl) ic_5 ?_
  refine fg_newa (k := 0) (fg_ft (pc := 18) tb_Folk_init 11 rfl) rfl (by decide) fk_arrI rfl hb.2.2.1 (by show a + 2 < a + 4; omega) ?_
  refine fg_me (fg_pb4 (n := a + 2) (by omega) (by omega) hb.2.2.2.2.2.2.2.2.1 hb.2.2.2.2.2.2.2.2.2.1) ?_
  refine fg_putRF (fg_ft (pc := 20) tb_Folk_init 12 rfl) ff_Folk_19 hb.1 rfl (by show a < a + 3; omega) (fun _ _ h => by cases h; rfl) rfl (fun _ _ h => by cases h; rfl) ?_
  refine fg_me fg_pb2 ?_
  refine fg_aloadn (fg_ft (pc := 23) tb_Folk_init 13 rfl) rfl ?_
  refine fg_iconst (fg_ft (pc := 24) tb_Folk_init 14 rfl) ic_5 ?_
  refine fg_newa (k := 0) (fg_ft (pc := 25) tb_Folk_init 15 rfl) rfl (by decide) fk_arrI rfl hb.2.2.2.1 (by show a + 3 < a + 4; omega) ?_
  refine fg_me (fg_pb4 (n := a + 3) (by omega) (by omega) hb.2.2.2.2.2.2.2.2.2.2.1 hb.2.2.2.2.2.2.2.2.2.2.2) ?_
  refine fg_putRF (fg_ft (pc := 27) tb_Folk_init 16 rfl) ff_Folk_22 hb.1 rfl (by show a < a + 4; omega) (fun _ _ h => by cases h; rfl) rfl (fun _ _ h => by cases h; rfl) ?_
  refine fg_me fg_pb2 ?_
  refine fg_aloadn (fg_ft (pc := 30) tb_Folk_init 17 rfl) rfl ?_
  refine fg_iconst (fg_ft (pc := 31) tb_Folk_init 18 rfl) ic_m1 ?_
  refine fg_putI (fg_ft (pc := 32) tb_Folk_init 19 rfl) ff_Folk_25 hb.1 rfl (by show a < a + 4; omega) (fg_nokI _) (fun _ _ h => by cases h; rfl) ?_
  refine fg_me fg_pb1 ?_
  refine fg_me (fg_pb8 (by omega) hb.2.2.2.2.1 hb.2.2.2.2.2.1) ?_
  exact fg_vret (fg_ft (pc := 35) tb_Folk_init 20 rfl) rfl rfl hQ
def mk_Search (a : Nat) : Prop := fg_lay a = (3, 8) ∧ fg_lay (a + 1) = (10, 1024) ∧ fg_lay (a + 2) = (10, 1024) ∧ fg_lay (a + 3) = (10, 1024) ∧ fg_lay (a + 4) = (10, 1024) ∧ (∀ j, (fun _ => 0) j = fg_mu0 a j) ∧ (∀ j, (fg_f1 (fg_f1 (fg_f1 (fg_f1 (fg_f1 (fun _ => none) 0 (some (a + 1))) 1 (some (a + 2))) 2 (some (a + 3))) 3 (some (a + 4))) 4 none) j = fg_rho fg_R0 a j) ∧ (∀ j, fg_mu0 (a + 1) j = 0) ∧ (∀ j, fg_rho fg_R0 (a + 1) j = none) ∧ (∀ j, fg_mu0 (a + 2) j = 0) ∧ (∀ j, fg_rho fg_R0 (a + 2) j = none) ∧ (∀ j, fg_mu0 (a + 3) j = 0) ∧ (∀ j, fg_rho fg_R0 (a + 3) j = none) ∧ (∀ j, fg_mu0 (a + 4) j = 0) ∧ (∀ j, fg_rho fg_R0 (a + 4) j = none)
theorem ev_Search_init {E : fg_E} {d : Nat} {M : fg_M} {Q : Option Value → fg_M → Prop} {a : Nat} (hb : mk_Search a) (hn : M.2.2 = a + 1) (h0 : ∀ j, M.1 a j = 0) (h1 : ∀ j, M.2.1 a j = none) (hQ : Q none (mk_bl M a (a + 5))) : fg_Ev E yy_Search_init (d + 1) [.ref a] M (a + 5) Q := by
  refine fg_intro (by decide +kernel) (Nat.le_of_ble_eq_true rfl) (fg_okAs rfl) (by rw [hn]; omega) ?_
  refine fg_me (fg_pb0 hn h0 h1) ?_
  refine fg_aloadn (fg_ft (pc := 0) tb_Search_init 0 rfl) rfl ?_
  refine fg_objInit (fg_ft (pc := 1) tb_Search_init 1 rfl) fo_Search_3 fo_1 fo_2 (Nat.le_of_ble_eq_true rfl) ?_
  refine fg_aloadn (fg_ft (pc := 4) tb_Search_init 2 rfl) rfl ?_
  refine fg_sipush (fg_ft (pc := 5) tb_Search_init 3 rfl) is_1024 ?_
  refine fg_newa (k := 0) (fg_ft (pc := 8) tb_Search_init 4 rfl) rfl (by decide) fk_arrI rfl hb.2.1 (by show a + 1 < a + 5; omega) ?_
  refine fg_me (fg_pb4 (n := a + 1) (by omega) (by omega) hb.2.2.2.2.2.2.2.1 hb.2.2.2.2.2.2.2.2.1) ?_
  refine fg_putRF (fg_ft (pc := 10) tb_Search_init 5 rfl) ff_Search_9 hb.1 rfl (by show a < a + 2; omega) (fun _ _ h => by cases h; rfl) rfl (fun _ _ h => by cases h; rfl) ?_
  refine fg_me fg_pb2 ?_
  refine fg_aloadn (fg_ft (pc := 13) tb_Search_init 6 rfl) rfl ?_
  refine fg_sipush (fg_ft (pc := 14) tb_Search_init 7 rfl) is_1024 ?_
  refine fg_newa (k := 0) (fg_ft (pc := 17) tb_Search_init 8 rfl) rfl (by decide) fk_arrI rfl hb.2.2.1 (by show a + 2 < a + 5; omega) ?_
  refine fg_me (fg_pb4 (n := a + 2) (by omega) (by omega) hb.2.2.2.2.2.2.2.2.2.1 hb.2.2.2.2.2.2.2.2.2.2.1) ?_
  refine fg_putRF (fg_ft (pc := 19) tb_Search_init 9 rfl) ff_Search_15 hb.1 rfl (by show a < a + 3; omega) (fun _ _ h => by cases h; rfl) rfl (fun _ _ h => by cases h; rfl) ?_
  refine fg_me fg_pb2 ?_
  refine fg_aloadn (fg_ft (pc := 22) tb_Search_init 10 rfl) rfl ?_
  refine fg_sipush (fg_ft (pc := 23) tb_Search_init 11 rfl) is_1024 ?_
  refine fg_newa (k := 0) (fg_ft (pc := 26) tb_Search_init 12 rfl) rfl (by decide) fk_arrI rfl hb.2.2.2.1 (by show a + 3 < a + 5; omega) ?_
  refine fg_me (fg_pb4 (n := a + 3) (by omega) (by omega) hb.2.2.2.2.2.2.2.2.2.2.2.1 hb.2.2.2.2.2.2.2.2.2.2.2.2.1) ?_
  refine fg_putRF (fg_ft (pc := 28) tb_Search_init 13 rfl) ff_Search_18 hb.1 rfl (by show a < a + 4; omega) (fun _ _ h => by cases h; rfl) rfl (fun _ _ h => by cases h; rfl) ?_
  refine fg_me fg_pb2 ?_
  refine fg_aloadn (fg_ft (pc := 31) tb_Search_init 14 rfl) rfl ?_
  refine fg_sipush (fg_ft (pc := 32) tb_Search_init 15 rfl) is_1024 ?_
  refine fg_newa (k := 0) (fg_ft (pc := 35) tb_Search_init 16 rfl) rfl (by decide) fk_arrI rfl hb.2.2.2.2.1 (by show a + 4 < a + 5; omega) ?_
  refine fg_me (fg_pb4 (n := a + 4) (by omega) (by omega) hb.2.2.2.2.2.2.2.2.2.2.2.2.2.1 hb.2.2.2.2.2.2.2.2.2.2.2.2.2.2) ?_
  refine fg_putRF (fg_ft (pc := 37) tb_Search_init 17 rfl) ff_Search_21 hb.1 rfl (by show a < a + 5; omega) (fun _ _ h => by cases h; rfl) rfl (fun _ _ h => by cases h; rfl) ?_
  refine fg_me fg_pb2 ?_
  refine fg_aloadn (fg_ft (pc := 40) tb_Search_init 18 rfl) rfl ?_
  refine fg_null (fg_ft (pc := 41) tb_Search_init 19 rfl) ?_
  refine fg_putN (fg_ft (pc := 42) tb_Search_init 20 rfl) ff_Search_24 hb.1 rfl (by show a < a + 5; omega) (fun _ _ h => by cases h; rfl) ?_
  refine fg_me fg_pb2 ?_
  refine fg_me (fg_pb8 (by omega) hb.2.2.2.2.2.1 hb.2.2.2.2.2.2.1) ?_
  exact fg_vret (fg_ft (pc := 45) tb_Search_init 21 rfl) rfl rfl hQ
def mk_Mo (a : Nat) : Prop := fg_lay a = (7, 35) ∧ fg_lay (a + 1) = (10, 5120) ∧ fg_lay (a + 2) = (12, 3) ∧ fg_lay (a + 3) = (10, 152) ∧ fg_lay (a + 4) = (12, 1024) ∧ fg_lay (a + 5) = (10, 5) ∧ fg_lay (a + 6) = (10, 5) ∧ fg_lay (a + 7) = (10, 5) ∧ fg_lay (a + 8) = (10, 1024) ∧ fg_lay (a + 9) = (10, 1024) ∧ fg_lay (a + 10) = (10, 1024) ∧ fg_lay (a + 11) = (10, 1024) ∧ fg_lay (a + 12) = (10, 1024) ∧ fg_lay (a + 13) = (10, 5) ∧ fg_lay (a + 14) = (10, 5) ∧ fg_lay (a + 15) = (10, 5) ∧ fg_lay (a + 16) = (10, 5) ∧ (∀ j, (fg_f1 (fun _ => 0) 17 (-1)) j = fg_mu0 a j) ∧ (∀ j, (fg_f1 (fg_f1 (fg_f1 (fg_f1 (fg_f1 (fg_f1 (fg_f1 (fg_f1 (fg_f1 (fg_f1 (fg_f1 (fg_f1 (fg_f1 (fg_f1 (fg_f1 (fg_f1 (fun _ => none) 0 (some (a + 1))) 1 (some (a + 2))) 10 (some (a + 3))) 11 (some (a + 4))) 12 (some (a + 5))) 13 (some (a + 6))) 14 (some (a + 7))) 21 (some (a + 8))) 22 (some (a + 9))) 23 (some (a + 10))) 24 (some (a + 11))) 25 (some (a + 12))) 27 (some (a + 13))) 28 (some (a + 14))) 29 (some (a + 15))) 30 (some (a + 16))) j = fg_rho fg_R0 a j) ∧ (∀ j, (fg_f1 (fun _ => 0) 4 (-1)) j = fg_mu0 (a + 1) j) ∧ (∀ j, fg_rho fg_R0 (a + 1) j = none) ∧ (∀ j, fg_mu0 (a + 2) j = 0) ∧ (∀ j, fg_rho fg_R0 (a + 2) j = none) ∧ (∀ j, fg_mu0 (a + 3) j = 0) ∧ (∀ j, fg_rho fg_R0 (a + 3) j = none) ∧ (∀ j, fg_mu0 (a + 4) j = 0) ∧ (∀ j, fg_rho fg_R0 (a + 4) j = none) ∧ (∀ j, fg_mu0 (a + 5) j = 0) ∧ (∀ j, fg_rho fg_R0 (a + 5) j = none) ∧ (∀ j, fg_mu0 (a + 6) j = 0) ∧ (∀ j, fg_rho fg_R0 (a + 6) j = none) ∧ (∀ j, fg_mu0 (a + 7) j = 0) ∧ (∀ j, fg_rho fg_R0 (a + 7) j = none) ∧ (∀ j, fg_mu0 (a + 8) j = 0) ∧ (∀ j, fg_rho fg_R0 (a + 8) j = none) ∧ (∀ j, fg_mu0 (a + 9) j = 0) ∧ (∀ j, fg_rho fg_R0 (a + 9) j = none) ∧ (∀ j, fg_mu0 (a + 10) j = 0) ∧ (∀ j, fg_rho fg_R0 (a + 10) j = none) ∧ (∀ j, fg_mu0 (a + 11) j = 0) ∧ (∀ j, fg_rho fg_R0 (a + 11) j = none) ∧ (∀ j, fg_mu0 (a + 12) j = 0) ∧ (∀ j, fg_rho fg_R0 (a + 12) j = none) ∧ (∀ j, fg_mu0 (a + 13) j = 0) ∧ (∀ j, fg_rho fg_R0 (a + 13) j = none) ∧ (∀ j, fg_mu0 (a + 14) j = 0) ∧ (∀ j, fg_rho fg_R0 (a + 14) j = none) ∧ (∀ j, fg_mu0 (a + 15) j = 0) ∧ (∀ j, fg_rho fg_R0 (a + 15) j = none) ∧ (∀ j, fg_mu0 (a + 16) j = 0) ∧ (∀ j, fg_rho fg_R0 (a + 16) j = none)
theorem ev_Mo_init {E : fg_E} {d : Nat} {M : fg_M} {Q : Option Value → fg_M → Prop} {a : Nat} (hb : mk_Mo a) (hn : M.2.2 = a + 1) (h0 : ∀ j, M.1 a j = 0) (h1 : ∀ j, M.2.1 a j = none) (hQ : Q none (mk_bl M a (a + 17))) : fg_Ev E yy_Mo_init (d + 1) [.ref a] M (a + 17) Q := by
  refine fg_intro (by decide +kernel) (Nat.le_of_ble_eq_true rfl) (fg_okAs rfl) (by rw [hn]; omega) ?_
  refine fg_me (fg_pb0 hn h0 h1) ?_
  refine fg_aloadn (fg_ft (pc := 0) tb_Mo_init 0 rfl) rfl ?_
  refine fg_objInit (fg_ft (pc := 1) tb_Mo_init 1 rfl) fo_Mo_1 fo_1 fo_2 (Nat.le_of_ble_eq_true rfl) ?_
  refine fg_aloadn (fg_ft (pc := 4) tb_Mo_init 2 rfl) rfl ?_
  refine fg_sipush (fg_ft (pc := 5) tb_Mo_init 3 rfl) is_5120 ?_
  refine fg_newa (k := 0) (fg_ft (pc := 8) tb_Mo_init 4 rfl) rfl (by decide) fk_arrI rfl hb.2.1 (by show a + 1 < a + 17; omega) ?_
  refine fg_me (fg_pb5 (n := a + 1) (by omega)) ?_
  refine fg_putRF (fg_ft (pc := 10) tb_Mo_init 5 rfl) ff_Mo_7 hb.1 rfl (by show a < a + 2; omega) (fun _ _ h => by cases h; rfl) rfl (fun _ _ h => by cases h; rfl) ?_
  refine fg_me fg_pb2 ?_
  refine fg_aloadn (fg_ft (pc := 13) tb_Mo_init 6 rfl) rfl ?_
  refine fg_iconst (fg_ft (pc := 14) tb_Mo_init 7 rfl) ic_3 ?_
  refine fg_newa (k := 2) (fg_ft (pc := 15) tb_Mo_init 8 rfl) rfl (by decide) fk_arrZ rfl hb.2.2.1 (by show a + 2 < a + 17; omega) ?_
  refine fg_me (fg_pb4 (n := a + 2) (by omega) (by omega) hb.2.2.2.2.2.2.2.2.2.2.2.2.2.2.2.2.2.2.2.2.2.1 hb.2.2.2.2.2.2.2.2.2.2.2.2.2.2.2.2.2.2.2.2.2.2.1) ?_
  refine fg_putRF (fg_ft (pc := 17) tb_Mo_init 9 rfl) ff_Mo_13 hb.1 rfl (by show a < a + 3; omega) (fun _ _ h => by cases h; rfl) rfl (fun _ _ h => by cases h; rfl) ?_
  refine fg_me fg_pb2 ?_
  refine fg_aloadn (fg_ft (pc := 20) tb_Mo_init 10 rfl) rfl ?_
  refine fg_sipush (fg_ft (pc := 21) tb_Mo_init 11 rfl) is_152 ?_
  refine fg_newa (k := 0) (fg_ft (pc := 24) tb_Mo_init 12 rfl) rfl (by decide) fk_arrI rfl hb.2.2.2.1 (by show a + 3 < a + 17; omega) ?_
  refine fg_me (fg_pb4 (n := a + 3) (by omega) (by omega) hb.2.2.2.2.2.2.2.2.2.2.2.2.2.2.2.2.2.2.2.2.2.2.2.1 hb.2.2.2.2.2.2.2.2.2.2.2.2.2.2.2.2.2.2.2.2.2.2.2.2.1) ?_
  refine fg_putRF (fg_ft (pc := 26) tb_Mo_init 13 rfl) ff_Mo_17 hb.1 rfl (by show a < a + 4; omega) (fun _ _ h => by cases h; rfl) rfl (fun _ _ h => by cases h; rfl) ?_
  refine fg_me fg_pb2 ?_
  refine fg_aloadn (fg_ft (pc := 29) tb_Mo_init 14 rfl) rfl ?_
  refine fg_sipush (fg_ft (pc := 30) tb_Mo_init 15 rfl) is_1024 ?_
  refine fg_newa (k := 2) (fg_ft (pc := 33) tb_Mo_init 16 rfl) rfl (by decide) fk_arrZ rfl hb.2.2.2.2.1 (by show a + 4 < a + 17; omega) ?_
  refine fg_me (fg_pb4 (n := a + 4) (by omega) (by omega) hb.2.2.2.2.2.2.2.2.2.2.2.2.2.2.2.2.2.2.2.2.2.2.2.2.2.1 hb.2.2.2.2.2.2.2.2.2.2.2.2.2.2.2.2.2.2.2.2.2.2.2.2.2.2.1) ?_
  refine fg_putRF (fg_ft (pc := 35) tb_Mo_init 17 rfl) ff_Mo_20 hb.1 rfl (by show a < a + 5; omega) (fun _ _ h => by cases h; rfl) rfl (fun _ _ h => by cases h; rfl) ?_
  refine fg_me fg_pb2 ?_
  refine fg_aloadn (fg_ft (pc := 38) tb_Mo_init 18 rfl) rfl ?_
  refine fg_iconst (fg_ft (pc := 39) tb_Mo_init 19 rfl) ic_5 ?_
  refine fg_newa (k := 0) (fg_ft (pc := 40) tb_Mo_init 20 rfl) rfl (by decide) fk_arrI rfl hb.2.2.2.2.2.1 (by show a + 5 < a + 17; omega) ?_
  refine fg_me (fg_pb4 (n := a + 5) (by omega) (by omega) hb.2.2.2.2.2.2.2.2.2.2.2.2.2.2.2.2.2.2.2.2.2.2.2.2.2.2.2.1 hb.2.2.2.2.2.2.2.2.2.2.2.2.2.2.2.2.2.2.2.2.2.2.2.2.2.2.2.2.1) ?_
  refine fg_putRF (fg_ft (pc := 42) tb_Mo_init 21 rfl) ff_Mo_23 hb.1 rfl (by show a < a + 6; omega) (fun _ _ h => by cases h; rfl) rfl (fun _ _ h => by cases h; rfl) ?_
  refine fg_me fg_pb2 ?_
  refine fg_aloadn (fg_ft (pc := 45) tb_Mo_init 22 rfl) rfl ?_
  refine fg_iconst (fg_ft (pc := 46) tb_Mo_init 23 rfl) ic_5 ?_
  refine fg_newa (k := 0) (fg_ft (pc := 47) tb_Mo_init 24 rfl) rfl (by decide) fk_arrI rfl hb.2.2.2.2.2.2.1 (by show a + 6 < a + 17; omega) ?_
  refine fg_me (fg_pb4 (n := a + 6) (by omega) (by omega) hb.2.2.2.2.2.2.2.2.2.2.2.2.2.2.2.2.2.2.2.2.2.2.2.2.2.2.2.2.2.1 hb.2.2.2.2.2.2.2.2.2.2.2.2.2.2.2.2.2.2.2.2.2.2.2.2.2.2.2.2.2.2.1) ?_
  refine fg_putRF (fg_ft (pc := 49) tb_Mo_init 25 rfl) ff_Mo_26 hb.1 rfl (by show a < a + 7; omega) (fun _ _ h => by cases h; rfl) rfl (fun _ _ h => by cases h; rfl) ?_
  refine fg_me fg_pb2 ?_
  refine fg_aloadn (fg_ft (pc := 52) tb_Mo_init 26 rfl) rfl ?_
  refine fg_iconst (fg_ft (pc := 53) tb_Mo_init 27 rfl) ic_5 ?_
  refine fg_newa (k := 0) (fg_ft (pc := 54) tb_Mo_init 28 rfl) rfl (by decide) fk_arrI rfl hb.2.2.2.2.2.2.2.1 (by show a + 7 < a + 17; omega) ?_
  refine fg_me (fg_pb4 (n := a + 7) (by omega) (by omega) hb.2.2.2.2.2.2.2.2.2.2.2.2.2.2.2.2.2.2.2.2.2.2.2.2.2.2.2.2.2.2.2.1 hb.2.2.2.2.2.2.2.2.2.2.2.2.2.2.2.2.2.2.2.2.2.2.2.2.2.2.2.2.2.2.2.2.1) ?_
  refine fg_putRF (fg_ft (pc := 56) tb_Mo_init 29 rfl) ff_Mo_29 hb.1 rfl (by show a < a + 8; omega) (fun _ _ h => by cases h; rfl) rfl (fun _ _ h => by cases h; rfl) ?_
  refine fg_me fg_pb2 ?_
  refine fg_aloadn (fg_ft (pc := 59) tb_Mo_init 30 rfl) rfl ?_
  refine fg_iconst (fg_ft (pc := 60) tb_Mo_init 31 rfl) ic_m1 ?_
  refine fg_putI (fg_ft (pc := 61) tb_Mo_init 32 rfl) ff_Mo_32 hb.1 rfl (by show a < a + 8; omega) (fg_nokI _) (fun _ _ h => by cases h; rfl) ?_
  refine fg_me fg_pb1 ?_
  refine fg_aloadn (fg_ft (pc := 64) tb_Mo_init 33 rfl) rfl ?_
  refine fg_sipush (fg_ft (pc := 65) tb_Mo_init 34 rfl) is_1024 ?_
  refine fg_newa (k := 0) (fg_ft (pc := 68) tb_Mo_init 35 rfl) rfl (by decide) fk_arrI rfl hb.2.2.2.2.2.2.2.2.1 (by show a + 8 < a + 17; omega) ?_
  refine fg_me (fg_pb4 (n := a + 8) (by omega) (by omega) hb.2.2.2.2.2.2.2.2.2.2.2.2.2.2.2.2.2.2.2.2.2.2.2.2.2.2.2.2.2.2.2.2.2.1 hb.2.2.2.2.2.2.2.2.2.2.2.2.2.2.2.2.2.2.2.2.2.2.2.2.2.2.2.2.2.2.2.2.2.2.1) ?_
  refine fg_putRF (fg_ft (pc := 70) tb_Mo_init 36 rfl) ff_Mo_36 hb.1 rfl (by show a < a + 9; omega) (fun _ _ h => by cases h; rfl) rfl (fun _ _ h => by cases h; rfl) ?_
  refine fg_me fg_pb2 ?_
  refine fg_aloadn (fg_ft (pc := 73) tb_Mo_init 37 rfl) rfl ?_
  refine fg_sipush (fg_ft (pc := 74) tb_Mo_init 38 rfl) is_1024 ?_
  refine fg_newa (k := 0) (fg_ft (pc := 77) tb_Mo_init 39 rfl) rfl (by decide) fk_arrI rfl hb.2.2.2.2.2.2.2.2.2.1 (by show a + 9 < a + 17; omega) ?_
  refine fg_me (fg_pb4 (n := a + 9) (by omega) (by omega) hb.2.2.2.2.2.2.2.2.2.2.2.2.2.2.2.2.2.2.2.2.2.2.2.2.2.2.2.2.2.2.2.2.2.2.2.1 hb.2.2.2.2.2.2.2.2.2.2.2.2.2.2.2.2.2.2.2.2.2.2.2.2.2.2.2.2.2.2.2.2.2.2.2.2.1) ?_
  refine fg_putRF (fg_ft (pc := 79) tb_Mo_init 40 rfl) ff_Mo_39 hb.1 rfl (by show a < a + 10; omega) (fun _ _ h => by cases h; rfl) rfl (fun _ _ h => by cases h; rfl) ?_
  refine fg_me fg_pb2 ?_
  refine fg_aloadn (fg_ft (pc := 82) tb_Mo_init 41 rfl) rfl ?_
  refine fg_sipush (fg_ft (pc := 83) tb_Mo_init 42 rfl) is_1024 ?_
  refine fg_newa (k := 0) (fg_ft (pc := 86) tb_Mo_init 43 rfl) rfl (by decide) fk_arrI rfl hb.2.2.2.2.2.2.2.2.2.2.1 (by show a + 10 < a + 17; omega) ?_
  refine fg_me (fg_pb4 (n := a + 10) (by omega) (by omega) hb.2.2.2.2.2.2.2.2.2.2.2.2.2.2.2.2.2.2.2.2.2.2.2.2.2.2.2.2.2.2.2.2.2.2.2.2.2.1 hb.2.2.2.2.2.2.2.2.2.2.2.2.2.2.2.2.2.2.2.2.2.2.2.2.2.2.2.2.2.2.2.2.2.2.2.2.2.2.1) ?_
  refine fg_putRF (fg_ft (pc := 88) tb_Mo_init 44 rfl) ff_Mo_42 hb.1 rfl (by show a < a + 11; omega) (fun _ _ h => by cases h; rfl) rfl (fun _ _ h => by cases h; rfl) ?_
  refine fg_me fg_pb2 ?_
  refine fg_aloadn (fg_ft (pc := 91) tb_Mo_init 45 rfl) rfl ?_
  refine fg_sipush (fg_ft (pc := 92) tb_Mo_init 46 rfl) is_1024 ?_
  refine fg_newa (k := 0) (fg_ft (pc := 95) tb_Mo_init 47 rfl) rfl (by decide) fk_arrI rfl hb.2.2.2.2.2.2.2.2.2.2.2.1 (by show a + 11 < a + 17; omega) ?_
  refine fg_me (fg_pb4 (n := a + 11) (by omega) (by omega) hb.2.2.2.2.2.2.2.2.2.2.2.2.2.2.2.2.2.2.2.2.2.2.2.2.2.2.2.2.2.2.2.2.2.2.2.2.2.2.2.1 hb.2.2.2.2.2.2.2.2.2.2.2.2.2.2.2.2.2.2.2.2.2.2.2.2.2.2.2.2.2.2.2.2.2.2.2.2.2.2.2.2.1) ?_
  refine fg_putRF (fg_ft (pc := 97) tb_Mo_init 48 rfl) ff_Mo_45 hb.1 rfl (by show a < a + 12; omega) (fun _ _ h => by cases h; rfl) rfl (fun _ _ h => by cases h; rfl) ?_
  refine fg_me fg_pb2 ?_
  refine fg_aloadn (fg_ft (pc := 100) tb_Mo_init 49 rfl) rfl ?_
  refine fg_sipush (fg_ft (pc := 101) tb_Mo_init 50 rfl) is_1024 ?_
  refine fg_newa (k := 0) (fg_ft (pc := 104) tb_Mo_init 51 rfl) rfl (by decide) fk_arrI rfl hb.2.2.2.2.2.2.2.2.2.2.2.2.1 (by show a + 12 < a + 17; omega) ?_
  refine fg_me (fg_pb4 (n := a + 12) (by omega) (by omega) hb.2.2.2.2.2.2.2.2.2.2.2.2.2.2.2.2.2.2.2.2.2.2.2.2.2.2.2.2.2.2.2.2.2.2.2.2.2.2.2.2.2.1 hb.2.2.2.2.2.2.2.2.2.2.2.2.2.2.2.2.2.2.2.2.2.2.2.2.2.2.2.2.2.2.2.2.2.2.2.2.2.2.2.2.2.2.1) ?_
  refine fg_putRF (fg_ft (pc := 106) tb_Mo_init 52 rfl) ff_Mo_48 hb.1 rfl (by show a < a + 13; omega) (fun _ _ h => by cases h; rfl) rfl (fun _ _ h => by cases h; rfl) ?_
  refine fg_me fg_pb2 ?_
  refine fg_aloadn (fg_ft (pc := 109) tb_Mo_init 53 rfl) rfl ?_
  refine fg_iconst (fg_ft (pc := 110) tb_Mo_init 54 rfl) ic_5 ?_
  refine fg_newa (k := 0) (fg_ft (pc := 111) tb_Mo_init 55 rfl) rfl (by decide) fk_arrI rfl hb.2.2.2.2.2.2.2.2.2.2.2.2.2.1 (by show a + 13 < a + 17; omega) ?_
  refine fg_me (fg_pb4 (n := a + 13) (by omega) (by omega) hb.2.2.2.2.2.2.2.2.2.2.2.2.2.2.2.2.2.2.2.2.2.2.2.2.2.2.2.2.2.2.2.2.2.2.2.2.2.2.2.2.2.2.2.1 hb.2.2.2.2.2.2.2.2.2.2.2.2.2.2.2.2.2.2.2.2.2.2.2.2.2.2.2.2.2.2.2.2.2.2.2.2.2.2.2.2.2.2.2.2.1) ?_
  refine fg_putRF (fg_ft (pc := 113) tb_Mo_init 56 rfl) ff_Mo_51 hb.1 rfl (by show a < a + 14; omega) (fun _ _ h => by cases h; rfl) rfl (fun _ _ h => by cases h; rfl) ?_
  refine fg_me fg_pb2 ?_
  refine fg_aloadn (fg_ft (pc := 116) tb_Mo_init 57 rfl) rfl ?_
  refine fg_iconst (fg_ft (pc := 117) tb_Mo_init 58 rfl) ic_5 ?_
  refine fg_newa (k := 0) (fg_ft (pc := 118) tb_Mo_init 59 rfl) rfl (by decide) fk_arrI rfl hb.2.2.2.2.2.2.2.2.2.2.2.2.2.2.1 (by show a + 14 < a + 17; omega) ?_
  refine fg_me (fg_pb4 (n := a + 14) (by omega) (by omega) hb.2.2.2.2.2.2.2.2.2.2.2.2.2.2.2.2.2.2.2.2.2.2.2.2.2.2.2.2.2.2.2.2.2.2.2.2.2.2.2.2.2.2.2.2.2.1 hb.2.2.2.2.2.2.2.2.2.2.2.2.2.2.2.2.2.2.2.2.2.2.2.2.2.2.2.2.2.2.2.2.2.2.2.2.2.2.2.2.2.2.2.2.2.2.1) ?_
  refine fg_putRF (fg_ft (pc := 120) tb_Mo_init 60 rfl) ff_Mo_54 hb.1 rfl (by show a < a + 15; omega) (fun _ _ h => by cases h; rfl) rfl (fun _ _ h => by cases h; rfl) ?_
  refine fg_me fg_pb2 ?_
  refine fg_aloadn (fg_ft (pc := 123) tb_Mo_init 61 rfl) rfl ?_
  refine fg_iconst (fg_ft (pc := 124) tb_Mo_init 62 rfl) ic_5 ?_
  refine fg_newa (k := 0) (fg_ft (pc := 125) tb_Mo_init 63 rfl) rfl (by decide) fk_arrI rfl hb.2.2.2.2.2.2.2.2.2.2.2.2.2.2.2.1 (by show a + 15 < a + 17; omega) ?_
  refine fg_me (fg_pb4 (n := a + 15) (by omega) (by omega) hb.2.2.2.2.2.2.2.2.2.2.2.2.2.2.2.2.2.2.2.2.2.2.2.2.2.2.2.2.2.2.2.2.2.2.2.2.2.2.2.2.2.2.2.2.2.2.2.1 hb.2.2.2.2.2.2.2.2.2.2.2.2.2.2.2.2.2.2.2.2.2.2.2.2.2.2.2.2.2.2.2.2.2.2.2.2.2.2.2.2.2.2.2.2.2.2.2.2.1) ?_
  refine fg_putRF (fg_ft (pc := 127) tb_Mo_init 64 rfl) ff_Mo_57 hb.1 rfl (by show a < a + 16; omega) (fun _ _ h => by cases h; rfl) rfl (fun _ _ h => by cases h; rfl) ?_
  refine fg_me fg_pb2 ?_
  refine fg_aloadn (fg_ft (pc := 130) tb_Mo_init 65 rfl) rfl ?_
  refine fg_iconst (fg_ft (pc := 131) tb_Mo_init 66 rfl) ic_5 ?_
  refine fg_newa (k := 0) (fg_ft (pc := 132) tb_Mo_init 67 rfl) rfl (by decide) fk_arrI rfl hb.2.2.2.2.2.2.2.2.2.2.2.2.2.2.2.2.1 (by show a + 16 < a + 17; omega) ?_
  refine fg_me (fg_pb4 (n := a + 16) (by omega) (by omega) hb.2.2.2.2.2.2.2.2.2.2.2.2.2.2.2.2.2.2.2.2.2.2.2.2.2.2.2.2.2.2.2.2.2.2.2.2.2.2.2.2.2.2.2.2.2.2.2.2.2.1 hb.2.2.2.2.2.2.2.2.2.2.2.2.2.2.2.2.2.2.2.2.2.2.2.2.2.2.2.2.2.2.2.2.2.2.2.2.2.2.2.2.2.2.2.2.2.2.2.2.2.2) ?_
  refine fg_putRF (fg_ft (pc := 134) tb_Mo_init 68 rfl) ff_Mo_60 hb.1 rfl (by show a < a + 17; omega) (fun _ _ h => by cases h; rfl) rfl (fun _ _ h => by cases h; rfl) ?_
  refine fg_me fg_pb2 ?_
  refine fg_aloadn (fg_ft (pc := 137) tb_Mo_init 69 rfl) rfl ?_
  refine fg_getR (b := a + 1) (fg_ft (pc := 138) tb_Mo_init 70 rfl) ff_Mo_7 hb.1 rfl (by show a < a + 17; omega) (by rw [fg_pbr]; rfl) ?_
  refine fg_iconst (fg_ft (pc := 141) tb_Mo_init 71 rfl) ic_4 ?_
  refine fg_iconst (fg_ft (pc := 142) tb_Mo_init 72 rfl) ic_m1 ?_
  refine fg_iastN (i := 4) (fg_ft (pc := 143) tb_Mo_init 73 rfl) hb.2.1 (by show a + 1 < a + 17; omega) (by decide) ?_
  refine fg_me (fg_pb3i (by omega)) ?_
  refine fg_me (fg_pb7 (by omega) (by omega) hb.2.2.2.2.2.2.2.2.2.2.2.2.2.2.2.2.2.2.2.1 (fun j => (hb.2.2.2.2.2.2.2.2.2.2.2.2.2.2.2.2.2.2.2.2.1 j).symm)) ?_
  refine fg_me (fg_pb8 (by omega) hb.2.2.2.2.2.2.2.2.2.2.2.2.2.2.2.2.2.1 hb.2.2.2.2.2.2.2.2.2.2.2.2.2.2.2.2.2.2.1) ?_
  exact fg_vret (fg_ft (pc := 144) tb_Mo_init 74 rfl) rfl rfl hQ
theorem mk_Rows_133 : mk_Rows 133 30 4 := ⟨ly_133, ly_134, (fun j => match j with | 0 => rfl | _ + 1 => rfl), (fun j => match j with | 0 => rfl | 1 => rfl | _ + 2 => rfl), (fun _ => rfl), (fun _ => rfl)⟩
theorem mk_Rows_135 : mk_Rows 135 30 4 := ⟨ly_135, ly_136, (fun j => match j with | 0 => rfl | _ + 1 => rfl), (fun j => match j with | 0 => rfl | 1 => rfl | _ + 2 => rfl), (fun _ => rfl), (fun _ => rfl)⟩
theorem mk_Rows_137 : mk_Rows 137 30 4 := ⟨ly_137, ly_138, (fun j => match j with | 0 => rfl | _ + 1 => rfl), (fun j => match j with | 0 => rfl | 1 => rfl | _ + 2 => rfl), (fun _ => rfl), (fun _ => rfl)⟩
theorem mk_Told_101 : mk_Told 101 := ⟨ly_101, ly_102, ly_103, ly_132, (fun j => match j with | 0 => rfl | 1 => rfl | 2 => rfl | 3 => rfl | _ + 4 => rfl), (fun j => match j with | 0 => rfl | 1 => rfl | 2 => rfl | 3 => rfl | 4 => rfl | 5 => rfl | 6 => rfl | 7 => rfl | _ + 8 => rfl), (fun _ => rfl), (fun _ => rfl), (fun _ => rfl), (fun j => match j with | 0 => rfl | 1 => rfl | _ + 2 => rfl), (fun _ => rfl), (fun j => match j with | 0 => rfl | 1 => rfl | 2 => rfl | _ + 3 => rfl), mk_Town_104, mk_Town_118, mk_Rows_133, mk_Rows_135, mk_Rows_137⟩
theorem mk_Rows_172 : mk_Rows 172 30 4 := ⟨ly_172, ly_173, (fun j => match j with | 0 => rfl | _ + 1 => rfl), (fun j => match j with | 0 => rfl | 1 => rfl | _ + 2 => rfl), (fun _ => rfl), (fun _ => rfl)⟩
theorem mk_Rows_174 : mk_Rows 174 30 4 := ⟨ly_174, ly_175, (fun j => match j with | 0 => rfl | _ + 1 => rfl), (fun j => match j with | 0 => rfl | 1 => rfl | _ + 2 => rfl), (fun _ => rfl), (fun _ => rfl)⟩
theorem mk_Rows_176 : mk_Rows 176 30 4 := ⟨ly_176, ly_177, (fun j => match j with | 0 => rfl | _ + 1 => rfl), (fun j => match j with | 0 => rfl | 1 => rfl | _ + 2 => rfl), (fun _ => rfl), (fun _ => rfl)⟩
theorem mk_Told_140 : mk_Told 140 := ⟨ly_140, ly_141, ly_142, ly_171, (fun j => match j with | 0 => rfl | 1 => rfl | 2 => rfl | 3 => rfl | _ + 4 => rfl), (fun j => match j with | 0 => rfl | 1 => rfl | 2 => rfl | 3 => rfl | 4 => rfl | 5 => rfl | 6 => rfl | 7 => rfl | _ + 8 => rfl), (fun _ => rfl), (fun _ => rfl), (fun _ => rfl), (fun j => match j with | 0 => rfl | 1 => rfl | _ + 2 => rfl), (fun _ => rfl), (fun j => match j with | 0 => rfl | 1 => rfl | 2 => rfl | _ + 3 => rfl), mk_Town_143, mk_Town_157, mk_Rows_172, mk_Rows_174, mk_Rows_176⟩
theorem mk_Rows_210 : mk_Rows 210 30 4 := ⟨ly_210, ly_211, (fun j => match j with | 0 => rfl | _ + 1 => rfl), (fun j => match j with | 0 => rfl | 1 => rfl | _ + 2 => rfl), (fun _ => rfl), (fun _ => rfl)⟩
theorem mk_Rows_212 : mk_Rows 212 30 4 := ⟨ly_212, ly_213, (fun j => match j with | 0 => rfl | _ + 1 => rfl), (fun j => match j with | 0 => rfl | 1 => rfl | _ + 2 => rfl), (fun _ => rfl), (fun _ => rfl)⟩
theorem mk_Rows_214 : mk_Rows 214 30 4 := ⟨ly_214, ly_215, (fun j => match j with | 0 => rfl | _ + 1 => rfl), (fun j => match j with | 0 => rfl | 1 => rfl | _ + 2 => rfl), (fun _ => rfl), (fun _ => rfl)⟩
theorem mk_Told_178 : mk_Told 178 := ⟨ly_178, ly_179, ly_180, ly_209, (fun j => match j with | 0 => rfl | 1 => rfl | 2 => rfl | 3 => rfl | _ + 4 => rfl), (fun j => match j with | 0 => rfl | 1 => rfl | 2 => rfl | 3 => rfl | 4 => rfl | 5 => rfl | 6 => rfl | 7 => rfl | _ + 8 => rfl), (fun _ => rfl), (fun _ => rfl), (fun _ => rfl), (fun j => match j with | 0 => rfl | 1 => rfl | _ + 2 => rfl), (fun _ => rfl), (fun j => match j with | 0 => rfl | 1 => rfl | 2 => rfl | _ + 3 => rfl), mk_Town_181, mk_Town_195, mk_Rows_210, mk_Rows_212, mk_Rows_214⟩
theorem mk_Rows_248 : mk_Rows 248 30 4 := ⟨ly_248, ly_249, (fun j => match j with | 0 => rfl | _ + 1 => rfl), (fun j => match j with | 0 => rfl | 1 => rfl | _ + 2 => rfl), (fun _ => rfl), (fun _ => rfl)⟩
theorem mk_Rows_250 : mk_Rows 250 30 4 := ⟨ly_250, ly_251, (fun j => match j with | 0 => rfl | _ + 1 => rfl), (fun j => match j with | 0 => rfl | 1 => rfl | _ + 2 => rfl), (fun _ => rfl), (fun _ => rfl)⟩
theorem mk_Rows_252 : mk_Rows 252 30 4 := ⟨ly_252, ly_253, (fun j => match j with | 0 => rfl | _ + 1 => rfl), (fun j => match j with | 0 => rfl | 1 => rfl | _ + 2 => rfl), (fun _ => rfl), (fun _ => rfl)⟩
theorem mk_Told_216 : mk_Told 216 := ⟨ly_216, ly_217, ly_218, ly_247, (fun j => match j with | 0 => rfl | 1 => rfl | 2 => rfl | 3 => rfl | _ + 4 => rfl), (fun j => match j with | 0 => rfl | 1 => rfl | 2 => rfl | 3 => rfl | 4 => rfl | 5 => rfl | 6 => rfl | 7 => rfl | _ + 8 => rfl), (fun _ => rfl), (fun _ => rfl), (fun _ => rfl), (fun j => match j with | 0 => rfl | 1 => rfl | _ + 2 => rfl), (fun _ => rfl), (fun j => match j with | 0 => rfl | 1 => rfl | 2 => rfl | _ + 3 => rfl), mk_Town_219, mk_Town_233, mk_Rows_248, mk_Rows_250, mk_Rows_252⟩
theorem mk_Folk_273 : mk_Folk 273 := ⟨ly_273, ly_274, ly_275, ly_276, (fun j => match j with | 0 => rfl | 1 => rfl | 2 => rfl | 3 => rfl | 4 => rfl | 5 => rfl | 6 => rfl | _ + 7 => rfl), (fun j => match j with | 0 => rfl | 1 => rfl | 2 => rfl | 3 => rfl | 4 => rfl | 5 => rfl | _ + 6 => rfl), (fun _ => rfl), (fun _ => rfl), (fun _ => rfl), (fun _ => rfl), (fun _ => rfl), (fun _ => rfl)⟩
theorem mk_Folk_277 : mk_Folk 277 := ⟨ly_277, ly_278, ly_279, ly_280, (fun j => match j with | 0 => rfl | 1 => rfl | 2 => rfl | 3 => rfl | 4 => rfl | 5 => rfl | 6 => rfl | _ + 7 => rfl), (fun j => match j with | 0 => rfl | 1 => rfl | 2 => rfl | 3 => rfl | 4 => rfl | 5 => rfl | _ + 6 => rfl), (fun _ => rfl), (fun _ => rfl), (fun _ => rfl), (fun _ => rfl), (fun _ => rfl), (fun _ => rfl)⟩
theorem mk_Search_281 : mk_Search 281 := ⟨ly_281, ly_282, ly_283, ly_284, ly_285, (fun _ => rfl), (fun j => match j with | 0 => rfl | 1 => rfl | 2 => rfl | 3 => rfl | 4 => rfl | _ + 5 => rfl), (fun _ => rfl), (fun _ => rfl), (fun _ => rfl), (fun _ => rfl), (fun _ => rfl), (fun _ => rfl), (fun _ => rfl), (fun _ => rfl)⟩
theorem mk_Mo_287 : mk_Mo 287 := ⟨ly_287, ly_288, ly_289, ly_290, ly_291, ly_292, ly_293, ly_294, ly_295, ly_296, ly_297, ly_298, ly_299, ly_300, ly_301, ly_302, ly_303, (fun j => match j with | 0 => rfl | 1 => rfl | 2 => rfl | 3 => rfl | 4 => rfl | 5 => rfl | 6 => rfl | 7 => rfl | 8 => rfl | 9 => rfl | 10 => rfl | 11 => rfl | 12 => rfl | 13 => rfl | 14 => rfl | 15 => rfl | 16 => rfl | 17 => rfl | _ + 18 => rfl), (fun j => match j with | 0 => rfl | 1 => rfl | 2 => rfl | 3 => rfl | 4 => rfl | 5 => rfl | 6 => rfl | 7 => rfl | 8 => rfl | 9 => rfl | 10 => rfl | 11 => rfl | 12 => rfl | 13 => rfl | 14 => rfl | 15 => rfl | 16 => rfl | 17 => rfl | 18 => rfl | 19 => rfl | 20 => rfl | 21 => rfl | 22 => rfl | 23 => rfl | 24 => rfl | 25 => rfl | 26 => rfl | 27 => rfl | 28 => rfl | 29 => rfl | 30 => rfl | _ + 31 => rfl), (fun j => match j with | 0 => rfl | 1 => rfl | 2 => rfl | 3 => rfl | 4 => rfl | _ + 5 => rfl), (fun _ => rfl), (fun _ => rfl), (fun _ => rfl), (fun _ => rfl), (fun _ => rfl), (fun _ => rfl), (fun _ => rfl), (fun _ => rfl), (fun _ => rfl), (fun _ => rfl), (fun _ => rfl), (fun _ => rfl), (fun _ => rfl), (fun _ => rfl), (fun _ => rfl), (fun _ => rfl), (fun _ => rfl), (fun _ => rfl), (fun _ => rfl), (fun _ => rfl), (fun _ => rfl), (fun _ => rfl), (fun _ => rfl), (fun _ => rfl), (fun _ => rfl), (fun _ => rfl), (fun _ => rfl), (fun _ => rfl), (fun _ => rfl), (fun _ => rfl), (fun _ => rfl)⟩
