/-! strings' characters -/
section
variable {E : fg_E} {Y : fg_Y} {d n0 n1 pc : Nat} {Q : Option Value → fg_M → Prop} {L st : List Value} {M : fg_M}
theorem fg_ctb {v i : Nat} {l : List Nat} (hd : decode Y.2.1 pc = .ok (.baload, 1)) (hq : (v, l.map nI) ∈ fg_carr) (hi : i < l.length) (hl : l.length < 2 ^ 31) (k : fg_wp E Y d n0 n1 Q (pc + 1) L (.int (nI (l.getD i 0)) :: st) M) : fg_wp E Y d n0 n1 Q pc L (.int (nI i) :: .ref v :: st) M := by
  intro p e s m args below meth c C H locs ls hH hS h0 h1 hlo hz
  obtain ⟨hx, hb, hr, hlk, hml, hown, hts, hU, hK, hbs, h100, hnm⟩ := id C
  have hT := hK.2.2.2.1 _ hq
  have hi' : i < (l.map nI).length := by rw [List.length_map]; exact hi
  refine va_tb (v := .int (nI (l.getD i 0))) hx hb hT hS (vp_in_nI hi' (by rw [List.length_map]; exact hl)) ?_ hd (k p e s m args below meth c C H locs ls hH hS h0 h1 hlo hz)
  show Value.int ((l.map nI).getD (nI i).toNatClampNeg 0) = _
  rw [nI_clamp (by omega), List.getD_eq_getElem?_getD, List.getD_eq_getElem?_getD, List.getElem?_map, List.getElem?_eq_getElem hi]
  rfl
theorem fg_ctl {v : Nat} {l : List Nat} (hd : decode Y.2.1 pc = .ok (.arraylength, 1)) (hq : (v, l.map nI) ∈ fg_carr) (k : fg_wp E Y d n0 n1 Q (pc + 1) L (.int (nI l.length) :: st) M) : fg_wp E Y d n0 n1 Q pc L (.ref v :: st) M := by
  intro p e s m args below meth c C H locs ls hH hS h0 h1 hlo hz
  obtain ⟨hx, hb, hr, hlk, hml, hown, hts, hU, hK, hbs, h100, hnm⟩ := id C
  have hT := hK.2.2.2.1 _ hq
  exact va_tlen (v := nI l.length) hx hb hT hS (by show nI (l.map nI).length = _; rw [List.length_map]) hd (k p e s m args below meth c C H locs ls hH hS h0 h1 hlo hz)
theorem fg_i2cN {q : Nat} (hd : decode Y.2.1 pc = .ok (.i2c, 1)) (hq : q < 65536) (k : fg_wp E Y d n0 n1 Q (pc + 1) L (.int (nI q) :: st) M) : fg_wp E Y d n0 n1 Q pc L (.int (nI q) :: st) M := by
  refine fg_i2c hd ?_
  have e : ((nI q).toUInt32 % 65536).toInt32 = nI q := by
    rw [pk_char, pk_tn (by omega), Nat.mod_eq_of_lt hq]
  rw [e]; exact k
end
def yy_Str_checkIndex : fg_Y := (⟨"java/lang/String", "checkIndex", "(II)V"⟩, prog_15_method_155_code, 2, (none : Option FieldType))
def it_Str_checkIndex : List (Nat × Instr × Nat) := [(0, .iload_n 0, 1), (1, .iload_n 1, 1), (2, .getstatic 1053, 3), (5, .invokestatic 1059, 3), (8, .pop, 1), (9, .return_, 1)]
theorem tb_Str_checkIndex : fg_tab prog_15_method_155_code it_Str_checkIndex := fg_tabOf (by decide +kernel)
def yy_Pre_checkIndex : fg_Y := (⟨"jdk/internal/util/Preconditions", "checkIndex", "(IILjava/util/function/BiFunction;)I"⟩, prog_20_method_11_code, 3, (some FieldType.int))
def it_Pre_checkIndex : List (Nat × Instr × Nat) := [(0, .iload_n 0, 1), (1, .ifCond .lt 8, 3), (4, .iload_n 0, 1), (5, .iload_n 1, 1), (6, .if_icmp .lt 10, 3), (9, .aload_n 2, 1), (10, .iload_n 0, 1), (11, .iload_n 1, 1), (12, .invokestatic 95, 3), (15, .athrow, 1), (16, .iload_n 0, 1), (17, .ireturn, 1)]
theorem tb_Pre_checkIndex : fg_tab prog_20_method_11_code it_Pre_checkIndex := fg_tabOf (by decide +kernel)
theorem cw_Str_checkIndex : fg_cW yy_Str_checkIndex 2 := ⟨fg_tblIn 506 (by decide +kernel) (by decide +kernel), fg_tblIn 102 (by decide +kernel) (by decide +kernel), by decide +kernel, by decide⟩
theorem cf_Lat_9 : fg_cS "java/lang/StringLatin1" 9 yy_Str_checkIndex 2 := ⟨cw_Str_checkIndex, fg_tblIn 504 (by decide +kernel) (by decide +kernel), fg_tblIn 505 (by decide +kernel) (by decide +kernel)⟩
theorem cw_Pre_checkIndex : fg_cW yy_Pre_checkIndex 3 := ⟨fg_tblIn 511 (by decide +kernel) (by decide +kernel), fg_tblIn 104 (by decide +kernel) (by decide +kernel), by decide +kernel, by decide⟩
theorem cf_Str_1059 : fg_cS "java/lang/String" 1059 yy_Pre_checkIndex 3 := ⟨cw_Pre_checkIndex, fg_tblIn 509 (by decide +kernel) (by decide +kernel), fg_tblIn 510 (by decide +kernel) (by decide +kernel)⟩
theorem fg_getsq {E : fg_E} {Y : fg_Y} {d n0 n1 : Nat} {Q : Option Value → fg_M → Prop} {pc : Nat} {L st : List Value} {M : fg_M} {index : Nat} (hd : decode Y.2.1 pc = .ok (.getstatic index, 3)) (hw : Cond.fieldLink Y.1.cls index "jdk/internal/util/Preconditions" "SIOOBE_FORMATTER" "Ljava/util/function/BiFunction;" ∈ fg_tbl) (k0 : fg_wp E Y d n0 n1 Q (pc + 3) L (.null :: st) M) (k1 : fg_wp E Y d n0 n1 Q (pc + 3) L (.ref 97 :: st) M) : fg_wp E Y d n0 n1 Q pc L st M := by
  intro p e s m args below meth c C H locs ls hH hS h0 h1 hl hz
  obtain ⟨hx, hb, hr, hlk, hml, hown, hts, hU, hK, hbs, h100, hnm⟩ := id C
  rcases hK.2.2.2.2.1.2 with hZ | hZ
  · exact va_gets hx hb hZ hS hown (hts _ (fg_in hw)) (fun _ h9 => h9) hd (k0 p e s m args below meth c C H locs ls hH hS h0 h1 hl hz)
  · exact va_gets hx hb hZ hS hown (hts _ (fg_in hw)) (fun _ h9 => h9) hd (k1 p e s m args below meth c C H locs ls hH hS h0 h1 hl hz)
theorem ev_Pre_checkIndex {E : fg_E} {d : Nat} {μ : Nat → Nat → Int32} {R : fg_T4} {Q : Option Value → fg_M → Prop} {i n : Nat} (hi : i < n) (hn : n < 2 ^ 31) (hQ : Q (some (.int (nI i))) (μ, fg_rho R, 304)) : fg_Ev E yy_Pre_checkIndex (d + 1) [.int (nI i), .int (nI n), .ref 97] (μ, fg_rho R, 304) 304 Q := by
  refine fg_intro (by decide +kernel) (Nat.le_of_ble_eq_true rfl) (fg_okAs rfl) (Nat.le_refl _) ?_
  refine fg_iloadn (fg_ft (pc := 0) tb_Pre_checkIndex 0 rfl) rfl ?_
  refine fg_if_ltN (tgt := 9) (fg_ft (pc := 1) tb_Pre_checkIndex 1 rfl) (by decide) (by omega) ?_
  refine fg_iloadn (fg_ft (pc := 4) tb_Pre_checkIndex 2 rfl) rfl ?_
  refine fg_iloadn (fg_ft (pc := 5) tb_Pre_checkIndex 3 rfl) rfl ?_
  refine fg_icmp_ltN (tgt := 16) (fg_ft (pc := 6) tb_Pre_checkIndex 4 rfl) (by decide) (by omega) (by omega) (fun c6 => ?_) (fun c6 => (absurd hi (Nat.not_lt.mpr c6)))
  refine fg_iloadn (fg_ft (pc := 16) tb_Pre_checkIndex 10 rfl) rfl ?_
  exact fg_iret (fg_ft (pc := 17) tb_Pre_checkIndex 11 rfl) rfl rfl (hQ)
theorem ev_Pre_checkIndexN {E : fg_E} {d : Nat} {μ : Nat → Nat → Int32} {R : fg_T4} {Q : Option Value → fg_M → Prop} {i n : Nat} (hi : i < n) (hn : n < 2 ^ 31) (hQ : Q (some (.int (nI i))) (μ, fg_rho R, 304)) : fg_Ev E yy_Pre_checkIndex (d + 1) [.int (nI i), .int (nI n), .null] (μ, fg_rho R, 304) 304 Q := by
  refine fg_intro (by decide +kernel) (Nat.le_of_ble_eq_true rfl) (fg_okAs rfl) (Nat.le_refl _) ?_
  refine fg_iloadn (fg_ft (pc := 0) tb_Pre_checkIndex 0 rfl) rfl ?_
  refine fg_if_ltN (tgt := 9) (fg_ft (pc := 1) tb_Pre_checkIndex 1 rfl) (by decide) (by omega) ?_
  refine fg_iloadn (fg_ft (pc := 4) tb_Pre_checkIndex 2 rfl) rfl ?_
  refine fg_iloadn (fg_ft (pc := 5) tb_Pre_checkIndex 3 rfl) rfl ?_
  refine fg_icmp_ltN (tgt := 16) (fg_ft (pc := 6) tb_Pre_checkIndex 4 rfl) (by decide) (by omega) (by omega) (fun c6 => ?_) (fun c6 => (absurd hi (Nat.not_lt.mpr c6)))
  refine fg_iloadn (fg_ft (pc := 16) tb_Pre_checkIndex 10 rfl) rfl ?_
  exact fg_iret (fg_ft (pc := 17) tb_Pre_checkIndex 11 rfl) rfl rfl (hQ)
theorem ev_Str_checkIndex {E : fg_E} {d : Nat} {μ : Nat → Nat → Int32} {R : fg_T4} {Q : Option Value → fg_M → Prop} {i n : Nat} (hi : i < n) (hn : n < 2 ^ 31) (hQ : Q none (μ, fg_rho R, 304)) : fg_Ev E yy_Str_checkIndex (d + 2) [.int (nI i), .int (nI n)] (μ, fg_rho R, 304) 304 Q := by
  refine fg_intro (by decide +kernel) (Nat.le_of_ble_eq_true rfl) (fg_okAs rfl) (Nat.le_refl _) ?_
  refine fg_iloadn (fg_ft (pc := 0) tb_Str_checkIndex 0 rfl) rfl ?_
  refine fg_iloadn (fg_ft (pc := 1) tb_Str_checkIndex 1 rfl) rfl ?_
  refine fg_getsq (fg_ft (pc := 2) tb_Str_checkIndex 2 rfl) (fg_tblIn 507 (by decide +kernel) (by decide +kernel)) ?_ ?_
  · refine fg_callS (fg_ft (pc := 5) tb_Str_checkIndex 3 rfl) cf_Str_1059 (as := [.int (nI i), .int (nI n), .null]) (st := []) rfl rfl (Nat.le_of_ble_eq_true rfl) (Nat.le_refl _) (Nat.le_refl _) (ev_Pre_checkIndexN (i := i) (n := n) hi hn ?_)
    refine fg_pop (fg_ft (pc := 8) tb_Str_checkIndex 4 rfl) rfl ?_
    exact fg_vret (fg_ft (pc := 9) tb_Str_checkIndex 5 rfl) rfl rfl (hQ)
  · refine fg_callS (fg_ft (pc := 5) tb_Str_checkIndex 3 rfl) cf_Str_1059 (as := [.int (nI i), .int (nI n), .ref 97]) (st := []) rfl rfl (Nat.le_of_ble_eq_true rfl) (Nat.le_refl _) (Nat.le_refl _) (ev_Pre_checkIndex (i := i) (n := n) hi hn ?_)
    refine fg_pop (fg_ft (pc := 8) tb_Str_checkIndex 4 rfl) rfl ?_
    exact fg_vret (fg_ft (pc := 9) tb_Str_checkIndex 5 rfl) rfl rfl (hQ)
/-- a string of those that stand: its object, the object of its bytes, its characters -/
def pz_str (a v : Nat) (l : List Nat) : Prop := fg_KF "java/lang/String" 9 a (.ref v) ∧ fg_KF "java/lang/String" 15 a (.int (nI 0)) ∧ (v, l.map nI) ∈ fg_carr ∧ (a, "java/lang/String") ∈ fg_objs ∧ l.length < 2 ^ 16 ∧ ∀ i, i < l.length → 0 < l.getD i 0 ∧ l.getD i 0 < 128
theorem ev_Lat_charAt {E : fg_E} {d : Nat} {μ : Nat → Nat → Int32} {R : fg_T4} {Q : Option Value → fg_M → Prop} {a v : Nat} {l : List Nat} (hs : pz_str a v l) {i : Nat} (hi : i < l.length) (hQ : Q (some (.int (nI (l.getD i 0)))) (μ, fg_rho R, 304)) : fg_Ev E yy_Lat_charAt (d + 3) [.ref v, .int (nI i)] (μ, fg_rho R, 304) 304 Q := by
  have hlc := hs.2.2.2.2.2 i hi
  have h255 : l.getD i 0 &&& 255 = l.getD i 0 := by rw [show (255 : Nat) = 2 ^ 8 - 1 from rfl, Nat.and_two_pow_sub_one_eq_mod]; exact Nat.mod_eq_of_lt (by omega)
  refine fg_intro (by decide +kernel) (Nat.le_of_ble_eq_true rfl) (fg_okAs rfl) (Nat.le_refl _) ?_
  refine fg_iloadn (fg_ft (pc := 0) tb_Lat_charAt 0 rfl) rfl ?_
  refine fg_aloadn (fg_ft (pc := 1) tb_Lat_charAt 1 rfl) rfl ?_
  refine fg_ctl (fg_ft (pc := 2) tb_Lat_charAt 2 rfl) hs.2.2.1 ?_
  refine fg_callS (fg_ft (pc := 3) tb_Lat_charAt 3 rfl) cf_Lat_9 (as := [.int (nI i), .int (nI (l.length))]) (st := []) rfl rfl (Nat.le_of_ble_eq_true rfl) (Nat.le_refl _) (Nat.le_refl _) (ev_Str_checkIndex (i := i) (n := l.length) hi (by have := hs.2.2.2.2.1; omega) ?_)
  refine fg_aloadn (fg_ft (pc := 6) tb_Lat_charAt 4 rfl) rfl ?_
  refine fg_iloadn (fg_ft (pc := 7) tb_Lat_charAt 5 rfl) rfl ?_
  refine fg_ctb (fg_ft (pc := 8) tb_Lat_charAt 6 rfl) hs.2.2.1 (hi) (by have := hs.2.2.2.2.1; omega) ?_
  refine fg_sipush (fg_ft (pc := 9) tb_Lat_charAt 7 rfl) is_255 ?_
  refine fg_iandN (fg_ft (pc := 12) tb_Lat_charAt 8 rfl) ?_
  refine fg_i2cN (fg_ft (pc := 13) tb_Lat_charAt 9 rfl) (by rw [h255]; omega) ?_
  exact fg_zret (fg_ft (pc := 14) tb_Lat_charAt 10 rfl) rfl ((pk_charN (by rw [h255]; omega)).1) rfl (by rw [h255]; exact hQ)
theorem ev_Str_isLatin1 {E : fg_E} {d : Nat} {μ : Nat → Nat → Int32} {R : fg_T4} {Q : Option Value → fg_M → Prop} {a v : Nat} {l : List Nat} (hs : pz_str a v l) (hQ : Q (some (.int (nI 1))) (μ, fg_rho R, 304)) : fg_Ev E yy_Str_isLatin1 (d + 1) [.ref a] (μ, fg_rho R, 304) 304 Q := by
  refine fg_intro (by decide +kernel) (Nat.le_of_ble_eq_true rfl) (fg_okAs rfl) (Nat.le_refl _) ?_
  refine fg_gets (fg_ft (pc := 0) tb_Str_isLatin1 0 rfl) fs_Str_38 ?_
  refine fg_if_eq (tgt := 17) (fg_ft (pc := 3) tb_Str_isLatin1 1 rfl) (by decide) (fun h => absurd h (by decide)) (fun _ => ?_)
  refine fg_aloadn (fg_ft (pc := 6) tb_Str_isLatin1 2 rfl) rfl ?_
  refine fg_getK (fg_ft (pc := 7) tb_Str_isLatin1 3 rfl) hs.2.1 ?_
  refine fg_if_ne (tgt := 17) (fg_ft (pc := 10) tb_Str_isLatin1 4 rfl) (by decide) (fun h => absurd h (by decide)) (fun _ => ?_)
  refine fg_iconst (fg_ft (pc := 13) tb_Str_isLatin1 5 rfl) ic_1 ?_
  refine fg_goto (tgt := 18) (fg_ft (pc := 14) tb_Str_isLatin1 6 rfl) (by decide) ?_
  exact fg_zret (fg_ft (pc := 18) tb_Str_isLatin1 8 rfl) rfl (by decide) rfl (hQ)
theorem ev_Str_coder {E : fg_E} {d : Nat} {μ : Nat → Nat → Int32} {R : fg_T4} {Q : Option Value → fg_M → Prop} {a v : Nat} {l : List Nat} (hs : pz_str a v l) (hQ : Q (some (.int (nI 0))) (μ, fg_rho R, 304)) : fg_Ev E yy_Str_coder (d + 1) [.ref a] (μ, fg_rho R, 304) 304 Q := by
  refine fg_intro (by decide +kernel) (Nat.le_of_ble_eq_true rfl) (fg_okAs rfl) (Nat.le_refl _) ?_
  refine fg_gets (fg_ft (pc := 0) tb_Str_coder 0 rfl) fs_Str_38 ?_
  refine fg_if_eq (tgt := 13) (fg_ft (pc := 3) tb_Str_coder 1 rfl) (by decide) (fun h => absurd h (by decide)) (fun _ => ?_)
  refine fg_aloadn (fg_ft (pc := 6) tb_Str_coder 2 rfl) rfl ?_
  refine fg_getK (fg_ft (pc := 7) tb_Str_coder 3 rfl) hs.2.1 ?_
  refine fg_goto (tgt := 14) (fg_ft (pc := 10) tb_Str_coder 4 rfl) (by decide) ?_
  exact fg_zret (fg_ft (pc := 14) tb_Str_coder 6 rfl) rfl (by decide) rfl (hQ)
theorem ev_Str_length {E : fg_E} {d : Nat} {μ : Nat → Nat → Int32} {R : fg_T4} {Q : Option Value → fg_M → Prop} {a v : Nat} {l : List Nat} (hs : pz_str a v l) (hQ : Q (some (.int (nI l.length))) (μ, fg_rho R, 304)) : fg_Ev E yy_Str_length (d + 2) [.ref a] (μ, fg_rho R, 304) 304 Q := by
  refine fg_intro (by decide +kernel) (Nat.le_of_ble_eq_true rfl) (fg_okAs rfl) (Nat.le_refl _) ?_
  refine fg_aloadn (fg_ft (pc := 0) tb_Str_length 0 rfl) rfl ?_
  refine fg_getK (fg_ft (pc := 1) tb_Str_length 1 rfl) hs.1 ?_
  refine fg_ctl (fg_ft (pc := 4) tb_Str_length 2 rfl) hs.2.2.1 ?_
  refine fg_aloadn (fg_ft (pc := 5) tb_Str_length 3 rfl) rfl ?_
  refine fg_callV (fg_ft (pc := 6) tb_Str_length 4 rfl) cf_Str_335 (Or.inr hs.2.2.2.1) (as := []) (st := [.int (nI (l.length))]) rfl rfl (Nat.le_of_ble_eq_true rfl) (Nat.le_refl _) (Nat.le_refl _) (ev_Str_coder hs ?_)
  refine fg_ishrN (fg_ft (pc := 9) tb_Str_length 5 rfl) (by have := hs.2.2.2.2.1; omega) (by decide) ?_
  exact fg_iret (fg_ft (pc := 10) tb_Str_length 6 rfl) rfl rfl (fg_q hQ (by rw [Nat.shiftRight_zero]))
theorem ev_Str_charAt {E : fg_E} {d : Nat} {μ : Nat → Nat → Int32} {R : fg_T4} {Q : Option Value → fg_M → Prop} {a v : Nat} {l : List Nat} (hs : pz_str a v l) {i : Nat} (hi : i < l.length) (hQ : Q (some (.int (nI (l.getD i 0)))) (μ, fg_rho R, 304)) : fg_Ev E yy_Str_charAt (d + 4) [.ref a, .int (nI i)] (μ, fg_rho R, 304) 304 Q := by
  refine fg_intro (by decide +kernel) (Nat.le_of_ble_eq_true rfl) (fg_okAs rfl) (Nat.le_refl _) ?_
  refine fg_aloadn (fg_ft (pc := 0) tb_Str_charAt 0 rfl) rfl ?_
  refine fg_callV (fg_ft (pc := 1) tb_Str_charAt 1 rfl) cf_Str_492 (Or.inr hs.2.2.2.1) (as := []) (st := []) rfl rfl (Nat.le_of_ble_eq_true rfl) (Nat.le_refl _) (Nat.le_refl _) (ev_Str_isLatin1 hs ?_)
  refine fg_if_eq (tgt := 16) (fg_ft (pc := 4) tb_Str_charAt 2 rfl) (by decide) (fun h => absurd h (by decide)) (fun _ => ?_)
  refine fg_aloadn (fg_ft (pc := 7) tb_Str_charAt 3 rfl) rfl ?_
  refine fg_getK (fg_ft (pc := 8) tb_Str_charAt 4 rfl) hs.1 ?_
  refine fg_iloadn (fg_ft (pc := 11) tb_Str_charAt 5 rfl) rfl ?_
  refine fg_callS (fg_ft (pc := 12) tb_Str_charAt 6 rfl) cf_Str_495 (as := [.ref v, .int (nI i)]) (st := []) rfl rfl (Nat.le_of_ble_eq_true rfl) (Nat.le_refl _) (Nat.le_refl _) (ev_Lat_charAt hs (i := i) hi ?_)
  exact fg_zret (fg_ft (pc := 15) tb_Str_charAt 7 rfl) rfl ((pk_charN (by have := hs.2.2.2.2.2 i hi; omega)).1) rfl (hQ)
def pz_ns : Nat → List Nat
  | 0 => [99]
  | 1 => [117, 117]
  | 2 => [110]
  | 3 => [112, 102]
  | 4 => [112, 104]
  | 5 => [104, 102]
  | 6 => [112, 111, 104, 102]
  | 7 => [110, 117]
  | 8 => [110, 117]
  | 9 => [110]
  | 10 => [119, 102]
  | 11 => [119, 102]
  | 12 => [119, 102]
  | 13 => [119, 102]
  | 14 => [119, 102]
  | 15 => [119, 120, 102]
  | 16 => []
  | _ => []
def pz_nn : Nat → Nat
  | 0 => 40
  | 1 => 41
  | 2 => 42
  | 3 => 43
  | 4 => 44
  | 5 => 45
  | 6 => 46
  | 7 => 47
  | 8 => 47
  | 9 => 42
  | 10 => 48
  | 11 => 48
  | 12 => 48
  | 13 => 48
  | 14 => 48
  | 15 => 49
  | 16 => 50
  | _ => 0
theorem pz_s20 : pz_str 20 60 (pz_sp 0) := ⟨⟨_, List.mem_of_getElem? (l := fg_ofld) (i := 4) rfl, rfl, rfl, fg_tblIn 1726 (by decide +kernel) (by decide +kernel)⟩, ⟨_, List.mem_of_getElem? (l := fg_ofld) (i := 5) rfl, rfl, rfl, fg_tblIn 1727 (by decide +kernel) (by decide +kernel)⟩, List.mem_of_getElem? (l := fg_carr) (i := 0) rfl, List.mem_of_getElem? (l := fg_objs) (i := 17) rfl, by decide, by decide⟩
theorem pz_s21 : pz_str 21 61 (pz_sp 1) := ⟨⟨_, List.mem_of_getElem? (l := fg_ofld) (i := 10) rfl, rfl, rfl, fg_tblIn 1726 (by decide +kernel) (by decide +kernel)⟩, ⟨_, List.mem_of_getElem? (l := fg_ofld) (i := 11) rfl, rfl, rfl, fg_tblIn 1727 (by decide +kernel) (by decide +kernel)⟩, List.mem_of_getElem? (l := fg_carr) (i := 1) rfl, List.mem_of_getElem? (l := fg_objs) (i := 18) rfl, by decide, by decide⟩
theorem pz_s22 : pz_str 22 62 (pz_sp 2) := ⟨⟨_, List.mem_of_getElem? (l := fg_ofld) (i := 16) rfl, rfl, rfl, fg_tblIn 1726 (by decide +kernel) (by decide +kernel)⟩, ⟨_, List.mem_of_getElem? (l := fg_ofld) (i := 17) rfl, rfl, rfl, fg_tblIn 1727 (by decide +kernel) (by decide +kernel)⟩, List.mem_of_getElem? (l := fg_carr) (i := 2) rfl, List.mem_of_getElem? (l := fg_objs) (i := 19) rfl, by decide, by decide⟩
theorem pz_s23 : pz_str 23 63 (pz_sp 3) := ⟨⟨_, List.mem_of_getElem? (l := fg_ofld) (i := 22) rfl, rfl, rfl, fg_tblIn 1726 (by decide +kernel) (by decide +kernel)⟩, ⟨_, List.mem_of_getElem? (l := fg_ofld) (i := 23) rfl, rfl, rfl, fg_tblIn 1727 (by decide +kernel) (by decide +kernel)⟩, List.mem_of_getElem? (l := fg_carr) (i := 3) rfl, List.mem_of_getElem? (l := fg_objs) (i := 20) rfl, by decide, by decide⟩
theorem pz_s24 : pz_str 24 64 (pz_sp 4) := ⟨⟨_, List.mem_of_getElem? (l := fg_ofld) (i := 28) rfl, rfl, rfl, fg_tblIn 1726 (by decide +kernel) (by decide +kernel)⟩, ⟨_, List.mem_of_getElem? (l := fg_ofld) (i := 29) rfl, rfl, rfl, fg_tblIn 1727 (by decide +kernel) (by decide +kernel)⟩, List.mem_of_getElem? (l := fg_carr) (i := 4) rfl, List.mem_of_getElem? (l := fg_objs) (i := 21) rfl, by decide, by decide⟩
theorem pz_s25 : pz_str 25 65 (pz_sp 5) := ⟨⟨_, List.mem_of_getElem? (l := fg_ofld) (i := 34) rfl, rfl, rfl, fg_tblIn 1726 (by decide +kernel) (by decide +kernel)⟩, ⟨_, List.mem_of_getElem? (l := fg_ofld) (i := 35) rfl, rfl, rfl, fg_tblIn 1727 (by decide +kernel) (by decide +kernel)⟩, List.mem_of_getElem? (l := fg_carr) (i := 5) rfl, List.mem_of_getElem? (l := fg_objs) (i := 22) rfl, by decide, by decide⟩
theorem pz_s26 : pz_str 26 66 (pz_sp 6) := ⟨⟨_, List.mem_of_getElem? (l := fg_ofld) (i := 40) rfl, rfl, rfl, fg_tblIn 1726 (by decide +kernel) (by decide +kernel)⟩, ⟨_, List.mem_of_getElem? (l := fg_ofld) (i := 41) rfl, rfl, rfl, fg_tblIn 1727 (by decide +kernel) (by decide +kernel)⟩, List.mem_of_getElem? (l := fg_carr) (i := 6) rfl, List.mem_of_getElem? (l := fg_objs) (i := 23) rfl, by decide, by decide⟩
theorem pz_s27 : pz_str 27 67 (pz_sp 7) := ⟨⟨_, List.mem_of_getElem? (l := fg_ofld) (i := 46) rfl, rfl, rfl, fg_tblIn 1726 (by decide +kernel) (by decide +kernel)⟩, ⟨_, List.mem_of_getElem? (l := fg_ofld) (i := 47) rfl, rfl, rfl, fg_tblIn 1727 (by decide +kernel) (by decide +kernel)⟩, List.mem_of_getElem? (l := fg_carr) (i := 7) rfl, List.mem_of_getElem? (l := fg_objs) (i := 24) rfl, by decide, by decide⟩
theorem pz_s28 : pz_str 28 68 (pz_sp 8) := ⟨⟨_, List.mem_of_getElem? (l := fg_ofld) (i := 52) rfl, rfl, rfl, fg_tblIn 1726 (by decide +kernel) (by decide +kernel)⟩, ⟨_, List.mem_of_getElem? (l := fg_ofld) (i := 53) rfl, rfl, rfl, fg_tblIn 1727 (by decide +kernel) (by decide +kernel)⟩, List.mem_of_getElem? (l := fg_carr) (i := 8) rfl, List.mem_of_getElem? (l := fg_objs) (i := 25) rfl, by decide, by decide⟩
theorem pz_s29 : pz_str 29 69 (pz_sp 9) := ⟨⟨_, List.mem_of_getElem? (l := fg_ofld) (i := 58) rfl, rfl, rfl, fg_tblIn 1726 (by decide +kernel) (by decide +kernel)⟩, ⟨_, List.mem_of_getElem? (l := fg_ofld) (i := 59) rfl, rfl, rfl, fg_tblIn 1727 (by decide +kernel) (by decide +kernel)⟩, List.mem_of_getElem? (l := fg_carr) (i := 9) rfl, List.mem_of_getElem? (l := fg_objs) (i := 26) rfl, by decide, by decide⟩
theorem pz_s30 : pz_str 30 70 (pz_sp 10) := ⟨⟨_, List.mem_of_getElem? (l := fg_ofld) (i := 64) rfl, rfl, rfl, fg_tblIn 1726 (by decide +kernel) (by decide +kernel)⟩, ⟨_, List.mem_of_getElem? (l := fg_ofld) (i := 65) rfl, rfl, rfl, fg_tblIn 1727 (by decide +kernel) (by decide +kernel)⟩, List.mem_of_getElem? (l := fg_carr) (i := 10) rfl, List.mem_of_getElem? (l := fg_objs) (i := 27) rfl, by decide, by decide⟩
theorem pz_s31 : pz_str 31 71 (pz_sp 11) := ⟨⟨_, List.mem_of_getElem? (l := fg_ofld) (i := 70) rfl, rfl, rfl, fg_tblIn 1726 (by decide +kernel) (by decide +kernel)⟩, ⟨_, List.mem_of_getElem? (l := fg_ofld) (i := 71) rfl, rfl, rfl, fg_tblIn 1727 (by decide +kernel) (by decide +kernel)⟩, List.mem_of_getElem? (l := fg_carr) (i := 11) rfl, List.mem_of_getElem? (l := fg_objs) (i := 28) rfl, by decide, by decide⟩
theorem pz_s32 : pz_str 32 72 (pz_sp 12) := ⟨⟨_, List.mem_of_getElem? (l := fg_ofld) (i := 76) rfl, rfl, rfl, fg_tblIn 1726 (by decide +kernel) (by decide +kernel)⟩, ⟨_, List.mem_of_getElem? (l := fg_ofld) (i := 77) rfl, rfl, rfl, fg_tblIn 1727 (by decide +kernel) (by decide +kernel)⟩, List.mem_of_getElem? (l := fg_carr) (i := 12) rfl, List.mem_of_getElem? (l := fg_objs) (i := 29) rfl, by decide, by decide⟩
theorem pz_s33 : pz_str 33 73 (pz_sp 13) := ⟨⟨_, List.mem_of_getElem? (l := fg_ofld) (i := 82) rfl, rfl, rfl, fg_tblIn 1726 (by decide +kernel) (by decide +kernel)⟩, ⟨_, List.mem_of_getElem? (l := fg_ofld) (i := 83) rfl, rfl, rfl, fg_tblIn 1727 (by decide +kernel) (by decide +kernel)⟩, List.mem_of_getElem? (l := fg_carr) (i := 13) rfl, List.mem_of_getElem? (l := fg_objs) (i := 30) rfl, by decide, by decide⟩
theorem pz_s34 : pz_str 34 74 (pz_sp 14) := ⟨⟨_, List.mem_of_getElem? (l := fg_ofld) (i := 88) rfl, rfl, rfl, fg_tblIn 1726 (by decide +kernel) (by decide +kernel)⟩, ⟨_, List.mem_of_getElem? (l := fg_ofld) (i := 89) rfl, rfl, rfl, fg_tblIn 1727 (by decide +kernel) (by decide +kernel)⟩, List.mem_of_getElem? (l := fg_carr) (i := 14) rfl, List.mem_of_getElem? (l := fg_objs) (i := 31) rfl, by decide, by decide⟩
theorem pz_s35 : pz_str 35 75 (pz_sp 15) := ⟨⟨_, List.mem_of_getElem? (l := fg_ofld) (i := 94) rfl, rfl, rfl, fg_tblIn 1726 (by decide +kernel) (by decide +kernel)⟩, ⟨_, List.mem_of_getElem? (l := fg_ofld) (i := 95) rfl, rfl, rfl, fg_tblIn 1727 (by decide +kernel) (by decide +kernel)⟩, List.mem_of_getElem? (l := fg_carr) (i := 15) rfl, List.mem_of_getElem? (l := fg_objs) (i := 32) rfl, by decide, by decide⟩
theorem pz_s36 : pz_str 36 76 (pz_sp 16) := ⟨⟨_, List.mem_of_getElem? (l := fg_ofld) (i := 100) rfl, rfl, rfl, fg_tblIn 1726 (by decide +kernel) (by decide +kernel)⟩, ⟨_, List.mem_of_getElem? (l := fg_ofld) (i := 101) rfl, rfl, rfl, fg_tblIn 1727 (by decide +kernel) (by decide +kernel)⟩, List.mem_of_getElem? (l := fg_carr) (i := 16) rfl, List.mem_of_getElem? (l := fg_objs) (i := 33) rfl, by decide, by decide⟩
theorem pz_s40 : pz_str 40 80 (pz_ns 0) := ⟨⟨_, List.mem_of_getElem? (l := fg_ofld) (i := 102) rfl, rfl, rfl, fg_tblIn 1726 (by decide +kernel) (by decide +kernel)⟩, ⟨_, List.mem_of_getElem? (l := fg_ofld) (i := 103) rfl, rfl, rfl, fg_tblIn 1727 (by decide +kernel) (by decide +kernel)⟩, List.mem_of_getElem? (l := fg_carr) (i := 17) rfl, List.mem_of_getElem? (l := fg_objs) (i := 34) rfl, by decide, by decide⟩
theorem pz_n0 : pz_str 40 80 (pz_ns 0) := pz_s40
theorem pz_s41 : pz_str 41 81 (pz_ns 1) := ⟨⟨_, List.mem_of_getElem? (l := fg_ofld) (i := 104) rfl, rfl, rfl, fg_tblIn 1726 (by decide +kernel) (by decide +kernel)⟩, ⟨_, List.mem_of_getElem? (l := fg_ofld) (i := 105) rfl, rfl, rfl, fg_tblIn 1727 (by decide +kernel) (by decide +kernel)⟩, List.mem_of_getElem? (l := fg_carr) (i := 18) rfl, List.mem_of_getElem? (l := fg_objs) (i := 35) rfl, by decide, by decide⟩
theorem pz_n1 : pz_str 41 81 (pz_ns 1) := pz_s41
theorem pz_s42 : pz_str 42 82 (pz_ns 2) := ⟨⟨_, List.mem_of_getElem? (l := fg_ofld) (i := 106) rfl, rfl, rfl, fg_tblIn 1726 (by decide +kernel) (by decide +kernel)⟩, ⟨_, List.mem_of_getElem? (l := fg_ofld) (i := 107) rfl, rfl, rfl, fg_tblIn 1727 (by decide +kernel) (by decide +kernel)⟩, List.mem_of_getElem? (l := fg_carr) (i := 19) rfl, List.mem_of_getElem? (l := fg_objs) (i := 36) rfl, by decide, by decide⟩
theorem pz_n2 : pz_str 42 82 (pz_ns 2) := pz_s42
theorem pz_s43 : pz_str 43 83 (pz_ns 3) := ⟨⟨_, List.mem_of_getElem? (l := fg_ofld) (i := 108) rfl, rfl, rfl, fg_tblIn 1726 (by decide +kernel) (by decide +kernel)⟩, ⟨_, List.mem_of_getElem? (l := fg_ofld) (i := 109) rfl, rfl, rfl, fg_tblIn 1727 (by decide +kernel) (by decide +kernel)⟩, List.mem_of_getElem? (l := fg_carr) (i := 20) rfl, List.mem_of_getElem? (l := fg_objs) (i := 37) rfl, by decide, by decide⟩
theorem pz_n3 : pz_str 43 83 (pz_ns 3) := pz_s43
theorem pz_s44 : pz_str 44 84 (pz_ns 4) := ⟨⟨_, List.mem_of_getElem? (l := fg_ofld) (i := 110) rfl, rfl, rfl, fg_tblIn 1726 (by decide +kernel) (by decide +kernel)⟩, ⟨_, List.mem_of_getElem? (l := fg_ofld) (i := 111) rfl, rfl, rfl, fg_tblIn 1727 (by decide +kernel) (by decide +kernel)⟩, List.mem_of_getElem? (l := fg_carr) (i := 21) rfl, List.mem_of_getElem? (l := fg_objs) (i := 38) rfl, by decide, by decide⟩
theorem pz_n4 : pz_str 44 84 (pz_ns 4) := pz_s44
theorem pz_s45 : pz_str 45 85 (pz_ns 5) := ⟨⟨_, List.mem_of_getElem? (l := fg_ofld) (i := 112) rfl, rfl, rfl, fg_tblIn 1726 (by decide +kernel) (by decide +kernel)⟩, ⟨_, List.mem_of_getElem? (l := fg_ofld) (i := 113) rfl, rfl, rfl, fg_tblIn 1727 (by decide +kernel) (by decide +kernel)⟩, List.mem_of_getElem? (l := fg_carr) (i := 22) rfl, List.mem_of_getElem? (l := fg_objs) (i := 39) rfl, by decide, by decide⟩
theorem pz_n5 : pz_str 45 85 (pz_ns 5) := pz_s45
theorem pz_s46 : pz_str 46 86 (pz_ns 6) := ⟨⟨_, List.mem_of_getElem? (l := fg_ofld) (i := 114) rfl, rfl, rfl, fg_tblIn 1726 (by decide +kernel) (by decide +kernel)⟩, ⟨_, List.mem_of_getElem? (l := fg_ofld) (i := 115) rfl, rfl, rfl, fg_tblIn 1727 (by decide +kernel) (by decide +kernel)⟩, List.mem_of_getElem? (l := fg_carr) (i := 23) rfl, List.mem_of_getElem? (l := fg_objs) (i := 40) rfl, by decide, by decide⟩
theorem pz_n6 : pz_str 46 86 (pz_ns 6) := pz_s46
theorem pz_s47 : pz_str 47 87 (pz_ns 7) := ⟨⟨_, List.mem_of_getElem? (l := fg_ofld) (i := 116) rfl, rfl, rfl, fg_tblIn 1726 (by decide +kernel) (by decide +kernel)⟩, ⟨_, List.mem_of_getElem? (l := fg_ofld) (i := 117) rfl, rfl, rfl, fg_tblIn 1727 (by decide +kernel) (by decide +kernel)⟩, List.mem_of_getElem? (l := fg_carr) (i := 24) rfl, List.mem_of_getElem? (l := fg_objs) (i := 41) rfl, by decide, by decide⟩
theorem pz_n7 : pz_str 47 87 (pz_ns 7) := pz_s47
theorem pz_n8 : pz_str 47 87 (pz_ns 8) := pz_s47
theorem pz_n9 : pz_str 42 82 (pz_ns 9) := pz_s42
theorem pz_s48 : pz_str 48 88 (pz_ns 10) := ⟨⟨_, List.mem_of_getElem? (l := fg_ofld) (i := 118) rfl, rfl, rfl, fg_tblIn 1726 (by decide +kernel) (by decide +kernel)⟩, ⟨_, List.mem_of_getElem? (l := fg_ofld) (i := 119) rfl, rfl, rfl, fg_tblIn 1727 (by decide +kernel) (by decide +kernel)⟩, List.mem_of_getElem? (l := fg_carr) (i := 25) rfl, List.mem_of_getElem? (l := fg_objs) (i := 42) rfl, by decide, by decide⟩
theorem pz_n10 : pz_str 48 88 (pz_ns 10) := pz_s48
theorem pz_n11 : pz_str 48 88 (pz_ns 11) := pz_s48
theorem pz_n12 : pz_str 48 88 (pz_ns 12) := pz_s48
theorem pz_n13 : pz_str 48 88 (pz_ns 13) := pz_s48
theorem pz_n14 : pz_str 48 88 (pz_ns 14) := pz_s48
theorem pz_s49 : pz_str 49 89 (pz_ns 15) := ⟨⟨_, List.mem_of_getElem? (l := fg_ofld) (i := 120) rfl, rfl, rfl, fg_tblIn 1726 (by decide +kernel) (by decide +kernel)⟩, ⟨_, List.mem_of_getElem? (l := fg_ofld) (i := 121) rfl, rfl, rfl, fg_tblIn 1727 (by decide +kernel) (by decide +kernel)⟩, List.mem_of_getElem? (l := fg_carr) (i := 26) rfl, List.mem_of_getElem? (l := fg_objs) (i := 43) rfl, by decide, by decide⟩
theorem pz_n15 : pz_str 49 89 (pz_ns 15) := pz_s49
theorem pz_s50 : pz_str 50 90 (pz_ns 16) := ⟨⟨_, List.mem_of_getElem? (l := fg_ofld) (i := 122) rfl, rfl, rfl, fg_tblIn 1726 (by decide +kernel) (by decide +kernel)⟩, ⟨_, List.mem_of_getElem? (l := fg_ofld) (i := 123) rfl, rfl, rfl, fg_tblIn 1727 (by decide +kernel) (by decide +kernel)⟩, List.mem_of_getElem? (l := fg_carr) (i := 27) rfl, List.mem_of_getElem? (l := fg_objs) (i := 44) rfl, by decide, by decide⟩
theorem pz_n16 : pz_str 50 90 (pz_ns 16) := pz_s50
