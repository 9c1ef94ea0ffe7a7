/-! constructors: the words anew, the reader, the class -/
def fg_mw (M : fg_M) : fg_M := (fun b j => if b = M.2.2 then 0 else M.1 b j, fun b j => if b = M.2.2 then (if j < 17 then some j else none) else M.2.1 b j, M.2.2 + 1)
theorem fg_mwOld {E : fg_E} {M : fg_M} : ∀ k, k < M.2.2 → fg_ent E (fg_mw M) k = fg_ent E M k := fun k hk => fg_entCong (fun j => if_neg (by omega)) (fun j => if_neg (by omega))
abbrev fg_cln : MethodName := ⟨"[LForgetBread$Word;", "clone", "()Ljava/lang/Object;"⟩
abbrev fg_clo9 : MethodName := ⟨"java/lang/Object", "clone", "()Ljava/lang/Object;"⟩
theorem fg_cA6 {E : fg_E} {s : State} (hU : fg_U E s) : s.vm.findClass "[LForgetBread$Word;" = some (E.2.2.1 6) := by
  have f2 := (hU.1.2 6 _ (fg_tysAt E (k := 6) (by decide))).2
  obtain ⟨_, _, -, -, -, g2⟩ := f2
  exact g2
def fg_w17 (g : Nat → Nat) : Nat → Option Nat := fun j => (if j < 17 then some j else none : Option Nat).map g
def fg_a17 (E : fg_E) : vp_A := (17, .inr (.inr (.inr (.inr (fg_w17 (fg_ad E))))))
def fg_c17 (E : fg_E) : Cell := vp_cell (E.2.2.1 6) (fg_a17 E)
theorem fg_c17e (E : fg_E) : fg_c17 E = vp_cell (E.2.2.1 6) (17, .inr (.inr (.inr (.inr (fg_w17 (fg_ad E)))))) := rfl
theorem fg_cell17 {cell : Cell} {g : Nat → Nat} (c4 : cell.slots.size = 17) (c5 : ∀ j : Nat, j < 17 → cell.slots[j]? = some (.ref (g j))) : ({ cls := cell.cls, slots := cell.slots } : Cell) = vp_cell cell.cls (17, .inr (.inr (.inr (.inr (fg_w17 g))))) := by
  rw [vp_cell_q]
  have es : cell.slots = (arrV cell.cls 17 (fun j => va_rf (fg_w17 g j))).slots := by
    apply Array.ext
    · rw [c4, arrV_size]
    · intro i h1 h2
      have hi : i < 17 := by omega
      have e1 := c5 i hi
      rw [Array.getElem?_eq_getElem h1] at e1
      have ew : va_rf (fg_w17 g i) = .ref (g i) := by
        unfold fg_w17; rw [if_pos hi]; rfl
      have e2 : (arrV cell.cls 17 (fun j => va_rf (fg_w17 g j))).slots[i]? = some (.ref (g i)) := by
        rw [arrV_read _ _ hi, ew]
      rw [Array.getElem?_eq_getElem h2] at e2
      exact (Option.some.inj e1).trans (Option.some.inj e2).symm
  have e : arrV cell.cls 17 (fun j => va_rf (fg_w17 g j)) = { cls := cell.cls, slots := (arrV cell.cls 17 (fun j => va_rf (fg_w17 g j))).slots } := rfl
  rw [e, ← es]
section CLN
variable {E : fg_E} {Y : fg_Y} {d n0 n1 : Nat} {Q : Option Value → fg_M → Prop} {pc : Nat} {L st : List Value} {M : fg_M}
theorem fg_clone98 {index : Nat} (hd : decode Y.2.1 pc = .ok (.invokevirtual index, 3)) (w1 : Cond.methodLink Y.1.cls index fg_cln ∈ fg_tbl) (w2 : Cond.sameMethod "[LForgetBread$Word;" "java/lang/Object" "clone" "()Ljava/lang/Object;" ∈ fg_tbl) (w3 : Cond.native fg_clo9 ∈ fg_tbl) (w4 : Cond.instanceMethod fg_clo9 ∈ fg_tbl) (w5 : Cond.selects "[LForgetBread$Word;" fg_cln fg_clo9 ∈ fg_tbl) (hst : ((st.map (fg_tv E)).map fun v => v.category).sum ≤ 8) (ha : fg_lay M.2.2 = (16, 17)) (hn : M.2.2 < n1) (k : fg_wp E Y (d + 1) n0 n1 Q (pc + 3) L (.ref M.2.2 :: st) (fg_mw M)) : fg_wp E Y (d + 1) n0 n1 Q pc L (.ref 98 :: st) M := by
  intro p e s m args below meth c C H locs ls hH hS h0 h1 hl hz
  obtain ⟨hx, hb, hret, hlk, hml, hown, hts, hU, hK, hbs, h100, hnm⟩ := id C
  have hsl : fg_SL (M.2.2 + 1) = fg_SL M.2.2 + 17 := by
    show _ + (fg_lay M.2.2).2 = _
    rw [ha]
  have hm1 : fg_SL (M.2.2 + 1) ≤ fg_SL n1 := fg_SL_mono hn
  have hm0 : fg_SL n0 ≤ fg_SL M.2.2 := fg_SL_mono h0
  obtain ⟨-, -, -, -, ⟨hV, -⟩, -⟩ := hK.kept (fun q hq hA => hS.2.1 q hq hA)
  obtain ⟨cell, c1, c2, c3, c4, c5, c6, c7⟩ := hV
  have hcl := hU.2.2.2
  obtain ⟨cA, t0', f1, f2, f3⟩ := Cond.castable_spec (va_Nw.use (A := args) rfl hcl)
  have e7 : cA = cell.cls := Option.some.inj (f1.symm.trans c7)
  subst e7
  have e6 : E.2.2.1 6 = cell.cls := Option.some.inj ((fg_cA6 hU).symm.trans c7)
  intro T hT X
  have hcellT : T.heap[fg_ad E 98]? = some cell := by rw [hT]; exact c1
  obtain ⟨-, kA, hkA, comp, hkind⟩ := State.isArrayOf_alike X.warmed.alike c2
  have c2s := c2
  obtain ⟨-, kS, hkS, compS, hkindS⟩ := c2s
  obtain ⟨vm', X', stp⟩ := X.cloneArray hx hown (hts _ (fg_in w1)) (hts _ (fg_in w2)) (hts _ (fg_in w3)) (hts _ (fg_in w4)) (hts _ (fg_in w5)) (a := fg_ad E 98) (cell := cell) hcellT c2.1 c3 c7 f2 f3
    (fun i v hv => by
      have hi : i < 17 := by
        have := (Array.getElem?_eq_some_iff.mp hv).1
        omega
      rw [c5 i hi] at hv
      cases hv
      have hk' : T.vm.classes[cell.cls]? = some kA := hkA
      simp [State.fitsSlot, State.slotType?, hk', hkind, fits])
    (g := F0 m pc ls (.ref (fg_ad E 98) :: st.map (fg_tv E))) rfl (by show ls.size = c.maxLocals; rw [hl.1.1, hz, hml]) rfl (by rw [hb]; exact hd) (by show 1 ≤ d + 1; omega) (by show 2 * 0 + _ + 14 ≤ 60 * (d + 1); omega) (by show M.2.2 - n0 + 1 ≤ n1 - n0; omega) (by show fg_SL M.2.2 - fg_SL n0 + cell.slots.size ≤ fg_SL n1 - fg_SL n0; omega) (hloader := Vm.clonesLoader_of_array hkS hkindS)
  have hcellE : ({ cls := cell.cls, slots := cell.slots } : Cell) = fg_c17 E := by
    rw [fg_c17e, e6]; exact fg_cell17 c4 c5
  rw [hcellE, c4] at X'
  have hP := hH.2
  generalize hH1 : H.push (fg_c17 E) = H1
  have z1 : H1.size = H.size + 1 := by rw [← hH1, Array.size_push]
  have e1 : H1[H.size]? = some (fg_c17 E) := by rw [← hH1, Array.getElem?_push_size]
  have o1 : ∀ q : Nat, q < H.size → H1[q]? = H[q]? := fun q hq => by rw [← hH1, Array.getElem?_push, if_neg (Nat.ne_of_lt hq)]
  have hk : ∀ (k : Nat) (y : Nat × va_E), (fg_ws E M)[k]? = some y → H1[y.1]? = H[y.1]? := fun k y hy => o1 y.1 ((hP k y hy).lt)
  have hP1 : va_P E.2.1 fg_cl (fg_ws E M ++ [(H.size, .inl (E.2.2.1 6, fg_a17 E)) ]) H1 := (hP.kept hk).app (fun k y hy => by
      have hz : k < 1 := (List.getElem?_eq_some_iff.mp hy).1
      rw [show k = 0 by omega] at hy
      cases hy
      exact e1)
  have hD1 : va_D (fg_A E) (fg_ws E M ++ [(H.size, .inl (E.2.2.1 6, fg_a17 E)) ]) := fg_wsD.push hP rfl (by
    show fg_base E ≤ H.size
    have := hS.1
    omega)
  have hS1 : va_S (fg_A E) s.heap H1 locs := ⟨Nat.le_trans hS.1 (by omega), fun y y1 y2 => (o1 y (Nat.lt_of_lt_of_le y1 hS.1)).trans (hS.2.1 y y1 y2), hS.2.2⟩
  have hent : fg_ent E (fg_mw M) M.2.2 = .inl (E.2.2.1 6, fg_a17 E) := by
    rw [fg_entR (M := fg_mw M) ha (by decide)]
    have hz0 : (fun j => ((fg_mw M).2.1 M.2.2 j).map (fg_ad E)) = fg_w17 (fg_ad E) := by
      funext j
      simp [fg_mw, fg_w17]
    rw [hz0]; rfl
  have hTS : ((T.setVm vm').pushCell (fg_c17 E)).heap = H1 := by rw [← hH1, ← hT]; rfl
  have hq := fg_next hbs h100 h0 hP1 hD1 (by rw [← hTS]; exact X'.same.2.2.1)
  rw [hq] at hP1
  rw [fg_wsPush (M' := fg_mw M) hH.1 rfl hent fg_mwOld] at hP1
  have hk2 := k p e s m args below meth c C H1 locs ls ⟨Nat.le_succ_of_le hH.1, hP1⟩ hS1 (Nat.le_succ_of_le h0) hn hl hz
  rw [show (fg_mw M).2.2 - n0 = M.2.2 - n0 + 1 by show M.2.2 + 1 - n0 = _; omega, show fg_SL (fg_mw M).2.2 - fg_SL n0 = fg_SL M.2.2 - fg_SL n0 + 17 by show fg_SL (M.2.2 + 1) - fg_SL n0 = _; omega] at hk2
  have had : fg_tv E (.ref M.2.2) = .ref (fg_base E + (M.2.2 - 100)) := by
    show Value.ref (fg_ad E M.2.2) = _
    rw [fg_adE hH.1]
  rw [List.map_cons, had] at hk2
  obtain ⟨t, b1, b2⟩ := hk2 _ hTS X'
  refine ⟨t, stp t ?_, b2⟩
  rw [hcellE, hT, hq]
  exact b1
theorem fg_castW {index a : Nat} (hd : decode Y.2.1 pc = .ok (.checkcast index, 3)) (w1 : Cond.classLink Y.1.cls index "[LForgetBread$Word;" ∈ fg_tbl) (ha : fg_lay a = (16, 17)) (hlt : a < M.2.2) (k : fg_wp E Y d n0 n1 Q (pc + 3) L (.ref a :: st) M) : fg_wp E Y d n0 n1 Q pc L (.ref a :: st) M := by
  intro p e s m args below meth c C H locs ls hH hS h0 h1 hl hz
  obtain ⟨hx, hb, hret, hlk, hml, hown, hts, hU, hK, hbs, h100, hnm⟩ := id C
  have hw := fg_wsAt (E := E) (M := M) (a := a) (fg_ge ha (by decide)) hlt
  rw [fg_entR (M := M) ha (by decide)] at hw
  exact va_castA hx hb hown (hts _ (fg_in w1)) hH.2 (a - 100) hw (fg_cA6 hU) hd (k p e s m args below meth c C H locs ls hH hS h0 h1 hl hz)
end CLN
theorem ev_Word_values {E : fg_E} {d : Nat} {M : fg_M} {Q : Option Value → fg_M → Prop} (ha : fg_lay M.2.2 = (16, 17)) (hQ : Q (some (.ref M.2.2)) (fg_mw M)) : fg_Ev E yy_Word_values (d + 1) [] M (M.2.2 + 1) Q := by
  refine fg_intro (by decide +kernel) (Nat.le_of_ble_eq_true rfl) (fg_okAs rfl) (Nat.le_succ _) ?_
  refine fg_gets (fg_ft (pc := 0) tb_Word_values 0 rfl) fs_Word_57 ?_
  refine fg_clone98 (fg_ft (pc := 3) tb_Word_values 1 rfl) (fg_tblIn 252 (by decide +kernel) (by decide +kernel)) (fg_tblIn 253 (by decide +kernel) (by decide +kernel)) (fg_tblIn 254 (by decide +kernel) (by decide +kernel)) (fg_tblIn 255 (by decide +kernel) (by decide +kernel)) (fg_tblIn 256 (by decide +kernel) (by decide +kernel)) (Nat.le_of_ble_eq_true rfl) ha (Nat.lt_succ_self _) ?_
  refine fg_castW (fg_ft (pc := 6) tb_Word_values 2 rfl) (fg_tblIn 259 (by decide +kernel) (by decide +kernel)) ha (Nat.lt_succ_self _) ?_
  exact fg_aret (fg_ft (pc := 9) tb_Word_values 3 rfl) rfl (by first | exact Or.inl ⟨_, rfl⟩ | exact Or.inr ⟨_, rfl⟩) rfl hQ
theorem fg_pbw {M : fg_M} {a n : Nat} {IA : Nat → Int32} {RA : Nat → Option Nat} {c : Nat} {IC : Nat → Int32} {RC : Nat → Option Nat} (ha : a < n) (hc : c < n) (h0 : ∀ j, fg_mu0 n j = 0) (h1 : ∀ j, (if j < 17 then some j else none) = fg_rho fg_R0 n j) : fg_mw (fg_pb M a n IA RA c IC RC) = fg_pb M a (n + 1) IA RA c IC RC := by
  refine fg_Mx (fun b j => ?_) (fun b j => ?_) rfl
  · show (if b = n then 0 else if b = a then IA j else if b = c then IC j else if a < b ∧ b < n then fg_mu0 b j else M.1 b j) = if b = a then IA j else if b = c then IC j else if a < b ∧ b < n + 1 then fg_mu0 b j else M.1 b j
    by_cases e : b = n
    · rw [if_pos e, if_neg (by omega), if_neg (by omega), if_pos (by omega), e, h0]
    · rw [if_neg e]
      by_cases e1 : a < b ∧ b < n
      · rw [if_pos e1, if_pos (by omega : a < b ∧ b < n + 1)]
      · rw [if_neg e1, if_neg (by omega : ¬ (a < b ∧ b < n + 1))]
  · show (if b = n then (if j < 17 then some j else none) else if b = a then RA j else if b = c then RC j else if a < b ∧ b < n then fg_rho fg_R0 b j else M.2.1 b j) = if b = a then RA j else if b = c then RC j else if a < b ∧ b < n + 1 then fg_rho fg_R0 b j else M.2.1 b j
    by_cases e : b = n
    · rw [if_pos e, if_neg (show ¬ b = a by omega), if_neg (show ¬ b = c by omega), if_pos (show a < b ∧ b < n + 1 by omega), e, h1]
    · rw [if_neg e]
      by_cases e1 : a < b ∧ b < n
      · rw [if_pos e1, if_pos (by omega : a < b ∧ b < n + 1)]
      · rw [if_neg e1, if_neg (by omega : ¬ (a < b ∧ b < n + 1))]
def mk_Reader (a : Nat) : Prop := fg_lay a = (1, 15) ∧ fg_lay (a + 17) = (16, 17) ∧ (∀ j, (fun _ => 0) j = fg_mu0 a j) ∧ (∀ j, (fg_f1 (fg_f1 (fg_f1 (fg_f1 (fun _ => none) 0 (some (a + 1))) 1 (some (a + 15))) 4 (some (a + 17))) 5 none) j = fg_rho fg_R0 a j) ∧ (∀ j, fg_mu0 (a + 17) j = 0) ∧ (∀ j, (if j < 17 then some j else none) = fg_rho fg_R0 (a + 17) j) ∧ mk_Town (a + 1) ∧ mk_Rows (a + 15) 30 4
theorem ev_Reader_init {E : fg_E} {d : Nat} {M : fg_M} {Q : Option Value → fg_M → Prop} {a : Nat} (hb : mk_Reader a) (hn : M.2.2 = a + 1) (h0 : ∀ j, M.1 a j = 0) (h1 : ∀ j, M.2.1 a j = none) (hQ : Q none (mk_bl M a (a + 18))) : fg_Ev E yy_Reader_init (d + 4) [.ref a] M (a + 18) Q := by
  refine fg_intro (by decide +kernel) (Nat.le_of_ble_eq_true rfl) (fg_okAs rfl) (by rw [hn]; omega) ?_
  refine fg_me (fg_pb0 hn h0 h1) ?_
  refine fg_aloadn (fg_ft (pc := 0) tb_Reader_init 0 rfl) rfl ?_
  refine fg_objInit (fg_ft (pc := 1) tb_Reader_init 1 rfl) fo_Reader_3 fo_1 fo_2 (Nat.le_of_ble_eq_true rfl) ?_
  refine fg_aloadn (fg_ft (pc := 4) tb_Reader_init 2 rfl) rfl ?_
  refine fg_new (fg_ft (pc := 5) tb_Reader_init 3 rfl) fn_Reader_9 hb.2.2.2.2.2.2.1.1 (by show a + 1 < a + 18; omega) ?_
  refine fg_dup (fg_ft (pc := 8) tb_Reader_init 4 rfl) rfl ?_
  refine fg_callIN (fg_ft (pc := 9) tb_Reader_init 5 rfl) rfl cf_Reader_11 (as := []) (st := [.ref (a + 1), .ref a]) rfl rfl (Nat.le_of_ble_eq_true rfl) (n2 := a + 15) (by show a + 1 + 1 ≤ a + 15; omega) (by omega) (ev_Town_init hb.2.2.2.2.2.2.1 rfl (fun _ => if_pos rfl) (fun _ => if_pos rfl) ?_)
  show fg_wp _ _ _ _ _ _ _ _ _ (mk_bl _ _ _)
  refine fg_me (fg_pb6 (n := a + 1) (n' := a + 15) (by omega) (by omega) (by omega)) ?_
  refine fg_putRF (fg_ft (pc := 12) tb_Reader_init 6 rfl) ff_Reader_12 hb.1 rfl (by show a < a + 15; omega) (fun _ _ h => by cases h; rfl) rfl (fun _ _ h => by cases h; rfl) ?_
  refine fg_me fg_pb2 ?_
  refine fg_aloadn (fg_ft (pc := 15) tb_Reader_init 7 rfl) rfl ?_
  refine fg_new (fg_ft (pc := 16) tb_Reader_init 8 rfl) fn_Reader_18 hb.2.2.2.2.2.2.2.1 (by show a + 15 < a + 18; omega) ?_
  refine fg_dup (fg_ft (pc := 19) tb_Reader_init 9 rfl) rfl ?_
  refine fg_bipush (fg_ft (pc := 20) tb_Reader_init 10 rfl) ib_30 ?_
  refine fg_iconst (fg_ft (pc := 22) tb_Reader_init 11 rfl) ic_4 ?_
  refine fg_callI (fg_ft (pc := 23) tb_Reader_init 12 rfl) rfl cf_Reader_20 (as := [.int (nI 30), .int (nI 4)]) (st := [.ref (a + 15), .ref a]) rfl rfl (Nat.le_of_ble_eq_true rfl) (n2 := a + 17) (by show a + 15 + 1 ≤ a + 17; omega) (by omega) (ev_Rows_init hb.2.2.2.2.2.2.2 rfl (fun _ => if_pos rfl) (fun _ => if_pos rfl) ?_)
  show fg_wp _ _ _ _ _ _ _ _ _ (mk_bl _ _ _)
  refine fg_me (fg_pb6 (n := a + 15) (n' := a + 17) (by omega) (by omega) (by omega)) ?_
  refine fg_putRF (fg_ft (pc := 26) tb_Reader_init 13 rfl) ff_Reader_23 hb.1 rfl (by show a < a + 17; omega) (fun _ _ h => by cases h; rfl) rfl (fun _ _ h => by cases h; rfl) ?_
  refine fg_me fg_pb2 ?_
  refine fg_aloadn (fg_ft (pc := 29) tb_Reader_init 14 rfl) rfl ?_
  refine fg_callS (fg_ft (pc := 30) tb_Reader_init 15 rfl) cf_Reader_27 (as := []) (st := [.ref a]) rfl rfl (Nat.le_of_ble_eq_true rfl) (n2 := a + 18) (by show a + 17 ≤ a + 18; omega) (by omega) (ev_Word_values hb.2.1 ?_)
  show fg_wp _ _ _ _ _ _ _ _ _ (fg_mw _)
  refine fg_me (fg_pbw (n := a + 17) (by omega) (by omega) hb.2.2.2.2.1 hb.2.2.2.2.2.1) ?_
  refine fg_putRF (fg_ft (pc := 33) tb_Reader_init 16 rfl) ff_Reader_33 hb.1 rfl (by show a < a + 18; omega) (fun _ _ h => by cases h; rfl) rfl (fun _ _ h => by cases h; rfl) ?_
  refine fg_me fg_pb2 ?_
  refine fg_aloadn (fg_ft (pc := 36) tb_Reader_init 17 rfl) rfl ?_
  refine fg_null (fg_ft (pc := 37) tb_Reader_init 18 rfl) ?_
  refine fg_putN (fg_ft (pc := 38) tb_Reader_init 19 rfl) ff_Reader_37 hb.1 rfl (by show a < a + 18; omega) (fun _ _ h => by cases h; rfl) ?_
  refine fg_me fg_pb2 ?_
  refine fg_me (fg_pb8 (by omega) hb.2.2.1 hb.2.2.2.1) ?_
  exact fg_vret (fg_ft (pc := 41) tb_Reader_init 20 rfl) rfl rfl hQ
def mk_Fb (a : Nat) : Prop := fg_lay a = (6, 8) ∧ fg_lay (a + 39) = (13, 3) ∧ fg_lay (a + 154) = (12, 3) ∧ fg_lay (a + 186) = (10, 5) ∧ (∀ j, (fun _ => 0) j = fg_mu0 a j) ∧ (∀ j, (fg_f1 (fg_f1 (fg_f1 (fg_f1 (fg_f1 (fg_f1 (fg_f1 (fg_f1 (fun _ => none) 0 (some (a + 1))) 1 (some (a + 39))) 2 (some (a + 154))) 3 (some (a + 155))) 4 (some (a + 173))) 5 (some (a + 177))) 6 (some (a + 181))) 7 (some (a + 186))) j = fg_rho fg_R0 a j) ∧ (∀ j, fg_mu0 (a + 39) j = 0) ∧ (∀ j, (fg_f1 (fg_f1 (fg_f1 (fun _ => none) 0 (some (a + 40))) 1 (some (a + 78))) 2 (some (a + 116))) j = fg_rho fg_R0 (a + 39) j) ∧ (∀ j, fg_mu0 (a + 154) j = 0) ∧ (∀ j, fg_rho fg_R0 (a + 154) j = none) ∧ (∀ j, fg_mu0 (a + 186) j = 0) ∧ (∀ j, fg_rho fg_R0 (a + 186) j = none) ∧ mk_Told (a + 1) ∧ mk_Told (a + 40) ∧ mk_Told (a + 78) ∧ mk_Told (a + 116) ∧ mk_Reader (a + 155) ∧ mk_Folk (a + 173) ∧ mk_Folk (a + 177) ∧ mk_Search (a + 181)
theorem ev_Fb_init {E : fg_E} {d : Nat} {M : fg_M} {Q : Option Value → fg_M → Prop} {a : Nat} (hb : mk_Fb a) (hn : M.2.2 = a + 1) (h0 : ∀ j, M.1 a j = 0) (h1 : ∀ j, M.2.1 a j = none) (hQ : Q none (mk_bl M a (a + 187))) : fg_Ev E yy_Fb_init (d + 5) [.ref a] M (a + 187) Q := by
  refine fg_intro (by decide +kernel) (Nat.le_of_ble_eq_true rfl) (fg_okAs rfl) (by rw [hn]; omega) ?_
  refine fg_me (fg_pb0 hn h0 h1) ?_
  refine fg_aloadn (fg_ft (pc := 0) tb_Fb_init 0 rfl) rfl ?_
  refine fg_objInit (fg_ft (pc := 1) tb_Fb_init 1 rfl) fo_Fb_3 fo_1 fo_2 (Nat.le_of_ble_eq_true rfl) ?_
  refine fg_aloadn (fg_ft (pc := 4) tb_Fb_init 2 rfl) rfl ?_
  refine fg_new (fg_ft (pc := 5) tb_Fb_init 3 rfl) fn_Fb_9 hb.2.2.2.2.2.2.2.2.2.2.2.2.1.1 (by show a + 1 < a + 187; omega) ?_
  refine fg_dup (fg_ft (pc := 8) tb_Fb_init 4 rfl) rfl ?_
  refine fg_callI (fg_ft (pc := 9) tb_Fb_init 5 rfl) rfl cf_Fb_11 (as := []) (st := [.ref (a + 1), .ref a]) rfl rfl (Nat.le_of_ble_eq_true rfl) (n2 := a + 39) (by show a + 1 + 1 ≤ a + 39; omega) (by omega) (ev_Told_init hb.2.2.2.2.2.2.2.2.2.2.2.2.1 rfl (fun _ => if_pos rfl) (fun _ => if_pos rfl) ?_)
  show fg_wp _ _ _ _ _ _ _ _ _ (mk_bl _ _ _)
  refine fg_me (fg_pb6 (n := a + 1) (n' := a + 39) (by omega) (by omega) (by omega)) ?_
  refine fg_putRF (fg_ft (pc := 12) tb_Fb_init 6 rfl) ff_Fb_12 hb.1 rfl (by show a < a + 39; omega) (fun _ _ h => by cases h; rfl) rfl (fun _ _ h => by cases h; rfl) ?_
  refine fg_me fg_pb2 ?_
  refine fg_aloadn (fg_ft (pc := 15) tb_Fb_init 7 rfl) rfl ?_
  refine fg_iconst (fg_ft (pc := 16) tb_Fb_init 8 rfl) ic_3 ?_
  refine fg_newq (k := 3) (fg_ft (pc := 17) tb_Fb_init 9 rfl) rfl (by decide) (by decide) (fg_tblIn 117 (by decide +kernel) (by decide +kernel)) rfl hb.2.1 (by show a + 39 < a + 187; omega) ?_
  refine fg_me (fg_pb5 (n := a + 39) (by omega)) ?_
  refine fg_putRF (fg_ft (pc := 20) tb_Fb_init 10 rfl) ff_Fb_16 hb.1 rfl (by show a < a + 40; omega) (fun _ _ h => by cases h; rfl) rfl (fun _ _ h => by cases h; rfl) ?_
  refine fg_me fg_pb2 ?_
  refine fg_iconst (fg_ft (pc := 23) tb_Fb_init 11 rfl) ic_0 ?_
  refine fg_istoren (fg_ft (pc := 24) tb_Fb_init 12 rfl) (Nat.le_of_ble_eq_true rfl) ?_
  refine fg_iloadn (fg_ft (pc := 25) tb_Fb_init 13 rfl) rfl ?_
  refine fg_aloadn (fg_ft (pc := 26) tb_Fb_init 14 rfl) rfl ?_
  refine fg_getR (b := a + 39) (fg_ft (pc := 27) tb_Fb_init 15 rfl) ff_Fb_16 hb.1 rfl (by show a < a + 40; omega) (by rw [fg_pbr]; rfl) ?_
  refine fg_alen (fg_ft (pc := 30) tb_Fb_init 16 rfl) hb.2.1 (by decide) (by show a + 39 < a + 40; omega) ?_
  refine fg_icmp_geN (tgt := 53) (fg_ft (pc := 31) tb_Fb_init 17 rfl) (by decide) (by decide) (by decide) (fun h => absurd h (by decide)) (fun _ => ?_)
  refine fg_aloadn (fg_ft (pc := 34) tb_Fb_init 18 rfl) rfl ?_
  refine fg_getR (b := a + 39) (fg_ft (pc := 35) tb_Fb_init 19 rfl) ff_Fb_16 hb.1 rfl (by show a < a + 40; omega) (by rw [fg_pbr]; rfl) ?_
  refine fg_iloadn (fg_ft (pc := 38) tb_Fb_init 20 rfl) rfl ?_
  refine fg_new (fg_ft (pc := 39) tb_Fb_init 21 rfl) fn_Fb_9 hb.2.2.2.2.2.2.2.2.2.2.2.2.2.1.1 (by show a + 40 < a + 187; omega) ?_
  refine fg_dup (fg_ft (pc := 42) tb_Fb_init 22 rfl) rfl ?_
  refine fg_callI (fg_ft (pc := 43) tb_Fb_init 23 rfl) rfl cf_Fb_11 (as := []) (st := [.ref (a + 40), .int (nI 0), .ref (a + 39)]) rfl rfl (Nat.le_of_ble_eq_true rfl) (n2 := a + 78) (by show a + 40 + 1 ≤ a + 78; omega) (by omega) (ev_Told_init hb.2.2.2.2.2.2.2.2.2.2.2.2.2.1 rfl (fun _ => if_pos rfl) (fun _ => if_pos rfl) ?_)
  show fg_wp _ _ _ _ _ _ _ _ _ (mk_bl _ _ _)
  refine fg_me (fg_pb6 (n := a + 40) (n' := a + 78) (by omega) (by omega) (by omega)) ?_
  refine fg_astq (i := nI 0) (fg_ft (pc := 46) tb_Fb_init 24 rfl) hb.2.1 (by decide) (by show a + 39 < a + 78; omega) (vp_in_nI (by decide) (by decide)) hb.2.2.2.2.2.2.2.2.2.2.2.2.2.1.1 (by show a + 40 < a + 78; omega) rfl rfl ?_
  refine fg_me (fg_pb3c (k := 0) (by omega) (nI_clamp (by decide))) ?_
  refine fg_iincN (fg_ft (pc := 47) tb_Fb_init 25 rfl) rfl ic_1 rfl ?_
  refine fg_goto (tgt := 25) (fg_ft (pc := 50) tb_Fb_init 26 rfl) (by decide) ?_
  refine fg_iloadn (fg_ft (pc := 25) tb_Fb_init 13 rfl) rfl ?_
  refine fg_aloadn (fg_ft (pc := 26) tb_Fb_init 14 rfl) rfl ?_
  refine fg_getR (b := a + 39) (fg_ft (pc := 27) tb_Fb_init 15 rfl) ff_Fb_16 hb.1 rfl (by show a < a + 78; omega) (by rw [fg_pbr]; rfl) ?_
  refine fg_alen (fg_ft (pc := 30) tb_Fb_init 16 rfl) hb.2.1 (by decide) (by show a + 39 < a + 78; omega) ?_
  refine fg_icmp_geN (tgt := 53) (fg_ft (pc := 31) tb_Fb_init 17 rfl) (by decide) (by decide) (by decide) (fun h => absurd h (by decide)) (fun _ => ?_)
  refine fg_aloadn (fg_ft (pc := 34) tb_Fb_init 18 rfl) rfl ?_
  refine fg_getR (b := a + 39) (fg_ft (pc := 35) tb_Fb_init 19 rfl) ff_Fb_16 hb.1 rfl (by show a < a + 78; omega) (by rw [fg_pbr]; rfl) ?_
  refine fg_iloadn (fg_ft (pc := 38) tb_Fb_init 20 rfl) rfl ?_
  refine fg_new (fg_ft (pc := 39) tb_Fb_init 21 rfl) fn_Fb_9 hb.2.2.2.2.2.2.2.2.2.2.2.2.2.2.1.1 (by show a + 78 < a + 187; omega) ?_
  refine fg_dup (fg_ft (pc := 42) tb_Fb_init 22 rfl) rfl ?_
  refine fg_callI (fg_ft (pc := 43) tb_Fb_init 23 rfl) rfl cf_Fb_11 (as := []) (st := [.ref (a + 78), .int (nI 1), .ref (a + 39)]) rfl rfl (Nat.le_of_ble_eq_true rfl) (n2 := a + 116) (by show a + 78 + 1 ≤ a + 116; omega) (by omega) (ev_Told_init hb.2.2.2.2.2.2.2.2.2.2.2.2.2.2.1 rfl (fun _ => if_pos rfl) (fun _ => if_pos rfl) ?_)
  show fg_wp _ _ _ _ _ _ _ _ _ (mk_bl _ _ _)
  refine fg_me (fg_pb6 (n := a + 78) (n' := a + 116) (by omega) (by omega) (by omega)) ?_
  refine fg_astq (i := nI 1) (fg_ft (pc := 46) tb_Fb_init 24 rfl) hb.2.1 (by decide) (by show a + 39 < a + 116; omega) (vp_in_nI (by decide) (by decide)) hb.2.2.2.2.2.2.2.2.2.2.2.2.2.2.1.1 (by show a + 78 < a + 116; omega) rfl rfl ?_
  refine fg_me (fg_pb3c (k := 1) (by omega) (nI_clamp (by decide))) ?_
  refine fg_iincN (fg_ft (pc := 47) tb_Fb_init 25 rfl) rfl ic_1 rfl ?_
  refine fg_goto (tgt := 25) (fg_ft (pc := 50) tb_Fb_init 26 rfl) (by decide) ?_
  refine fg_iloadn (fg_ft (pc := 25) tb_Fb_init 13 rfl) rfl ?_
  refine fg_aloadn (fg_ft (pc := 26) tb_Fb_init 14 rfl) rfl ?_
  refine fg_getR (b := a + 39) (fg_ft (pc := 27) tb_Fb_init 15 rfl) ff_Fb_16 hb.1 rfl (by show a < a + 116; omega) (by rw [fg_pbr]; rfl) ?_
  refine fg_alen (fg_ft (pc := 30) tb_Fb_init 16 rfl) hb.2.1 (by decide) (by show a + 39 < a + 116; omega) ?_
  refine fg_icmp_geN (tgt := 53) (fg_ft (pc := 31) tb_Fb_init 17 rfl) (by decide) (by decide) (by decide) (fun h => absurd h (by decide)) (fun _ => ?_)
  refine fg_aloadn (fg_ft (pc := 34) tb_Fb_init 18 rfl) rfl ?_
  refine fg_getR (b := a + 39) (fg_ft (pc := 35) tb_Fb_init 19 rfl) ff_Fb_16 hb.1 rfl (by show a < a + 116; omega) (by rw [fg_pbr]; rfl) ?_
  refine fg_iloadn (fg_ft (pc := 38) tb_Fb_init 20 rfl) rfl ?_
  refine fg_new (fg_ft (pc := 39) tb_Fb_init 21 rfl) fn_Fb_9 hb.2.2.2.2.2.2.2.2.2.2.2.2.2.2.2.1.1 (by show a + 116 < a + 187; omega) ?_
  refine fg_dup (fg_ft (pc := 42) tb_Fb_init 22 rfl) rfl ?_
  refine fg_callI (fg_ft (pc := 43) tb_Fb_init 23 rfl) rfl cf_Fb_11 (as := []) (st := [.ref (a + 116), .int (nI 2), .ref (a + 39)]) rfl rfl (Nat.le_of_ble_eq_true rfl) (n2 := a + 154) (by show a + 116 + 1 ≤ a + 154; omega) (by omega) (ev_Told_init hb.2.2.2.2.2.2.2.2.2.2.2.2.2.2.2.1 rfl (fun _ => if_pos rfl) (fun _ => if_pos rfl) ?_)
  show fg_wp _ _ _ _ _ _ _ _ _ (mk_bl _ _ _)
  refine fg_me (fg_pb6 (n := a + 116) (n' := a + 154) (by omega) (by omega) (by omega)) ?_
  refine fg_astq (i := nI 2) (fg_ft (pc := 46) tb_Fb_init 24 rfl) hb.2.1 (by decide) (by show a + 39 < a + 154; omega) (vp_in_nI (by decide) (by decide)) hb.2.2.2.2.2.2.2.2.2.2.2.2.2.2.2.1.1 (by show a + 116 < a + 154; omega) rfl rfl ?_
  refine fg_me (fg_pb3c (k := 2) (by omega) (nI_clamp (by decide))) ?_
  refine fg_me (fg_pb7 (by omega) (by omega) (fun j => (hb.2.2.2.2.2.2.1 j).symm) hb.2.2.2.2.2.2.2.1) ?_
  refine fg_iincN (fg_ft (pc := 47) tb_Fb_init 25 rfl) rfl ic_1 rfl ?_
  refine fg_goto (tgt := 25) (fg_ft (pc := 50) tb_Fb_init 26 rfl) (by decide) ?_
  refine fg_iloadn (fg_ft (pc := 25) tb_Fb_init 13 rfl) rfl ?_
  refine fg_aloadn (fg_ft (pc := 26) tb_Fb_init 14 rfl) rfl ?_
  refine fg_getR (b := a + 39) (fg_ft (pc := 27) tb_Fb_init 15 rfl) ff_Fb_16 hb.1 rfl (by show a < a + 154; omega) (by rw [fg_pbr]; rfl) ?_
  refine fg_alen (fg_ft (pc := 30) tb_Fb_init 16 rfl) hb.2.1 (by decide) (by show a + 39 < a + 154; omega) ?_
  refine fg_icmp_geN (tgt := 53) (fg_ft (pc := 31) tb_Fb_init 17 rfl) (by decide) (by decide) (by decide) (fun _ => ?_) (fun h => absurd h (by decide))
  refine fg_aloadn (fg_ft (pc := 53) tb_Fb_init 27 rfl) rfl ?_
  refine fg_iconst (fg_ft (pc := 54) tb_Fb_init 28 rfl) ic_3 ?_
  refine fg_newa (k := 2) (fg_ft (pc := 55) tb_Fb_init 29 rfl) rfl (by decide) fk_arrZ rfl hb.2.2.1 (by show a + 154 < a + 187; omega) ?_
  refine fg_me (fg_pb4 (n := a + 154) (by omega) (by omega) hb.2.2.2.2.2.2.2.2.1 hb.2.2.2.2.2.2.2.2.2.1) ?_
  refine fg_putRF (fg_ft (pc := 57) tb_Fb_init 30 rfl) ff_Fb_20 hb.1 rfl (by show a < a + 155; omega) (fun _ _ h => by cases h; rfl) rfl (fun _ _ h => by cases h; rfl) ?_
  refine fg_me fg_pb2 ?_
  refine fg_aloadn (fg_ft (pc := 60) tb_Fb_init 31 rfl) rfl ?_
  refine fg_new (fg_ft (pc := 61) tb_Fb_init 32 rfl) fn_Fb_24 hb.2.2.2.2.2.2.2.2.2.2.2.2.2.2.2.2.1.1 (by show a + 155 < a + 187; omega) ?_
  refine fg_dup (fg_ft (pc := 64) tb_Fb_init 33 rfl) rfl ?_
  refine fg_callIN (fg_ft (pc := 65) tb_Fb_init 34 rfl) rfl cf_Fb_26 (as := []) (st := [.ref (a + 155), .ref a]) rfl rfl (Nat.le_of_ble_eq_true rfl) (n2 := a + 173) (by show a + 155 + 1 ≤ a + 173; omega) (by omega) (ev_Reader_init hb.2.2.2.2.2.2.2.2.2.2.2.2.2.2.2.2.1 rfl (fun _ => if_pos rfl) (fun _ => if_pos rfl) ?_)
  show fg_wp _ _ _ _ _ _ _ _ _ (mk_bl _ _ _)
  refine fg_me (fg_pb6 (n := a + 155) (n' := a + 173) (by omega) (by omega) (by omega)) ?_
  refine fg_putRF (fg_ft (pc := 68) tb_Fb_init 35 rfl) ff_Fb_27 hb.1 rfl (by show a < a + 173; omega) (fun _ _ h => by cases h; rfl) rfl (fun _ _ h => by cases h; rfl) ?_
  refine fg_me fg_pb2 ?_
  refine fg_aloadn (fg_ft (pc := 71) tb_Fb_init 36 rfl) rfl ?_
  refine fg_new (fg_ft (pc := 72) tb_Fb_init 37 rfl) fn_Fb_31 hb.2.2.2.2.2.2.2.2.2.2.2.2.2.2.2.2.2.1.1 (by show a + 173 < a + 187; omega) ?_
  refine fg_dup (fg_ft (pc := 75) tb_Fb_init 38 rfl) rfl ?_
  refine fg_callIN (fg_ft (pc := 76) tb_Fb_init 39 rfl) rfl cf_Fb_33 (as := []) (st := [.ref (a + 173), .ref a]) rfl rfl (Nat.le_of_ble_eq_true rfl) (n2 := a + 177) (by show a + 173 + 1 ≤ a + 177; omega) (by omega) (ev_Folk_init hb.2.2.2.2.2.2.2.2.2.2.2.2.2.2.2.2.2.1 rfl (fun _ => if_pos rfl) (fun _ => if_pos rfl) ?_)
  show fg_wp _ _ _ _ _ _ _ _ _ (mk_bl _ _ _)
  refine fg_me (fg_pb6 (n := a + 173) (n' := a + 177) (by omega) (by omega) (by omega)) ?_
  refine fg_putRF (fg_ft (pc := 79) tb_Fb_init 40 rfl) ff_Fb_34 hb.1 rfl (by show a < a + 177; omega) (fun _ _ h => by cases h; rfl) rfl (fun _ _ h => by cases h; rfl) ?_
  refine fg_me fg_pb2 ?_
  refine fg_aloadn (fg_ft (pc := 82) tb_Fb_init 41 rfl) rfl ?_
  refine fg_new (fg_ft (pc := 83) tb_Fb_init 42 rfl) fn_Fb_31 hb.2.2.2.2.2.2.2.2.2.2.2.2.2.2.2.2.2.2.1.1 (by show a + 177 < a + 187; omega) ?_
  refine fg_dup (fg_ft (pc := 86) tb_Fb_init 43 rfl) rfl ?_
  refine fg_callIN (fg_ft (pc := 87) tb_Fb_init 44 rfl) rfl cf_Fb_33 (as := []) (st := [.ref (a + 177), .ref a]) rfl rfl (Nat.le_of_ble_eq_true rfl) (n2 := a + 181) (by show a + 177 + 1 ≤ a + 181; omega) (by omega) (ev_Folk_init hb.2.2.2.2.2.2.2.2.2.2.2.2.2.2.2.2.2.2.1 rfl (fun _ => if_pos rfl) (fun _ => if_pos rfl) ?_)
  show fg_wp _ _ _ _ _ _ _ _ _ (mk_bl _ _ _)
  refine fg_me (fg_pb6 (n := a + 177) (n' := a + 181) (by omega) (by omega) (by omega)) ?_
  refine fg_putRF (fg_ft (pc := 90) tb_Fb_init 45 rfl) ff_Fb_38 hb.1 rfl (by show a < a + 181; omega) (fun _ _ h => by cases h; rfl) rfl (fun _ _ h => by cases h; rfl) ?_
  refine fg_me fg_pb2 ?_
  refine fg_aloadn (fg_ft (pc := 93) tb_Fb_init 46 rfl) rfl ?_
  refine fg_new (fg_ft (pc := 94) tb_Fb_init 47 rfl) fn_Fb_41 hb.2.2.2.2.2.2.2.2.2.2.2.2.2.2.2.2.2.2.2.1 (by show a + 181 < a + 187; omega) ?_
  refine fg_dup (fg_ft (pc := 97) tb_Fb_init 48 rfl) rfl ?_
  refine fg_callIN (fg_ft (pc := 98) tb_Fb_init 49 rfl) rfl cf_Fb_43 (as := []) (st := [.ref (a + 181), .ref a]) rfl rfl (Nat.le_of_ble_eq_true rfl) (n2 := a + 186) (by show a + 181 + 1 ≤ a + 186; omega) (by omega) (ev_Search_init hb.2.2.2.2.2.2.2.2.2.2.2.2.2.2.2.2.2.2.2 rfl (fun _ => if_pos rfl) (fun _ => if_pos rfl) ?_)
  show fg_wp _ _ _ _ _ _ _ _ _ (mk_bl _ _ _)
  refine fg_me (fg_pb6 (n := a + 181) (n' := a + 186) (by omega) (by omega) (by omega)) ?_
  refine fg_putRF (fg_ft (pc := 101) tb_Fb_init 50 rfl) ff_Fb_44 hb.1 rfl (by show a < a + 186; omega) (fun _ _ h => by cases h; rfl) rfl (fun _ _ h => by cases h; rfl) ?_
  refine fg_me fg_pb2 ?_
  refine fg_aloadn (fg_ft (pc := 104) tb_Fb_init 51 rfl) rfl ?_
  refine fg_iconst (fg_ft (pc := 105) tb_Fb_init 52 rfl) ic_5 ?_
  refine fg_newa (k := 0) (fg_ft (pc := 106) tb_Fb_init 53 rfl) rfl (by decide) fk_arrI rfl hb.2.2.2.1 (by show a + 186 < a + 187; omega) ?_
  refine fg_me (fg_pb4 (n := a + 186) (by omega) (by omega) hb.2.2.2.2.2.2.2.2.2.2.1 hb.2.2.2.2.2.2.2.2.2.2.2.1) ?_
  refine fg_putRF (fg_ft (pc := 108) tb_Fb_init 54 rfl) ff_Fb_48 hb.1 rfl (by show a < a + 187; omega) (fun _ _ h => by cases h; rfl) rfl (fun _ _ h => by cases h; rfl) ?_
  refine fg_me fg_pb2 ?_
  refine fg_me (fg_pb8 (by omega) hb.2.2.2.2.1 hb.2.2.2.2.2.1) ?_
  exact fg_vret (fg_ft (pc := 111) tb_Fb_init 55 rfl) rfl rfl hQ
theorem mk_Rows_270 : mk_Rows 270 30 4 := ⟨ly_270, ly_271, (fun j => match j with | 0 => rfl | _ + 1 => rfl), (fun j => match j with | 0 => rfl | 1 => rfl | _ + 2 => rfl), (fun _ => rfl), (fun _ => rfl)⟩
theorem mk_Reader_255 : mk_Reader 255 := ⟨ly_255, ly_272, (fun _ => rfl), (fun j => match j with | 0 => rfl | 1 => rfl | 2 => rfl | 3 => rfl | 4 => rfl | 5 => rfl | _ + 6 => rfl), (fun _ => rfl), (fun j => match j with | 0 => rfl | 1 => rfl | 2 => rfl | 3 => rfl | 4 => rfl | 5 => rfl | 6 => rfl | 7 => rfl | 8 => rfl | 9 => rfl | 10 => rfl | 11 => rfl | 12 => rfl | 13 => rfl | 14 => rfl | 15 => rfl | 16 => rfl | _ + 17 => rfl), mk_Town_256, mk_Rows_270⟩
theorem mk_Fb_100 : mk_Fb 100 := ⟨ly_100, ly_139, ly_254, ly_286, (fun _ => rfl), (fun j => match j with | 0 => rfl | 1 => rfl | 2 => rfl | 3 => rfl | 4 => rfl | 5 => rfl | 6 => rfl | 7 => rfl | _ + 8 => rfl), (fun _ => rfl), (fun j => match j with | 0 => rfl | 1 => rfl | 2 => rfl | _ + 3 => rfl), (fun _ => rfl), (fun _ => rfl), (fun _ => rfl), (fun _ => rfl), mk_Told_101, mk_Told_140, mk_Told_178, mk_Told_216, mk_Reader_255, mk_Folk_273, mk_Folk_277, mk_Search_281⟩
