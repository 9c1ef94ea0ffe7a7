/-! calls -/
abbrev fg_k (E : fg_E) (Y : fg_Y) (d n0 n1 : Nat) (Q : Option Value → fg_M → Prop) (pc : Nat) (L st : List Value) : Option Value → fg_M → Prop := fun r M' => match r with
  | some v => fg_wp E Y d n0 n1 Q pc L (v :: st) M'
  | none => fg_wp E Y d n0 n1 Q pc L st M'
theorem fg_kt {E : fg_E} {Y : fg_Y} {d n0 n1 : Nat} {Q : Option Value → fg_M → Prop} {pc : Nat} {L st : List Value} {r : Option Value} {M' : fg_M} (h : fg_k E Y d n0 n1 Q pc L st r M') : fg_wp E Y d n0 n1 Q pc L (r.toList ++ st) M' := by
  cases r <;> exact h
theorem fg_U.same {E : fg_E} {u U : State} (h : u.vm = U.vm) (hU : fg_U E u) : fg_U E U := by
  obtain ⟨h1, h2, h3, h4⟩ := hU
  have hal : u.vm.Alike U.vm := by rw [h]; exact Vm.Alike.refl _
  exact ⟨h1.moved hal, fun q hq => va_Nw.same rfl h (h2 q hq), fun C hC => va_AO.moved hal (h3 C hC), va_Nw.same rfl h h4⟩
theorem fg_blind (E : fg_E) (as : List Value) (M : fg_M) : FrameBlind (fg_Pc E as M) := by
  intro a U g mk h
  obtain ⟨h1, h2, h3, h4, h5⟩ := h
  exact ⟨h1, h2, h3.same rfl, fg_K.moved (u := U) (U := U.calling g mk a) (Vm.Alike.refl U.vm) h4, h5⟩
def fg_cW (Y' : fg_Y) (n : Nat) : Prop := Cond.code Y'.1 Y'.2.1 Y'.2.2.1 Y'.2.2.2 ∈ fg_tbl ∧ Cond.initialized Y'.1.cls ∈ fg_tbl ∧ (Y'.1.cls ≠ "java/lang/invoke/MethodHandle" ∧ Y'.1.cls ≠ "java/lang/invoke/VarHandle" ∧ (parseMethodDescriptor Y'.1.desc).map (fun d => d.parameters.length) = some n) ∧ Y'.2.2.1 ≤ 41
def fg_cV (own : String) (index : Nat) (Y' : fg_Y) (n : Nat) : Prop := fg_cW Y' n ∧ Cond.methodLink own index Y'.1 ∈ fg_tbl ∧ Cond.instanceMethod Y'.1 ∈ fg_tbl ∧ Cond.selects Y'.1.cls Y'.1 Y'.1 ∈ fg_tbl
def fg_cS (own : String) (index : Nat) (Y' : fg_Y) (n : Nat) : Prop := fg_cW Y' n ∧ Cond.methodLink own index Y'.1 ∈ fg_tbl ∧ Cond.static Y'.1 ∈ fg_tbl
def fg_cI (own : String) (index : Nat) (Y' : fg_Y) (n : Nat) : Prop := fg_cW Y' n ∧ Cond.methodLink own index Y'.1 ∈ fg_tbl ∧ Cond.instanceMethod Y'.1 ∈ fg_tbl ∧ Y'.1.name = "<init>"
def fg_cSN (own : String) (index : Nat) (Y' : fg_Y) (n : Nat) : Prop := fg_cW Y' n ∧ (own, index, Y'.1) ∈ fg_nest ∧ Cond.static Y'.1 ∈ fg_tbl
def fg_cIN (own : String) (index : Nat) (Y' : fg_Y) (n : Nat) : Prop := fg_cW Y' n ∧ (own, index, Y'.1) ∈ fg_nest ∧ Cond.instanceMethod Y'.1 ∈ fg_tbl ∧ Y'.1.name = "<init>"
/-- the object at a is of the class C -/
def fg_is (M : fg_M) (C : String) (a : Nat) : Prop := (∃ (ci N : Nat) (T : u_T), fg_lay a = (ci, N) ∧ fg_cl[ci]? = some (C, T, N) ∧ a < M.2.2) ∨ (a, C) ∈ fg_objs
theorem fg_isRecv {E : fg_E} {Y : fg_Y} {M : fg_M} {n0 : Nat} {p : Program} {s : State} {m : MethodId} {args : Array Value} {meth : Method} {c : Code} {H : Heap} {locs : List Loc} {C1 : String} {a : Nat} (h : fg_is M C1 a) (C : fg_CX E Y n0 p s m args meth c) (hH : fg_H E M H) (hS : va_S (fg_A E) s.heap H locs) : ∃ cellB : Cell, H[fg_ad E a]? = some cellB ∧ cellB.vm.isStatics = false ∧ s.vm.findClass C1 = some cellB.cls := by
  obtain ⟨hx, hb, hret, hlk, hml, hown, hts, hU, hK, hbs, h100, hnm⟩ := id C
  rcases h with ⟨ci, N, T, h1, h2, h3⟩ | h
  · have hci : ci < 10 := by
      have := (List.getElem?_eq_some_iff.mp h2).1
      simp at this
      omega
    have he := fg_wsAt (E := E) (M := M) (fg_ge h1 (by omega)) h3
    rw [fg_entO h1 hci] at he
    exact va_recv hU.1 hH.2 h2 he
  · obtain ⟨cell, g1, g2, g3, -⟩ := (hK.2.1 _ h).kept hS.2.1
    exact ⟨cell, g1, g2, g3⟩
section FGC
variable {E : fg_E} {Y Y' : fg_Y} {d n0 n1 n2 : Nat} {Q : Option Value → fg_M → Prop} {pc : Nat} {L st : List Value} {M : fg_M}
theorem fg_pre {n0 : Nat} {p : Program} {s : State} {m : MethodId} {args : Array Value} {meth : Method} {c : Code} {H : Heap} {locs : List Loc} {as : List Value} (C : fg_CX E Y n0 p s m args meth c) (hH : fg_H E M H) (hS : va_S (fg_A E) s.heap H locs) (hsz : H.size = fg_base E + (M.2.2 - 100)) : ∀ U : State, U.heap = H → s.WarmedH U.vm → fg_Pc E as M (as.map (fg_tv E)).toArray U := by
  obtain ⟨hx, hb, hret, hlk, hml, hown, hts, hU, hK, hbs, h100, hnm⟩ := id C
  intro U hUh hW
  refine ⟨rfl, by rw [hUh]; exact hH, hU.warm hW, ?_, by rw [hUh]; exact hsz⟩
  have h1 : fg_K E s H := hK.kept hS.2.1
  rw [hUh]
  exact h1.moved hW.alike
/-- behind a call -/
theorem fg_back {p : Program} {e : Env} {s : State} {m : MethodId} {args : Array Value} {below : List Frame} {meth : Method} {c : Code} (C : fg_CX E Y n0 p s m args meth c) {H : Heap} {locs : List Loc} {ls : Array Slot} (hS : va_S (fg_A E) s.heap H locs) (h0 : n0 ≤ M.2.2) (hl : fg_lok E ls L) (hz : L.length = Y.2.2.1) (hm2 : M.2.2 ≤ n2) (hn2 : n2 ≤ n1) {av : Array Value} {st0 : List Value}
    (hrun : va_Run p E.1 e (fg_R d n0 n1) s m args below meth c H locs (M.2.2 - n0) (fg_SL M.2.2 - fg_SL n0) (n2 - M.2.2) (fg_SL n2 - fg_SL M.2.2) (F0 m pc ls st0) (st.map (fg_tv E)) (fg_Qc E (fg_k E Y d n0 n1 Q (pc + 3) L st) n2 av) (fg_A E)) :
    W p E.1 e (fg_R d n0 n1) s m args below meth c H locs (M.2.2 - n0) (fg_SL M.2.2 - fg_SL n0) (MQ below (fg_Qc E Q n1) args s (n1 - n0) (fg_SL n1 - fg_SL n0) (fg_A E)) (F0 m pc ls st0) := by
  intro T hT X
  obtain ⟨v, st₀, t, T', L', hst, X', hL', e1, e2, ⟨⟨r, M', ho, hQ, hn', hH'⟩, hF⟩, hgo⟩ := hrun T hT X
  have hbs := C.2.2.2.2.2.2.2.2.2.1
  have hv : v = r.map (fg_tv E) := by cases ho; rfl
  subst hv
  have hm0 : fg_SL n0 ≤ fg_SL M.2.2 := fg_SL_mono h0
  have hm1 : fg_SL M.2.2 ≤ fg_SL n2 := fg_SL_mono hm2
  unfold va_F at hF
  rw [hst] at hF
  have hk := fg_kt hQ p e s m args below meth c C T'.heap (locs ++ L') ls (by rw [e1]; exact hH') ⟨Nat.le_trans hS.1 (by rw [e1]; exact hF.1), fun q g1 g2 => by rw [e1, hF.2 q (Nat.lt_of_lt_of_le g1 hS.1) g2]; exact hS.2.1 q g1 g2, fun q hq => by
      rcases List.mem_append.mp hq with g | g
      · exact hS.2.2 q g
      · exact hL' q g⟩ (by rw [hn']; omega) (by rw [hn']; exact hn2) hl hz
  rw [hn', show n2 - n0 = M.2.2 - n0 + (n2 - M.2.2) by omega, show fg_SL n2 - fg_SL n0 = fg_SL M.2.2 - fg_SL n0 + (fg_SL n2 - fg_SL M.2.2) by omega] at hk
  obtain ⟨t2, a1, b1⟩ := hk T' rfl X'
  refine ⟨t2, hgo t2 ?_, b1⟩
  have hst2 : (r.toList ++ st).map (fg_tv E) = (r.map (fg_tv E)).toList ++ st.map (fg_tv E) := by cases r <;> rfl
  rw [hst2] at a1
  exact a1
theorem fg_roomOk (hm : Y'.2.2.1 ≤ 41) : (fg_R d M.2.2 n2).frames + 1 ≤ (fg_R (d + 1) n0 n1).frames ∧ 8 + (Y'.2.2.1 + 11) + (fg_R d M.2.2 n2).locals ≤ (fg_R (d + 1) n0 n1).locals := ⟨Nat.le_refl _, by show _ + 60 * d ≤ 60 * (d + 1); omega⟩
theorem fg_fits (h0 : n0 ≤ M.2.2) (hm2 : M.2.2 ≤ n2) (hn2 : n2 ≤ n1) : M.2.2 - n0 + (n2 - M.2.2) ≤ (fg_R (d + 1) n0 n1).cells ∧ fg_SL M.2.2 - fg_SL n0 + (fg_SL n2 - fg_SL M.2.2) ≤ (fg_R (d + 1) n0 n1).slots := by
  have hm0 : fg_SL n0 ≤ fg_SL M.2.2 := fg_SL_mono h0
  have hm1 : fg_SL M.2.2 ≤ fg_SL n2 := fg_SL_mono hm2
  have hm3 : fg_SL n2 ≤ fg_SL n1 := fg_SL_mono hn2
  exact ⟨by show _ ≤ n1 - n0; omega, by show _ ≤ fg_SL n1 - fg_SL n0; omega⟩
theorem fg_mapRev (E : fg_E) (as : List Value) (a : Nat) (st : List Value) : (as.reverse ++ .ref a :: st).map (fg_tv E) = (as.map (fg_tv E)).reverse ++ .ref (fg_ad E a) :: st.map (fg_tv E) := by
  rw [List.map_append, List.map_reverse]
  rfl
theorem fg_callV {index n a : Nat} {as stk : List Value} (hd : decode Y.2.1 pc = .ok (.invokevirtual index, 3)) (hf : fg_cV Y.1.cls index Y' n) (hrec : fg_is M Y'.1.cls a) (hn : as.length = n) (hs : stk = as.reverse ++ .ref a :: st) (hst : ((st.map (fg_tv E)).map fun v => v.category).sum ≤ 8) (hm2 : M.2.2 ≤ n2) (hn2 : n2 ≤ n1)
    (hE : fg_Ev E Y' d (.ref a :: as) M n2 (fg_k E Y (d + 1) n0 n1 Q (pc + 3) L st)) : fg_wp E Y (d + 1) n0 n1 Q pc L stk M := by
  intro p e s m args below meth c C H locs ls hH hS h0 h1 hl hz
  obtain ⟨hx, hb, hret, hlk, hml, hown, hts, hU, hK, hbs, h100, hnm⟩ := id C
  obtain ⟨⟨w1, w2, hdd, hmx⟩, w3, w4, w5⟩ := hf
  subst hs
  refine fg_sizeW hbs h100 hH hS h0 (fun hsz => ?_)
  have hG : GoodIn (fg_WT Y) (wsV Y.1.cls index Y'.1.cls Y'.1 (fg_WS Y')) := by
    intro w hw
    rcases List.mem_append.mp hw with g | g
    · simp only [List.mem_cons, List.not_mem_nil, or_false] at g
      rcases g with rfl | rfl | rfl | rfl
      · exact fg_good Y _ w3
      · exact fg_good Y _ w4
      · exact fg_good Y _ w5
      · exact fg_good Y _ w2
    · rcases List.mem_cons.mp g with rfl | g
      · exact fg_good Y _ w1
      · exact fg_good Y _ g
  rw [fg_mapRev]
  refine fg_back C hS h0 hl hz hm2 hn2 (va_runV (C := Y'.1.cls) (As := as.map (fg_tv E)) (rest := st.map (fg_tv E)) (nL := Y.2.2.1) ⟨hx, hb, hml, hown, hts⟩ hE (cwV n hts hG rfl rfl rfl ⟨rfl, hdd⟩ (fg_roomOk hmx)) ⟨fg_blind E _ M, fg_isRecv hrec C hH hS, fun U hU hW => fg_pre (as := .ref a :: as) C hH hS hsz U hU hW⟩ rfl (by rw [List.length_map]; exact hn) (by rw [← hz]; exact hl.1.1) rfl (lv_room hst) hd (fg_fits h0 hm2 hn2))
theorem fg_callS {index n : Nat} {as stk : List Value} (hd : decode Y.2.1 pc = .ok (.invokestatic index, 3)) (hf : fg_cS Y.1.cls index Y' n) (hn : as.length = n) (hs : stk = as.reverse ++ st) (hst : ((st.map (fg_tv E)).map fun v => v.category).sum ≤ 8) (hm2 : M.2.2 ≤ n2) (hn2 : n2 ≤ n1)
    (hE : fg_Ev E Y' d as M n2 (fg_k E Y (d + 1) n0 n1 Q (pc + 3) L st)) : fg_wp E Y (d + 1) n0 n1 Q pc L stk M := by
  intro p e s m args below meth c C H locs ls hH hS h0 h1 hl hz
  obtain ⟨hx, hb, hret, hlk, hml, hown, hts, hU, hK, hbs, h100, hnm⟩ := id C
  obtain ⟨⟨w1, w2, hdd, hmx⟩, w3, w4⟩ := hf
  subst hs
  refine fg_sizeW hbs h100 hH hS h0 (fun hsz => ?_)
  have hG : GoodIn (fg_WT Y) (va_wsS Y.1.cls index Y'.1 (fg_WS Y')) := by
    intro w hw
    rcases List.mem_append.mp hw with g | g
    · simp only [List.mem_cons, List.not_mem_nil, or_false] at g
      rcases g with rfl | rfl | rfl
      · exact fg_good Y _ w3
      · exact fg_good Y _ w4
      · exact fg_good Y _ w2
    · rcases List.mem_cons.mp g with rfl | g
      · exact fg_good Y _ w1
      · exact fg_good Y _ g
  rw [List.map_append, List.map_reverse]
  refine fg_back C hS h0 hl hz hm2 hn2 (va_runS (As := as.map (fg_tv E)) (rest := st.map (fg_tv E)) (nL := Y.2.2.1) ⟨hx, hb, hml, hown, hts⟩ hE (va_cwS n hts hG rfl rfl rfl hdd (fg_roomOk hmx)) ⟨fg_blind E _ M, fun U hU hW => fg_pre (as := as) C hH hS hsz U hU hW⟩ rfl (by rw [List.length_map]; exact hn) (by rw [← hz]; exact hl.1.1) rfl (lv_room hst) hd (fg_fits h0 hm2 hn2))
theorem fg_callSN {index n : Nat} {as stk : List Value} (hd : decode Y.2.1 pc = .ok (.invokestatic index, 3)) (hf : fg_cSN Y.1.cls index Y' n) (hn : as.length = n) (hs : stk = as.reverse ++ st) (hst : ((st.map (fg_tv E)).map fun v => v.category).sum ≤ 8) (hm2 : M.2.2 ≤ n2) (hn2 : n2 ≤ n1)
    (hE : fg_Ev E Y' d as M n2 (fg_k E Y (d + 1) n0 n1 Q (pc + 3) L st)) : fg_wp E Y (d + 1) n0 n1 Q pc L stk M := by
  intro p e s m args below meth c C H locs ls hH hS h0 h1 hl hz
  obtain ⟨hx, hb, hret, hlk, hml, hown, hts, hU, hK, hbs, h100, hnm⟩ := id C
  obtain ⟨⟨w1, w2, hdd, hmx⟩, w3, w4⟩ := hf
  subst hs
  refine fg_sizeW hbs h100 hH hS h0 (fun hsz => ?_)
  have hG : GoodIn (fg_WT Y) (fg_WS Y') := by
    intro w hw
    rcases List.mem_cons.mp hw with rfl | g
    · exact fg_good Y _ w1
    · exact fg_good Y _ g
  rw [List.map_append, List.map_reverse]
  refine fg_back C hS h0 hl hz hm2 hn2 (va_runSN (As := as.map (fg_tv E)) (rest := st.map (fg_tv E)) (nL := Y.2.2.1) ⟨hx, hb, hml, hown, hts⟩ hE ⟨va_cnB n hts hG rfl rfl rfl (hU.2.1 _ w3) (hts _ (fg_in w2)) hdd (fg_roomOk hmx), hts _ (fg_in w4), trivial⟩ ⟨fg_blind E _ M, fun U hU hW => fg_pre (as := as) C hH hS hsz U hU hW⟩ rfl (by rw [List.length_map]; exact hn) (by rw [← hz]; exact hl.1.1) rfl (lv_room hst) hd (fg_fits h0 hm2 hn2))
theorem fg_callI {index n a : Nat} {as stk : List Value} {y : MethodName} {b : ByteArray} {mL : Nat} (hd : decode Y.2.1 pc = .ok (.invokespecial index, 3)) (hY : Y' = (y, b, mL, none)) (hf : fg_cI Y.1.cls index Y' n) (hn : as.length = n) (hs : stk = as.reverse ++ .ref a :: st) (hst : ((st.map (fg_tv E)).map fun v => v.category).sum ≤ 8) (hm2 : M.2.2 ≤ n2) (hn2 : n2 ≤ n1)
    (hE : fg_Ev E Y' d (.ref a :: as) M n2 (fg_k E Y (d + 1) n0 n1 Q (pc + 3) L st)) : fg_wp E Y (d + 1) n0 n1 Q pc L stk M := by
  intro p e s m args below meth c C H locs ls hH hS h0 h1 hl hz
  obtain ⟨hx, hb, hret, hlk, hml, hown, hts, hU, hK, hbs, h100, hnm⟩ := id C
  obtain ⟨⟨w1, w2, hdd, hmx⟩, w3, w4, hnam⟩ := hf
  subst hs
  subst hY
  refine fg_sizeW hbs h100 hH hS h0 (fun hsz => ?_)
  have hG : GoodIn (fg_WT Y) (fg_WS (y, b, mL, none)) := by
    intro w hw
    rcases List.mem_cons.mp hw with rfl | g
    · exact fg_good Y _ w1
    · exact fg_good Y _ g
  rw [fg_mapRev]
  refine fg_back C hS h0 hl hz hm2 hn2 (va_runI (As := as.map (fg_tv E)) (rest := st.map (fg_tv E)) (nL := Y.2.2.1) ⟨hx, hb, hml, hown, hts⟩ hE (cwI n hts hG rfl rfl rfl (hts _ (fg_in w2)) (hts _ (fg_in w3)) (hts _ (fg_in w4)) hnam hdd (fg_roomOk hmx)) ⟨fg_blind E _ M, fun U hU hW => fg_pre (as := .ref a :: as) C hH hS hsz U hU hW⟩ rfl (by rw [List.length_map]; exact hn) (by rw [← hz]; exact hl.1.1) rfl (lv_room hst) hd (fg_fits h0 hm2 hn2))
theorem fg_callIN {index n a : Nat} {as stk : List Value} {y : MethodName} {b : ByteArray} {mL : Nat} (hd : decode Y.2.1 pc = .ok (.invokespecial index, 3)) (hY : Y' = (y, b, mL, none)) (hf : fg_cIN Y.1.cls index Y' n) (hn : as.length = n) (hs : stk = as.reverse ++ .ref a :: st) (hst : ((st.map (fg_tv E)).map fun v => v.category).sum ≤ 8) (hm2 : M.2.2 ≤ n2) (hn2 : n2 ≤ n1)
    (hE : fg_Ev E Y' d (.ref a :: as) M n2 (fg_k E Y (d + 1) n0 n1 Q (pc + 3) L st)) : fg_wp E Y (d + 1) n0 n1 Q pc L stk M := by
  intro p e s m args below meth c C H locs ls hH hS h0 h1 hl hz
  obtain ⟨hx, hb, hret, hlk, hml, hown, hts, hU, hK, hbs, h100, hnm⟩ := id C
  obtain ⟨⟨w1, w2, hdd, hmx⟩, w3, w4, hnam⟩ := hf
  subst hs
  subst hY
  refine fg_sizeW hbs h100 hH hS h0 (fun hsz => ?_)
  have hG : GoodIn (fg_WT Y) (fg_WS (y, b, mL, none)) := by
    intro w hw
    rcases List.mem_cons.mp hw with rfl | g
    · exact fg_good Y _ w1
    · exact fg_good Y _ g
  rw [fg_mapRev]
  refine fg_back C hS h0 hl hz hm2 hn2 (va_runIN (As := as.map (fg_tv E)) (rest := st.map (fg_tv E)) (nL := Y.2.2.1) ⟨hx, hb, hml, hown, hts⟩ hE ⟨va_cnB n hts hG rfl rfl rfl (hU.2.1 _ w3) (hts _ (fg_in w2)) hdd (fg_roomOk hmx), hnam, hts _ (fg_in w4)⟩ ⟨fg_blind E _ M, fun U hU hW => fg_pre (as := .ref a :: as) C hH hS hsz U hU hW⟩ rfl (by rw [List.length_map]; exact hn) (by rw [← hz]; exact hl.1.1) rfl (lv_room hst) hd (fg_fits h0 hm2 hn2))
theorem fg_objInit {index a : Nat} (hd : decode Y.2.1 pc = .ok (.invokespecial index, 3)) (w1 : Cond.methodLink Y.1.cls index Lib.objectInit ∈ fg_tbl) (w2 : Cond.instanceMethod Lib.objectInit ∈ fg_tbl) (w3 : Cond.code Lib.objectInit ⟨#[0xb1]⟩ 1 none ∈ fg_tbl) (hst : ((st.map (fg_tv E)).map fun v => v.category).sum ≤ 8)
    (k : fg_wp E Y (d + 1) n0 n1 Q (pc + 3) L st M) : fg_wp E Y (d + 1) n0 n1 Q pc L (.ref a :: st) M := by
  intro p e s m args below meth c C H locs ls hH hS h0 h1 hl hz
  obtain ⟨hx, hb, hret, hlk, hml, hown, hts, hU, hK, hbs, h100, hnm⟩ := id C
  refine W.objInit hx hb hown (hts _ (fg_in w1)) (hts _ (fg_in w2)) (hts _ (fg_in w3)) rfl (by show ls.size = c.maxLocals; rw [hl.1.1, hz, hml]) (a := fg_ad E a) (rest := st.map (fg_tv E)) rfl hd (by show 1 ≤ d + 1; omega) ?_ (k p e s m args below meth c C H locs ls hH hS h0 h1 hl hz)
  exact Nat.le_trans (Nat.add_le_add_right (lv_room hst) 12) (by show 8 + 12 ≤ 60 * (d + 1); omega)
def fg_cp (M : fg_M) (a0 a1 k : Nat) : fg_M := (fun b j => if b = a1 then (if j < k then M.1 a0 j else M.1 a1 j) else M.1 b j, M.2.1, M.2.2)
/-- System.arraycopy of the first k numbers -/
theorem fg_copy {index a0 a1 n' n'' k kk : Nat} {z0 z1 x : Int32} (hd : decode Y.2.1 pc = .ok (.invokestatic index, 3)) (w1 : Cond.methodLink Y.1.cls index arraycopyName ∈ fg_tbl) (w2 : Cond.native arraycopyName ∈ fg_tbl) (w3 : Cond.static arraycopyName ∈ fg_tbl) (w4 : Cond.initialized "java/lang/System" ∈ fg_tbl)
    (hk : kk = 10 ∨ kk = 11) (ha0 : fg_lay a0 = (kk, n')) (ha1 : fg_lay a1 = (kk, n'')) (hl0 : a0 < M.2.2) (hl1 : a1 < M.2.2) (hz0 : z0 = 0) (hz1 : z1 = 0) (hxk : x = nI k) (hk0 : k ≤ n') (hk1 : k ≤ n'') (hfit : ∀ i, i < k → fits (fg_aty (kk - 10)) (.int (M.1 a0 i)) = true) (hst : ((st.map (fg_tv E)).map fun v => v.category).sum ≤ 8)
    (k2 : fg_wp E Y (d + 1) n0 n1 Q (pc + 3) L st (fg_cp M a0 a1 k)) : fg_wp E Y (d + 1) n0 n1 Q pc L (.int x :: .int z1 :: .ref a1 :: .int z0 :: .ref a0 :: st) M := by
  intro p e s m args below meth c C H locs ls hH hS h0 h1 hl hz
  obtain ⟨hx, hb, hret, hlk, hml, hown, hts, hU, hK, hbs, h100, hnm⟩ := id C
  subst hz0; subst hz1; subst hxk
  have hn' := fg_szLe ha0
  have e0 := fg_wsAt (E := E) (M := M) (fg_ge ha0 (by omega)) hl0
  have e1 := fg_wsAt (E := E) (M := M) (fg_ge ha1 (by omega)) hl1
  rw [fg_entI ha0 (by omega) (by omega)] at e0
  rw [fg_entI ha1 (by omega) (by omega)] at e1
  have ht := fg_tysAt E (k := kk - 10) (by omega)
  have hcl : (nI k).toNatClampNeg = k := nI_clamp (by omega)
  have hcz : (0 : Int32).toNatClampNeg = 0 := by decide
  have hf : va_cpy (M.1 a0) (M.1 a1) 0 0 k = (fg_cp M a0 a1 k).1 a1 := by
    funext j
    simp only [va_cpy, fg_cp, if_true, Nat.zero_le, true_and, Nat.zero_add, Nat.sub_zero]
  have hset := fg_wsSet (E := E) (M := M) (M' := fg_cp M a0 a1 k) (a := a1) (fg_ge ha1 (by omega)) hl1 rfl (fg_entI ha1 (by omega) (by omega)) (fun q hq => fg_entCong (fun i => if_neg hq) (fun i => rfl))
  refine va_copyi (D := E.2.1) (cl := fg_cl) (tys := fg_tys E) (ws := fg_ws E M) (ty := fg_aty (kk - 10)) hx hb (by rw [hl.1.1, hz, hml]) hown (hts _ (fg_in w1)) (hts _ (fg_in w2)) (hts _ (fg_in w3)) (hts _ (fg_in w4)) hU.1 hH.2 fg_wsD hS (a0 - 100) (a1 - 100) (kk - 10) (kk - 10) e0 e1 ht ht (by rcases hk with rfl | rfl <;> rfl) (by decide) (by decide) (nI_pos (by omega)) (by rw [hcl, hcz]; omega) (by rw [hcl, hcz]; omega) (fun i hi => by rw [hcl] at hi; rw [hcz, Nat.zero_add]; exact hfit i hi) (by show 1 ≤ d + 1; omega) ?_ hd (fun H1 locs1 hP1 hD1 hS1 => k2 p e s m args below meth c C H1 locs1 ls ⟨hH.1, ?_⟩ hS1 h0 h1 hl hz)
  · have h9 : nativeFrameWords "java/lang/System" "arraycopy" 5 + 11 ≤ 52 := by decide +kernel
    show _ ≤ 60 * (d + 1)
    omega
  · rw [hcl, hcz, hf] at hP1
    rw [← hset]
    exact hP1
end FGC
