
def fg_SL : Nat → Nat
  | 0 => 0
  | n + 1 => fg_SL n + (fg_lay n).2
theorem fg_SL_mono {a b : Nat} (h : a ≤ b) : fg_SL a ≤ fg_SL b := by
  induction b with
  | zero => rw [Nat.le_zero.mp h]; exact Nat.le_refl _
  | succ b ih =>
    rcases Nat.lt_or_ge a (b + 1) with q | q
    · exact Nat.le_trans (ih (by omega)) (Nat.le_add_right _ _)
    · rw [show a = b + 1 by omega]; exact Nat.le_refl _
def fg_tbl : List Cond := lw_tbl.filter goodWord
def fg_WS (Y : fg_Y) : List Cond := Cond.code Y.1 Y.2.1 Y.2.2.1 Y.2.2.2 :: fg_tbl
theorem fg_tblIn {w : Cond} (i : Nat) (h : lw_tbl[i]? = some w) (hg : goodWord w = true) : w ∈ fg_tbl := List.mem_filter.mpr ⟨List.mem_of_getElem? h, hg⟩
def fg_WT (_ : fg_Y) : List Cond := fg_tbl
theorem fg_in {Y : fg_Y} {w : Cond} (h : w ∈ fg_tbl) : w ∈ fg_WT Y := h
theorem fg_in2 {Y : fg_Y} {w : Cond} (h : w ∈ fg_WT Y) : w ∈ fg_WS Y := List.mem_cons_of_mem _ h
theorem fg_good (Y : fg_Y) : ∀ w ∈ fg_tbl, w ∈ fg_WT Y ∧ ((w.onTables && w.keeps) = true ∨ ∃ ty, w = .arrayClass ty) := fun w h => ⟨fg_in h, good_of_word (List.mem_filter.mp h).2⟩
def fg_R (d n0 n1 : Nat) : Room := { frames := d, cells := n1 - n0, slots := fg_SL n1 - fg_SL n0, locals := 60 * d }
/-- what stays while a method runs -/
def fg_CX (E : fg_E) (Y : fg_Y) (n0 : Nat) (p : Program) (s : State) (m : MethodId) (args : Array Value) (meth : Method) (c : Code) : Prop :=
  p.tables.exec = Jvm.exec ∧ c.code = Y.2.1 ∧ meth.sig.returnType = Y.2.2.2 ∧ meth.locks = false ∧ c.maxLocals = Y.2.2.1 ∧ s.vm.findClass Y.1.cls = some m.cls ∧ (∀ w ∈ fg_WT Y, w.before args s = true) ∧ fg_U E s ∧ fg_K E s s.heap ∧ s.heap.size = fg_base E + (n0 - 100) ∧ 100 ≤ n0 ∧ (Y.1.name = "<init>" → meth.name = "<init>")
def fg_nr (v : Value) : Bool := match v with
  | .retAddr _ => false
  | _ => true
def fg_al (E : fg_E) (L : List Value) : List (Nat × Value) := (List.range L.length).filterMap (fun i => if fg_nr (L.getD i (.retAddr 0)) then some (i, fg_tv E (L.getD i (.retAddr 0))) else none)
def fg_lok (E : fg_E) (ls : Array Slot) (L : List Value) : Prop := lv_has ls L.length (fg_al E L) ∧ ∀ v ∈ L, v.category = 1
theorem fg_alIn {E : fg_E} {L : List Value} {i : Nat} {v : Value} (h : L[i]? = some v) (hr : fg_nr v = true) : (i, fg_tv E v) ∈ fg_al E L := by
  obtain ⟨hl, he⟩ := List.getElem?_eq_some_iff.mp h
  refine List.mem_filterMap.mpr ⟨i, List.mem_range.mpr hl, ?_⟩
  have e : L.getD i (.retAddr 0) = v := by simp [List.getD, h]
  rw [e, hr]
  rfl
theorem fg_lokAt {E : fg_E} {ls : Array Slot} {L : List Value} (h : fg_lok E ls L) {i : Nat} {v : Value} (hv : L[i]? = some v) (hr : fg_nr v = true) : ls[i]? = some (.val (fg_tv E v)) := h.1.2.2 (i, fg_tv E v) (fg_alIn hv hr)
theorem fg_tvc (E : fg_E) (v : Value) : (fg_tv E v).category = v.category := by cases v <;> rfl
theorem fg_lokSet {E : fg_E} {ls ls' : Array Slot} {L : List Value} {i : Nat} {v : Value} (h : fg_lok E ls L) (hv : v.category = 1) (hi : i < L.length)
    (h' : lv_has ls' L.length ((i, fg_tv E v) :: (fg_al E L).filter (fun q => !(q.1 == i) && !(q.1 + 1 == i && q.2.category == 2)))) : fg_lok E ls' (L.set i v) := by
  refine ⟨⟨by rw [List.length_set]; exact h'.1, h'.2.1, fun q hq => ?_⟩, fun w hw => ?_⟩
  · obtain ⟨j, hj, hq⟩ := List.mem_filterMap.mp hq
    rw [List.length_set] at hj
    have hj := List.mem_range.mp hj
    by_cases hji : j = i
    · subst hji
      have e : (L.set j v).getD j (.retAddr 0) = v := by simp [List.getD, hi]
      rw [e] at hq
      cases hr : fg_nr v with
      | false => rw [hr] at hq; cases hq
      | true =>
        rw [hr] at hq
        cases hq
        exact h'.2.2 _ List.mem_cons_self
    · have e : (L.set i v).getD j (.retAddr 0) = L.getD j (.retAddr 0) := by simp [List.getD, List.getElem?_set_ne (Ne.symm hji)]
      rw [e] at hq
      have hm : L.getD j (.retAddr 0) ∈ L := by
        simp only [List.getD, List.getElem?_eq_getElem hj, Option.getD_some]
        exact List.getElem_mem hj
      cases hr : fg_nr (L.getD j (.retAddr 0)) with
      | false => rw [hr] at hq; cases hq
      | true =>
        rw [hr] at hq
        cases hq
        refine h'.2.2 _ (List.mem_cons_of_mem _ (List.mem_filter.mpr ⟨fg_alIn (v := L.getD j (.retAddr 0)) ?_ hr, ?_⟩))
        · simp [List.getD, List.getElem?_eq_getElem hj]
        · have hc : (fg_tv E (L.getD j (.retAddr 0))).category = 1 := by rw [fg_tvc]; exact h.2 _ hm
          show (!(j == i) && !(j + 1 == i && (fg_tv E (L.getD j (.retAddr 0))).category == 2)) = true
          rw [hc]
          simp [hji]
  · rcases List.mem_or_eq_of_mem_set hw with q | q
    · exact h.2 w q
    · rw [q]; exact hv
def fg_Qc (E : fg_E) (Q : Option Value → fg_M → Prop) (n1 : Nat) : Array Value → State → Outcome → State → Prop := fun _ st o t => (∃ (r : Option Value) (M' : fg_M), o = .returned (r.map (fg_tv E)) ∧ Q r M' ∧ M'.2.2 = n1 ∧ fg_H E M' t.heap) ∧ va_F (fg_A E) st t
def fg_Pc (E : fg_E) (as : List Value) (M : fg_M) : Array Value → State → Prop := fun v U => v = (as.map (fg_tv E)).toArray ∧ fg_H E M U.heap ∧ fg_U E U ∧ fg_K E U U.heap ∧ U.heap.size = fg_base E + (M.2.2 - 100)
/-- from here the method comes to its end, with Q of its answer and the memory then -/
def fg_wp (E : fg_E) (Y : fg_Y) (d n0 n1 : Nat) (Q : Option Value → fg_M → Prop) (pc : Nat) (L st : List Value) (M : fg_M) : Prop :=
  ∀ (p : Program) (e : Env) (s : State) (m : MethodId) (args : Array Value) (below : List Frame) (meth : Method) (c : Code), fg_CX E Y n0 p s m args meth c →
  ∀ (H : Heap) (locs : List Loc) (ls : Array Slot), fg_H E M H → va_S (fg_A E) s.heap H locs → n0 ≤ M.2.2 → M.2.2 ≤ n1 → fg_lok E ls L → L.length = Y.2.2.1 →
    W p E.1 e (fg_R d n0 n1) s m args below meth c H locs (M.2.2 - n0) (fg_SL M.2.2 - fg_SL n0) (MQ below (fg_Qc E Q n1) args s (n1 - n0) (fg_SL n1 - fg_SL n0) (fg_A E)) (F0 m pc ls (st.map (fg_tv E)))
/-- a call, from its arguments on -/
def fg_Ev (E : fg_E) (Y : fg_Y) (d : Nat) (as : List Value) (M : fg_M) (n1 : Nat) (Q : Option Value → fg_M → Prop) : Prop :=
  Met E.1 Y.1 (fg_WS Y) (fg_R d M.2.2 n1) (fg_Pc E as M) (fg_Qc E Q n1) (n1 - M.2.2) (fg_SL n1 - fg_SL M.2.2) (fg_A E)
def fg_en (as : List Value) (n : Nat) : List Value := as ++ List.replicate (n - as.length) (.retAddr 0)
theorem fg_slLen (vs : List Value) (h : ∀ v ∈ vs, v.category = 1) : (lg_sl vs).length = vs.length := by
  induction vs with
  | nil => rfl
  | cons v l ih =>
    have h1 := h v List.mem_cons_self
    simp only [lg_sl, List.flatMap_cons, List.length_append, List.length_cons] at ih ⊢
    rw [h1]
    rw [ih (fun w hw => h w (List.mem_cons_of_mem _ hw))]
    simp; omega
theorem fg_argsIn (E : fg_E) (vs : List Value) : ∀ (k : Nat), (∀ v ∈ vs, v.category = 1) → ∀ (i : Nat) (v : Value), vs[i]? = some v → (k + i, fg_tv E v) ∈ lv_args k (vs.map (fg_tv E)) := by
  induction vs with
  | nil => intro k h i v hv; cases hv
  | cons w l ih =>
    intro k h i v hv
    have hc : (fg_tv E w).category = 1 := by rw [fg_tvc]; exact h w List.mem_cons_self
    simp only [List.map_cons, lv_args, hc]
    cases i with
    | zero => cases hv; exact List.mem_cons_self
    | succ i =>
      have h2 := ih (k + 1) (fun x hx => h x (List.mem_cons_of_mem _ hx)) i v hv
      rw [show k + (i + 1) = k + 1 + i by omega]
      exact List.mem_cons_of_mem _ h2
theorem fg_intro {E : fg_E} {Y : fg_Y} {d : Nat} {as : List Value} {M : fg_M} {n1 : Nat} {Q : Option Value → fg_M → Prop} (hy : plainName Y.1.cls = true) (ha : as.length ≤ Y.2.2.1) (hc : ∀ v ∈ as, v.category = 1 ∧ fg_nr v = true) (hn : M.2.2 ≤ n1)
    (k : fg_wp E Y d M.2.2 n1 Q 0 (fg_en as Y.2.2.1) [] M) : fg_Ev E Y d as M n1 Q := by
  refine Met.ofW (cc := Y.2.1) (maxL := Y.2.2.1) (ret := Y.2.2.2) hy rfl ?_
  intro p e s m args below meth c s₁ B hml hv
  obtain ⟨rfl, hH, hU, hK, hsz⟩ := hv
  have hts0 := atoms_spec (ws := fg_WS Y) B.pre
  have hts : ∀ w ∈ fg_WT Y, w.before _ s = true := fun w hw => hts0 w (fg_in2 hw)
  have hc1 : ∀ v ∈ as.map (fg_tv E), v.category = 1 := by
    intro v hv
    obtain ⟨w, hw, rfl⟩ := List.mem_map.mp hv
    rw [fg_tvc]
    exact (hc w hw).1
  have hle : (lg_sl (as.map (fg_tv E))).length ≤ Y.2.2.1 := by rw [fg_slLen _ hc1, List.length_map]; exact ha
  have hl := lv_entry (as.map (fg_tv E)) (n := Y.2.2.1) hle
  have hen : (fg_en as Y.2.2.1).length = Y.2.2.1 := by simp [fg_en]; omega
  rw [lg_entry_eq]
  generalize (lg_sl (as.map (fg_tv E)) ++ List.replicate (Y.2.2.1 - (lg_sl (as.map (fg_tv E))).length) Slot.unset).toArray = ls at hl ⊢
  have hk := k p e s m _ below meth c ⟨B.exec, B.bytes, B.returns, B.notSynchronized, hml, findClass_of_methodNamed B.named, hts, hU, hK, hsz, hH.1, fun hi => (name_of_methodNamed B.named B.method).1.trans hi⟩ s.heap [] ls hH va_S.rf (Nat.le_refl _) hn ?_ hen
  · rw [Nat.sub_self, Nat.sub_self] at hk
    exact hk
  · refine ⟨⟨by rw [hen]; exact hl.1, hl.2.1, fun q hq => ?_⟩, fun v hv => ?_⟩
    · obtain ⟨j, hj, hq⟩ := List.mem_filterMap.mp hq
      have hj := List.mem_range.mp hj
      by_cases hja : j < as.length
      · have e : (fg_en as Y.2.2.1).getD j (.retAddr 0) = as[j] := by simp [fg_en, List.getD, List.getElem?_append_left hja, hja]
        rw [e] at hq
        rw [(hc as[j] (List.getElem_mem hja)).2] at hq
        cases hq
        have := fg_argsIn E as 0 (fun v hv => (hc v hv).1) j as[j] (List.getElem?_eq_getElem hja)
        rw [Nat.zero_add] at this
        exact hl.2.2 _ this
      · have e : (fg_en as Y.2.2.1).getD j (.retAddr 0) = .retAddr 0 := by
          simp only [fg_en, List.getD]
          rw [List.getElem?_append_right (by omega)]
          simp [List.getElem?_replicate]
          split <;> rfl
        rw [e] at hq
        cases hq
    · rcases List.mem_append.mp hv with q | q
      · exact (hc v q).1
      · rw [(List.mem_replicate.mp q).2]; rfl

/-- the heap's size, by the room that the walk keeps book of -/
theorem fg_size {E : fg_E} {M : fg_M} {s : State} {H : Heap} {n0 : Nat} (hs : s.heap.size = fg_base E + (n0 - 100)) (hH : fg_H E M H) (h0 : n0 ≤ M.2.2) (hge : s.heap.size ≤ H.size) (hle : H.size ≤ s.heap.size + (M.2.2 - n0)) (h100 : 100 ≤ n0) : H.size = fg_base E + (M.2.2 - 100) := by
  obtain ⟨h1, hP⟩ := hH
  by_cases hn : M.2.2 = 100
  · omega
  · have hl := (hP _ _ (fg_wsAt (E := E) (M := M) (a := M.2.2 - 1) (by omega) (by omega))).lt
    rw [show fg_ad E (M.2.2 - 1) = fg_base E + (M.2.2 - 1 - 100) from fg_adE (by omega)] at hl
    omega
theorem fg_sizeW {E : fg_E} {M : fg_M} {p : Program} {l : Launch} {e : Env} {R : Room} {s : State} {m : MethodId} {args : Array Value} {below : List Frame} {meth : Method} {c : Code} {H : Heap} {locs : List Loc} {sl n0 : Nat} {Q : State → Prop} {g : JFrame} {A : Nat → Prop} (hs : s.heap.size = fg_base E + (n0 - 100)) (h100 : 100 ≤ n0) (hH : fg_H E M H) (hS : va_S A s.heap H locs) (h0 : n0 ≤ M.2.2)
    (k : H.size = fg_base E + (M.2.2 - 100) → W p l e R s m args below meth c H locs (M.2.2 - n0) sl Q g) : W p l e R s m args below meth c H locs (M.2.2 - n0) sl Q g := by
  intro T hT X
  refine k (fg_size hs hH h0 hS.1 ?_ h100) T hT X
  have h := X.same.2.2.1
  rw [← hT]
  exact h
section FGR
variable {E : fg_E} {Y : fg_Y} {d n0 n1 : Nat} {Q : Option Value → fg_M → Prop} {pc : Nat} {L st : List Value} {M : fg_M}
theorem fg_iadd {x y : Int32} (hd : decode Y.2.1 pc = .ok (.iadd, 1))  (k : fg_wp E Y d n0 n1 Q (pc + 1) L (.int (x + y) :: st) M) : fg_wp E Y d n0 n1 Q pc L (.int y :: .int x :: st) M := fun p e s m args below meth c C H locs ls hH hS h0 h1 hl hz => lv_iadd C.1 C.2.1 hd (k p e s m args below meth c C H locs ls hH hS h0 h1 hl hz)
theorem fg_isub {x y : Int32} (hd : decode Y.2.1 pc = .ok (.isub, 1))  (k : fg_wp E Y d n0 n1 Q (pc + 1) L (.int (x - y) :: st) M) : fg_wp E Y d n0 n1 Q pc L (.int y :: .int x :: st) M := fun p e s m args below meth c C H locs ls hH hS h0 h1 hl hz => lv_isub C.1 C.2.1 hd (k p e s m args below meth c C H locs ls hH hS h0 h1 hl hz)
theorem fg_imul {x y : Int32} (hd : decode Y.2.1 pc = .ok (.imul, 1))  (k : fg_wp E Y d n0 n1 Q (pc + 1) L (.int (x * y) :: st) M) : fg_wp E Y d n0 n1 Q pc L (.int y :: .int x :: st) M := fun p e s m args below meth c C H locs ls hH hS h0 h1 hl hz => lv_imul C.1 C.2.1 hd (k p e s m args below meth c C H locs ls hH hS h0 h1 hl hz)
theorem fg_iand {x y : Int32} (hd : decode Y.2.1 pc = .ok (.iand, 1))  (k : fg_wp E Y d n0 n1 Q (pc + 1) L (.int (x &&& y) :: st) M) : fg_wp E Y d n0 n1 Q pc L (.int y :: .int x :: st) M := fun p e s m args below meth c C H locs ls hH hS h0 h1 hl hz => lv_iand C.1 C.2.1 hd (k p e s m args below meth c C H locs ls hH hS h0 h1 hl hz)
theorem fg_ior {x y : Int32} (hd : decode Y.2.1 pc = .ok (.ior, 1))  (k : fg_wp E Y d n0 n1 Q (pc + 1) L (.int (x ||| y) :: st) M) : fg_wp E Y d n0 n1 Q pc L (.int y :: .int x :: st) M := fun p e s m args below meth c C H locs ls hH hS h0 h1 hl hz => lv_ior C.1 C.2.1 hd (k p e s m args below meth c C H locs ls hH hS h0 h1 hl hz)
theorem fg_ixor {x y : Int32} (hd : decode Y.2.1 pc = .ok (.ixor, 1))  (k : fg_wp E Y d n0 n1 Q (pc + 1) L (.int (x ^^^ y) :: st) M) : fg_wp E Y d n0 n1 Q pc L (.int y :: .int x :: st) M := fun p e s m args below meth c C H locs ls hH hS h0 h1 hl hz => lv_ixor C.1 C.2.1 hd (k p e s m args below meth c C H locs ls hH hS h0 h1 hl hz)
theorem fg_ishl {x y : Int32} (hd : decode Y.2.1 pc = .ok (.ishl, 1))  (k : fg_wp E Y d n0 n1 Q (pc + 1) L (.int (x <<< (y &&& 31)) :: st) M) : fg_wp E Y d n0 n1 Q pc L (.int y :: .int x :: st) M := fun p e s m args below meth c C H locs ls hH hS h0 h1 hl hz => lv_ishl C.1 C.2.1 hd (k p e s m args below meth c C H locs ls hH hS h0 h1 hl hz)
theorem fg_ishr {x y : Int32} (hd : decode Y.2.1 pc = .ok (.ishr, 1))  (k : fg_wp E Y d n0 n1 Q (pc + 1) L (.int (x >>> (y &&& 31)) :: st) M) : fg_wp E Y d n0 n1 Q pc L (.int y :: .int x :: st) M := fun p e s m args below meth c C H locs ls hH hS h0 h1 hl hz => lv_ishr C.1 C.2.1 hd (k p e s m args below meth c C H locs ls hH hS h0 h1 hl hz)
theorem fg_iushr {x y : Int32} (hd : decode Y.2.1 pc = .ok (.iushr, 1))  (k : fg_wp E Y d n0 n1 Q (pc + 1) L (.int ((x.toUInt32 >>> (y.toUInt32 &&& Int32.toUInt32 31)).toInt32) :: st) M) : fg_wp E Y d n0 n1 Q pc L (.int y :: .int x :: st) M := fun p e s m args below meth c C H locs ls hH hS h0 h1 hl hz => lv_iushr C.1 C.2.1 hd rfl (k p e s m args below meth c C H locs ls hH hS h0 h1 hl hz)
theorem fg_ineg {x : Int32} (hd : decode Y.2.1 pc = .ok (.ineg, 1))  (k : fg_wp E Y d n0 n1 Q (pc + 1) L (.int (-x) :: st) M) : fg_wp E Y d n0 n1 Q pc L (.int x :: st) M := fun p e s m args below meth c C H locs ls hH hS h0 h1 hl hz => lv_ineg C.1 C.2.1 hd (k p e s m args below meth c C H locs ls hH hS h0 h1 hl hz)
theorem fg_idiv {x y : Int32} (hd : decode Y.2.1 pc = .ok (.idiv, 1)) (hne : ¬ y = 0) (k : fg_wp E Y d n0 n1 Q (pc + 1) L (.int (x / y) :: st) M) : fg_wp E Y d n0 n1 Q pc L (.int y :: .int x :: st) M := fun p e s m args below meth c C H locs ls hH hS h0 h1 hl hz => lv_idiv C.1 C.2.1 hd hne (k p e s m args below meth c C H locs ls hH hS h0 h1 hl hz)
theorem fg_irem {x y : Int32} (hd : decode Y.2.1 pc = .ok (.irem, 1)) (hne : ¬ y = 0) (k : fg_wp E Y d n0 n1 Q (pc + 1) L (.int (x - x / y * y) :: st) M) : fg_wp E Y d n0 n1 Q pc L (.int y :: .int x :: st) M := fun p e s m args below meth c C H locs ls hH hS h0 h1 hl hz => lv_irem C.1 C.2.1 hd hne (k p e s m args below meth c C H locs ls hH hS h0 h1 hl hz)
theorem fg_i2b {x : Int32} (hd : decode Y.2.1 pc = .ok (.i2b, 1))  (k : fg_wp E Y d n0 n1 Q (pc + 1) L (.int x.toInt8.toInt32 :: st) M) : fg_wp E Y d n0 n1 Q pc L (.int x :: st) M := fun p e s m args below meth c C H locs ls hH hS h0 h1 hl hz => lv_i2b C.1 C.2.1 hd rfl (k p e s m args below meth c C H locs ls hH hS h0 h1 hl hz)
theorem fg_i2c {x : Int32} (hd : decode Y.2.1 pc = .ok (.i2c, 1))  (k : fg_wp E Y d n0 n1 Q (pc + 1) L (.int (x.toUInt32 % 65536).toInt32 :: st) M) : fg_wp E Y d n0 n1 Q pc L (.int x :: st) M := fun p e s m args below meth c C H locs ls hH hS h0 h1 hl hz => lv_i2c C.1 C.2.1 hd rfl (k p e s m args below meth c C H locs ls hH hS h0 h1 hl hz)
theorem fg_iconst {n : Int} {v : Int32} (hd : decode Y.2.1 pc = .ok ((.iconst n), 1)) (hv : Int32.ofInt n = v) (k : fg_wp E Y d n0 n1 Q (pc + 1) L (.int v :: st) M) : fg_wp E Y d n0 n1 Q pc L st M := fun p e s m args below meth c C H locs ls hH hS h0 h1 hl hz => lv_iconst C.1 C.2.1 hd hv (k p e s m args below meth c C H locs ls hH hS h0 h1 hl hz)
theorem fg_bipush {n : Int} {v : Int32} (hd : decode Y.2.1 pc = .ok ((.bipush n), 2)) (hv : (Int8.ofInt n).toInt32 = v) (k : fg_wp E Y d n0 n1 Q (pc + 2) L (.int v :: st) M) : fg_wp E Y d n0 n1 Q pc L st M := fun p e s m args below meth c C H locs ls hH hS h0 h1 hl hz => lv_bipush C.1 C.2.1 hd hv (k p e s m args below meth c C H locs ls hH hS h0 h1 hl hz)
theorem fg_sipush {n : Int} {v : Int32} (hd : decode Y.2.1 pc = .ok ((.sipush n), 3)) (hv : (Int16.ofInt n).toInt32 = v) (k : fg_wp E Y d n0 n1 Q (pc + 3) L (.int v :: st) M) : fg_wp E Y d n0 n1 Q pc L st M := fun p e s m args below meth c C H locs ls hH hS h0 h1 hl hz => lv_sipush C.1 C.2.1 hd hv (k p e s m args below meth c C H locs ls hH hS h0 h1 hl hz)
theorem fg_null  (hd : decode Y.2.1 pc = .ok (.aconst_null, 1))  (k : fg_wp E Y d n0 n1 Q (pc + 1) L (.null :: st) M) : fg_wp E Y d n0 n1 Q pc L st M := fun p e s m args below meth c C H locs ls hH hS h0 h1 hl hz => lv_null C.1 C.2.1 hd (k p e s m args below meth c C H locs ls hH hS h0 h1 hl hz)
theorem fg_dup {v : Value} (hd : decode Y.2.1 pc = .ok (.dup, 1)) (hv : v.category = 1) (k : fg_wp E Y d n0 n1 Q (pc + 1) L (v :: v :: st) M) : fg_wp E Y d n0 n1 Q pc L (v :: st) M := fun p e s m args below meth c C H locs ls hH hS h0 h1 hl hz => lv_dup C.1 C.2.1 hd (by rw [fg_tvc]; exact hv) (k p e s m args below meth c C H locs ls hH hS h0 h1 hl hz)
theorem fg_dup2 {v w : Value} (hd : decode Y.2.1 pc = .ok (.dup2, 1)) (hv : v.category = 1) (hw : w.category = 1) (k : fg_wp E Y d n0 n1 Q (pc + 1) L (v :: w :: v :: w :: st) M) : fg_wp E Y d n0 n1 Q pc L (v :: w :: st) M := fun p e s m args below meth c C H locs ls hH hS h0 h1 hl hz => lv_dup2_11 C.1 C.2.1 hd (by rw [fg_tvc]; exact hv) (by rw [fg_tvc]; exact hw) (k p e s m args below meth c C H locs ls hH hS h0 h1 hl hz)
theorem fg_pop {v : Value} (hd : decode Y.2.1 pc = .ok (.pop, 1)) (hv : v.category = 1) (k : fg_wp E Y d n0 n1 Q (pc + 1) L st M) : fg_wp E Y d n0 n1 Q pc L (v :: st) M := fun p e s m args below meth c C H locs ls hH hS h0 h1 hl hz => lv_pop C.1 C.2.1 hd (by rw [fg_tvc]; exact hv) (k p e s m args below meth c C H locs ls hH hS h0 h1 hl hz)
theorem fg_iloadn {i : Fin 4} {x : Int32} (hd : decode Y.2.1 pc = .ok ((.iload_n i), 1)) (hv : L[i.val]? = some (.int x)) (k : fg_wp E Y d n0 n1 Q (pc + 1) L (.int x :: st) M) : fg_wp E Y d n0 n1 Q pc L st M := fun p e s m args below meth c C H locs ls hH hS h0 h1 hl hz => lv_iload_n C.1 C.2.1 hd rfl (fg_lokAt hl hv rfl) (k p e s m args below meth c C H locs ls hH hS h0 h1 hl hz)
theorem fg_iload {i : Nat} {x : Int32} (hd : decode Y.2.1 pc = .ok ((.iload i), 2)) (hv : L[i]? = some (.int x)) (k : fg_wp E Y d n0 n1 Q (pc + 2) L (.int x :: st) M) : fg_wp E Y d n0 n1 Q pc L st M := fun p e s m args below meth c C H locs ls hH hS h0 h1 hl hz => lv_iload C.1 C.2.1 hd (fg_lokAt hl hv rfl) (k p e s m args below meth c C H locs ls hH hS h0 h1 hl hz)
theorem fg_aloadn {i : Fin 4} {a : Nat} (hd : decode Y.2.1 pc = .ok ((.aload_n i), 1)) (hv : L[i.val]? = some (.ref a)) (k : fg_wp E Y d n0 n1 Q (pc + 1) L (.ref a :: st) M) : fg_wp E Y d n0 n1 Q pc L st M := fun p e s m args below meth c C H locs ls hH hS h0 h1 hl hz => lv_aload_n C.1 C.2.1 hd rfl (fg_lokAt hl hv rfl) (k p e s m args below meth c C H locs ls hH hS h0 h1 hl hz)
theorem fg_aload {i : Nat} {a : Nat} (hd : decode Y.2.1 pc = .ok ((.aload i), 2)) (hv : L[i]? = some (.ref a)) (k : fg_wp E Y d n0 n1 Q (pc + 2) L (.ref a :: st) M) : fg_wp E Y d n0 n1 Q pc L st M := fun p e s m args below meth c C H locs ls hH hS h0 h1 hl hz => lv_aload C.1 C.2.1 hd (fg_lokAt hl hv rfl) (k p e s m args below meth c C H locs ls hH hS h0 h1 hl hz)
theorem fg_aloadnN {i : Fin 4} (hd : decode Y.2.1 pc = .ok ((.aload_n i), 1)) (hv : L[i.val]? = some .null) (k : fg_wp E Y d n0 n1 Q (pc + 1) L (.null :: st) M) : fg_wp E Y d n0 n1 Q pc L st M := fun p e s m args below meth c C H locs ls hH hS h0 h1 hl hz => lv_aload_nN C.1 C.2.1 hd rfl (fg_lokAt hl hv rfl) (k p e s m args below meth c C H locs ls hH hS h0 h1 hl hz)
theorem fg_aloadN {i : Nat} (hd : decode Y.2.1 pc = .ok ((.aload i), 2)) (hv : L[i]? = some .null) (k : fg_wp E Y d n0 n1 Q (pc + 2) L (.null :: st) M) : fg_wp E Y d n0 n1 Q pc L st M := fun p e s m args below meth c C H locs ls hH hS h0 h1 hl hz => lv_aloadN C.1 C.2.1 hd (fg_lokAt hl hv rfl) (k p e s m args below meth c C H locs ls hH hS h0 h1 hl hz)
theorem fg_istoren {i : Fin 4} {x : Int32} (hd : decode Y.2.1 pc = .ok (.istore_n i, 1)) (hi : i.val < L.length) (k : fg_wp E Y d n0 n1 Q (pc + 1) (L.set i.val (.int x)) st M) : fg_wp E Y d n0 n1 Q pc L (.int x :: st) M := fun p e s m args below meth c C H locs ls hH hS h0 h1 hl hz => lv_istore_n C.1 C.2.1 hd rfl hl.1 hi rfl (fun ls' h' => k p e s m args below meth c C H locs ls' hH hS h0 h1 (fg_lokSet hl rfl hi h') (by rw [List.length_set]; exact hz))
theorem fg_istore {i : Nat} {x : Int32} (hd : decode Y.2.1 pc = .ok (.istore i, 2)) (hi : i < L.length) (k : fg_wp E Y d n0 n1 Q (pc + 2) (L.set i (.int x)) st M) : fg_wp E Y d n0 n1 Q pc L (.int x :: st) M := fun p e s m args below meth c C H locs ls hH hS h0 h1 hl hz => lv_istore C.1 C.2.1 hd hl.1 hi rfl (fun ls' h' => k p e s m args below meth c C H locs ls' hH hS h0 h1 (fg_lokSet hl rfl hi h') (by rw [List.length_set]; exact hz))
theorem fg_astoren {i : Fin 4} {a : Nat} (hd : decode Y.2.1 pc = .ok (.astore_n i, 1)) (hi : i.val < L.length) (k : fg_wp E Y d n0 n1 Q (pc + 1) (L.set i.val (.ref a)) st M) : fg_wp E Y d n0 n1 Q pc L (.ref a :: st) M := fun p e s m args below meth c C H locs ls hH hS h0 h1 hl hz => lv_astore_n C.1 C.2.1 hd rfl hl.1 hi rfl (fun ls' h' => k p e s m args below meth c C H locs ls' hH hS h0 h1 (fg_lokSet hl rfl hi h') (by rw [List.length_set]; exact hz))
theorem fg_astore {i : Nat} {a : Nat} (hd : decode Y.2.1 pc = .ok (.astore i, 2)) (hi : i < L.length) (k : fg_wp E Y d n0 n1 Q (pc + 2) (L.set i (.ref a)) st M) : fg_wp E Y d n0 n1 Q pc L (.ref a :: st) M := fun p e s m args below meth c C H locs ls hH hS h0 h1 hl hz => lv_astore C.1 C.2.1 hd hl.1 hi rfl (fun ls' h' => k p e s m args below meth c C H locs ls' hH hS h0 h1 (fg_lokSet hl rfl hi h') (by rw [List.length_set]; exact hz))
theorem fg_astorenN {i : Fin 4} (hd : decode Y.2.1 pc = .ok (.astore_n i, 1)) (hi : i.val < L.length) (k : fg_wp E Y d n0 n1 Q (pc + 1) (L.set i.val (.null)) st M) : fg_wp E Y d n0 n1 Q pc L (.null :: st) M := fun p e s m args below meth c C H locs ls hH hS h0 h1 hl hz => lv_astore_nN C.1 C.2.1 hd rfl hl.1 hi rfl (fun ls' h' => k p e s m args below meth c C H locs ls' hH hS h0 h1 (fg_lokSet hl rfl hi h') (by rw [List.length_set]; exact hz))
theorem fg_iinc {i : Nat} {n : Int} {x v : Int32} (hd : decode Y.2.1 pc = .ok (.iinc i n, 3)) (hv : L[i]? = some (.int x)) (hn : x + Int32.ofInt n = v) (k : fg_wp E Y d n0 n1 Q (pc + 3) (L.set i (.int v)) st M) : fg_wp E Y d n0 n1 Q pc L st M := fun p e s m args below meth c C H locs ls hH hS h0 h1 hl hz => by
  have hi : i < L.length := (List.getElem?_eq_some_iff.mp hv).1
  obtain ⟨j, hj⟩ := List.getElem?_of_mem (fg_alIn (E := E) hv rfl)
  exact lv_iinc C.1 C.2.1 hd hl.1 (k := j) hj hn hi rfl (fun ls' h' => k p e s m args below meth c C H locs ls' hH hS h0 h1 (fg_lokSet hl rfl hi h') (by rw [List.length_set]; exact hz))
theorem fg_goto {off : Int} {tgt : Nat} (hd : decode Y.2.1 pc = .ok (.goto off, 3)) (ht : (pc : Int) + off = (tgt : Int)) (k : fg_wp E Y d n0 n1 Q tgt L st M) : fg_wp E Y d n0 n1 Q pc L st M := fun p e s m args below meth c C H locs ls hH hS h0 h1 hl hz => lv_goto C.1 C.2.1 hd ht (k p e s m args below meth c C H locs ls hH hS h0 h1 hl hz)
theorem fg_if_eq {x : Int32} {off : Int} {tgt : Nat} (hd : decode Y.2.1 pc = .ok (.ifCond .eq off, 3)) (ht : (pc : Int) + off = (tgt : Int)) (kt : x = 0 → fg_wp E Y d n0 n1 Q tgt L st M) (kf : ¬ x = 0 → fg_wp E Y d n0 n1 Q (pc + 3) L st M) : fg_wp E Y d n0 n1 Q pc L (.int x :: st) M := fun p e s m args below meth c C H locs ls hH hS h0 h1 hl hz => lv_if_eq C.1 C.2.1 hd ht (fun z => kt z p e s m args below meth c C H locs ls hH hS h0 h1 hl hz) (fun z => kf z p e s m args below meth c C H locs ls hH hS h0 h1 hl hz)
theorem fg_icmp_eq {x y : Int32} {off : Int} {tgt : Nat} (hd : decode Y.2.1 pc = .ok (.if_icmp .eq off, 3)) (ht : (pc : Int) + off = (tgt : Int)) (kt : x = y → fg_wp E Y d n0 n1 Q tgt L st M) (kf : ¬ x = y → fg_wp E Y d n0 n1 Q (pc + 3) L st M) : fg_wp E Y d n0 n1 Q pc L (.int y :: .int x :: st) M := fun p e s m args below meth c C H locs ls hH hS h0 h1 hl hz => lv_icmp_eq C.1 C.2.1 hd ht (fun z => kt z p e s m args below meth c C H locs ls hH hS h0 h1 hl hz) (fun z => kf z p e s m args below meth c C H locs ls hH hS h0 h1 hl hz)
theorem fg_if_ne {x : Int32} {off : Int} {tgt : Nat} (hd : decode Y.2.1 pc = .ok (.ifCond .ne off, 3)) (ht : (pc : Int) + off = (tgt : Int)) (kt : ¬ x = 0 → fg_wp E Y d n0 n1 Q tgt L st M) (kf : x = 0 → fg_wp E Y d n0 n1 Q (pc + 3) L st M) : fg_wp E Y d n0 n1 Q pc L (.int x :: st) M := fun p e s m args below meth c C H locs ls hH hS h0 h1 hl hz => lv_if_ne C.1 C.2.1 hd ht (fun z => kt z p e s m args below meth c C H locs ls hH hS h0 h1 hl hz) (fun z => kf z p e s m args below meth c C H locs ls hH hS h0 h1 hl hz)
theorem fg_icmp_ne {x y : Int32} {off : Int} {tgt : Nat} (hd : decode Y.2.1 pc = .ok (.if_icmp .ne off, 3)) (ht : (pc : Int) + off = (tgt : Int)) (kt : ¬ x = y → fg_wp E Y d n0 n1 Q tgt L st M) (kf : x = y → fg_wp E Y d n0 n1 Q (pc + 3) L st M) : fg_wp E Y d n0 n1 Q pc L (.int y :: .int x :: st) M := fun p e s m args below meth c C H locs ls hH hS h0 h1 hl hz => lv_icmp_ne C.1 C.2.1 hd ht (fun z => kt z p e s m args below meth c C H locs ls hH hS h0 h1 hl hz) (fun z => kf z p e s m args below meth c C H locs ls hH hS h0 h1 hl hz)
theorem fg_if_lt {x : Int32} {off : Int} {tgt : Nat} (hd : decode Y.2.1 pc = .ok (.ifCond .lt off, 3)) (ht : (pc : Int) + off = (tgt : Int)) (kt : x < 0 → fg_wp E Y d n0 n1 Q tgt L st M) (kf : ¬ x < 0 → fg_wp E Y d n0 n1 Q (pc + 3) L st M) : fg_wp E Y d n0 n1 Q pc L (.int x :: st) M := fun p e s m args below meth c C H locs ls hH hS h0 h1 hl hz => lv_if_lt C.1 C.2.1 hd ht (fun z => kt z p e s m args below meth c C H locs ls hH hS h0 h1 hl hz) (fun z => kf z p e s m args below meth c C H locs ls hH hS h0 h1 hl hz)
theorem fg_icmp_lt {x y : Int32} {off : Int} {tgt : Nat} (hd : decode Y.2.1 pc = .ok (.if_icmp .lt off, 3)) (ht : (pc : Int) + off = (tgt : Int)) (kt : x < y → fg_wp E Y d n0 n1 Q tgt L st M) (kf : ¬ x < y → fg_wp E Y d n0 n1 Q (pc + 3) L st M) : fg_wp E Y d n0 n1 Q pc L (.int y :: .int x :: st) M := fun p e s m args below meth c C H locs ls hH hS h0 h1 hl hz => lv_icmp_lt C.1 C.2.1 hd ht (fun z => kt z p e s m args below meth c C H locs ls hH hS h0 h1 hl hz) (fun z => kf z p e s m args below meth c C H locs ls hH hS h0 h1 hl hz)
theorem fg_if_ge {x : Int32} {off : Int} {tgt : Nat} (hd : decode Y.2.1 pc = .ok (.ifCond .ge off, 3)) (ht : (pc : Int) + off = (tgt : Int)) (kt : 0 ≤ x → fg_wp E Y d n0 n1 Q tgt L st M) (kf : ¬ 0 ≤ x → fg_wp E Y d n0 n1 Q (pc + 3) L st M) : fg_wp E Y d n0 n1 Q pc L (.int x :: st) M := fun p e s m args below meth c C H locs ls hH hS h0 h1 hl hz => lv_if_ge C.1 C.2.1 hd ht (fun z => kt z p e s m args below meth c C H locs ls hH hS h0 h1 hl hz) (fun z => kf z p e s m args below meth c C H locs ls hH hS h0 h1 hl hz)
theorem fg_icmp_ge {x y : Int32} {off : Int} {tgt : Nat} (hd : decode Y.2.1 pc = .ok (.if_icmp .ge off, 3)) (ht : (pc : Int) + off = (tgt : Int)) (kt : y ≤ x → fg_wp E Y d n0 n1 Q tgt L st M) (kf : ¬ y ≤ x → fg_wp E Y d n0 n1 Q (pc + 3) L st M) : fg_wp E Y d n0 n1 Q pc L (.int y :: .int x :: st) M := fun p e s m args below meth c C H locs ls hH hS h0 h1 hl hz => lv_icmp_ge C.1 C.2.1 hd ht (fun z => kt z p e s m args below meth c C H locs ls hH hS h0 h1 hl hz) (fun z => kf z p e s m args below meth c C H locs ls hH hS h0 h1 hl hz)
theorem fg_if_gt {x : Int32} {off : Int} {tgt : Nat} (hd : decode Y.2.1 pc = .ok (.ifCond .gt off, 3)) (ht : (pc : Int) + off = (tgt : Int)) (kt : 0 < x → fg_wp E Y d n0 n1 Q tgt L st M) (kf : ¬ 0 < x → fg_wp E Y d n0 n1 Q (pc + 3) L st M) : fg_wp E Y d n0 n1 Q pc L (.int x :: st) M := fun p e s m args below meth c C H locs ls hH hS h0 h1 hl hz => lv_if_gt C.1 C.2.1 hd ht (fun z => kt z p e s m args below meth c C H locs ls hH hS h0 h1 hl hz) (fun z => kf z p e s m args below meth c C H locs ls hH hS h0 h1 hl hz)
theorem fg_icmp_gt {x y : Int32} {off : Int} {tgt : Nat} (hd : decode Y.2.1 pc = .ok (.if_icmp .gt off, 3)) (ht : (pc : Int) + off = (tgt : Int)) (kt : y < x → fg_wp E Y d n0 n1 Q tgt L st M) (kf : ¬ y < x → fg_wp E Y d n0 n1 Q (pc + 3) L st M) : fg_wp E Y d n0 n1 Q pc L (.int y :: .int x :: st) M := fun p e s m args below meth c C H locs ls hH hS h0 h1 hl hz => lv_icmp_gt C.1 C.2.1 hd ht (fun z => kt z p e s m args below meth c C H locs ls hH hS h0 h1 hl hz) (fun z => kf z p e s m args below meth c C H locs ls hH hS h0 h1 hl hz)
theorem fg_if_le {x : Int32} {off : Int} {tgt : Nat} (hd : decode Y.2.1 pc = .ok (.ifCond .le off, 3)) (ht : (pc : Int) + off = (tgt : Int)) (kt : x ≤ 0 → fg_wp E Y d n0 n1 Q tgt L st M) (kf : ¬ x ≤ 0 → fg_wp E Y d n0 n1 Q (pc + 3) L st M) : fg_wp E Y d n0 n1 Q pc L (.int x :: st) M := fun p e s m args below meth c C H locs ls hH hS h0 h1 hl hz => lv_if_le C.1 C.2.1 hd ht (fun z => kt z p e s m args below meth c C H locs ls hH hS h0 h1 hl hz) (fun z => kf z p e s m args below meth c C H locs ls hH hS h0 h1 hl hz)
theorem fg_icmp_le {x y : Int32} {off : Int} {tgt : Nat} (hd : decode Y.2.1 pc = .ok (.if_icmp .le off, 3)) (ht : (pc : Int) + off = (tgt : Int)) (kt : x ≤ y → fg_wp E Y d n0 n1 Q tgt L st M) (kf : ¬ x ≤ y → fg_wp E Y d n0 n1 Q (pc + 3) L st M) : fg_wp E Y d n0 n1 Q pc L (.int y :: .int x :: st) M := fun p e s m args below meth c C H locs ls hH hS h0 h1 hl hz => lv_icmp_le C.1 C.2.1 hd ht (fun z => kt z p e s m args below meth c C H locs ls hH hS h0 h1 hl hz) (fun z => kf z p e s m args below meth c C H locs ls hH hS h0 h1 hl hz)
theorem fg_ifnull {off : Int} {tgt : Nat} (hd : decode Y.2.1 pc = .ok (.ifnull off, 3)) (ht : (pc : Int) + off = (tgt : Int)) (k : fg_wp E Y d n0 n1 Q tgt L st M) : fg_wp E Y d n0 n1 Q pc L (.null :: st) M := fun p e s m args below meth c C H locs ls hH hS h0 h1 hl hz => lv_ifnullN C.1 C.2.1 hd ht (k p e s m args below meth c C H locs ls hH hS h0 h1 hl hz)
theorem fg_ifnull_r {a : Nat} {off : Int} (hd : decode Y.2.1 pc = .ok (.ifnull off, 3)) (k : fg_wp E Y d n0 n1 Q (pc + 3) L st M) : fg_wp E Y d n0 n1 Q pc L (.ref a :: st) M := fun p e s m args below meth c C H locs ls hH hS h0 h1 hl hz => lv_ifnull C.1 C.2.1 hd (k p e s m args below meth c C H locs ls hH hS h0 h1 hl hz)
theorem fg_ifnonnull {a : Nat} {off : Int} {tgt : Nat} (hd : decode Y.2.1 pc = .ok (.ifnonnull off, 3)) (ht : (pc : Int) + off = (tgt : Int)) (k : fg_wp E Y d n0 n1 Q tgt L st M) : fg_wp E Y d n0 n1 Q pc L (.ref a :: st) M := fun p e s m args below meth c C H locs ls hH hS h0 h1 hl hz => lv_ifnonnull C.1 C.2.1 hd ht (k p e s m args below meth c C H locs ls hH hS h0 h1 hl hz)
theorem fg_ifnonnull_n {off : Int} (hd : decode Y.2.1 pc = .ok (.ifnonnull off, 3)) (k : fg_wp E Y d n0 n1 Q (pc + 3) L st M) : fg_wp E Y d n0 n1 Q pc L (.null :: st) M := fun p e s m args below meth c C H locs ls hH hS h0 h1 hl hz => lv_ifnonnullN C.1 C.2.1 hd (k p e s m args below meth c C H locs ls hH hS h0 h1 hl hz)
theorem fg_switchOut {dflt lo hi : Int} {offs : Array Int} {len : Nat} {x : Int32} {tgt : Nat} (hd : decode Y.2.1 pc = .ok (.tableswitch dflt lo hi offs, len)) (h : x.toInt < lo ∨ hi < x.toInt) (ht : (pc : Int) + dflt = (tgt : Int)) (k : fg_wp E Y d n0 n1 Q tgt L st M) : fg_wp E Y d n0 n1 Q pc L (.int x :: st) M := fun p e s m args below meth c C H locs ls hH hS h0 h1 hl hz => lv_tableOut C.1 C.2.1 hd h ht (k p e s m args below meth c C H locs ls hH hS h0 h1 hl hz)
theorem fg_switchIn {dflt lo hi : Int} {offs : Array Int} {len : Nat} {x : Int32} {off : Int} {tgt : Nat} (hd : decode Y.2.1 pc = .ok (.tableswitch dflt lo hi offs, len)) (hx1 : ¬ x.toInt < lo) (hx2 : ¬ hi < x.toInt) (ho : offs[(x.toInt - lo).toNat]? = some off) (ht : (pc : Int) + off = (tgt : Int)) (k : fg_wp E Y d n0 n1 Q tgt L st M) : fg_wp E Y d n0 n1 Q pc L (.int x :: st) M := fun p e s m args below meth c C H locs ls hH hS h0 h1 hl hz => lv_tableIn C.1 C.2.1 hd hx1 hx2 ho ht (k p e s m args below meth c C H locs ls hH hS h0 h1 hl hz)
end FGR
