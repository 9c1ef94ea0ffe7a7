theorem fg_sub (ws : List Cond) (ps : List Nat) (hp : ws = ps.filterMap (fun i => lw_tbl[i]?)) (h : ws.all goodWord = true) : ∀ w ∈ ws, w ∈ fg_tbl := by
  intro w hw
  have h1 := List.all_eq_true.mp h w hw
  rw [hp] at hw
  obtain ⟨i, -, hi⟩ := List.mem_filterMap.mp hw
  exact List.mem_filter.mpr ⟨List.mem_of_getElem? hi, h1⟩
theorem fg_lwX0 : ∀ w ∈ u_ws RX0 TX0 12, w ∈ fg_tbl := fg_sub _ [337, 339, 341, 343, 345, 347, 349, 351, 353, 355, 357, 359] (by decide +kernel) (by decide +kernel)
theorem fg_lwX1 : ∀ w ∈ u_ws RX1 TX1 15, w ∈ fg_tbl := fg_sub _ [279, 281, 283, 285, 287, 289, 291, 293, 295, 297, 299, 301, 303, 305, 307] (by decide +kernel) (by decide +kernel)
theorem fg_lwX2 : ∀ w ∈ u_ws RX2 TX2 3, w ∈ fg_tbl := fg_sub _ [146, 148, 150] (by decide +kernel) (by decide +kernel)
theorem fg_lwX3 : ∀ w ∈ u_ws RX3 TX3 8, w ∈ fg_tbl := fg_sub _ [376, 378, 380, 382, 384, 386, 388, 390] (by decide +kernel) (by decide +kernel)
theorem fg_lwX4 : ∀ w ∈ u_ws RX4 TX4 8, w ∈ fg_tbl := fg_sub _ [219, 221, 223, 225, 227, 229, 231, 233] (by decide +kernel) (by decide +kernel)
theorem fg_lwX5 : ∀ w ∈ u_ws RX5 TX5 9, w ∈ fg_tbl := fg_sub _ [183, 185, 187, 189, 191, 193, 195, 197, 199] (by decide +kernel) (by decide +kernel)
theorem fg_lwX7 : ∀ w ∈ u_ws RX7 TX7 8, w ∈ fg_tbl := fg_sub _ [401, 403, 405, 407, 409, 411, 413, 415] (by decide +kernel) (by decide +kernel)
theorem fg_lwX8 : ∀ w ∈ u_ws RX8 TX8 35, w ∈ fg_tbl := fg_sub _ [1189, 1191, 1193, 1195, 1197, 1199, 1201, 1203, 1205, 1207, 1209, 1211, 1213, 1215, 1217, 1219, 1221, 1223, 1225, 1227, 1229, 1231, 1233, 1235, 1237, 1239, 1241, 1243, 1245, 1247, 1249, 1251, 1253, 1255, 1257] (by decide +kernel) (by decide +kernel)
theorem fg_cls {ci : Nat} {C : String} {T : u_T} {N : Nat} (h : fg_cl[ci]? = some (C, T, N)) : (∀ w ∈ u_ws C T N, w ∈ fg_tbl) ∧ (∀ k, k < N → parseFieldDescriptor (T k).2.2.1 = some (fg_ty ci k)) ∧ (∀ a, a < N → ∀ b, b < N → a ≠ b → (T a).2.1 ≠ (T b).2.1) := by
  match ci, h with
  | 0, h => cases h; exact ⟨fg_lwX0, tyX0_ok, nmX0⟩
  | 1, h => cases h; exact ⟨fg_lwX1, tyX1_ok, nmX1⟩
  | 2, h => cases h; exact ⟨fg_lwX2, tyX2_ok, nmX2⟩
  | 3, h => cases h; exact ⟨fg_lwX3, tyX3_ok, nmX3⟩
  | 4, h => cases h; exact ⟨fg_lwX4, tyX4_ok, nmX4⟩
  | 5, h => cases h; exact ⟨fg_lwX5, tyX5_ok, nmX5⟩
  | 6, h => cases h; exact ⟨fg_lwX7, tyX7_ok, nmX7⟩
  | 7, h => cases h; exact ⟨fg_lwX8, tyX8_ok, nmX8⟩
  | n + 8, h => cases h

def fg_u2 {α : Type} (f : Nat → Nat → α) (a k : Nat) (x : α) : Nat → Nat → α := fun b j => if b = a then (if j = k then x else f b j) else f b j
abbrev fg_si (M : fg_M) (a k : Nat) (x : Int32) : fg_M := (fg_u2 M.1 a k x, M.2.1, M.2.2)
abbrev fg_sr (M : fg_M) (a k : Nat) (r : Option Nat) : fg_M := (M.1, fg_u2 M.2.1 a k r, M.2.2)
theorem fg_layLe : ∀ a, (fg_lay a).1 ≠ 99 → 100 ≤ a ∧ a < 304 := by
  intro a h
  unfold fg_lay at h
  split at h
  · exact absurd rfl h
  · rename_i h1
    refine ⟨by omega, ?_⟩
    rcases Nat.lt_or_ge a 304 with q | q
    · exact q
    · exfalso
      apply h
      have hl : fg_layL.length = 204 := by decide +kernel
      rw [List.getD_eq_getElem?_getD, List.getElem?_eq_none (by rw [hl]; omega)]
      rfl
theorem fg_lt {a k n : Nat} (h : fg_lay a = (k, n)) (hk : k ≠ 99) : a < 304 := (fg_layLe a (by rw [h]; exact hk)).2
theorem fg_ge {a k n : Nat} (h : fg_lay a = (k, n)) (hk : k ≠ 99) : 100 ≤ a := (fg_layLe a (by rw [h]; exact hk)).1
theorem fg_szLe {a k n : Nat} (h : fg_lay a = (k, n)) : n ≤ 5120 := by
  have h1 : ∀ q ∈ fg_layL, q.2 ≤ 5120 := by decide +kernel
  have h2 : (fg_lay a).2 ≤ 5120 := by
    unfold fg_lay
    split
    · exact Nat.zero_le _
    · rw [List.getD_eq_getElem?_getD]
      cases hq : fg_layL[a - 100]? with
      | none => exact Nat.zero_le _
      | some q => exact h1 q (List.mem_of_getElem? hq)
  rw [h] at h2
  exact h2
/-- a field: by whom its entry of the pool is asked, of which class it is (fg_cl), how many fields that has, which it is -/
def fg_F (own : String) (index ci N j : Nat) : Prop := ∃ (C : String) (T : u_T), fg_cl[ci]? = some (C, T, N) ∧ j < N ∧ (T j).1 = C ∧ Cond.fieldLink own index (T j).1 (T j).2.1 (T j).2.2.1 ∈ fg_tbl
def fg_nok (ty : FieldType) (x : Int32) : Prop := narrow ty (.int x) = .int x ∧ fits ty (.int x) = true
theorem fg_nokI (x : Int32) : fg_nok .int x := ⟨rfl, rfl⟩
theorem fg_entO {E : fg_E} {M : fg_M} {a ci N : Nat} (h : fg_lay a = (ci, N)) (hc : ci < 10) : fg_ent E M a = .inr (ci, (List.range N).map (fg_fv E M ci a)) := by
  unfold fg_ent
  rw [h]
  exact if_pos hc
theorem fg_entI {E : fg_E} {M : fg_M} {a k n : Nat} (h : fg_lay a = (k, n)) (h1 : 10 ≤ k) (h2 : k < 13) : fg_ent E M a = .inl (E.2.2.1 (k - 10), n, .inl (M.1 a)) := by
  unfold fg_ent
  rw [h]
  show (if k < 10 then _ else _) = _
  rw [if_neg (by omega)]
  show _ = _
  rw [if_pos h2]
theorem fg_entR {E : fg_E} {M : fg_M} {a k n : Nat} (h : fg_lay a = (k, n)) (h1 : 13 ≤ k) : fg_ent E M a = .inl (E.2.2.1 (k - 10), n, .inr (.inr (.inr (.inr (fun j => (M.2.1 a j).map (fg_ad E)))))) := by
  unfold fg_ent
  rw [h]
  show (if k < 10 then _ else _) = _
  rw [if_neg (by omega)]
  show _ = _
  rw [if_neg (by omega)]
theorem fg_entCong {E : fg_E} {M M' : fg_M} {a : Nat} (h1 : ∀ j, M'.1 a j = M.1 a j) (h2 : ∀ j, M'.2.1 a j = M.2.1 a j) : fg_ent E M' a = fg_ent E M a := by
  have e1 : M'.1 a = M.1 a := funext h1
  have e2 : fg_fv E M' (fg_lay a).1 a = fg_fv E M (fg_lay a).1 a := by
    funext j
    simp only [fg_fv, h1, h2]
  have e3 : (fun j => (M'.2.1 a j).map (fg_ad E)) = (fun j => (M.2.1 a j).map (fg_ad E)) := by
    funext j
    rw [h2]
  unfold fg_ent
  rw [e1, e2, e3]
theorem fg_u2ne {α : Type} {f : Nat → Nat → α} {a k b j : Nat} {x : α} (h : b ≠ a) : fg_u2 f a k x b j = f b j := by simp [fg_u2, h]
theorem fg_u2eq {α : Type} {f : Nat → Nat → α} {a k : Nat} {x : α} : fg_u2 f a k x a k = x := by simp [fg_u2]
theorem fg_u2ns {α : Type} {f : Nat → Nat → α} {a k b j : Nat} {x : α} (h : j ≠ k) : fg_u2 f a k x b j = f b j := by
  by_cases hb : b = a <;> simp [fg_u2, hb, h]
theorem fg_fvSetI {E : fg_E} {M : fg_M} {a ci N j : Nat} {x : Int32} (hj : j < N) (hr : fg_isR (fg_ty ci j) = false) : ((List.range N).map (fg_fv E M ci a)).set j (.int x) = (List.range N).map (fg_fv E (fg_si M a j x) ci a) := by
  apply List.ext_getElem?
  intro i
  by_cases hi : i < N
  · by_cases hij : i = j
    · subst hij
      rw [List.getElem?_set_self (by simpa using hi)]
      simp [hi, fg_fv, hr, fg_u2]
    · rw [List.getElem?_set_ne (Ne.symm hij)]
      simp [hi, fg_fv, fg_u2, hij]
  · rw [List.getElem?_eq_none (by simp; omega), List.getElem?_eq_none (by simp; omega)]
theorem fg_fvSetR {E : fg_E} {M : fg_M} {a ci N j : Nat} {r : Option Nat} (hj : j < N) (hr : fg_isR (fg_ty ci j) = true) : ((List.range N).map (fg_fv E M ci a)).set j (va_rf (r.map (fg_ad E))) = (List.range N).map (fg_fv E (fg_sr M a j r) ci a) := by
  apply List.ext_getElem?
  intro i
  by_cases hi : i < N
  · by_cases hij : i = j
    · subst hij
      rw [List.getElem?_set_self (by simpa using hi)]
      simp [hi, fg_fv, hr, fg_u2]
    · rw [List.getElem?_set_ne (Ne.symm hij)]
      simp [hi, fg_fv, fg_u2, hij]
  · rw [List.getElem?_eq_none (by simp; omega), List.getElem?_eq_none (by simp; omega)]
theorem fg_tysAt (E : fg_E) {k : Nat} (h : k < 7) : (fg_tys E)[k]? = some (E.2.2.1 k, fg_aty k) := by simp [fg_tys, h]

section FGM
variable {E : fg_E} {Y : fg_Y} {d n0 n1 : Nat} {Q : Option Value → fg_M → Prop} {pc : Nat} {L st : List Value} {M : fg_M}
theorem fg_getI {index ci N j a : Nat} (hd : decode Y.2.1 pc = .ok (.getfield index, 3)) (hf : fg_F Y.1.cls index ci N j) (ha : fg_lay a = (ci, N)) (hr : fg_isR (fg_ty ci j) = false) (hlt : a < M.2.2) (k : fg_wp E Y d n0 n1 Q (pc + 3) L (.int (M.1 a j) :: st) M) : fg_wp E Y d n0 n1 Q pc L (.ref a :: st) M := by
  intro p e s m args below meth c C H locs ls hH hS h0 h1 hl hz
  obtain ⟨hx, hb, hret, hlk, hml, hown, hts, hU, hK, hbs, h100, hnm⟩ := id C
  obtain ⟨C1, T, hc, hj, hC1, hw⟩ := hf
  obtain ⟨c1, c2, c3⟩ := fg_cls hc
  have hci : ci < 10 := by
    have := (List.getElem?_eq_some_iff.mp hc).1
    simp at this
    omega
  have ha100 := fg_ge ha (by omega)
  have he := fg_wsAt (E := E) (M := M) ha100 hlt
  rw [fg_entO ha hci] at he
  have had : fg_tv E (.ref a) = .ref (fg_ad E a) := rfl
  exact va_get (D := E.2.1) (cl := fg_cl) (tys := fg_tys E) (ws := fg_ws E M) hx hb hts (fun w h => fg_in (c1 w h)) hown hU.1 hH.2 (a - 100) he hc j hj (hts _ (fg_in hw)) (fun _ h9 => h9) (v := .int (M.1 a j)) (by simp [hj, fg_fv, hr]) hd (k p e s m args below meth c C H locs ls hH hS h0 h1 hl hz)
theorem fg_getR {index ci N j a b : Nat} (hd : decode Y.2.1 pc = .ok (.getfield index, 3)) (hf : fg_F Y.1.cls index ci N j) (ha : fg_lay a = (ci, N)) (hr : fg_isR (fg_ty ci j) = true) (hlt : a < M.2.2) (hv : M.2.1 a j = some b) (k : fg_wp E Y d n0 n1 Q (pc + 3) L (.ref b :: st) M) : fg_wp E Y d n0 n1 Q pc L (.ref a :: st) M := by
  intro p e s m args below meth c C H locs ls hH hS h0 h1 hl hz
  obtain ⟨hx, hb, hret, hlk, hml, hown, hts, hU, hK, hbs, h100, hnm⟩ := id C
  obtain ⟨C1, T, hc, hj, hC1, hw⟩ := hf
  obtain ⟨c1, c2, c3⟩ := fg_cls hc
  have hci : ci < 10 := by
    have := (List.getElem?_eq_some_iff.mp hc).1
    simp at this
    omega
  have ha100 := fg_ge ha (by omega)
  have he := fg_wsAt (E := E) (M := M) ha100 hlt
  rw [fg_entO ha hci] at he
  exact va_get (D := E.2.1) (cl := fg_cl) (tys := fg_tys E) (ws := fg_ws E M) hx hb hts (fun w h => fg_in (c1 w h)) hown hU.1 hH.2 (a - 100) he hc j hj (hts _ (fg_in hw)) (fun _ h9 => h9) (v := .ref (fg_ad E b)) (by simp [hj, fg_fv, hr, hv, va_rf]) hd (k p e s m args below meth c C H locs ls hH hS h0 h1 hl hz)
theorem fg_getRn {index ci N j a : Nat} (hd : decode Y.2.1 pc = .ok (.getfield index, 3)) (hf : fg_F Y.1.cls index ci N j) (ha : fg_lay a = (ci, N)) (hr : fg_isR (fg_ty ci j) = true) (hlt : a < M.2.2) (hv : M.2.1 a j = none) (k : fg_wp E Y d n0 n1 Q (pc + 3) L (.null :: st) M) : fg_wp E Y d n0 n1 Q pc L (.ref a :: st) M := by
  intro p e s m args below meth c C H locs ls hH hS h0 h1 hl hz
  obtain ⟨hx, hb, hret, hlk, hml, hown, hts, hU, hK, hbs, h100, hnm⟩ := id C
  obtain ⟨C1, T, hc, hj, hC1, hw⟩ := hf
  obtain ⟨c1, c2, c3⟩ := fg_cls hc
  have hci : ci < 10 := by
    have := (List.getElem?_eq_some_iff.mp hc).1
    simp at this
    omega
  have ha100 := fg_ge ha (by omega)
  have he := fg_wsAt (E := E) (M := M) ha100 hlt
  rw [fg_entO ha hci] at he
  exact va_get (D := E.2.1) (cl := fg_cl) (tys := fg_tys E) (ws := fg_ws E M) hx hb hts (fun w h => fg_in (c1 w h)) hown hU.1 hH.2 (a - 100) he hc j hj (hts _ (fg_in hw)) (fun _ h9 => h9) (v := .null) (by simp [hj, fg_fv, hr, hv, va_rf]) hd (k p e s m args below meth c C H locs ls hH hS h0 h1 hl hz)
theorem fg_putI {x : Int32} {index ci N j a : Nat} (hd : decode Y.2.1 pc = .ok (.putfield index, 3)) (hf : fg_F Y.1.cls index ci N j) (ha : fg_lay a = (ci, N)) (hr : fg_isR (fg_ty ci j) = false) (hlt : a < M.2.2) (hnx : fg_nok (fg_ty ci j) x) (hfin : ∀ (C : String) (T : u_T), fg_cl[ci]? = some (C, T, N) → (T j).2.2.2 = false) (k : fg_wp E Y d n0 n1 Q (pc + 3) L st (fg_si M a j x)) : fg_wp E Y d n0 n1 Q pc L (.int x :: .ref a :: st) M := by
  intro p e s m args below meth c C H locs ls hH hS h0 h1 hl hz
  obtain ⟨hx, hb, hret, hlk, hml, hown, hts, hU, hK, hbs, h100, hnm⟩ := id C
  obtain ⟨C1, T, hc, hj, hC1, hw⟩ := hf
  obtain ⟨c1, c2, c3⟩ := fg_cls hc
  have hci : ci < 10 := by
    have := (List.getElem?_eq_some_iff.mp hc).1
    simp at this
    omega
  have ha100 := fg_ge ha (by omega)
  have he := fg_wsAt (E := E) (M := M) ha100 hlt
  rw [fg_entO ha hci] at he
  have hset := fg_wsSet (E := E) (M := M) (M' := (fg_si M a j x)) (a := a) ha100 hlt rfl (fg_entO ha hci) (fun q hq => fg_entCong (fun i => fg_u2ne hq) (fun i => rfl))
  rw [← fg_fvSetI hj hr] at hset
  refine va_put (D := E.2.1) (cl := fg_cl) (tys := fg_tys E) (ws := fg_ws E M) (ty := fg_ty ci j) (v := .int x) hx hb hts (fun w h => fg_in (c1 w h)) (fg_ty ci) c2 c3 hown hU.1 hH.2 fg_wsD hS (a - 100) he hc j hj (hts _ (fg_in hw)) (fun _ h9 => h9) (hfin _ _ hc) (c2 j hj) hnx.1 hnx.2 (by simp; exact hj) hd (fun H1 locs1 hP1 hD1 hS1 => k p e s m args below meth c C H1 locs1 ls ⟨hH.1, ?_⟩ hS1 h0 h1 hl hz)
  rw [← hset]
  exact hP1
theorem fg_putR {b : Nat} {index ci N j a : Nat} (hd : decode Y.2.1 pc = .ok (.putfield index, 3)) (hf : fg_F Y.1.cls index ci N j) (ha : fg_lay a = (ci, N)) (hr : fg_isR (fg_ty ci j) = true) (hlt : a < M.2.2)  (hfin : ∀ (C : String) (T : u_T), fg_cl[ci]? = some (C, T, N) → (T j).2.2.2 = false) (k : fg_wp E Y d n0 n1 Q (pc + 3) L st (fg_sr M a j (some b))) : fg_wp E Y d n0 n1 Q pc L (.ref b :: .ref a :: st) M := by
  intro p e s m args below meth c C H locs ls hH hS h0 h1 hl hz
  obtain ⟨hx, hb, hret, hlk, hml, hown, hts, hU, hK, hbs, h100, hnm⟩ := id C
  obtain ⟨C1, T, hc, hj, hC1, hw⟩ := hf
  obtain ⟨c1, c2, c3⟩ := fg_cls hc
  have hci : ci < 10 := by
    have := (List.getElem?_eq_some_iff.mp hc).1
    simp at this
    omega
  have ha100 := fg_ge ha (by omega)
  have he := fg_wsAt (E := E) (M := M) ha100 hlt
  rw [fg_entO ha hci] at he
  have hset := fg_wsSet (E := E) (M := M) (M' := (fg_sr M a j (some b))) (a := a) ha100 hlt rfl (fg_entO ha hci) (fun q hq => fg_entCong (fun i => rfl) (fun i => fg_u2ne hq))
  rw [← fg_fvSetR hj hr] at hset
  refine va_put (D := E.2.1) (cl := fg_cl) (tys := fg_tys E) (ws := fg_ws E M) (ty := fg_ty ci j) (v := va_rf ((some b).map (fg_ad E))) hx hb hts (fun w h => fg_in (c1 w h)) (fg_ty ci) c2 c3 hown hU.1 hH.2 fg_wsD hS (a - 100) he hc j hj (hts _ (fg_in hw)) (fun _ h9 => h9) (hfin _ _ hc) (c2 j hj) (by cases ht : fg_ty ci j <;> rw [ht] at hr <;> first | rfl | cases hr) (by cases ht : fg_ty ci j <;> rw [ht] at hr <;> first | rfl | cases hr) (by simp; exact hj) hd (fun H1 locs1 hP1 hD1 hS1 => k p e s m args below meth c C H1 locs1 ls ⟨hH.1, ?_⟩ hS1 h0 h1 hl hz)
  rw [← hset]
  exact hP1
theorem fg_putN {index ci N j a : Nat} (hd : decode Y.2.1 pc = .ok (.putfield index, 3)) (hf : fg_F Y.1.cls index ci N j) (ha : fg_lay a = (ci, N)) (hr : fg_isR (fg_ty ci j) = true) (hlt : a < M.2.2)  (hfin : ∀ (C : String) (T : u_T), fg_cl[ci]? = some (C, T, N) → (T j).2.2.2 = false) (k : fg_wp E Y d n0 n1 Q (pc + 3) L st (fg_sr M a j none)) : fg_wp E Y d n0 n1 Q pc L (.null :: .ref a :: st) M := by
  intro p e s m args below meth c C H locs ls hH hS h0 h1 hl hz
  obtain ⟨hx, hb, hret, hlk, hml, hown, hts, hU, hK, hbs, h100, hnm⟩ := id C
  obtain ⟨C1, T, hc, hj, hC1, hw⟩ := hf
  obtain ⟨c1, c2, c3⟩ := fg_cls hc
  have hci : ci < 10 := by
    have := (List.getElem?_eq_some_iff.mp hc).1
    simp at this
    omega
  have ha100 := fg_ge ha (by omega)
  have he := fg_wsAt (E := E) (M := M) ha100 hlt
  rw [fg_entO ha hci] at he
  have hset := fg_wsSet (E := E) (M := M) (M' := (fg_sr M a j none)) (a := a) ha100 hlt rfl (fg_entO ha hci) (fun q hq => fg_entCong (fun i => rfl) (fun i => fg_u2ne hq))
  rw [← fg_fvSetR hj hr] at hset
  refine va_put (D := E.2.1) (cl := fg_cl) (tys := fg_tys E) (ws := fg_ws E M) (ty := fg_ty ci j) (v := va_rf ((none : Option Nat).map (fg_ad E))) hx hb hts (fun w h => fg_in (c1 w h)) (fg_ty ci) c2 c3 hown hU.1 hH.2 fg_wsD hS (a - 100) he hc j hj (hts _ (fg_in hw)) (fun _ h9 => h9) (hfin _ _ hc) (c2 j hj) (by cases ht : fg_ty ci j <;> rw [ht] at hr <;> first | rfl | cases hr) (by cases ht : fg_ty ci j <;> rw [ht] at hr <;> first | rfl | cases hr) (by simp; exact hj) hd (fun H1 locs1 hP1 hD1 hS1 => k p e s m args below meth c C H1 locs1 ls ⟨hH.1, ?_⟩ hS1 h0 h1 hl hz)
  rw [← hset]
  exact hP1
theorem fg_putIF {x : Int32} {index ci N j a : Nat} (hd : decode Y.2.1 pc = .ok (.putfield index, 3)) (hf : fg_F Y.1.cls index ci N j) (ha : fg_lay a = (ci, N)) (hr : fg_isR (fg_ty ci j) = false) (hlt : a < M.2.2) (hnx : fg_nok (fg_ty ci j) x) (hfin : ∀ (C : String) (T : u_T), fg_cl[ci]? = some (C, T, N) → (T j).2.2.2 = true) (hini : Y.1.name = "<init>") (hcl1 : ∀ (C : String) (T : u_T), fg_cl[ci]? = some (C, T, N) → C = Y.1.cls) (k : fg_wp E Y d n0 n1 Q (pc + 3) L st (fg_si M a j x)) : fg_wp E Y d n0 n1 Q pc L (.int x :: .ref a :: st) M := by
  intro p e s m args below meth c C H locs ls hH hS h0 h1 hl hz
  obtain ⟨hx, hb, hret, hlk, hml, hown, hts, hU, hK, hbs, h100, hnm⟩ := id C
  obtain ⟨C1, T, hc, hj, hC1, hw⟩ := hf
  obtain ⟨c1, c2, c3⟩ := fg_cls hc
  have hci : ci < 10 := by
    have := (List.getElem?_eq_some_iff.mp hc).1
    simp at this
    omega
  have ha100 := fg_ge ha (by omega)
  have he := fg_wsAt (E := E) (M := M) ha100 hlt
  rw [fg_entO ha hci] at he
  have hset := fg_wsSet (E := E) (M := M) (M' := (fg_si M a j x)) (a := a) ha100 hlt rfl (fg_entO ha hci) (fun q hq => fg_entCong (fun i => fg_u2ne hq) (fun i => rfl))
  rw [← fg_fvSetI hj hr] at hset
  refine va_putF (D := E.2.1) (cl := fg_cl) (tys := fg_tys E) (ws := fg_ws E M) (ty := fg_ty ci j) (v := .int x) hx hb hts (fun w h => fg_in (c1 w h)) (fg_ty ci) c2 c3 hown hU.1 hH.2 fg_wsD hS (a - 100) he hc j hj (hts _ (fg_in hw)) (fun _ h9 => h9) (hfin _ _ hc) (hnm hini) (by rw [hC1]; exact hcl1 _ _ hc) (c2 j hj) hnx.1 hnx.2 (by simp; exact hj) hd (fun H1 locs1 hP1 hD1 hS1 => k p e s m args below meth c C H1 locs1 ls ⟨hH.1, ?_⟩ hS1 h0 h1 hl hz)
  rw [← hset]
  exact hP1
theorem fg_putRF {b : Nat} {index ci N j a : Nat} (hd : decode Y.2.1 pc = .ok (.putfield index, 3)) (hf : fg_F Y.1.cls index ci N j) (ha : fg_lay a = (ci, N)) (hr : fg_isR (fg_ty ci j) = true) (hlt : a < M.2.2)  (hfin : ∀ (C : String) (T : u_T), fg_cl[ci]? = some (C, T, N) → (T j).2.2.2 = true) (hini : Y.1.name = "<init>") (hcl1 : ∀ (C : String) (T : u_T), fg_cl[ci]? = some (C, T, N) → C = Y.1.cls) (k : fg_wp E Y d n0 n1 Q (pc + 3) L st (fg_sr M a j (some b))) : fg_wp E Y d n0 n1 Q pc L (.ref b :: .ref a :: st) M := by
  intro p e s m args below meth c C H locs ls hH hS h0 h1 hl hz
  obtain ⟨hx, hb, hret, hlk, hml, hown, hts, hU, hK, hbs, h100, hnm⟩ := id C
  obtain ⟨C1, T, hc, hj, hC1, hw⟩ := hf
  obtain ⟨c1, c2, c3⟩ := fg_cls hc
  have hci : ci < 10 := by
    have := (List.getElem?_eq_some_iff.mp hc).1
    simp at this
    omega
  have ha100 := fg_ge ha (by omega)
  have he := fg_wsAt (E := E) (M := M) ha100 hlt
  rw [fg_entO ha hci] at he
  have hset := fg_wsSet (E := E) (M := M) (M' := (fg_sr M a j (some b))) (a := a) ha100 hlt rfl (fg_entO ha hci) (fun q hq => fg_entCong (fun i => rfl) (fun i => fg_u2ne hq))
  rw [← fg_fvSetR hj hr] at hset
  refine va_putF (D := E.2.1) (cl := fg_cl) (tys := fg_tys E) (ws := fg_ws E M) (ty := fg_ty ci j) (v := va_rf ((some b).map (fg_ad E))) hx hb hts (fun w h => fg_in (c1 w h)) (fg_ty ci) c2 c3 hown hU.1 hH.2 fg_wsD hS (a - 100) he hc j hj (hts _ (fg_in hw)) (fun _ h9 => h9) (hfin _ _ hc) (hnm hini) (by rw [hC1]; exact hcl1 _ _ hc) (c2 j hj) (by cases ht : fg_ty ci j <;> rw [ht] at hr <;> first | rfl | cases hr) (by cases ht : fg_ty ci j <;> rw [ht] at hr <;> first | rfl | cases hr) (by simp; exact hj) hd (fun H1 locs1 hP1 hD1 hS1 => k p e s m args below meth c C H1 locs1 ls ⟨hH.1, ?_⟩ hS1 h0 h1 hl hz)
  rw [← hset]
  exact hP1
theorem fg_putNF {index ci N j a : Nat} (hd : decode Y.2.1 pc = .ok (.putfield index, 3)) (hf : fg_F Y.1.cls index ci N j) (ha : fg_lay a = (ci, N)) (hr : fg_isR (fg_ty ci j) = true) (hlt : a < M.2.2)  (hfin : ∀ (C : String) (T : u_T), fg_cl[ci]? = some (C, T, N) → (T j).2.2.2 = true) (hini : Y.1.name = "<init>") (hcl1 : ∀ (C : String) (T : u_T), fg_cl[ci]? = some (C, T, N) → C = Y.1.cls) (k : fg_wp E Y d n0 n1 Q (pc + 3) L st (fg_sr M a j none)) : fg_wp E Y d n0 n1 Q pc L (.null :: .ref a :: st) M := by
  intro p e s m args below meth c C H locs ls hH hS h0 h1 hl hz
  obtain ⟨hx, hb, hret, hlk, hml, hown, hts, hU, hK, hbs, h100, hnm⟩ := id C
  obtain ⟨C1, T, hc, hj, hC1, hw⟩ := hf
  obtain ⟨c1, c2, c3⟩ := fg_cls hc
  have hci : ci < 10 := by
    have := (List.getElem?_eq_some_iff.mp hc).1
    simp at this
    omega
  have ha100 := fg_ge ha (by omega)
  have he := fg_wsAt (E := E) (M := M) ha100 hlt
  rw [fg_entO ha hci] at he
  have hset := fg_wsSet (E := E) (M := M) (M' := (fg_sr M a j none)) (a := a) ha100 hlt rfl (fg_entO ha hci) (fun q hq => fg_entCong (fun i => rfl) (fun i => fg_u2ne hq))
  rw [← fg_fvSetR hj hr] at hset
  refine va_putF (D := E.2.1) (cl := fg_cl) (tys := fg_tys E) (ws := fg_ws E M) (ty := fg_ty ci j) (v := va_rf ((none : Option Nat).map (fg_ad E))) hx hb hts (fun w h => fg_in (c1 w h)) (fg_ty ci) c2 c3 hown hU.1 hH.2 fg_wsD hS (a - 100) he hc j hj (hts _ (fg_in hw)) (fun _ h9 => h9) (hfin _ _ hc) (hnm hini) (by rw [hC1]; exact hcl1 _ _ hc) (c2 j hj) (by cases ht : fg_ty ci j <;> rw [ht] at hr <;> first | rfl | cases hr) (by cases ht : fg_ty ci j <;> rw [ht] at hr <;> first | rfl | cases hr) (by simp; exact hj) hd (fun H1 locs1 hP1 hD1 hS1 => k p e s m args below meth c C H1 locs1 ls ⟨hH.1, ?_⟩ hS1 h0 h1 hl hz)
  rw [← hset]
  exact hP1
theorem fg_iald {a n : Nat} {i : Int32} (hd : decode Y.2.1 pc = .ok (.iaload, 1)) (ha : fg_lay a = (10, n)) (hlt : a < M.2.2) (hi : vp_in i n) (k : fg_wp E Y d n0 n1 Q (pc + 1) L (.int (M.1 a i.toNatClampNeg) :: st) M) : fg_wp E Y d n0 n1 Q pc L (.int i :: .ref a :: st) M := by
  intro p e s m args below meth c C H locs ls hH hS h0 h1 hl hz
  obtain ⟨hx, hb, hr, hlk, hml, hown, hts, hU, hK, hbs, h100, hnm⟩ := id C
  have ha100 := fg_ge ha (by omega)
  have he := fg_wsAt (E := E) (M := M) ha100 hlt
  rw [fg_entI ha (by omega) (by omega)] at he
  exact va_iald (D := E.2.1) (cl := fg_cl) (tys := fg_tys E) (ws := fg_ws E M) hx hb hU.1 hH.2 (a - 100) 0 he (fg_tysAt E (k := 0) (by omega)) hi hd (k p e s m args below meth c C H locs ls hH hS h0 h1 hl hz)
theorem fg_bald {a n : Nat} {i : Int32} (hd : decode Y.2.1 pc = .ok (.baload, 1)) (ha : fg_lay a = (11, n)) (hlt : a < M.2.2) (hi : vp_in i n) (k : fg_wp E Y d n0 n1 Q (pc + 1) L (.int (M.1 a i.toNatClampNeg) :: st) M) : fg_wp E Y d n0 n1 Q pc L (.int i :: .ref a :: st) M := by
  intro p e s m args below meth c C H locs ls hH hS h0 h1 hl hz
  obtain ⟨hx, hb, hr, hlk, hml, hown, hts, hU, hK, hbs, h100, hnm⟩ := id C
  have ha100 := fg_ge ha (by omega)
  have he := fg_wsAt (E := E) (M := M) ha100 hlt
  rw [fg_entI ha (by omega) (by omega)] at he
  exact va_bald (D := E.2.1) (cl := fg_cl) (tys := fg_tys E) (ws := fg_ws E M) hx hb hU.1 hH.2 (a - 100) 1 he (fg_tysAt E (k := 1) (by omega)) hi hd (k p e s m args below meth c C H locs ls hH hS h0 h1 hl hz)
theorem fg_zald {a n : Nat} {i : Int32} (hd : decode Y.2.1 pc = .ok (.baload, 1)) (ha : fg_lay a = (12, n)) (hlt : a < M.2.2) (hi : vp_in i n) (k : fg_wp E Y d n0 n1 Q (pc + 1) L (.int (M.1 a i.toNatClampNeg) :: st) M) : fg_wp E Y d n0 n1 Q pc L (.int i :: .ref a :: st) M := by
  intro p e s m args below meth c C H locs ls hH hS h0 h1 hl hz
  obtain ⟨hx, hb, hr, hlk, hml, hown, hts, hU, hK, hbs, h100, hnm⟩ := id C
  have ha100 := fg_ge ha (by omega)
  have he := fg_wsAt (E := E) (M := M) ha100 hlt
  rw [fg_entI ha (by omega) (by omega)] at he
  exact va_zald (D := E.2.1) (cl := fg_cl) (tys := fg_tys E) (ws := fg_ws E M) hx hb hU.1 hH.2 (a - 100) 2 he (fg_tysAt E (k := 2) (by omega)) hi hd (k p e s m args below meth c C H locs ls hH hS h0 h1 hl hz)
theorem fg_iast {a n : Nat} {i x : Int32} (hd : decode Y.2.1 pc = .ok (.iastore, 1)) (ha : fg_lay a = (10, n)) (hlt : a < M.2.2) (hi : vp_in i n) (k : fg_wp E Y d n0 n1 Q (pc + 1) L st (fg_si M a i.toNatClampNeg (x))) : fg_wp E Y d n0 n1 Q pc L (.int x :: .int i :: .ref a :: st) M := by
  intro p e s m args below meth c C H locs ls hH hS h0 h1 hl hz
  obtain ⟨hx, hb, hr, hlk, hml, hown, hts, hU, hK, hbs, h100, hnm⟩ := id C
  have ha100 := fg_ge ha (by omega)
  have he := fg_wsAt (E := E) (M := M) ha100 hlt
  rw [fg_entI ha (by omega) (by omega)] at he
  have hf : upd (M.1 a) i.toNatClampNeg (x) = (fg_si M a i.toNatClampNeg (x)).1 a := by
    funext j
    simp [fg_si, fg_u2, upd]
  have hset := fg_wsSet (E := E) (M := M) (M' := (fg_si M a i.toNatClampNeg (x))) (a := a) ha100 hlt rfl (fg_entI ha (by omega) (by omega)) (fun q hq => fg_entCong (fun i => fg_u2ne hq) (fun i => rfl))
  refine va_iast (D := E.2.1) (cl := fg_cl) (tys := fg_tys E) (ws := fg_ws E M) hx hb hU.1 hH.2 fg_wsD hS (a - 100) 0 he (fg_tysAt E (k := 0) (by omega)) hi hd (fun H1 locs1 hP1 hD1 hS1 => k p e s m args below meth c C H1 locs1 ls ⟨hH.1, ?_⟩ hS1 h0 h1 hl hz)
  rw [← hset, ← hf]
  exact hP1
theorem fg_bast {a n : Nat} {i x : Int32} (hd : decode Y.2.1 pc = .ok (.bastore, 1)) (ha : fg_lay a = (11, n)) (hlt : a < M.2.2) (hi : vp_in i n) (k : fg_wp E Y d n0 n1 Q (pc + 1) L st (fg_si M a i.toNatClampNeg (vp_nar .byte x))) : fg_wp E Y d n0 n1 Q pc L (.int x :: .int i :: .ref a :: st) M := by
  intro p e s m args below meth c C H locs ls hH hS h0 h1 hl hz
  obtain ⟨hx, hb, hr, hlk, hml, hown, hts, hU, hK, hbs, h100, hnm⟩ := id C
  have ha100 := fg_ge ha (by omega)
  have he := fg_wsAt (E := E) (M := M) ha100 hlt
  rw [fg_entI ha (by omega) (by omega)] at he
  have hf : upd (M.1 a) i.toNatClampNeg (vp_nar .byte x) = (fg_si M a i.toNatClampNeg (vp_nar .byte x)).1 a := by
    funext j
    simp [fg_si, fg_u2, upd]
  have hset := fg_wsSet (E := E) (M := M) (M' := (fg_si M a i.toNatClampNeg (vp_nar .byte x))) (a := a) ha100 hlt rfl (fg_entI ha (by omega) (by omega)) (fun q hq => fg_entCong (fun i => fg_u2ne hq) (fun i => rfl))
  refine va_bast (D := E.2.1) (cl := fg_cl) (tys := fg_tys E) (ws := fg_ws E M) hx hb hU.1 hH.2 fg_wsD hS (a - 100) 1 he (fg_tysAt E (k := 1) (by omega)) hi hd (fun H1 locs1 hP1 hD1 hS1 => k p e s m args below meth c C H1 locs1 ls ⟨hH.1, ?_⟩ hS1 h0 h1 hl hz)
  rw [← hset, ← hf]
  exact hP1
theorem fg_zast {a n : Nat} {i x : Int32} (hd : decode Y.2.1 pc = .ok (.bastore, 1)) (ha : fg_lay a = (12, n)) (hlt : a < M.2.2) (hi : vp_in i n) (k : fg_wp E Y d n0 n1 Q (pc + 1) L st (fg_si M a i.toNatClampNeg (vp_nar .boolean x))) : fg_wp E Y d n0 n1 Q pc L (.int x :: .int i :: .ref a :: st) M := by
  intro p e s m args below meth c C H locs ls hH hS h0 h1 hl hz
  obtain ⟨hx, hb, hr, hlk, hml, hown, hts, hU, hK, hbs, h100, hnm⟩ := id C
  have ha100 := fg_ge ha (by omega)
  have he := fg_wsAt (E := E) (M := M) ha100 hlt
  rw [fg_entI ha (by omega) (by omega)] at he
  have hf : upd (M.1 a) i.toNatClampNeg (vp_nar .boolean x) = (fg_si M a i.toNatClampNeg (vp_nar .boolean x)).1 a := by
    funext j
    simp [fg_si, fg_u2, upd]
  have hset := fg_wsSet (E := E) (M := M) (M' := (fg_si M a i.toNatClampNeg (vp_nar .boolean x))) (a := a) ha100 hlt rfl (fg_entI ha (by omega) (by omega)) (fun q hq => fg_entCong (fun i => fg_u2ne hq) (fun i => rfl))
  refine va_zast (D := E.2.1) (cl := fg_cl) (tys := fg_tys E) (ws := fg_ws E M) hx hb hU.1 hH.2 fg_wsD hS (a - 100) 2 he (fg_tysAt E (k := 2) (by omega)) hi hd (fun H1 locs1 hP1 hD1 hS1 => k p e s m args below meth c C H1 locs1 ls ⟨hH.1, ?_⟩ hS1 h0 h1 hl hz)
  rw [← hset, ← hf]
  exact hP1
theorem fg_aald {a n kk b : Nat} {i : Int32} (hd : decode Y.2.1 pc = .ok (.aaload, 1)) (ha : fg_lay a = (kk, n)) (hk : 13 ≤ kk ∧ kk < 17) (hlt : a < M.2.2) (hi : vp_in i n) (hv : M.2.1 a i.toNatClampNeg = some b) (k : fg_wp E Y d n0 n1 Q (pc + 1) L (.ref b :: st) M) : fg_wp E Y d n0 n1 Q pc L (.int i :: .ref a :: st) M := by
  intro p e s m args below meth c C H locs ls hH hS h0 h1 hl hz
  obtain ⟨hx, hb, hr, hlk, hml, hown, hts, hU, hK, hbs, h100, hnm⟩ := id C
  have ha100 := fg_ge ha (by omega)
  have he := fg_wsAt (E := E) (M := M) ha100 hlt
  rw [fg_entR ha (by omega)] at he
  have hC : ∃ C : String, fg_aty (kk - 10) = .object C := by
    have : kk = 13 ∨ kk = 14 ∨ kk = 15 ∨ kk = 16 := by omega
    rcases this with rfl | rfl | rfl | rfl
    · exact ⟨RX4, rfl⟩
    · exact ⟨RX5, rfl⟩
    · exact ⟨RX2, rfl⟩
    · exact ⟨RX6, rfl⟩
  obtain ⟨C0, hC⟩ := hC
  have ht := fg_tysAt E (k := kk - 10) (by omega)
  rw [hC] at ht
  have key := fun kq => va_aldq (D := E.2.1) (cl := fg_cl) (tys := fg_tys E) (ws := fg_ws E M) (p := p) (l := E.1) (e := e) (R := fg_R d n0 n1) (s := s) (m := m) (args := args) (below := below) (meth := meth) (c := c) (H := H) (locs := locs) (cells := M.2.2 - n0) (slots := fg_SL M.2.2 - fg_SL n0) (Q := MQ below (fg_Qc E Q n1) args s (n1 - n0) (fg_SL n1 - fg_SL n0) (fg_A E)) (ls := ls) (rest := st.map (fg_tv E)) (pc := pc) hx hb hU.1 hH.2 (a - 100) (kk - 10) he ht hi hd kq
  refine key ?_
  have hk2 := k p e s m args below meth c C H locs ls hH hS h0 h1 hl hz
  rw [hv]
  exact hk2
theorem fg_alen {a n kk : Nat} (hd : decode Y.2.1 pc = .ok (.arraylength, 1)) (ha : fg_lay a = (kk, n)) (hk : 10 ≤ kk ∧ kk < 17) (hlt : a < M.2.2) (k : fg_wp E Y d n0 n1 Q (pc + 1) L (.int (nI n) :: st) M) : fg_wp E Y d n0 n1 Q pc L (.ref a :: st) M := by
  intro p e s m args below meth c C H locs ls hH hS h0 h1 hl hz
  obtain ⟨hx, hb, hr, hlk, hml, hown, hts, hU, hK, hbs, h100, hnm⟩ := id C
  have ha100 := fg_ge ha (by omega)
  have he := fg_wsAt (E := E) (M := M) ha100 hlt
  by_cases h13 : kk < 13
  · rw [fg_entI ha (by omega) (by omega)] at he
    exact va_alen (D := E.2.1) (cl := fg_cl) (tys := fg_tys E) (ws := fg_ws E M) hx hb hU.1 hH.2 (a - 100) (kk - 10) he (fg_tysAt E (k := kk - 10) (by omega)) (v := nI n) rfl hd (k p e s m args below meth c C H locs ls hH hS h0 h1 hl hz)
  · rw [fg_entR ha (by omega)] at he
    exact va_alen (D := E.2.1) (cl := fg_cl) (tys := fg_tys E) (ws := fg_ws E M) hx hb hU.1 hH.2 (a - 100) (kk - 10) he (fg_tysAt E (k := kk - 10) (by omega)) (v := nI n) rfl hd (k p e s m args below meth c C H locs ls hH hS h0 h1 hl hz)
theorem fg_sld {i : Int32} (hd : decode Y.2.1 pc = .ok (.iaload, 1)) (hi : vp_in i E.2.2.2.2.2.2) (k : fg_wp E Y d n0 n1 Q (pc + 1) L (.int (E.2.2.2.2.2.1 i.toNatClampNeg) :: st) M) : fg_wp E Y d n0 n1 Q pc L (.int i :: .ref 99 :: st) M := by
  intro p e s m args below meth c C H locs ls hH hS h0 h1 hl hz
  obtain ⟨hx, hb, hr, hlk, hml, hown, hts, hU, hK, hbs, h100, hnm⟩ := id C
  obtain ⟨hX, hnA, -⟩ := hK.2.2.2.2.2.2.1
  obtain ⟨scr, e1, -⟩ := id hX
  exact va_sld hx hb hX (Array.getElem?_eq_some_iff.mp e1).1 hnA hS hi hd (k p e s m args below meth c C H locs ls hH hS h0 h1 hl hz)
theorem fg_slen (hd : decode Y.2.1 pc = .ok (.arraylength, 1)) (k : E.2.2.2.2.2.2 ≤ 4096 → fg_wp E Y d n0 n1 Q (pc + 1) L (.int (nI E.2.2.2.2.2.2) :: st) M) : fg_wp E Y d n0 n1 Q pc L (.ref 99 :: st) M := by
  intro p e s m args below meth c C H locs ls hH hS h0 h1 hl hz
  obtain ⟨hx, hb, hr, hlk, hml, hown, hts, hU, hK, hbs, h100, hnm⟩ := id C
  obtain ⟨hX, hnA, hL⟩ := hK.2.2.2.2.2.2.1
  obtain ⟨scr, e1, -⟩ := id hX
  exact va_slen hx hb hX (Array.getElem?_eq_some_iff.mp e1).1 hnA hS hd (k hL p e s m args below meth c C H locs ls hH hS h0 h1 hl hz)
def fg_G (own : String) (index : Nat) (v : Value) : Prop := ∃ q ∈ fg_stat, q.2.2.2 = v ∧ Cond.fieldLink own index q.1 q.2.1 q.2.2.1 ∈ fg_tbl
theorem fg_gets {index : Nat} {v : Value} (hd : decode Y.2.1 pc = .ok (.getstatic index, 3)) (hg : fg_G Y.1.cls index v) (k : fg_wp E Y d n0 n1 Q (pc + 3) L (v :: st) M) : fg_wp E Y d n0 n1 Q pc L st M := by
  intro p e s m args below meth c C H locs ls hH hS h0 h1 hl hz
  obtain ⟨hx, hb, hr, hlk, hml, hown, hts, hU, hK, hbs, h100, hnm⟩ := id C
  obtain ⟨q, hq, rfl, hw⟩ := hg
  exact va_gets hx hb (hK.1 q hq) hS hown (hts _ (fg_in hw)) (fun _ h9 => h9) hd (k p e s m args below meth c C H locs ls hH hS h0 h1 hl hz)
def fg_KF (own : String) (index a : Nat) (v : Value) : Prop := ∃ q ∈ fg_ofld, q.1 = a ∧ q.2.2.2.2 = v ∧ Cond.fieldLink own index q.2.1 q.2.2.1 q.2.2.2.1 ∈ fg_tbl
theorem fg_getK {index a : Nat} {v : Value} (hd : decode Y.2.1 pc = .ok (.getfield index, 3)) (hg : fg_KF Y.1.cls index a v) (k : fg_wp E Y d n0 n1 Q (pc + 3) L (v :: st) M) : fg_wp E Y d n0 n1 Q pc L (.ref a :: st) M := by
  intro p e s m args below meth c C H locs ls hH hS h0 h1 hl hz
  obtain ⟨hx, hb, hr, hlk, hml, hown, hts, hU, hK, hbs, h100, hnm⟩ := id C
  obtain ⟨q, hq, rfl, rfl, hw⟩ := hg
  exact vk_getf hx hb (hK.2.2.1 q hq) hS hown (hts _ (fg_in hw)) (fun _ h9 => h9) hd (k p e s m args below meth c C H locs ls hH hS h0 h1 hl hz)
theorem fg_acmp_eq {a b : Nat} {off : Int} {tgt : Nat} (hd : decode Y.2.1 pc = .ok (.if_acmp .eq off, 3)) (ht : (pc : Int) + off = (tgt : Int)) (ha : a < 17) (hb17 : b < 17) (kt : a = b → fg_wp E Y d n0 n1 Q tgt L st M) (kf : ¬ a = b → fg_wp E Y d n0 n1 Q (pc + 3) L st M) : fg_wp E Y d n0 n1 Q pc L (.ref b :: .ref a :: st) M := by
  intro p e s m args below meth c C H locs ls hH hS h0 h1 hl hz
  obtain ⟨hx, hb, hr, hlk, hml, hown, hts, hU, hK, hbs, h100, hnm⟩ := id C
  have hinj := hK.2.2.2.2.2.1
  have e1 : (some (fg_ad E a) = some (fg_ad E b)) ↔ a = b := ⟨fun h => hinj a b ha hb17 (Option.some.inj h), fun h => by rw [h]⟩
  exact lv_acmp_eq hx hb (rx := some (fg_ad E a)) (ry := some (fg_ad E b)) hd ht (fun z => kt (by rw [e1] at z; exact z) p e s m args below meth c C H locs ls hH hS h0 h1 hl hz) (fun z => kf (by rw [e1] at z; exact z) p e s m args below meth c C H locs ls hH hS h0 h1 hl hz)
theorem fg_acmp_ne {a b : Nat} {off : Int} {tgt : Nat} (hd : decode Y.2.1 pc = .ok (.if_acmp .ne off, 3)) (ht : (pc : Int) + off = (tgt : Int)) (ha : a < 17) (hb17 : b < 17) (kt : ¬ a = b → fg_wp E Y d n0 n1 Q tgt L st M) (kf : a = b → fg_wp E Y d n0 n1 Q (pc + 3) L st M) : fg_wp E Y d n0 n1 Q pc L (.ref b :: .ref a :: st) M := by
  intro p e s m args below meth c C H locs ls hH hS h0 h1 hl hz
  obtain ⟨hx, hb, hr, hlk, hml, hown, hts, hU, hK, hbs, h100, hnm⟩ := id C
  have hinj := hK.2.2.2.2.2.1
  have e1 : (some (fg_ad E a) = some (fg_ad E b)) ↔ a = b := ⟨fun h => hinj a b ha hb17 (Option.some.inj h), fun h => by rw [h]⟩
  exact lv_acmp_ne hx hb (rx := some (fg_ad E a)) (ry := some (fg_ad E b)) hd ht (fun z => kt (by rw [e1] at z; exact z) p e s m args below meth c C H locs ls hH hS h0 h1 hl hz) (fun z => kf (by rw [e1] at z; exact z) p e s m args below meth c C H locs ls hH hS h0 h1 hl hz)
theorem fg_iret {x : Int32} (hd : decode Y.2.1 pc = .ok (.ireturn, 1)) (hr : Y.2.2.2 = some .int)  (hn : M.2.2 = n1) (hq : Q (some (.int x)) M) : fg_wp E Y d n0 n1 Q pc L [.int x] M := by
  intro p e s m args below meth c C H locs ls hH hS h0 h1 hl hz
  obtain ⟨hx, hb, hret, hlk, hml, hown, hts, hU, hK, hbs, h100, hnm⟩ := id C
  subst hn
  exact W.iret hx hb (hret.trans hr) (fun t ht hW => ⟨⟨some (.int x), M, rfl, hq, rfl, by rw [ht]; exact hH⟩, hS.F ht⟩) hS.2.2 hd
theorem fg_zret {x : Int32} {ty : FieldType} (hd : decode Y.2.1 pc = .ok (.ireturn, 1)) (hr : Y.2.2.2 = some ty) (hnx : narrow ty (.int x) = .int x) (hn : M.2.2 = n1) (hq : Q (some (.int x)) M) : fg_wp E Y d n0 n1 Q pc L [.int x] M := by
  intro p e s m args below meth c C H locs ls hH hS h0 h1 hl hz
  obtain ⟨hx, hb, hret, hlk, hml, hown, hts, hU, hK, hbs, h100, hnm⟩ := id C
  subst hn
  exact W.zret hx hb (hret.trans hr) hnx (fun t ht hW => ⟨⟨some (.int x), M, rfl, hq, rfl, by rw [ht]; exact hH⟩, hS.F ht⟩) hS.2.2 hd
theorem fg_vret  (hd : decode Y.2.1 pc = .ok (.return_, 1)) (hr : Y.2.2.2 = none)  (hn : M.2.2 = n1) (hq : Q none M) : fg_wp E Y d n0 n1 Q pc L [] M := by
  intro p e s m args below meth c C H locs ls hH hS h0 h1 hl hz
  obtain ⟨hx, hb, hret, hlk, hml, hown, hts, hU, hK, hbs, h100, hnm⟩ := id C
  subst hn
  exact W.vret hx hb (hret.trans hr) (fun t ht hW => ⟨⟨none, M, rfl, hq, rfl, by rw [ht]; exact hH⟩, hS.F ht⟩) hS.2.2 hd
theorem fg_aret {a : Nat} {ty : FieldType} (hd : decode Y.2.1 pc = .ok (.areturn, 1)) (hr : Y.2.2.2 = some ty) (hty : (∃ n, ty = .object n) ∨ ∃ t, ty = .array t) (hn : M.2.2 = n1) (hq : Q (some (.ref a)) M) : fg_wp E Y d n0 n1 Q pc L [.ref a] M := by
  intro p e s m args below meth c C H locs ls hH hS h0 h1 hl hz
  obtain ⟨hx, hb, hret, hlk, hml, hown, hts, hU, hK, hbs, h100, hnm⟩ := id C
  subst hn
  exact W.aret hx hb (hret.trans hr) hty (Or.inr ⟨_, rfl⟩) (fun t ht hW => ⟨⟨some (.ref a), M, rfl, hq, rfl, by rw [ht]; exact hH⟩, hS.F ht⟩) hS.2.2 hd
theorem fg_nret {ty : FieldType} (hd : decode Y.2.1 pc = .ok (.areturn, 1)) (hr : Y.2.2.2 = some ty) (hty : (∃ n, ty = .object n) ∨ ∃ t, ty = .array t) (hn : M.2.2 = n1) (hq : Q (some (.null)) M) : fg_wp E Y d n0 n1 Q pc L [.null] M := by
  intro p e s m args below meth c C H locs ls hH hS h0 h1 hl hz
  obtain ⟨hx, hb, hret, hlk, hml, hown, hts, hU, hK, hbs, h100, hnm⟩ := id C
  subst hn
  exact W.aret hx hb (hret.trans hr) hty (Or.inl rfl) (fun t ht hW => ⟨⟨some .null, M, rfl, hq, rfl, by rw [ht]; exact hH⟩, hS.F ht⟩) hS.2.2 hd
theorem fg_ldc {index : Nat} {v : Int32} (hd : decode Y.2.1 pc = .ok (.ldc index, 2)) (hw : Cond.constant Y.1.cls index v ∈ fg_tbl) (k : fg_wp E Y d n0 n1 Q (pc + 2) L (.int v :: st) M) : fg_wp E Y d n0 n1 Q pc L st M := by
  intro p e s m args below meth c C H locs ls hH hS h0 h1 hl hz
  obtain ⟨hx, hb, hr, hlk, hml, hown, hts, hU, hK, hbs, h100, hnm⟩ := id C
  exact lv_ldc hx hb hown (hts _ (fg_in hw)) hd (k p e s m args below meth c C H locs ls hH hS h0 h1 hl hz)
theorem fg_ldcw {index : Nat} {v : Int32} (hd : decode Y.2.1 pc = .ok (.ldc_w index, 3)) (hw : Cond.constant Y.1.cls index v ∈ fg_tbl) (k : fg_wp E Y d n0 n1 Q (pc + 3) L (.int v :: st) M) : fg_wp E Y d n0 n1 Q pc L st M := by
  intro p e s m args below meth c C H locs ls hH hS h0 h1 hl hz
  obtain ⟨hx, hb, hr, hlk, hml, hown, hts, hU, hK, hbs, h100, hnm⟩ := id C
  exact lv_ldcw hx hb hown (hts _ (fg_in hw)) hd (k p e s m args below meth c C H locs ls hH hS h0 h1 hl hz)
end FGM
