theorem fg_tyOk : ∀ ci j : Nat, defaultValue (fg_ty ci j) = if fg_isR (fg_ty ci j) then .null else .int 0 := by
  intro ci j
  unfold fg_ty
  split
  · unfold tyX0; split <;> rfl
  · unfold tyX1; split <;> rfl
  · unfold tyX2; split <;> rfl
  · unfold tyX3; split <;> rfl
  · unfold tyX4; split <;> rfl
  · unfold tyX5; split <;> rfl
  · unfold tyX7; split <;> rfl
  · unfold tyX8; split <;> rfl
/-- one object more, with nothing in it -/
def fg_mk (M : fg_M) : fg_M := (fun b j => if b = M.2.2 then 0 else M.1 b j, fun b j => if b = M.2.2 then none else M.2.1 b j, M.2.2 + 1)
def fg_N (own : String) (index ci N : Nat) : Prop := ∃ (C : String) (T : u_T), fg_cl[ci]? = some (C, T, N) ∧ Cond.classLink own index C ∈ fg_tbl ∧ Cond.instantiable C N ∈ fg_tbl ∧ Cond.initialized C ∈ fg_tbl
/-- the address of what is made: the next one -/
theorem fg_next {E : fg_E} {M : fg_M} {s : State} {H1 : Heap} {n0 q : Nat} {e : va_E} (hs : s.heap.size = fg_base E + (n0 - 100)) (h100 : 100 ≤ n0) (h0 : n0 ≤ M.2.2) (hP1 : va_P E.2.1 fg_cl (fg_ws E M ++ [(q, e)]) H1) (hD1 : va_D (fg_A E) (fg_ws E M ++ [(q, e)])) (hle : H1.size ≤ s.heap.size + (M.2.2 - n0 + 1)) : q = fg_base E + (M.2.2 - 100) := by
  have hlen : (fg_ws E M).length = M.2.2 - 100 := by simp [fg_ws]
  have hq : (fg_ws E M ++ [(q, e)])[M.2.2 - 100]? = some (q, e) := by
    rw [List.getElem?_append_right (by omega), hlen, Nat.sub_self]
    rfl
  have h1 : q < H1.size := (hP1 _ _ hq).lt
  have h2 : fg_base E ≤ q := hD1.2 _ _ hq
  rcases Nat.lt_or_ge q (fg_base E + (M.2.2 - 100)) with h3 | h3
  · exfalso
    have h4 : q - fg_base E + 100 < M.2.2 := by omega
    have h5 := fg_wsAt (E := E) (M := M) (a := q - fg_base E + 100) (by omega) h4
    have h6 : (fg_ws E M ++ [(q, e)])[q - fg_base E]? = some (fg_ad E (q - fg_base E + 100), fg_ent E M (q - fg_base E + 100)) := by
      rw [List.getElem?_append_left (by omega)]
      rw [show q - fg_base E = q - fg_base E + 100 - 100 by omega]
      exact h5
    have h7 := hD1.1 _ _ _ _ h6 hq (show fg_ad E (q - fg_base E + 100) = q by rw [fg_adE (by omega)]; omega)
    omega
  · omega
theorem fg_mkOld {E : fg_E} {M : fg_M} : ∀ k, k < M.2.2 → fg_ent E (fg_mk M) k = fg_ent E M k := fun k hk => fg_entCong (fun j => if_neg (by omega)) (fun j => if_neg (by omega))
section FGN
variable {E : fg_E} {Y : fg_Y} {d n0 n1 : Nat} {Q : Option Value → fg_M → Prop} {pc : Nat} {L st : List Value} {M : fg_M}
theorem fg_new {index ci N : Nat} (hd : decode Y.2.1 pc = .ok (.new index, 3)) (hf : fg_N Y.1.cls index ci N) (ha : fg_lay M.2.2 = (ci, N)) (hn : M.2.2 < n1) (k : fg_wp E Y d n0 n1 Q (pc + 3) L (.ref M.2.2 :: st) (fg_mk M)) : fg_wp E Y d n0 n1 Q pc L st M := by
  intro p e s m args below meth c C H locs ls hH hS h0 h1 hl hz
  obtain ⟨hx, hb, hret, hlk, hml, hown, hts, hU, hK, hbs, h100, hnm⟩ := id C
  obtain ⟨C1, T, hc, w1, w2, w3⟩ := hf
  obtain ⟨c1, c2, c3⟩ := fg_cls hc
  have hci : ci < 10 := by
    have := (List.getElem?_eq_some_iff.mp hc).1
    simp at this
    omega
  have hsl : fg_SL (M.2.2 + 1) = fg_SL M.2.2 + N := by
    show _ + (fg_lay M.2.2).2 = _
    rw [ha]
  have hm1 : fg_SL (M.2.2 + 1) ≤ fg_SL n1 := fg_SL_mono hn
  have hm0 : fg_SL n0 ≤ fg_SL M.2.2 := fg_SL_mono h0
  refine va_new (D := E.2.1) (cl := fg_cl) (tys := fg_tys E) (ws := fg_ws E M) (ci := ci) (fs := (List.range N).map (fg_fv E (fg_mk M) ci M.2.2)) hx hb hts (fun w h => fg_in (c1 w h)) (fg_ty ci) c2 hown (hts _ (fg_in w1)) (hts _ (fg_in w2)) (hts _ (fg_in w3)) hU.1 hH.2 fg_wsD hS (fun q hq => by show fg_base E ≤ q; omega) hc (fun j hj => ?_) (by show M.2.2 - n0 + 1 ≤ n1 - n0; omega) (by show fg_SL M.2.2 - fg_SL n0 + N ≤ fg_SL n1 - fg_SL n0; omega) hd (fun q H1 hP1 hD1 hS1 => ?_)
  · rw [fg_tyOk]
    simp only [vp_V, List.getD, List.getElem?_map, List.getElem?_range hj, Option.map_some, Option.getD_some, fg_fv, fg_mk, if_true]
    cases fg_isR (fg_ty ci j) <;> rfl
  · intro T1 hT X
    have hq := fg_next hbs h100 h0 hP1 hD1 (by rw [← hT]; exact X.same.2.2.1)
    subst hq
    rw [fg_wsPush (M' := fg_mk M) hH.1 rfl (fg_entO ha hci) fg_mkOld] at hP1
    have hk := k p e s m args below meth c C H1 locs ls ⟨Nat.le_succ_of_le hH.1, hP1⟩ hS1 (Nat.le_succ_of_le h0) hn hl hz
    rw [show (fg_mk M).2.2 - n0 = M.2.2 - n0 + 1 by show M.2.2 + 1 - n0 = _; omega, show fg_SL (fg_mk M).2.2 - fg_SL n0 = fg_SL M.2.2 - fg_SL n0 + N by show fg_SL (M.2.2 + 1) - fg_SL n0 = _; omega] at hk
    have had : fg_tv E (.ref M.2.2) = .ref (fg_base E + (M.2.2 - 100)) := by
      show Value.ref (fg_ad E M.2.2) = _
      rw [fg_adE hH.1]
    rw [List.map_cons, had] at hk
    exact hk T1 hT X
theorem fg_newa {at' : ArrayType} {x : Int32} {k n : Nat} (hd : decode Y.2.1 pc = .ok (.newarray at', 2)) (hty : newarray.typeOf at' = fg_aty k) (hk3 : k < 3) (hw : Cond.arrayClass (fg_aty k) ∈ fg_tbl) (hxn : x = nI n) (ha : fg_lay M.2.2 = (10 + k, n)) (hn : M.2.2 < n1) (kk : fg_wp E Y d n0 n1 Q (pc + 2) L (.ref M.2.2 :: st) (fg_mk M)) : fg_wp E Y d n0 n1 Q pc L (.int x :: st) M := by
  intro p e s m args below meth c C H locs ls hH hS h0 h1 hl hz
  obtain ⟨hx, hb, hret, hlk, hml, hown, hts, hU, hK, hbs, h100, hnm⟩ := id C
  subst hxn
  have hle := fg_szLe ha
  have hsl : fg_SL (M.2.2 + 1) = fg_SL M.2.2 + n := by
    show _ + (fg_lay M.2.2).2 = _
    rw [ha]
  have hm1 : fg_SL (M.2.2 + 1) ≤ fg_SL n1 := fg_SL_mono hn
  have hm0 : fg_SL n0 ≤ fg_SL M.2.2 := fg_SL_mono h0
  have hdv : defaultValue (fg_aty k) = .int 0 := by
    match k, hk3 with
    | 0, _ => rfl
    | 1, _ => rfl
    | 2, _ => rfl
  have hby : n * componentBytes (fg_aty k) ≤ 536870912 := by
    have : componentBytes (fg_aty k) ≤ 4 := by
      match k, hk3 with
      | 0, _ => decide
      | 1, _ => decide
      | 2, _ => decide
    calc n * componentBytes (fg_aty k) ≤ 5120 * 4 := Nat.mul_le_mul hle this
      _ ≤ 536870912 := by decide
  refine va_newa (D := E.2.1) (cl := fg_cl) (tys := fg_tys E) (ws := fg_ws E M) (a0 := (n, .inl (fun _ => 0))) (N' := n) (ty := fg_aty k) hx hb (by rw [hty]; exact hts _ (fg_in hw)) hty hU.1 hH.2 fg_wsD hS (fun q hq => by show fg_base E ≤ q; omega) (fun cA => by rw [hdv]; rfl) (nI_pos (by omega)) (nI_clamp (by omega)) hby (by show M.2.2 - n0 + 1 ≤ n1 - n0; omega) (by show fg_SL M.2.2 - fg_SL n0 + n ≤ fg_SL n1 - fg_SL n0; omega) hd (fun q cA H1 hK1 hP1 hD1 hS1 => ?_)
  intro T1 hT X
  have hq := fg_next hbs h100 h0 hP1 hD1 (by rw [← hT]; exact X.same.2.2.1)
  subst hq
  have hcA : cA = E.2.2.1 k := by
    have f1 := (hK1.2 7 (cA, fg_aty k) (by rw [List.getElem?_append_right (by simp [fg_tys])]; simp [fg_tys])).2
    have f2 := (hU.1.2 k _ (fg_tysAt E (k := k) (by omega))).2
    match k, hk3, f1, f2 with
    | 0, _, f1, f2 => exact Option.some.inj (f1.symm.trans f2)
    | 1, _, f1, f2 => exact Option.some.inj (f1.symm.trans f2)
    | 2, _, f1, f2 => exact Option.some.inj (f1.symm.trans f2)
  subst hcA
  have hent : fg_ent E (fg_mk M) M.2.2 = .inl (E.2.2.1 k, n, .inl (fun _ => 0)) := by
    rw [fg_entI (M := fg_mk M) ha (by omega) (by omega)]
    have hz0 : (fg_mk M).1 M.2.2 = fun _ => 0 := by
      funext j
      simp [fg_mk]
    rw [hz0, show 10 + k - 10 = k by omega]
  rw [fg_wsPush (M' := fg_mk M) hH.1 rfl hent fg_mkOld] at hP1
  have hk := kk p e s m args below meth c C H1 locs ls ⟨Nat.le_succ_of_le hH.1, hP1⟩ hS1 (Nat.le_succ_of_le h0) hn hl hz
  rw [show (fg_mk M).2.2 - n0 = M.2.2 - n0 + 1 by show M.2.2 + 1 - n0 = _; omega, show fg_SL (fg_mk M).2.2 - fg_SL n0 = fg_SL M.2.2 - fg_SL n0 + n by show fg_SL (M.2.2 + 1) - fg_SL n0 = _; omega] at hk
  have had : fg_tv E (.ref M.2.2) = .ref (fg_base E + (M.2.2 - 100)) := by
    show Value.ref (fg_ad E M.2.2) = _
    rw [fg_adE hH.1]
  rw [List.map_cons, had] at hk
  exact hk T1 hT X
theorem fg_newq {index k n : Nat} {x : Int32} {C0 : String} (hd : decode Y.2.1 pc = .ok (.anewarray index, 3)) (hC : fg_aty k = .object C0) (hCi : C0 ∈ [RX4, RX5, RX2, RX6]) (hk3 : 3 ≤ k ∧ k < 7) (hw : Cond.classLink Y.1.cls index C0 ∈ fg_tbl) (hxn : x = nI n) (ha : fg_lay M.2.2 = (10 + k, n)) (hn : M.2.2 < n1) (kk : fg_wp E Y d n0 n1 Q (pc + 3) L (.ref M.2.2 :: st) (fg_mk M)) : fg_wp E Y d n0 n1 Q pc L (.int x :: st) M := by
  intro p e s m args below meth c C H locs ls hH hS h0 h1 hl hz
  obtain ⟨hx, hb, hret, hlk, hml, hown, hts, hU, hK, hbs, h100, hnm⟩ := id C
  subst hxn
  have hle := fg_szLe ha
  have hsl : fg_SL (M.2.2 + 1) = fg_SL M.2.2 + n := by
    show _ + (fg_lay M.2.2).2 = _
    rw [ha]
  have hm1 : fg_SL (M.2.2 + 1) ≤ fg_SL n1 := fg_SL_mono hn
  have hm0 : fg_SL n0 ≤ fg_SL M.2.2 := fg_SL_mono h0
  refine va_newq (D := E.2.1) (cl := fg_cl) (tys := fg_tys E) (ws := fg_ws E M) (N' := n) hx hb hown (hts _ (fg_in hw)) (hU.2.2.1 C0 hCi) hU.1 hH.2 fg_wsD hS (fun q hq => by show fg_base E ≤ q; omega) (nI_pos (by omega)) (nI_clamp (by omega)) (by omega) (by show M.2.2 - n0 + 1 ≤ n1 - n0; omega) (by show fg_SL M.2.2 - fg_SL n0 + n ≤ fg_SL n1 - fg_SL n0; omega) hd (fun q cA H1 hK1 hP1 hD1 hS1 => ?_)
  intro T1 hT X
  have hq := fg_next hbs h100 h0 hP1 hD1 (by rw [← hT]; exact X.same.2.2.1)
  subst hq
  have hcA : cA = E.2.2.1 k := by
    have f1 := (hK1.2 7 (cA, .object C0) (by rw [List.getElem?_append_right (by simp [fg_tys])]; simp [fg_tys])).2
    have f2 := (hU.1.2 k _ (fg_tysAt E (k := k) (by omega))).2
    rw [hC] at f2
    obtain ⟨_, _, -, -, -, g1⟩ := f1
    obtain ⟨_, _, -, -, -, g2⟩ := f2
    exact Option.some.inj (g1.symm.trans g2)
  subst hcA
  have hent : fg_ent E (fg_mk M) M.2.2 = .inl (E.2.2.1 k, n, .inr (.inr (.inr (.inr (fun _ => none))))) := by
    rw [fg_entR (M := fg_mk M) ha (by omega)]
    have hz0 : (fun j => ((fg_mk M).2.1 M.2.2 j).map (fg_ad E)) = fun _ => none := by
      funext j
      simp [fg_mk]
    rw [hz0, show 10 + k - 10 = k by omega]
  rw [fg_wsPush (M' := fg_mk M) hH.1 rfl hent fg_mkOld] at hP1
  have hk := kk p e s m args below meth c C H1 locs ls ⟨Nat.le_succ_of_le hH.1, hP1⟩ hS1 (Nat.le_succ_of_le h0) hn hl hz
  rw [show (fg_mk M).2.2 - n0 = M.2.2 - n0 + 1 by show M.2.2 + 1 - n0 = _; omega, show fg_SL (fg_mk M).2.2 - fg_SL n0 = fg_SL M.2.2 - fg_SL n0 + n by show fg_SL (M.2.2 + 1) - fg_SL n0 = _; omega] at hk
  have had : fg_tv E (.ref M.2.2) = .ref (fg_base E + (M.2.2 - 100)) := by
    show Value.ref (fg_ad E M.2.2) = _
    rw [fg_adE hH.1]
  rw [List.map_cons, had] at hk
  exact hk T1 hT X
/-- an object put into an array of objects -/
theorem fg_astq {a n kk ci N b : Nat} {i : Int32} {C0 : String} {T0 : u_T} (hd : decode Y.2.1 pc = .ok (.aastore, 1)) (ha : fg_lay a = (kk, n)) (hk : 13 ≤ kk ∧ kk < 16) (hlt : a < M.2.2) (hi : vp_in i n) (hb1 : fg_lay b = (ci, N)) (hblt : b < M.2.2) (hc : fg_cl[ci]? = some (C0, T0, N)) (hC : fg_aty (kk - 10) = .object C0) (k : fg_wp E Y d n0 n1 Q (pc + 1) L st (fg_sr M a i.toNatClampNeg (some b))) : fg_wp E Y d n0 n1 Q pc L (.ref b :: .int i :: .ref a :: st) M := by
  intro p e s m args below meth c C H locs ls hH hS h0 h1 hl hz
  obtain ⟨hx, hb, hret, hlk, hml, hown, hts, hU, hK, hbs, h100, hnm⟩ := id C
  have ha100 := fg_ge ha (by omega)
  have hci : ci < 10 := by
    have := (List.getElem?_eq_some_iff.mp hc).1
    simp at this
    omega
  have hb100 := fg_ge hb1 (by omega)
  have he := fg_wsAt (E := E) (M := M) ha100 hlt
  rw [fg_entR ha (by omega)] at he
  have heb := fg_wsAt (E := E) (M := M) hb100 hblt
  rw [fg_entO hb1 hci] at heb
  have ht := fg_tysAt E (k := kk - 10) (by omega)
  rw [hC] at ht
  have hf : va_up (fun j => (M.2.1 a j).map (fg_ad E)) i.toNatClampNeg (some (fg_ad E b)) = fun j => ((fg_sr M a i.toNatClampNeg (some b)).2.1 a j).map (fg_ad E) := by
    funext j
    simp only [va_up, fg_sr, fg_u2, if_true]
    split <;> rfl
  have hset := fg_wsSet (E := E) (M := M) (M' := fg_sr M a i.toNatClampNeg (some b)) (a := a) ha100 hlt rfl (fg_entR ha (by omega)) (fun q hq => fg_entCong (fun i => rfl) (fun i => fg_u2ne hq))
  refine va_astq (D := E.2.1) (cl := fg_cl) (tys := fg_tys E) (ws := fg_ws E M) (r := (C0, T0, N)) hx hb hU.1 hH.2 fg_wsD hS (a - 100) (kk - 10) (b - 100) ci he ht heb hc hi hd (fun H1 locs1 hP1 hD1 hS1 => k p e s m args below meth c C H1 locs1 ls ⟨hH.1, ?_⟩ hS1 h0 h1 hl hz)
  rw [← hset, ← hf]
  exact hP1
end FGN
