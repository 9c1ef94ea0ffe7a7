/-! a text's lines, read purely: K, V, S are the tokens' kinds, numbers, starts -/
def pz_up (C : Nat → Nat) (k v : Nat) : Nat → Nat := fun x => if x = k then v else C x
theorem pz_up_eq {C : Nat → Nat} {k v : Nat} : pz_up C k v k = v := if_pos rfl
theorem pz_up_ne {C : Nat → Nat} {k v x : Nat} (h : x ≠ k) : pz_up C k v x = C x := if_neg h
/-- kinds of rows: rules, people, signs, meetings, skills, hurts, acts; 7: none -/
def pz_rt : Nat → Nat
  | 0 => 7 | 1 => 0 | 2 => 1 | 3 => 1 | 4 => 1 | 5 => 2 | 6 => 3 | 7 => 4 | 8 => 5 | 9 => 7 | _ => 6
def pz_ci : Nat → Nat
  | 0 => 1 | 1 => 2 | 2 => 3 | 3 => 4 | 4 => 5 | 5 => 6 | _ => 0
def pz_mx : Nat → Nat
  | 0 => 16 | 1 => 5 | 2 => 12 | 3 => 12 | 4 => 6 | 5 => 6 | _ => 30
def pz_wi : Nat → Nat
  | 0 => 2 | 1 => 3 | 2 => 2 | 3 => 4 | 4 => 2 | 5 => 2 | _ => 4
def pz_bs : Nat → Nat
  | 0 => 8 | 1 => 40 | 2 => 55 | 3 => 79 | 4 => 127 | 5 => 139 | _ => 1
/-- words that open a row -/
def pz_op (w : Nat) : Bool := pz_rt w < 7 && w != 3 && w != 4
abbrev pz_X : Type := Nat × Nat × (Nat → Nat) × Nat
abbrev pz_Y : Type := Nat × Nat × (Nat → Nat) × Nat × Nat × Nat
/-- a row more -/
def pz_ad (w : Nat) (C : Nat → Nat) : Nat → Nat := fun k => if k = pz_ci (pz_rt w) then C (pz_ci (pz_rt w)) + 1 else if pz_bs (pz_rt w) + C (pz_ci (pz_rt w)) * pz_wi (pz_rt w) ≤ k ∧ k < pz_bs (pz_rt w) + C (pz_ci (pz_rt w)) * pz_wi (pz_rt w) + pz_wi (pz_rt w) then (if w < 10 then 0 else if k = pz_bs (pz_rt w) + C (pz_ci (pz_rt w)) * pz_wi (pz_rt w) then w - 10 else 4294967295) else C k
def pz_ow (w s : Nat) (X : pz_X) : pz_Y :=
  if pz_op w = true then (if X.2.2.1 (pz_ci (pz_rt w)) < pz_mx (pz_rt w) then (X.1, X.2.1, pz_ad w X.2.2.1, X.2.2.2, 0, 4294967295) else (if X.1 = 0 then 3 else X.1, if X.1 = 0 then s else X.2.1, X.2.2.1, X.2.2.2, 0, 4294967295))
  else (X.1, X.2.1, X.2.2.1, X.2.2.2, 0, 4294967295)
def pz_can (sg v n lf fi : Nat) : Prop :=
  if sg = 99 then 1 ≤ v ∧ v ≤ 10 else if sg = 102 then v < 10 else if sg = 117 then v < 10 ∧ ¬ lf.testBit v = true else if sg = 112 then v < n else if sg = 111 then v < n ∧ v ≠ fi else if sg = 104 then 1 ≤ v ∧ v ≤ 9 else if sg = 119 then v < 5 else if sg = 120 then v < 5 ∧ v ≠ fi else True
noncomputable def pz_ff (sg i v n lf fi : Nat) : Nat := fg_ifP (pz_can sg v n lf fi) (if sg = 117 ∧ 3 < i then 3 else 0) 2
def pz_kp (w r i v fi : Nat) (C : Nat → Nat) : Nat → Nat :=
  if w = 0 then pz_up C 0 v else if w = 9 then pz_up C 7 v
  else if w = 3 ∨ w = 4 then (if 0 < i then pz_up C (pz_bs 1 + (fi * 3 + (w - 2))) (C (pz_bs 1 + (fi * 3 + (w - 2))) ||| 2 ^ v) else C)
  else if 10 ≤ w then pz_up C (pz_bs 6 + (r * 4 + (i + 1))) v
  else if pz_mo w = 1 ∧ 0 < i then pz_up C (pz_bs (pz_rt w) + (r * 2 + 1)) (C (pz_bs (pz_rt w) + (r * 2 + 1)) ||| 2 ^ v)
  else pz_up C (pz_bs (pz_rt w) + (r * pz_wi (pz_rt w) + i)) v
def pz_f1 (i v fi : Nat) : Nat := if i = 0 then v else fi
def pz_tf (sg v tf : Nat) : Nat := if sg = 102 ∨ sg = 117 then tf ||| 2 ^ v else tf
noncomputable def pz_st (w r i v s : Nat) (Y : pz_Y) : pz_Y :=
  (if Y.1 = 0 then pz_ff (pz_sg w i) i v (Y.2.2.1 2) Y.2.2.2.2.1 Y.2.2.2.2.2 else Y.1,
   if Y.1 = 0 ∧ pz_ff (pz_sg w i) i v (Y.2.2.1 2) Y.2.2.2.2.1 Y.2.2.2.2.2 ≠ 0 then s else Y.2.1,
   pz_kp w r i v (pz_f1 i v Y.2.2.2.2.2) Y.2.2.1,
   pz_tf (pz_sg w i) v Y.2.2.2.1, pz_tf (pz_sg w i) v Y.2.2.2.2.1, pz_f1 i v Y.2.2.2.2.2)
noncomputable def pz_nl (K V S : Nat → Nat) (w r q : Nat) : Nat → Nat → pz_Y → Nat × pz_Y
  | 0, i, Y => (i, Y)
  | f + 1, i, Y => if K (q + i) = 1 ∧ pz_sg w i ≠ 32 then pz_nl K V S w r q f (i + 1) (pz_st w r i (V (q + i)) (S (q + i)) Y) else (i, Y)
noncomputable def pz_le (K S : Nat → Nat) (w j : Nat) (a : Nat × pz_Y) : Nat × pz_X :=
  if K (j + 1 + a.1) = 2 ∧ (pz_ns w).length ≤ a.1 then (j + 1 + a.1 + 1, (a.2.1, a.2.2.1, a.2.2.2.1, a.2.2.2.2.1)) else (j + 1 + a.1, (1, S (j + 1 + a.1), a.2.2.2.1, a.2.2.2.2.1))
noncomputable def pz_ln (K V S : Nat → Nat) (len w j : Nat) (X : pz_X) : Nat × pz_X :=
  pz_le K S w j (pz_nl K V S w (X.2.2.1 (pz_ci (pz_rt w))) (j + 1) len 0 (pz_ow w (S j) X))
noncomputable def pz_l1 (K V S : Nat → Nat) (len sort : Nat) (s : Nat × pz_X) : Nat × pz_X :=
  if K s.1 = 3 ∧ pz_so (V s.1) = sort then pz_ln K V S len (V s.1) s.1 s.2 else (s.1, (1, S s.1, s.2.2.2.1, s.2.2.2.2))
noncomputable def pz_pa (K V S : Nat → Nat) (len sort : Nat) : Nat → Nat × pz_X → Nat × pz_X
  | 0, s => s
  | f + 1, s => if s.2.1 = 1 ∨ K s.1 = 0 then s else pz_pa K V S len sort f (pz_l1 K V S len sort s)
def pz_C0 (sort : Nat) : Nat → Nat := if sort = 0 then fg_T0 else fun _ => 0
noncomputable def pz_rs (K V S : Nat → Nat) (len sort : Nat) : Nat × pz_X := pz_pa K V S len sort len (0, (0, 0, pz_C0 sort, 0))
def pz_re (len sort : Nat) (X : pz_X) : Nat × Nat × (Nat → Nat) := if X.1 = 0 ∧ sort = 0 ∧ ¬ X.2.2.2 < 2 ^ X.2.2.1 0 then (4, len, X.2.2.1) else (X.1, X.2.1, X.2.2.1)
/-- fault, its place, what is told -/
noncomputable def pz_rd (b : Nat → Nat) (len sort : Nat) : Nat × Nat × (Nat → Nat) := pz_re len sort (pz_rs (pz_K b len) (pz_V b len) (pz_S b len) len sort).2
theorem pz_nl_ge {K V S : Nat → Nat} {w r q : Nat} : ∀ f i Y, i ≤ (pz_nl K V S w r q f i Y).1 := by
  intro f
  induction f with
  | zero => intro i Y; exact Nat.le_refl _
  | succ f ih =>
    intro i Y
    unfold pz_nl
    split
    · exact Nat.le_trans (Nat.le_succ i) (ih _ _)
    · exact Nat.le_refl _
theorem pz_nl_s {K V S : Nat → Nat} {w r q f i : Nat} {Y : pz_Y} (h : K (q + i) = 1) (hs : pz_sg w i ≠ 32) : pz_nl K V S w r q (f + 1) i Y = pz_nl K V S w r q f (i + 1) (pz_st w r i (V (q + i)) (S (q + i)) Y) := if_pos ⟨h, hs⟩
theorem pz_nl_e {K V S : Nat → Nat} {w r q f i : Nat} {Y : pz_Y} (h : ¬ (K (q + i) = 1 ∧ pz_sg w i ≠ 32)) : pz_nl K V S w r q f i Y = (i, Y) := by
  cases f with
  | zero => rfl
  | succ f => exact if_neg h
/-- ranges of rows are apart -/
theorem pz_apart : ∀ t, t < 6 → ∀ u, u < 6 → t ≠ u → pz_bs t + pz_mx t * pz_wi t ≤ pz_bs u ∨ pz_bs u + pz_mx u * pz_wi u ≤ pz_bs t := by decide
theorem pz_bs8 : ∀ t, t < 6 → 8 ≤ pz_bs t ∧ pz_bs t + pz_mx t * pz_wi t ≤ 152 ∧ 1 ≤ pz_ci t ∧ pz_ci t ≤ 6 ∧ 0 < pz_wi t ∧ pz_wi t ≤ 4 := by decide
theorem pz_ci_inj : ∀ t, t < 6 → ∀ u, u < 6 → t ≠ u → pz_ci t ≠ pz_ci u := by decide
