/-! what constructors make -/
def fg_mu0L : List (List Int32) := [[], [0, 0, 0, -1], [], [], [nI 6, nI 4], [nI 2], [], [nI 3], [], [nI 2], [], [nI 4], [], [nI 2], [], [nI 2], [], [], [nI 6, nI 4], [nI 2], [], [nI 3], [], [nI 2], [], [nI 4], [], [nI 2], [], [nI 2], [], [], [], [nI 4], [], [nI 4], [], [nI 4], [], [], [0, 0, 0, -1], [], [], [nI 6, nI 4], [nI 2], [], [nI 3], [], [nI 2], [], [nI 4], [], [nI 2], [], [nI 2], [], [], [nI 6, nI 4], [nI 2], [], [nI 3], [], [nI 2], [], [nI 4], [], [nI 2], [], [nI 2], [], [], [], [nI 4], [], [nI 4], [], [nI 4], [], [0, 0, 0, -1], [], [], [nI 6, nI 4], [nI 2], [], [nI 3], [], [nI 2], [], [nI 4], [], [nI 2], [], [nI 2], [], [], [nI 6, nI 4], [nI 2], [], [nI 3], [], [nI 2], [], [nI 4], [], [nI 2], [], [nI 2], [], [], [], [nI 4], [], [nI 4], [], [nI 4], [], [0, 0, 0, -1], [], [], [nI 6, nI 4], [nI 2], [], [nI 3], [], [nI 2], [], [nI 4], [], [nI 2], [], [nI 2], [], [], [nI 6, nI 4], [nI 2], [], [nI 3], [], [nI 2], [], [nI 4], [], [nI 2], [], [nI 2], [], [], [], [nI 4], [], [nI 4], [], [nI 4], [], [], [], [nI 6, nI 4], [nI 2], [], [nI 3], [], [nI 2], [], [nI 4], [], [nI 2], [], [nI 2], [], [], [nI 4], [], [], [0, 0, 0, 0, 0, 0, -1], [], [], [], [0, 0, 0, 0, 0, 0, -1], [], [], [], [], [], [], [], [], [], [0, 0, 0, 0, 0, 0, 0, 0, 0, 0, 0, 0, 0, 0, 0, 0, 0, -1], [0, 0, 0, 0, -1], [], [], [], [], [], [], [], [], [], [], [], [], [], [], []]
def fg_mu0 (a j : Nat) : Int32 := (fg_mu0L.getD (a - 100) []).getD j 0
abbrev fg_R0 : fg_T4 := (none, none, none, none)
def fg_f1 {α : Type} (f : Nat → α) (k : Nat) (x : α) : Nat → α := fun j => if j = k then x else f j
def mk_bl (M : fg_M) (a n : Nat) : fg_M := (fun b j => if a ≤ b ∧ b < n then fg_mu0 b j else M.1 b j, fun b j => if a ≤ b ∧ b < n then fg_rho fg_R0 b j else M.2.1 b j, n)
def fg_pb (M : fg_M) (a n : Nat) (IA : Nat → Int32) (RA : Nat → Option Nat) (c : Nat) (IC : Nat → Int32) (RC : Nat → Option Nat) : fg_M :=
  (fun b j => if b = a then IA j else if b = c then IC j else if a < b ∧ b < n then fg_mu0 b j else M.1 b j, fun b j => if b = a then RA j else if b = c then RC j else if a < b ∧ b < n then fg_rho fg_R0 b j else M.2.1 b j, n)
theorem fg_Mx {M M' : fg_M} (h1 : ∀ b j, M.1 b j = M'.1 b j) (h2 : ∀ b j, M.2.1 b j = M'.2.1 b j) (h3 : M.2.2 = M'.2.2) : M = M' := by
  obtain ⟨f, g, n⟩ := M
  obtain ⟨f', g', n'⟩ := M'
  have e1 : f = f' := funext fun b => funext fun j => h1 b j
  have e2 : g = g' := funext fun b => funext fun j => h2 b j
  have e3 : n = n' := h3
  rw [e1, e2, e3]
theorem fg_me {E : fg_E} {Y : fg_Y} {d n0 n1 : Nat} {Q : Option Value → fg_M → Prop} {pc : Nat} {L st : List Value} {M M' : fg_M} (h : M = M') (k : fg_wp E Y d n0 n1 Q pc L st M') : fg_wp E Y d n0 n1 Q pc L st M := h ▸ k
section PB
variable {M : fg_M} {a n : Nat} {IA : Nat → Int32} {RA : Nat → Option Nat} {c : Nat} {IC : Nat → Int32} {RC : Nat → Option Nat}
theorem fg_pb0 (hn : M.2.2 = a + 1) (h0 : ∀ j, M.1 a j = 0) (h1 : ∀ j, M.2.1 a j = none) : M = fg_pb M a (a + 1) (fun _ => 0) (fun _ => none) a (fun _ => 0) (fun _ => none) := by
  refine fg_Mx (fun b j => ?_) (fun b j => ?_) hn
  · show M.1 b j = if b = a then 0 else if b = a then 0 else if a < b ∧ b < a + 1 then fg_mu0 b j else M.1 b j
    by_cases e : b = a
    · rw [if_pos e, e]; exact h0 j
    · rw [if_neg e, if_neg e, if_neg (by omega)]
  · show M.2.1 b j = if b = a then none else if b = a then none else if a < b ∧ b < a + 1 then fg_rho fg_R0 b j else M.2.1 b j
    by_cases e : b = a
    · rw [if_pos e, e]; exact h1 j
    · rw [if_neg e, if_neg e, if_neg (by omega)]
theorem fg_pbr {j : Nat} : (fg_pb M a n IA RA c IC RC).2.1 a j = RA j := if_pos rfl
theorem fg_pb1 {k : Nat} {x : Int32} : fg_si (fg_pb M a n IA RA c IC RC) a k x = fg_pb M a n (fg_f1 IA k x) RA c IC RC := by
  refine fg_Mx (fun b j => ?_) (fun b j => rfl) rfl
  show (if b = a then (if j = k then x else if b = a then IA j else _) else if b = a then IA j else _) = if b = a then (if j = k then x else IA j) else _
  by_cases e : b = a
  · rw [if_pos e, if_pos e, if_pos e]
  · rw [if_neg e, if_neg e, if_neg e]
theorem fg_pb2 {k : Nat} {x : Option Nat} : fg_sr (fg_pb M a n IA RA c IC RC) a k x = fg_pb M a n IA (fg_f1 RA k x) c IC RC := by
  refine fg_Mx (fun b j => rfl) (fun b j => ?_) rfl
  show (if b = a then (if j = k then x else if b = a then RA j else _) else if b = a then RA j else _) = if b = a then (if j = k then x else RA j) else _
  by_cases e : b = a
  · rw [if_pos e, if_pos e, if_pos e]
  · rw [if_neg e, if_neg e, if_neg e]
theorem fg_pb3 {k : Nat} {x : Option Nat} (h : a < c) : fg_sr (fg_pb M a n IA RA c IC RC) c k x = fg_pb M a n IA RA c IC (fg_f1 RC k x) := by
  refine fg_Mx (fun b j => rfl) (fun b j => ?_) rfl
  show (if b = c then (if j = k then x else if b = a then RA j else if b = c then RC j else _) else if b = a then RA j else if b = c then RC j else _) = if b = a then RA j else if b = c then (if j = k then x else RC j) else _
  by_cases e : b = c
  · rw [if_pos e, if_neg (by omega : ¬ b = a), if_pos e, if_neg (by omega : ¬ b = a), if_pos e]
  · rw [if_neg e]
    by_cases e2 : b = a
    · rw [if_pos e2, if_pos e2]
    · rw [if_neg e2, if_neg e2, if_neg e, if_neg e]
theorem fg_pb3c {k : Nat} {i : Int32} {x : Option Nat} (h : a < c) (hk : i.toNatClampNeg = k) : fg_sr (fg_pb M a n IA RA c IC RC) c i.toNatClampNeg x = fg_pb M a n IA RA c IC (fg_f1 RC k x) := by
  rw [hk]; exact fg_pb3 h
theorem fg_pb3i {k : Nat} {x : Int32} (h : a < c) : fg_si (fg_pb M a n IA RA c IC RC) c k x = fg_pb M a n IA RA c (fg_f1 IC k x) RC := by
  refine fg_Mx (fun b j => ?_) (fun b j => rfl) rfl
  show (if b = c then (if j = k then x else if b = a then IA j else if b = c then IC j else _) else if b = a then IA j else if b = c then IC j else _) = if b = a then IA j else if b = c then (if j = k then x else IC j) else _
  by_cases e : b = c
  · rw [if_pos e, if_neg (by omega : ¬ b = a), if_pos e, if_neg (by omega : ¬ b = a), if_pos e]
  · rw [if_neg e]
    by_cases e2 : b = a
    · rw [if_pos e2, if_pos e2]
    · rw [if_neg e2, if_neg e2, if_neg e, if_neg e]
theorem fg_pb4 (ha : a < n) (hc : c < n) (h0 : ∀ j, fg_mu0 n j = 0) (h1 : ∀ j, fg_rho fg_R0 n j = none) : fg_mk (fg_pb M a n IA RA c IC RC) = fg_pb M a (n + 1) IA RA c IC RC := by
  refine fg_Mx (fun b j => ?_) (fun b j => ?_) rfl
  · show (if b = n then 0 else if b = a then IA j else if b = c then IC j else if a < b ∧ b < n then fg_mu0 b j else M.1 b j) = if b = a then IA j else if b = c then IC j else if a < b ∧ b < n + 1 then fg_mu0 b j else M.1 b j
    by_cases e : b = n
    · rw [if_pos e, if_neg (by omega), if_neg (by omega), if_pos (by omega), e, h0]
    · rw [if_neg e]
      by_cases e1 : a < b ∧ b < n
      · rw [if_pos e1, if_pos (by omega : a < b ∧ b < n + 1)]
      · rw [if_neg e1, if_neg (by omega : ¬ (a < b ∧ b < n + 1))]
  · show (if b = n then none else if b = a then RA j else if b = c then RC j else if a < b ∧ b < n then fg_rho fg_R0 b j else M.2.1 b j) = if b = a then RA j else if b = c then RC j else if a < b ∧ b < n + 1 then fg_rho fg_R0 b j else M.2.1 b j
    by_cases e : b = n
    · rw [if_pos e, if_neg (by omega), if_neg (by omega), if_pos (by omega), e, h1]
    · rw [if_neg e]
      by_cases e1 : a < b ∧ b < n
      · rw [if_pos e1, if_pos (by omega : a < b ∧ b < n + 1)]
      · rw [if_neg e1, if_neg (by omega : ¬ (a < b ∧ b < n + 1))]
theorem fg_pb5 (ha : a < n) : fg_mk (fg_pb M a n IA RA a IC RC) = fg_pb M a (n + 1) IA RA n (fun _ => 0) (fun _ => none) := by
  refine fg_Mx (fun b j => ?_) (fun b j => ?_) rfl
  · show (if b = n then 0 else if b = a then IA j else if b = a then IC j else if a < b ∧ b < n then fg_mu0 b j else M.1 b j) = if b = a then IA j else if b = n then 0 else if a < b ∧ b < n + 1 then fg_mu0 b j else M.1 b j
    by_cases e : b = n
    · rw [if_pos e, if_neg (by omega), if_pos e]
    · rw [if_neg e]
      by_cases e2 : b = a
      · rw [if_pos e2, if_pos e2]
      · rw [if_neg e2, if_neg e2, if_neg e2, if_neg e]
        by_cases e1 : a < b ∧ b < n
        · rw [if_pos e1, if_pos (by omega : a < b ∧ b < n + 1)]
        · rw [if_neg e1, if_neg (by omega : ¬ (a < b ∧ b < n + 1))]
  · show (if b = n then none else if b = a then RA j else if b = a then RC j else if a < b ∧ b < n then fg_rho fg_R0 b j else M.2.1 b j) = if b = a then RA j else if b = n then none else if a < b ∧ b < n + 1 then fg_rho fg_R0 b j else M.2.1 b j
    by_cases e : b = n
    · rw [if_pos e, if_neg (by omega), if_pos e]
    · rw [if_neg e]
      by_cases e2 : b = a
      · rw [if_pos e2, if_pos e2]
      · rw [if_neg e2, if_neg e2, if_neg e2, if_neg e]
        by_cases e1 : a < b ∧ b < n
        · rw [if_pos e1, if_pos (by omega : a < b ∧ b < n + 1)]
        · rw [if_neg e1, if_neg (by omega : ¬ (a < b ∧ b < n + 1))]
theorem fg_pb6 {n' : Nat} (ha : a < n) (hc : c < n) (hn : n < n') : mk_bl (fg_mk (fg_pb M a n IA RA c IC RC)) n n' = fg_pb M a n' IA RA c IC RC := by
  refine fg_Mx (fun b j => ?_) (fun b j => ?_) rfl
  · show (if n ≤ b ∧ b < n' then fg_mu0 b j else if b = n then 0 else if b = a then IA j else if b = c then IC j else if a < b ∧ b < n then fg_mu0 b j else M.1 b j) = if b = a then IA j else if b = c then IC j else if a < b ∧ b < n' then fg_mu0 b j else M.1 b j
    by_cases e : n ≤ b ∧ b < n'
    · rw [if_pos e, if_neg (by omega), if_neg (by omega), if_pos (by omega)]
    · rw [if_neg e]
      by_cases e0 : b = n
      · rw [if_pos e0]
        exact absurd ⟨by omega, by omega⟩ e
      · rw [if_neg e0]
        by_cases e1 : a < b ∧ b < n
        · rw [if_pos e1, if_pos (by omega : a < b ∧ b < n')]
        · rw [if_neg e1, if_neg (by omega : ¬ (a < b ∧ b < n'))]
  · show (if n ≤ b ∧ b < n' then fg_rho fg_R0 b j else if b = n then none else if b = a then RA j else if b = c then RC j else if a < b ∧ b < n then fg_rho fg_R0 b j else M.2.1 b j) = if b = a then RA j else if b = c then RC j else if a < b ∧ b < n' then fg_rho fg_R0 b j else M.2.1 b j
    by_cases e : n ≤ b ∧ b < n'
    · rw [if_pos e, if_neg (by omega), if_neg (by omega), if_pos (by omega)]
    · rw [if_neg e]
      by_cases e0 : b = n
      · rw [if_pos e0]
        exact absurd ⟨by omega, by omega⟩ e
      · rw [if_neg e0]
        by_cases e1 : a < b ∧ b < n
        · rw [if_pos e1, if_pos (by omega : a < b ∧ b < n')]
        · rw [if_neg e1, if_neg (by omega : ¬ (a < b ∧ b < n'))]
theorem fg_pb7 (ha : a < c) (hc : c < n) (h0 : ∀ j, IC j = fg_mu0 c j) (h1 : ∀ j, RC j = fg_rho fg_R0 c j) : fg_pb M a n IA RA c IC RC = fg_pb M a n IA RA a (fun _ => 0) (fun _ => none) := by
  refine fg_Mx (fun b j => ?_) (fun b j => ?_) rfl
  · show (if b = a then IA j else if b = c then IC j else if a < b ∧ b < n then fg_mu0 b j else M.1 b j) = if b = a then IA j else if b = a then 0 else if a < b ∧ b < n then fg_mu0 b j else M.1 b j
    by_cases e : b = a
    · rw [if_pos e, if_pos e]
    · rw [if_neg e, if_neg e, if_neg e]
      by_cases e2 : b = c
      · rw [if_pos e2, if_pos (by omega), e2, h0]
      · rw [if_neg e2]
  · show (if b = a then RA j else if b = c then RC j else if a < b ∧ b < n then fg_rho fg_R0 b j else M.2.1 b j) = if b = a then RA j else if b = a then none else if a < b ∧ b < n then fg_rho fg_R0 b j else M.2.1 b j
    by_cases e : b = a
    · rw [if_pos e, if_pos e]
    · rw [if_neg e, if_neg e, if_neg e]
      by_cases e2 : b = c
      · rw [if_pos e2, if_pos (by omega), e2, h1]
      · rw [if_neg e2]
theorem fg_pb8 (ha : a < n) (h0 : ∀ j, IA j = fg_mu0 a j) (h1 : ∀ j, RA j = fg_rho fg_R0 a j) : fg_pb M a n IA RA a IC RC = mk_bl M a n := by
  refine fg_Mx (fun b j => ?_) (fun b j => ?_) rfl
  · show (if b = a then IA j else if b = a then IC j else if a < b ∧ b < n then fg_mu0 b j else M.1 b j) = if a ≤ b ∧ b < n then fg_mu0 b j else M.1 b j
    by_cases e : b = a
    · rw [if_pos e, if_pos (by omega), e, h0]
    · rw [if_neg e, if_neg e]
      by_cases e1 : a < b ∧ b < n
      · rw [if_pos e1, if_pos (by omega : a ≤ b ∧ b < n)]
      · rw [if_neg e1, if_neg (by omega : ¬ (a ≤ b ∧ b < n))]
  · show (if b = a then RA j else if b = a then RC j else if a < b ∧ b < n then fg_rho fg_R0 b j else M.2.1 b j) = if a ≤ b ∧ b < n then fg_rho fg_R0 b j else M.2.1 b j
    by_cases e : b = a
    · rw [if_pos e, if_pos (by omega), e, h1]
    · rw [if_neg e, if_neg e]
      by_cases e1 : a < b ∧ b < n
      · rw [if_pos e1, if_pos (by omega : a ≤ b ∧ b < n)]
      · rw [if_neg e1, if_neg (by omega : ¬ (a ≤ b ∧ b < n))]
end PB
