/-! both read alike: steps of a line -/
def rz_gt (g tf : Nat) : Prop := ∀ n, 1 ≤ n → (tf < 2 ^ n ↔ g < n)
theorem rz_gt_0 : rz_gt 0 0 := fun n hn => ⟨fun _ => hn, fun _ => Nat.two_pow_pos n⟩
theorem rz_gt_up {g tf f : Nat} (h : rz_gt g tf) (hf : f ≠ 4294967295) : rz_gt (if f ≠ 4294967295 ∧ g < f then f else g) (tf ||| 2 ^ f) := fun n hn => by
  have e : tf ||| 2 ^ f < 2 ^ n ↔ tf < 2 ^ n ∧ f < n := by
    constructor
    · intro c
      exact ⟨Nat.lt_of_le_of_lt Nat.left_le_or c, (Nat.pow_lt_pow_iff_right (by decide)).mp (Nat.lt_of_le_of_lt Nat.right_le_or c)⟩
    · intro c
      exact Nat.or_lt_two_pow c.1 ((Nat.pow_lt_pow_iff_right (by decide)).mpr c.2)
  rw [e, h n hn]
  split <;> omega
theorem rz_fa_e {K V S : Nat → Nat} {Z : rz_Z} : (rz_fa K V S Z).1 = (rz_nu K V S 0 10 Z).1 ∧ (rz_fa K V S Z).2.1 = (rz_nu K V S 0 10 Z).2.1 ∧ (rz_fa K V S Z).2.2.1 = (rz_nu K V S 0 10 Z).2.2.1 ∧ (rz_fa K V S Z).2.2.2.1 = (rz_nu K V S 0 10 Z).2.2.2.1 ∧ (rz_fa K V S Z).2.2.2.2.1 = (if (rz_nu K V S 0 10 Z).1 ≠ 4294967295 ∧ (rz_nu K V S 0 10 Z).2.2.2.2.1 < (rz_nu K V S 0 10 Z).1 then (rz_nu K V S 0 10 Z).1 else (rz_nu K V S 0 10 Z).2.2.2.2.1) := ⟨rfl, rfl, rfl, rfl, rfl⟩
theorem pz_ffE {sg i v n lf fi : Nat} {p : Prop} [Decidable p] (hs : sg ≠ 117) (hp : pz_can sg v n lf fi ↔ p) : pz_ff sg i v n lf fi = if p then 0 else 2 := by
  by_cases c : p
  · rw [if_pos c, pz_ffT (hp.mpr c), if_neg (fun h => hs h.1)]
  · rw [if_neg c, pz_ffF (fun h => c (hp.mp h))]
theorem rz_noE {lo hi v : Nat} (h : lo ≤ v ∧ v < hi) : rz_no lo hi v = v := if_pos h
theorem rz_al_n {kd at9 : Nat} {Z : rz_Z} (h : ¬ (Z.2.1 = 1 ∨ (Z.2.1 ≠ 0 ∧ (Z.2.2.1 < at9 ∨ (Z.2.2.1 = at9 ∧ Z.2.1 ≤ kd))))) : rz_al kd at9 Z = (Z.1, kd, at9, Z.2.2.2) := congrArg (Prod.mk Z.1) (if_neg h)
/-- a number between two bounds -/
theorem rz_stepN {K V S : Nat → Nat} {len w r i q lo hi : Nat} {Y : pz_Y} {Z : rz_Z} (hT : rz_TS K V S len) (hk : K q = 1) (h : rz_Rl S q Y.1 Y.2.1 Z) (hff : Y.1 = 0 → pz_ff (pz_sg w i) i (V q) (Y.2.2.1 2) Y.2.2.2.2.1 Y.2.2.2.2.2 = if lo ≤ V q ∧ V q < hi then 0 else 2) : rz_Rl S (q + 1) (pz_st w r i (V q) (S q) Y).1 (pz_st w r i (V q) (S q) Y).2.1 (rz_nu K V S lo hi Z).2 ∧ (rz_nu K V S lo hi Z).2.2.2.2.1 = Z.2.2.2.1 ∧ ((pz_st w r i (V q) (S q) Y).1 = 0 → Y.1 = 0 ∧ (lo ≤ V q ∧ V q < hi) ∧ (rz_nu K V S lo hi Z).1 = V q) := by
  obtain ⟨a, b, c⟩ := rz_Rn.nu (lo := lo) (hi := hi) hT hk h
  refine ⟨b.st (fun z => (hff z).symm), c, fun z => ?_⟩
  obtain ⟨z1, z2⟩ := pz_st_0 z
  have ok : lo ≤ V q ∧ V q < hi := by
    rcases Classical.em (lo ≤ V q ∧ V q < hi) with g | g
    · exact g
    · rw [hff z1, if_neg g] at z2; exact absurd z2 (by decide)
  exact ⟨z1, ok, a.trans (rz_noE ok)⟩
/-- another one -/
theorem rz_stepD {K V S : Nat → Nat} {len w r i q hi a : Nat} {Y : pz_Y} {Z : rz_Z} (hT : rz_TS K V S len) (hk : K q = 1) (h : rz_Rl S q Y.1 Y.2.1 Z) (hff : Y.1 = 0 → pz_ff (pz_sg w i) i (V q) (Y.2.2.1 2) Y.2.2.2.2.1 Y.2.2.2.2.2 = if V q < hi ∧ V q ≠ a then 0 else 2) : rz_Rl S (q + 1) (pz_st w r i (V q) (S q) Y).1 (pz_st w r i (V q) (S q) Y).2.1 (rz_nu K V S 0 hi (rz_dup K V S a Z)).2 ∧ (rz_nu K V S 0 hi (rz_dup K V S a Z)).2.2.2.2.1 = Z.2.2.2.1 ∧ ((pz_st w r i (V q) (S q) Y).1 = 0 → Y.1 = 0 ∧ V q < hi ∧ (rz_nu K V S 0 hi (rz_dup K V S a Z)).1 = V q) := by
  have hd : rz_Rn S q Y.1 Y.2.1 (if V q = a then 2 else 0) (rz_dup K V S a Z) ∧ (rz_dup K V S a Z).2.2.2.1 = Z.2.2.2.1 := by
    unfold rz_dup
    by_cases c : V q = a
    · rw [if_pos c, if_pos (by rw [h.1]; exact ⟨hk, c⟩), h.1]
      exact ⟨h.al2, rz_al_g⟩
    · rw [if_neg c, if_neg (by rw [h.1]; exact fun g => c g.2)]
      exact ⟨h, rfl⟩
  obtain ⟨x, y, z⟩ := rz_Rn.nu (lo := 0) (hi := hi) hT hk hd.1
  have ef : (if 0 ≤ V q ∧ V q < hi then (if V q = a then 2 else 0) else 2) = if V q < hi ∧ V q ≠ a then 0 else 2 := by
    by_cases c : V q < hi
    · rw [if_pos ⟨Nat.zero_le _, c⟩]
      by_cases e : V q = a
      · rw [if_pos e, if_neg (fun g => g.2 e)]
      · rw [if_neg e, if_pos ⟨c, e⟩]
    · rw [if_neg (fun g => c g.2), if_neg (fun g => c g.1)]
  rw [ef] at y
  refine ⟨y.st (fun z => (hff z).symm), z.trans hd.2, fun z => ?_⟩
  obtain ⟨z1, z2⟩ := pz_st_0 z
  have ok : V q < hi := by
    rcases Classical.em (V q < hi ∧ V q ≠ a) with g | g
    · exact g.1
    · rw [hff z1, if_neg g] at z2; exact absurd z2 (by decide)
  exact ⟨z1, ok, x.trans (rz_noE ⟨Nat.zero_le _, ok⟩)⟩
/-- what both hold ahead of a line, and behind it -/
def rz_Rg (S : Nat → Nat) (sort j : Nat) (X : pz_X) (Z : rz_Z) : Prop := rz_Rl S j X.1 X.2.1 Z ∧ (X.1 = 0 → Z.2.2.2.2 = X.2.2.1 ∧ (sort = 0 → rz_gt Z.2.2.2.1 X.2.2.2))
def rz_Re (S : Nat → Nat) (sort : Nat) (s : Nat × pz_X) (Z : rz_Z) : Prop := (s.2.1 = 1 → rz_W s.1 s.2.2.1 Z) ∧ (s.2.1 ≠ 1 → rz_Rg S sort s.1 s.2 Z)
theorem rz_close {K V S : Nat → Nat} {len sort w j m : Nat} {Y : pz_Y} {Z : rz_Z} (hT : rz_TS K V S len) (hl : (pz_ns w).length ≤ m) (h : rz_Rl S (j + 1 + m) Y.1 Y.2.1 Z) (hd : Y.1 = 0 → Z.2.2.2.2 = Y.2.2.1 ∧ (sort = 0 → rz_gt Z.2.2.2.1 Y.2.2.2.1)) : rz_Re S sort (pz_le K S w j (m, Y)) (rz_el K S Z) := by
  by_cases c : K (j + 1 + m) = 2
  · have e : pz_le K S w j (m, Y) = (j + 1 + m + 1, (Y.1, Y.2.1, Y.2.2.1, Y.2.2.2.1)) := if_pos ⟨c, hl⟩
    rw [e]
    obtain ⟨a, b⟩ := h.el2 hT c
    refine ⟨fun z => absurd z h.2.1, fun _ => ⟨a, fun z => ?_⟩⟩
    obtain ⟨x, y⟩ := hd z
    rw [b]
    exact ⟨x, y⟩
  · have e : pz_le K S w j (m, Y) = (j + 1 + m, (1, S (j + 1 + m), Y.2.2.1, Y.2.2.2.1)) := if_neg (fun g => c g.1)
    rw [e]
    exact ⟨fun _ => h.elW c, fun z => absurd rfl z⟩
theorem rz_fail {K S : Nat → Nat} {sort w j m : Nat} {Y : pz_Y} {Z : rz_Z} (hl : m < (pz_ns w).length) (h : rz_W (j + 1 + m) (S (j + 1 + m)) Z) : rz_Re S sort (pz_le K S w j (m, Y)) Z := by
  have e : pz_le K S w j (m, Y) = (j + 1 + m, (1, S (j + 1 + m), Y.2.2.1, Y.2.2.2.1)) := if_neg (fun g => by have := g.2; omega)
  rw [e]
  exact ⟨fun _ => h, fun z => absurd rfl z⟩
theorem rz_Rg.ad {K V S : Nat → Nat} {len sort j : Nat} {X : pz_X} {Z : rz_Z} (hT : rz_TS K V S len) (hk : K j ≠ 0) (h : rz_Rg S sort j X Z) : rz_Rl S (j + 1) X.1 X.2.1 (rz_ad Z) := by
  have hS := ((hT j).1 hk).1
  obtain ⟨⟨h1, h2, h3, h4, h5⟩, -⟩ := h
  exact ⟨by show Z.1 + 1 = _; rw [h1], h2, h3, fun c => by obtain ⟨a, b, d⟩ := h4 c; exact ⟨by omega, b, d⟩, fun c => ⟨(h5 c).1, fun g => absurd rfl g⟩⟩
/-- one row more than there may be -/
theorem rz_open {K V S : Nat → Nat} {len sort w j : Nat} {X : pz_X} {Z : rz_Z} (hT : rz_TS K V S len) (hk : K j ≠ 0) (hop : pz_op w = true) (h : rz_Rg S sort j X Z) : rz_Rl S (j + 1) (pz_ow w (S j) X).1 (pz_ow w (S j) X).2.1 (rz_c3 (pz_ci (pz_rt w)) (pz_mx (pz_rt w)) (S j) (rz_ad Z)) ∧ ((pz_ow w (S j) X).1 = 0 → X.1 = 0 ∧ X.2.2.1 (pz_ci (pz_rt w)) < pz_mx (pz_rt w) ∧ pz_ow w (S j) X = (X.1, X.2.1, pz_ad w X.2.2.1, X.2.2.2, 0, 4294967295)) ∧ (rz_c3 (pz_ci (pz_rt w)) (pz_mx (pz_rt w)) (S j) (rz_ad Z)).2.2.2.1 = Z.2.2.2.1 := by
  have hS := ((hT j).1 hk).1
  have ha := h.ad hT hk
  have eow : pz_ow w (S j) X = if X.2.2.1 (pz_ci (pz_rt w)) < pz_mx (pz_rt w) then (X.1, X.2.1, pz_ad w X.2.2.1, X.2.2.2, 0, 4294967295) else (if X.1 = 0 then 3 else X.1, if X.1 = 0 then S j else X.2.1, X.2.2.1, X.2.2.2, 0, 4294967295) := if_pos hop
  have eg : (rz_c3 (pz_ci (pz_rt w)) (pz_mx (pz_rt w)) (S j) (rz_ad Z)).2.2.2.1 = Z.2.2.2.1 := by
    unfold rz_c3; split
    · exact rz_al_g
    · rfl
  refine ⟨?_, fun z => ?_, eg⟩
  · by_cases c : X.1 = 0
    · have hC := (h.2 c).1
      have hC2 : (rz_ad Z).2.2.2.2 = X.2.2.1 := hC
      unfold rz_c3
      rw [hC2, eow]
      by_cases d : X.2.2.1 (pz_ci (pz_rt w)) < pz_mx (pz_rt w)
      · rw [if_pos d, if_neg (by omega)]; exact ha
      · rw [if_neg d, if_pos (show pz_mx (pz_rt w) ≤ X.2.2.1 (pz_ci (pz_rt w)) by omega)]
        simp only [if_pos c]
        rw [rz_al_n (kd := 3) (at9 := S j) (Z := rz_ad Z) (by have := (ha.2.2.2.2 c).1; omega)]
        exact ⟨ha.1, by show 3 ≠ 1; decide, Or.inl rfl, fun _ => ⟨hS, rfl, rfl⟩, fun g => absurd g (by show ¬ 3 = 0; decide)⟩
    · have hp := h.1.2.2.2.1 c
      have e2 : (pz_ow w (S j) X).1 = X.1 ∧ (pz_ow w (S j) X).2.1 = X.2.1 := by
        rw [eow]
        by_cases d : X.2.2.1 (pz_ci (pz_rt w)) < pz_mx (pz_rt w)
        · rw [if_pos d]; exact ⟨rfl, rfl⟩
        · rw [if_neg d]; exact ⟨if_neg c, if_neg c⟩
      have e3 : rz_c3 (pz_ci (pz_rt w)) (pz_mx (pz_rt w)) (S j) (rz_ad Z) = rz_ad Z := by
        unfold rz_c3; split
        · exact congrArg (Prod.mk (rz_ad Z).1) (if_pos (by have := ha.2.2.2.1 c; omega))
        · rfl
      rw [e2.1, e2.2, e3]; exact ha
  · rw [eow] at z ⊢
    by_cases d : X.2.2.1 (pz_ci (pz_rt w)) < pz_mx (pz_rt w)
    · rw [if_pos d] at z ⊢; exact ⟨z, d, rfl⟩
    · rw [if_neg d] at z
      exfalso
      have z2 : (if X.1 = 0 then 3 else X.1) = 0 := z
      by_cases c : X.1 = 0
      · rw [if_pos c] at z2; exact absurd z2 (by decide)
      · rw [if_neg c] at z2; exact c z2
