/-! both read alike: one number -/
def rz_TS (K V S : Nat → Nat) (len : Nat) : Prop := ∀ j, (K j ≠ 0 → S j < S (j + 1) ∧ j < len) ∧ V j ≤ 99 ∧ (K j = 3 → V j < 17) ∧ K j ≤ 4
theorem rz_TS_of (b : Nat → Nat) (len : Nat) : rz_TS (pz_K b len) (pz_V b len) (pz_S b len) len := fun j => by
  have h := pz_sp_i b len j
  have h2 := pz_sp_i b len (j + 1)
  have e : pz_N b len (j + 1) = pz_E b len j := rfl
  exact ⟨fun hk => ⟨by have := h.2.2.2.2.2.1 hk; omega, pz_K_lt hk⟩, h.2.2.2.2.2.2.1, h.2.2.2.2.2.2.2, h.2.2.2.1⟩
def rz_Rn (S : Nat → Nat) (q F Pl f : Nat) (Z : rz_Z) : Prop := Z.1 = q ∧ F ≠ 1 ∧ (f = 0 ∨ f = 2 ∨ f = 3) ∧ (F ≠ 0 → Pl < S q ∧ Z.2.1 = F ∧ Z.2.2.1 = Pl) ∧ (F = 0 → Z.2.1 = f ∧ (f ≠ 0 → Z.2.2.1 = S q))
abbrev rz_Rl (S : Nat → Nat) (q F Pl : Nat) (Z : rz_Z) : Prop := rz_Rn S q F Pl 0 Z
def rz_W (q s : Nat) (Z : rz_Z) : Prop := Z.1 = q ∧ Z.2.1 = 1 ∧ Z.2.2.1 = s
theorem rz_Rn.n1 {S : Nat → Nat} {q F Pl f : Nat} {Z : rz_Z} (h : rz_Rn S q F Pl f Z) : Z.2.1 ≠ 1 := by
  obtain ⟨-, h2, h3, h4, h5⟩ := h
  rcases Nat.eq_zero_or_pos F with c | c
  · have := (h5 c).1; omega
  · have := (h4 (by omega)).2.1; omega
theorem rz_Rn.al3 {S : Nat → Nat} {q F Pl f : Nat} {Z : rz_Z} (h : rz_Rn S q F Pl f Z) : rz_Rn S q F Pl (if f = 0 then 3 else f) (rz_al 3 (S q) Z) := by
  have hn := h.n1
  obtain ⟨h1, h2, h3, h4, h5⟩ := h
  refine ⟨h1, h2, by split <;> omega, fun c => ?_, fun c => ?_⟩
  · obtain ⟨a, b, d⟩ := h4 c
    have e : rz_al 3 (S q) Z = Z := congrArg (Prod.mk Z.1) (if_pos (by omega))
    rw [e]; exact ⟨a, b, d⟩
  · obtain ⟨a, b⟩ := h5 c
    by_cases z : f = 0
    · have e : rz_al 3 (S q) Z = (Z.1, 3, S q, Z.2.2.2) := congrArg (Prod.mk Z.1) (if_neg (by omega))
      rw [e, if_pos z]; exact ⟨rfl, fun _ => rfl⟩
    · have := b z
      have e : rz_al 3 (S q) Z = Z := congrArg (Prod.mk Z.1) (if_pos (by omega))
      rw [e, if_neg z]; exact ⟨a, b⟩
theorem rz_Rn.al2 {S : Nat → Nat} {q F Pl f : Nat} {Z : rz_Z} (h : rz_Rn S q F Pl f Z) : rz_Rn S q F Pl 2 (rz_al 2 (S q) Z) := by
  have hn := h.n1
  obtain ⟨h1, h2, h3, h4, h5⟩ := h
  refine ⟨h1, h2, Or.inr (Or.inl rfl), fun c => ?_, fun c => ?_⟩
  · obtain ⟨a, b, d⟩ := h4 c
    have e : rz_al 2 (S q) Z = Z := congrArg (Prod.mk Z.1) (if_pos (by omega))
    rw [e]; exact ⟨a, b, d⟩
  · obtain ⟨a, b⟩ := h5 c
    by_cases z : f = 2
    · have := b (by omega)
      have e : rz_al 2 (S q) Z = Z := congrArg (Prod.mk Z.1) (if_pos (by omega))
      rw [e]; exact ⟨by omega, fun _ => this⟩
    · have e : rz_al 2 (S q) Z = (Z.1, 2, S q, Z.2.2.2) := congrArg (Prod.mk Z.1) (if_neg (by
        rcases Nat.eq_zero_or_pos f with y | y
        · omega
        · have := b (by omega); omega))
      rw [e]; exact ⟨rfl, fun _ => rfl⟩
theorem rz_al_g {kd at9 : Nat} {Z : rz_Z} : (rz_al kd at9 Z).2.2.2.1 = Z.2.2.2.1 := by
  unfold rz_al; show (if _ then _ else _ : Nat × Nat × Nat × (Nat → Nat)).2.2.1 = _
  split <;> rfl
/-- a number is read -/
theorem rz_Rn.nu {K V S : Nat → Nat} {len q F Pl f lo hi : Nat} {Z : rz_Z} (hT : rz_TS K V S len) (hk : K q = 1) (h : rz_Rn S q F Pl f Z) : (rz_nu K V S lo hi Z).1 = rz_no lo hi (V q) ∧ rz_Rl S (q + 1) (if F = 0 then (if lo ≤ V q ∧ V q < hi then f else 2) else F) (if F = 0 ∧ (if lo ≤ V q ∧ V q < hi then f else 2) ≠ 0 then S q else Pl) (rz_nu K V S lo hi Z).2 ∧ (rz_nu K V S lo hi Z).2.2.2.2.1 = Z.2.2.2.1 := by
  have hS := ((hT q).1 (by omega)).1
  have hn := h.n1
  have hj := h.1
  have e : rz_nu K V S lo hi Z = (rz_no lo hi (V Z.1), rz_ad (if lo ≤ V Z.1 ∧ V Z.1 < hi then Z else rz_al 2 (S Z.1) Z)) := if_neg (fun c => c.elim hn (fun g => g (by rw [hj]; exact hk)))
  rw [e, hj]
  by_cases ok : lo ≤ V q ∧ V q < hi
  · rw [if_pos ok, if_pos ok]
    refine ⟨rfl, ?_, rfl⟩
    obtain ⟨-, h2, h3, h4, h5⟩ := h
    refine ⟨by show Z.1 + 1 = q + 1; rw [hj], by split <;> omega, Or.inl rfl, fun c => ?_, fun c => ?_⟩
    · by_cases z : F = 0
      · rw [if_pos z] at c ⊢
        obtain ⟨a, b⟩ := h5 z
        rw [if_pos ⟨z, c⟩]
        exact ⟨hS, a, b c⟩
      · rw [if_neg z, if_neg (fun g => z g.1)]
        obtain ⟨a, b, d⟩ := h4 z
        exact ⟨by omega, b, d⟩
    · by_cases z : F = 0
      · rw [if_pos z] at c
        obtain ⟨a, b⟩ := h5 z
        exact ⟨a.trans c, fun g => absurd rfl g⟩
      · rw [if_neg z] at c; exact absurd c z
  · rw [if_neg ok, if_neg ok]
    refine ⟨rfl, ?_, rz_al_g⟩
    obtain ⟨g1, h2, h3, h4, h5⟩ := h.al2
    refine ⟨by show Z.1 + 1 = q + 1; rw [hj], by split <;> omega, Or.inl rfl, fun c => ?_, fun c => ?_⟩
    · by_cases z : F = 0
      · rw [if_pos z, if_pos ⟨z, by decide⟩]
        obtain ⟨a, b⟩ := h5 z
        exact ⟨hS, a, b (by decide)⟩
      · rw [if_neg z, if_neg (fun g => z g.1)]
        obtain ⟨a, b, d⟩ := h4 z
        exact ⟨by omega, b, d⟩
    · by_cases z : F = 0
      · rw [if_pos z] at c; exact absurd c (by decide)
      · rw [if_neg z] at c; exact absurd c z
/-- none is read -/
theorem rz_Rn.no {K V S : Nat → Nat} {q F Pl f lo hi : Nat} {Z : rz_Z} (hk : K q ≠ 1) (h : rz_Rn S q F Pl f Z) : rz_W q (S q) (rz_nu K V S lo hi Z).2 := by
  have e : rz_nu K V S lo hi Z = (4294967295, rz_en S Z) := if_pos (Or.inr (by rw [h.1]; exact hk))
  have e2 : rz_en S Z = (Z.1, 1, S Z.1, Z.2.2.2) := congrArg (Prod.mk Z.1) (if_neg h.n1)
  rw [e, e2]
  exact ⟨h.1, rfl, by show S Z.1 = _; rw [h.1]⟩
/-! a wrong place stays -/
theorem rz_W.en {S : Nat → Nat} {q s : Nat} {Z : rz_Z} (h : rz_W q s Z) : rz_W q s (rz_en S Z) := by
  have e : rz_en S Z = Z := congrArg (Prod.mk Z.1) (if_pos h.2.1)
  rw [e]; exact h
theorem rz_W.al {kd at9 q s : Nat} {Z : rz_Z} (h : rz_W q s Z) : rz_W q s (rz_al kd at9 Z) := by
  have e : rz_al kd at9 Z = Z := congrArg (Prod.mk Z.1) (if_pos (Or.inl h.2.1))
  rw [e]; exact h
theorem rz_W.nu {K V S : Nat → Nat} {q s lo hi : Nat} {Z : rz_Z} (h : rz_W q s Z) : rz_W q s (rz_nu K V S lo hi Z).2 := by
  have e : rz_nu K V S lo hi Z = (4294967295, rz_en S Z) := if_pos (Or.inl h.2.1)
  rw [e]; exact h.en
theorem rz_W.gr {q s : Nat} {r : Nat × rz_Z} (h : rz_W q s r.2) : rz_W q s (rz_gr r).2 := h
theorem rz_W.fa {K V S : Nat → Nat} {q s : Nat} {Z : rz_Z} (h : rz_W q s Z) : rz_W q s (rz_fa K V S Z).2 := (h.nu (lo := 0) (hi := 10)).gr
theorem rz_W.el {K S : Nat → Nat} {q s : Nat} {Z : rz_Z} (h : rz_W q s Z) : rz_W q s (rz_el K S Z) := by
  have e : rz_el K S Z = rz_en S Z := if_neg (fun g => g.1 h.2.1)
  rw [e]; exact h.en
theorem rz_W.ul {K V S : Nat → Nat} {q s f many set : Nat} {Z : rz_Z} (h : rz_W q s Z) : rz_W q s (rz_ul K V S f many set Z).2 := by
  rw [rz_ul_e (Or.inl h.2.1)]; exact h
theorem rz_W.un {K V S : Nat → Nat} {q s len ah : Nat} {Z : rz_Z} (h : rz_W q s Z) : rz_W q s (rz_un K V S len ah Z).2 := h.ul
theorem rz_W.c3 {cell mx at9 q s : Nat} {Z : rz_Z} (h : rz_W q s Z) : rz_W q s (rz_c3 cell mx at9 Z) := by
  unfold rz_c3; split
  · exact h.al
  · exact h
theorem rz_W.sC {q s : Nat} {Z : rz_Z} {C : Nat → Nat} (h : rz_W q s Z) : rz_W q s (rz_sC Z C) := h
theorem rz_W.dup {K V S : Nat → Nat} {q s a : Nat} {Z : rz_Z} (h : rz_W q s Z) : rz_W q s (rz_dup K V S a Z) := by
  unfold rz_dup; split
  · exact h.al
  · exact h
theorem rz_W.bl {K V S : Nat → Nat} {q s kn p f many : Nat} {Z : rz_Z} (h : rz_W q s Z) : rz_W q s (rz_bl K V S kn p f many Z) := by
  rw [rz_bl_e (Or.inl h.2.1)]; exact h
/-- the end of a line -/
theorem rz_Rn.el2 {K V S : Nat → Nat} {len q F Pl : Nat} {Z : rz_Z} (hT : rz_TS K V S len) (hk : K q = 2) (h : rz_Rl S q F Pl Z) : rz_Rl S (q + 1) F Pl (rz_el K S Z) ∧ (rz_el K S Z).2.2.2 = Z.2.2.2 := by
  have hS := ((hT q).1 (by omega)).1
  have e : rz_el K S Z = rz_ad Z := if_pos ⟨h.n1, by rw [h.1]; exact hk⟩
  rw [e]
  obtain ⟨h1, h2, h3, h4, h5⟩ := h
  exact ⟨⟨by show Z.1 + 1 = _; rw [h1], h2, h3, fun c => by obtain ⟨a, b, d⟩ := h4 c; exact ⟨by omega, b, d⟩, fun c => ⟨(h5 c).1, fun g => absurd rfl g⟩⟩, rfl⟩
theorem rz_Rn.elW {K S : Nat → Nat} {q F Pl : Nat} {Z : rz_Z} (hk : K q ≠ 2) (h : rz_Rl S q F Pl Z) : rz_W q (S q) (rz_el K S Z) := by
  have e : rz_el K S Z = rz_en S Z := if_neg (fun g => hk (by rw [← h.1]; exact g.2))
  have e2 : rz_en S Z = (Z.1, 1, S Z.1, Z.2.2.2) := congrArg (Prod.mk Z.1) (if_neg h.n1)
  rw [e, e2]
  exact ⟨h.1, rfl, by show S Z.1 = _; rw [h.1]⟩
/-! the numbers, one after another -/
noncomputable def pz_it (V S : Nat → Nat) (w r q : Nat) : Nat → pz_Y → pz_Y
  | 0, Y => Y
  | n + 1, Y => pz_st w r n (V (q + n)) (S (q + n)) (pz_it V S w r q n Y)
theorem pz_nl_it {K V S : Nat → Nat} {w r q : Nat} {Y : pz_Y} : ∀ n f, n ≤ f → (∀ i, i < n → K (q + i) = 1 ∧ pz_sg w i ≠ 32) → pz_nl K V S w r q f 0 Y = pz_nl K V S w r q (f - n) n (pz_it V S w r q n Y) := by
  intro n
  induction n with
  | zero => intro f _ _; rfl
  | succ n ih =>
    intro f hf h
    rw [ih f (by omega) (fun i hi => h i (by omega))]
    rw [show f - n = (f - (n + 1)) + 1 by omega, pz_nl_s (h n (Nat.lt_succ_self n)).1 (h n (Nat.lt_succ_self n)).2]
    rfl
theorem pz_st_0 {w r i v s : Nat} {Y : pz_Y} (h : (pz_st w r i v s Y).1 = 0) : Y.1 = 0 ∧ pz_ff (pz_sg w i) i v (Y.2.2.1 2) Y.2.2.2.2.1 Y.2.2.2.2.2 = 0 := by
  have e : (pz_st w r i v s Y).1 = if Y.1 = 0 then pz_ff (pz_sg w i) i v (Y.2.2.1 2) Y.2.2.2.2.1 Y.2.2.2.2.2 else Y.1 := rfl
  rw [e] at h
  by_cases c : Y.1 = 0
  · rw [if_pos c] at h; exact ⟨c, h⟩
  · rw [if_neg c] at h; exact absurd h c
/-- a number's fault is told alike -/
theorem rz_Rl.st {S : Nat → Nat} {w r i v q' s f : Nat} {Y : pz_Y} {Z : rz_Z} (h : rz_Rl S q' (if Y.1 = 0 then f else Y.1) (if Y.1 = 0 ∧ f ≠ 0 then s else Y.2.1) Z) (hf : Y.1 = 0 → f = pz_ff (pz_sg w i) i v (Y.2.2.1 2) Y.2.2.2.2.1 Y.2.2.2.2.2) : rz_Rl S q' (pz_st w r i v s Y).1 (pz_st w r i v s Y).2.1 Z := by
  have e1 : (pz_st w r i v s Y).1 = if Y.1 = 0 then pz_ff (pz_sg w i) i v (Y.2.2.1 2) Y.2.2.2.2.1 Y.2.2.2.2.2 else Y.1 := rfl
  have e2 : (pz_st w r i v s Y).2.1 = if Y.1 = 0 ∧ pz_ff (pz_sg w i) i v (Y.2.2.1 2) Y.2.2.2.2.1 Y.2.2.2.2.2 ≠ 0 then s else Y.2.1 := rfl
  rw [e1, e2]
  by_cases c : Y.1 = 0
  · rw [← hf c]; exact h
  · rw [if_neg c, if_neg (fun g => c g.1)] at h ⊢; exact h
