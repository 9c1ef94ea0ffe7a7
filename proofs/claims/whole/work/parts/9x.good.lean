/-! what is read is good -/
def pz_ro1 (C : Nat → Nat) (tf k : Nat) : Nat → Prop
  | 0 => C (8 + (k * 2 + 0)) < 10 ∧ tf.testBit (C (8 + (k * 2 + 0))) = true ∧ fg_le (C (8 + (k * 2 + 1))) tf ∧ C (8 + (k * 2 + 1)) ≠ 0
  | 1 => C (40 + (k * 3 + 0)) ≤ 99 ∧ fg_le (C (40 + (k * 3 + 1))) tf ∧ C (40 + (k * 3 + 2)) < 1024
  | 2 => C (55 + (k * 2 + 0)) ≤ 9 ∧ tf.testBit (C (55 + (k * 2 + 1))) = true
  | 3 => C (79 + (k * 4 + 0)) < C 2 ∧ C (79 + (k * 4 + 1)) < C 2 ∧ C (79 + (k * 4 + 2)) ≤ 9 ∧ tf.testBit (C (79 + (k * 4 + 3))) = true
  | 4 => C (127 + (k * 2 + 0)) ≤ 99 ∧ fg_le (C (127 + (k * 2 + 1))) tf
  | 5 => C (139 + (k * 2 + 0)) ≤ 99 ∧ fg_le (C (139 + (k * 2 + 1))) tf
  | _ => True
theorem pz_ro1.fr {C C' : Nat → Nat} {tf tf' k t : Nat} (ht : t < 6) (h : pz_ro1 C tf k t) (hc : ∀ i, i < pz_wi t → C' (pz_bs t + (k * pz_wi t + i)) = C (pz_bs t + (k * pz_wi t + i))) (h2 : C 2 ≤ C' 2) (hf : fg_le tf tf') : pz_ro1 C' tf' k t := by
  rcases (show t = 0 ∨ t = 1 ∨ t = 2 ∨ t = 3 ∨ t = 4 ∨ t = 5 by omega) with rfl | rfl | rfl | rfl | rfl | rfl
  · have e0 : C' (8 + (k * 2 + 0)) = C (8 + (k * 2 + 0)) := hc 0 (by decide)
    have e1 : C' (8 + (k * 2 + 1)) = C (8 + (k * 2 + 1)) := hc 1 (by decide)
    obtain ⟨a, b, c, d⟩ := h
    unfold pz_ro1; rw [e0, e1]
    exact ⟨a, hf _ b, fg_le_tr c hf, d⟩
  · have e0 : C' (40 + (k * 3 + 0)) = C (40 + (k * 3 + 0)) := hc 0 (by decide)
    have e1 : C' (40 + (k * 3 + 1)) = C (40 + (k * 3 + 1)) := hc 1 (by decide)
    have e2 : C' (40 + (k * 3 + 2)) = C (40 + (k * 3 + 2)) := hc 2 (by decide)
    obtain ⟨a, b, c⟩ := h
    unfold pz_ro1; rw [e0, e1, e2]
    exact ⟨a, fg_le_tr b hf, c⟩
  · have e0 : C' (55 + (k * 2 + 0)) = C (55 + (k * 2 + 0)) := hc 0 (by decide)
    have e1 : C' (55 + (k * 2 + 1)) = C (55 + (k * 2 + 1)) := hc 1 (by decide)
    obtain ⟨a, b⟩ := h
    unfold pz_ro1; rw [e0, e1]
    exact ⟨a, hf _ b⟩
  · have e0 : C' (79 + (k * 4 + 0)) = C (79 + (k * 4 + 0)) := hc 0 (by decide)
    have e1 : C' (79 + (k * 4 + 1)) = C (79 + (k * 4 + 1)) := hc 1 (by decide)
    have e2 : C' (79 + (k * 4 + 2)) = C (79 + (k * 4 + 2)) := hc 2 (by decide)
    have e3 : C' (79 + (k * 4 + 3)) = C (79 + (k * 4 + 3)) := hc 3 (by decide)
    obtain ⟨a, b, c, d⟩ := h
    unfold pz_ro1; rw [e0, e1, e2, e3]
    exact ⟨by omega, by omega, c, hf _ d⟩
  · have e0 : C' (127 + (k * 2 + 0)) = C (127 + (k * 2 + 0)) := hc 0 (by decide)
    have e1 : C' (127 + (k * 2 + 1)) = C (127 + (k * 2 + 1)) := hc 1 (by decide)
    obtain ⟨a, b⟩ := h
    unfold pz_ro1; rw [e0, e1]
    exact ⟨a, fg_le_tr b hf⟩
  · have e0 : C' (139 + (k * 2 + 0)) = C (139 + (k * 2 + 0)) := hc 0 (by decide)
    have e1 : C' (139 + (k * 2 + 1)) = C (139 + (k * 2 + 1)) := hc 1 (by decide)
    obtain ⟨a, b⟩ := h
    unfold pz_ro1; rw [e0, e1]
    exact ⟨a, fg_le_tr b hf⟩
/-- all but row r of kind t -/
def pz_IX (C : Nat → Nat) (tf t r : Nat) : Prop := ((1 ≤ C 0 ∧ C 0 ≤ 10) ∧ C 7 ≤ 99 ∧ tf < 1024) ∧ (∀ u, u < 6 → C (pz_ci u) ≤ pz_mx u) ∧ (∀ u, u < 6 → ∀ k, k < C (pz_ci u) → (u ≠ t ∨ k ≠ r) → pz_ro1 C tf k u) ∧ ∀ n, C 2 ≤ n → n < 5 → C (40 + (n * 3 + 1)) = 0 ∧ C (40 + (n * 3 + 2)) = 0
abbrev pz_IV (C : Nat → Nat) (tf : Nat) : Prop := pz_IX C tf 9 0
theorem pz_IX.iv {C : Nat → Nat} {tf t r : Nat} (h : pz_IX C tf t r) (ht : t < 6) (hr : pz_ro1 C tf r t) : pz_IV C tf := ⟨h.1, h.2.1, fun u hu k hk _ => by
  by_cases c : u = t ∧ k = r
  · rw [c.1, c.2]; exact hr
  · exact h.2.2.1 u hu k hk (by omega), h.2.2.2⟩
theorem pz_IV.ix {C : Nat → Nat} {tf t r : Nat} (h : pz_IV C tf) : pz_IX C tf t r := ⟨h.1, h.2.1, fun u hu k hk _ => h.2.2.1 u hu k hk (Or.inl (by omega)), h.2.2.2⟩
theorem pz_cell_lt {t k i m : Nat} (hk : k < m) (hi : i < pz_wi t) (hm : m ≤ pz_mx t) : k * pz_wi t + i < pz_mx t * pz_wi t := by
  have h1 : (k + 1) * pz_wi t ≤ pz_mx t * pz_wi t := Nat.mul_le_mul_right _ (by omega)
  rw [Nat.succ_mul] at h1
  omega
theorem pz_ci2 : ∀ u, u < 6 → u ≠ 1 → pz_ci u ≠ 2 := by decide
/-- a cell of row r is put -/
theorem pz_IX.put {C : Nat → Nat} {tf tf' t r i v : Nat} (h : pz_IX C tf t r) (ht : t < 6) (hr : r < C (pz_ci t)) (hi : i < pz_wi t) (hf : fg_le tf tf') (hf2 : tf' < 1024) : pz_IX (pz_up C (pz_bs t + (r * pz_wi t + i)) v) tf' t r := by
  obtain ⟨⟨h0, h7, h1⟩, hc, hrow, hz⟩ := h
  obtain ⟨b1, b2, b3, b4, b5, b6⟩ := pz_bs8 t ht
  have hlt := pz_cell_lt hr hi (hc t ht)
  have lo : ∀ x, x < 8 → pz_up C (pz_bs t + (r * pz_wi t + i)) v x = C x := fun x hx => pz_up_ne (by omega)
  refine ⟨⟨by rw [lo 0 (by decide)]; exact h0, by rw [lo 7 (by decide)]; exact h7, hf2⟩, fun u hu => ?_, fun u hu k hk hne => ?_, fun n hn hn5 => ?_⟩
  · have := pz_bs8 u hu
    rw [lo _ (by omega)]; exact hc u hu
  · have bu := pz_bs8 u hu
    rw [lo _ (by omega)] at hk
    refine (hrow u hu k hk hne).fr hu (fun l hl => pz_up_ne ?_) (by rw [lo 2 (by decide)]; exact Nat.le_refl _) hf
    have hlu := pz_cell_lt hk hl (hc u hu)
    rcases Nat.decEq u t with e | e
    · have := pz_apart u hu t ht e; omega
    · subst e
      have hkr : k ≠ r := by omega
      intro q
      have q2 : k * pz_wi u + l = r * pz_wi u + i := by omega
      rcases Nat.lt_or_ge k r with g | g
      · have : (k + 1) * pz_wi u ≤ r * pz_wi u := Nat.mul_le_mul_right _ g
        rw [Nat.succ_mul] at this; omega
      · have g2 : r < k := by omega
        have : (r + 1) * pz_wi u ≤ k * pz_wi u := Nat.mul_le_mul_right _ g2
        rw [Nat.succ_mul] at this; omega
  · rw [lo 2 (by decide)] at hn
    have key : ∀ l, l < 3 → pz_bs 1 + (n * 3 + l) ≠ pz_bs t + (r * pz_wi t + i) := fun l hl => by
      rcases Nat.decEq 1 t with e | e
      · have ap := pz_apart 1 (by decide) t ht e
        have m1 : pz_bs 1 = 40 := rfl
        have m2 : pz_mx 1 * pz_wi 1 = 15 := rfl
        rw [m1, m2] at ap
        rw [m1]
        omega
      · subst e
        have hr2 : r < C 2 := hr
        have e2 : r * pz_wi 1 = r * 3 := rfl
        have hi2 : i < 3 := hi
        omega
    have k1 := key 1 (by decide)
    have k2 := key 2 (by decide)
    have m1 : pz_bs 1 = 40 := rfl
    rw [m1] at k1 k2
    rw [pz_up_ne k1, pz_up_ne k2]
    exact hz n hn hn5
theorem pz_IX.tf {C : Nat → Nat} {tf tf' t r : Nat} (h : pz_IX C tf t r) (hf : fg_le tf tf') (hf2 : tf' < 1024) : pz_IX C tf' t r := ⟨⟨h.1.1, h.1.2.1, hf2⟩, h.2.1, fun u hu k hk hne => (h.2.2.1 u hu k hk hne).fr hu (fun _ _ => rfl) (Nat.le_refl _) hf, h.2.2.2⟩
/-- a row is added -/
theorem pz_IV.ad {C : Nat → Nat} {tf w : Nat} (h : pz_IV C tf) (hw : w < 10) (hop : pz_op w = true) (hn : C (pz_ci (pz_rt w)) < pz_mx (pz_rt w)) : pz_IX (pz_ad w C) tf (pz_rt w) (C (pz_ci (pz_rt w))) := by
  obtain ⟨⟨h0, h7, h1⟩, hc, hrow, hz⟩ := h
  have ht : pz_rt w < 6 := by
    obtain ⟨-, -, -, hso⟩ := pz_opc (by omega) hop
    unfold pz_so at hso; rw [if_pos hw] at hso
    rcases Nat.lt_or_ge (pz_rt w) 6 with q | q
    · exact q
    · rw [if_neg (by omega)] at hso; exact absurd hso (by decide)
  obtain ⟨b1, b2, b3, b4, b5, b6⟩ := pz_bs8 _ ht
  have lo : ∀ x, x < 8 → x ≠ pz_ci (pz_rt w) → pz_ad w C x = C x := fun x hx hne => pz_ad_o hne (by omega)
  have h2 : C 2 ≤ pz_ad w C 2 := by
    rcases Nat.decEq 2 (pz_ci (pz_rt w)) with e | e
    · rw [lo 2 (by decide) e]; exact Nat.le_refl _
    · rw [e, pz_ad_c]; omega
  have hln : C (pz_ci (pz_rt w)) * pz_wi (pz_rt w) + pz_wi (pz_rt w) ≤ pz_mx (pz_rt w) * pz_wi (pz_rt w) := by
    have : (C (pz_ci (pz_rt w)) + 1) * pz_wi (pz_rt w) ≤ pz_mx (pz_rt w) * pz_wi (pz_rt w) := Nat.mul_le_mul_right _ hn
    rw [Nat.succ_mul] at this; exact this
  refine ⟨⟨by rw [lo 0 (by decide) (by omega)]; exact h0, by rw [lo 7 (by decide) (by omega)]; exact h7, h1⟩, fun u hu => ?_, fun u hu k hk hne => ?_, fun n hn9 hn5 => ?_⟩
  · have bu := pz_bs8 u hu
    rcases Nat.decEq u (pz_rt w) with e | e
    · rw [lo _ (by omega) (pz_ci_inj u hu _ ht e)]; exact hc u hu
    · rw [e, pz_ad_c]; exact hn
  · have bu := pz_bs8 u hu
    have hk2 : k < C (pz_ci u) := by
      rcases Nat.decEq u (pz_rt w) with e | e
      · rw [lo _ (by omega) (pz_ci_inj u hu _ ht e)] at hk; exact hk
      · subst e
        rw [pz_ad_c] at hk
        omega
    refine (hrow u hu k hk2 (Or.inl (by omega))).fr hu (fun l hl => ?_) h2 (fg_le_rf _)
    have hlu := pz_cell_lt hk2 hl (hc u hu)
    rcases Nat.decEq u (pz_rt w) with e | e
    · have := pz_apart u hu _ ht e
      exact pz_ad_o (by omega) (by omega)
    · subst e
      have : (k + 1) * pz_wi (pz_rt w) ≤ C (pz_ci (pz_rt w)) * pz_wi (pz_rt w) := Nat.mul_le_mul_right _ hk2
      rw [Nat.succ_mul] at this
      exact pz_ad_o (by omega) (by omega)
  · rcases Nat.decEq (pz_rt w) 1 with e | e
    · have c2 : pz_ci (pz_rt w) ≠ 2 := pz_ci2 _ ht e
      rw [lo 2 (by decide) (fun g => c2 g.symm)] at hn9
      have ap := pz_apart 1 (by decide) _ ht (fun g => e g.symm)
      have m1 : pz_bs 1 = 40 := rfl
      have m2 : pz_mx 1 * pz_wi 1 = 15 := rfl
      rw [m1, m2] at ap
      rw [pz_ad_o (by omega) (by omega), pz_ad_o (by omega) (by omega)]
      exact hz n hn9 hn5
    · have ec : pz_ci (pz_rt w) = 2 := by rw [e]; rfl
      have hn10 : C 2 + 1 ≤ n := by
        have : pz_ad w C 2 = C 2 + 1 := by rw [← ec, pz_ad_c]
        omega
      have m3 : pz_bs (pz_rt w) = 40 := by rw [e]; rfl
      have m4 : pz_wi (pz_rt w) = 3 := by rw [e]; rfl
      rw [pz_ad_o (by omega) (by rw [m3, m4, ec]; omega), pz_ad_o (by omega) (by rw [m3, m4, ec]; omega)]
      exact hz n (by omega) hn5
