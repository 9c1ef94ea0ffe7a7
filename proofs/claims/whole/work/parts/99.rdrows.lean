/-! the class's reader: rows -/
def pz_ro (t : Nat) : Nat := if t = 6 then 270 else 257 + 2 * t
def pz_rc (t : Nat) : Nat := if t = 6 then 271 else 258 + 2 * t
def pz_SR (μ : Nat → Nat → Int32) (t : Nat) : Prop := μ (pz_ro t) 0 = nI (pz_wi t) ∧ ∃ sz, sz ≤ pz_mx t ∧ μ (pz_ro t) 2 = nI sz
def pz_SH (μ : Nat → Nat → Int32) : Prop := ∀ t, t < 7 → pz_SR μ t
def pz_RW (μ : Nat → Nat → Int32) (C : Nat → Nat) (t : Nat) : Prop := μ (pz_ro t) 2 = nI (C (pz_ci t)) ∧ C (pz_ci t) ≤ pz_mx t ∧ ∀ j, j < C (pz_ci t) * pz_wi t → μ (pz_rc t) j = nI (C (pz_bs t + j))
def pz_CT (μ : Nat → Nat → Int32) (sort : Nat) (C : Nat → Nat) : Prop := (sort = 0 → (μ 256 0 = nI (C 0) ∧ μ 256 1 = nI (C 7)) ∧ ∀ t, t < 6 → pz_RW μ C t) ∧ (sort = 1 → pz_RW μ C 6)
theorem pz_rows {R : fg_T4} {t : Nat} (h : t < 7) : fg_rows R (pz_ro t) (pz_rc t) (pz_mx t * pz_wi t) := by
  rcases (show t = 0 ∨ t = 1 ∨ t = 2 ∨ t = 3 ∨ t = 4 ∨ t = 5 ∨ t = 6 by omega) with rfl | rfl | rfl | rfl | rfl | rfl | rfl
  · exact ⟨ly_257, rh_257_1 R, ly_258⟩
  · exact ⟨ly_259, rh_259_1 R, ly_260⟩
  · exact ⟨ly_261, rh_261_1 R, ly_262⟩
  · exact ⟨ly_263, rh_263_1 R, ly_264⟩
  · exact ⟨ly_265, rh_265_1 R, ly_266⟩
  · exact ⟨ly_267, rh_267_1 R, ly_268⟩
  · exact ⟨ly_270, rh_270_1 R, ly_271⟩
theorem pz_r7 : ∀ t, t < 7 → 257 ≤ pz_ro t ∧ pz_ro t ≤ 270 ∧ 257 ≤ pz_rc t ∧ pz_rc t ≤ 271 ∧ pz_ro t ≠ pz_rc t ∧ 0 < pz_wi t ∧ pz_wi t ≤ 4 ∧ pz_mx t ≤ 30 ∧ (pz_mx t + 1) * pz_wi t ≤ 200 := by decide
theorem pz_rr : ∀ t, t < 7 → ∀ u, u < 7 → pz_ro t ≠ pz_rc u ∧ (t ≠ u → pz_ro t ≠ pz_ro u ∧ pz_rc t ≠ pz_rc u) := by decide
theorem pz_mul {t k : Nat} (h : k ≤ pz_mx t) : k * pz_wi t ≤ pz_mx t * pz_wi t := Nat.mul_le_mul_right _ h
theorem pz_SH.fr {μ μ' : Nat → Nat → Int32} (h : pz_SH μ) (hf : ∀ a, 256 ≤ a → a ≤ 271 → ∀ j, μ' a j = μ a j) : pz_SH μ' := fun t ht => by
  obtain ⟨h1, sz, h2, h3⟩ := h t ht
  obtain ⟨r1, r2, -⟩ := pz_r7 t ht
  exact ⟨(hf _ (by omega) (by omega) _).trans h1, sz, h2, (hf _ (by omega) (by omega) _).trans h3⟩
theorem pz_SH.cells {μ μ' : Nat → Nat → Int32} (h : pz_SH μ) {t : Nat} (ht : t < 7) (hf : ∀ a, a ≠ pz_rc t → ∀ j, μ' a j = μ a j) : pz_SH μ' := fun u hu => by
  obtain ⟨h1, sz, h2, h3⟩ := h u hu
  have := (pz_rr u hu t ht).1
  exact ⟨(hf _ this _).trans h1, sz, h2, (hf _ this _).trans h3⟩
theorem pz_RW.fr {μ μ' : Nat → Nat → Int32} {C : Nat → Nat} {t : Nat} (ht : t < 7) (h : pz_RW μ C t) (hf : ∀ a, 256 ≤ a → a ≤ 271 → ∀ j, μ' a j = μ a j) : pz_RW μ' C t := by
  obtain ⟨r1, r2, r3, r4, -⟩ := pz_r7 t ht
  exact ⟨(hf _ (by omega) (by omega) _).trans h.1, h.2.1, fun j hj => (hf _ (by omega) (by omega) _).trans (h.2.2 j hj)⟩
theorem pz_CT.fr {μ μ' : Nat → Nat → Int32} {sort : Nat} {C : Nat → Nat} (h : pz_CT μ sort C) (hf : ∀ a, 256 ≤ a → a ≤ 271 → ∀ j, μ' a j = μ a j) : pz_CT μ' sort C :=
  ⟨fun hs => ⟨⟨(hf 256 (by decide) (by decide) 0).trans (h.1 hs).1.1, (hf 256 (by decide) (by decide) 1).trans (h.1 hs).1.2⟩, fun t ht => ((h.1 hs).2 t ht).fr (by omega) hf⟩, fun hs => (h.2 hs).fr (by decide) hf⟩
/-- a row is as it was where neither its cells nor its contents have changed -/
theorem pz_RW.oth {μ μ' : Nat → Nat → Int32} {C C' : Nat → Nat} {t : Nat} (h : pz_RW μ C t) (h1 : μ' (pz_ro t) 2 = μ (pz_ro t) 2) (h2 : ∀ j, μ' (pz_rc t) j = μ (pz_rc t) j) (c1 : C' (pz_ci t) = C (pz_ci t)) (c2 : ∀ j, j < C (pz_ci t) * pz_wi t → C' (pz_bs t + j) = C (pz_bs t + j)) : pz_RW μ' C' t := by
  refine ⟨by rw [c1]; exact h1.trans h.1, by rw [c1]; exact h.2.1, fun j hj => ?_⟩
  rw [c1] at hj
  rw [c2 j hj]
  exact (h2 j).trans (h.2.2 j hj)
theorem pz_CT.rw {μ : Nat → Nat → Int32} {sort : Nat} {C : Nat → Nat} {t : Nat} (h : pz_CT μ sort C) (ht : t < 7) (hs : sort = if t < 6 then 0 else 1) : pz_RW μ C t := by
  rcases Nat.lt_or_ge t 6 with q | q
  · rw [if_pos q] at hs; exact (h.1 hs).2 t q
  · rw [if_neg (by omega)] at hs
    have e : t = 6 := by omega
    rw [e]; exact h.2 hs
theorem pz_ad_o {w : Nat} {C : Nat → Nat} {k : Nat} (h1 : k ≠ pz_ci (pz_rt w)) (h2 : k < pz_bs (pz_rt w) + C (pz_ci (pz_rt w)) * pz_wi (pz_rt w) ∨ pz_bs (pz_rt w) + C (pz_ci (pz_rt w)) * pz_wi (pz_rt w) + pz_wi (pz_rt w) ≤ k) : pz_ad w C k = C k := by
  unfold pz_ad
  rw [if_neg h1, if_neg (by omega)]
theorem pz_ad_c {w : Nat} {C : Nat → Nat} : pz_ad w C (pz_ci (pz_rt w)) = C (pz_ci (pz_rt w)) + 1 := if_pos rfl
theorem pz_cb : ∀ t, t < 7 → pz_ci t < pz_bs t := by decide
theorem pz_ad_n {w : Nat} (hw : pz_rt w < 7) {C : Nat → Nat} {i : Nat} (hi : i < pz_wi (pz_rt w)) : pz_ad w C (pz_bs (pz_rt w) + (C (pz_ci (pz_rt w)) * pz_wi (pz_rt w) + i)) = if w < 10 then 0 else if i = 0 then w - 10 else 4294967295 := by
  have := pz_cb (pz_rt w) hw
  unfold pz_ad
  rw [if_neg (by omega), if_pos (by omega)]
  by_cases c : w < 10
  · rw [if_pos c, if_pos c]
  · rw [if_neg c, if_neg c]
    by_cases d : i = 0
    · rw [if_pos d, if_pos (by omega)]
    · rw [if_neg d, if_neg (by omega)]
theorem pz_CT.add {μ μ' : Nat → Nat → Int32} {C : Nat → Nat} {w : Nat} (hw : pz_rt w < 7) (hs : pz_so w = if pz_rt w < 6 then 0 else 1) (h : pz_CT μ (pz_so w) C) (hn : C (pz_ci (pz_rt w)) < pz_mx (pz_rt w)) (hfr : ∀ b i, b ≠ pz_rc (pz_rt w) → (b ≠ pz_ro (pz_rt w) ∨ i ≠ 2) → μ' b i = μ b i) (h2 : μ' (pz_ro (pz_rt w)) 2 = nI (C (pz_ci (pz_rt w)) + 1)) (hnew : ∀ i, i < pz_wi (pz_rt w) → μ' (pz_rc (pz_rt w)) (C (pz_ci (pz_rt w)) * pz_wi (pz_rt w) + i) = nI (if w < 10 then 0 else if i = 0 then w - 10 else 4294967295)) (hold : ∀ i, i < C (pz_ci (pz_rt w)) * pz_wi (pz_rt w) → μ' (pz_rc (pz_rt w)) i = μ (pz_rc (pz_rt w)) i) : pz_CT μ' (pz_so w) (pz_ad w C) := by
  have own : pz_RW μ' (pz_ad w C) (pz_rt w) := by
    have h0 := h.rw hw hs
    refine ⟨by rw [pz_ad_c]; exact h2, by rw [pz_ad_c]; exact hn, fun j hj => ?_⟩
    rw [pz_ad_c, Nat.succ_mul] at hj
    rcases Nat.lt_or_ge j (C (pz_ci (pz_rt w)) * pz_wi (pz_rt w)) with q | q
    · rw [hold j q, pz_ad_o (by have := pz_cb _ hw; omega) (by omega)]
      exact h0.2.2 j q
    · have e : j = C (pz_ci (pz_rt w)) * pz_wi (pz_rt w) + (j - C (pz_ci (pz_rt w)) * pz_wi (pz_rt w)) := by omega
      rw [e, pz_ad_n hw (by omega)]
      exact hnew _ (by omega)
  refine ⟨fun s0 => ?_, fun s1 => ?_⟩
  · have ht : pz_rt w < 6 := by
      rcases Nat.lt_or_ge (pz_rt w) 6 with q | q
      · exact q
      · rw [if_neg (by omega)] at hs; omega
    obtain ⟨b1, b2, b3, b4, b5, b6⟩ := pz_bs8 _ ht
    obtain ⟨r1, r2, r3, r4, -⟩ := pz_r7 _ hw
    have h0 := h.1 s0
    refine ⟨⟨?_, ?_⟩, fun u hu => ?_⟩
    · rw [hfr 256 0 (by omega) (Or.inl (by omega)), pz_ad_o (by omega) (by omega)]; exact h0.1.1
    · rw [hfr 256 1 (by omega) (Or.inl (by omega)), pz_ad_o (by omega) (by omega)]; exact h0.1.2
    · rcases Nat.decEq u (pz_rt w) with e | e
      · have g := pz_rr u (by omega) (pz_rt w) hw
        have g2 := g.2 e
        have hn2 := pz_mul (h0.2 u hu).2.1
        have hn3 := pz_mul (t := pz_rt w) (k := C (pz_ci (pz_rt w)) + 1) hn
        rw [Nat.succ_mul] at hn3
        have ap := pz_apart u hu (pz_rt w) ht e
        have bu := pz_bs8 u hu
        refine (h0.2 u hu).oth (hfr _ _ g.1 (Or.inl g2.1)) (fun j => hfr _ _ g2.2 (Or.inl (pz_rr (pz_rt w) hw u (by omega)).1.symm)) ?_ (fun j hj => ?_)
        · exact pz_ad_o (pz_ci_inj u hu _ ht e) (by omega)
        · exact pz_ad_o (by omega) (by omega)
      · rw [e]; exact own
  · have ht : pz_rt w = 6 := by
      rcases Nat.lt_or_ge (pz_rt w) 6 with q | q
      · rw [if_pos q] at hs; omega
      · omega
    rw [ht] at own
    exact own
theorem pz_CT.put {μ : Nat → Nat → Int32} {C : Nat → Nat} {sort t k v : Nat} (ht : t < 7) (hs : sort = if t < 6 then 0 else 1) (h : pz_CT μ sort C) (hk : k < C (pz_ci t) * pz_wi t) : pz_CT (fg_u2 μ (pz_rc t) k (nI v)) sort (pz_up C (pz_bs t + k) v) := by
  have h00 := h.rw ht hs
  have hcb := pz_cb t ht
  have own : pz_RW (fg_u2 μ (pz_rc t) k (nI v)) (pz_up C (pz_bs t + k) v) t := by
    have e1 : pz_up C (pz_bs t + k) v (pz_ci t) = C (pz_ci t) := pz_up_ne (by omega)
    refine ⟨by rw [e1, fg_u2ne (pz_rr t ht t ht).1]; exact h00.1, by rw [e1]; exact h00.2.1, fun j hj => ?_⟩
    rw [e1] at hj
    rcases Nat.decEq j k with e | e
    · rw [fg_u2ns e, pz_up_ne (by omega)]; exact h00.2.2 j hj
    · rw [e, fg_u2eq, pz_up_eq]
  refine ⟨fun s0 => ?_, fun s1 => ?_⟩
  · have ht6 : t < 6 := by
      rcases Nat.lt_or_ge t 6 with q | q
      · exact q
      · rw [if_neg (by omega)] at hs; omega
    obtain ⟨b1, b2, b3, b4, b5, b6⟩ := pz_bs8 _ ht6
    obtain ⟨r1, r2, r3, r4, -⟩ := pz_r7 _ ht
    have h0 := h.1 s0
    refine ⟨⟨?_, ?_⟩, fun u hu => ?_⟩
    · rw [fg_u2ne (by omega), pz_up_ne (by omega)]; exact h0.1.1
    · rw [fg_u2ne (by omega), pz_up_ne (by omega)]; exact h0.1.2
    · rcases Nat.decEq u t with e | e
      · have g := pz_rr u (by omega) t ht
        have hn2 := pz_mul (h0.2 u hu).2.1
        have hn3 := pz_mul (h0.2 t ht6).2.1
        have ap := pz_apart u hu t ht6 e
        have bu := pz_bs8 u hu
        refine (h0.2 u hu).oth (fg_u2ne g.1) (fun j => fg_u2ne (g.2 e).2) ?_ (fun j hj => ?_)
        · exact pz_up_ne (by omega)
        · exact pz_up_ne (by omega)
      · rw [e]; exact own
  · have e6 : t = 6 := by
      rcases Nat.lt_or_ge t 6 with q | q
      · rw [if_pos q] at hs; omega
      · omega
    rw [e6] at own ⊢
    exact own
theorem pz_CT.fac {μ : Nat → Nat → Int32} {C : Nat → Nat} {v j k : Nat} (hjk : (j = 0 ∧ k = 0) ∨ (j = 1 ∧ k = 7)) (h : pz_CT μ 0 C) : pz_CT (fg_u2 μ 256 j (nI v)) 0 (pz_up C k v) := by
  have h0 := h.1 rfl
  refine ⟨fun _ => ⟨?_, fun u hu => ?_⟩, fun s1 => absurd s1 (by decide)⟩
  · rcases hjk with ⟨rfl, rfl⟩ | ⟨rfl, rfl⟩
    · exact ⟨by rw [fg_u2eq, pz_up_eq], by rw [fg_u2ns (by decide), pz_up_ne (by decide)]; exact h0.1.2⟩
    · exact ⟨by rw [fg_u2ns (by decide), pz_up_ne (by decide)]; exact h0.1.1, by rw [fg_u2eq, pz_up_eq]⟩
  · obtain ⟨r1, r2, r3, r4, -⟩ := pz_r7 u (by omega)
    have bu := pz_bs8 u hu
    exact (h0.2 u hu).oth (fg_u2ne (by omega)) (fun i => fg_u2ne (by omega)) (pz_up_ne (by omega)) (fun i hi => pz_up_ne (by omega))
theorem ev_Rows_putBitA {E : fg_E} {d : Nat} {μ : Nat → Nat → Int32} {R : fg_T4} {Q : Option Value → fg_M → Prop} {r c n w sz : Nat} (hr : fg_rows R r c n) (hw : μ r 0 = nI w) (hs : μ r 2 = nI sz) (hf : sz * w ≤ n) (hwl : w < 2 ^ 31) (hz : sz < 2 ^ 31) {i j : Nat} {z : Int32} (hi : i < sz) (hj : j < w) (hQ : ∀ μ' : Nat → Nat → Int32, (∀ a, a ≠ c → ∀ k, μ' a k = μ a k) → Q none (μ', fg_rho R, 304)) : fg_Ev E yy_Rows_putBit (d + 2) [.ref r, .int (nI i), .int (nI j), .int z] (μ, fg_rho R, 304) 304 Q := by
  refine fg_intro (by decide +kernel) (Nat.le_of_ble_eq_true rfl) (fg_okAs rfl) (Nat.le_refl _) ?_
  refine fg_aloadn (fg_ft (pc := 0) tb_Rows_putBit 0 rfl) rfl ?_
  refine fg_iloadn (fg_ft (pc := 1) tb_Rows_putBit 1 rfl) rfl ?_
  refine fg_iloadn (fg_ft (pc := 2) tb_Rows_putBit 2 rfl) rfl ?_
  refine fg_callV (fg_ft (pc := 3) tb_Rows_putBit 3 rfl) cf_Rows_36 (fg_isOf hr.1 rfl (fg_lt (hr.1) (by decide))) (as := [.int (nI i), .int (nI j)]) (st := []) rfl rfl (Nat.le_of_ble_eq_true rfl) (Nat.le_refl _) (Nat.le_refl _) (ev_Rows_has hr hw hs hf hwl hz ?_)
  refine fg_ifB_eq (tgt := 28) (fg_ft (pc := 6) tb_Rows_putBit 4 rfl) (by decide) (fun c6 => (absurd ⟨nI_pos (by omega), nI_ge hi hz, nI_pos (by omega), nI_ge hj hwl⟩ c6)) (fun c6 => ?_)
  refine fg_aloadn (fg_ft (pc := 9) tb_Rows_putBit 5 rfl) rfl ?_
  refine fg_getR (fg_ft (pc := 10) tb_Rows_putBit 6 rfl) ff_Rows_21 hr.1 rfl (fg_lt (hr.1) (by decide)) hr.2.1 ?_
  refine fg_iloadn (fg_ft (pc := 13) tb_Rows_putBit 7 rfl) rfl ?_
  refine fg_aloadn (fg_ft (pc := 14) tb_Rows_putBit 8 rfl) rfl ?_
  refine fg_getV (v := (nI w)) (fg_ft (pc := 15) tb_Rows_putBit 9 rfl) ff_Rows_9 hr.1 rfl (fg_lt (hr.1) (by decide)) hw ?_
  refine fg_imulN (fg_ft (pc := 18) tb_Rows_putBit 10 rfl) ?_
  refine fg_iloadn (fg_ft (pc := 19) tb_Rows_putBit 11 rfl) rfl ?_
  refine fg_iaddN (fg_ft (pc := 20) tb_Rows_putBit 12 rfl) ?_
  refine fg_dup2 (fg_ft (pc := 21) tb_Rows_putBit 13 rfl) rfl rfl ?_
  refine fg_ialdN (fg_ft (pc := 22) tb_Rows_putBit 14 rfl) hr.2.2 (fg_lt (hr.2.2) (by decide)) (fg_ix hi hj hf) ?_
  refine fg_iconst (fg_ft (pc := 23) tb_Rows_putBit 15 rfl) ic_1 ?_
  refine fg_iloadn (fg_ft (pc := 24) tb_Rows_putBit 16 rfl) rfl ?_
  refine fg_ishl (fg_ft (pc := 25) tb_Rows_putBit 17 rfl) ?_
  refine fg_ior (fg_ft (pc := 26) tb_Rows_putBit 18 rfl) ?_
  refine fg_iastN (fg_ft (pc := 27) tb_Rows_putBit 19 rfl) hr.2.2 (fg_lt (hr.2.2) (by decide)) (fg_ix hi hj hf) ?_
  show fg_wp _ _ _ _ _ _ _ _ _ (fg_u2 μ c ((i * w) + j) ((μ c ((i * w) + j)) ||| ((nI 1) <<< (z &&& 31))), fg_rho R, 304)
  exact fg_vret (fg_ft (pc := 28) tb_Rows_putBit 20 rfl) rfl rfl (hQ _ (fun a ha k => fg_u2ne ha))
theorem pz_putAny {E : fg_E} {d : Nat} {μ : Nat → Nat → Int32} {R : fg_T4} {Q : Option Value → fg_M → Prop} {t : Nat} (ht : t < 7) (hSH : pz_SH μ) {x y z : Int32} (hQ : ∀ μ' : Nat → Nat → Int32, (∀ a, a ≠ pz_rc t → ∀ k, μ' a k = μ a k) → Q none (μ', fg_rho R, 304)) : fg_Ev E yy_Rows_put (d + 2) [.ref (pz_ro t), .int x, .int y, .int z] (μ, fg_rho R, 304) 304 Q := by
  obtain ⟨hw, sz, hsz, hs⟩ := hSH t ht
  have hr := pz_rows (R := R) ht
  obtain ⟨-, -, -, -, -, r6, r7, r8, -⟩ := pz_r7 t ht
  have hf : sz * pz_wi t ≤ pz_mx t * pz_wi t := pz_mul hsz
  have hwl : pz_wi t < 2 ^ 31 := by omega
  have hz : sz < 2 ^ 31 := by omega
  by_cases hc : (¬ x < 0 ∧ ¬ nI sz ≤ x ∧ ¬ y < 0 ∧ ¬ nI (pz_wi t) ≤ y)
  · obtain ⟨i, hi1, rfl⟩ := nI_of hc.1
    obtain ⟨j, hj1, rfl⟩ := nI_of hc.2.2.1
    have hi : i < sz := by have := hc.2.1; rw [nI_leI hz hi1] at this; omega
    have hj : j < pz_wi t := by have := hc.2.2.2; rw [nI_leI hwl hj1] at this; omega
    exact ev_Rows_put hr hw hs hf hwl hz hi hj (hQ _ (fun a ha k => fg_u2ne ha))
  · exact ev_Rows_putOut hr hw hs hf hwl hz hc (hQ _ (fun _ _ _ => rfl))
theorem pz_putBitAny {E : fg_E} {d : Nat} {μ : Nat → Nat → Int32} {R : fg_T4} {Q : Option Value → fg_M → Prop} {t : Nat} (ht : t < 7) (hSH : pz_SH μ) {x y z : Int32} (hQ : ∀ μ' : Nat → Nat → Int32, (∀ a, a ≠ pz_rc t → ∀ k, μ' a k = μ a k) → Q none (μ', fg_rho R, 304)) : fg_Ev E yy_Rows_putBit (d + 2) [.ref (pz_ro t), .int x, .int y, .int z] (μ, fg_rho R, 304) 304 Q := by
  obtain ⟨hw, sz, hsz, hs⟩ := hSH t ht
  have hr := pz_rows (R := R) ht
  obtain ⟨-, -, -, -, -, r6, r7, r8, -⟩ := pz_r7 t ht
  have hf : sz * pz_wi t ≤ pz_mx t * pz_wi t := pz_mul hsz
  have hwl : pz_wi t < 2 ^ 31 := by omega
  have hz : sz < 2 ^ 31 := by omega
  by_cases hc : (¬ x < 0 ∧ ¬ nI sz ≤ x ∧ ¬ y < 0 ∧ ¬ nI (pz_wi t) ≤ y)
  · obtain ⟨i, hi1, rfl⟩ := nI_of hc.1
    obtain ⟨j, hj1, rfl⟩ := nI_of hc.2.2.1
    have hi : i < sz := by have := hc.2.1; rw [nI_leI hz hi1] at this; omega
    have hj : j < pz_wi t := by have := hc.2.2.2; rw [nI_leI hwl hj1] at this; omega
    exact ev_Rows_putBitA hr hw hs hf hwl hz hi hj hQ
  · exact ev_Rows_putBitOut hr hw hs hf hwl hz hc (hQ _ (fun _ _ _ => rfl))
