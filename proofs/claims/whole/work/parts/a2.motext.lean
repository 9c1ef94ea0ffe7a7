/-! a text is told: the reference -/
def rz_pu (m : Nat → Int32) (C : Nat → Nat) (b j : Nat) : Nat → Int32 := fun x => if b ≤ x ∧ x < b + j then nI (C (x - b)) else m x
theorem rz_pu_s {m : Nat → Int32} {C : Nat → Nat} {b j x : Nat} : (if x = b + j then nI (C j) else rz_pu m C b j x) = rz_pu m C b (j + 1) x := by
  unfold rz_pu
  rcases Nat.decEq x (b + j) with e | e
  · rw [if_neg e]
    by_cases c : b ≤ x ∧ x < b + j
    · rw [if_pos c, if_pos ⟨c.1, by omega⟩]
    · rw [if_neg c, if_neg (fun h => c ⟨h.1, by omega⟩)]
  · subst e
    rw [if_pos rfl, if_pos ⟨by omega, by omega⟩, show b + j - b = j by omega]
theorem rz_pu_m {m m' : Nat → Int32} {C : Nat → Nat} {b j x : Nat} (h : m x = m' x) : rz_pu m C b j x = rz_pu m' C b j x := by
  unfold rz_pu; rw [h]
theorem rz_pu_o {m : Nat → Int32} {C : Nat → Nat} {b j x : Nat} (h : x < b ∨ b + j ≤ x) : rz_pu m C b j x = m x := if_neg (by omega)
theorem rz_pu_i {m : Nat → Int32} {C : Nat → Nat} {b j x i : Nat} (h : x = b + i) (hi : i < j) : rz_pu m C b j x = nI (C i) := by
  unfold rz_pu
  rw [if_pos (by omega), h, show b + i - b = i by omega]
theorem fg_ML.tput9 {m m' : Nat → Int32} {A : fg_Tl} {p : Nat} {C : Nat → Nat} (h : fg_ML m (A.hd 0 0 (-1))) (hp : p < 2) (hpt : p ≤ A.tc) (ht : A.tc ≤ 2) (hd : A.dc ≤ 3) (hnd : ∀ k, k < A.dc → A.nd k ≤ 30) (h0 : m' 0 = nI (max A.tc (p + 1))) (hm : ∀ x, 0 < x → x < 1280 → m' x = rz_pu m C (610 + 152 * p) 152 x) : fg_ML m' (A.tput p C) := by
  obtain ⟨⟨g0, g1, g2, g3, g4⟩, -, h5, h6⟩ := h
  refine ⟨⟨h0, (hm 1 (by decide) (by decide)).trans ((rz_pu_o (by omega)).trans g1), (hm 2 (by decide) (by decide)).trans ((rz_pu_o (by omega)).trans g2), (hm 3 (by decide) (by decide)).trans ((rz_pu_o (by omega)).trans g3), (hm 4 (by decide) (by decide)).trans ((rz_pu_o (by omega)).trans g4)⟩, fun j hj => absurd (show j < 0 from hj) (Nat.not_lt_zero _), fun k hk => ?_, fun k hk => ?_⟩
  · have hk2 : k < max A.tc (p + 1) := hk
    refine ⟨by omega, fun i hi => ?_⟩
    show m' (610 + 152 * k + i) = nI ((if k = p then C else A.ts k) i)
    by_cases c : k = p
    · rw [if_pos c, c]
      exact (hm _ (by omega) (by omega)).trans (rz_pu_i rfl hi)
    · rw [if_neg c]
      exact (hm _ (by omega) (by omega)).trans ((rz_pu_o (by omega)).trans ((h5 k (by show k < A.tc; omega)).2 i hi))
  · have hk2 : k < A.dc := hk
    obtain ⟨a, b⟩ := h6 k hk2
    have := hnd k hk2
    exact ⟨(hm _ (by omega) (by omega)).trans ((rz_pu_o (by omega)).trans a), fun i hi => by have hi2 : i < A.nd k * 4 := hi; exact (hm _ (by omega) (by omega)).trans ((rz_pu_o (by omega)).trans (b i hi))⟩
theorem fg_ML.dput9 {m m' : Nat → Int32} {A : fg_Tl} {p : Nat} {C : Nat → Nat} (h : fg_ML m (A.hd 0 0 (-1))) (hp : p < 3) (hpt : p ≤ A.dc) (ht : A.tc ≤ 2) (hd : A.dc ≤ 3) (h30 : C 0 ≤ 30) (hnd : ∀ k, k < A.dc → A.nd k ≤ 30) (h1 : m' 1 = nI (max A.dc (p + 1))) (hm : ∀ x, x ≠ 1 → x < 1280 → m' x = rz_pu m C (914 + 122 * p) 122 x) : fg_ML m' (A.dput p C) := by
  obtain ⟨⟨g0, g1, g2, g3, g4⟩, -, h5, h6⟩ := h
  refine ⟨⟨(hm 0 (by decide) (by decide)).trans ((rz_pu_o (by omega)).trans g0), h1, (hm 2 (by decide) (by decide)).trans ((rz_pu_o (by omega)).trans g2), (hm 3 (by decide) (by decide)).trans ((rz_pu_o (by omega)).trans g3), (hm 4 (by decide) (by decide)).trans ((rz_pu_o (by omega)).trans g4)⟩, fun j hj => absurd (show j < 0 from hj) (Nat.not_lt_zero _), fun k hk => ?_, fun k hk => ?_⟩
  · have hk2 : k < A.tc := hk
    refine ⟨by omega, fun i hi => ?_⟩
    exact (hm _ (by omega) (by omega)).trans ((rz_pu_o (by omega)).trans ((h5 k hk2).2 i hi))
  · have hk2 : k < max A.dc (p + 1) := hk
    show m' (914 + 122 * k) = nI (if k = p then C 0 else A.nd k) ∧ ∀ i, i < (if k = p then C 0 else A.nd k) * 4 → m' (914 + 122 * k + (1 + i)) = (if k = p then fun i => nI (C i) else A.ds k) (1 + i)
    by_cases c : k = p
    · rw [if_pos c, if_pos c, c]
      exact ⟨(hm _ (by omega) (by omega)).trans (rz_pu_i rfl (by decide)), fun i hi => (hm _ (by omega) (by omega)).trans (rz_pu_i (by omega) (by omega))⟩
    · rw [if_neg c, if_neg c]
      have hk3 : k < A.dc := by omega
      obtain ⟨a, b⟩ := h6 k hk3
      have := hnd k hk3
      exact ⟨(hm _ (by omega) (by omega)).trans ((rz_pu_o (by omega)).trans a), fun i hi => (hm _ (by omega) (by omega)).trans ((rz_pu_o (by omega)).trans (b i hi))⟩
theorem rz_tx_copy0 {E : fg_E} {d : Nat} {μ : Nat → Nat → Int32} {R : fg_T4} {Q : Option Value → fg_M → Prop} {C : Nat → Nat} {a p : Nat} {v4 v5 : Value} (hp : p < 3) (hC : ∀ k, k < 152 → μ 290 k = nI (C k)) (hQ : ∀ μ' : Nat → Nat → Int32, (∀ a, a ≠ 288 → ∀ x, μ' a x = μ a x) → (∀ x, μ' 288 x = rz_pu (μ 288) C (610 + 152 * p) 152 x) → Q (some (.int (nI p))) (μ', fg_rho R, 304)) : fg_wp E yy_Mo_text (d + 10) 304 304 Q 242 [.ref 287, .int (nI 0), .int (nI a), .int (nI p), v4, v5] [] (μ, fg_rho R, 304) := by
  have loop : ∀ (q i : Nat) (ν : Nat → Nat → Int32), 152 - i < q → i ≤ 152 → (∀ a, a ≠ 288 → ∀ x, ν a x = μ a x) → (∀ x, ν 288 x = rz_pu (μ 288) C (610 + 152 * p) i x) → fg_wp E yy_Mo_text (d + 10) 304 304 Q 259 [.ref 287, .int (nI 0), .int (nI a), .int (nI p), .int (nI 152), .int (nI i)] [] (ν, fg_rho R, 304) := by
    intro q
    induction q with
    | zero => intro i ν h; exact absurd h (Nat.not_lt_zero _)
    | succ q ih =>
      intro i ν hq hj hag hm
      refine fg_iload (fg_ft (pc := 259) tb_Mo_text 149 rfl) rfl ?_
      refine fg_iload (fg_ft (pc := 261) tb_Mo_text 150 rfl) rfl ?_
      refine fg_icmp_geN (tgt := 292) (fg_ft (pc := 263) tb_Mo_text 151 rfl) (by decide) (by omega) (by decide) (fun c263 => ?_) (fun c263 => ?_)
      · refine fg_iloadn (fg_ft (pc := 292) tb_Mo_text 166 rfl) rfl ?_
        exact fg_iret (fg_ft (pc := 293) tb_Mo_text 167 rfl) rfl rfl (by rw [show i = 152 by omega] at hm; exact hQ ν hag hm)
      · refine fg_aloadn (fg_ft (pc := 266) tb_Mo_text 152 rfl) rfl ?_
        refine fg_getR (fg_ft (pc := 267) tb_Mo_text 153 rfl) ff_Mo_7 ly_287 rfl (fg_lt ly_287 (by decide)) (rh_287_0 R) ?_
        refine fg_iloadn (fg_ft (pc := 270) tb_Mo_text 154 rfl) rfl ?_
        refine fg_iloadn (fg_ft (pc := 271) tb_Mo_text 155 rfl) rfl ?_
        refine fg_callS (fg_ft (pc := 272) tb_Mo_text 156 rfl) cf_Mo_166 (as := [.int (nI 0), .int (nI p)]) (st := [.ref 288]) rfl rfl (Nat.le_of_ble_eq_true rfl) (Nat.le_refl _) (Nat.le_refl _) (ev_Mo_placeOf0 (k := p) ?_)
        refine fg_iload (fg_ft (pc := 275) tb_Mo_text 157 rfl) rfl ?_
        refine fg_iaddN (fg_ft (pc := 277) tb_Mo_text 158 rfl) ?_
        refine fg_aloadn (fg_ft (pc := 278) tb_Mo_text 159 rfl) rfl ?_
        refine fg_getR (fg_ft (pc := 279) tb_Mo_text 160 rfl) ff_Mo_17 ly_287 rfl (fg_lt ly_287 (by decide)) (rh_287_10 R) ?_
        refine fg_iload (fg_ft (pc := 282) tb_Mo_text 161 rfl) rfl ?_
        refine fg_ialdV (v := (nI (C i))) (fg_ft (pc := 284) tb_Mo_text 162 rfl) ly_290 (fg_lt ly_290 (by decide)) (by omega) ((hag 290 (by decide) i).trans (hC i (by omega))) ?_
        refine fg_iastN (fg_ft (pc := 285) tb_Mo_text 163 rfl) ly_288 (fg_lt ly_288 (by decide)) (by omega) ?_
        show fg_wp _ _ _ _ _ _ _ _ _ (fg_u2 ν 288 ((610 + 152 * p) + i) (nI (C i)), fg_rho R, 304)
        refine fg_iincN (fg_ft (pc := 286) tb_Mo_text 164 rfl) rfl ic_1 rfl ?_
        refine fg_goto (tgt := 259) (fg_ft (pc := 289) tb_Mo_text 165 rfl) (by decide) ?_
        exact ih (i + 1) _ (by omega) (by omega) (fun a9 a1 x => (fg_u2ne a1).trans (hag a9 a1 x)) (fun x => fg_u2if.trans ((by rw [hm x] : _ = (if x = 610 + 152 * p + i then nI (C i) else rz_pu (μ 288) C (610 + 152 * p) i x)).trans rz_pu_s))
  refine fg_iloadn (fg_ft (pc := 242) tb_Mo_text 141 rfl) rfl ?_
  refine fg_if_ne (tgt := 252) (fg_ft (pc := 243) tb_Mo_text 142 rfl) (by decide) (fun h => absurd h (by decide)) (fun _ => ?_)
  refine fg_sipush (fg_ft (pc := 246) tb_Mo_text 143 rfl) is_152 ?_
  refine fg_goto (tgt := 254) (fg_ft (pc := 249) tb_Mo_text 144 rfl) (by decide) ?_
  refine fg_istore (fg_ft (pc := 254) tb_Mo_text 146 rfl) (Nat.le_of_ble_eq_true rfl) ?_
  refine fg_iconst (fg_ft (pc := 256) tb_Mo_text 147 rfl) ic_0 ?_
  refine fg_istore (fg_ft (pc := 257) tb_Mo_text 148 rfl) (Nat.le_of_ble_eq_true rfl) ?_
  exact loop 153 0 μ (by omega) (by omega) (fun _ _ _ => rfl) (fun x => (rz_pu_o (by omega)).symm)
theorem rz_tx_copy1 {E : fg_E} {d : Nat} {μ : Nat → Nat → Int32} {R : fg_T4} {Q : Option Value → fg_M → Prop} {C : Nat → Nat} {a p : Nat} {v4 v5 : Value} (hp : p < 3) (hC : ∀ k, k < 152 → μ 290 k = nI (C k)) (hQ : ∀ μ' : Nat → Nat → Int32, (∀ a, a ≠ 288 → ∀ x, μ' a x = μ a x) → (∀ x, μ' 288 x = rz_pu (μ 288) C (914 + 122 * p) 122 x) → Q (some (.int (nI p))) (μ', fg_rho R, 304)) : fg_wp E yy_Mo_text (d + 10) 304 304 Q 242 [.ref 287, .int (nI 1), .int (nI a), .int (nI p), v4, v5] [] (μ, fg_rho R, 304) := by
  have loop : ∀ (q i : Nat) (ν : Nat → Nat → Int32), 122 - i < q → i ≤ 122 → (∀ a, a ≠ 288 → ∀ x, ν a x = μ a x) → (∀ x, ν 288 x = rz_pu (μ 288) C (914 + 122 * p) i x) → fg_wp E yy_Mo_text (d + 10) 304 304 Q 259 [.ref 287, .int (nI 1), .int (nI a), .int (nI p), .int (nI 122), .int (nI i)] [] (ν, fg_rho R, 304) := by
    intro q
    induction q with
    | zero => intro i ν h; exact absurd h (Nat.not_lt_zero _)
    | succ q ih =>
      intro i ν hq hj hag hm
      refine fg_iload (fg_ft (pc := 259) tb_Mo_text 149 rfl) rfl ?_
      refine fg_iload (fg_ft (pc := 261) tb_Mo_text 150 rfl) rfl ?_
      refine fg_icmp_geN (tgt := 292) (fg_ft (pc := 263) tb_Mo_text 151 rfl) (by decide) (by omega) (by decide) (fun c263 => ?_) (fun c263 => ?_)
      · refine fg_iloadn (fg_ft (pc := 292) tb_Mo_text 166 rfl) rfl ?_
        exact fg_iret (fg_ft (pc := 293) tb_Mo_text 167 rfl) rfl rfl (by rw [show i = 122 by omega] at hm; exact hQ ν hag hm)
      · refine fg_aloadn (fg_ft (pc := 266) tb_Mo_text 152 rfl) rfl ?_
        refine fg_getR (fg_ft (pc := 267) tb_Mo_text 153 rfl) ff_Mo_7 ly_287 rfl (fg_lt ly_287 (by decide)) (rh_287_0 R) ?_
        refine fg_iloadn (fg_ft (pc := 270) tb_Mo_text 154 rfl) rfl ?_
        refine fg_iloadn (fg_ft (pc := 271) tb_Mo_text 155 rfl) rfl ?_
        refine fg_callS (fg_ft (pc := 272) tb_Mo_text 156 rfl) cf_Mo_166 (as := [.int (nI 1), .int (nI p)]) (st := [.ref 288]) rfl rfl (Nat.le_of_ble_eq_true rfl) (Nat.le_refl _) (Nat.le_refl _) (ev_Mo_placeOf1 (k := p) ?_)
        refine fg_iload (fg_ft (pc := 275) tb_Mo_text 157 rfl) rfl ?_
        refine fg_iaddN (fg_ft (pc := 277) tb_Mo_text 158 rfl) ?_
        refine fg_aloadn (fg_ft (pc := 278) tb_Mo_text 159 rfl) rfl ?_
        refine fg_getR (fg_ft (pc := 279) tb_Mo_text 160 rfl) ff_Mo_17 ly_287 rfl (fg_lt ly_287 (by decide)) (rh_287_10 R) ?_
        refine fg_iload (fg_ft (pc := 282) tb_Mo_text 161 rfl) rfl ?_
        refine fg_ialdV (v := (nI (C i))) (fg_ft (pc := 284) tb_Mo_text 162 rfl) ly_290 (fg_lt ly_290 (by decide)) (by omega) ((hag 290 (by decide) i).trans (hC i (by omega))) ?_
        refine fg_iastN (fg_ft (pc := 285) tb_Mo_text 163 rfl) ly_288 (fg_lt ly_288 (by decide)) (by omega) ?_
        show fg_wp _ _ _ _ _ _ _ _ _ (fg_u2 ν 288 ((914 + 122 * p) + i) (nI (C i)), fg_rho R, 304)
        refine fg_iincN (fg_ft (pc := 286) tb_Mo_text 164 rfl) rfl ic_1 rfl ?_
        refine fg_goto (tgt := 259) (fg_ft (pc := 289) tb_Mo_text 165 rfl) (by decide) ?_
        exact ih (i + 1) _ (by omega) (by omega) (fun a9 a1 x => (fg_u2ne a1).trans (hag a9 a1 x)) (fun x => fg_u2if.trans ((by rw [hm x] : _ = (if x = 914 + 122 * p + i then nI (C i) else rz_pu (μ 288) C (914 + 122 * p) i x)).trans rz_pu_s))
  refine fg_iloadn (fg_ft (pc := 242) tb_Mo_text 141 rfl) rfl ?_
  refine fg_if_ne (tgt := 252) (fg_ft (pc := 243) tb_Mo_text 142 rfl) (by decide) (fun _ => ?_) (fun h => absurd h (by decide))
  refine fg_bipush (fg_ft (pc := 252) tb_Mo_text 145 rfl) ib_122 ?_
  refine fg_istore (fg_ft (pc := 254) tb_Mo_text 146 rfl) (Nat.le_of_ble_eq_true rfl) ?_
  refine fg_iconst (fg_ft (pc := 256) tb_Mo_text 147 rfl) ic_0 ?_
  refine fg_istore (fg_ft (pc := 257) tb_Mo_text 148 rfl) (Nat.le_of_ble_eq_true rfl) ?_
  exact loop 123 0 μ (by omega) (by omega) (fun _ _ _ => rfl) (fun x => (rz_pu_o (by omega)).symm)
theorem rz_tx_put0 {E : fg_E} {d : Nat} {μ : Nat → Nat → Int32} {R : fg_T4} {Q : Option Value → fg_M → Prop} {A : fg_Tl} {C : Nat → Nat} {a p : Nat} {v3 v4 v5 : Value} (ha : a < 2 ^ 32) (hw : fg_wA A) (hL : fg_ML (μ 288) (A.hd 0 0 (-1))) (hp : p < 2) (hpe : (a = 4294967295 → p = A.tc) ∧ (¬ a = 4294967295 → p = a ∧ a < A.tc)) (hC : ∀ k, k < 152 → μ 290 k = nI (C k)) (hQ : ∀ μ' : Nat → Nat → Int32, (∀ a, a ≠ 288 → ∀ x, μ' a x = μ a x) → (∀ x, 1280 ≤ x → μ' 288 x = μ 288 x) → fg_ML (μ' 288) (A.tput p C) → Q (some (.int (nI p))) (μ', fg_rho R, 304)) : fg_wp E yy_Mo_text (d + 10) 304 304 Q 211 [.ref 287, .int (nI 0), .int (nI a), v3, v4, v5] [] (μ, fg_rho R, 304) := by
  refine fg_iloadn (fg_ft (pc := 211) tb_Mo_text 120 rfl) rfl ?_
  refine fg_iconst (fg_ft (pc := 212) tb_Mo_text 121 rfl) ic_m1 ?_
  refine fg_icmp_neM (tgt := 225) (fg_ft (pc := 213) tb_Mo_text 122 rfl) (by decide) (ha) (fun c213 => ?_) (fun c213 => ?_)
  · obtain ⟨e2, e3⟩ := hpe.2 c213
    have hcb : A.tc ≤ 3 := by have := hw.2.1; have := hw.2.2.1; omega
    refine fg_iloadn (fg_ft (pc := 225) tb_Mo_text 128 rfl) rfl ?_
    refine fg_istoren (fg_ft (pc := 226) tb_Mo_text 129 rfl) (Nat.le_of_ble_eq_true rfl) ?_
    refine fg_iloadn (fg_ft (pc := 227) tb_Mo_text 130 rfl) rfl ?_
    refine fg_iconst (fg_ft (pc := 228) tb_Mo_text 131 rfl) ic_m1 ?_
    refine fg_icmp_neM (tgt := 242) (fg_ft (pc := 229) tb_Mo_text 132 rfl) (by decide) (ha) (fun c229 => ?_) (fun c229 => (absurd c229 c213))
    exact rz_tx_copy0 (p := a) (by omega) hC (fun ν g1 g2 => fg_q (hQ ν g1 (fun x hx => (g2 x).trans (rz_pu_o (by omega))) (hL.tput9 (p := p) (by omega) (by omega) hw.2.1 hw.2.2.1 (fun k hk => (hw.2.2.2.2 k hk).1) ((g2 0).trans ((rz_pu_o (by omega)).trans (hL.1.1.trans (by exact congrArg nI (by show A.tc = _; omega))))) (fun x x1 x2 => (g2 x).trans (by rw [e2])))) (by rw [e2]))
  · have e1 : p = A.tc := hpe.1 c213
    have hcb : A.tc ≤ 3 := by have := hw.2.1; have := hw.2.2.1; omega
    have hcp : A.tc < 2 := by omega
    refine fg_aloadn (fg_ft (pc := 216) tb_Mo_text 123 rfl) rfl ?_
    refine fg_getR (fg_ft (pc := 217) tb_Mo_text 124 rfl) ff_Mo_7 ly_287 rfl (fg_lt ly_287 (by decide)) (rh_287_0 R) ?_
    refine fg_iloadn (fg_ft (pc := 220) tb_Mo_text 125 rfl) rfl ?_
    refine fg_ialdV (v := (nI (A.tc))) (fg_ft (pc := 221) tb_Mo_text 126 rfl) ly_288 (fg_lt ly_288 (by decide)) (by omega) hL.1.1 ?_
    refine fg_goto (tgt := 226) (fg_ft (pc := 222) tb_Mo_text 127 rfl) (by decide) ?_
    refine fg_istoren (fg_ft (pc := 226) tb_Mo_text 129 rfl) (Nat.le_of_ble_eq_true rfl) ?_
    refine fg_iloadn (fg_ft (pc := 227) tb_Mo_text 130 rfl) rfl ?_
    refine fg_iconst (fg_ft (pc := 228) tb_Mo_text 131 rfl) ic_m1 ?_
    refine fg_icmp_neM (tgt := 242) (fg_ft (pc := 229) tb_Mo_text 132 rfl) (by decide) (ha) (fun c229 => (absurd c213 c229)) (fun c229 => ?_)
    refine fg_aloadn (fg_ft (pc := 232) tb_Mo_text 133 rfl) rfl ?_
    refine fg_getR (fg_ft (pc := 233) tb_Mo_text 134 rfl) ff_Mo_7 ly_287 rfl (fg_lt ly_287 (by decide)) (rh_287_0 R) ?_
    refine fg_iloadn (fg_ft (pc := 236) tb_Mo_text 135 rfl) rfl ?_
    refine fg_dup2 (fg_ft (pc := 237) tb_Mo_text 136 rfl) rfl rfl ?_
    refine fg_ialdV (v := (nI (A.tc))) (fg_ft (pc := 238) tb_Mo_text 137 rfl) ly_288 (fg_lt ly_288 (by decide)) (by omega) hL.1.1 ?_
    refine fg_iconst (fg_ft (pc := 239) tb_Mo_text 138 rfl) ic_1 ?_
    refine fg_iaddN (fg_ft (pc := 240) tb_Mo_text 139 rfl) ?_
    refine fg_iastN (fg_ft (pc := 241) tb_Mo_text 140 rfl) ly_288 (fg_lt ly_288 (by decide)) (by omega) ?_
    show fg_wp _ _ _ _ _ _ _ _ _ (fg_u2 μ 288 0 (nI ((A.tc) + 1)), fg_rho R, 304)
    exact rz_tx_copy0 (p := A.tc) (by omega) (fun k hk => (fg_u2ne (by decide)).trans (hC k hk)) (fun ν g1 g2 => fg_q (hQ ν (fun a9 a1 x => (g1 a9 a1 x).trans (fg_u2ne a1)) (fun x hx => (g2 x).trans ((rz_pu_o (by omega)).trans (fg_u2ns (by omega)))) (hL.tput9 (p := p) (by omega) (by omega) hw.2.1 hw.2.2.1 (fun k hk => (hw.2.2.2.2 k hk).1) ((g2 0).trans ((rz_pu_o (by omega)).trans (fg_u2eq.trans (by rw [e1]; exact congrArg nI (by omega))))) (fun x x1 x2 => (g2 x).trans (by rw [e1]; exact rz_pu_m (fg_u2ns (by omega)))))) (by rw [e1]))
theorem rz_tx_put1 {E : fg_E} {d : Nat} {μ : Nat → Nat → Int32} {R : fg_T4} {Q : Option Value → fg_M → Prop} {A : fg_Tl} {C : Nat → Nat} {a p : Nat} {v3 v4 v5 : Value} (ha : a < 2 ^ 32) (hw : fg_wA A) (hL : fg_ML (μ 288) (A.hd 0 0 (-1))) (hp : p < 3) (hpe : (a = 4294967295 → p = A.dc) ∧ (¬ a = 4294967295 → p = a ∧ a < A.dc)) (hI : C 0 ≤ 30) (hC : ∀ k, k < 152 → μ 290 k = nI (C k)) (hQ : ∀ μ' : Nat → Nat → Int32, (∀ a, a ≠ 288 → ∀ x, μ' a x = μ a x) → (∀ x, 1280 ≤ x → μ' 288 x = μ 288 x) → fg_ML (μ' 288) (A.dput p C) → Q (some (.int (nI p))) (μ', fg_rho R, 304)) : fg_wp E yy_Mo_text (d + 10) 304 304 Q 211 [.ref 287, .int (nI 1), .int (nI a), v3, v4, v5] [] (μ, fg_rho R, 304) := by
  refine fg_iloadn (fg_ft (pc := 211) tb_Mo_text 120 rfl) rfl ?_
  refine fg_iconst (fg_ft (pc := 212) tb_Mo_text 121 rfl) ic_m1 ?_
  refine fg_icmp_neM (tgt := 225) (fg_ft (pc := 213) tb_Mo_text 122 rfl) (by decide) (ha) (fun c213 => ?_) (fun c213 => ?_)
  · obtain ⟨e2, e3⟩ := hpe.2 c213
    have hcb : A.dc ≤ 3 := by have := hw.2.1; have := hw.2.2.1; omega
    refine fg_iloadn (fg_ft (pc := 225) tb_Mo_text 128 rfl) rfl ?_
    refine fg_istoren (fg_ft (pc := 226) tb_Mo_text 129 rfl) (Nat.le_of_ble_eq_true rfl) ?_
    refine fg_iloadn (fg_ft (pc := 227) tb_Mo_text 130 rfl) rfl ?_
    refine fg_iconst (fg_ft (pc := 228) tb_Mo_text 131 rfl) ic_m1 ?_
    refine fg_icmp_neM (tgt := 242) (fg_ft (pc := 229) tb_Mo_text 132 rfl) (by decide) (ha) (fun c229 => ?_) (fun c229 => (absurd c229 c213))
    exact rz_tx_copy1 (p := a) (by omega) hC (fun ν g1 g2 => fg_q (hQ ν g1 (fun x hx => (g2 x).trans (rz_pu_o (by omega))) (hL.dput9 (p := p) (by omega) (by omega) hw.2.1 hw.2.2.1 hI (fun k hk => (hw.2.2.2.2 k hk).1) ((g2 1).trans ((rz_pu_o (by omega)).trans (hL.1.2.1.trans (by exact congrArg nI (by show A.dc = _; omega))))) (fun x x1 x2 => (g2 x).trans (by rw [e2])))) (by rw [e2]))
  · have e1 : p = A.dc := hpe.1 c213
    have hcb : A.dc ≤ 3 := by have := hw.2.1; have := hw.2.2.1; omega
    have hcp : A.dc < 3 := by omega
    refine fg_aloadn (fg_ft (pc := 216) tb_Mo_text 123 rfl) rfl ?_
    refine fg_getR (fg_ft (pc := 217) tb_Mo_text 124 rfl) ff_Mo_7 ly_287 rfl (fg_lt ly_287 (by decide)) (rh_287_0 R) ?_
    refine fg_iloadn (fg_ft (pc := 220) tb_Mo_text 125 rfl) rfl ?_
    refine fg_ialdV (v := (nI (A.dc))) (fg_ft (pc := 221) tb_Mo_text 126 rfl) ly_288 (fg_lt ly_288 (by decide)) (by omega) hL.1.2.1 ?_
    refine fg_goto (tgt := 226) (fg_ft (pc := 222) tb_Mo_text 127 rfl) (by decide) ?_
    refine fg_istoren (fg_ft (pc := 226) tb_Mo_text 129 rfl) (Nat.le_of_ble_eq_true rfl) ?_
    refine fg_iloadn (fg_ft (pc := 227) tb_Mo_text 130 rfl) rfl ?_
    refine fg_iconst (fg_ft (pc := 228) tb_Mo_text 131 rfl) ic_m1 ?_
    refine fg_icmp_neM (tgt := 242) (fg_ft (pc := 229) tb_Mo_text 132 rfl) (by decide) (ha) (fun c229 => (absurd c213 c229)) (fun c229 => ?_)
    refine fg_aloadn (fg_ft (pc := 232) tb_Mo_text 133 rfl) rfl ?_
    refine fg_getR (fg_ft (pc := 233) tb_Mo_text 134 rfl) ff_Mo_7 ly_287 rfl (fg_lt ly_287 (by decide)) (rh_287_0 R) ?_
    refine fg_iloadn (fg_ft (pc := 236) tb_Mo_text 135 rfl) rfl ?_
    refine fg_dup2 (fg_ft (pc := 237) tb_Mo_text 136 rfl) rfl rfl ?_
    refine fg_ialdV (v := (nI (A.dc))) (fg_ft (pc := 238) tb_Mo_text 137 rfl) ly_288 (fg_lt ly_288 (by decide)) (by omega) hL.1.2.1 ?_
    refine fg_iconst (fg_ft (pc := 239) tb_Mo_text 138 rfl) ic_1 ?_
    refine fg_iaddN (fg_ft (pc := 240) tb_Mo_text 139 rfl) ?_
    refine fg_iastN (fg_ft (pc := 241) tb_Mo_text 140 rfl) ly_288 (fg_lt ly_288 (by decide)) (by omega) ?_
    show fg_wp _ _ _ _ _ _ _ _ _ (fg_u2 μ 288 1 (nI ((A.dc) + 1)), fg_rho R, 304)
    exact rz_tx_copy1 (p := A.dc) (by omega) (fun k hk => (fg_u2ne (by decide)).trans (hC k hk)) (fun ν g1 g2 => fg_q (hQ ν (fun a9 a1 x => (g1 a9 a1 x).trans (fg_u2ne a1)) (fun x hx => (g2 x).trans ((rz_pu_o (by omega)).trans (fg_u2ns (by omega)))) (hL.dput9 (p := p) (by omega) (by omega) hw.2.1 hw.2.2.1 hI (fun k hk => (hw.2.2.2.2 k hk).1) ((g2 1).trans ((rz_pu_o (by omega)).trans (fg_u2eq.trans (by rw [e1]; exact congrArg nI (by omega))))) (fun x x1 x2 => (g2 x).trans (by rw [e1]; exact rz_pu_m (fg_u2ns (by omega)))))) (by rw [e1]))
