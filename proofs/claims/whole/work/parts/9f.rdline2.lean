/-! the class's reader: states of a line -/
def pz_FC (μ : Nat → Nat → Int32) (F Pl : Nat) : Prop := μ 255 2 = nI F ∧ μ 255 3 = pz_pl F Pl
def pz_LX (μ : Nat → Nat → Int32) (b : Nat → Nat) (len j : Nat) : Prop := μ 255 7 = nI (pz_E b len j) ∧ μ 255 8 = nI (pz_tc b len (pz_N b len j)) ∧ μ 255 9 = nI (pz_S b len j) ∧ (pz_K b len j = 1 → μ 255 10 = nI (pz_V b len j))
def pz_ag2 (μ μ' : Nat → Nat → Int32) : Prop := ∀ a j, (a < 255 ∨ 271 < a ∨ (a = 255 ∧ j = 6)) → μ' a j = μ a j
theorem pz_ag2_tr {μ μ' μ'' : Nat → Nat → Int32} (h1 : pz_ag2 μ μ') (h2 : pz_ag2 μ' μ'') : pz_ag2 μ μ'' := fun a j h => (h2 a j h).trans (h1 a j h)
def pz_RX (μ : Nat → Nat → Int32) (sort : Nat) (X : pz_X) : Prop := pz_FC μ X.1 X.2.1 ∧ pz_SH μ ∧ (X.1 < 5 ∧ X.1 ≠ 1) ∧ (X.1 = 0 → pz_CT μ sort X.2.2.1 ∧ μ 255 11 = nI X.2.2.2 ∧ X.2.2.2 < 1024)
def pz_RY (μ : Nat → Nat → Int32) (w i r : Nat) (Y : pz_Y) : Prop := pz_FC μ Y.1 Y.2.1 ∧ pz_SH μ ∧ (Y.1 < 5 ∧ Y.1 ≠ 1) ∧ (Y.1 = 0 → pz_CT μ (pz_so w) Y.2.2.1 ∧ (μ 255 11 = nI Y.2.2.2.1 ∧ Y.2.2.2.1 < 1024) ∧ (μ 255 12 = nI Y.2.2.2.2.1 ∧ Y.2.2.2.2.1 < 1024) ∧ (μ 255 13 = nI Y.2.2.2.2.2 ∧ Y.2.2.2.2.2 < 2 ^ 32) ∧ (pz_op w = true → μ 255 14 = nI r ∧ r < Y.2.2.1 (pz_ci (pz_rt w))) ∧ ((w = 3 ∨ w = 4) → 0 < i → Y.2.2.2.2.2 < Y.2.2.1 2))
def pz_RT (μ : Nat → Nat → Int32) (w i v r s : Nat) (Y : pz_Y) : Prop := pz_FC μ (pz_st w r i v s Y).1 (pz_st w r i v s Y).2.1 ∧ pz_SH μ ∧ ((pz_st w r i v s Y).1 < 5 ∧ (pz_st w r i v s Y).1 ≠ 1) ∧ ((pz_st w r i v s Y).1 = 0 → pz_CT μ (pz_so w) Y.2.2.1 ∧ (μ 255 11 = nI (pz_st w r i v s Y).2.2.2.1 ∧ (pz_st w r i v s Y).2.2.2.1 < 1024) ∧ (μ 255 12 = nI (pz_st w r i v s Y).2.2.2.2.1 ∧ (pz_st w r i v s Y).2.2.2.2.1 < 1024) ∧ (μ 255 13 = nI (pz_f1 i v Y.2.2.2.2.2) ∧ pz_f1 i v Y.2.2.2.2.2 < 2 ^ 32) ∧ (pz_op w = true → μ 255 14 = nI r ∧ r < Y.2.2.1 (pz_ci (pz_rt w))) ∧ pz_kh w i v r (pz_f1 i v Y.2.2.2.2.2) Y.2.2.1 ∧ ((w = 3 ∨ w = 4) → pz_f1 i v Y.2.2.2.2.2 < Y.2.2.1 2))
theorem pz_tf_lt {sg i v n lf fi tf : Nat} (h : pz_ff sg i v n lf fi = 0) (ht : tf < 1024) : pz_tf sg v tf < 1024 := by
  unfold pz_tf
  by_cases c : sg = 102 ∨ sg = 117
  · rw [if_pos c]
    have hv := pz_can_lt c (pz_ff0 h).1
    exact Nat.or_lt_two_pow (n := 10) ht (Nat.pow_lt_pow_right (by decide) hv)
  · rw [if_neg c]; exact ht
/-- how many people the reader holds -/
theorem pz_people {μ : Nat → Nat → Int32} (hS : pz_SH μ) {w : Nat} (hw : w < 17) {C : Nat → Nat} : ∃ n, μ 259 2 = nI n ∧ n ≤ 5 ∧ (pz_CT μ (pz_so w) C → w < 10 → n = C 2) := by
  obtain ⟨-, sz, h1, h2⟩ := hS 1 (by decide)
  have h1' : sz ≤ 5 := h1
  refine ⟨sz, h2, h1', fun hC hd => ?_⟩
  have h3 := (hC.1 (if_pos hd)).2 1 (by decide)
  have h4 : nI sz = nI (C 2) := h2.symm.trans h3.1
  have h5 : C 2 ≤ 5 := h3.2.1
  exact (nI_eq (by omega) (by omega)).mp h4
theorem ev_Reader_test {E : fg_E} {d : Nat} {μ : Nat → Nat → Int32} {R : fg_T4} {Q : Option Value → fg_M → Prop} {w i v r s : Nat} {Y : pz_Y} (hw : w < 17) (hi : i < 2 ^ 30) (hs : pz_sg w i ≠ 32) (hR : pz_RY μ w i r Y) (h9 : μ 255 9 = nI s) (h10 : μ 255 10 = nI v) (hv : v ≤ 99) (hQ : ∀ μ' : Nat → Nat → Int32, (∀ a j, (a ≠ 255 ∨ (j ≠ 2 ∧ j ≠ 3 ∧ j ≠ 11 ∧ j ≠ 12 ∧ j ≠ 13)) → μ' a j = μ a j) → pz_RT μ' w i v r s Y → Q none (μ', fg_rho R, 304)) : fg_Ev E yy_Reader_testNumber (d + 6) [.ref 255, .ref w, .int (nI i)] (μ, fg_rho R, 304) 304 Q := by
  obtain ⟨⟨hF, hP⟩, hS, ⟨hF5, hF1⟩, h0⟩ := hR
  obtain ⟨n, hn, hn5, hnC⟩ := pz_people hS hw (C := Y.2.2.1)
  by_cases c : Y.1 = 0
  · obtain ⟨hC, ⟨h11, g11⟩, ⟨h12, g12⟩, ⟨h13, g13⟩, h14, h34⟩ := h0 c
    have hnn := hnC hC
    have eff : pz_ff (pz_sg w i) i v n Y.2.2.2.2.1 Y.2.2.2.2.2 = pz_ff (pz_sg w i) i v (Y.2.2.1 2) Y.2.2.2.2.1 Y.2.2.2.2.2 := by
      by_cases hd : w < 10
      · rw [hnn hd]
      · exact pz_ff_n hw hd
    have e1 : (pz_st w r i v s Y).1 = pz_ff (pz_sg w i) i v (Y.2.2.1 2) Y.2.2.2.2.1 Y.2.2.2.2.2 := if_pos c
    refine ev_Reader_testNumber0 hw (by omega) h9 h10 hv hn hn5 (by rw [hF, c]) (by rw [hP, c]; rfl) h11 h12 (by omega) h13 g13 (fun μ' hag t2 t3 t13 t1112 => hQ μ' hag ⟨⟨?_, ?_⟩, ?_, ?_, fun hz => ?_⟩)
    · rw [e1, ← eff]; exact t2
    · have e2 : (pz_st w r i v s Y).2.1 = if Y.1 = 0 ∧ pz_ff (pz_sg w i) i v (Y.2.2.1 2) Y.2.2.2.2.1 Y.2.2.2.2.2 ≠ 0 then s else Y.2.1 := rfl
      rw [e1, e2, t3, eff]
      unfold pz_pl
      by_cases z : pz_ff (pz_sg w i) i v (Y.2.2.1 2) Y.2.2.2.2.1 Y.2.2.2.2.2 = 0
      · rw [if_pos z, if_pos z]
      · rw [if_neg z, if_neg z, if_pos ⟨c, z⟩]
    · exact hS.fr (fun a h1 h2 j => hag a j (Or.inl (by omega)))
    · rw [e1]; exact pz_ff_le
    · rw [e1] at hz
      have hz' := eff.trans hz
      obtain ⟨u11, u12⟩ := t1112 hz'
      obtain ⟨k1, k2⟩ := pz_kh_of hw hs hnn (fun ho => (h14 ho).2) h34 hz'
      refine ⟨hC.fr (fun a h1 h2 j => hag a j (Or.inl (by omega))), ⟨u11, pz_tf_lt hz' g11⟩, ⟨u12, pz_tf_lt hz' g12⟩, ⟨t13, ?_⟩, fun ho => ⟨(hag 255 14 (by omega)).trans (h14 ho).1, (h14 ho).2⟩, k1, k2⟩
      unfold pz_f1
      split
      · omega
      · exact g13
  · have e1 : (pz_st w r i v s Y).1 = Y.1 := if_neg c
    have e2 : (pz_st w r i v s Y).2.1 = Y.2.1 := if_neg (fun h => c h.1)
    refine ev_Reader_testNumber1 hw (by omega) h9 h10 hv hn hn5 hF hF5 c (fun μ' hag => hQ μ' (fun a j h => hag a j (by omega)) ⟨⟨?_, ?_⟩, ?_, ?_, fun hz => ?_⟩)
    · rw [e1]; exact (hag 255 2 (by omega)).trans hF
    · rw [e1, e2]; exact (hag 255 3 (by omega)).trans hP
    · exact hS.fr (fun a h1 h2 j => hag a j (Or.inl (by omega)))
    · rw [e1]; exact ⟨hF5, hF1⟩
    · rw [e1] at hz; exact absurd hz c
theorem ev_Reader_keep {E : fg_E} {d : Nat} {μ : Nat → Nat → Int32} {R : fg_T4} {Q : Option Value → fg_M → Prop} {w i v r s : Nat} {Y : pz_Y} (hw : w < 17) (hi : i < 2 ^ 30) (hR : pz_RT μ w i v r s Y) (h10 : μ 255 10 = nI v) (hv : v ≤ 99) (hQ : ∀ μ' : Nat → Nat → Int32, (∀ a j, (a < 256 ∨ 271 < a) → μ' a j = μ a j) → pz_RY μ' w (i + 1) r (pz_st w r i v s Y) → Q none (μ', fg_rho R, 304)) : fg_Ev E yy_Reader_keepNumber (d + 4) [.ref 255, .ref w, .int (nI i)] (μ, fg_rho R, 304) 304 Q := by
  obtain ⟨⟨hF, hP⟩, hS, hF5, h0⟩ := hR
  by_cases c : (pz_st w r i v s Y).1 = 0
  · obtain ⟨hC, ⟨h11, g11⟩, ⟨h12, g12⟩, ⟨h13, g13⟩, h14, hk, h34⟩ := h0 c
    refine ev_Reader_keepNumber hw hi h10 hv hS hC (fun _ _ => h13) (fun ho => (h14 ho).1) hk (fun μ' hag hS' hC' => hQ μ' hag ⟨⟨(hag 255 2 (by decide)).trans hF, (hag 255 3 (by decide)).trans hP⟩, hS', hF5, fun _ => ⟨hC', ⟨(hag 255 11 (by decide)).trans h11, g11⟩, ⟨(hag 255 12 (by decide)).trans h12, g12⟩, ⟨(hag 255 13 (by decide)).trans h13, g13⟩, fun ho => ⟨(hag 255 14 (by decide)).trans (h14 ho).1, ?_⟩, fun h3 _ => ?_⟩⟩)
    · show r < pz_kp w r i v (pz_f1 i v Y.2.2.2.2.2) Y.2.2.1 (pz_ci (pz_rt w))
      rw [pz_kp_ci hw ho]; exact (h14 ho).2
    · show pz_f1 i v Y.2.2.2.2.2 < pz_kp w r i v (pz_f1 i v Y.2.2.2.2.2) Y.2.2.1 2
      rw [pz_kp_lo hw (by decide) (by decide) (by omega)]; exact h34 h3
  · exact ev_Reader_keepNumberA hw hi h10 hv hS (fun μ' hag hS' => hQ μ' hag ⟨⟨(hag 255 2 (by decide)).trans hF, (hag 255 3 (by decide)).trans hP⟩, hS', hF5, fun hz => absurd hz c⟩)
theorem ev_Reader_open {E : fg_E} {d : Nat} {μ : Nat → Nat → Int32} {R : fg_T4} {Q : Option Value → fg_M → Prop} {w s : Nat} {X : pz_X} (hw : w < 17) (hR : pz_RX μ (pz_so w) X) (h9 : μ 255 9 = nI s) (hQ : ∀ μ' : Nat → Nat → Int32, (∀ a j, (a < 255 ∨ 271 < a ∨ (a = 255 ∧ (j = 6 ∨ j = 7 ∨ j = 8 ∨ j = 9 ∨ j = 10))) → μ' a j = μ a j) → pz_RY μ' w 0 (X.2.2.1 (pz_ci (pz_rt w))) (pz_ow w s X) → Q none (μ', fg_rho R, 304)) : fg_Ev E yy_Reader_openRow (d + 5) [.ref 255, .ref w] (μ, fg_rho R, 304) 304 Q := by
  obtain ⟨⟨hF, hP⟩, hS, ⟨hF5, hF1⟩, h0⟩ := hR
  by_cases ho : pz_op w = true
  · obtain ⟨t7, -, -, hso⟩ := pz_opc hw ho
    obtain ⟨hw0, sz, hsz, hs2⟩ := hS _ t7
    obtain ⟨r1, r2, r3, r4, r5, r6, r7, r8, r9⟩ := pz_r7 _ t7
    have hcn : X.1 = 0 → sz = X.2.2.1 (pz_ci (pz_rt w)) := fun c => by
      have h3 := (h0 c).1.rw t7 hso
      have h4 := h3.2.1
      exact (nI_eq (by omega) (by omega)).mp (hs2.symm.trans h3.1)
    have eow : pz_ow w s X = if X.2.2.1 (pz_ci (pz_rt w)) < pz_mx (pz_rt w) then (X.1, X.2.1, pz_ad w X.2.2.1, X.2.2.2, 0, 4294967295) else (if X.1 = 0 then 3 else X.1, if X.1 = 0 then s else X.2.1, X.2.2.1, X.2.2.2, 0, 4294967295) := if_pos ho
    have eF : X.1 ≠ 0 → (pz_ow w s X).1 = X.1 ∧ (pz_ow w s X).2.1 = X.2.1 := fun c => by
      rw [eow]
      by_cases q : X.2.2.1 (pz_ci (pz_rt w)) < pz_mx (pz_rt w)
      · rw [if_pos q]; exact ⟨rfl, rfl⟩
      · rw [if_neg q, if_neg c, if_neg c]; exact ⟨rfl, rfl⟩
    refine ev_Reader_openRow hw ho h9 hF hF5 hw0 hs2 hsz (fun hroom μ' hag q2 hnew hold q14 q12 q13 => hQ μ' (fun a j h => hag a j (by omega) (Or.inl (by omega)) (by omega)) ?_) (fun hroom μ' hag g0 g1 => hQ μ' (fun a j h => hag a j (by omega)) ?_)
    · have f2 : μ' 255 2 = μ 255 2 := hag 255 2 (by omega) (Or.inl (by omega)) (by omega)
      have f3 : μ' 255 3 = μ 255 3 := hag 255 3 (by omega) (Or.inl (by omega)) (by omega)
      have hS' : pz_SH μ' := fun u hu => by
        obtain ⟨k1, ku, k2, k3⟩ := hS u hu
        have rr := pz_rr u hu _ t7
        rcases Nat.decEq u (pz_rt w) with e | e
        · exact ⟨(hag _ 0 rr.1 (Or.inr (by decide)) (Or.inl (by have := pz_r7 u hu; omega))).trans k1, ku, k2, (hag _ 2 rr.1 (Or.inl (rr.2 e).1) (Or.inl (by have := pz_r7 u hu; omega))).trans k3⟩
        · subst e
          exact ⟨(hag _ 0 rr.1 (Or.inr (by decide)) (Or.inl (by omega))).trans k1, sz + 1, hroom, q2⟩
      by_cases c : X.1 = 0
      · have es := hcn c
        have hlt : X.2.2.1 (pz_ci (pz_rt w)) < pz_mx (pz_rt w) := by rw [← es]; exact hroom
        rw [eow, if_pos hlt]
        refine ⟨⟨f2.trans hF, f3.trans hP⟩, hS', ⟨hF5, hF1⟩, fun _ => ⟨?_, ⟨(hag 255 11 (by omega) (Or.inl (by omega)) (by omega)).trans (h0 c).2.1, (h0 c).2.2⟩, ⟨q12, show 0 < 1024 by decide⟩, ⟨q13, show 4294967295 < 2 ^ 32 by decide⟩, fun _ => ⟨by rw [← es]; exact q14, ?_⟩, fun _ h => absurd h (by decide)⟩⟩
        · rw [es] at q2 hnew hold
          have hC := (h0 c).1
          have hm : ∀ a, 256 ≤ a → a ≤ 271 → ∀ i, a ≠ pz_rc (pz_rt w) → (a ≠ pz_ro (pz_rt w) ∨ i ≠ 2) → μ' a i = μ a i := fun a a1 a2 i h1 h2 => hag a i h1 h2 (Or.inl (by omega))
          -- a memory that agrees everywhere
          have key := pz_CT.add (μ := μ) (μ' := fun a i => if 256 ≤ a ∧ a ≤ 271 then μ' a i else μ a i) t7 hso hC hlt (fun b i h1 h2 => by
            show (if 256 ≤ b ∧ b ≤ 271 then μ' b i else μ b i) = μ b i
            by_cases g : 256 ≤ b ∧ b ≤ 271
            · rw [if_pos g]; exact hm b g.1 g.2 i h1 h2
            · rw [if_neg g]) ((if_pos ⟨by omega, by omega⟩).trans q2) (fun i h => (if_pos ⟨by omega, by omega⟩).trans (hnew i h)) (fun i h => (if_pos ⟨by omega, by omega⟩).trans (hold i h))
          exact key.fr (fun a a1 a2 j => (if_pos ⟨a1, a2⟩).symm)
        · show X.2.2.1 (pz_ci (pz_rt w)) < pz_ad w X.2.2.1 (pz_ci (pz_rt w))
          rw [pz_ad_c]; exact Nat.lt_succ_self _
      · obtain ⟨a1, a2⟩ := eF c
        exact ⟨⟨by rw [a1]; exact f2.trans hF, by rw [a1, a2]; exact f3.trans hP⟩, hS', by rw [a1]; exact ⟨hF5, hF1⟩, fun hz => absurd (a1.symm.trans hz) c⟩
    · have hS' : pz_SH μ' := hS.fr (fun a h1 h2 j => hag a j (Or.inl (by omega)))
      by_cases c : X.1 = 0
      · have es := hcn c
        have hlt : ¬ X.2.2.1 (pz_ci (pz_rt w)) < pz_mx (pz_rt w) := by rw [← es]; exact hroom
        obtain ⟨b2, b3⟩ := g0 c
        rw [eow, if_neg hlt, if_pos c, if_pos c]
        exact ⟨⟨b2, b3⟩, hS', ⟨show 3 < 5 by decide, show 3 ≠ 1 by decide⟩, fun hz => absurd hz (by show ¬ 3 = 0; decide)⟩
      · obtain ⟨a1, a2⟩ := eF c
        obtain ⟨b2, b3⟩ := g1 c
        exact ⟨⟨by rw [a1]; exact b2.trans hF, by rw [a1, a2]; exact b3.trans hP⟩, hS', by rw [a1]; exact ⟨hF5, hF1⟩, fun hz => absurd (a1.symm.trans hz) c⟩
  · have eow : pz_ow w s X = (X.1, X.2.1, X.2.2.1, X.2.2.2, 0, 4294967295) := if_neg ho
    refine ev_Reader_openRowN hw ho (fun μ' hag q12 q13 => hQ μ' (fun a j h => hag a j (by omega)) ?_)
    rw [eow]
    exact ⟨⟨(hag 255 2 (by omega)).trans hF, (hag 255 3 (by omega)).trans hP⟩, hS.fr (fun a h1 h2 j => hag a j (Or.inl (by omega))), ⟨hF5, hF1⟩, fun c => ⟨(h0 c).1.fr (fun a h1 h2 j => hag a j (Or.inl (by omega))), ⟨(hag 255 11 (by omega)).trans (h0 c).2.1, (h0 c).2.2⟩, ⟨q12, show 0 < 1024 by decide⟩, ⟨q13, show 4294967295 < 2 ^ 32 by decide⟩, fun h => absurd h ho, fun _ h => absurd h (by decide)⟩⟩
