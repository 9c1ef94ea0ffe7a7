/-! the class's reader: a line -/
theorem pz_sgv_0 (i : Nat) : (i = 0 → pz_sg 0 i = 99) ∧ (1 ≤ i → pz_sg 0 i = 32) := ⟨(fun h => by rw [h]; rfl), (fun h => by unfold pz_sg; rw [if_neg (show ¬ i < (pz_ns 0).length from by show ¬ i < 1; omega), if_neg (by decide)])⟩
theorem pz_sgv_1 (i : Nat) : (i = 0 → pz_sg 1 i = 117) ∧ (1 ≤ i → pz_sg 1 i = 117) := ⟨(fun h => by rw [h]; rfl), (fun h => by
    rcases Nat.eq_or_lt_of_le h with q | q
    · rw [← q]; rfl
    · unfold pz_sg; rw [if_neg (show ¬ i < (pz_ns 1).length from by show ¬ i < 2; omega), if_pos (by decide)]; rfl)⟩
theorem pz_sgv_2 (i : Nat) : (i = 0 → pz_sg 2 i = 110) ∧ (1 ≤ i → pz_sg 2 i = 32) := ⟨(fun h => by rw [h]; rfl), (fun h => by unfold pz_sg; rw [if_neg (show ¬ i < (pz_ns 2).length from by show ¬ i < 1; omega), if_neg (by decide)])⟩
theorem pz_sgv_3 (i : Nat) : (i = 0 → pz_sg 3 i = 112) ∧ (1 ≤ i → pz_sg 3 i = 102) := ⟨(fun h => by rw [h]; rfl), (fun h => by
    rcases Nat.eq_or_lt_of_le h with q | q
    · rw [← q]; rfl
    · unfold pz_sg; rw [if_neg (show ¬ i < (pz_ns 3).length from by show ¬ i < 2; omega), if_pos (by decide)]; rfl)⟩
theorem pz_sgv_4 (i : Nat) : (i = 0 → pz_sg 4 i = 112) ∧ (1 ≤ i → pz_sg 4 i = 104) := ⟨(fun h => by rw [h]; rfl), (fun h => by
    rcases Nat.eq_or_lt_of_le h with q | q
    · rw [← q]; rfl
    · unfold pz_sg; rw [if_neg (show ¬ i < (pz_ns 4).length from by show ¬ i < 2; omega), if_pos (by decide)]; rfl)⟩
theorem pz_sgv_5 (i : Nat) : (i = 0 → pz_sg 5 i = 104) ∧ (i = 1 → pz_sg 5 i = 102) ∧ (2 ≤ i → pz_sg 5 i = 32) := ⟨(fun h => by rw [h]; rfl), (fun h => by rw [h]; rfl), (fun h => by unfold pz_sg; rw [if_neg (show ¬ i < (pz_ns 5).length from by show ¬ i < 2; omega), if_neg (by decide)])⟩
theorem pz_sgv_6 (i : Nat) : (i = 0 → pz_sg 6 i = 112) ∧ (i = 1 → pz_sg 6 i = 111) ∧ (i = 2 → pz_sg 6 i = 104) ∧ (i = 3 → pz_sg 6 i = 102) ∧ (4 ≤ i → pz_sg 6 i = 32) := ⟨(fun h => by rw [h]; rfl), (fun h => by rw [h]; rfl), (fun h => by rw [h]; rfl), (fun h => by rw [h]; rfl), (fun h => by unfold pz_sg; rw [if_neg (show ¬ i < (pz_ns 6).length from by show ¬ i < 4; omega), if_neg (by decide)])⟩
theorem pz_sgv_7 (i : Nat) : (i = 0 → pz_sg 7 i = 110) ∧ (1 ≤ i → pz_sg 7 i = 117) := ⟨(fun h => by rw [h]; rfl), (fun h => by
    rcases Nat.eq_or_lt_of_le h with q | q
    · rw [← q]; rfl
    · unfold pz_sg; rw [if_neg (show ¬ i < (pz_ns 7).length from by show ¬ i < 2; omega), if_pos (by decide)]; rfl)⟩
theorem pz_sgv_8 (i : Nat) : (i = 0 → pz_sg 8 i = 110) ∧ (1 ≤ i → pz_sg 8 i = 117) := ⟨(fun h => by rw [h]; rfl), (fun h => by
    rcases Nat.eq_or_lt_of_le h with q | q
    · rw [← q]; rfl
    · unfold pz_sg; rw [if_neg (show ¬ i < (pz_ns 8).length from by show ¬ i < 2; omega), if_pos (by decide)]; rfl)⟩
theorem pz_sgv_9 (i : Nat) : (i = 0 → pz_sg 9 i = 110) ∧ (1 ≤ i → pz_sg 9 i = 32) := ⟨(fun h => by rw [h]; rfl), (fun h => by unfold pz_sg; rw [if_neg (show ¬ i < (pz_ns 9).length from by show ¬ i < 1; omega), if_neg (by decide)])⟩
theorem pz_sgv_10 (i : Nat) : (i = 0 → pz_sg 10 i = 119) ∧ (i = 1 → pz_sg 10 i = 102) ∧ (2 ≤ i → pz_sg 10 i = 32) := ⟨(fun h => by rw [h]; rfl), (fun h => by rw [h]; rfl), (fun h => by unfold pz_sg; rw [if_neg (show ¬ i < (pz_ns 10).length from by show ¬ i < 2; omega), if_neg (by decide)])⟩
theorem pz_sgv_11 (i : Nat) : (i = 0 → pz_sg 11 i = 119) ∧ (i = 1 → pz_sg 11 i = 102) ∧ (2 ≤ i → pz_sg 11 i = 32) := ⟨(fun h => by rw [h]; rfl), (fun h => by rw [h]; rfl), (fun h => by unfold pz_sg; rw [if_neg (show ¬ i < (pz_ns 11).length from by show ¬ i < 2; omega), if_neg (by decide)])⟩
theorem pz_sgv_12 (i : Nat) : (i = 0 → pz_sg 12 i = 119) ∧ (i = 1 → pz_sg 12 i = 102) ∧ (2 ≤ i → pz_sg 12 i = 32) := ⟨(fun h => by rw [h]; rfl), (fun h => by rw [h]; rfl), (fun h => by unfold pz_sg; rw [if_neg (show ¬ i < (pz_ns 12).length from by show ¬ i < 2; omega), if_neg (by decide)])⟩
theorem pz_sgv_13 (i : Nat) : (i = 0 → pz_sg 13 i = 119) ∧ (i = 1 → pz_sg 13 i = 102) ∧ (2 ≤ i → pz_sg 13 i = 32) := ⟨(fun h => by rw [h]; rfl), (fun h => by rw [h]; rfl), (fun h => by unfold pz_sg; rw [if_neg (show ¬ i < (pz_ns 13).length from by show ¬ i < 2; omega), if_neg (by decide)])⟩
theorem pz_sgv_14 (i : Nat) : (i = 0 → pz_sg 14 i = 119) ∧ (i = 1 → pz_sg 14 i = 102) ∧ (2 ≤ i → pz_sg 14 i = 32) := ⟨(fun h => by rw [h]; rfl), (fun h => by rw [h]; rfl), (fun h => by unfold pz_sg; rw [if_neg (show ¬ i < (pz_ns 14).length from by show ¬ i < 2; omega), if_neg (by decide)])⟩
theorem pz_sgv_15 (i : Nat) : (i = 0 → pz_sg 15 i = 119) ∧ (i = 1 → pz_sg 15 i = 120) ∧ (i = 2 → pz_sg 15 i = 102) ∧ (3 ≤ i → pz_sg 15 i = 32) := ⟨(fun h => by rw [h]; rfl), (fun h => by rw [h]; rfl), (fun h => by rw [h]; rfl), (fun h => by unfold pz_sg; rw [if_neg (show ¬ i < (pz_ns 15).length from by show ¬ i < 3; omega), if_neg (by decide)])⟩
theorem pz_sgv_16 (i : Nat) : (0 ≤ i → pz_sg 16 i = 32) := (fun h => by unfold pz_sg; rw [if_neg (show ¬ i < (pz_ns 16).length from by show ¬ i < 0; omega), if_neg (by decide)])
def pz_kh (w i v r fi : Nat) (C : Nat → Nat) : Prop := (w = 0 → 1 ≤ v ∧ v ≤ 10) ∧ ((w = 3 ∨ w = 4) → 0 < i → fi < C 2 ∧ v < 10) ∧ (pz_op w = true → r < C (pz_ci (pz_rt w))) ∧ (pz_mo w = 1 → 0 < i → v < 10) ∧ (pz_mo w = 0 → i < (pz_ns w).length)
theorem pz_sg32 {w i : Nat} (h : pz_mo w = 0) (hs : pz_sg w i ≠ 32) : i < (pz_ns w).length := by
  rcases Nat.lt_or_ge i (pz_ns w).length with q | q
  · exact q
  · exfalso; apply hs; unfold pz_sg; rw [if_neg (by omega), if_neg (fun hh => by omega)]
theorem pz_ff0 {sg i v n lf fi : Nat} (h : pz_ff sg i v n lf fi = 0) : pz_can sg v n lf fi ∧ ¬ (sg = 117 ∧ 3 < i) := by
  unfold pz_ff at h
  by_cases c : pz_can sg v n lf fi
  · rw [fg_ifT c] at h
    refine ⟨c, fun hh => ?_⟩
    rw [if_pos hh] at h; exact absurd h (by decide)
  · rw [fg_ifF c] at h; exact absurd h (by decide)
theorem pz_ff_le {sg i v n lf fi : Nat} : pz_ff sg i v n lf fi < 5 ∧ pz_ff sg i v n lf fi ≠ 1 := by
  unfold pz_ff
  by_cases c : pz_can sg v n lf fi
  · rw [fg_ifT c]; split <;> decide
  · rw [fg_ifF c]; decide
theorem pz_kh_of {w i v r n lf fi : Nat} {C : Nat → Nat} (hw : w < 17) (hs : pz_sg w i ≠ 32) (hn : w < 10 → n = C 2) (hr : pz_op w = true → r < C (pz_ci (pz_rt w))) (hf : (w = 3 ∨ w = 4) → 0 < i → fi < C 2) (h : pz_ff (pz_sg w i) i v n lf fi = 0) : pz_kh w i v r (pz_f1 i v fi) C ∧ ((w = 3 ∨ w = 4) → pz_f1 i v fi < C 2) := by
  obtain ⟨h1, h2⟩ := pz_ff0 h
  have e1 : ∀ {k}, 0 < k → k = i → pz_f1 i v fi = fi := fun hk he => if_neg (by omega)
  refine ⟨⟨fun h0 => ?_, fun h3 hi => ⟨?_, ?_⟩, hr, fun hm hi => ?_, fun hm => pz_sg32 hm hs⟩, fun h3 => ?_⟩
  · subst h0
    have hi0 : i = 0 := by
      have := pz_sg32 (w := 0) rfl hs
      have g : i < 1 := this
      omega
    rw [(pz_sgv_0 i).1 hi0] at h1
    exact h1
  · rw [e1 hi rfl]; exact hf h3 hi
  · rcases h3 with rfl | rfl
    · rw [(pz_sgv_3 i).2 hi] at h1; exact h1
    · rw [(pz_sgv_4 i).2 hi] at h1
      have h9 : 1 ≤ v ∧ v ≤ 9 := h1
      omega
  · rcases (show w = 1 ∨ w = 3 ∨ w = 4 ∨ w = 7 ∨ w = 8 ∨ (w ≠ 1 ∧ w ≠ 3 ∧ w ≠ 4 ∧ w ≠ 7 ∧ w ≠ 8) by omega) with rfl | rfl | rfl | rfl | rfl | g
    · rw [(pz_sgv_1 i).2 hi] at h1
      have h9 : v < 10 ∧ ¬ lf.testBit v = true := h1
      exact h9.1
    · rw [(pz_sgv_3 i).2 hi] at h1; exact h1
    · rw [(pz_sgv_4 i).2 hi] at h1
      have h9 : 1 ≤ v ∧ v ≤ 9 := h1
      omega
    · rw [(pz_sgv_7 i).2 hi] at h1
      have h9 : v < 10 ∧ ¬ lf.testBit v = true := h1
      exact h9.1
    · rw [(pz_sgv_8 i).2 hi] at h1
      have h9 : v < 10 ∧ ¬ lf.testBit v = true := h1
      exact h9.1
    · exfalso
      have : pz_mo w = 0 := by
        rcases (show w = 0 ∨ w = 1 ∨ w = 2 ∨ w = 3 ∨ w = 4 ∨ w = 5 ∨ w = 6 ∨ w = 7 ∨ w = 8 ∨ w = 9 ∨ w = 10 ∨ w = 11 ∨ w = 12 ∨ w = 13 ∨ w = 14 ∨ w = 15 ∨ w = 16 by omega) with rfl | rfl | rfl | rfl | rfl | rfl | rfl | rfl | rfl | rfl | rfl | rfl | rfl | rfl | rfl | rfl | rfl <;> first | rfl | omega
      omega
  · rcases Nat.eq_zero_or_pos i with q | q
    · have e2 : pz_f1 i v fi = v := if_pos q
      rw [e2]
      rcases h3 with rfl | rfl
      · rw [(pz_sgv_3 i).1 q, hn (by decide)] at h1; exact h1
      · rw [(pz_sgv_4 i).1 q, hn (by decide)] at h1; exact h1
    · rw [e1 q rfl]; exact hf h3 q
theorem pz_can_n {w i v n m lf fi : Nat} (hw : w < 17) (h10 : ¬ w < 10) : pz_can (pz_sg w i) v n lf fi = pz_can (pz_sg w i) v m lf fi := by
  have g : pz_sg w i ≠ 112 ∧ pz_sg w i ≠ 111 := by
    rcases (show w = 15 ∨ w = 16 ∨ (10 ≤ w ∧ w ≤ 14) by omega) with rfl | rfl | q
    · have a := pz_sgv_15 i
      rcases (show i = 0 ∨ i = 1 ∨ i = 2 ∨ 3 ≤ i by omega) with q | q | q | q
      · rw [a.1 q]; decide
      · rw [a.2.1 q]; decide
      · rw [a.2.2.1 q]; decide
      · rw [a.2.2.2 q]; decide
    · rw [pz_sgv_16 i (Nat.zero_le _)]; decide
    · have key : (i = 0 → pz_sg w i = 119) ∧ (i = 1 → pz_sg w i = 102) ∧ (2 ≤ i → pz_sg w i = 32) := by
        rcases (show w = 10 ∨ w = 11 ∨ w = 12 ∨ w = 13 ∨ w = 14 by omega) with rfl | rfl | rfl | rfl | rfl
        · exact pz_sgv_10 i
        · exact pz_sgv_11 i
        · exact pz_sgv_12 i
        · exact pz_sgv_13 i
        · exact pz_sgv_14 i
      rcases (show i = 0 ∨ i = 1 ∨ 2 ≤ i by omega) with q | q | q
      · rw [key.1 q]; decide
      · rw [key.2.1 q]; decide
      · rw [key.2.2 q]; decide
  unfold pz_can
  rw [if_neg g.1, if_neg g.2, if_neg g.1, if_neg g.2]
theorem pz_ff_n {w i v n m lf fi : Nat} (hw : w < 17) (h10 : ¬ w < 10) : pz_ff (pz_sg w i) i v n lf fi = pz_ff (pz_sg w i) i v m lf fi := by
  unfold pz_ff; rw [pz_can_n (m := m) hw h10]
theorem pz_kp_lo {w r i v fi k : Nat} {C : Nat → Nat} (hw : w < 17) (hk : k ≠ 0) (hk7 : k < 7) (hd : w < 10) : pz_kp w r i v fi C k = C k := by
  have hb : 8 ≤ pz_bs (pz_rt w) ∨ w = 0 ∨ w = 9 := by
    rcases (show w = 0 ∨ w = 1 ∨ w = 2 ∨ w = 3 ∨ w = 4 ∨ w = 5 ∨ w = 6 ∨ w = 7 ∨ w = 8 ∨ w = 9 ∨ w = 10 ∨ w = 11 ∨ w = 12 ∨ w = 13 ∨ w = 14 ∨ w = 15 ∨ w = 16 by omega) with rfl | rfl | rfl | rfl | rfl | rfl | rfl | rfl | rfl | rfl | rfl | rfl | rfl | rfl | rfl | rfl | rfl <;> first | exact Or.inl (by decide) | exact Or.inr (Or.inl rfl) | exact Or.inr (Or.inr rfl) | exact absurd hd (by decide)
  unfold pz_kp
  by_cases a : w = 0
  · rw [if_pos a]; exact pz_up_ne hk
  rw [if_neg a]
  by_cases a9 : w = 9
  · rw [if_pos a9]; exact pz_up_ne (by omega)
  rw [if_neg a9]
  by_cases a3 : w = 3 ∨ w = 4
  · rw [if_pos a3]
    by_cases hi : 0 < i
    · rw [if_pos hi]; exact pz_up_ne (by show k ≠ 40 + _; omega)
    · rw [if_neg hi]
  rw [if_neg a3, if_neg (by omega)]
  by_cases hm : pz_mo w = 1 ∧ 0 < i
  · rw [if_pos hm]; exact pz_up_ne (by omega)
  · rw [if_neg hm]; exact pz_up_ne (by omega)
theorem pz_kp_day {w r i v fi : Nat} {C : Nat → Nat} (hd : ¬ w < 10) : pz_kp w r i v fi C 0 = C 0 := by
  unfold pz_kp
  rw [if_neg (by omega), if_neg (by omega), if_neg (by omega), if_pos (by omega)]
  exact pz_up_ne (by show 0 ≠ 1 + _; omega)
theorem pz_opc {w : Nat} (hw : w < 17) (h : pz_op w = true) : pz_rt w < 7 ∧ (w < 10 → 1 ≤ pz_ci (pz_rt w) ∧ pz_ci (pz_rt w) ≤ 6) ∧ (¬ w < 10 → pz_ci (pz_rt w) = 0) ∧ pz_so w = if pz_rt w < 6 then 0 else 1 := by
  revert h
  rcases (show w = 0 ∨ w = 1 ∨ w = 2 ∨ w = 3 ∨ w = 4 ∨ w = 5 ∨ w = 6 ∨ w = 7 ∨ w = 8 ∨ w = 9 ∨ w = 10 ∨ w = 11 ∨ w = 12 ∨ w = 13 ∨ w = 14 ∨ w = 15 ∨ w = 16 by omega) with rfl | rfl | rfl | rfl | rfl | rfl | rfl | rfl | rfl | rfl | rfl | rfl | rfl | rfl | rfl | rfl | rfl <;> decide
theorem pz_kp_ci {w r i v fi : Nat} {C : Nat → Nat} (hw : w < 17) (h : pz_op w = true) : pz_kp w r i v fi C (pz_ci (pz_rt w)) = C (pz_ci (pz_rt w)) := by
  obtain ⟨h1, h2, h3, -⟩ := pz_opc hw h
  by_cases hd : w < 10
  · exact pz_kp_lo hw (by have := h2 hd; omega) (by have := h2 hd; omega) hd
  · rw [h3 hd]; exact pz_kp_day hd
theorem ev_Reader_keepNumber {E : fg_E} {d : Nat} {μ : Nat → Nat → Int32} {R : fg_T4} {Q : Option Value → fg_M → Prop} {w i v r fi : Nat} {C : Nat → Nat} (hw : w < 17) (hi : i < 2 ^ 30) (h10 : μ 255 10 = nI v) (hv : v ≤ 99) (hSH : pz_SH μ) (hC : pz_CT μ (pz_so w) C) (h13 : (w = 3 ∨ w = 4) → 0 < i → μ 255 13 = nI fi) (h14 : pz_op w = true → μ 255 14 = nI r) (hk : pz_kh w i v r fi C) (hQ : ∀ μ' : Nat → Nat → Int32, (∀ a j, (a < 256 ∨ 271 < a) → μ' a j = μ a j) → pz_SH μ' → pz_CT μ' (pz_so w) (pz_kp w r i v fi C) → Q none (μ', fg_rho R, 304)) : fg_Ev E yy_Reader_keepNumber (d + 4) [.ref 255, .ref w, .int (nI i)] (μ, fg_rho R, 304) 304 Q := by
  rcases (show w = 0 ∨ w = 1 ∨ w = 2 ∨ w = 3 ∨ w = 4 ∨ w = 5 ∨ w = 6 ∨ w = 7 ∨ w = 8 ∨ w = 9 ∨ w = 10 ∨ w = 11 ∨ w = 12 ∨ w = 13 ∨ w = 14 ∨ w = 15 ∨ w = 16 by omega) with rfl | rfl | rfl | rfl | rfl | rfl | rfl | rfl | rfl | rfl | rfl | rfl | rfl | rfl | rfl | rfl | rfl
  · exact ev_Reader_keepNumber_0 (r := r) (fi := fi) hi h10 hv hSH hC (hk.1 rfl) hQ
  · exact ev_Reader_keepNumber_1 (r := r) (fi := fi) hi h10 hv hSH hC (h14 rfl) (hk.2.2.1 rfl) (hk.2.2.2.1 rfl) hQ
  · exact ev_Reader_keepNumber_2 (r := r) (fi := fi) hi h10 hv hSH hC (h14 rfl) (hk.2.2.1 rfl) (hk.2.2.2.2 rfl) hQ
  · exact ev_Reader_keepNumber_3 (r := r) (fi := fi) hi h10 hv hSH hC (h13 (by decide)) (fun q => (hk.2.1 (by decide) q).1) (fun q => (hk.2.1 (by decide) q).2) hQ
  · exact ev_Reader_keepNumber_4 (r := r) (fi := fi) hi h10 hv hSH hC (h13 (by decide)) (fun q => (hk.2.1 (by decide) q).1) (fun q => (hk.2.1 (by decide) q).2) hQ
  · exact ev_Reader_keepNumber_5 (r := r) (fi := fi) hi h10 hv hSH hC (h14 rfl) (hk.2.2.1 rfl) (hk.2.2.2.2 rfl) hQ
  · exact ev_Reader_keepNumber_6 (r := r) (fi := fi) hi h10 hv hSH hC (h14 rfl) (hk.2.2.1 rfl) (hk.2.2.2.2 rfl) hQ
  · exact ev_Reader_keepNumber_7 (r := r) (fi := fi) hi h10 hv hSH hC (h14 rfl) (hk.2.2.1 rfl) (hk.2.2.2.1 rfl) hQ
  · exact ev_Reader_keepNumber_8 (r := r) (fi := fi) hi h10 hv hSH hC (h14 rfl) (hk.2.2.1 rfl) (hk.2.2.2.1 rfl) hQ
  · exact ev_Reader_keepNumber_9 (r := r) (fi := fi) hi h10 hv hSH hC hQ
  · exact ev_Reader_keepNumber_10 (r := r) (fi := fi) hi h10 hv hSH hC (h14 rfl) (hk.2.2.1 rfl) (hk.2.2.2.2 rfl) hQ
  · exact ev_Reader_keepNumber_11 (r := r) (fi := fi) hi h10 hv hSH hC (h14 rfl) (hk.2.2.1 rfl) (hk.2.2.2.2 rfl) hQ
  · exact ev_Reader_keepNumber_12 (r := r) (fi := fi) hi h10 hv hSH hC (h14 rfl) (hk.2.2.1 rfl) (hk.2.2.2.2 rfl) hQ
  · exact ev_Reader_keepNumber_13 (r := r) (fi := fi) hi h10 hv hSH hC (h14 rfl) (hk.2.2.1 rfl) (hk.2.2.2.2 rfl) hQ
  · exact ev_Reader_keepNumber_14 (r := r) (fi := fi) hi h10 hv hSH hC (h14 rfl) (hk.2.2.1 rfl) (hk.2.2.2.2 rfl) hQ
  · exact ev_Reader_keepNumber_15 (r := r) (fi := fi) hi h10 hv hSH hC (h14 rfl) (hk.2.2.1 rfl) (hk.2.2.2.2 rfl) hQ
  · exact ev_Reader_keepNumber_16 (r := r) (fi := fi) hi h10 hv hSH hC (h14 rfl) (hk.2.2.1 rfl) (hk.2.2.2.2 rfl) hQ
theorem ev_Reader_keepNumberA {E : fg_E} {d : Nat} {μ : Nat → Nat → Int32} {R : fg_T4} {Q : Option Value → fg_M → Prop} {w i v : Nat} (hw : w < 17) (hi : i < 2 ^ 30) (h10 : μ 255 10 = nI v) (hv : v ≤ 99) (hSH : pz_SH μ) (hQ : ∀ μ' : Nat → Nat → Int32, (∀ a j, (a < 256 ∨ 271 < a) → μ' a j = μ a j) → pz_SH μ' → Q none (μ', fg_rho R, 304)) : fg_Ev E yy_Reader_keepNumber (d + 4) [.ref 255, .ref w, .int (nI i)] (μ, fg_rho R, 304) 304 Q := by
  rcases (show w = 0 ∨ w = 1 ∨ w = 2 ∨ w = 3 ∨ w = 4 ∨ w = 5 ∨ w = 6 ∨ w = 7 ∨ w = 8 ∨ w = 9 ∨ w = 10 ∨ w = 11 ∨ w = 12 ∨ w = 13 ∨ w = 14 ∨ w = 15 ∨ w = 16 by omega) with rfl | rfl | rfl | rfl | rfl | rfl | rfl | rfl | rfl | rfl | rfl | rfl | rfl | rfl | rfl | rfl | rfl
  · exact ev_Reader_keepNumberA_0 hi h10 hv hSH hQ
  · exact ev_Reader_keepNumberA_1 hi h10 hv hSH hQ
  · exact ev_Reader_keepNumberA_2 hi h10 hv hSH hQ
  · exact ev_Reader_keepNumberA_3 hi h10 hv hSH hQ
  · exact ev_Reader_keepNumberA_4 hi h10 hv hSH hQ
  · exact ev_Reader_keepNumberA_5 hi h10 hv hSH hQ
  · exact ev_Reader_keepNumberA_6 hi h10 hv hSH hQ
  · exact ev_Reader_keepNumberA_7 hi h10 hv hSH hQ
  · exact ev_Reader_keepNumberA_8 hi h10 hv hSH hQ
  · exact ev_Reader_keepNumberA_9 hi h10 hv hSH hQ
  · exact ev_Reader_keepNumberA_10 hi h10 hv hSH hQ
  · exact ev_Reader_keepNumberA_11 hi h10 hv hSH hQ
  · exact ev_Reader_keepNumberA_12 hi h10 hv hSH hQ
  · exact ev_Reader_keepNumberA_13 hi h10 hv hSH hQ
  · exact ev_Reader_keepNumberA_14 hi h10 hv hSH hQ
  · exact ev_Reader_keepNumberA_15 hi h10 hv hSH hQ
  · exact ev_Reader_keepNumberA_16 hi h10 hv hSH hQ
theorem ev_Reader_openRow {E : fg_E} {d : Nat} {μ : Nat → Nat → Int32} {R : fg_T4} {Q : Option Value → fg_M → Prop} {w sz F s : Nat} (hw : w < 17) (hop : pz_op w = true) (h9 : μ 255 9 = nI s) (hF : μ 255 2 = nI F) (hF5 : F < 5) (hw0 : μ (pz_ro (pz_rt w)) 0 = nI (pz_wi (pz_rt w))) (hs2 : μ (pz_ro (pz_rt w)) 2 = nI sz) (hsz : sz ≤ pz_mx (pz_rt w)) (hR : sz < pz_mx (pz_rt w) → ∀ μ' : Nat → Nat → Int32, (∀ a j, a ≠ pz_rc (pz_rt w) → (a ≠ pz_ro (pz_rt w) ∨ j ≠ 2) → (a ≠ 255 ∨ (j ≠ 12 ∧ j ≠ 13 ∧ j ≠ 14)) → μ' a j = μ a j) → μ' (pz_ro (pz_rt w)) 2 = nI (sz + 1) → (∀ i, i < pz_wi (pz_rt w) → μ' (pz_rc (pz_rt w)) (sz * pz_wi (pz_rt w) + i) = nI (if w < 10 then 0 else if i = 0 then w - 10 else 4294967295)) → (∀ i, i < sz * pz_wi (pz_rt w) → μ' (pz_rc (pz_rt w)) i = μ (pz_rc (pz_rt w)) i) → μ' 255 14 = nI sz → μ' 255 12 = nI 0 → μ' 255 13 = -1 → Q none (μ', fg_rho R, 304)) (hN : ¬ sz < pz_mx (pz_rt w) → ∀ μ' : Nat → Nat → Int32, (∀ a j, (a ≠ 255 ∨ (j ≠ 2 ∧ j ≠ 3 ∧ j ≠ 12 ∧ j ≠ 13 ∧ j ≠ 14)) → μ' a j = μ a j) → (F = 0 → μ' 255 2 = nI 3 ∧ μ' 255 3 = nI s) → (¬ F = 0 → μ' 255 2 = μ 255 2 ∧ μ' 255 3 = μ 255 3) → Q none (μ', fg_rho R, 304)) : fg_Ev E yy_Reader_openRow (d + 5) [.ref 255, .ref w] (μ, fg_rho R, 304) 304 Q := by
  rcases (show w = 0 ∨ w = 1 ∨ w = 2 ∨ w = 3 ∨ w = 4 ∨ w = 5 ∨ w = 6 ∨ w = 7 ∨ w = 8 ∨ w = 9 ∨ w = 10 ∨ w = 11 ∨ w = 12 ∨ w = 13 ∨ w = 14 ∨ w = 15 ∨ w = 16 by omega) with rfl | rfl | rfl | rfl | rfl | rfl | rfl | rfl | rfl | rfl | rfl | rfl | rfl | rfl | rfl | rfl | rfl
  · exact absurd hop (by decide)
  · exact ev_Reader_openRow_1 h9 hF hF5 hw0 hs2 hsz hR hN
  · exact ev_Reader_openRow_2 h9 hF hF5 hw0 hs2 hsz hR hN
  · exact absurd hop (by decide)
  · exact absurd hop (by decide)
  · exact ev_Reader_openRow_5 h9 hF hF5 hw0 hs2 hsz hR hN
  · exact ev_Reader_openRow_6 h9 hF hF5 hw0 hs2 hsz hR hN
  · exact ev_Reader_openRow_7 h9 hF hF5 hw0 hs2 hsz hR hN
  · exact ev_Reader_openRow_8 h9 hF hF5 hw0 hs2 hsz hR hN
  · exact absurd hop (by decide)
  · exact ev_Reader_openRow_10 h9 hF hF5 hw0 hs2 hsz hR hN
  · exact ev_Reader_openRow_11 h9 hF hF5 hw0 hs2 hsz hR hN
  · exact ev_Reader_openRow_12 h9 hF hF5 hw0 hs2 hsz hR hN
  · exact ev_Reader_openRow_13 h9 hF hF5 hw0 hs2 hsz hR hN
  · exact ev_Reader_openRow_14 h9 hF hF5 hw0 hs2 hsz hR hN
  · exact ev_Reader_openRow_15 h9 hF hF5 hw0 hs2 hsz hR hN
  · exact ev_Reader_openRow_16 h9 hF hF5 hw0 hs2 hsz hR hN
theorem ev_Reader_openRowN {E : fg_E} {d : Nat} {μ : Nat → Nat → Int32} {R : fg_T4} {Q : Option Value → fg_M → Prop} {w : Nat} (hw : w < 17) (hop : ¬ pz_op w = true) (hO : ∀ μ' : Nat → Nat → Int32, (∀ a j, (a ≠ 255 ∨ (j ≠ 12 ∧ j ≠ 13 ∧ j ≠ 14)) → μ' a j = μ a j) → μ' 255 12 = nI 0 → μ' 255 13 = -1 → Q none (μ', fg_rho R, 304)) : fg_Ev E yy_Reader_openRow (d + 5) [.ref 255, .ref w] (μ, fg_rho R, 304) 304 Q := by
  rcases (show w = 0 ∨ w = 1 ∨ w = 2 ∨ w = 3 ∨ w = 4 ∨ w = 5 ∨ w = 6 ∨ w = 7 ∨ w = 8 ∨ w = 9 ∨ w = 10 ∨ w = 11 ∨ w = 12 ∨ w = 13 ∨ w = 14 ∨ w = 15 ∨ w = 16 by omega) with rfl | rfl | rfl | rfl | rfl | rfl | rfl | rfl | rfl | rfl | rfl | rfl | rfl | rfl | rfl | rfl | rfl
  · exact ev_Reader_openRow_0 hO
  · exact absurd rfl hop
  · exact absurd rfl hop
  · exact ev_Reader_openRow_3 hO
  · exact ev_Reader_openRow_4 hO
  · exact absurd rfl hop
  · exact absurd rfl hop
  · exact absurd rfl hop
  · exact absurd rfl hop
  · exact ev_Reader_openRow_9 hO
  · exact absurd rfl hop
  · exact absurd rfl hop
  · exact absurd rfl hop
  · exact absurd rfl hop
  · exact absurd rfl hop
  · exact absurd rfl hop
  · exact absurd rfl hop
