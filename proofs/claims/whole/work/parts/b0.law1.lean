/-! the law: what stands between two calls -/
def lw_im (μ : Nat → Nat → Int32) (i : Nat) (B : fg_Tl) : Prop := (∀ k, k < 2 → fg_wdT μ (140 + 38 * i + 3 + 14 * k)) ∧ (∀ k, k < 3 → μ (140 + 38 * i + 32 + 2 * k) 0 = nI 4) ∧ μ 289 i = μ 254 i ∧ (¬ μ 254 i = 0 → fg_TL μ (140 + 38 * i) B ∧ fg_ML (fun j => μ 288 (1280 * (i + 1) + j)) B ∧ pz_fit B.tape)
def lw_J (μ : Nat → Nat → Int32) (A : fg_Tl) (I : Nat → fg_Tl) : Prop := (fg_TL μ 101 A ∧ fg_ML (μ 288) A ∧ pz_fit A.tape) ∧ (fg_wdT μ 256 ∧ μ 270 0 = nI 4) ∧ (μ 287 17 = -1 ∧ μ 287 19 = nI 0) ∧ ∀ i, i < 3 → lw_im μ i (I i)
theorem fg_TL.ag {μ μ' : Nat → Nat → Int32} {b : Nat} {A : fg_Tl} (h : fg_TL μ b A) (hf : ∀ a, b ≤ a → a < b + 38 → ∀ j, μ' a j = μ a j) : fg_TL μ' b A :=
  h.hd9 (l := A.len) (k := A.fault) (p := A.place) (fun a h1 h2 j => hf a (by omega) h2 j) (hf b (by omega) (by omega) 4) (hf b (by omega) (by omega) 5) ((hf b (by omega) (by omega) 1).trans h.1.1) h.1.2 ((hf b (by omega) (by omega) 2).trans h.2.2.1.1) ((hf b (by omega) (by omega) 3).trans h.2.2.1.2)
theorem lw_im.fr {μ μ' : Nat → Nat → Int32} {i : Nat} {B : fg_Tl} (h : lw_im μ i B) (hf : ∀ a, 140 + 38 * i ≤ a → a < 140 + 38 * i + 38 → ∀ j, μ' a j = μ a j) (h1 : μ' 254 i = μ 254 i) (h2 : μ' 289 i = μ 289 i) (h3 : ∀ j, j < 1280 → μ' 288 (1280 * (i + 1) + j) = μ 288 (1280 * (i + 1) + j)) : lw_im μ' i B := by
  obtain ⟨w1, w2, w3, w4⟩ := h
  refine ⟨fun k hk => (w1 k hk).fr2 (fun a a1 a2 j => hf a (by omega) (by omega) j), fun k hk => (hf _ (by omega) (by omega) 0).trans (w2 k hk), h2.trans (w3.trans h1.symm), fun hn => ?_⟩
  rw [h1] at hn
  obtain ⟨t1, t2, t3⟩ := w4 hn
  refine ⟨t1.ag hf, ?_, t3⟩
  have hw := t1.wA
  obtain ⟨⟨g0, g1, g2, g3, g4⟩, g5, g6, g7⟩ := t2
  have ht2 := hw.2.1
  have hd3 := hw.2.2.1
  have hle := hw.1
  exact ⟨⟨(h3 0 (by decide)).trans g0, (h3 1 (by decide)).trans g1, (h3 2 (by decide)).trans g2, (h3 3 (by decide)).trans g3, (h3 4 (by decide)).trans g4⟩, fun j hj => (h3 (10 + j) (by omega)).trans (g5 j hj), fun k hk => ⟨(g6 k hk).1, fun x hx => (h3 _ (by omega)).trans ((g6 k hk).2 x hx)⟩, fun k hk => ⟨(h3 _ (by omega)).trans (g7 k hk).1, fun x hx => (h3 _ (by have := (hw.2.2.2.2 k hk).1; omega)).trans ((g7 k hk).2 x hx)⟩⟩
theorem lw_J.fr {μ μ' : Nat → Nat → Int32} {A : fg_Tl} {I : Nat → fg_Tl} (h : lw_J μ A I) (hf : ∀ a, (a < 273 ∨ a = 288 ∨ a = 289) → ∀ j, μ' a j = μ a j) (h17 : μ' 287 17 = μ 287 17) (h19 : μ' 287 19 = μ 287 19) : lw_J μ' A I := by
  obtain ⟨⟨a1, a2, a3⟩, ⟨b1, b2⟩, ⟨c1, c2⟩, d⟩ := h
  exact ⟨⟨a1.ag (fun a h1 h2 j => hf a (by omega) j), fg_ML.ag a2 (fun j => hf 288 (by omega) j), a3⟩, ⟨b1.fr2 (fun a h1 h2 j => hf a (by omega) j), (hf 270 (by omega) 0).trans b2⟩, ⟨h17.trans c1, h19.trans c2⟩, fun i hi => (d i hi).fr (fun a h1 h2 j => hf a (by omega) j) (hf 254 (by omega) i) (hf 289 (by omega) i) (fun j _ => hf 288 (by omega) _)⟩
theorem lw_J.Q {μ μ' : Nat → Nat → Int32} {A : fg_Tl} {I : Nat → fg_Tl} (h : lw_J μ A I) (hf : fg_agQ μ μ') : lw_J μ' A I := h.fr (fun a ha j => hf a (by omega) j) (hf 287 (by omega) 17) (hf 287 (by omega) 19)
theorem lw_J.R {μ μ' : Nat → Nat → Int32} {A : fg_Tl} {I : Nat → fg_Tl} (h : lw_J μ A I) (hf : fg_agR μ μ') : lw_J μ' A I := h.fr (fun a ha j => hf.1 a (by omega) j) hf.2.1 hf.2.2
theorem fg_agQ.ml {μ μ' : Nat → Nat → Int32} (h : fg_agQ μ μ') : ∀ j, μ' 288 j = μ 288 j := fun j => h 288 (by omega) j
/-- a text -/
theorem lw_J.text {μ μ' μ'' : Nat → Nat → Int32} {A A' : fg_Tl} {I : Nat → fg_Tl} (h : lw_J μ A I) (h1 : fg_agTx μ μ') (h2 : fg_wdT μ' 256) (h3 : μ' 270 0 = nI 4) (h4 : fg_TL μ' 101 A') (h5 : fg_agY μ' μ'') (h6 : fg_ML (μ'' 288) A') (h7 : A'.tape = A.tape) : lw_J μ'' A' I := by
  obtain ⟨⟨a1, a2, a3⟩, ⟨b1, b2⟩, ⟨c1, c2⟩, d⟩ := h
  have f : ∀ a, a < 273 → ∀ j, μ'' a j = μ' a j := fun a ha j => h5.1 a (by omega) (by omega) (by omega) j
  have f2 : ∀ a, 138 < a → a < 255 → ∀ j, μ'' a j = μ a j := fun a ha hb j => (f a (by omega) j).trans (h1 a (by omega) j)
  exact ⟨⟨h4.ag (fun a a1 a2 j => f a (by omega) j), h6, by rw [h7]; exact a3⟩, ⟨h2.fr2 (fun a a1 a2 j => f a (by omega) j), (f 270 (by omega) 0).trans h3⟩, ⟨(h5.2.1 17 (by decide)).trans ((h1 287 (by omega) 17).trans c1), (h5.2.1 19 (by decide)).trans ((h1 287 (by omega) 19).trans c2)⟩, fun i hi => (d i hi).fr (fun a h1 h2 j => f2 a (by omega) (by omega) j) (f2 254 (by decide) (by decide) i) ((h5.1 289 (by decide) (by decide) (by decide) i).trans (h1 289 (by omega) i)) (fun j hj => (h5.2.2 _ (by omega)).trans (h1 288 (by omega) _))⟩
theorem an_text_tape (A : fg_Tl) (s a : Nat) : (an_text A s a).2.tape = A.tape := by
  rcases Option.eq_none_or_eq_some (fg_plf A s a) with h | ⟨p, h⟩
  · rw [an_text_n h]; rfl
  · rw [an_text_s h]
    unfold an_tx1
    split
    · show (if s = 0 then _ else _ : fg_Tl).tape = _
      split <;> rfl
    · rfl
/-- a new length -/
theorem lw_J.len {μ : Nat → Nat → Int32} {A : fg_Tl} {I : Nat → fg_Tl} {k : Nat} (h : lw_J μ A I) (hk : k ≤ A.len) : lw_J (fg_u2 (fg_u2 μ 101 1 (nI k)) 288 2 (nI k)) (A.hd k A.fault A.place) I := by
  obtain ⟨⟨a1, a2, a3⟩, ⟨b1, b2⟩, ⟨c1, c2⟩, d⟩ := h
  have hw := a1.wA
  have ht2 := hw.2.1
  have hd3 := hw.2.2.1
  have hle := hw.1
  have f : ∀ a j, (a ≠ 101 ∨ j ≠ 1) → (a ≠ 288 ∨ j ≠ 2) → (fg_u2 (fg_u2 μ 101 1 (nI k)) 288 2 (nI k)) a j = μ a j := fun a j g1 g2 => (fg_u2nx (by omega)).trans (fg_u2nx (by omega))
  obtain ⟨⟨g0, g1, g2, g3, g4⟩, g5, g6, g7⟩ := a2
  exact ⟨⟨a1.hd9 (fun a h1 h2 j => f a j (by omega) (by omega)) (f 101 4 (by omega) (by omega)) (f 101 5 (by omega) (by omega)) ((fg_u2ne (by decide)).trans fg_u2eq) (by omega) ((f 101 2 (by omega) (by omega)).trans a1.2.2.1.1) ((f 101 3 (by omega) (by omega)).trans a1.2.2.1.2),
    ⟨⟨(f 288 0 (by omega) (by omega)).trans g0, (f 288 1 (by omega) (by omega)).trans g1, fg_u2eq, (f 288 3 (by omega) (by omega)).trans g3, (f 288 4 (by omega) (by omega)).trans g4⟩, fun j hj => (f 288 (10 + j) (by omega) (by omega)).trans (g5 j (Nat.lt_of_lt_of_le hj hk)), fun q hq => ⟨(g6 q hq).1, fun x hx => (f 288 _ (by omega) (by omega)).trans ((g6 q hq).2 x hx)⟩, fun q hq => ⟨(f 288 _ (by omega) (by omega)).trans (g7 q hq).1, fun x hx => (f 288 _ (by omega) (by omega)).trans ((g7 q hq).2 x hx)⟩⟩, a3⟩,
    ⟨b1.fr2 (fun a h1 h2 j => f a j (by omega) (by omega)), (f 270 0 (by omega) (by omega)).trans b2⟩, ⟨(f 287 17 (by omega) (by omega)).trans c1, (f 287 19 (by omega) (by omega)).trans c2⟩, fun i hi => (d i hi).fr (fun a h1 h2 j => f a j (by omega) (by omega)) (f 254 i (by omega) (by omega)) (f 289 i (by omega) (by omega)) (fun j hj => f 288 _ (by omega) (by omega))⟩
/-- what is fed -/
theorem fg_byt_fit (x : Int32) (s : Nat) : fits (fg_aty (11 - 10)) (.int (fg_byt x s)) = true := by
  have h1 : fg_byt x s = (x >>> (nI s &&& 31)).toInt8.toInt32.toInt8.toInt32 := rfl
  rw [h1]
  generalize (x >>> (nI s &&& 31)).toInt8.toInt32.toInt8 = y
  have e1 : (-128 : Int32) ≤ y.toInt32 := by
    rw [Int32.le_iff_toInt_le, Int8.toInt_toInt32]
    exact y.le_toInt
  have e2 : y.toInt32 ≤ (127 : Int32) := by
    rw [Int32.le_iff_toInt_le, Int8.toInt_toInt32]
    have := y.toInt_lt
    show y.toInt ≤ 127
    omega
  show (decide ((-128 : Int32) ≤ y.toInt32) && decide (y.toInt32 ≤ (127 : Int32))) = true
  rw [decide_eq_true e1, decide_eq_true e2]; rfl
theorem fg_fe5_lo {m : Nat → Int32} {len : Nat} {a b c z y : Int32} {j : Nat} (h : j < len ∨ len + 20 ≤ j) : fg_fe5 m len a b c z y j = m j := by
  unfold fg_fe5
  simp only [fg_fe]
  repeat rw [if_neg (by omega)]
theorem fg_fe5_at {m : Nat → Int32} {len : Nat} {a b c z y : Int32} {i : Nat} (h : i < 20) : fg_fe5 m len a b c z y (len + i) = fg_byt (fg_X5 a b c z y (i / 4)) (24 - 8 * (i % 4)) := by
  unfold fg_fe5
  simp only [fg_fe]
  rcases (show i = 0 ∨ i = 1 ∨ i = 2 ∨ i = 3 ∨ i = 4 ∨ i = 5 ∨ i = 6 ∨ i = 7 ∨ i = 8 ∨ i = 9 ∨ i = 10 ∨ i = 11 ∨ i = 12 ∨ i = 13 ∨ i = 14 ∨ i = 15 ∨ i = 16 ∨ i = 17 ∨ i = 18 ∨ i = 19 by omega) with rfl | rfl | rfl | rfl | rfl | rfl | rfl | rfl | rfl | rfl | rfl | rfl | rfl | rfl | rfl | rfl | rfl | rfl | rfl | rfl
  · rw [if_neg (by omega), if_neg (by omega), if_neg (by omega), if_neg (by omega), if_neg (by omega), if_neg (by omega), if_neg (by omega), if_neg (by omega), if_neg (by omega), if_neg (by omega), if_neg (by omega), if_neg (by omega), if_neg (by omega), if_neg (by omega), if_neg (by omega), if_neg (by omega), if_neg (by omega), if_neg (by omega), if_neg (by omega), if_pos (by omega)]; rfl
  · rw [if_neg (by omega), if_neg (by omega), if_neg (by omega), if_neg (by omega), if_neg (by omega), if_neg (by omega), if_neg (by omega), if_neg (by omega), if_neg (by omega), if_neg (by omega), if_neg (by omega), if_neg (by omega), if_neg (by omega), if_neg (by omega), if_neg (by omega), if_neg (by omega), if_neg (by omega), if_neg (by omega), if_pos (by omega)]; rfl
  · rw [if_neg (by omega), if_neg (by omega), if_neg (by omega), if_neg (by omega), if_neg (by omega), if_neg (by omega), if_neg (by omega), if_neg (by omega), if_neg (by omega), if_neg (by omega), if_neg (by omega), if_neg (by omega), if_neg (by omega), if_neg (by omega), if_neg (by omega), if_neg (by omega), if_neg (by omega), if_pos (by omega)]; rfl
  · rw [if_neg (by omega), if_neg (by omega), if_neg (by omega), if_neg (by omega), if_neg (by omega), if_neg (by omega), if_neg (by omega), if_neg (by omega), if_neg (by omega), if_neg (by omega), if_neg (by omega), if_neg (by omega), if_neg (by omega), if_neg (by omega), if_neg (by omega), if_neg (by omega), if_pos (by omega)]; rfl
  · rw [if_neg (by omega), if_neg (by omega), if_neg (by omega), if_neg (by omega), if_neg (by omega), if_neg (by omega), if_neg (by omega), if_neg (by omega), if_neg (by omega), if_neg (by omega), if_neg (by omega), if_neg (by omega), if_neg (by omega), if_neg (by omega), if_neg (by omega), if_pos (by omega)]; rfl
  · rw [if_neg (by omega), if_neg (by omega), if_neg (by omega), if_neg (by omega), if_neg (by omega), if_neg (by omega), if_neg (by omega), if_neg (by omega), if_neg (by omega), if_neg (by omega), if_neg (by omega), if_neg (by omega), if_neg (by omega), if_neg (by omega), if_pos (by omega)]; rfl
  · rw [if_neg (by omega), if_neg (by omega), if_neg (by omega), if_neg (by omega), if_neg (by omega), if_neg (by omega), if_neg (by omega), if_neg (by omega), if_neg (by omega), if_neg (by omega), if_neg (by omega), if_neg (by omega), if_neg (by omega), if_pos (by omega)]; rfl
  · rw [if_neg (by omega), if_neg (by omega), if_neg (by omega), if_neg (by omega), if_neg (by omega), if_neg (by omega), if_neg (by omega), if_neg (by omega), if_neg (by omega), if_neg (by omega), if_neg (by omega), if_neg (by omega), if_pos (by omega)]; rfl
  · rw [if_neg (by omega), if_neg (by omega), if_neg (by omega), if_neg (by omega), if_neg (by omega), if_neg (by omega), if_neg (by omega), if_neg (by omega), if_neg (by omega), if_neg (by omega), if_neg (by omega), if_pos (by omega)]; rfl
  · rw [if_neg (by omega), if_neg (by omega), if_neg (by omega), if_neg (by omega), if_neg (by omega), if_neg (by omega), if_neg (by omega), if_neg (by omega), if_neg (by omega), if_neg (by omega), if_pos (by omega)]; rfl
  · rw [if_neg (by omega), if_neg (by omega), if_neg (by omega), if_neg (by omega), if_neg (by omega), if_neg (by omega), if_neg (by omega), if_neg (by omega), if_neg (by omega), if_pos (by omega)]; rfl
  · rw [if_neg (by omega), if_neg (by omega), if_neg (by omega), if_neg (by omega), if_neg (by omega), if_neg (by omega), if_neg (by omega), if_neg (by omega), if_pos (by omega)]; rfl
  · rw [if_neg (by omega), if_neg (by omega), if_neg (by omega), if_neg (by omega), if_neg (by omega), if_neg (by omega), if_neg (by omega), if_pos (by omega)]; rfl
  · rw [if_neg (by omega), if_neg (by omega), if_neg (by omega), if_neg (by omega), if_neg (by omega), if_neg (by omega), if_pos (by omega)]; rfl
  · rw [if_neg (by omega), if_neg (by omega), if_neg (by omega), if_neg (by omega), if_neg (by omega), if_pos (by omega)]; rfl
  · rw [if_neg (by omega), if_neg (by omega), if_neg (by omega), if_neg (by omega), if_pos (by omega)]; rfl
  · rw [if_neg (by omega), if_neg (by omega), if_neg (by omega), if_pos (by omega)]; rfl
  · rw [if_neg (by omega), if_neg (by omega), if_pos (by omega)]; rfl
  · rw [if_neg (by omega), if_pos (by omega)]; rfl
  · rw [if_pos (by omega)]; rfl
theorem lw_J.feed {μ μ' μ'' : Nat → Nat → Int32} {A : fg_Tl} {I : Nat → fg_Tl} {a b c z y : Int32} (h : lw_J μ A I) (hl : A.len + 20 ≤ 600) (h1 : ∀ b j, b ≠ 101 → b ≠ 102 → μ' b j = μ b j) (h2 : ∀ j, j ≠ 1 → μ' 101 j = μ 101 j) (h3 : μ' 101 1 = nI (A.len + 20)) (h4 : ∀ j, μ' 102 j = fg_fe5 (μ 102) A.len a b c z y j) (h5 : ∀ a, a ≠ 288 → ∀ x, μ'' a x = μ' a x) (h6 : ∀ x, μ'' 288 x = fg_fq (μ' 288) A.len (fg_X5 a b c z y) 20 x) : lw_J μ'' (A.len + 20, μ' 102, A.fault, A.place, A.tc, A.dc, A.ts, A.ds, A.nd) I := by
  obtain ⟨⟨a1, a2, a3⟩, ⟨b1, b2⟩, ⟨c1, c2⟩, d⟩ := h
  have hw := a1.wA
  have ht2 := hw.2.1
  have hd3 := hw.2.2.1
  have f : ∀ b j, b ≠ 101 → b ≠ 102 → b ≠ 288 → μ'' b j = μ b j := fun b j g1 g2 g3 => (h5 b g3 j).trans (h1 b j g1 g2)
  have f1 : ∀ j, j ≠ 1 → μ'' 101 j = μ 101 j := fun j hj => (h5 101 (by decide) j).trans (h2 j hj)
  have m0 : ∀ x, x ≠ 2 → (x < 10 + A.len ∨ 10 + A.len + 20 ≤ x) → μ'' 288 x = μ 288 x := fun x g1 g2 => (h6 x).trans (by
    unfold fg_fq
    rw [if_neg g1, if_neg (by omega)]
    exact h1 288 x (by decide) (by decide))
  obtain ⟨⟨g0, g1, g2, g3, g4⟩, g5, g6, g7⟩ := a2
  obtain ⟨k1, k2, ⟨k3, k3'⟩, ⟨k4, k4'⟩, ⟨k5, k5'⟩, k6, k7, k8, k9⟩ := a1
  refine ⟨⟨⟨⟨(h5 101 (by decide) 1).trans h3, hl⟩, fun j _ => h5 102 (by decide) j, ⟨(f1 2 (by decide)).trans k3, (f1 3 (by decide)).trans k3'⟩, ⟨(f1 4 (by decide)).trans k4, k4'⟩, ⟨(f1 5 (by decide)).trans k5, k5'⟩, fun i hi => ?_, fun i hi => ?_, fun i hi => (k8 i hi).fr2 (fun a a1 a2 j => f a j (by omega) (by omega) (by omega)), fun i hi => (f _ 0 (by omega) (by omega) (by omega)).trans (k9 i hi)⟩, ⟨⟨(m0 0 (by decide) (by omega)).trans g0, (m0 1 (by decide) (by omega)).trans g1, (h6 2).trans (if_pos rfl), (m0 3 (by decide) (by omega)).trans g3, (m0 4 (by decide) (by omega)).trans g4⟩, fun j hj => ?_, fun k hk => ?_, fun k hk => ?_⟩, fun j hj => ?_⟩, ⟨b1.fr2 (fun a h1 h2 j => f a j (by omega) (by omega) (by omega)), (f 270 0 (by decide) (by decide) (by decide)).trans b2⟩, ⟨(f 287 17 (by decide) (by decide) (by decide)).trans c1, (f 287 19 (by decide) (by decide) (by decide)).trans c2⟩, fun i hi => (d i hi).fr (fun a h1 h2 j => f a j (by omega) (by omega) (by omega)) (f 254 i (by decide) (by decide) (by decide)) (f 289 i (by decide) (by decide) (by decide)) (fun j hj => m0 _ (by omega) (by omega))⟩
  · have hi2 : i < A.tc := hi
    exact ⟨fg_TWp.fr14 (k6 i hi2).1 (fun a a1 a2 j => f a j (by omega) (by omega) (by omega)), (k6 i hi2).2⟩
  · have hi2 : i < A.dc := hi
    exact ⟨(k7 i hi2).1.fr2 (fun j => f _ j (by omega) (by omega) (by omega)) (fun j => f _ j (by omega) (by omega) (by omega)), (k7 i hi2).2⟩
  · have hj2 : j < A.len + 20 := hj
    show μ'' 288 (10 + j) = nI (fg_nat (μ' 102 j) % 256)
    rcases Nat.lt_or_ge j A.len with q | q
    · rw [m0 (10 + j) (by omega) (by omega), g5 j q, h4 j, fg_fe5_lo (Or.inl q), k2 j (by omega)]
    · obtain ⟨i, rfl⟩ : ∃ i, j = A.len + i := ⟨j - A.len, by omega⟩
      rw [h4, fg_fe5_at (by omega), fg_byt_nat, h6]
      unfold fg_fq
      rw [if_neg (by omega), if_pos (by omega), show 10 + (A.len + i) - 10 - A.len = i by omega]
      rfl
  · have hk2 : k < A.tc := hk
    exact ⟨(g6 k hk2).1, fun x hx => (m0 _ (by omega) (by omega)).trans ((g6 k hk2).2 x hx)⟩
  · have hk2 : k < A.dc := hk
    exact ⟨(m0 _ (by omega) (by omega)).trans (g7 k hk2).1, fun x hx => (m0 _ (by omega) (by omega)).trans ((g7 k hk2).2 x hx)⟩
  · show fits (fg_aty (11 - 10)) (.int (μ' 102 j)) = true
    rw [h4]
    by_cases q : j < A.len ∨ A.len + 20 ≤ j
    · rw [fg_fe5_lo q, k2 j hj]; exact a3 j hj
    · obtain ⟨i, rfl⟩ : ∃ i, j = A.len + i := ⟨j - A.len, by omega⟩
      rw [fg_fe5_at (by omega)]; exact fg_byt_fit _ _
theorem lw_J.hfit {μ : Nat → Nat → Int32} {A : fg_Tl} {I : Nat → fg_Tl} (h : lw_J μ A I) : ∀ i, i < 600 → fits (fg_aty (11 - 10)) (.int (μ 102 i)) = true := fun i hi => by
  rw [h.1.1.2.1 i hi]; exact h.1.2.2 i hi
/-- an image is made -/
theorem lw_J.image {μ μ' μ'' : Nat → Nat → Int32} {A : fg_Tl} {I : Nat → fg_Tl} {i : Nat} (h : lw_J μ A I) (hi : i < 3) (h1 : fg_KC μ 101 μ' (140 + 38 * i)) (h2 : ∀ a, a ≠ 288 → ∀ x, μ'' a x = fg_u2 (fg_u2 μ' 254 i (nI 1)) 289 i (nI 1) a x) (h3 : ∀ x, μ'' 288 x = fg_imF (μ' 288) (1280 * (i + 1)) 1280 x) : lw_J μ'' A (fun k => if k = i then A else I k) := by
  obtain ⟨⟨a1, a2, a3⟩, ⟨b1, b2⟩, ⟨c1, c2⟩, d⟩ := h
  have k5 := h1.2.2.2.2
  have f : ∀ a, a < 288 → (a < 140 + 38 * i ∨ 140 + 38 * i + 38 ≤ a) → ∀ j, (a ≠ 254 ∨ j ≠ i) → μ'' a j = μ a j := fun a g1 g2 j g3 => (h2 a (by omega) j).trans ((fg_u2nx (by omega)).trans ((fg_u2nx (by omega)).trans (k5 a g2 j)))
  have hb : ∀ x, μ' 288 x = μ 288 x := fun x => k5 288 (by omega) x
  have m0 : ∀ x, (x < 1280 * (i + 1) ∨ 1280 * (i + 1) + 1280 ≤ x) → μ'' 288 x = μ 288 x := fun x g => (h3 x).trans ((if_neg (by omega)).trans (hb x))
  have hT : fg_TL μ' (140 + 38 * i) A := h1.tl a1 (d i hi).1 (d i hi).2.1
  have f2 : ∀ a, 140 + 38 * i ≤ a → a < 140 + 38 * i + 38 → ∀ j, μ'' a j = μ' a j := fun a g1 g2 j => (h2 a (by omega) j).trans ((fg_u2nx (by omega)).trans (fg_u2nx (by omega)))
  have hw := a1.wA
  have ht2 := hw.2.1
  have hd3 := hw.2.2.1
  have hle := hw.1
  obtain ⟨⟨g0, g1, g2, g3, g4⟩, g5, g6, g7⟩ := a2
  have hML : fg_ML (μ'' 288) A := ⟨⟨(m0 0 (by omega)).trans g0, (m0 1 (by omega)).trans g1, (m0 2 (by omega)).trans g2, (m0 3 (by omega)).trans g3, (m0 4 (by omega)).trans g4⟩, fun j hj => (m0 _ (by omega)).trans (g5 j hj), fun k hk => ⟨(g6 k hk).1, fun x hx => (m0 _ (by omega)).trans ((g6 k hk).2 x hx)⟩, fun k hk => ⟨(m0 _ (by omega)).trans (g7 k hk).1, fun x hx => (m0 _ (by have := (hw.2.2.2.2 k hk).1; omega)).trans ((g7 k hk).2 x hx)⟩⟩
  refine ⟨⟨a1.ag (fun a q1 q2 j => f a (by omega) (by omega) j (by omega)), hML, a3⟩, ⟨b1.fr2 (fun a q1 q2 j => f a (by omega) (by omega) j (by omega)), (f 270 (by omega) (by omega) 0 (by omega)).trans b2⟩, ⟨(f 287 (by omega) (by omega) 17 (by omega)).trans c1, (f 287 (by omega) (by omega) 19 (by omega)).trans c2⟩, fun k hk => ?_⟩
  show lw_im μ'' k (if k = i then A else I k)
  by_cases e : k = i
  · rw [if_pos e, e]
    have e54 : μ'' 254 i = nI 1 := (h2 254 (by decide) i).trans ((fg_u2ne (by decide)).trans fg_u2eq)
    refine ⟨fun q hq => (hT.2.2.2.2.2.2.2.1 q hq).fr2 (fun a q1 q2 j => f2 a (by omega) (by omega) j), fun q hq => (f2 _ (by omega) (by omega) 0).trans (hT.2.2.2.2.2.2.2.2 q hq), ((h2 289 (by decide) i).trans fg_u2eq).trans e54.symm, fun _ => ⟨hT.ag f2, ?_, a3⟩⟩
    have m1 : ∀ j, j < 1280 → μ'' 288 (1280 * (i + 1) + j) = μ 288 j := fun j hj => (h3 _).trans ((if_pos ⟨by omega, by omega⟩).trans ((hb _).trans (by rw [show 1280 * (i + 1) + j - 1280 * (i + 1) = j by omega])))
    exact ⟨⟨(m1 0 (by decide)).trans g0, (m1 1 (by decide)).trans g1, (m1 2 (by decide)).trans g2, (m1 3 (by decide)).trans g3, (m1 4 (by decide)).trans g4⟩, fun j hj => (m1 _ (by omega)).trans (g5 j hj), fun k hk => ⟨(g6 k hk).1, fun x hx => (m1 _ (by omega)).trans ((g6 k hk).2 x hx)⟩, fun k hk => ⟨(m1 _ (by omega)).trans (g7 k hk).1, fun x hx => (m1 _ (by have := (hw.2.2.2.2 k hk).1; omega)).trans ((g7 k hk).2 x hx)⟩⟩
  · rw [if_neg e]
    exact (d k hk).fr (fun a q1 q2 j => f a (by omega) (by omega) j (by omega)) (f 254 (by omega) (by omega) k (by omega)) ((h2 289 (by decide) k).trans ((fg_u2ns e).trans ((fg_u2ne (by decide)).trans (k5 289 (by omega) k)))) (fun j hj => m0 _ (by omega))
/-- an image is back -/
theorem lw_J.back {μ μ' μ'' : Nat → Nat → Int32} {A : fg_Tl} {I : Nat → fg_Tl} {i : Nat} (h : lw_J μ A I) (hi : i < 3) (hn : ¬ μ 254 i = 0) (h1 : fg_KC μ (140 + 38 * i) μ' 101) (h2 : ∀ a, a ≠ 288 → ∀ x, μ'' a x = μ' a x) (h3 : ∀ x, μ'' 288 x = fg_baF (μ' 288) (1280 * (i + 1)) 1280 x) : lw_J μ'' (I i) I := by
  obtain ⟨⟨a1, a2, a3⟩, ⟨b1, b2⟩, ⟨c1, c2⟩, d⟩ := h
  have k5 := h1.2.2.2.2
  obtain ⟨t1, t2, t3⟩ := (d i hi).2.2.2 hn
  have hT : fg_TL μ' 101 (I i) := h1.tl t1 a1.2.2.2.2.2.2.2.1 a1.2.2.2.2.2.2.2.2
  have f : ∀ a, a ≠ 288 → 139 ≤ a → ∀ j, μ'' a j = μ a j := fun a g1 g2 j => (h2 a g1 j).trans (k5 a (by omega) j)
  have hb : ∀ x, μ' 288 x = μ 288 x := fun x => k5 288 (by omega) x
  have m0 : ∀ x, 1280 ≤ x → μ'' 288 x = μ 288 x := fun x g => (h3 x).trans ((if_neg (by omega)).trans (hb x))
  have m1 : ∀ x, x < 1280 → μ'' 288 x = μ 288 (1280 * (i + 1) + x) := fun x g => (h3 x).trans ((if_pos g).trans (hb _))
  have hw := t1.wA
  have ht2 := hw.2.1
  have hd3 := hw.2.2.1
  have hle := hw.1
  obtain ⟨⟨g0, g1, g2, g3, g4⟩, g5, g6, g7⟩ := t2
  have hML : fg_ML (μ'' 288) (I i) := ⟨⟨(m1 0 (by decide)).trans g0, (m1 1 (by decide)).trans g1, (m1 2 (by decide)).trans g2, (m1 3 (by decide)).trans g3, (m1 4 (by decide)).trans g4⟩, fun j hj => (m1 _ (by omega)).trans (g5 j hj), fun k hk => ⟨(g6 k hk).1, fun x hx => (m1 _ (by omega)).trans ((g6 k hk).2 x hx)⟩, fun k hk => ⟨(m1 _ (by omega)).trans (g7 k hk).1, fun x hx => (m1 _ (by have := (hw.2.2.2.2 k hk).1; omega)).trans ((g7 k hk).2 x hx)⟩⟩
  exact ⟨⟨hT.ag (fun a q1 q2 j => h2 a (by omega) j), hML, t3⟩, ⟨b1.fr2 (fun a q1 q2 j => f a (by omega) (by omega) j), (f 270 (by decide) (by decide) 0).trans b2⟩, ⟨(f 287 (by decide) (by decide) 17).trans c1, (f 287 (by decide) (by decide) 19).trans c2⟩, fun k hk => (d k hk).fr (fun a q1 q2 j => f a (by omega) (by omega) j) (f 254 (by decide) (by decide) k) (f 289 (by decide) (by decide) k) (fun j hj => m0 _ (by omega))⟩
