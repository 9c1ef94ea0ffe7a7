theorem fg_KC.tl {μ μ' : Nat → Nat → Int32} {o b : Nat} {A : fg_Tl} (h : fg_KC μ o μ' b) (hA : fg_TL μ o A) (hw : ∀ i, i < 2 → fg_wdT μ (b + 3 + 14 * i)) (hr : ∀ i, i < 3 → μ (b + 32 + 2 * i) 0 = nI 4) : fg_TL μ' b A := by
  obtain ⟨k1, k2, k3, k4, k5⟩ := h
  obtain ⟨⟨a1, a1'⟩, a2, ⟨a3, a3'⟩, ⟨a4, a4'⟩, ⟨a5, a5'⟩, a6, a7, a8, a9⟩ := hA
  refine ⟨⟨(k1 1 (by decide) (by decide)).trans a1, a1'⟩, fun j hj => (k2 j hj).trans (a2 j hj), ⟨(k1 2 (by decide) (by decide)).trans a3, (k1 3 (by decide) (by decide)).trans a3'⟩, ⟨(k1 4 (by decide) (by decide)).trans a4, a4'⟩, ⟨(k1 5 (by decide) (by decide)).trans a5, a5'⟩, fun i hi => ?_, fun i hi => ?_, fun i hi => (k3 i hi).2 (hw i hi), fun i hi => (k4 i hi).1.trans (hr i hi)⟩
  · have hi2 : i < 2 := by omega
    exact ⟨fg_TC.tw (k3 i hi2).1 ((k3 i hi2).2 (hw i hi2)) (a6 i hi).2 (a6 i hi).1, (a6 i hi).2⟩
  · have hi3 : i < 3 := by omega
    obtain ⟨⟨d1, d2, d3, d4⟩, d5⟩ := a7 i hi
    obtain ⟨c1, c2, c3⟩ := k4 i hi3
    refine ⟨⟨c1.trans (hr i hi3), c2.trans d2, d3, fun j hj => ?_⟩, d5⟩
    have e1 : b + 32 + 2 * i + 1 = b + 33 + 2 * i := by omega
    have e2 : o + 32 + 2 * i + 1 = o + 33 + 2 * i := by omega
    have d6 := d4 j hj
    rw [e2] at d6
    rw [e1]
    exact (c3 j (by omega)).trans d6
theorem fg_bv8 (v : BitVec 32) : ((v.setWidth 8).signExtend 32).toNat % 256 = (v &&& 255#32).toNat := by
  apply Nat.eq_of_testBit_eq
  intro i
  rw [show (256 : Nat) = 2 ^ 8 from rfl, Nat.testBit_mod_two_pow, BitVec.testBit_toNat, BitVec.testBit_toNat, BitVec.getLsbD_and, BitVec.getLsbD_signExtend]
  have e : (255#32).getLsbD i = decide (i < 8) := by
    rw [← BitVec.testBit_toNat]
    show (255 : Nat).testBit i = _
    rw [show (255 : Nat) = 2 ^ 8 - 1 from rfl, fg_all_bit]
  rw [e]
  by_cases c : i < 8
  · rw [decide_eq_true c, if_pos c, BitVec.getLsbD_setWidth, decide_eq_true c, decide_eq_true (show i < 32 by omega)]
    simp
  · rw [decide_eq_false c]
    simp
