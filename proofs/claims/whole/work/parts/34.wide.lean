/-! numbers of 32 bits -/
def fg_nat (x : Int32) : Nat := x.toBitVec.toNat
theorem fg_nat_lt (x : Int32) : fg_nat x < 2 ^ 32 := x.toBitVec.isLt
theorem fg_nI_nat (x : Int32) : nI (fg_nat x) = x := by
  apply nI_inj32
  rw [nI_bv]
  show BitVec.ofNat 32 x.toBitVec.toNat = x.toBitVec
  apply BitVec.eq_of_toNat_eq
  rw [BitVec.toNat_ofNat]
  exact Nat.mod_eq_of_lt x.toBitVec.isLt
theorem fg_nat_nI {k : Nat} (h : k < 2 ^ 32) : fg_nat (nI k) = k := by
  unfold fg_nat
  rw [nI_bv, BitVec.toNat_ofNat]
  exact Nat.mod_eq_of_lt h
theorem fg_ex (x : Int32) : ∃ k, k < 2 ^ 32 ∧ x = nI k := ⟨fg_nat x, fg_nat_lt x, (fg_nI_nat x).symm⟩
theorem fg_nI_injW {a b : Nat} (ha : a < 2 ^ 32) (hb : b < 2 ^ 32) (h : nI a = nI b) : a = b := by
  have := congrArg fg_nat h
  rwa [fg_nat_nI ha, fg_nat_nI hb] at this
theorem fg_neg {k : Nat} (h : k < 2 ^ 32) : nI k < 0 ↔ 2 ^ 31 ≤ k := by
  rw [Int32.lt_iff_toInt_lt]
  show (BitVec.ofNat 32 k).toInt < 0 ↔ _
  rw [BitVec.toInt_eq_toNat_cond, BitVec.toNat_ofNat, Nat.mod_eq_of_lt h]
  constructor
  · intro g
    split at g <;> omega
  · intro g
    split <;> omega
theorem fg_m1 : (-1 : Int32) = nI 4294967295 := by decide
section WD
variable {E : fg_E} {Y : fg_Y} {d n0 n1 : Nat} {Q : Option Value → fg_M → Prop} {pc : Nat} {L st : List Value} {M : fg_M}
theorem fg_icmp_eqW {a b : Nat} {off : Int} {tgt : Nat} (hd : decode Y.2.1 pc = .ok (.if_icmp .eq off, 3)) (ht : (pc : Int) + off = (tgt : Int)) (ha : a < 2 ^ 32) (hb : b < 2 ^ 32) (kt : a = b → fg_wp E Y d n0 n1 Q tgt L st M) (kf : ¬ a = b → fg_wp E Y d n0 n1 Q (pc + 3) L st M) : fg_wp E Y d n0 n1 Q pc L (.int (nI b) :: .int (nI a) :: st) M := fg_icmp_eq hd ht (fun h => kt (fg_nI_injW ha hb h)) (fun h => kf (fun e => h (by rw [e])))
theorem fg_icmp_neW {a b : Nat} {off : Int} {tgt : Nat} (hd : decode Y.2.1 pc = .ok (.if_icmp .ne off, 3)) (ht : (pc : Int) + off = (tgt : Int)) (ha : a < 2 ^ 32) (hb : b < 2 ^ 32) (kt : ¬ a = b → fg_wp E Y d n0 n1 Q tgt L st M) (kf : a = b → fg_wp E Y d n0 n1 Q (pc + 3) L st M) : fg_wp E Y d n0 n1 Q pc L (.int (nI b) :: .int (nI a) :: st) M := fg_icmp_ne hd ht (fun h => kt (fun e => h (by rw [e]))) (fun h => kf (fg_nI_injW ha hb h))
theorem fg_icmp_eqM {a : Nat} {off : Int} {tgt : Nat} (hd : decode Y.2.1 pc = .ok (.if_icmp .eq off, 3)) (ht : (pc : Int) + off = (tgt : Int)) (ha : a < 2 ^ 32) (kt : a = 4294967295 → fg_wp E Y d n0 n1 Q tgt L st M) (kf : ¬ a = 4294967295 → fg_wp E Y d n0 n1 Q (pc + 3) L st M) : fg_wp E Y d n0 n1 Q pc L (.int (-1) :: .int (nI a) :: st) M := by
  rw [fg_m1]
  exact fg_icmp_eqW hd ht ha (by decide) kt kf
theorem fg_icmp_neM {a : Nat} {off : Int} {tgt : Nat} (hd : decode Y.2.1 pc = .ok (.if_icmp .ne off, 3)) (ht : (pc : Int) + off = (tgt : Int)) (ha : a < 2 ^ 32) (kt : ¬ a = 4294967295 → fg_wp E Y d n0 n1 Q tgt L st M) (kf : a = 4294967295 → fg_wp E Y d n0 n1 Q (pc + 3) L st M) : fg_wp E Y d n0 n1 Q pc L (.int (-1) :: .int (nI a) :: st) M := by
  rw [fg_m1]
  exact fg_icmp_neW hd ht ha (by decide) kt kf
theorem fg_if_ltW {a : Nat} {off : Int} {tgt : Nat} (hd : decode Y.2.1 pc = .ok (.ifCond .lt off, 3)) (ht : (pc : Int) + off = (tgt : Int)) (ha : a < 2 ^ 32) (kt : 2 ^ 31 ≤ a → fg_wp E Y d n0 n1 Q tgt L st M) (kf : a < 2 ^ 31 → fg_wp E Y d n0 n1 Q (pc + 3) L st M) : fg_wp E Y d n0 n1 Q pc L (.int (nI a) :: st) M := fg_if_lt hd ht (fun h => kt ((fg_neg ha).mp h)) (fun h => kf (Nat.lt_of_not_le (fun g => h ((fg_neg ha).mpr g))))
theorem fg_if_geW {a : Nat} {off : Int} {tgt : Nat} (hd : decode Y.2.1 pc = .ok (.ifCond .ge off, 3)) (ht : (pc : Int) + off = (tgt : Int)) (ha : a < 2 ^ 32) (kt : a < 2 ^ 31 → fg_wp E Y d n0 n1 Q tgt L st M) (kf : 2 ^ 31 ≤ a → fg_wp E Y d n0 n1 Q (pc + 3) L st M) : fg_wp E Y d n0 n1 Q pc L (.int (nI a) :: st) M := fg_if_ge hd ht (fun h => kt (Nat.lt_of_not_le (fun g => absurd ((fg_neg ha).mpr g) (by rw [Int32.lt_iff_toInt_lt]; rw [Int32.le_iff_toInt_le] at h; omega)))) (fun h => kf ((fg_neg ha).mp (by rw [Int32.lt_iff_toInt_lt]; rw [Int32.le_iff_toInt_le] at h; omega)))
theorem fg_if_eqW {a : Nat} {off : Int} {tgt : Nat} (hd : decode Y.2.1 pc = .ok (.ifCond .eq off, 3)) (ht : (pc : Int) + off = (tgt : Int)) (ha : a < 2 ^ 32) (kt : a = 0 → fg_wp E Y d n0 n1 Q tgt L st M) (kf : ¬ a = 0 → fg_wp E Y d n0 n1 Q (pc + 3) L st M) : fg_wp E Y d n0 n1 Q pc L (.int (nI a) :: st) M := fg_if_eq hd ht (fun h => kt (fg_nI_injW ha (by decide) (b := 0) h)) (fun h => kf (fun e => h (by rw [e]; rfl)))
theorem fg_if_neW {a : Nat} {off : Int} {tgt : Nat} (hd : decode Y.2.1 pc = .ok (.ifCond .ne off, 3)) (ht : (pc : Int) + off = (tgt : Int)) (ha : a < 2 ^ 32) (kt : ¬ a = 0 → fg_wp E Y d n0 n1 Q tgt L st M) (kf : a = 0 → fg_wp E Y d n0 n1 Q (pc + 3) L st M) : fg_wp E Y d n0 n1 Q pc L (.int (nI a) :: st) M := fg_if_ne hd ht (fun h => kt (fun e => h (by rw [e]; rfl))) (fun h => kf (fg_nI_injW ha (by decide) (b := 0) h))
theorem fg_toInt {k : Nat} (h : k < 2 ^ 31) : (nI k).toInt = (k : Int) := by
  show (BitVec.ofNat 32 k).toInt = _
  rw [BitVec.toInt_eq_toNat_cond, BitVec.toNat_ofNat, Nat.mod_eq_of_lt (by omega)]
  split <;> omega
theorem fg_toIntW {k : Nat} (h : k < 2 ^ 32) : (nI k).toInt = (k : Int) ∨ ((nI k).toInt < 0 ∧ 2 ^ 31 ≤ k) := by
  rcases Nat.lt_or_ge k (2 ^ 31) with g | g
  · exact Or.inl (fg_toInt g)
  · exact Or.inr ⟨by have := (fg_neg h).mpr g; rw [Int32.lt_iff_toInt_lt] at this; exact this, g⟩
theorem fg_swN {dflt lo hi : Int} {offs : Array Int} {len k i : Nat} {off : Int} {tgt : Nat} (hd : decode Y.2.1 pc = .ok (.tableswitch dflt lo hi offs, len)) (he : k = i) (hi31 : i < 2 ^ 31) (h1 : lo ≤ (i : Int)) (h2 : (i : Int) ≤ hi) (ho : offs[((i : Int) - lo).toNat]? = some off) (ht : (pc : Int) + off = (tgt : Int)) (K : fg_wp E Y d n0 n1 Q tgt L st M) : fg_wp E Y d n0 n1 Q pc L (.int (nI k) :: st) M := by
  subst he
  have e := fg_toInt hi31
  exact fg_switchIn hd (by rw [e]; omega) (by rw [e]; omega) (by rw [e]; exact ho) ht K
theorem fg_swO {dflt lo hi : Int} {offs : Array Int} {len k : Nat} {tgt : Nat} (hd : decode Y.2.1 pc = .ok (.tableswitch dflt lo hi offs, len)) (hk : k < 2 ^ 32) (hl : 0 ≤ lo) (hh : hi < 2147483648) (h : ∀ i : Nat, lo ≤ (i : Int) → (i : Int) ≤ hi → ¬ k = i) (ht : (pc : Int) + dflt = (tgt : Int)) (K : fg_wp E Y d n0 n1 Q tgt L st M) : fg_wp E Y d n0 n1 Q pc L (.int (nI k) :: st) M := by
  refine fg_switchOut hd ?_ ht K
  rcases fg_toIntW hk with e | e
  · rw [e]
    have := h k
    omega
  · left; omega
end WD
