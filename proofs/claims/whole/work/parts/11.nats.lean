
/-! numbers as naturals -/
theorem nI_bv (n : Nat) : (nI n).toBitVec = BitVec.ofNat 32 n := rfl
theorem nI_inj32 {a b : Int32} (h : a.toBitVec = b.toBitVec) : a = b := Int32.toBitVec_inj.mp h
/-- b without a -/
def fg_df (b a : Nat) : Nat := b ^^^ (b &&& a)
theorem fg_df_bit (b a i : Nat) : (fg_df b a).testBit i = (b.testBit i && !a.testBit i) := by
  simp only [fg_df, Nat.testBit_xor, Nat.testBit_and]
  cases b.testBit i <;> cases a.testBit i <;> rfl
theorem nI_and (a b : Nat) : nI a &&& nI b = nI (a &&& b) := by
  apply nI_inj32
  simp only [Int32.toBitVec_and, nI_bv, BitVec.ofNat_and]
theorem nI_or (a b : Nat) : nI a ||| nI b = nI (a ||| b) := by
  apply nI_inj32
  simp only [Int32.toBitVec_or, nI_bv, BitVec.ofNat_or]
theorem nI_xor (a b : Nat) : nI a ^^^ nI b = nI (a ^^^ b) := by
  apply nI_inj32
  simp only [Int32.toBitVec_xor, nI_bv, BitVec.ofNat_xor]
theorem nI_df (b a : Nat) : nI b &&& (nI a ^^^ (-1)) = nI (fg_df b a) := by
  apply nI_inj32
  have h1 : ((-1 : Int32)).toBitVec = BitVec.allOnes 32 := by decide
  simp only [Int32.toBitVec_and, Int32.toBitVec_xor, nI_bv, h1]
  apply BitVec.eq_of_getLsbD_eq
  intro i hi
  simp only [BitVec.getLsbD_and, BitVec.getLsbD_xor, BitVec.getLsbD_ofNat, BitVec.getLsbD_allOnes, hi, fg_df_bit]
  simp
theorem nI_df' (b a : Nat) : (nI a ^^^ (-1)) &&& nI b = nI (fg_df b a) := by
  rw [Int32.and_comm]
  exact nI_df b a
theorem nI_s31 : ∀ n, n < 32 → ((nI n &&& 31).toBitVec.smod 32).toNat = n := by decide
theorem nI_shl {a k : Nat} (hk : k < 32) : nI a <<< (nI k &&& 31) = nI (a <<< k) := by
  apply nI_inj32
  have h := nI_s31 k hk
  rw [Int32.toBitVec_shiftLeft]
  show (BitVec.ofNat 32 a) <<< ((nI k &&& 31).toBitVec.smod 32) = _
  rw [BitVec.shiftLeft_eq', h]
  apply BitVec.eq_of_toNat_eq
  simp [nI_bv, BitVec.toNat_shiftLeft, Nat.shiftLeft_eq]
theorem nI_one_shl {k : Nat} (hk : k < 32) : nI 1 <<< (nI k &&& 31) = nI (2 ^ k) := by
  rw [nI_shl hk, Nat.one_shiftLeft]
theorem nI_shr {a k : Nat} (ha : a < 2 ^ 31) (hk : k < 32) : nI a >>> (nI k &&& 31) = nI (a >>> k) := by
  apply Int32.toInt_inj.mp
  have h1 : (nI a >>> (nI k &&& 31)).toInt = (nI a).toInt >>> k := by
    have h := nI_s31 k hk
    rw [← Int32.toInt_toBitVec, Int32.toBitVec_shiftRight]
    show (BitVec.sshiftRight' (nI a).toBitVec ((nI k &&& 31).toBitVec.smod 32)).toInt = _
    rw [BitVec.sshiftRight_eq', h, BitVec.toInt_sshiftRight]
    rfl
  have h2 : a >>> k < 2 ^ 31 := Nat.lt_of_le_of_lt (Nat.shiftRight_le a k) ha
  rw [h1, nI_toInt ha, nI_toInt h2]
  rfl
theorem nI_sub {a b : Nat} (h : b ≤ a) : nI a - nI b = nI (a - b) := pk_sub h
theorem fg_bit1 (a k : Nat) : (a >>> k) &&& 1 = (a.testBit k).toNat := by
  rw [Nat.testBit_eq_decide_div_mod_eq, Nat.and_one_is_mod, Nat.shiftRight_eq_div_pow]
  rcases Nat.mod_two_eq_zero_or_one (a / 2 ^ k) with h | h <;> simp [h]
def fg_okA (as : List Value) : Bool := as.all (fun v => match v with
  | .int _ => true
  | .ref _ => true
  | .null => true
  | _ => false)
theorem fg_okAs {as : List Value} (h : fg_okA as = true) : ∀ v ∈ as, v.category = 1 ∧ fg_nr v = true := by
  intro v hv
  have h1 := List.all_eq_true.mp h v hv
  cases v <;> first | exact ⟨rfl, rfl⟩ | cases h1
theorem fg_isOf {M : fg_M} {C : String} {a ci N : Nat} {T : u_T} (h : fg_lay a = (ci, N)) (hc : fg_cl[ci]? = some (C, T, N)) (hl : a < M.2.2) : fg_is M C a := Or.inl ⟨ci, N, T, h, hc, hl⟩

theorem ic_0 : Int32.ofInt 0 = nI 0 := by decide
theorem ic_1 : Int32.ofInt 1 = nI 1 := by decide
theorem ic_2 : Int32.ofInt 2 = nI 2 := by decide
theorem ic_3 : Int32.ofInt 3 = nI 3 := by decide
theorem ic_4 : Int32.ofInt 4 = nI 4 := by decide
theorem ic_5 : Int32.ofInt 5 = nI 5 := by decide
theorem ic_m1 : Int32.ofInt (-1) = (-1 : Int32) := by decide
theorem ib_m2 : (Int8.ofInt (-2)).toInt32 = (-2 : Int32) := by decide
theorem ib_6 : (Int8.ofInt (6)).toInt32 = nI 6 := by decide
theorem ib_7 : (Int8.ofInt (7)).toInt32 = nI 7 := by decide
theorem ib_8 : (Int8.ofInt (8)).toInt32 = nI 8 := by decide
theorem ib_9 : (Int8.ofInt (9)).toInt32 = nI 9 := by decide
theorem ib_10 : (Int8.ofInt (10)).toInt32 = nI 10 := by decide
theorem ib_11 : (Int8.ofInt (11)).toInt32 = nI 11 := by decide
theorem ib_12 : (Int8.ofInt (12)).toInt32 = nI 12 := by decide
theorem ib_13 : (Int8.ofInt (13)).toInt32 = nI 13 := by decide
theorem ib_14 : (Int8.ofInt (14)).toInt32 = nI 14 := by decide
theorem ib_15 : (Int8.ofInt (15)).toInt32 = nI 15 := by decide
theorem ib_16 : (Int8.ofInt (16)).toInt32 = nI 16 := by decide
theorem ib_17 : (Int8.ofInt (17)).toInt32 = nI 17 := by decide
theorem ib_18 : (Int8.ofInt (18)).toInt32 = nI 18 := by decide
theorem ib_19 : (Int8.ofInt (19)).toInt32 = nI 19 := by decide
theorem ib_20 : (Int8.ofInt (20)).toInt32 = nI 20 := by decide
theorem ib_21 : (Int8.ofInt (21)).toInt32 = nI 21 := by decide
theorem ib_23 : (Int8.ofInt (23)).toInt32 = nI 23 := by decide
theorem ib_24 : (Int8.ofInt (24)).toInt32 = nI 24 := by decide
theorem ib_29 : (Int8.ofInt (29)).toInt32 = nI 29 := by decide
theorem ib_30 : (Int8.ofInt (30)).toInt32 = nI 30 := by decide
theorem ib_31 : (Int8.ofInt (31)).toInt32 = nI 31 := by decide
theorem ib_32 : (Int8.ofInt (32)).toInt32 = nI 32 := by decide
theorem ib_40 : (Int8.ofInt (40)).toInt32 = nI 40 := by decide
theorem ib_48 : (Int8.ofInt (48)).toInt32 = nI 48 := by decide
theorem ib_55 : (Int8.ofInt (55)).toInt32 = nI 55 := by decide
theorem ib_57 : (Int8.ofInt (57)).toInt32 = nI 57 := by decide
theorem ib_59 : (Int8.ofInt (59)).toInt32 = nI 59 := by decide
theorem ib_63 : (Int8.ofInt (63)).toInt32 = nI 63 := by decide
theorem ib_79 : (Int8.ofInt (79)).toInt32 = nI 79 := by decide
theorem ib_96 : (Int8.ofInt (96)).toInt32 = nI 96 := by decide
theorem ib_97 : (Int8.ofInt (97)).toInt32 = nI 97 := by decide
theorem ib_98 : (Int8.ofInt (98)).toInt32 = nI 98 := by decide
theorem ib_99 : (Int8.ofInt (99)).toInt32 = nI 99 := by decide
theorem ib_100 : (Int8.ofInt (100)).toInt32 = nI 100 := by decide
theorem ib_101 : (Int8.ofInt (101)).toInt32 = nI 101 := by decide
theorem ib_102 : (Int8.ofInt (102)).toInt32 = nI 102 := by decide
theorem ib_110 : (Int8.ofInt (110)).toInt32 = nI 110 := by decide
theorem ib_117 : (Int8.ofInt (117)).toInt32 = nI 117 := by decide
theorem ib_119 : (Int8.ofInt (119)).toInt32 = nI 119 := by decide
theorem ib_122 : (Int8.ofInt (122)).toInt32 = nI 122 := by decide
theorem ib_127 : (Int8.ofInt (127)).toInt32 = nI 127 := by decide
theorem is_139 : (Int16.ofInt (139)).toInt32 = nI 139 := by decide
theorem is_152 : (Int16.ofInt (152)).toInt32 = nI 152 := by decide
theorem is_255 : (Int16.ofInt (255)).toInt32 = nI 255 := by decide
theorem is_600 : (Int16.ofInt (600)).toInt32 = nI 600 := by decide
theorem is_610 : (Int16.ofInt (610)).toInt32 = nI 610 := by decide
theorem is_914 : (Int16.ofInt (914)).toInt32 = nI 914 := by decide
theorem is_1023 : (Int16.ofInt (1023)).toInt32 = nI 1023 := by decide
theorem is_1024 : (Int16.ofInt (1024)).toInt32 = nI 1024 := by decide
theorem is_1280 : (Int16.ofInt (1280)).toInt32 = nI 1280 := by decide
theorem is_5120 : (Int16.ofInt (5120)).toInt32 = nI 5120 := by decide
theorem is_12345 : (Int16.ofInt (12345)).toInt32 = nI 12345 := by decide
section FGX
variable {E : fg_E} {Y : fg_Y} {d n0 n1 : Nat} {Q : Option Value → fg_M → Prop} {pc : Nat} {L st : List Value} {M : fg_M}
theorem fg_iaddN {a b : Nat} (hd : decode Y.2.1 pc = .ok (.iadd, 1))  (k : fg_wp E Y d n0 n1 Q (pc + 1) L (.int (nI (a + b)) :: st) M) : fg_wp E Y d n0 n1 Q pc L (.int (nI b) :: .int (nI a) :: st) M := fg_iadd hd (by rw [nI_add]; exact k)
theorem fg_imulN {a b : Nat} (hd : decode Y.2.1 pc = .ok (.imul, 1))  (k : fg_wp E Y d n0 n1 Q (pc + 1) L (.int (nI (a * b)) :: st) M) : fg_wp E Y d n0 n1 Q pc L (.int (nI b) :: .int (nI a) :: st) M := fg_imul hd (by rw [pk_mul]; exact k)
theorem fg_isubN {a b : Nat} (hd : decode Y.2.1 pc = .ok (.isub, 1)) (h : b ≤ a) (k : fg_wp E Y d n0 n1 Q (pc + 1) L (.int (nI (a - b)) :: st) M) : fg_wp E Y d n0 n1 Q pc L (.int (nI b) :: .int (nI a) :: st) M := fg_isub hd (by rw [nI_sub h]; exact k)
theorem fg_iandN {a b : Nat} (hd : decode Y.2.1 pc = .ok (.iand, 1))  (k : fg_wp E Y d n0 n1 Q (pc + 1) L (.int (nI (a &&& b)) :: st) M) : fg_wp E Y d n0 n1 Q pc L (.int (nI b) :: .int (nI a) :: st) M := fg_iand hd (by rw [nI_and]; exact k)
theorem fg_iorN {a b : Nat} (hd : decode Y.2.1 pc = .ok (.ior, 1))  (k : fg_wp E Y d n0 n1 Q (pc + 1) L (.int (nI (a ||| b)) :: st) M) : fg_wp E Y d n0 n1 Q pc L (.int (nI b) :: .int (nI a) :: st) M := fg_ior hd (by rw [nI_or]; exact k)
theorem fg_ixorN {a b : Nat} (hd : decode Y.2.1 pc = .ok (.ixor, 1))  (k : fg_wp E Y d n0 n1 Q (pc + 1) L (.int (nI (a ^^^ b)) :: st) M) : fg_wp E Y d n0 n1 Q pc L (.int (nI b) :: .int (nI a) :: st) M := fg_ixor hd (by rw [nI_xor]; exact k)
theorem fg_iandD {a b : Nat} (hd : decode Y.2.1 pc = .ok (.iand, 1))  (k : fg_wp E Y d n0 n1 Q (pc + 1) L (.int (nI (fg_df a b)) :: st) M) : fg_wp E Y d n0 n1 Q pc L (.int (nI b ^^^ (-1)) :: .int (nI a) :: st) M := fg_iand hd (by rw [nI_df]; exact k)
theorem fg_iandE {a b : Nat} (hd : decode Y.2.1 pc = .ok (.iand, 1))  (k : fg_wp E Y d n0 n1 Q (pc + 1) L (.int (nI (fg_df b a)) :: st) M) : fg_wp E Y d n0 n1 Q pc L (.int (nI b) :: .int (nI a ^^^ (-1)) :: st) M := fg_iand hd (by rw [nI_df']; exact k)
theorem fg_ishlN {a b : Nat} (hd : decode Y.2.1 pc = .ok (.ishl, 1)) (h : b < 32) (k : fg_wp E Y d n0 n1 Q (pc + 1) L (.int (nI (a <<< b)) :: st) M) : fg_wp E Y d n0 n1 Q pc L (.int (nI b) :: .int (nI a) :: st) M := fg_ishl hd (by rw [nI_shl h]; exact k)
theorem fg_ishrN {a b : Nat} (hd : decode Y.2.1 pc = .ok (.ishr, 1)) (h : a < 2 ^ 31) (h2 : b < 32) (k : fg_wp E Y d n0 n1 Q (pc + 1) L (.int (nI (a >>> b)) :: st) M) : fg_wp E Y d n0 n1 Q pc L (.int (nI b) :: .int (nI a) :: st) M := fg_ishr hd (by rw [nI_shr h h2]; exact k)
theorem fg_ishl1 {b : Nat} (hd : decode Y.2.1 pc = .ok (.ishl, 1)) (h : b < 32) (k : fg_wp E Y d n0 n1 Q (pc + 1) L (.int (nI (2 ^ b)) :: st) M) : fg_wp E Y d n0 n1 Q pc L (.int (nI b) :: .int (nI 1) :: st) M := fg_ishl hd (by rw [nI_one_shl h]; exact k)
theorem fg_icmp_eqN {a b : Nat} {off : Int} {tgt : Nat} (hd : decode Y.2.1 pc = .ok (.if_icmp .eq off, 3)) (ht : (pc : Int) + off = (tgt : Int)) (ha : a < 2 ^ 31) (hb : b < 2 ^ 31) (kt : a = b → fg_wp E Y d n0 n1 Q tgt L st M) (kf : ¬ a = b → fg_wp E Y d n0 n1 Q (pc + 3) L st M) : fg_wp E Y d n0 n1 Q pc L (.int (nI b) :: .int (nI a) :: st) M := fg_icmp_eq hd ht (fun z => kt (by have e1 := nI_eq ha hb; have e2 := nI_leI ha hb; have e3 := nI_leI hb ha; have e4 := nI_ltI ha hb; have e5 := nI_ltI hb ha; simp only [e1, e2, e3, e4, e5] at z; omega)) (fun z => kf (by have e1 := nI_eq ha hb; have e2 := nI_leI ha hb; have e3 := nI_leI hb ha; have e4 := nI_ltI ha hb; have e5 := nI_ltI hb ha; simp only [e1, e2, e3, e4, e5] at z; omega))
theorem fg_icmp_neN {a b : Nat} {off : Int} {tgt : Nat} (hd : decode Y.2.1 pc = .ok (.if_icmp .ne off, 3)) (ht : (pc : Int) + off = (tgt : Int)) (ha : a < 2 ^ 31) (hb : b < 2 ^ 31) (kt : ¬ a = b → fg_wp E Y d n0 n1 Q tgt L st M) (kf : a = b → fg_wp E Y d n0 n1 Q (pc + 3) L st M) : fg_wp E Y d n0 n1 Q pc L (.int (nI b) :: .int (nI a) :: st) M := fg_icmp_ne hd ht (fun z => kt (by have e1 := nI_eq ha hb; have e2 := nI_leI ha hb; have e3 := nI_leI hb ha; have e4 := nI_ltI ha hb; have e5 := nI_ltI hb ha; simp only [e1, e2, e3, e4, e5] at z; omega)) (fun z => kf (by have e1 := nI_eq ha hb; have e2 := nI_leI ha hb; have e3 := nI_leI hb ha; have e4 := nI_ltI ha hb; have e5 := nI_ltI hb ha; simp only [e1, e2, e3, e4, e5] at z; omega))
theorem fg_icmp_ltN {a b : Nat} {off : Int} {tgt : Nat} (hd : decode Y.2.1 pc = .ok (.if_icmp .lt off, 3)) (ht : (pc : Int) + off = (tgt : Int)) (ha : a < 2 ^ 31) (hb : b < 2 ^ 31) (kt : a < b → fg_wp E Y d n0 n1 Q tgt L st M) (kf : b ≤ a → fg_wp E Y d n0 n1 Q (pc + 3) L st M) : fg_wp E Y d n0 n1 Q pc L (.int (nI b) :: .int (nI a) :: st) M := fg_icmp_lt hd ht (fun z => kt (by have e1 := nI_eq ha hb; have e2 := nI_leI ha hb; have e3 := nI_leI hb ha; have e4 := nI_ltI ha hb; have e5 := nI_ltI hb ha; simp only [e1, e2, e3, e4, e5] at z; omega)) (fun z => kf (by have e1 := nI_eq ha hb; have e2 := nI_leI ha hb; have e3 := nI_leI hb ha; have e4 := nI_ltI ha hb; have e5 := nI_ltI hb ha; simp only [e1, e2, e3, e4, e5] at z; omega))
theorem fg_icmp_geN {a b : Nat} {off : Int} {tgt : Nat} (hd : decode Y.2.1 pc = .ok (.if_icmp .ge off, 3)) (ht : (pc : Int) + off = (tgt : Int)) (ha : a < 2 ^ 31) (hb : b < 2 ^ 31) (kt : b ≤ a → fg_wp E Y d n0 n1 Q tgt L st M) (kf : a < b → fg_wp E Y d n0 n1 Q (pc + 3) L st M) : fg_wp E Y d n0 n1 Q pc L (.int (nI b) :: .int (nI a) :: st) M := fg_icmp_ge hd ht (fun z => kt (by have e1 := nI_eq ha hb; have e2 := nI_leI ha hb; have e3 := nI_leI hb ha; have e4 := nI_ltI ha hb; have e5 := nI_ltI hb ha; simp only [e1, e2, e3, e4, e5] at z; omega)) (fun z => kf (by have e1 := nI_eq ha hb; have e2 := nI_leI ha hb; have e3 := nI_leI hb ha; have e4 := nI_ltI ha hb; have e5 := nI_ltI hb ha; simp only [e1, e2, e3, e4, e5] at z; omega))
theorem fg_icmp_gtN {a b : Nat} {off : Int} {tgt : Nat} (hd : decode Y.2.1 pc = .ok (.if_icmp .gt off, 3)) (ht : (pc : Int) + off = (tgt : Int)) (ha : a < 2 ^ 31) (hb : b < 2 ^ 31) (kt : b < a → fg_wp E Y d n0 n1 Q tgt L st M) (kf : a ≤ b → fg_wp E Y d n0 n1 Q (pc + 3) L st M) : fg_wp E Y d n0 n1 Q pc L (.int (nI b) :: .int (nI a) :: st) M := fg_icmp_gt hd ht (fun z => kt (by have e1 := nI_eq ha hb; have e2 := nI_leI ha hb; have e3 := nI_leI hb ha; have e4 := nI_ltI ha hb; have e5 := nI_ltI hb ha; simp only [e1, e2, e3, e4, e5] at z; omega)) (fun z => kf (by have e1 := nI_eq ha hb; have e2 := nI_leI ha hb; have e3 := nI_leI hb ha; have e4 := nI_ltI ha hb; have e5 := nI_ltI hb ha; simp only [e1, e2, e3, e4, e5] at z; omega))
theorem fg_icmp_leN {a b : Nat} {off : Int} {tgt : Nat} (hd : decode Y.2.1 pc = .ok (.if_icmp .le off, 3)) (ht : (pc : Int) + off = (tgt : Int)) (ha : a < 2 ^ 31) (hb : b < 2 ^ 31) (kt : a ≤ b → fg_wp E Y d n0 n1 Q tgt L st M) (kf : b < a → fg_wp E Y d n0 n1 Q (pc + 3) L st M) : fg_wp E Y d n0 n1 Q pc L (.int (nI b) :: .int (nI a) :: st) M := fg_icmp_le hd ht (fun z => kt (by have e1 := nI_eq ha hb; have e2 := nI_leI ha hb; have e3 := nI_leI hb ha; have e4 := nI_ltI ha hb; have e5 := nI_ltI hb ha; simp only [e1, e2, e3, e4, e5] at z; omega)) (fun z => kf (by have e1 := nI_eq ha hb; have e2 := nI_leI ha hb; have e3 := nI_leI hb ha; have e4 := nI_ltI ha hb; have e5 := nI_ltI hb ha; simp only [e1, e2, e3, e4, e5] at z; omega))
theorem fg_if_eqN {a : Nat} {off : Int} {tgt : Nat} (hd : decode Y.2.1 pc = .ok (.ifCond .eq off, 3)) (ht : (pc : Int) + off = (tgt : Int)) (ha : a < 2 ^ 31) (kt : a = 0 → fg_wp E Y d n0 n1 Q tgt L st M) (kf : ¬ a = 0 → fg_wp E Y d n0 n1 Q (pc + 3) L st M) : fg_wp E Y d n0 n1 Q pc L (.int (nI a) :: st) M := fg_if_eq hd ht (fun z => kt (by have e0 : (0 : Int32) = nI 0 := rfl; have e1 := nI_eq ha (b := 0) (by decide); have e2 := nI_leI ha (b := 0) (by decide); have e4 := nI_ltI (a := 0) (by decide) ha; rw [e0] at z; simp only [e1, e2, e4] at z; omega)) (fun z => kf (by have e0 : (0 : Int32) = nI 0 := rfl; have e1 := nI_eq ha (b := 0) (by decide); have e2 := nI_leI ha (b := 0) (by decide); have e4 := nI_ltI (a := 0) (by decide) ha; rw [e0] at z; simp only [e1, e2, e4] at z; omega))
theorem fg_if_neN {a : Nat} {off : Int} {tgt : Nat} (hd : decode Y.2.1 pc = .ok (.ifCond .ne off, 3)) (ht : (pc : Int) + off = (tgt : Int)) (ha : a < 2 ^ 31) (kt : ¬ a = 0 → fg_wp E Y d n0 n1 Q tgt L st M) (kf : a = 0 → fg_wp E Y d n0 n1 Q (pc + 3) L st M) : fg_wp E Y d n0 n1 Q pc L (.int (nI a) :: st) M := fg_if_ne hd ht (fun z => kt (by have e0 : (0 : Int32) = nI 0 := rfl; have e1 := nI_eq ha (b := 0) (by decide); have e2 := nI_leI ha (b := 0) (by decide); have e4 := nI_ltI (a := 0) (by decide) ha; rw [e0] at z; simp only [e1, e2, e4] at z; omega)) (fun z => kf (by have e0 : (0 : Int32) = nI 0 := rfl; have e1 := nI_eq ha (b := 0) (by decide); have e2 := nI_leI ha (b := 0) (by decide); have e4 := nI_ltI (a := 0) (by decide) ha; rw [e0] at z; simp only [e1, e2, e4] at z; omega))
theorem fg_if_gtN {a : Nat} {off : Int} {tgt : Nat} (hd : decode Y.2.1 pc = .ok (.ifCond .gt off, 3)) (ht : (pc : Int) + off = (tgt : Int)) (ha : a < 2 ^ 31) (kt : 0 < a → fg_wp E Y d n0 n1 Q tgt L st M) (kf : a = 0 → fg_wp E Y d n0 n1 Q (pc + 3) L st M) : fg_wp E Y d n0 n1 Q pc L (.int (nI a) :: st) M := fg_if_gt hd ht (fun z => kt (by have e0 : (0 : Int32) = nI 0 := rfl; have e1 := nI_eq ha (b := 0) (by decide); have e2 := nI_leI ha (b := 0) (by decide); have e4 := nI_ltI (a := 0) (by decide) ha; rw [e0] at z; simp only [e1, e2, e4] at z; omega)) (fun z => kf (by have e0 : (0 : Int32) = nI 0 := rfl; have e1 := nI_eq ha (b := 0) (by decide); have e2 := nI_leI ha (b := 0) (by decide); have e4 := nI_ltI (a := 0) (by decide) ha; rw [e0] at z; simp only [e1, e2, e4] at z; omega))
theorem fg_if_leN {a : Nat} {off : Int} {tgt : Nat} (hd : decode Y.2.1 pc = .ok (.ifCond .le off, 3)) (ht : (pc : Int) + off = (tgt : Int)) (ha : a < 2 ^ 31) (kt : a = 0 → fg_wp E Y d n0 n1 Q tgt L st M) (kf : 0 < a → fg_wp E Y d n0 n1 Q (pc + 3) L st M) : fg_wp E Y d n0 n1 Q pc L (.int (nI a) :: st) M := fg_if_le hd ht (fun z => kt (by have e0 : (0 : Int32) = nI 0 := rfl; have e1 := nI_eq ha (b := 0) (by decide); have e2 := nI_leI ha (b := 0) (by decide); have e4 := nI_ltI (a := 0) (by decide) ha; rw [e0] at z; simp only [e1, e2, e4] at z; omega)) (fun z => kf (by have e0 : (0 : Int32) = nI 0 := rfl; have e1 := nI_eq ha (b := 0) (by decide); have e2 := nI_leI ha (b := 0) (by decide); have e4 := nI_ltI (a := 0) (by decide) ha; rw [e0] at z; simp only [e1, e2, e4] at z; omega))
theorem fg_if_ltN {a : Nat} {off : Int} {tgt : Nat} (hd : decode Y.2.1 pc = .ok (.ifCond .lt off, 3)) (ht : (pc : Int) + off = (tgt : Int)) (ha : a < 2 ^ 31) (k : fg_wp E Y d n0 n1 Q (pc + 3) L st M) : fg_wp E Y d n0 n1 Q pc L (.int (nI a) :: st) M := fg_if_lt hd ht (fun z => absurd z (nI_pos ha)) (fun _ => k)
theorem fg_if_geN {a : Nat} {off : Int} {tgt : Nat} (hd : decode Y.2.1 pc = .ok (.ifCond .ge off, 3)) (ht : (pc : Int) + off = (tgt : Int)) (ha : a < 2 ^ 31) (k : fg_wp E Y d n0 n1 Q tgt L st M) : fg_wp E Y d n0 n1 Q pc L (.int (nI a) :: st) M := fg_if_ge hd ht (fun _ => k) (fun z => absurd z (by first | exact nI_pos ha | exact fun h => h (nI_pos' ha)))
theorem fg_ifbit_eq {a b : Nat} {off : Int} {tgt : Nat} (hd : decode Y.2.1 pc = .ok (.ifCond .eq off, 3)) (ht : (pc : Int) + off = (tgt : Int)) (kt : a.testBit b = false → fg_wp E Y d n0 n1 Q tgt L st M) (kf : a.testBit b = true → fg_wp E Y d n0 n1 Q (pc + 3) L st M) : fg_wp E Y d n0 n1 Q pc L (.int (nI ((a >>> b) &&& 1)) :: st) M := by
  rw [fg_bit1]
  refine fg_if_eqN hd ht (by cases a.testBit b <;> decide) (fun z => kt ?_) (fun z => kf ?_) <;> cases h : a.testBit b <;> simp [h] at z ⊢
theorem fg_ifbit_ne {a b : Nat} {off : Int} {tgt : Nat} (hd : decode Y.2.1 pc = .ok (.ifCond .ne off, 3)) (ht : (pc : Int) + off = (tgt : Int)) (kt : a.testBit b = true → fg_wp E Y d n0 n1 Q tgt L st M) (kf : a.testBit b = false → fg_wp E Y d n0 n1 Q (pc + 3) L st M) : fg_wp E Y d n0 n1 Q pc L (.int (nI ((a >>> b) &&& 1)) :: st) M := by
  rw [fg_bit1]
  refine fg_if_neN hd ht (by cases a.testBit b <;> decide) (fun z => kt ?_) (fun z => kf ?_) <;> cases h : a.testBit b <;> simp [h] at z ⊢
theorem fg_icmpbit_eq {a b : Nat} {off : Int} {tgt : Nat} (hd : decode Y.2.1 pc = .ok (.if_icmp .eq off, 3)) (ht : (pc : Int) + off = (tgt : Int)) (kt : a.testBit b = true → fg_wp E Y d n0 n1 Q tgt L st M) (kf : a.testBit b = false → fg_wp E Y d n0 n1 Q (pc + 3) L st M) : fg_wp E Y d n0 n1 Q pc L (.int (nI 1) :: .int (nI ((a >>> b) &&& 1)) :: st) M := by
  rw [fg_bit1]
  refine fg_icmp_eqN hd ht (by cases a.testBit b <;> decide) (by decide) (fun z => kt ?_) (fun z => kf ?_) <;> cases h : a.testBit b <;> simp [h] at z ⊢
theorem fg_icmpbit_ne {a b : Nat} {off : Int} {tgt : Nat} (hd : decode Y.2.1 pc = .ok (.if_icmp .ne off, 3)) (ht : (pc : Int) + off = (tgt : Int)) (kt : a.testBit b = false → fg_wp E Y d n0 n1 Q tgt L st M) (kf : a.testBit b = true → fg_wp E Y d n0 n1 Q (pc + 3) L st M) : fg_wp E Y d n0 n1 Q pc L (.int (nI 1) :: .int (nI ((a >>> b) &&& 1)) :: st) M := by
  rw [fg_bit1]
  refine fg_icmp_neN hd ht (by cases a.testBit b <;> decide) (by decide) (fun z => kt ?_) (fun z => kf ?_) <;> cases h : a.testBit b <;> simp [h] at z ⊢
theorem fg_getV {index ci N j a : Nat} {v : Int32} (hd : decode Y.2.1 pc = .ok (.getfield index, 3)) (hf : fg_F Y.1.cls index ci N j) (ha : fg_lay a = (ci, N)) (hr : fg_isR (fg_ty ci j) = false) (hlt : a < M.2.2) (hv : M.1 a j = v) (k : fg_wp E Y d n0 n1 Q (pc + 3) L (.int v :: st) M) : fg_wp E Y d n0 n1 Q pc L (.ref a :: st) M := fg_getI hd hf ha hr hlt (by rw [hv]; exact k)
theorem fg_ialdN {a n i : Nat} (hd : decode Y.2.1 pc = .ok (.iaload, 1)) (ha : fg_lay a = (10, n)) (hlt : a < M.2.2) (hi : i < n) (k : fg_wp E Y d n0 n1 Q (pc + 1) L (.int (M.1 a i) :: st) M) : fg_wp E Y d n0 n1 Q pc L (.int (nI i) :: .ref a :: st) M := by
  have hn := fg_szLe ha
  have hc : (nI i).toNatClampNeg = i := nI_clamp (by omega)
  refine fg_iald hd ha hlt (vp_in_nI hi (by omega)) ?_
  rw [hc]
  exact k
theorem fg_ialdV {a n i : Nat} {v : Int32} (hd : decode Y.2.1 pc = .ok (.iaload, 1)) (ha : fg_lay a = (10, n)) (hlt : a < M.2.2) (hi : i < n) (hv : M.1 a i = v) (k : fg_wp E Y d n0 n1 Q (pc + 1) L (.int v :: st) M) : fg_wp E Y d n0 n1 Q pc L (.int (nI i) :: .ref a :: st) M := fg_ialdN hd ha hlt hi (by rw [hv]; exact k)
theorem fg_baldN {a n i : Nat} (hd : decode Y.2.1 pc = .ok (.baload, 1)) (ha : fg_lay a = (11, n)) (hlt : a < M.2.2) (hi : i < n) (k : fg_wp E Y d n0 n1 Q (pc + 1) L (.int (M.1 a i) :: st) M) : fg_wp E Y d n0 n1 Q pc L (.int (nI i) :: .ref a :: st) M := by
  have hn := fg_szLe ha
  have hc : (nI i).toNatClampNeg = i := nI_clamp (by omega)
  refine fg_bald hd ha hlt (vp_in_nI hi (by omega)) ?_
  rw [hc]
  exact k
theorem fg_baldV {a n i : Nat} {v : Int32} (hd : decode Y.2.1 pc = .ok (.baload, 1)) (ha : fg_lay a = (11, n)) (hlt : a < M.2.2) (hi : i < n) (hv : M.1 a i = v) (k : fg_wp E Y d n0 n1 Q (pc + 1) L (.int v :: st) M) : fg_wp E Y d n0 n1 Q pc L (.int (nI i) :: .ref a :: st) M := fg_baldN hd ha hlt hi (by rw [hv]; exact k)
theorem fg_zaldN {a n i : Nat} (hd : decode Y.2.1 pc = .ok (.baload, 1)) (ha : fg_lay a = (12, n)) (hlt : a < M.2.2) (hi : i < n) (k : fg_wp E Y d n0 n1 Q (pc + 1) L (.int (M.1 a i) :: st) M) : fg_wp E Y d n0 n1 Q pc L (.int (nI i) :: .ref a :: st) M := by
  have hn := fg_szLe ha
  have hc : (nI i).toNatClampNeg = i := nI_clamp (by omega)
  refine fg_zald hd ha hlt (vp_in_nI hi (by omega)) ?_
  rw [hc]
  exact k
theorem fg_zaldV {a n i : Nat} {v : Int32} (hd : decode Y.2.1 pc = .ok (.baload, 1)) (ha : fg_lay a = (12, n)) (hlt : a < M.2.2) (hi : i < n) (hv : M.1 a i = v) (k : fg_wp E Y d n0 n1 Q (pc + 1) L (.int v :: st) M) : fg_wp E Y d n0 n1 Q pc L (.int (nI i) :: .ref a :: st) M := fg_zaldN hd ha hlt hi (by rw [hv]; exact k)
theorem fg_iastN {a n i : Nat} {x : Int32} (hd : decode Y.2.1 pc = .ok (.iastore, 1)) (ha : fg_lay a = (10, n)) (hlt : a < M.2.2) (hi : i < n) (k : fg_wp E Y d n0 n1 Q (pc + 1) L st (fg_si M a i (x))) : fg_wp E Y d n0 n1 Q pc L (.int x :: .int (nI i) :: .ref a :: st) M := by
  have hn := fg_szLe ha
  have hc : (nI i).toNatClampNeg = i := nI_clamp (by omega)
  refine fg_iast hd ha hlt (vp_in_nI hi (by omega)) ?_
  rw [hc]
  exact k
theorem fg_bastN {a n i : Nat} {x : Int32} (hd : decode Y.2.1 pc = .ok (.bastore, 1)) (ha : fg_lay a = (11, n)) (hlt : a < M.2.2) (hi : i < n) (k : fg_wp E Y d n0 n1 Q (pc + 1) L st (fg_si M a i (vp_nar .byte x))) : fg_wp E Y d n0 n1 Q pc L (.int x :: .int (nI i) :: .ref a :: st) M := by
  have hn := fg_szLe ha
  have hc : (nI i).toNatClampNeg = i := nI_clamp (by omega)
  refine fg_bast hd ha hlt (vp_in_nI hi (by omega)) ?_
  rw [hc]
  exact k
theorem fg_zastN {a n i : Nat} {x : Int32} (hd : decode Y.2.1 pc = .ok (.bastore, 1)) (ha : fg_lay a = (12, n)) (hlt : a < M.2.2) (hi : i < n) (k : fg_wp E Y d n0 n1 Q (pc + 1) L st (fg_si M a i (vp_nar .boolean x))) : fg_wp E Y d n0 n1 Q pc L (.int x :: .int (nI i) :: .ref a :: st) M := by
  have hn := fg_szLe ha
  have hc : (nI i).toNatClampNeg = i := nI_clamp (by omega)
  refine fg_zast hd ha hlt (vp_in_nI hi (by omega)) ?_
  rw [hc]
  exact k
theorem fg_aaldN {a n kk b i : Nat} (hd : decode Y.2.1 pc = .ok (.aaload, 1)) (ha : fg_lay a = (kk, n)) (hk : 13 ≤ kk ∧ kk < 17) (hlt : a < M.2.2) (hi : i < n) (hv : M.2.1 a i = some b) (k : fg_wp E Y d n0 n1 Q (pc + 1) L (.ref b :: st) M) : fg_wp E Y d n0 n1 Q pc L (.int (nI i) :: .ref a :: st) M := by
  have hn := fg_szLe ha
  have hc : (nI i).toNatClampNeg = i := nI_clamp (by omega)
  exact fg_aald hd ha hk hlt (vp_in_nI hi (by omega)) (by rw [hc]; exact hv) k
theorem fg_top {x y : Int32} (h : x = y) (k : fg_wp E Y d n0 n1 Q pc L (.int y :: st) M) : fg_wp E Y d n0 n1 Q pc L (.int x :: st) M := h ▸ k
theorem fg_iincN {i x c v : Nat} {n : Int} (hd : decode Y.2.1 pc = .ok (.iinc i n, 3)) (hv : L[i]? = some (.int (nI x))) (hn : Int32.ofInt n = nI c) (hx : x + c = v) (k : fg_wp E Y d n0 n1 Q (pc + 3) (L.set i (.int (nI v))) st M) : fg_wp E Y d n0 n1 Q pc L st M := fg_iinc hd hv (by rw [hn, nI_add, hx]) k
end FGX
/-! where the references lead, once all is made: R is (the town of folk, of copy, of search, the tape that is read) -/
abbrev fg_T4 : Type := Option Nat × Option Nat × Option Nat × Option Nat
def fg_rhoL : List (List Nat) := [[101, 139, 254, 255, 273, 277, 281, 286], [102, 0, 0, 0, 0, 0, 103, 132], [], [104, 118], [0, 0, 105, 107, 109, 111, 113, 115, 117], [0, 106], [], [0, 108], [], [0, 110], [], [0, 112], [], [0, 114], [], [0, 116], [], [], [0, 0, 119, 121, 123, 125, 127, 129, 131], [0, 120], [], [0, 122], [], [0, 124], [], [0, 126], [], [0, 128], [], [0, 130], [], [], [133, 135, 137], [0, 134], [], [0, 136], [], [0, 138], [], [140, 178, 216], [141, 0, 0, 0, 0, 0, 142, 171], [], [143, 157], [0, 0, 144, 146, 148, 150, 152, 154, 156], [0, 145], [], [0, 147], [], [0, 149], [], [0, 151], [], [0, 153], [], [0, 155], [], [], [0, 0, 158, 160, 162, 164, 166, 168, 170], [0, 159], [], [0, 161], [], [0, 163], [], [0, 165], [], [0, 167], [], [0, 169], [], [], [172, 174, 176], [0, 173], [], [0, 175], [], [0, 177], [], [179, 0, 0, 0, 0, 0, 180, 209], [], [181, 195], [0, 0, 182, 184, 186, 188, 190, 192, 194], [0, 183], [], [0, 185], [], [0, 187], [], [0, 189], [], [0, 191], [], [0, 193], [], [], [0, 0, 196, 198, 200, 202, 204, 206, 208], [0, 197], [], [0, 199], [], [0, 201], [], [0, 203], [], [0, 205], [], [0, 207], [], [], [210, 212, 214], [0, 211], [], [0, 213], [], [0, 215], [], [217, 0, 0, 0, 0, 0, 218, 247], [], [219, 233], [0, 0, 220, 222, 224, 226, 228, 230, 232], [0, 221], [], [0, 223], [], [0, 225], [], [0, 227], [], [0, 229], [], [0, 231], [], [], [0, 0, 234, 236, 238, 240, 242, 244, 246], [0, 235], [], [0, 237], [], [0, 239], [], [0, 241], [], [0, 243], [], [0, 245], [], [], [248, 250, 252], [0, 249], [], [0, 251], [], [0, 253], [], [], [256, 270, 0, 0, 272], [0, 0, 257, 259, 261, 263, 265, 267, 269], [0, 258], [], [0, 260], [], [0, 262], [], [0, 264], [], [0, 266], [], [0, 268], [], [], [0, 271], [], [0, 1, 2, 3, 4, 5, 6, 7, 8, 9, 10, 11, 12, 13, 14, 15, 16], [0, 0, 0, 274, 275, 276], [], [], [], [0, 0, 0, 278, 279, 280], [], [], [], [282, 283, 284, 285], [], [], [], [], [], [288, 289, 0, 0, 0, 0, 0, 0, 0, 0, 290, 291, 292, 293, 294, 0, 0, 0, 0, 0, 0, 295, 296, 297, 298, 299, 0, 300, 301, 302, 303], [], [], [], [], [], [], [], [], [], [], [], [], [], [], [], []]
def fg_rho (R : fg_T4) (a j : Nat) : Option Nat := if a = 273 ∧ j = 0 then R.1 else if a = 277 ∧ j = 0 then R.2.1 else if a = 281 ∧ j = 4 then R.2.2.1 else if a = 255 ∧ j = 5 then R.2.2.2 else if a = 272 ∧ j = 0 then some 0 else match (fg_rhoL.getD (a - 100) []).getD j 0 with
  | 0 => none
  | b + 1 => some (b + 1)
theorem rh_100_0 (R : fg_T4) : fg_rho R 100 0 = some 101 := rfl
theorem rh_100_1 (R : fg_T4) : fg_rho R 100 1 = some 139 := rfl
theorem rh_100_2 (R : fg_T4) : fg_rho R 100 2 = some 254 := rfl
theorem rh_100_3 (R : fg_T4) : fg_rho R 100 3 = some 255 := rfl
theorem rh_100_4 (R : fg_T4) : fg_rho R 100 4 = some 273 := rfl
theorem rh_100_5 (R : fg_T4) : fg_rho R 100 5 = some 277 := rfl
theorem rh_100_6 (R : fg_T4) : fg_rho R 100 6 = some 281 := rfl
theorem rh_100_7 (R : fg_T4) : fg_rho R 100 7 = some 286 := rfl
theorem rh_101_0 (R : fg_T4) : fg_rho R 101 0 = some 102 := rfl
theorem rh_101_6 (R : fg_T4) : fg_rho R 101 6 = some 103 := rfl
theorem rh_101_7 (R : fg_T4) : fg_rho R 101 7 = some 132 := rfl
theorem rh_103_0 (R : fg_T4) : fg_rho R 103 0 = some 104 := rfl
theorem rh_103_1 (R : fg_T4) : fg_rho R 103 1 = some 118 := rfl
theorem rh_104_2 (R : fg_T4) : fg_rho R 104 2 = some 105 := rfl
theorem rh_104_3 (R : fg_T4) : fg_rho R 104 3 = some 107 := rfl
theorem rh_104_4 (R : fg_T4) : fg_rho R 104 4 = some 109 := rfl
theorem rh_104_5 (R : fg_T4) : fg_rho R 104 5 = some 111 := rfl
theorem rh_104_6 (R : fg_T4) : fg_rho R 104 6 = some 113 := rfl
theorem rh_104_7 (R : fg_T4) : fg_rho R 104 7 = some 115 := rfl
theorem rh_104_8 (R : fg_T4) : fg_rho R 104 8 = some 117 := rfl
theorem rh_105_1 (R : fg_T4) : fg_rho R 105 1 = some 106 := rfl
theorem rh_107_1 (R : fg_T4) : fg_rho R 107 1 = some 108 := rfl
theorem rh_109_1 (R : fg_T4) : fg_rho R 109 1 = some 110 := rfl
theorem rh_111_1 (R : fg_T4) : fg_rho R 111 1 = some 112 := rfl
theorem rh_113_1 (R : fg_T4) : fg_rho R 113 1 = some 114 := rfl
theorem rh_115_1 (R : fg_T4) : fg_rho R 115 1 = some 116 := rfl
theorem rh_118_2 (R : fg_T4) : fg_rho R 118 2 = some 119 := rfl
theorem rh_118_3 (R : fg_T4) : fg_rho R 118 3 = some 121 := rfl
theorem rh_118_4 (R : fg_T4) : fg_rho R 118 4 = some 123 := rfl
theorem rh_118_5 (R : fg_T4) : fg_rho R 118 5 = some 125 := rfl
theorem rh_118_6 (R : fg_T4) : fg_rho R 118 6 = some 127 := rfl
theorem rh_118_7 (R : fg_T4) : fg_rho R 118 7 = some 129 := rfl
theorem rh_118_8 (R : fg_T4) : fg_rho R 118 8 = some 131 := rfl
theorem rh_119_1 (R : fg_T4) : fg_rho R 119 1 = some 120 := rfl
theorem rh_121_1 (R : fg_T4) : fg_rho R 121 1 = some 122 := rfl
theorem rh_123_1 (R : fg_T4) : fg_rho R 123 1 = some 124 := rfl
theorem rh_125_1 (R : fg_T4) : fg_rho R 125 1 = some 126 := rfl
theorem rh_127_1 (R : fg_T4) : fg_rho R 127 1 = some 128 := rfl
theorem rh_129_1 (R : fg_T4) : fg_rho R 129 1 = some 130 := rfl
theorem rh_132_0 (R : fg_T4) : fg_rho R 132 0 = some 133 := rfl
theorem rh_132_1 (R : fg_T4) : fg_rho R 132 1 = some 135 := rfl
theorem rh_132_2 (R : fg_T4) : fg_rho R 132 2 = some 137 := rfl
theorem rh_133_1 (R : fg_T4) : fg_rho R 133 1 = some 134 := rfl
theorem rh_135_1 (R : fg_T4) : fg_rho R 135 1 = some 136 := rfl
theorem rh_137_1 (R : fg_T4) : fg_rho R 137 1 = some 138 := rfl
theorem rh_139_0 (R : fg_T4) : fg_rho R 139 0 = some 140 := rfl
theorem rh_139_1 (R : fg_T4) : fg_rho R 139 1 = some 178 := rfl
theorem rh_139_2 (R : fg_T4) : fg_rho R 139 2 = some 216 := rfl
theorem rh_140_0 (R : fg_T4) : fg_rho R 140 0 = some 141 := rfl
theorem rh_140_6 (R : fg_T4) : fg_rho R 140 6 = some 142 := rfl
theorem rh_140_7 (R : fg_T4) : fg_rho R 140 7 = some 171 := rfl
theorem rh_142_0 (R : fg_T4) : fg_rho R 142 0 = some 143 := rfl
theorem rh_142_1 (R : fg_T4) : fg_rho R 142 1 = some 157 := rfl
theorem rh_143_2 (R : fg_T4) : fg_rho R 143 2 = some 144 := rfl
theorem rh_143_3 (R : fg_T4) : fg_rho R 143 3 = some 146 := rfl
theorem rh_143_4 (R : fg_T4) : fg_rho R 143 4 = some 148 := rfl
theorem rh_143_5 (R : fg_T4) : fg_rho R 143 5 = some 150 := rfl
theorem rh_143_6 (R : fg_T4) : fg_rho R 143 6 = some 152 := rfl
theorem rh_143_7 (R : fg_T4) : fg_rho R 143 7 = some 154 := rfl
theorem rh_143_8 (R : fg_T4) : fg_rho R 143 8 = some 156 := rfl
theorem rh_144_1 (R : fg_T4) : fg_rho R 144 1 = some 145 := rfl
theorem rh_146_1 (R : fg_T4) : fg_rho R 146 1 = some 147 := rfl
theorem rh_148_1 (R : fg_T4) : fg_rho R 148 1 = some 149 := rfl
theorem rh_150_1 (R : fg_T4) : fg_rho R 150 1 = some 151 := rfl
theorem rh_152_1 (R : fg_T4) : fg_rho R 152 1 = some 153 := rfl
theorem rh_154_1 (R : fg_T4) : fg_rho R 154 1 = some 155 := rfl
theorem rh_157_2 (R : fg_T4) : fg_rho R 157 2 = some 158 := rfl
theorem rh_157_3 (R : fg_T4) : fg_rho R 157 3 = some 160 := rfl
theorem rh_157_4 (R : fg_T4) : fg_rho R 157 4 = some 162 := rfl
theorem rh_157_5 (R : fg_T4) : fg_rho R 157 5 = some 164 := rfl
theorem rh_157_6 (R : fg_T4) : fg_rho R 157 6 = some 166 := rfl
theorem rh_157_7 (R : fg_T4) : fg_rho R 157 7 = some 168 := rfl
theorem rh_157_8 (R : fg_T4) : fg_rho R 157 8 = some 170 := rfl
theorem rh_158_1 (R : fg_T4) : fg_rho R 158 1 = some 159 := rfl
theorem rh_160_1 (R : fg_T4) : fg_rho R 160 1 = some 161 := rfl
theorem rh_162_1 (R : fg_T4) : fg_rho R 162 1 = some 163 := rfl
theorem rh_164_1 (R : fg_T4) : fg_rho R 164 1 = some 165 := rfl
theorem rh_166_1 (R : fg_T4) : fg_rho R 166 1 = some 167 := rfl
theorem rh_168_1 (R : fg_T4) : fg_rho R 168 1 = some 169 := rfl
theorem rh_171_0 (R : fg_T4) : fg_rho R 171 0 = some 172 := rfl
theorem rh_171_1 (R : fg_T4) : fg_rho R 171 1 = some 174 := rfl
theorem rh_171_2 (R : fg_T4) : fg_rho R 171 2 = some 176 := rfl
theorem rh_172_1 (R : fg_T4) : fg_rho R 172 1 = some 173 := rfl
theorem rh_174_1 (R : fg_T4) : fg_rho R 174 1 = some 175 := rfl
theorem rh_176_1 (R : fg_T4) : fg_rho R 176 1 = some 177 := rfl
theorem rh_178_0 (R : fg_T4) : fg_rho R 178 0 = some 179 := rfl
theorem rh_178_6 (R : fg_T4) : fg_rho R 178 6 = some 180 := rfl
theorem rh_178_7 (R : fg_T4) : fg_rho R 178 7 = some 209 := rfl
theorem rh_180_0 (R : fg_T4) : fg_rho R 180 0 = some 181 := rfl
theorem rh_180_1 (R : fg_T4) : fg_rho R 180 1 = some 195 := rfl
theorem rh_181_2 (R : fg_T4) : fg_rho R 181 2 = some 182 := rfl
theorem rh_181_3 (R : fg_T4) : fg_rho R 181 3 = some 184 := rfl
theorem rh_181_4 (R : fg_T4) : fg_rho R 181 4 = some 186 := rfl
theorem rh_181_5 (R : fg_T4) : fg_rho R 181 5 = some 188 := rfl
theorem rh_181_6 (R : fg_T4) : fg_rho R 181 6 = some 190 := rfl
theorem rh_181_7 (R : fg_T4) : fg_rho R 181 7 = some 192 := rfl
theorem rh_181_8 (R : fg_T4) : fg_rho R 181 8 = some 194 := rfl
theorem rh_182_1 (R : fg_T4) : fg_rho R 182 1 = some 183 := rfl
theorem rh_184_1 (R : fg_T4) : fg_rho R 184 1 = some 185 := rfl
theorem rh_186_1 (R : fg_T4) : fg_rho R 186 1 = some 187 := rfl
theorem rh_188_1 (R : fg_T4) : fg_rho R 188 1 = some 189 := rfl
theorem rh_190_1 (R : fg_T4) : fg_rho R 190 1 = some 191 := rfl
theorem rh_192_1 (R : fg_T4) : fg_rho R 192 1 = some 193 := rfl
theorem rh_195_2 (R : fg_T4) : fg_rho R 195 2 = some 196 := rfl
theorem rh_195_3 (R : fg_T4) : fg_rho R 195 3 = some 198 := rfl
theorem rh_195_4 (R : fg_T4) : fg_rho R 195 4 = some 200 := rfl
theorem rh_195_5 (R : fg_T4) : fg_rho R 195 5 = some 202 := rfl
theorem rh_195_6 (R : fg_T4) : fg_rho R 195 6 = some 204 := rfl
theorem rh_195_7 (R : fg_T4) : fg_rho R 195 7 = some 206 := rfl
theorem rh_195_8 (R : fg_T4) : fg_rho R 195 8 = some 208 := rfl
theorem rh_196_1 (R : fg_T4) : fg_rho R 196 1 = some 197 := rfl
theorem rh_198_1 (R : fg_T4) : fg_rho R 198 1 = some 199 := rfl
theorem rh_200_1 (R : fg_T4) : fg_rho R 200 1 = some 201 := rfl
theorem rh_202_1 (R : fg_T4) : fg_rho R 202 1 = some 203 := rfl
theorem rh_204_1 (R : fg_T4) : fg_rho R 204 1 = some 205 := rfl
theorem rh_206_1 (R : fg_T4) : fg_rho R 206 1 = some 207 := rfl
theorem rh_209_0 (R : fg_T4) : fg_rho R 209 0 = some 210 := rfl
theorem rh_209_1 (R : fg_T4) : fg_rho R 209 1 = some 212 := rfl
theorem rh_209_2 (R : fg_T4) : fg_rho R 209 2 = some 214 := rfl
theorem rh_210_1 (R : fg_T4) : fg_rho R 210 1 = some 211 := rfl
theorem rh_212_1 (R : fg_T4) : fg_rho R 212 1 = some 213 := rfl
theorem rh_214_1 (R : fg_T4) : fg_rho R 214 1 = some 215 := rfl
theorem rh_216_0 (R : fg_T4) : fg_rho R 216 0 = some 217 := rfl
theorem rh_216_6 (R : fg_T4) : fg_rho R 216 6 = some 218 := rfl
theorem rh_216_7 (R : fg_T4) : fg_rho R 216 7 = some 247 := rfl
theorem rh_218_0 (R : fg_T4) : fg_rho R 218 0 = some 219 := rfl
theorem rh_218_1 (R : fg_T4) : fg_rho R 218 1 = some 233 := rfl
theorem rh_219_2 (R : fg_T4) : fg_rho R 219 2 = some 220 := rfl
theorem rh_219_3 (R : fg_T4) : fg_rho R 219 3 = some 222 := rfl
theorem rh_219_4 (R : fg_T4) : fg_rho R 219 4 = some 224 := rfl
theorem rh_219_5 (R : fg_T4) : fg_rho R 219 5 = some 226 := rfl
theorem rh_219_6 (R : fg_T4) : fg_rho R 219 6 = some 228 := rfl
theorem rh_219_7 (R : fg_T4) : fg_rho R 219 7 = some 230 := rfl
theorem rh_219_8 (R : fg_T4) : fg_rho R 219 8 = some 232 := rfl
theorem rh_220_1 (R : fg_T4) : fg_rho R 220 1 = some 221 := rfl
theorem rh_222_1 (R : fg_T4) : fg_rho R 222 1 = some 223 := rfl
theorem rh_224_1 (R : fg_T4) : fg_rho R 224 1 = some 225 := rfl
theorem rh_226_1 (R : fg_T4) : fg_rho R 226 1 = some 227 := rfl
theorem rh_228_1 (R : fg_T4) : fg_rho R 228 1 = some 229 := rfl
theorem rh_230_1 (R : fg_T4) : fg_rho R 230 1 = some 231 := rfl
theorem rh_233_2 (R : fg_T4) : fg_rho R 233 2 = some 234 := rfl
theorem rh_233_3 (R : fg_T4) : fg_rho R 233 3 = some 236 := rfl
theorem rh_233_4 (R : fg_T4) : fg_rho R 233 4 = some 238 := rfl
theorem rh_233_5 (R : fg_T4) : fg_rho R 233 5 = some 240 := rfl
theorem rh_233_6 (R : fg_T4) : fg_rho R 233 6 = some 242 := rfl
theorem rh_233_7 (R : fg_T4) : fg_rho R 233 7 = some 244 := rfl
theorem rh_233_8 (R : fg_T4) : fg_rho R 233 8 = some 246 := rfl
theorem rh_234_1 (R : fg_T4) : fg_rho R 234 1 = some 235 := rfl
theorem rh_236_1 (R : fg_T4) : fg_rho R 236 1 = some 237 := rfl
theorem rh_238_1 (R : fg_T4) : fg_rho R 238 1 = some 239 := rfl
theorem rh_240_1 (R : fg_T4) : fg_rho R 240 1 = some 241 := rfl
theorem rh_242_1 (R : fg_T4) : fg_rho R 242 1 = some 243 := rfl
theorem rh_244_1 (R : fg_T4) : fg_rho R 244 1 = some 245 := rfl
theorem rh_247_0 (R : fg_T4) : fg_rho R 247 0 = some 248 := rfl
theorem rh_247_1 (R : fg_T4) : fg_rho R 247 1 = some 250 := rfl
theorem rh_247_2 (R : fg_T4) : fg_rho R 247 2 = some 252 := rfl
theorem rh_248_1 (R : fg_T4) : fg_rho R 248 1 = some 249 := rfl
theorem rh_250_1 (R : fg_T4) : fg_rho R 250 1 = some 251 := rfl
theorem rh_252_1 (R : fg_T4) : fg_rho R 252 1 = some 253 := rfl
theorem rh_255_0 (R : fg_T4) : fg_rho R 255 0 = some 256 := rfl
theorem rh_255_1 (R : fg_T4) : fg_rho R 255 1 = some 270 := rfl
theorem rh_255_4 (R : fg_T4) : fg_rho R 255 4 = some 272 := rfl
theorem rh_256_2 (R : fg_T4) : fg_rho R 256 2 = some 257 := rfl
theorem rh_256_3 (R : fg_T4) : fg_rho R 256 3 = some 259 := rfl
theorem rh_256_4 (R : fg_T4) : fg_rho R 256 4 = some 261 := rfl
theorem rh_256_5 (R : fg_T4) : fg_rho R 256 5 = some 263 := rfl
theorem rh_256_6 (R : fg_T4) : fg_rho R 256 6 = some 265 := rfl
theorem rh_256_7 (R : fg_T4) : fg_rho R 256 7 = some 267 := rfl
theorem rh_256_8 (R : fg_T4) : fg_rho R 256 8 = some 269 := rfl
theorem rh_257_1 (R : fg_T4) : fg_rho R 257 1 = some 258 := rfl
theorem rh_259_1 (R : fg_T4) : fg_rho R 259 1 = some 260 := rfl
theorem rh_261_1 (R : fg_T4) : fg_rho R 261 1 = some 262 := rfl
theorem rh_263_1 (R : fg_T4) : fg_rho R 263 1 = some 264 := rfl
theorem rh_265_1 (R : fg_T4) : fg_rho R 265 1 = some 266 := rfl
theorem rh_267_1 (R : fg_T4) : fg_rho R 267 1 = some 268 := rfl
theorem rh_270_1 (R : fg_T4) : fg_rho R 270 1 = some 271 := rfl
theorem rh_273_3 (R : fg_T4) : fg_rho R 273 3 = some 274 := rfl
theorem rh_273_4 (R : fg_T4) : fg_rho R 273 4 = some 275 := rfl
theorem rh_273_5 (R : fg_T4) : fg_rho R 273 5 = some 276 := rfl
theorem rh_277_3 (R : fg_T4) : fg_rho R 277 3 = some 278 := rfl
theorem rh_277_4 (R : fg_T4) : fg_rho R 277 4 = some 279 := rfl
theorem rh_277_5 (R : fg_T4) : fg_rho R 277 5 = some 280 := rfl
theorem rh_281_0 (R : fg_T4) : fg_rho R 281 0 = some 282 := rfl
theorem rh_281_1 (R : fg_T4) : fg_rho R 281 1 = some 283 := rfl
theorem rh_281_2 (R : fg_T4) : fg_rho R 281 2 = some 284 := rfl
theorem rh_281_3 (R : fg_T4) : fg_rho R 281 3 = some 285 := rfl
theorem rh_287_0 (R : fg_T4) : fg_rho R 287 0 = some 288 := rfl
theorem rh_287_1 (R : fg_T4) : fg_rho R 287 1 = some 289 := rfl
theorem rh_287_10 (R : fg_T4) : fg_rho R 287 10 = some 290 := rfl
theorem rh_287_11 (R : fg_T4) : fg_rho R 287 11 = some 291 := rfl
theorem rh_287_12 (R : fg_T4) : fg_rho R 287 12 = some 292 := rfl
theorem rh_287_13 (R : fg_T4) : fg_rho R 287 13 = some 293 := rfl
theorem rh_287_14 (R : fg_T4) : fg_rho R 287 14 = some 294 := rfl
theorem rh_287_21 (R : fg_T4) : fg_rho R 287 21 = some 295 := rfl
theorem rh_287_22 (R : fg_T4) : fg_rho R 287 22 = some 296 := rfl
theorem rh_287_23 (R : fg_T4) : fg_rho R 287 23 = some 297 := rfl
theorem rh_287_24 (R : fg_T4) : fg_rho R 287 24 = some 298 := rfl
theorem rh_287_25 (R : fg_T4) : fg_rho R 287 25 = some 299 := rfl
theorem rh_287_27 (R : fg_T4) : fg_rho R 287 27 = some 300 := rfl
theorem rh_287_28 (R : fg_T4) : fg_rho R 287 28 = some 301 := rfl
theorem rh_287_29 (R : fg_T4) : fg_rho R 287 29 = some 302 := rfl
theorem rh_287_30 (R : fg_T4) : fg_rho R 287 30 = some 303 := rfl
theorem rh_273_0 (R : fg_T4) : fg_rho R 273 0 = R.1 := rfl
theorem rh_277_0 (R : fg_T4) : fg_rho R 277 0 = R.2.1 := rfl
theorem rh_281_4 (R : fg_T4) : fg_rho R 281 4 = R.2.2.1 := rfl
theorem rh_255_5 (R : fg_T4) : fg_rho R 255 5 = R.2.2.2 := rfl
