/-! the law: its loop, its start -/
theorem lw_step {E : fg_E} {d : Nat} {μ : Nat → Nat → Int32} {R : fg_T4} {Q : Option Value → fg_M → Prop} {A : fg_Tl} {I : Nat → fg_Tl} {i : Nat} {x : Nat → Nat} (hi : i + 8 ≤ E.2.2.2.2.2.2) (h4 : E.2.2.2.2.2.2 ≤ 4096) (hx : ∀ j, x j < 2 ^ 32) (hs : ∀ j, E.2.2.2.2.2.1 (i + j) = nI (x j)) (hJ : lw_J μ A I) (hK : ∀ (μ' : Nat → Nat → Int32) (R' : fg_T4) (A' : fg_Tl) (I' : Nat → fg_Tl), lw_J μ' A' I' → fg_wp E yy_Law_law (d + 13) 100 304 Q 2988 [.ref 99, .ref 100, .ref 287, .int (nI i)] [] (μ', fg_rho R', 304)) : fg_wp E yy_Law_law (d + 13) 100 304 Q 27 [.ref 99, .ref 100, .ref 287, .int (nI i)] [] (μ, fg_rho R, 304) := by
  refine fg_aloadn (fg_ft (pc := 27) tb_Law_law_0 16 rfl) rfl ?_
  refine fg_iloadn (fg_ft (pc := 28) tb_Law_law_0 17 rfl) rfl ?_
  refine fg_sldN (fg_ft (pc := 29) tb_Law_law_0 18 rfl) (by omega) h4 (hs 0) ?_
  refine fg_bipush (fg_ft (pc := 30) tb_Law_law_0 19 rfl) ib_63 ?_
  refine fg_iandN (fg_ft (pc := 32) tb_Law_law_0 20 rfl) ?_
  have h63 : x 0 &&& 63 ≤ 63 := Nat.and_le_right
  by_cases e33_0 : (x 0) &&& 63 = 0
  · refine fg_swN (tgt := 240) (fg_ft (pc := 33) tb_Law_law_0 21 rfl) e33_0 (by decide) (by decide) (by decide) rfl (by decide) ?_
    exact lw_k0 hi h4 hx hs hJ hK
  by_cases e33_1 : (x 0) &&& 63 = 1
  · refine fg_swN (tgt := 303) (fg_ft (pc := 33) tb_Law_law_0 21 rfl) e33_1 (by decide) (by decide) (by decide) rfl (by decide) ?_
    exact lw_k1 hi h4 hx hs hJ hK
  by_cases e33_2 : (x 0) &&& 63 = 2
  · refine fg_swN (tgt := 326) (fg_ft (pc := 33) tb_Law_law_0 21 rfl) e33_2 (by decide) (by decide) (by decide) rfl (by decide) ?_
    exact lw_k2 hi h4 hx hs hJ hK
  by_cases e33_3 : (x 0) &&& 63 = 3
  · refine fg_swN (tgt := 359) (fg_ft (pc := 33) tb_Law_law_0 21 rfl) e33_3 (by decide) (by decide) (by decide) rfl (by decide) ?_
    exact lw_k3 hi h4 hx hs hJ hK
  by_cases e33_4 : (x 0) &&& 63 = 4
  · refine fg_swN (tgt := 382) (fg_ft (pc := 33) tb_Law_law_0 21 rfl) e33_4 (by decide) (by decide) (by decide) rfl (by decide) ?_
    exact lw_k4 hi h4 hx hs hJ hK
  by_cases e33_5 : (x 0) &&& 63 = 5
  · refine fg_swN (tgt := 415) (fg_ft (pc := 33) tb_Law_law_0 21 rfl) e33_5 (by decide) (by decide) (by decide) rfl (by decide) ?_
    exact lw_k5 hi h4 hx hs hJ hK
  by_cases e33_6 : (x 0) &&& 63 = 6
  · refine fg_swN (tgt := 458) (fg_ft (pc := 33) tb_Law_law_0 21 rfl) e33_6 (by decide) (by decide) (by decide) rfl (by decide) ?_
    exact lw_k6 hi h4 hx hs hJ hK
  by_cases e33_7 : (x 0) &&& 63 = 7
  · refine fg_swN (tgt := 501) (fg_ft (pc := 33) tb_Law_law_0 21 rfl) e33_7 (by decide) (by decide) (by decide) rfl (by decide) ?_
    exact lw_k7 hi h4 hx hs hJ hK
  by_cases e33_8 : (x 0) &&& 63 = 8
  · refine fg_swN (tgt := 544) (fg_ft (pc := 33) tb_Law_law_0 21 rfl) e33_8 (by decide) (by decide) (by decide) rfl (by decide) ?_
    exact lw_k8 hi h4 hx hs hJ hK
  by_cases e33_9 : (x 0) &&& 63 = 9
  · refine fg_swN (tgt := 587) (fg_ft (pc := 33) tb_Law_law_0 21 rfl) e33_9 (by decide) (by decide) (by decide) rfl (by decide) ?_
    exact lw_k9 hi h4 hx hs hJ hK
  by_cases e33_10 : (x 0) &&& 63 = 10
  · refine fg_swN (tgt := 656) (fg_ft (pc := 33) tb_Law_law_0 21 rfl) e33_10 (by decide) (by decide) (by decide) rfl (by decide) ?_
    exact lw_k10 hi h4 hx hs hJ hK
  by_cases e33_11 : (x 0) &&& 63 = 11
  · refine fg_swN (tgt := 699) (fg_ft (pc := 33) tb_Law_law_0 21 rfl) e33_11 (by decide) (by decide) (by decide) rfl (by decide) ?_
    exact lw_k11 hi h4 hx hs hJ hK
  by_cases e33_12 : (x 0) &&& 63 = 12
  · refine fg_swN (tgt := 732) (fg_ft (pc := 33) tb_Law_law_0 21 rfl) e33_12 (by decide) (by decide) (by decide) rfl (by decide) ?_
    exact lw_k12 hi h4 hx hs hJ hK
  by_cases e33_13 : (x 0) &&& 63 = 13
  · refine fg_swN (tgt := 785) (fg_ft (pc := 33) tb_Law_law_0 21 rfl) e33_13 (by decide) (by decide) (by decide) rfl (by decide) ?_
    exact lw_k13 hi h4 hx hs hJ hK
  by_cases e33_14 : (x 0) &&& 63 = 14
  · refine fg_swN (tgt := 838) (fg_ft (pc := 33) tb_Law_law_0 21 rfl) e33_14 (by decide) (by decide) (by decide) rfl (by decide) ?_
    exact lw_k14 hi h4 hx hs hJ hK
  by_cases e33_15 : (x 0) &&& 63 = 15
  · refine fg_swN (tgt := 891) (fg_ft (pc := 33) tb_Law_law_0 21 rfl) e33_15 (by decide) (by decide) (by decide) rfl (by decide) ?_
    exact lw_k15 hi h4 hx hs hJ hK
  by_cases e33_16 : (x 0) &&& 63 = 16
  · refine fg_swN (tgt := 954) (fg_ft (pc := 33) tb_Law_law_0 21 rfl) e33_16 (by decide) (by decide) (by decide) rfl (by decide) ?_
    exact lw_k16 hi h4 hx hs hJ hK
  by_cases e33_17 : (x 0) &&& 63 = 17
  · refine fg_swN (tgt := 1029) (fg_ft (pc := 33) tb_Law_law_0 21 rfl) e33_17 (by decide) (by decide) (by decide) rfl (by decide) ?_
    exact lw_k17 hi h4 hx hs hJ hK
  by_cases e33_18 : (x 0) &&& 63 = 18
  · refine fg_swN (tgt := 1104) (fg_ft (pc := 33) tb_Law_law_0 21 rfl) e33_18 (by decide) (by decide) (by decide) rfl (by decide) ?_
    exact lw_k18 hi h4 hx hs hJ hK
  by_cases e33_19 : (x 0) &&& 63 = 19
  · refine fg_swN (tgt := 1191) (fg_ft (pc := 33) tb_Law_law_0 21 rfl) e33_19 (by decide) (by decide) (by decide) rfl (by decide) ?_
    exact lw_k19 hi h4 hx hs hJ hK
  by_cases e33_20 : (x 0) &&& 63 = 20
  · refine fg_swN (tgt := 1266) (fg_ft (pc := 33) tb_Law_law_0 21 rfl) e33_20 (by decide) (by decide) (by decide) rfl (by decide) ?_
    exact lw_k20 hi h4 hx hs hJ hK
  by_cases e33_21 : (x 0) &&& 63 = 21
  · refine fg_swN (tgt := 1329) (fg_ft (pc := 33) tb_Law_law_0 21 rfl) e33_21 (by decide) (by decide) (by decide) rfl (by decide) ?_
    exact lw_k21 hi h4 hx hs hJ hK
  by_cases e33_22 : (x 0) &&& 63 = 22
  · refine fg_swN (tgt := 1382) (fg_ft (pc := 33) tb_Law_law_0 21 rfl) e33_22 (by decide) (by decide) (by decide) rfl (by decide) ?_
    exact lw_k22 hi h4 hx hs hJ hK
  by_cases e33_23 : (x 0) &&& 63 = 23
  · refine fg_swN (tgt := 1457) (fg_ft (pc := 33) tb_Law_law_0 21 rfl) e33_23 (by decide) (by decide) (by decide) rfl (by decide) ?_
    exact lw_k23 hi h4 hx hs hJ hK
  by_cases e33_24 : (x 0) &&& 63 = 24
  · refine fg_swN (tgt := 1520) (fg_ft (pc := 33) tb_Law_law_0 21 rfl) e33_24 (by decide) (by decide) (by decide) rfl (by decide) ?_
    exact lw_k24 hi h4 hx hs hJ hK
  by_cases e33_25 : (x 0) &&& 63 = 25
  · refine fg_swN (tgt := 1583) (fg_ft (pc := 33) tb_Law_law_0 21 rfl) e33_25 (by decide) (by decide) (by decide) rfl (by decide) ?_
    exact lw_k25 hi h4 hx hs hJ hK
  by_cases e33_26 : (x 0) &&& 63 = 26
  · refine fg_swN (tgt := 1670) (fg_ft (pc := 33) tb_Law_law_0 21 rfl) e33_26 (by decide) (by decide) (by decide) rfl (by decide) ?_
    exact lw_k26 hi h4 hx hs hJ hK
  by_cases e33_27 : (x 0) &&& 63 = 27
  · refine fg_swN (tgt := 1761) (fg_ft (pc := 33) tb_Law_law_0 21 rfl) e33_27 (by decide) (by decide) (by decide) rfl (by decide) ?_
    exact lw_k27 hi h4 hx hs hJ hK
  by_cases e33_28 : (x 0) &&& 63 = 28
  · refine fg_swN (tgt := 1836) (fg_ft (pc := 33) tb_Law_law_0 21 rfl) e33_28 (by decide) (by decide) (by decide) rfl (by decide) ?_
    exact lw_k28 hi h4 hx hs hJ hK
  by_cases e33_29 : (x 0) &&& 63 = 29
  · refine fg_swN (tgt := 1899) (fg_ft (pc := 33) tb_Law_law_0 21 rfl) e33_29 (by decide) (by decide) (by decide) rfl (by decide) ?_
    exact lw_k29 hi h4 hx hs hJ hK
  by_cases e33_30 : (x 0) &&& 63 = 30
  · refine fg_swN (tgt := 1974) (fg_ft (pc := 33) tb_Law_law_0 21 rfl) e33_30 (by decide) (by decide) (by decide) rfl (by decide) ?_
    exact lw_k30 hi h4 hx hs hJ hK
  by_cases e33_31 : (x 0) &&& 63 = 31
  · refine fg_swN (tgt := 2061) (fg_ft (pc := 33) tb_Law_law_0 21 rfl) e33_31 (by decide) (by decide) (by decide) rfl (by decide) ?_
    exact lw_k31 hi h4 hx hs hJ hK
  by_cases e33_32 : (x 0) &&& 63 = 32
  · refine fg_swN (tgt := 2124) (fg_ft (pc := 33) tb_Law_law_0 21 rfl) e33_32 (by decide) (by decide) (by decide) rfl (by decide) ?_
    exact lw_k32 hi h4 hx hs hJ hK
  by_cases e33_33 : (x 0) &&& 63 = 33
  · refine fg_swN (tgt := 2215) (fg_ft (pc := 33) tb_Law_law_0 21 rfl) e33_33 (by decide) (by decide) (by decide) rfl (by decide) ?_
    exact lw_k33 hi h4 hx hs hJ hK
  by_cases e33_34 : (x 0) &&& 63 = 34
  · refine fg_swN (tgt := 2268) (fg_ft (pc := 33) tb_Law_law_0 21 rfl) e33_34 (by decide) (by decide) (by decide) rfl (by decide) ?_
    exact lw_k34 hi h4 hx hs hJ hK
  by_cases e33_35 : (x 0) &&& 63 = 35
  · refine fg_swN (tgt := 2343) (fg_ft (pc := 33) tb_Law_law_0 21 rfl) e33_35 (by decide) (by decide) (by decide) rfl (by decide) ?_
    exact lw_k35 hi h4 hx hs hJ hK
  by_cases e33_36 : (x 0) &&& 63 = 36
  · refine fg_swN (tgt := 2422) (fg_ft (pc := 33) tb_Law_law_0 21 rfl) e33_36 (by decide) (by decide) (by decide) rfl (by decide) ?_
    exact lw_k36 hi h4 hx hs hJ hK
  by_cases e33_37 : (x 0) &&& 63 = 37
  · refine fg_swN (tgt := 2485) (fg_ft (pc := 33) tb_Law_law_0 21 rfl) e33_37 (by decide) (by decide) (by decide) rfl (by decide) ?_
    exact lw_k37 hi h4 hx hs hJ hK
  by_cases e33_38 : (x 0) &&& 63 = 38
  · refine fg_swN (tgt := 2518) (fg_ft (pc := 33) tb_Law_law_0 21 rfl) e33_38 (by decide) (by decide) (by decide) rfl (by decide) ?_
    exact lw_k38 hi h4 hx hs hJ hK
  by_cases e33_39 : (x 0) &&& 63 = 39
  · refine fg_swN (tgt := 2551) (fg_ft (pc := 33) tb_Law_law_0 21 rfl) e33_39 (by decide) (by decide) (by decide) rfl (by decide) ?_
    exact lw_k39 hi h4 hx hs hJ hK
  by_cases e33_40 : (x 0) &&& 63 = 40
  · refine fg_swN (tgt := 2614) (fg_ft (pc := 33) tb_Law_law_0 21 rfl) e33_40 (by decide) (by decide) (by decide) rfl (by decide) ?_
    exact lw_k40 hi h4 hx hs hJ hK
  by_cases e33_41 : (x 0) &&& 63 = 41
  · refine fg_swN (tgt := 2677) (fg_ft (pc := 33) tb_Law_law_0 21 rfl) e33_41 (by decide) (by decide) (by decide) rfl (by decide) ?_
    exact lw_k41 hi h4 hx hs hJ hK
  by_cases e33_42 : (x 0) &&& 63 = 42
  · refine fg_swN (tgt := 2730) (fg_ft (pc := 33) tb_Law_law_0 21 rfl) e33_42 (by decide) (by decide) (by decide) rfl (by decide) ?_
    exact lw_k42 hi h4 hx hs hJ hK
  by_cases e33_43 : (x 0) &&& 63 = 43
  · refine fg_swN (tgt := 2793) (fg_ft (pc := 33) tb_Law_law_0 21 rfl) e33_43 (by decide) (by decide) (by decide) rfl (by decide) ?_
    exact lw_k43 hi h4 hx hs hJ hK
  by_cases e33_44 : (x 0) &&& 63 = 44
  · refine fg_swN (tgt := 2856) (fg_ft (pc := 33) tb_Law_law_0 21 rfl) e33_44 (by decide) (by decide) (by decide) rfl (by decide) ?_
    exact lw_k44 hi h4 hx hs hJ hK
  by_cases e33_45 : (x 0) &&& 63 = 45
  · refine fg_swN (tgt := 2919) (fg_ft (pc := 33) tb_Law_law_0 21 rfl) e33_45 (by decide) (by decide) (by decide) rfl (by decide) ?_
    exact lw_k45 hi h4 hx hs hJ hK
  by_cases e33_46 : (x 0) &&& 63 = 46
  · refine fg_swN (tgt := 2942) (fg_ft (pc := 33) tb_Law_law_0 21 rfl) e33_46 (by decide) (by decide) (by decide) rfl (by decide) ?_
    rcases (show x 1 = 0 ∨ x 1 = 1 ∨ x 1 = 2 ∨ 3 ≤ x 1 by omega) with hv | hv | hv | hv
    · exact lw_k46_0 hi h4 hx hs hJ hv hK
    · exact lw_k46_1 hi h4 hx hs hJ hv hK
    · exact lw_k46_2 hi h4 hx hs hJ hv hK
    · exact lw_k46_N hi h4 hx hs hJ hv hK
  by_cases e33_47 : (x 0) &&& 63 = 47
  · refine fg_swN (tgt := 2965) (fg_ft (pc := 33) tb_Law_law_0 21 rfl) e33_47 (by decide) (by decide) (by decide) rfl (by decide) ?_
    rcases (show x 1 = 0 ∨ x 1 = 1 ∨ x 1 = 2 ∨ 3 ≤ x 1 by omega) with hv | hv | hv | hv
    · by_cases hm : μ 254 0 = 0
      · exact lw_k47_N0 hi h4 hx hs hJ hv hm hK
      · exact lw_k47_0 hi h4 hx hs hJ hv hm hK
    · by_cases hm : μ 254 1 = 0
      · exact lw_k47_N1 hi h4 hx hs hJ hv hm hK
      · exact lw_k47_1 hi h4 hx hs hJ hv hm hK
    · by_cases hm : μ 254 2 = 0
      · exact lw_k47_N2 hi h4 hx hs hJ hv hm hK
      · exact lw_k47_2 hi h4 hx hs hJ hv hm hK
    · exact lw_k47_N hi h4 hx hs hJ hv hK
  refine fg_swO (tgt := 2988) (fg_ft (pc := 33) tb_Law_law_0 21 rfl) (Nat.lt_trans (show _ < 2 ^ 31 from by omega) (by decide)) (by decide) (by decide) (fun i h1 h2 he => by omega) (by decide) ?_
  exact hK μ R A I hJ
theorem ic_8q : Int32.ofInt 8 = nI 8 := by decide
theorem lw_end {L i : Nat} (h : L < 8) (hi : i < 2 ^ 31) : nI L - nI 8 < nI i := by
  rw [Int32.lt_iff_toInt_lt, nI_toInt hi]
  have : (nI L - nI 8).toInt < 0 := by
    rcases (show L = 0 ∨ L = 1 ∨ L = 2 ∨ L = 3 ∨ L = 4 ∨ L = 5 ∨ L = 6 ∨ L = 7 by omega) with rfl | rfl | rfl | rfl | rfl | rfl | rfl | rfl <;> decide
  omega
theorem lw_loop {E : fg_E} {d : Nat} {Q : Option Value → fg_M → Prop} (hQ : ∀ (μ : Nat → Nat → Int32) (R : fg_T4), Q (some (.int 1)) (μ, fg_rho R, 304)) : ∀ (n i : Nat) (μ : Nat → Nat → Int32) (R : fg_T4) (A : fg_Tl) (I : Nat → fg_Tl), 5000 < n + i → i ≤ 4104 → lw_J μ A I → fg_wp E yy_Law_law (d + 13) 100 304 Q 18 [.ref 99, .ref 100, .ref 287, .int (nI i)] [] (μ, fg_rho R, 304) := by
  intro n
  induction n with
  | zero => intro i μ R A I h1 h2; omega
  | succ n ih =>
    intro i μ R A I h1 h2 hJ
    refine fg_iloadn (fg_ft (pc := 18) tb_Law_law_0 10 rfl) rfl ?_
    refine fg_aloadn (fg_ft (pc := 19) tb_Law_law_0 11 rfl) rfl ?_
    refine fg_slen (fg_ft (pc := 20) tb_Law_law_0 12 rfl) (fun h4 => ?_)
    refine fg_bipush (fg_ft (pc := 21) tb_Law_law_0 13 rfl) ib_8 ?_
    refine fg_isub (fg_ft (pc := 23) tb_Law_law_0 14 rfl) ?_
    refine fg_icmp_gt (tgt := 2994) (fg_ft (pc := 24) tb_Law_law_0 15 rfl) (by decide) (fun c => ?_) (fun c => ?_)
    · refine fg_iconst (fg_ft (pc := 2994) tb_Law_law_40 22 rfl) ic_1 ?_
      exact fg_zret (fg_ft (pc := 2995) tb_Law_law_40 23 rfl) rfl (by decide) rfl (hQ _ _)
    · have hi : i + 8 ≤ E.2.2.2.2.2.2 := by
        rcases Nat.lt_or_ge E.2.2.2.2.2.2 8 with q | q
        · exact absurd (lw_end q (by omega)) c
        · rw [nI_sub q] at c
          rcases Nat.lt_or_ge E.2.2.2.2.2.2 (i + 8) with q2 | q2
          · exfalso
            apply c
            rw [Int32.lt_iff_toInt_lt, nI_toInt (by omega), nI_toInt (by omega)]
            omega
          · exact q2
      refine lw_step (x := fun j => fg_nat (E.2.2.2.2.2.1 (i + j))) hi h4 (fun j => fg_nat_lt _) (fun j => (fg_nI_nat _).symm) hJ (fun μ' R' A' I' hJ' => ?_)
      refine fg_iincN (fg_ft (pc := 2988) tb_Law_law_40 20 rfl) rfl ic_8q rfl ?_
      refine fg_goto (tgt := 18) (fg_ft (pc := 2991) tb_Law_law_40 21 rfl) (by decide) ?_
      exact ih (i + 8) μ' R' A' I' (by omega) (by omega) hJ'
theorem lw_M0 : mk_bl (fg_mk (mk_bl (fg_mk (fg_mu0, fg_rho fg_R0, 100)) 100 287)) 287 304 = (fg_mu0, fg_rho fg_R0, 304) := by
  refine fg_Mx (fun b j => ?_) (fun b j => ?_) rfl
  · show (if 287 ≤ b ∧ b < 304 then fg_mu0 b j else if b = 287 then 0 else if 100 ≤ b ∧ b < 287 then fg_mu0 b j else if b = 100 then 0 else fg_mu0 b j) = fg_mu0 b j
    by_cases e1 : 287 ≤ b ∧ b < 304
    · rw [if_pos e1]
    · rw [if_neg e1, if_neg (by omega)]
      by_cases e2 : 100 ≤ b ∧ b < 287
      · rw [if_pos e2]
      · rw [if_neg e2, if_neg (by omega)]
  · show (if 287 ≤ b ∧ b < 304 then fg_rho fg_R0 b j else if b = 287 then none else if 100 ≤ b ∧ b < 287 then fg_rho fg_R0 b j else if b = 100 then none else fg_rho fg_R0 b j) = fg_rho fg_R0 b j
    by_cases e1 : 287 ≤ b ∧ b < 304
    · rw [if_pos e1]
    · rw [if_neg e1, if_neg (by omega)]
      by_cases e2 : 100 ≤ b ∧ b < 287
      · rw [if_pos e2]
      · rw [if_neg e2, if_neg (by omega)]
theorem fg_mk0 (M : fg_M) (j : Nat) : (fg_mk M).1 M.2.2 j = 0 := if_pos rfl
theorem fg_mk1 (M : fg_M) (j : Nat) : (fg_mk M).2.1 M.2.2 j = none := if_pos rfl
def lw_A0 : fg_Tl := (0, fun _ => 0, 0, -1, 0, 0, fun _ _ => 0, fun _ _ => 0, fun _ => 0)
theorem lw_wd0 : ∀ t ∈ [104, 118, 143, 157, 181, 195, 219, 233, 256], fg_wdT fg_mu0 t := by
  intro t ht
  have h : fg_isT t := ht
  exact fg_isTe (P := fun t => fg_wdT fg_mu0 t) h ⟨rfl, rfl, rfl, rfl, rfl, rfl⟩ ⟨rfl, rfl, rfl, rfl, rfl, rfl⟩ ⟨rfl, rfl, rfl, rfl, rfl, rfl⟩ ⟨rfl, rfl, rfl, rfl, rfl, rfl⟩ ⟨rfl, rfl, rfl, rfl, rfl, rfl⟩ ⟨rfl, rfl, rfl, rfl, rfl, rfl⟩ ⟨rfl, rfl, rfl, rfl, rfl, rfl⟩ ⟨rfl, rfl, rfl, rfl, rfl, rfl⟩ ⟨rfl, rfl, rfl, rfl, rfl, rfl⟩
theorem lw_J0 : lw_J fg_mu0 lw_A0 (fun _ => lw_A0) := by
  refine ⟨⟨⟨⟨rfl, by decide⟩, fun j _ => rfl, ⟨rfl, rfl⟩, ⟨rfl, by decide⟩, ⟨rfl, by decide⟩, fun i hi => absurd (show i < 0 from hi) (Nat.not_lt_zero _), fun i hi => absurd (show i < 0 from hi) (Nat.not_lt_zero _), fun i hi => ?_, fun i hi => ?_⟩, ⟨⟨rfl, rfl, rfl, rfl, rfl⟩, fun j hj => absurd (show j < 0 from hj) (Nat.not_lt_zero _), fun i hi => absurd (show i < 0 from hi) (Nat.not_lt_zero _), fun i hi => absurd (show i < 0 from hi) (Nat.not_lt_zero _)⟩, fun j _ => rfl⟩, ⟨lw_wd0 256 (by decide), rfl⟩, ⟨rfl, rfl⟩, fun i hi => ⟨fun k hk => ?_, fun k hk => ?_, ?_, fun hn => ?_⟩⟩
  · rcases (show i = 0 ∨ i = 1 by omega) with rfl | rfl
    · exact lw_wd0 104 (by decide)
    · exact lw_wd0 118 (by decide)
  · rcases (show i = 0 ∨ i = 1 ∨ i = 2 by omega) with rfl | rfl | rfl <;> rfl
  · rcases (show i = 0 ∨ i = 1 ∨ i = 2 by omega) with rfl | rfl | rfl <;> rcases (show k = 0 ∨ k = 1 by omega) with rfl | rfl
    · exact lw_wd0 143 (by decide)
    · exact lw_wd0 157 (by decide)
    · exact lw_wd0 181 (by decide)
    · exact lw_wd0 195 (by decide)
    · exact lw_wd0 219 (by decide)
    · exact lw_wd0 233 (by decide)
  · rcases (show i = 0 ∨ i = 1 ∨ i = 2 by omega) with rfl | rfl | rfl <;> rcases (show k = 0 ∨ k = 1 ∨ k = 2 by omega) with rfl | rfl | rfl <;> rfl
  · rfl
  · exact absurd rfl hn
/-- the law's walk, from its entry -/
theorem lw_whole {E : fg_E} {d : Nat} {Q : Option Value → fg_M → Prop} (hQ : ∀ (μ : Nat → Nat → Int32) (R : fg_T4), Q (some (.int 1)) (μ, fg_rho R, 304)) : fg_wp E yy_Law_law (d + 13) 100 304 Q 0 [.ref 99, .retAddr 0, .retAddr 0, .retAddr 0] [] (fg_mu0, fg_rho fg_R0, 100) := by
  refine fg_new (fg_ft (pc := 0) tb_Law_law_0 0 rfl) fn_Law_7 ly_100 (by decide) ?_
  refine fg_dup (fg_ft (pc := 3) tb_Law_law_0 1 rfl) rfl ?_
  refine fg_callI (fg_ft (pc := 4) tb_Law_law_0 2 rfl) rfl cf_Law_9 (as := []) (st := [.ref 100]) rfl rfl (Nat.le_of_ble_eq_true rfl) (n2 := 287) (by show 101 ≤ 287; decide) (by decide) (ev_Fb_init mk_Fb_100 rfl (fun _ => fg_mk0 _ _) (fun _ => fg_mk1 _ _) ?_)
  show fg_wp _ _ _ _ _ _ _ _ _ (mk_bl _ _ _)
  refine fg_astoren (fg_ft (pc := 7) tb_Law_law_0 3 rfl) (Nat.le_of_ble_eq_true rfl) ?_
  refine fg_new (fg_ft (pc := 8) tb_Law_law_0 4 rfl) fn_Law_10 ly_287 (by show 287 < 304; decide) ?_
  refine fg_dup (fg_ft (pc := 11) tb_Law_law_0 5 rfl) rfl ?_
  refine fg_callI (fg_ft (pc := 12) tb_Law_law_0 6 rfl) rfl cf_Law_12 (as := []) (st := [.ref 287]) rfl rfl (Nat.le_of_ble_eq_true rfl) (n2 := 304) (by show 288 ≤ 304; decide) (by decide) (ev_Mo_init mk_Mo_287 rfl (fun _ => fg_mk0 _ _) (fun _ => fg_mk1 _ _) ?_)
  show fg_wp _ _ _ _ _ _ _ _ _ (mk_bl _ _ _)
  refine fg_me lw_M0 ?_
  refine fg_astoren (fg_ft (pc := 15) tb_Law_law_0 7 rfl) (Nat.le_of_ble_eq_true rfl) ?_
  refine fg_iconst (fg_ft (pc := 16) tb_Law_law_0 8 rfl) ic_0 ?_
  refine fg_istoren (fg_ft (pc := 17) tb_Law_law_0 9 rfl) (Nat.le_of_ble_eq_true rfl) ?_
  exact lw_loop hQ 5001 0 fg_mu0 fg_R0 lw_A0 (fun _ => lw_A0) (by omega) (by omega) lw_J0
