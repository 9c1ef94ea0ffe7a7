/-! the words -/
def pz_mo : Nat → Nat
  | 1 => 1
  | 3 => 1
  | 4 => 1
  | 7 => 1
  | 8 => 1
  | _ => 0
/-- the sign of number i of a line of word w -/
def pz_sg (w i : Nat) : Nat := if i < (pz_ns w).length then (pz_ns w).getD i 0 else if pz_mo w = 1 ∧ 0 < (pz_ns w).length then (pz_ns w).getD ((pz_ns w).length - 1) 0 else 32
def pz_so (w : Nat) : Nat := if w < 10 then 0 else 1
theorem fk_Word_80_0 : fg_KF "ForgetBread$Word" 80 0 (.int (-1 : Int32)) := ⟨_, List.mem_of_getElem? (l := fg_ofld) (i := 0) rfl, rfl, rfl, fg_tblIn 1724 (by decide +kernel) (by decide +kernel)⟩
theorem ev_Word_sort_0 {E : fg_E} {d : Nat} {μ : Nat → Nat → Int32} {R : fg_T4} {Q : Option Value → fg_M → Prop} (hQ : Q (some (.int (nI (pz_so 0)))) (μ, fg_rho R, 304)) : fg_Ev E yy_Word_sort (d + 1) [.ref 0] (μ, fg_rho R, 304) 304 Q := by
  refine fg_intro (by decide +kernel) (Nat.le_of_ble_eq_true rfl) (fg_okAs rfl) (Nat.le_refl _) ?_
  refine fg_aloadn (fg_ft (pc := 0) tb_Word_sort 0 rfl) rfl ?_
  refine fg_getK (fg_ft (pc := 1) tb_Word_sort 1 rfl) fk_Word_80_0 ?_
  refine fg_iconst (fg_ft (pc := 4) tb_Word_sort 2 rfl) ic_m1 ?_
  refine fg_icmp_ne (tgt := 12) (fg_ft (pc := 5) tb_Word_sort 3 rfl) (by decide) (fun c5 => (absurd rfl c5)) (fun c5 => ?_)
  refine fg_iconst (fg_ft (pc := 8) tb_Word_sort 4 rfl) ic_0 ?_
  refine fg_goto (tgt := 13) (fg_ft (pc := 9) tb_Word_sort 5 rfl) (by decide) ?_
  exact fg_iret (fg_ft (pc := 13) tb_Word_sort 7 rfl) rfl rfl (hQ)
theorem fk_Word_80_1 : fg_KF "ForgetBread$Word" 80 1 (.int (-1 : Int32)) := ⟨_, List.mem_of_getElem? (l := fg_ofld) (i := 6) rfl, rfl, rfl, fg_tblIn 1724 (by decide +kernel) (by decide +kernel)⟩
theorem ev_Word_sort_1 {E : fg_E} {d : Nat} {μ : Nat → Nat → Int32} {R : fg_T4} {Q : Option Value → fg_M → Prop} (hQ : Q (some (.int (nI (pz_so 1)))) (μ, fg_rho R, 304)) : fg_Ev E yy_Word_sort (d + 1) [.ref 1] (μ, fg_rho R, 304) 304 Q := by
  refine fg_intro (by decide +kernel) (Nat.le_of_ble_eq_true rfl) (fg_okAs rfl) (Nat.le_refl _) ?_
  refine fg_aloadn (fg_ft (pc := 0) tb_Word_sort 0 rfl) rfl ?_
  refine fg_getK (fg_ft (pc := 1) tb_Word_sort 1 rfl) fk_Word_80_1 ?_
  refine fg_iconst (fg_ft (pc := 4) tb_Word_sort 2 rfl) ic_m1 ?_
  refine fg_icmp_ne (tgt := 12) (fg_ft (pc := 5) tb_Word_sort 3 rfl) (by decide) (fun c5 => (absurd rfl c5)) (fun c5 => ?_)
  refine fg_iconst (fg_ft (pc := 8) tb_Word_sort 4 rfl) ic_0 ?_
  refine fg_goto (tgt := 13) (fg_ft (pc := 9) tb_Word_sort 5 rfl) (by decide) ?_
  exact fg_iret (fg_ft (pc := 13) tb_Word_sort 7 rfl) rfl rfl (hQ)
theorem fk_Word_80_2 : fg_KF "ForgetBread$Word" 80 2 (.int (-1 : Int32)) := ⟨_, List.mem_of_getElem? (l := fg_ofld) (i := 12) rfl, rfl, rfl, fg_tblIn 1724 (by decide +kernel) (by decide +kernel)⟩
theorem ev_Word_sort_2 {E : fg_E} {d : Nat} {μ : Nat → Nat → Int32} {R : fg_T4} {Q : Option Value → fg_M → Prop} (hQ : Q (some (.int (nI (pz_so 2)))) (μ, fg_rho R, 304)) : fg_Ev E yy_Word_sort (d + 1) [.ref 2] (μ, fg_rho R, 304) 304 Q := by
  refine fg_intro (by decide +kernel) (Nat.le_of_ble_eq_true rfl) (fg_okAs rfl) (Nat.le_refl _) ?_
  refine fg_aloadn (fg_ft (pc := 0) tb_Word_sort 0 rfl) rfl ?_
  refine fg_getK (fg_ft (pc := 1) tb_Word_sort 1 rfl) fk_Word_80_2 ?_
  refine fg_iconst (fg_ft (pc := 4) tb_Word_sort 2 rfl) ic_m1 ?_
  refine fg_icmp_ne (tgt := 12) (fg_ft (pc := 5) tb_Word_sort 3 rfl) (by decide) (fun c5 => (absurd rfl c5)) (fun c5 => ?_)
  refine fg_iconst (fg_ft (pc := 8) tb_Word_sort 4 rfl) ic_0 ?_
  refine fg_goto (tgt := 13) (fg_ft (pc := 9) tb_Word_sort 5 rfl) (by decide) ?_
  exact fg_iret (fg_ft (pc := 13) tb_Word_sort 7 rfl) rfl rfl (hQ)
theorem fk_Word_80_3 : fg_KF "ForgetBread$Word" 80 3 (.int (-1 : Int32)) := ⟨_, List.mem_of_getElem? (l := fg_ofld) (i := 18) rfl, rfl, rfl, fg_tblIn 1724 (by decide +kernel) (by decide +kernel)⟩
theorem ev_Word_sort_3 {E : fg_E} {d : Nat} {μ : Nat → Nat → Int32} {R : fg_T4} {Q : Option Value → fg_M → Prop} (hQ : Q (some (.int (nI (pz_so 3)))) (μ, fg_rho R, 304)) : fg_Ev E yy_Word_sort (d + 1) [.ref 3] (μ, fg_rho R, 304) 304 Q := by
  refine fg_intro (by decide +kernel) (Nat.le_of_ble_eq_true rfl) (fg_okAs rfl) (Nat.le_refl _) ?_
  refine fg_aloadn (fg_ft (pc := 0) tb_Word_sort 0 rfl) rfl ?_
  refine fg_getK (fg_ft (pc := 1) tb_Word_sort 1 rfl) fk_Word_80_3 ?_
  refine fg_iconst (fg_ft (pc := 4) tb_Word_sort 2 rfl) ic_m1 ?_
  refine fg_icmp_ne (tgt := 12) (fg_ft (pc := 5) tb_Word_sort 3 rfl) (by decide) (fun c5 => (absurd rfl c5)) (fun c5 => ?_)
  refine fg_iconst (fg_ft (pc := 8) tb_Word_sort 4 rfl) ic_0 ?_
  refine fg_goto (tgt := 13) (fg_ft (pc := 9) tb_Word_sort 5 rfl) (by decide) ?_
  exact fg_iret (fg_ft (pc := 13) tb_Word_sort 7 rfl) rfl rfl (hQ)
theorem fk_Word_80_4 : fg_KF "ForgetBread$Word" 80 4 (.int (-1 : Int32)) := ⟨_, List.mem_of_getElem? (l := fg_ofld) (i := 24) rfl, rfl, rfl, fg_tblIn 1724 (by decide +kernel) (by decide +kernel)⟩
theorem ev_Word_sort_4 {E : fg_E} {d : Nat} {μ : Nat → Nat → Int32} {R : fg_T4} {Q : Option Value → fg_M → Prop} (hQ : Q (some (.int (nI (pz_so 4)))) (μ, fg_rho R, 304)) : fg_Ev E yy_Word_sort (d + 1) [.ref 4] (μ, fg_rho R, 304) 304 Q := by
  refine fg_intro (by decide +kernel) (Nat.le_of_ble_eq_true rfl) (fg_okAs rfl) (Nat.le_refl _) ?_
  refine fg_aloadn (fg_ft (pc := 0) tb_Word_sort 0 rfl) rfl ?_
  refine fg_getK (fg_ft (pc := 1) tb_Word_sort 1 rfl) fk_Word_80_4 ?_
  refine fg_iconst (fg_ft (pc := 4) tb_Word_sort 2 rfl) ic_m1 ?_
  refine fg_icmp_ne (tgt := 12) (fg_ft (pc := 5) tb_Word_sort 3 rfl) (by decide) (fun c5 => (absurd rfl c5)) (fun c5 => ?_)
  refine fg_iconst (fg_ft (pc := 8) tb_Word_sort 4 rfl) ic_0 ?_
  refine fg_goto (tgt := 13) (fg_ft (pc := 9) tb_Word_sort 5 rfl) (by decide) ?_
  exact fg_iret (fg_ft (pc := 13) tb_Word_sort 7 rfl) rfl rfl (hQ)
theorem fk_Word_80_5 : fg_KF "ForgetBread$Word" 80 5 (.int (-1 : Int32)) := ⟨_, List.mem_of_getElem? (l := fg_ofld) (i := 30) rfl, rfl, rfl, fg_tblIn 1724 (by decide +kernel) (by decide +kernel)⟩
theorem ev_Word_sort_5 {E : fg_E} {d : Nat} {μ : Nat → Nat → Int32} {R : fg_T4} {Q : Option Value → fg_M → Prop} (hQ : Q (some (.int (nI (pz_so 5)))) (μ, fg_rho R, 304)) : fg_Ev E yy_Word_sort (d + 1) [.ref 5] (μ, fg_rho R, 304) 304 Q := by
  refine fg_intro (by decide +kernel) (Nat.le_of_ble_eq_true rfl) (fg_okAs rfl) (Nat.le_refl _) ?_
  refine fg_aloadn (fg_ft (pc := 0) tb_Word_sort 0 rfl) rfl ?_
  refine fg_getK (fg_ft (pc := 1) tb_Word_sort 1 rfl) fk_Word_80_5 ?_
  refine fg_iconst (fg_ft (pc := 4) tb_Word_sort 2 rfl) ic_m1 ?_
  refine fg_icmp_ne (tgt := 12) (fg_ft (pc := 5) tb_Word_sort 3 rfl) (by decide) (fun c5 => (absurd rfl c5)) (fun c5 => ?_)
  refine fg_iconst (fg_ft (pc := 8) tb_Word_sort 4 rfl) ic_0 ?_
  refine fg_goto (tgt := 13) (fg_ft (pc := 9) tb_Word_sort 5 rfl) (by decide) ?_
  exact fg_iret (fg_ft (pc := 13) tb_Word_sort 7 rfl) rfl rfl (hQ)
theorem fk_Word_80_6 : fg_KF "ForgetBread$Word" 80 6 (.int (-1 : Int32)) := ⟨_, List.mem_of_getElem? (l := fg_ofld) (i := 36) rfl, rfl, rfl, fg_tblIn 1724 (by decide +kernel) (by decide +kernel)⟩
theorem ev_Word_sort_6 {E : fg_E} {d : Nat} {μ : Nat → Nat → Int32} {R : fg_T4} {Q : Option Value → fg_M → Prop} (hQ : Q (some (.int (nI (pz_so 6)))) (μ, fg_rho R, 304)) : fg_Ev E yy_Word_sort (d + 1) [.ref 6] (μ, fg_rho R, 304) 304 Q := by
  refine fg_intro (by decide +kernel) (Nat.le_of_ble_eq_true rfl) (fg_okAs rfl) (Nat.le_refl _) ?_
  refine fg_aloadn (fg_ft (pc := 0) tb_Word_sort 0 rfl) rfl ?_
  refine fg_getK (fg_ft (pc := 1) tb_Word_sort 1 rfl) fk_Word_80_6 ?_
  refine fg_iconst (fg_ft (pc := 4) tb_Word_sort 2 rfl) ic_m1 ?_
  refine fg_icmp_ne (tgt := 12) (fg_ft (pc := 5) tb_Word_sort 3 rfl) (by decide) (fun c5 => (absurd rfl c5)) (fun c5 => ?_)
  refine fg_iconst (fg_ft (pc := 8) tb_Word_sort 4 rfl) ic_0 ?_
  refine fg_goto (tgt := 13) (fg_ft (pc := 9) tb_Word_sort 5 rfl) (by decide) ?_
  exact fg_iret (fg_ft (pc := 13) tb_Word_sort 7 rfl) rfl rfl (hQ)
theorem fk_Word_80_7 : fg_KF "ForgetBread$Word" 80 7 (.int (-1 : Int32)) := ⟨_, List.mem_of_getElem? (l := fg_ofld) (i := 42) rfl, rfl, rfl, fg_tblIn 1724 (by decide +kernel) (by decide +kernel)⟩
theorem ev_Word_sort_7 {E : fg_E} {d : Nat} {μ : Nat → Nat → Int32} {R : fg_T4} {Q : Option Value → fg_M → Prop} (hQ : Q (some (.int (nI (pz_so 7)))) (μ, fg_rho R, 304)) : fg_Ev E yy_Word_sort (d + 1) [.ref 7] (μ, fg_rho R, 304) 304 Q := by
  refine fg_intro (by decide +kernel) (Nat.le_of_ble_eq_true rfl) (fg_okAs rfl) (Nat.le_refl _) ?_
  refine fg_aloadn (fg_ft (pc := 0) tb_Word_sort 0 rfl) rfl ?_
  refine fg_getK (fg_ft (pc := 1) tb_Word_sort 1 rfl) fk_Word_80_7 ?_
  refine fg_iconst (fg_ft (pc := 4) tb_Word_sort 2 rfl) ic_m1 ?_
  refine fg_icmp_ne (tgt := 12) (fg_ft (pc := 5) tb_Word_sort 3 rfl) (by decide) (fun c5 => (absurd rfl c5)) (fun c5 => ?_)
  refine fg_iconst (fg_ft (pc := 8) tb_Word_sort 4 rfl) ic_0 ?_
  refine fg_goto (tgt := 13) (fg_ft (pc := 9) tb_Word_sort 5 rfl) (by decide) ?_
  exact fg_iret (fg_ft (pc := 13) tb_Word_sort 7 rfl) rfl rfl (hQ)
theorem fk_Word_80_8 : fg_KF "ForgetBread$Word" 80 8 (.int (-1 : Int32)) := ⟨_, List.mem_of_getElem? (l := fg_ofld) (i := 48) rfl, rfl, rfl, fg_tblIn 1724 (by decide +kernel) (by decide +kernel)⟩
theorem ev_Word_sort_8 {E : fg_E} {d : Nat} {μ : Nat → Nat → Int32} {R : fg_T4} {Q : Option Value → fg_M → Prop} (hQ : Q (some (.int (nI (pz_so 8)))) (μ, fg_rho R, 304)) : fg_Ev E yy_Word_sort (d + 1) [.ref 8] (μ, fg_rho R, 304) 304 Q := by
  refine fg_intro (by decide +kernel) (Nat.le_of_ble_eq_true rfl) (fg_okAs rfl) (Nat.le_refl _) ?_
  refine fg_aloadn (fg_ft (pc := 0) tb_Word_sort 0 rfl) rfl ?_
  refine fg_getK (fg_ft (pc := 1) tb_Word_sort 1 rfl) fk_Word_80_8 ?_
  refine fg_iconst (fg_ft (pc := 4) tb_Word_sort 2 rfl) ic_m1 ?_
  refine fg_icmp_ne (tgt := 12) (fg_ft (pc := 5) tb_Word_sort 3 rfl) (by decide) (fun c5 => (absurd rfl c5)) (fun c5 => ?_)
  refine fg_iconst (fg_ft (pc := 8) tb_Word_sort 4 rfl) ic_0 ?_
  refine fg_goto (tgt := 13) (fg_ft (pc := 9) tb_Word_sort 5 rfl) (by decide) ?_
  exact fg_iret (fg_ft (pc := 13) tb_Word_sort 7 rfl) rfl rfl (hQ)
theorem fk_Word_80_9 : fg_KF "ForgetBread$Word" 80 9 (.int (-1 : Int32)) := ⟨_, List.mem_of_getElem? (l := fg_ofld) (i := 54) rfl, rfl, rfl, fg_tblIn 1724 (by decide +kernel) (by decide +kernel)⟩
theorem ev_Word_sort_9 {E : fg_E} {d : Nat} {μ : Nat → Nat → Int32} {R : fg_T4} {Q : Option Value → fg_M → Prop} (hQ : Q (some (.int (nI (pz_so 9)))) (μ, fg_rho R, 304)) : fg_Ev E yy_Word_sort (d + 1) [.ref 9] (μ, fg_rho R, 304) 304 Q := by
  refine fg_intro (by decide +kernel) (Nat.le_of_ble_eq_true rfl) (fg_okAs rfl) (Nat.le_refl _) ?_
  refine fg_aloadn (fg_ft (pc := 0) tb_Word_sort 0 rfl) rfl ?_
  refine fg_getK (fg_ft (pc := 1) tb_Word_sort 1 rfl) fk_Word_80_9 ?_
  refine fg_iconst (fg_ft (pc := 4) tb_Word_sort 2 rfl) ic_m1 ?_
  refine fg_icmp_ne (tgt := 12) (fg_ft (pc := 5) tb_Word_sort 3 rfl) (by decide) (fun c5 => (absurd rfl c5)) (fun c5 => ?_)
  refine fg_iconst (fg_ft (pc := 8) tb_Word_sort 4 rfl) ic_0 ?_
  refine fg_goto (tgt := 13) (fg_ft (pc := 9) tb_Word_sort 5 rfl) (by decide) ?_
  exact fg_iret (fg_ft (pc := 13) tb_Word_sort 7 rfl) rfl rfl (hQ)
theorem fk_Word_80_10 : fg_KF "ForgetBread$Word" 80 10 (.int (nI 0)) := ⟨_, List.mem_of_getElem? (l := fg_ofld) (i := 60) rfl, rfl, rfl, fg_tblIn 1724 (by decide +kernel) (by decide +kernel)⟩
theorem ev_Word_sort_10 {E : fg_E} {d : Nat} {μ : Nat → Nat → Int32} {R : fg_T4} {Q : Option Value → fg_M → Prop} (hQ : Q (some (.int (nI (pz_so 10)))) (μ, fg_rho R, 304)) : fg_Ev E yy_Word_sort (d + 1) [.ref 10] (μ, fg_rho R, 304) 304 Q := by
  refine fg_intro (by decide +kernel) (Nat.le_of_ble_eq_true rfl) (fg_okAs rfl) (Nat.le_refl _) ?_
  refine fg_aloadn (fg_ft (pc := 0) tb_Word_sort 0 rfl) rfl ?_
  refine fg_getK (fg_ft (pc := 1) tb_Word_sort 1 rfl) fk_Word_80_10 ?_
  refine fg_iconst (fg_ft (pc := 4) tb_Word_sort 2 rfl) ic_m1 ?_
  refine fg_icmp_neM (tgt := 12) (fg_ft (pc := 5) tb_Word_sort 3 rfl) (by decide) (by decide) (fun c5 => ?_) (fun c5 => (absurd c5 (by decide)))
  refine fg_iconst (fg_ft (pc := 12) tb_Word_sort 6 rfl) ic_1 ?_
  exact fg_iret (fg_ft (pc := 13) tb_Word_sort 7 rfl) rfl rfl (hQ)
theorem fk_Word_80_11 : fg_KF "ForgetBread$Word" 80 11 (.int (nI 1)) := ⟨_, List.mem_of_getElem? (l := fg_ofld) (i := 66) rfl, rfl, rfl, fg_tblIn 1724 (by decide +kernel) (by decide +kernel)⟩
theorem ev_Word_sort_11 {E : fg_E} {d : Nat} {μ : Nat → Nat → Int32} {R : fg_T4} {Q : Option Value → fg_M → Prop} (hQ : Q (some (.int (nI (pz_so 11)))) (μ, fg_rho R, 304)) : fg_Ev E yy_Word_sort (d + 1) [.ref 11] (μ, fg_rho R, 304) 304 Q := by
  refine fg_intro (by decide +kernel) (Nat.le_of_ble_eq_true rfl) (fg_okAs rfl) (Nat.le_refl _) ?_
  refine fg_aloadn (fg_ft (pc := 0) tb_Word_sort 0 rfl) rfl ?_
  refine fg_getK (fg_ft (pc := 1) tb_Word_sort 1 rfl) fk_Word_80_11 ?_
  refine fg_iconst (fg_ft (pc := 4) tb_Word_sort 2 rfl) ic_m1 ?_
  refine fg_icmp_neM (tgt := 12) (fg_ft (pc := 5) tb_Word_sort 3 rfl) (by decide) (by decide) (fun c5 => ?_) (fun c5 => (absurd c5 (by decide)))
  refine fg_iconst (fg_ft (pc := 12) tb_Word_sort 6 rfl) ic_1 ?_
  exact fg_iret (fg_ft (pc := 13) tb_Word_sort 7 rfl) rfl rfl (hQ)
theorem fk_Word_80_12 : fg_KF "ForgetBread$Word" 80 12 (.int (nI 2)) := ⟨_, List.mem_of_getElem? (l := fg_ofld) (i := 72) rfl, rfl, rfl, fg_tblIn 1724 (by decide +kernel) (by decide +kernel)⟩
theorem ev_Word_sort_12 {E : fg_E} {d : Nat} {μ : Nat → Nat → Int32} {R : fg_T4} {Q : Option Value → fg_M → Prop} (hQ : Q (some (.int (nI (pz_so 12)))) (μ, fg_rho R, 304)) : fg_Ev E yy_Word_sort (d + 1) [.ref 12] (μ, fg_rho R, 304) 304 Q := by
  refine fg_intro (by decide +kernel) (Nat.le_of_ble_eq_true rfl) (fg_okAs rfl) (Nat.le_refl _) ?_
  refine fg_aloadn (fg_ft (pc := 0) tb_Word_sort 0 rfl) rfl ?_
  refine fg_getK (fg_ft (pc := 1) tb_Word_sort 1 rfl) fk_Word_80_12 ?_
  refine fg_iconst (fg_ft (pc := 4) tb_Word_sort 2 rfl) ic_m1 ?_
  refine fg_icmp_neM (tgt := 12) (fg_ft (pc := 5) tb_Word_sort 3 rfl) (by decide) (by decide) (fun c5 => ?_) (fun c5 => (absurd c5 (by decide)))
  refine fg_iconst (fg_ft (pc := 12) tb_Word_sort 6 rfl) ic_1 ?_
  exact fg_iret (fg_ft (pc := 13) tb_Word_sort 7 rfl) rfl rfl (hQ)
theorem fk_Word_80_13 : fg_KF "ForgetBread$Word" 80 13 (.int (nI 3)) := ⟨_, List.mem_of_getElem? (l := fg_ofld) (i := 78) rfl, rfl, rfl, fg_tblIn 1724 (by decide +kernel) (by decide +kernel)⟩
theorem ev_Word_sort_13 {E : fg_E} {d : Nat} {μ : Nat → Nat → Int32} {R : fg_T4} {Q : Option Value → fg_M → Prop} (hQ : Q (some (.int (nI (pz_so 13)))) (μ, fg_rho R, 304)) : fg_Ev E yy_Word_sort (d + 1) [.ref 13] (μ, fg_rho R, 304) 304 Q := by
  refine fg_intro (by decide +kernel) (Nat.le_of_ble_eq_true rfl) (fg_okAs rfl) (Nat.le_refl _) ?_
  refine fg_aloadn (fg_ft (pc := 0) tb_Word_sort 0 rfl) rfl ?_
  refine fg_getK (fg_ft (pc := 1) tb_Word_sort 1 rfl) fk_Word_80_13 ?_
  refine fg_iconst (fg_ft (pc := 4) tb_Word_sort 2 rfl) ic_m1 ?_
  refine fg_icmp_neM (tgt := 12) (fg_ft (pc := 5) tb_Word_sort 3 rfl) (by decide) (by decide) (fun c5 => ?_) (fun c5 => (absurd c5 (by decide)))
  refine fg_iconst (fg_ft (pc := 12) tb_Word_sort 6 rfl) ic_1 ?_
  exact fg_iret (fg_ft (pc := 13) tb_Word_sort 7 rfl) rfl rfl (hQ)
theorem fk_Word_80_14 : fg_KF "ForgetBread$Word" 80 14 (.int (nI 4)) := ⟨_, List.mem_of_getElem? (l := fg_ofld) (i := 84) rfl, rfl, rfl, fg_tblIn 1724 (by decide +kernel) (by decide +kernel)⟩
theorem ev_Word_sort_14 {E : fg_E} {d : Nat} {μ : Nat → Nat → Int32} {R : fg_T4} {Q : Option Value → fg_M → Prop} (hQ : Q (some (.int (nI (pz_so 14)))) (μ, fg_rho R, 304)) : fg_Ev E yy_Word_sort (d + 1) [.ref 14] (μ, fg_rho R, 304) 304 Q := by
  refine fg_intro (by decide +kernel) (Nat.le_of_ble_eq_true rfl) (fg_okAs rfl) (Nat.le_refl _) ?_
  refine fg_aloadn (fg_ft (pc := 0) tb_Word_sort 0 rfl) rfl ?_
  refine fg_getK (fg_ft (pc := 1) tb_Word_sort 1 rfl) fk_Word_80_14 ?_
  refine fg_iconst (fg_ft (pc := 4) tb_Word_sort 2 rfl) ic_m1 ?_
  refine fg_icmp_neM (tgt := 12) (fg_ft (pc := 5) tb_Word_sort 3 rfl) (by decide) (by decide) (fun c5 => ?_) (fun c5 => (absurd c5 (by decide)))
  refine fg_iconst (fg_ft (pc := 12) tb_Word_sort 6 rfl) ic_1 ?_
  exact fg_iret (fg_ft (pc := 13) tb_Word_sort 7 rfl) rfl rfl (hQ)
theorem fk_Word_80_15 : fg_KF "ForgetBread$Word" 80 15 (.int (nI 5)) := ⟨_, List.mem_of_getElem? (l := fg_ofld) (i := 90) rfl, rfl, rfl, fg_tblIn 1724 (by decide +kernel) (by decide +kernel)⟩
theorem ev_Word_sort_15 {E : fg_E} {d : Nat} {μ : Nat → Nat → Int32} {R : fg_T4} {Q : Option Value → fg_M → Prop} (hQ : Q (some (.int (nI (pz_so 15)))) (μ, fg_rho R, 304)) : fg_Ev E yy_Word_sort (d + 1) [.ref 15] (μ, fg_rho R, 304) 304 Q := by
  refine fg_intro (by decide +kernel) (Nat.le_of_ble_eq_true rfl) (fg_okAs rfl) (Nat.le_refl _) ?_
  refine fg_aloadn (fg_ft (pc := 0) tb_Word_sort 0 rfl) rfl ?_
  refine fg_getK (fg_ft (pc := 1) tb_Word_sort 1 rfl) fk_Word_80_15 ?_
  refine fg_iconst (fg_ft (pc := 4) tb_Word_sort 2 rfl) ic_m1 ?_
  refine fg_icmp_neM (tgt := 12) (fg_ft (pc := 5) tb_Word_sort 3 rfl) (by decide) (by decide) (fun c5 => ?_) (fun c5 => (absurd c5 (by decide)))
  refine fg_iconst (fg_ft (pc := 12) tb_Word_sort 6 rfl) ic_1 ?_
  exact fg_iret (fg_ft (pc := 13) tb_Word_sort 7 rfl) rfl rfl (hQ)
theorem fk_Word_80_16 : fg_KF "ForgetBread$Word" 80 16 (.int (nI 6)) := ⟨_, List.mem_of_getElem? (l := fg_ofld) (i := 96) rfl, rfl, rfl, fg_tblIn 1724 (by decide +kernel) (by decide +kernel)⟩
theorem ev_Word_sort_16 {E : fg_E} {d : Nat} {μ : Nat → Nat → Int32} {R : fg_T4} {Q : Option Value → fg_M → Prop} (hQ : Q (some (.int (nI (pz_so 16)))) (μ, fg_rho R, 304)) : fg_Ev E yy_Word_sort (d + 1) [.ref 16] (μ, fg_rho R, 304) 304 Q := by
  refine fg_intro (by decide +kernel) (Nat.le_of_ble_eq_true rfl) (fg_okAs rfl) (Nat.le_refl _) ?_
  refine fg_aloadn (fg_ft (pc := 0) tb_Word_sort 0 rfl) rfl ?_
  refine fg_getK (fg_ft (pc := 1) tb_Word_sort 1 rfl) fk_Word_80_16 ?_
  refine fg_iconst (fg_ft (pc := 4) tb_Word_sort 2 rfl) ic_m1 ?_
  refine fg_icmp_neM (tgt := 12) (fg_ft (pc := 5) tb_Word_sort 3 rfl) (by decide) (by decide) (fun c5 => ?_) (fun c5 => (absurd c5 (by decide)))
  refine fg_iconst (fg_ft (pc := 12) tb_Word_sort 6 rfl) ic_1 ?_
  exact fg_iret (fg_ft (pc := 13) tb_Word_sort 7 rfl) rfl rfl (hQ)
theorem ev_Word_sort {E : fg_E} {d : Nat} {μ : Nat → Nat → Int32} {R : fg_T4} {Q : Option Value → fg_M → Prop} {w : Nat} (hw : w < 17) (hQ : Q (some (.int (nI (pz_so w)))) (μ, fg_rho R, 304)) : fg_Ev E yy_Word_sort (d + 1) [.ref w] (μ, fg_rho R, 304) 304 Q := by
  rcases (show w = 0 ∨ w = 1 ∨ w = 2 ∨ w = 3 ∨ w = 4 ∨ w = 5 ∨ w = 6 ∨ w = 7 ∨ w = 8 ∨ w = 9 ∨ w = 10 ∨ w = 11 ∨ w = 12 ∨ w = 13 ∨ w = 14 ∨ w = 15 ∨ w = 16 by omega) with rfl | rfl | rfl | rfl | rfl | rfl | rfl | rfl | rfl | rfl | rfl | rfl | rfl | rfl | rfl | rfl | rfl
  · exact ev_Word_sort_0 hQ
  · exact ev_Word_sort_1 hQ
  · exact ev_Word_sort_2 hQ
  · exact ev_Word_sort_3 hQ
  · exact ev_Word_sort_4 hQ
  · exact ev_Word_sort_5 hQ
  · exact ev_Word_sort_6 hQ
  · exact ev_Word_sort_7 hQ
  · exact ev_Word_sort_8 hQ
  · exact ev_Word_sort_9 hQ
  · exact ev_Word_sort_10 hQ
  · exact ev_Word_sort_11 hQ
  · exact ev_Word_sort_12 hQ
  · exact ev_Word_sort_13 hQ
  · exact ev_Word_sort_14 hQ
  · exact ev_Word_sort_15 hQ
  · exact ev_Word_sort_16 hQ
theorem fk_Word_84_0 : fg_KF "ForgetBread$Word" 84 0 (.ref 40) := ⟨_, List.mem_of_getElem? (l := fg_ofld) (i := 3) rfl, rfl, rfl, fg_tblIn 1729 (by decide +kernel) (by decide +kernel)⟩
theorem fk_Word_87_0 : fg_KF "ForgetBread$Word" 87 0 (.int (nI 0)) := ⟨_, List.mem_of_getElem? (l := fg_ofld) (i := 1) rfl, rfl, rfl, fg_tblIn 1730 (by decide +kernel) (by decide +kernel)⟩
theorem ev_Word_signAt_0 {E : fg_E} {d : Nat} {μ : Nat → Nat → Int32} {R : fg_T4} {Q : Option Value → fg_M → Prop} {i : Nat} (hi : i < 2 ^ 31) (hQ : Q (some (.int (nI (pz_sg 0 i)))) (μ, fg_rho R, 304)) : fg_Ev E yy_Word_signAt (d + 5) [.ref 0, .int (nI i)] (μ, fg_rho R, 304) 304 Q := by
  refine fg_intro (by decide +kernel) (Nat.le_of_ble_eq_true rfl) (fg_okAs rfl) (Nat.le_refl _) ?_
  refine fg_aloadn (fg_ft (pc := 0) tb_Word_signAt 0 rfl) rfl ?_
  refine fg_getK (fg_ft (pc := 1) tb_Word_signAt 1 rfl) fk_Word_84_0 ?_
  refine fg_callV (fg_ft (pc := 4) tb_Word_signAt 2 rfl) cf_Word_91 (Or.inr pz_n0.2.2.2.1) (as := []) (st := []) rfl rfl (Nat.le_of_ble_eq_true rfl) (Nat.le_refl _) (Nat.le_refl _) (ev_Str_length pz_n0 ?_)
  refine fg_top (y := (nI 1)) rfl ?_
  refine fg_iconst (fg_ft (pc := 7) tb_Word_signAt 3 rfl) ic_1 ?_
  refine fg_isubN (fg_ft (pc := 8) tb_Word_signAt 4 rfl) (by omega) ?_
  refine fg_top (y := (nI 0)) rfl ?_
  refine fg_istoren (fg_ft (pc := 9) tb_Word_signAt 5 rfl) (Nat.le_of_ble_eq_true rfl) ?_
  refine fg_aloadn (fg_ft (pc := 10) tb_Word_signAt 6 rfl) rfl ?_
  refine fg_getK (fg_ft (pc := 11) tb_Word_signAt 7 rfl) fk_Word_87_0 ?_
  refine fg_if_eq (tgt := 26) (fg_ft (pc := 14) tb_Word_signAt 8 rfl) (by decide) (fun _ => ?_) (fun h => absurd h (by decide))
  refine fg_iloadn (fg_ft (pc := 26) tb_Word_signAt 14 rfl) rfl ?_
  refine fg_istoren (fg_ft (pc := 27) tb_Word_signAt 15 rfl) (Nat.le_of_ble_eq_true rfl) ?_
  refine fg_iloadn (fg_ft (pc := 28) tb_Word_signAt 16 rfl) rfl ?_
  refine fg_if_ltN (tgt := 48) (fg_ft (pc := 29) tb_Word_signAt 17 rfl) (by decide) (hi) ?_
  refine fg_iloadn (fg_ft (pc := 32) tb_Word_signAt 18 rfl) rfl ?_
  refine fg_iloadn (fg_ft (pc := 33) tb_Word_signAt 19 rfl) rfl ?_
  refine fg_icmp_gtN (tgt := 48) (fg_ft (pc := 34) tb_Word_signAt 20 rfl) (by decide) (hi) (by decide) (fun c34 => ?_) (fun c34 => ?_)
  · refine fg_bipush (fg_ft (pc := 48) tb_Word_signAt 26 rfl) ib_32 ?_
    exact fg_zret (fg_ft (pc := 50) tb_Word_signAt 27 rfl) rfl (by decide) rfl (fg_q hQ (by first | (exfalso; omega) | (unfold pz_sg; rw [if_neg (show ¬ i < (pz_ns 0).length from by show ¬ i < 1; omega), if_neg (by decide)])))
  · refine fg_aloadn (fg_ft (pc := 37) tb_Word_signAt 21 rfl) rfl ?_
    refine fg_getK (fg_ft (pc := 38) tb_Word_signAt 22 rfl) fk_Word_84_0 ?_
    refine fg_iloadn (fg_ft (pc := 41) tb_Word_signAt 23 rfl) rfl ?_
    refine fg_callV (fg_ft (pc := 42) tb_Word_signAt 24 rfl) cf_Word_97 (Or.inr pz_n0.2.2.2.1) (as := [.int (nI i)]) (st := []) rfl rfl (Nat.le_of_ble_eq_true rfl) (Nat.le_refl _) (Nat.le_refl _) (ev_Str_charAt pz_n0 (i := i) (show i < (pz_ns 0).length from by show i < 1; omega) ?_)
    refine fg_goto (tgt := 50) (fg_ft (pc := 45) tb_Word_signAt 25 rfl) (by decide) ?_
    exact fg_zret (fg_ft (pc := 50) tb_Word_signAt 27 rfl) rfl ((pk_charN (Nat.lt_trans (pz_n0.2.2.2.2.2 i (show i < (pz_ns 0).length from by show i < 1; omega)).2 (by decide))).1) rfl (fg_q hQ (by unfold pz_sg; rw [if_pos (show i < (pz_ns 0).length from by show i < 1; omega)]))
theorem fk_Word_84_1 : fg_KF "ForgetBread$Word" 84 1 (.ref 41) := ⟨_, List.mem_of_getElem? (l := fg_ofld) (i := 9) rfl, rfl, rfl, fg_tblIn 1729 (by decide +kernel) (by decide +kernel)⟩
theorem fk_Word_87_1 : fg_KF "ForgetBread$Word" 87 1 (.int (nI 1)) := ⟨_, List.mem_of_getElem? (l := fg_ofld) (i := 7) rfl, rfl, rfl, fg_tblIn 1730 (by decide +kernel) (by decide +kernel)⟩
theorem ev_Word_signAt_1 {E : fg_E} {d : Nat} {μ : Nat → Nat → Int32} {R : fg_T4} {Q : Option Value → fg_M → Prop} {i : Nat} (hi : i < 2 ^ 31) (hQ : Q (some (.int (nI (pz_sg 1 i)))) (μ, fg_rho R, 304)) : fg_Ev E yy_Word_signAt (d + 5) [.ref 1, .int (nI i)] (μ, fg_rho R, 304) 304 Q := by
  refine fg_intro (by decide +kernel) (Nat.le_of_ble_eq_true rfl) (fg_okAs rfl) (Nat.le_refl _) ?_
  refine fg_aloadn (fg_ft (pc := 0) tb_Word_signAt 0 rfl) rfl ?_
  refine fg_getK (fg_ft (pc := 1) tb_Word_signAt 1 rfl) fk_Word_84_1 ?_
  refine fg_callV (fg_ft (pc := 4) tb_Word_signAt 2 rfl) cf_Word_91 (Or.inr pz_n1.2.2.2.1) (as := []) (st := []) rfl rfl (Nat.le_of_ble_eq_true rfl) (Nat.le_refl _) (Nat.le_refl _) (ev_Str_length pz_n1 ?_)
  refine fg_top (y := (nI 2)) rfl ?_
  refine fg_iconst (fg_ft (pc := 7) tb_Word_signAt 3 rfl) ic_1 ?_
  refine fg_isubN (fg_ft (pc := 8) tb_Word_signAt 4 rfl) (by omega) ?_
  refine fg_top (y := (nI 1)) rfl ?_
  refine fg_istoren (fg_ft (pc := 9) tb_Word_signAt 5 rfl) (Nat.le_of_ble_eq_true rfl) ?_
  refine fg_aloadn (fg_ft (pc := 10) tb_Word_signAt 6 rfl) rfl ?_
  refine fg_getK (fg_ft (pc := 11) tb_Word_signAt 7 rfl) fk_Word_87_1 ?_
  refine fg_if_eq (tgt := 26) (fg_ft (pc := 14) tb_Word_signAt 8 rfl) (by decide) (fun h => absurd h (by decide)) (fun _ => ?_)
  refine fg_iloadn (fg_ft (pc := 17) tb_Word_signAt 9 rfl) rfl ?_
  refine fg_iloadn (fg_ft (pc := 18) tb_Word_signAt 10 rfl) rfl ?_
  refine fg_icmp_leN (tgt := 26) (fg_ft (pc := 19) tb_Word_signAt 11 rfl) (by decide) (hi) (by decide) (fun c19 => ?_) (fun c19 => ?_)
  · refine fg_iloadn (fg_ft (pc := 26) tb_Word_signAt 14 rfl) rfl ?_
    refine fg_istoren (fg_ft (pc := 27) tb_Word_signAt 15 rfl) (Nat.le_of_ble_eq_true rfl) ?_
    refine fg_iloadn (fg_ft (pc := 28) tb_Word_signAt 16 rfl) rfl ?_
    refine fg_if_ltN (tgt := 48) (fg_ft (pc := 29) tb_Word_signAt 17 rfl) (by decide) (hi) ?_
    refine fg_iloadn (fg_ft (pc := 32) tb_Word_signAt 18 rfl) rfl ?_
    refine fg_iloadn (fg_ft (pc := 33) tb_Word_signAt 19 rfl) rfl ?_
    refine fg_icmp_gtN (tgt := 48) (fg_ft (pc := 34) tb_Word_signAt 20 rfl) (by decide) (hi) (by decide) (fun c34 => ?_) (fun c34 => ?_)
    · refine fg_bipush (fg_ft (pc := 48) tb_Word_signAt 26 rfl) ib_32 ?_
      exact fg_zret (fg_ft (pc := 50) tb_Word_signAt 27 rfl) rfl (by decide) rfl (fg_q hQ (by first | (exfalso; omega) | (unfold pz_sg; rw [if_neg (show ¬ i < (pz_ns 1).length from by show ¬ i < 2; omega), if_neg (by decide)])))
    · refine fg_aloadn (fg_ft (pc := 37) tb_Word_signAt 21 rfl) rfl ?_
      refine fg_getK (fg_ft (pc := 38) tb_Word_signAt 22 rfl) fk_Word_84_1 ?_
      refine fg_iloadn (fg_ft (pc := 41) tb_Word_signAt 23 rfl) rfl ?_
      refine fg_callV (fg_ft (pc := 42) tb_Word_signAt 24 rfl) cf_Word_97 (Or.inr pz_n1.2.2.2.1) (as := [.int (nI i)]) (st := []) rfl rfl (Nat.le_of_ble_eq_true rfl) (Nat.le_refl _) (Nat.le_refl _) (ev_Str_charAt pz_n1 (i := i) (show i < (pz_ns 1).length from by show i < 2; omega) ?_)
      refine fg_goto (tgt := 50) (fg_ft (pc := 45) tb_Word_signAt 25 rfl) (by decide) ?_
      exact fg_zret (fg_ft (pc := 50) tb_Word_signAt 27 rfl) rfl ((pk_charN (Nat.lt_trans (pz_n1.2.2.2.2.2 i (show i < (pz_ns 1).length from by show i < 2; omega)).2 (by decide))).1) rfl (fg_q hQ (by unfold pz_sg; rw [if_pos (show i < (pz_ns 1).length from by show i < 2; omega)]))
  · refine fg_iloadn (fg_ft (pc := 22) tb_Word_signAt 12 rfl) rfl ?_
    refine fg_goto (tgt := 27) (fg_ft (pc := 23) tb_Word_signAt 13 rfl) (by decide) ?_
    refine fg_istoren (fg_ft (pc := 27) tb_Word_signAt 15 rfl) (Nat.le_of_ble_eq_true rfl) ?_
    refine fg_iloadn (fg_ft (pc := 28) tb_Word_signAt 16 rfl) rfl ?_
    refine fg_if_ltN (tgt := 48) (fg_ft (pc := 29) tb_Word_signAt 17 rfl) (by decide) (by decide) ?_
    refine fg_iloadn (fg_ft (pc := 32) tb_Word_signAt 18 rfl) rfl ?_
    refine fg_iloadn (fg_ft (pc := 33) tb_Word_signAt 19 rfl) rfl ?_
    refine fg_icmp_gtN (tgt := 48) (fg_ft (pc := 34) tb_Word_signAt 20 rfl) (by decide) (by decide) (by decide) (fun c34 => (absurd c34 (by decide))) (fun c34 => ?_)
    refine fg_aloadn (fg_ft (pc := 37) tb_Word_signAt 21 rfl) rfl ?_
    refine fg_getK (fg_ft (pc := 38) tb_Word_signAt 22 rfl) fk_Word_84_1 ?_
    refine fg_iloadn (fg_ft (pc := 41) tb_Word_signAt 23 rfl) rfl ?_
    refine fg_callV (fg_ft (pc := 42) tb_Word_signAt 24 rfl) cf_Word_97 (Or.inr pz_n1.2.2.2.1) (as := [.int (nI 1)]) (st := []) rfl rfl (Nat.le_of_ble_eq_true rfl) (Nat.le_refl _) (Nat.le_refl _) (ev_Str_charAt pz_n1 (i := 1) (show 1 < (pz_ns 1).length from by show 1 < 2; omega) ?_)
    refine fg_goto (tgt := 50) (fg_ft (pc := 45) tb_Word_signAt 25 rfl) (by decide) ?_
    exact fg_zret (fg_ft (pc := 50) tb_Word_signAt 27 rfl) rfl ((pk_charN (Nat.lt_trans (pz_n1.2.2.2.2.2 1 (show 1 < (pz_ns 1).length from by show 1 < 2; omega)).2 (by decide))).1) rfl (fg_q hQ (by unfold pz_sg; rw [if_neg (show ¬ i < (pz_ns 1).length from by show ¬ i < 2; omega), if_pos (by decide)]; rfl))
theorem fk_Word_84_2 : fg_KF "ForgetBread$Word" 84 2 (.ref 42) := ⟨_, List.mem_of_getElem? (l := fg_ofld) (i := 15) rfl, rfl, rfl, fg_tblIn 1729 (by decide +kernel) (by decide +kernel)⟩
theorem fk_Word_87_2 : fg_KF "ForgetBread$Word" 87 2 (.int (nI 0)) := ⟨_, List.mem_of_getElem? (l := fg_ofld) (i := 13) rfl, rfl, rfl, fg_tblIn 1730 (by decide +kernel) (by decide +kernel)⟩
theorem ev_Word_signAt_2 {E : fg_E} {d : Nat} {μ : Nat → Nat → Int32} {R : fg_T4} {Q : Option Value → fg_M → Prop} {i : Nat} (hi : i < 2 ^ 31) (hQ : Q (some (.int (nI (pz_sg 2 i)))) (μ, fg_rho R, 304)) : fg_Ev E yy_Word_signAt (d + 5) [.ref 2, .int (nI i)] (μ, fg_rho R, 304) 304 Q := by
  refine fg_intro (by decide +kernel) (Nat.le_of_ble_eq_true rfl) (fg_okAs rfl) (Nat.le_refl _) ?_
  refine fg_aloadn (fg_ft (pc := 0) tb_Word_signAt 0 rfl) rfl ?_
  refine fg_getK (fg_ft (pc := 1) tb_Word_signAt 1 rfl) fk_Word_84_2 ?_
  refine fg_callV (fg_ft (pc := 4) tb_Word_signAt 2 rfl) cf_Word_91 (Or.inr pz_n2.2.2.2.1) (as := []) (st := []) rfl rfl (Nat.le_of_ble_eq_true rfl) (Nat.le_refl _) (Nat.le_refl _) (ev_Str_length pz_n2 ?_)
  refine fg_top (y := (nI 1)) rfl ?_
  refine fg_iconst (fg_ft (pc := 7) tb_Word_signAt 3 rfl) ic_1 ?_
  refine fg_isubN (fg_ft (pc := 8) tb_Word_signAt 4 rfl) (by omega) ?_
  refine fg_top (y := (nI 0)) rfl ?_
  refine fg_istoren (fg_ft (pc := 9) tb_Word_signAt 5 rfl) (Nat.le_of_ble_eq_true rfl) ?_
  refine fg_aloadn (fg_ft (pc := 10) tb_Word_signAt 6 rfl) rfl ?_
  refine fg_getK (fg_ft (pc := 11) tb_Word_signAt 7 rfl) fk_Word_87_2 ?_
  refine fg_if_eq (tgt := 26) (fg_ft (pc := 14) tb_Word_signAt 8 rfl) (by decide) (fun _ => ?_) (fun h => absurd h (by decide))
  refine fg_iloadn (fg_ft (pc := 26) tb_Word_signAt 14 rfl) rfl ?_
  refine fg_istoren (fg_ft (pc := 27) tb_Word_signAt 15 rfl) (Nat.le_of_ble_eq_true rfl) ?_
  refine fg_iloadn (fg_ft (pc := 28) tb_Word_signAt 16 rfl) rfl ?_
  refine fg_if_ltN (tgt := 48) (fg_ft (pc := 29) tb_Word_signAt 17 rfl) (by decide) (hi) ?_
  refine fg_iloadn (fg_ft (pc := 32) tb_Word_signAt 18 rfl) rfl ?_
  refine fg_iloadn (fg_ft (pc := 33) tb_Word_signAt 19 rfl) rfl ?_
  refine fg_icmp_gtN (tgt := 48) (fg_ft (pc := 34) tb_Word_signAt 20 rfl) (by decide) (hi) (by decide) (fun c34 => ?_) (fun c34 => ?_)
  · refine fg_bipush (fg_ft (pc := 48) tb_Word_signAt 26 rfl) ib_32 ?_
    exact fg_zret (fg_ft (pc := 50) tb_Word_signAt 27 rfl) rfl (by decide) rfl (fg_q hQ (by first | (exfalso; omega) | (unfold pz_sg; rw [if_neg (show ¬ i < (pz_ns 2).length from by show ¬ i < 1; omega), if_neg (by decide)])))
  · refine fg_aloadn (fg_ft (pc := 37) tb_Word_signAt 21 rfl) rfl ?_
    refine fg_getK (fg_ft (pc := 38) tb_Word_signAt 22 rfl) fk_Word_84_2 ?_
    refine fg_iloadn (fg_ft (pc := 41) tb_Word_signAt 23 rfl) rfl ?_
    refine fg_callV (fg_ft (pc := 42) tb_Word_signAt 24 rfl) cf_Word_97 (Or.inr pz_n2.2.2.2.1) (as := [.int (nI i)]) (st := []) rfl rfl (Nat.le_of_ble_eq_true rfl) (Nat.le_refl _) (Nat.le_refl _) (ev_Str_charAt pz_n2 (i := i) (show i < (pz_ns 2).length from by show i < 1; omega) ?_)
    refine fg_goto (tgt := 50) (fg_ft (pc := 45) tb_Word_signAt 25 rfl) (by decide) ?_
    exact fg_zret (fg_ft (pc := 50) tb_Word_signAt 27 rfl) rfl ((pk_charN (Nat.lt_trans (pz_n2.2.2.2.2.2 i (show i < (pz_ns 2).length from by show i < 1; omega)).2 (by decide))).1) rfl (fg_q hQ (by unfold pz_sg; rw [if_pos (show i < (pz_ns 2).length from by show i < 1; omega)]))
theorem fk_Word_84_3 : fg_KF "ForgetBread$Word" 84 3 (.ref 43) := ⟨_, List.mem_of_getElem? (l := fg_ofld) (i := 21) rfl, rfl, rfl, fg_tblIn 1729 (by decide +kernel) (by decide +kernel)⟩
theorem fk_Word_87_3 : fg_KF "ForgetBread$Word" 87 3 (.int (nI 1)) := ⟨_, List.mem_of_getElem? (l := fg_ofld) (i := 19) rfl, rfl, rfl, fg_tblIn 1730 (by decide +kernel) (by decide +kernel)⟩
theorem ev_Word_signAt_3 {E : fg_E} {d : Nat} {μ : Nat → Nat → Int32} {R : fg_T4} {Q : Option Value → fg_M → Prop} {i : Nat} (hi : i < 2 ^ 31) (hQ : Q (some (.int (nI (pz_sg 3 i)))) (μ, fg_rho R, 304)) : fg_Ev E yy_Word_signAt (d + 5) [.ref 3, .int (nI i)] (μ, fg_rho R, 304) 304 Q := by
  refine fg_intro (by decide +kernel) (Nat.le_of_ble_eq_true rfl) (fg_okAs rfl) (Nat.le_refl _) ?_
  refine fg_aloadn (fg_ft (pc := 0) tb_Word_signAt 0 rfl) rfl ?_
  refine fg_getK (fg_ft (pc := 1) tb_Word_signAt 1 rfl) fk_Word_84_3 ?_
  refine fg_callV (fg_ft (pc := 4) tb_Word_signAt 2 rfl) cf_Word_91 (Or.inr pz_n3.2.2.2.1) (as := []) (st := []) rfl rfl (Nat.le_of_ble_eq_true rfl) (Nat.le_refl _) (Nat.le_refl _) (ev_Str_length pz_n3 ?_)
  refine fg_top (y := (nI 2)) rfl ?_
  refine fg_iconst (fg_ft (pc := 7) tb_Word_signAt 3 rfl) ic_1 ?_
  refine fg_isubN (fg_ft (pc := 8) tb_Word_signAt 4 rfl) (by omega) ?_
  refine fg_top (y := (nI 1)) rfl ?_
  refine fg_istoren (fg_ft (pc := 9) tb_Word_signAt 5 rfl) (Nat.le_of_ble_eq_true rfl) ?_
  refine fg_aloadn (fg_ft (pc := 10) tb_Word_signAt 6 rfl) rfl ?_
  refine fg_getK (fg_ft (pc := 11) tb_Word_signAt 7 rfl) fk_Word_87_3 ?_
  refine fg_if_eq (tgt := 26) (fg_ft (pc := 14) tb_Word_signAt 8 rfl) (by decide) (fun h => absurd h (by decide)) (fun _ => ?_)
  refine fg_iloadn (fg_ft (pc := 17) tb_Word_signAt 9 rfl) rfl ?_
  refine fg_iloadn (fg_ft (pc := 18) tb_Word_signAt 10 rfl) rfl ?_
  refine fg_icmp_leN (tgt := 26) (fg_ft (pc := 19) tb_Word_signAt 11 rfl) (by decide) (hi) (by decide) (fun c19 => ?_) (fun c19 => ?_)
  · refine fg_iloadn (fg_ft (pc := 26) tb_Word_signAt 14 rfl) rfl ?_
    refine fg_istoren (fg_ft (pc := 27) tb_Word_signAt 15 rfl) (Nat.le_of_ble_eq_true rfl) ?_
    refine fg_iloadn (fg_ft (pc := 28) tb_Word_signAt 16 rfl) rfl ?_
    refine fg_if_ltN (tgt := 48) (fg_ft (pc := 29) tb_Word_signAt 17 rfl) (by decide) (hi) ?_
    refine fg_iloadn (fg_ft (pc := 32) tb_Word_signAt 18 rfl) rfl ?_
    refine fg_iloadn (fg_ft (pc := 33) tb_Word_signAt 19 rfl) rfl ?_
    refine fg_icmp_gtN (tgt := 48) (fg_ft (pc := 34) tb_Word_signAt 20 rfl) (by decide) (hi) (by decide) (fun c34 => ?_) (fun c34 => ?_)
    · refine fg_bipush (fg_ft (pc := 48) tb_Word_signAt 26 rfl) ib_32 ?_
      exact fg_zret (fg_ft (pc := 50) tb_Word_signAt 27 rfl) rfl (by decide) rfl (fg_q hQ (by first | (exfalso; omega) | (unfold pz_sg; rw [if_neg (show ¬ i < (pz_ns 3).length from by show ¬ i < 2; omega), if_neg (by decide)])))
    · refine fg_aloadn (fg_ft (pc := 37) tb_Word_signAt 21 rfl) rfl ?_
      refine fg_getK (fg_ft (pc := 38) tb_Word_signAt 22 rfl) fk_Word_84_3 ?_
      refine fg_iloadn (fg_ft (pc := 41) tb_Word_signAt 23 rfl) rfl ?_
      refine fg_callV (fg_ft (pc := 42) tb_Word_signAt 24 rfl) cf_Word_97 (Or.inr pz_n3.2.2.2.1) (as := [.int (nI i)]) (st := []) rfl rfl (Nat.le_of_ble_eq_true rfl) (Nat.le_refl _) (Nat.le_refl _) (ev_Str_charAt pz_n3 (i := i) (show i < (pz_ns 3).length from by show i < 2; omega) ?_)
      refine fg_goto (tgt := 50) (fg_ft (pc := 45) tb_Word_signAt 25 rfl) (by decide) ?_
      exact fg_zret (fg_ft (pc := 50) tb_Word_signAt 27 rfl) rfl ((pk_charN (Nat.lt_trans (pz_n3.2.2.2.2.2 i (show i < (pz_ns 3).length from by show i < 2; omega)).2 (by decide))).1) rfl (fg_q hQ (by unfold pz_sg; rw [if_pos (show i < (pz_ns 3).length from by show i < 2; omega)]))
  · refine fg_iloadn (fg_ft (pc := 22) tb_Word_signAt 12 rfl) rfl ?_
    refine fg_goto (tgt := 27) (fg_ft (pc := 23) tb_Word_signAt 13 rfl) (by decide) ?_
    refine fg_istoren (fg_ft (pc := 27) tb_Word_signAt 15 rfl) (Nat.le_of_ble_eq_true rfl) ?_
    refine fg_iloadn (fg_ft (pc := 28) tb_Word_signAt 16 rfl) rfl ?_
    refine fg_if_ltN (tgt := 48) (fg_ft (pc := 29) tb_Word_signAt 17 rfl) (by decide) (by decide) ?_
    refine fg_iloadn (fg_ft (pc := 32) tb_Word_signAt 18 rfl) rfl ?_
    refine fg_iloadn (fg_ft (pc := 33) tb_Word_signAt 19 rfl) rfl ?_
    refine fg_icmp_gtN (tgt := 48) (fg_ft (pc := 34) tb_Word_signAt 20 rfl) (by decide) (by decide) (by decide) (fun c34 => (absurd c34 (by decide))) (fun c34 => ?_)
    refine fg_aloadn (fg_ft (pc := 37) tb_Word_signAt 21 rfl) rfl ?_
    refine fg_getK (fg_ft (pc := 38) tb_Word_signAt 22 rfl) fk_Word_84_3 ?_
    refine fg_iloadn (fg_ft (pc := 41) tb_Word_signAt 23 rfl) rfl ?_
    refine fg_callV (fg_ft (pc := 42) tb_Word_signAt 24 rfl) cf_Word_97 (Or.inr pz_n3.2.2.2.1) (as := [.int (nI 1)]) (st := []) rfl rfl (Nat.le_of_ble_eq_true rfl) (Nat.le_refl _) (Nat.le_refl _) (ev_Str_charAt pz_n3 (i := 1) (show 1 < (pz_ns 3).length from by show 1 < 2; omega) ?_)
    refine fg_goto (tgt := 50) (fg_ft (pc := 45) tb_Word_signAt 25 rfl) (by decide) ?_
    exact fg_zret (fg_ft (pc := 50) tb_Word_signAt 27 rfl) rfl ((pk_charN (Nat.lt_trans (pz_n3.2.2.2.2.2 1 (show 1 < (pz_ns 3).length from by show 1 < 2; omega)).2 (by decide))).1) rfl (fg_q hQ (by unfold pz_sg; rw [if_neg (show ¬ i < (pz_ns 3).length from by show ¬ i < 2; omega), if_pos (by decide)]; rfl))
theorem fk_Word_84_4 : fg_KF "ForgetBread$Word" 84 4 (.ref 44) := ⟨_, List.mem_of_getElem? (l := fg_ofld) (i := 27) rfl, rfl, rfl, fg_tblIn 1729 (by decide +kernel) (by decide +kernel)⟩
theorem fk_Word_87_4 : fg_KF "ForgetBread$Word" 87 4 (.int (nI 1)) := ⟨_, List.mem_of_getElem? (l := fg_ofld) (i := 25) rfl, rfl, rfl, fg_tblIn 1730 (by decide +kernel) (by decide +kernel)⟩
theorem ev_Word_signAt_4 {E : fg_E} {d : Nat} {μ : Nat → Nat → Int32} {R : fg_T4} {Q : Option Value → fg_M → Prop} {i : Nat} (hi : i < 2 ^ 31) (hQ : Q (some (.int (nI (pz_sg 4 i)))) (μ, fg_rho R, 304)) : fg_Ev E yy_Word_signAt (d + 5) [.ref 4, .int (nI i)] (μ, fg_rho R, 304) 304 Q := by
  refine fg_intro (by decide +kernel) (Nat.le_of_ble_eq_true rfl) (fg_okAs rfl) (Nat.le_refl _) ?_
  refine fg_aloadn (fg_ft (pc := 0) tb_Word_signAt 0 rfl) rfl ?_
  refine fg_getK (fg_ft (pc := 1) tb_Word_signAt 1 rfl) fk_Word_84_4 ?_
  refine fg_callV (fg_ft (pc := 4) tb_Word_signAt 2 rfl) cf_Word_91 (Or.inr pz_n4.2.2.2.1) (as := []) (st := []) rfl rfl (Nat.le_of_ble_eq_true rfl) (Nat.le_refl _) (Nat.le_refl _) (ev_Str_length pz_n4 ?_)
  refine fg_top (y := (nI 2)) rfl ?_
  refine fg_iconst (fg_ft (pc := 7) tb_Word_signAt 3 rfl) ic_1 ?_
  refine fg_isubN (fg_ft (pc := 8) tb_Word_signAt 4 rfl) (by omega) ?_
  refine fg_top (y := (nI 1)) rfl ?_
  refine fg_istoren (fg_ft (pc := 9) tb_Word_signAt 5 rfl) (Nat.le_of_ble_eq_true rfl) ?_
  refine fg_aloadn (fg_ft (pc := 10) tb_Word_signAt 6 rfl) rfl ?_
  refine fg_getK (fg_ft (pc := 11) tb_Word_signAt 7 rfl) fk_Word_87_4 ?_
  refine fg_if_eq (tgt := 26) (fg_ft (pc := 14) tb_Word_signAt 8 rfl) (by decide) (fun h => absurd h (by decide)) (fun _ => ?_)
  refine fg_iloadn (fg_ft (pc := 17) tb_Word_signAt 9 rfl) rfl ?_
  refine fg_iloadn (fg_ft (pc := 18) tb_Word_signAt 10 rfl) rfl ?_
  refine fg_icmp_leN (tgt := 26) (fg_ft (pc := 19) tb_Word_signAt 11 rfl) (by decide) (hi) (by decide) (fun c19 => ?_) (fun c19 => ?_)
  · refine fg_iloadn (fg_ft (pc := 26) tb_Word_signAt 14 rfl) rfl ?_
    refine fg_istoren (fg_ft (pc := 27) tb_Word_signAt 15 rfl) (Nat.le_of_ble_eq_true rfl) ?_
    refine fg_iloadn (fg_ft (pc := 28) tb_Word_signAt 16 rfl) rfl ?_
    refine fg_if_ltN (tgt := 48) (fg_ft (pc := 29) tb_Word_signAt 17 rfl) (by decide) (hi) ?_
    refine fg_iloadn (fg_ft (pc := 32) tb_Word_signAt 18 rfl) rfl ?_
    refine fg_iloadn (fg_ft (pc := 33) tb_Word_signAt 19 rfl) rfl ?_
    refine fg_icmp_gtN (tgt := 48) (fg_ft (pc := 34) tb_Word_signAt 20 rfl) (by decide) (hi) (by decide) (fun c34 => ?_) (fun c34 => ?_)
    · refine fg_bipush (fg_ft (pc := 48) tb_Word_signAt 26 rfl) ib_32 ?_
      exact fg_zret (fg_ft (pc := 50) tb_Word_signAt 27 rfl) rfl (by decide) rfl (fg_q hQ (by first | (exfalso; omega) | (unfold pz_sg; rw [if_neg (show ¬ i < (pz_ns 4).length from by show ¬ i < 2; omega), if_neg (by decide)])))
    · refine fg_aloadn (fg_ft (pc := 37) tb_Word_signAt 21 rfl) rfl ?_
      refine fg_getK (fg_ft (pc := 38) tb_Word_signAt 22 rfl) fk_Word_84_4 ?_
      refine fg_iloadn (fg_ft (pc := 41) tb_Word_signAt 23 rfl) rfl ?_
      refine fg_callV (fg_ft (pc := 42) tb_Word_signAt 24 rfl) cf_Word_97 (Or.inr pz_n4.2.2.2.1) (as := [.int (nI i)]) (st := []) rfl rfl (Nat.le_of_ble_eq_true rfl) (Nat.le_refl _) (Nat.le_refl _) (ev_Str_charAt pz_n4 (i := i) (show i < (pz_ns 4).length from by show i < 2; omega) ?_)
      refine fg_goto (tgt := 50) (fg_ft (pc := 45) tb_Word_signAt 25 rfl) (by decide) ?_
      exact fg_zret (fg_ft (pc := 50) tb_Word_signAt 27 rfl) rfl ((pk_charN (Nat.lt_trans (pz_n4.2.2.2.2.2 i (show i < (pz_ns 4).length from by show i < 2; omega)).2 (by decide))).1) rfl (fg_q hQ (by unfold pz_sg; rw [if_pos (show i < (pz_ns 4).length from by show i < 2; omega)]))
  · refine fg_iloadn (fg_ft (pc := 22) tb_Word_signAt 12 rfl) rfl ?_
    refine fg_goto (tgt := 27) (fg_ft (pc := 23) tb_Word_signAt 13 rfl) (by decide) ?_
    refine fg_istoren (fg_ft (pc := 27) tb_Word_signAt 15 rfl) (Nat.le_of_ble_eq_true rfl) ?_
    refine fg_iloadn (fg_ft (pc := 28) tb_Word_signAt 16 rfl) rfl ?_
    refine fg_if_ltN (tgt := 48) (fg_ft (pc := 29) tb_Word_signAt 17 rfl) (by decide) (by decide) ?_
    refine fg_iloadn (fg_ft (pc := 32) tb_Word_signAt 18 rfl) rfl ?_
    refine fg_iloadn (fg_ft (pc := 33) tb_Word_signAt 19 rfl) rfl ?_
    refine fg_icmp_gtN (tgt := 48) (fg_ft (pc := 34) tb_Word_signAt 20 rfl) (by decide) (by decide) (by decide) (fun c34 => (absurd c34 (by decide))) (fun c34 => ?_)
    refine fg_aloadn (fg_ft (pc := 37) tb_Word_signAt 21 rfl) rfl ?_
    refine fg_getK (fg_ft (pc := 38) tb_Word_signAt 22 rfl) fk_Word_84_4 ?_
    refine fg_iloadn (fg_ft (pc := 41) tb_Word_signAt 23 rfl) rfl ?_
    refine fg_callV (fg_ft (pc := 42) tb_Word_signAt 24 rfl) cf_Word_97 (Or.inr pz_n4.2.2.2.1) (as := [.int (nI 1)]) (st := []) rfl rfl (Nat.le_of_ble_eq_true rfl) (Nat.le_refl _) (Nat.le_refl _) (ev_Str_charAt pz_n4 (i := 1) (show 1 < (pz_ns 4).length from by show 1 < 2; omega) ?_)
    refine fg_goto (tgt := 50) (fg_ft (pc := 45) tb_Word_signAt 25 rfl) (by decide) ?_
    exact fg_zret (fg_ft (pc := 50) tb_Word_signAt 27 rfl) rfl ((pk_charN (Nat.lt_trans (pz_n4.2.2.2.2.2 1 (show 1 < (pz_ns 4).length from by show 1 < 2; omega)).2 (by decide))).1) rfl (fg_q hQ (by unfold pz_sg; rw [if_neg (show ¬ i < (pz_ns 4).length from by show ¬ i < 2; omega), if_pos (by decide)]; rfl))
theorem fk_Word_84_5 : fg_KF "ForgetBread$Word" 84 5 (.ref 45) := ⟨_, List.mem_of_getElem? (l := fg_ofld) (i := 33) rfl, rfl, rfl, fg_tblIn 1729 (by decide +kernel) (by decide +kernel)⟩
theorem fk_Word_87_5 : fg_KF "ForgetBread$Word" 87 5 (.int (nI 0)) := ⟨_, List.mem_of_getElem? (l := fg_ofld) (i := 31) rfl, rfl, rfl, fg_tblIn 1730 (by decide +kernel) (by decide +kernel)⟩
theorem ev_Word_signAt_5 {E : fg_E} {d : Nat} {μ : Nat → Nat → Int32} {R : fg_T4} {Q : Option Value → fg_M → Prop} {i : Nat} (hi : i < 2 ^ 31) (hQ : Q (some (.int (nI (pz_sg 5 i)))) (μ, fg_rho R, 304)) : fg_Ev E yy_Word_signAt (d + 5) [.ref 5, .int (nI i)] (μ, fg_rho R, 304) 304 Q := by
  refine fg_intro (by decide +kernel) (Nat.le_of_ble_eq_true rfl) (fg_okAs rfl) (Nat.le_refl _) ?_
  refine fg_aloadn (fg_ft (pc := 0) tb_Word_signAt 0 rfl) rfl ?_
  refine fg_getK (fg_ft (pc := 1) tb_Word_signAt 1 rfl) fk_Word_84_5 ?_
  refine fg_callV (fg_ft (pc := 4) tb_Word_signAt 2 rfl) cf_Word_91 (Or.inr pz_n5.2.2.2.1) (as := []) (st := []) rfl rfl (Nat.le_of_ble_eq_true rfl) (Nat.le_refl _) (Nat.le_refl _) (ev_Str_length pz_n5 ?_)
  refine fg_top (y := (nI 2)) rfl ?_
  refine fg_iconst (fg_ft (pc := 7) tb_Word_signAt 3 rfl) ic_1 ?_
  refine fg_isubN (fg_ft (pc := 8) tb_Word_signAt 4 rfl) (by omega) ?_
  refine fg_top (y := (nI 1)) rfl ?_
  refine fg_istoren (fg_ft (pc := 9) tb_Word_signAt 5 rfl) (Nat.le_of_ble_eq_true rfl) ?_
  refine fg_aloadn (fg_ft (pc := 10) tb_Word_signAt 6 rfl) rfl ?_
  refine fg_getK (fg_ft (pc := 11) tb_Word_signAt 7 rfl) fk_Word_87_5 ?_
  refine fg_if_eq (tgt := 26) (fg_ft (pc := 14) tb_Word_signAt 8 rfl) (by decide) (fun _ => ?_) (fun h => absurd h (by decide))
  refine fg_iloadn (fg_ft (pc := 26) tb_Word_signAt 14 rfl) rfl ?_
  refine fg_istoren (fg_ft (pc := 27) tb_Word_signAt 15 rfl) (Nat.le_of_ble_eq_true rfl) ?_
  refine fg_iloadn (fg_ft (pc := 28) tb_Word_signAt 16 rfl) rfl ?_
  refine fg_if_ltN (tgt := 48) (fg_ft (pc := 29) tb_Word_signAt 17 rfl) (by decide) (hi) ?_
  refine fg_iloadn (fg_ft (pc := 32) tb_Word_signAt 18 rfl) rfl ?_
  refine fg_iloadn (fg_ft (pc := 33) tb_Word_signAt 19 rfl) rfl ?_
  refine fg_icmp_gtN (tgt := 48) (fg_ft (pc := 34) tb_Word_signAt 20 rfl) (by decide) (hi) (by decide) (fun c34 => ?_) (fun c34 => ?_)
  · refine fg_bipush (fg_ft (pc := 48) tb_Word_signAt 26 rfl) ib_32 ?_
    exact fg_zret (fg_ft (pc := 50) tb_Word_signAt 27 rfl) rfl (by decide) rfl (fg_q hQ (by first | (exfalso; omega) | (unfold pz_sg; rw [if_neg (show ¬ i < (pz_ns 5).length from by show ¬ i < 2; omega), if_neg (by decide)])))
  · refine fg_aloadn (fg_ft (pc := 37) tb_Word_signAt 21 rfl) rfl ?_
    refine fg_getK (fg_ft (pc := 38) tb_Word_signAt 22 rfl) fk_Word_84_5 ?_
    refine fg_iloadn (fg_ft (pc := 41) tb_Word_signAt 23 rfl) rfl ?_
    refine fg_callV (fg_ft (pc := 42) tb_Word_signAt 24 rfl) cf_Word_97 (Or.inr pz_n5.2.2.2.1) (as := [.int (nI i)]) (st := []) rfl rfl (Nat.le_of_ble_eq_true rfl) (Nat.le_refl _) (Nat.le_refl _) (ev_Str_charAt pz_n5 (i := i) (show i < (pz_ns 5).length from by show i < 2; omega) ?_)
    refine fg_goto (tgt := 50) (fg_ft (pc := 45) tb_Word_signAt 25 rfl) (by decide) ?_
    exact fg_zret (fg_ft (pc := 50) tb_Word_signAt 27 rfl) rfl ((pk_charN (Nat.lt_trans (pz_n5.2.2.2.2.2 i (show i < (pz_ns 5).length from by show i < 2; omega)).2 (by decide))).1) rfl (fg_q hQ (by unfold pz_sg; rw [if_pos (show i < (pz_ns 5).length from by show i < 2; omega)]))
theorem fk_Word_84_6 : fg_KF "ForgetBread$Word" 84 6 (.ref 46) := ⟨_, List.mem_of_getElem? (l := fg_ofld) (i := 39) rfl, rfl, rfl, fg_tblIn 1729 (by decide +kernel) (by decide +kernel)⟩
theorem fk_Word_87_6 : fg_KF "ForgetBread$Word" 87 6 (.int (nI 0)) := ⟨_, List.mem_of_getElem? (l := fg_ofld) (i := 37) rfl, rfl, rfl, fg_tblIn 1730 (by decide +kernel) (by decide +kernel)⟩
theorem ev_Word_signAt_6 {E : fg_E} {d : Nat} {μ : Nat → Nat → Int32} {R : fg_T4} {Q : Option Value → fg_M → Prop} {i : Nat} (hi : i < 2 ^ 31) (hQ : Q (some (.int (nI (pz_sg 6 i)))) (μ, fg_rho R, 304)) : fg_Ev E yy_Word_signAt (d + 5) [.ref 6, .int (nI i)] (μ, fg_rho R, 304) 304 Q := by
  refine fg_intro (by decide +kernel) (Nat.le_of_ble_eq_true rfl) (fg_okAs rfl) (Nat.le_refl _) ?_
  refine fg_aloadn (fg_ft (pc := 0) tb_Word_signAt 0 rfl) rfl ?_
  refine fg_getK (fg_ft (pc := 1) tb_Word_signAt 1 rfl) fk_Word_84_6 ?_
  refine fg_callV (fg_ft (pc := 4) tb_Word_signAt 2 rfl) cf_Word_91 (Or.inr pz_n6.2.2.2.1) (as := []) (st := []) rfl rfl (Nat.le_of_ble_eq_true rfl) (Nat.le_refl _) (Nat.le_refl _) (ev_Str_length pz_n6 ?_)
  refine fg_top (y := (nI 4)) rfl ?_
  refine fg_iconst (fg_ft (pc := 7) tb_Word_signAt 3 rfl) ic_1 ?_
  refine fg_isubN (fg_ft (pc := 8) tb_Word_signAt 4 rfl) (by omega) ?_
  refine fg_top (y := (nI 3)) rfl ?_
  refine fg_istoren (fg_ft (pc := 9) tb_Word_signAt 5 rfl) (Nat.le_of_ble_eq_true rfl) ?_
  refine fg_aloadn (fg_ft (pc := 10) tb_Word_signAt 6 rfl) rfl ?_
  refine fg_getK (fg_ft (pc := 11) tb_Word_signAt 7 rfl) fk_Word_87_6 ?_
  refine fg_if_eq (tgt := 26) (fg_ft (pc := 14) tb_Word_signAt 8 rfl) (by decide) (fun _ => ?_) (fun h => absurd h (by decide))
  refine fg_iloadn (fg_ft (pc := 26) tb_Word_signAt 14 rfl) rfl ?_
  refine fg_istoren (fg_ft (pc := 27) tb_Word_signAt 15 rfl) (Nat.le_of_ble_eq_true rfl) ?_
  refine fg_iloadn (fg_ft (pc := 28) tb_Word_signAt 16 rfl) rfl ?_
  refine fg_if_ltN (tgt := 48) (fg_ft (pc := 29) tb_Word_signAt 17 rfl) (by decide) (hi) ?_
  refine fg_iloadn (fg_ft (pc := 32) tb_Word_signAt 18 rfl) rfl ?_
  refine fg_iloadn (fg_ft (pc := 33) tb_Word_signAt 19 rfl) rfl ?_
  refine fg_icmp_gtN (tgt := 48) (fg_ft (pc := 34) tb_Word_signAt 20 rfl) (by decide) (hi) (by decide) (fun c34 => ?_) (fun c34 => ?_)
  · refine fg_bipush (fg_ft (pc := 48) tb_Word_signAt 26 rfl) ib_32 ?_
    exact fg_zret (fg_ft (pc := 50) tb_Word_signAt 27 rfl) rfl (by decide) rfl (fg_q hQ (by first | (exfalso; omega) | (unfold pz_sg; rw [if_neg (show ¬ i < (pz_ns 6).length from by show ¬ i < 4; omega), if_neg (by decide)])))
  · refine fg_aloadn (fg_ft (pc := 37) tb_Word_signAt 21 rfl) rfl ?_
    refine fg_getK (fg_ft (pc := 38) tb_Word_signAt 22 rfl) fk_Word_84_6 ?_
    refine fg_iloadn (fg_ft (pc := 41) tb_Word_signAt 23 rfl) rfl ?_
    refine fg_callV (fg_ft (pc := 42) tb_Word_signAt 24 rfl) cf_Word_97 (Or.inr pz_n6.2.2.2.1) (as := [.int (nI i)]) (st := []) rfl rfl (Nat.le_of_ble_eq_true rfl) (Nat.le_refl _) (Nat.le_refl _) (ev_Str_charAt pz_n6 (i := i) (show i < (pz_ns 6).length from by show i < 4; omega) ?_)
    refine fg_goto (tgt := 50) (fg_ft (pc := 45) tb_Word_signAt 25 rfl) (by decide) ?_
    exact fg_zret (fg_ft (pc := 50) tb_Word_signAt 27 rfl) rfl ((pk_charN (Nat.lt_trans (pz_n6.2.2.2.2.2 i (show i < (pz_ns 6).length from by show i < 4; omega)).2 (by decide))).1) rfl (fg_q hQ (by unfold pz_sg; rw [if_pos (show i < (pz_ns 6).length from by show i < 4; omega)]))
theorem fk_Word_84_7 : fg_KF "ForgetBread$Word" 84 7 (.ref 47) := ⟨_, List.mem_of_getElem? (l := fg_ofld) (i := 45) rfl, rfl, rfl, fg_tblIn 1729 (by decide +kernel) (by decide +kernel)⟩
theorem fk_Word_87_7 : fg_KF "ForgetBread$Word" 87 7 (.int (nI 1)) := ⟨_, List.mem_of_getElem? (l := fg_ofld) (i := 43) rfl, rfl, rfl, fg_tblIn 1730 (by decide +kernel) (by decide +kernel)⟩
theorem ev_Word_signAt_7 {E : fg_E} {d : Nat} {μ : Nat → Nat → Int32} {R : fg_T4} {Q : Option Value → fg_M → Prop} {i : Nat} (hi : i < 2 ^ 31) (hQ : Q (some (.int (nI (pz_sg 7 i)))) (μ, fg_rho R, 304)) : fg_Ev E yy_Word_signAt (d + 5) [.ref 7, .int (nI i)] (μ, fg_rho R, 304) 304 Q := by
  refine fg_intro (by decide +kernel) (Nat.le_of_ble_eq_true rfl) (fg_okAs rfl) (Nat.le_refl _) ?_
  refine fg_aloadn (fg_ft (pc := 0) tb_Word_signAt 0 rfl) rfl ?_
  refine fg_getK (fg_ft (pc := 1) tb_Word_signAt 1 rfl) fk_Word_84_7 ?_
  refine fg_callV (fg_ft (pc := 4) tb_Word_signAt 2 rfl) cf_Word_91 (Or.inr pz_n7.2.2.2.1) (as := []) (st := []) rfl rfl (Nat.le_of_ble_eq_true rfl) (Nat.le_refl _) (Nat.le_refl _) (ev_Str_length pz_n7 ?_)
  refine fg_top (y := (nI 2)) rfl ?_
  refine fg_iconst (fg_ft (pc := 7) tb_Word_signAt 3 rfl) ic_1 ?_
  refine fg_isubN (fg_ft (pc := 8) tb_Word_signAt 4 rfl) (by omega) ?_
  refine fg_top (y := (nI 1)) rfl ?_
  refine fg_istoren (fg_ft (pc := 9) tb_Word_signAt 5 rfl) (Nat.le_of_ble_eq_true rfl) ?_
  refine fg_aloadn (fg_ft (pc := 10) tb_Word_signAt 6 rfl) rfl ?_
  refine fg_getK (fg_ft (pc := 11) tb_Word_signAt 7 rfl) fk_Word_87_7 ?_
  refine fg_if_eq (tgt := 26) (fg_ft (pc := 14) tb_Word_signAt 8 rfl) (by decide) (fun h => absurd h (by decide)) (fun _ => ?_)
  refine fg_iloadn (fg_ft (pc := 17) tb_Word_signAt 9 rfl) rfl ?_
  refine fg_iloadn (fg_ft (pc := 18) tb_Word_signAt 10 rfl) rfl ?_
  refine fg_icmp_leN (tgt := 26) (fg_ft (pc := 19) tb_Word_signAt 11 rfl) (by decide) (hi) (by decide) (fun c19 => ?_) (fun c19 => ?_)
  · refine fg_iloadn (fg_ft (pc := 26) tb_Word_signAt 14 rfl) rfl ?_
    refine fg_istoren (fg_ft (pc := 27) tb_Word_signAt 15 rfl) (Nat.le_of_ble_eq_true rfl) ?_
    refine fg_iloadn (fg_ft (pc := 28) tb_Word_signAt 16 rfl) rfl ?_
    refine fg_if_ltN (tgt := 48) (fg_ft (pc := 29) tb_Word_signAt 17 rfl) (by decide) (hi) ?_
    refine fg_iloadn (fg_ft (pc := 32) tb_Word_signAt 18 rfl) rfl ?_
    refine fg_iloadn (fg_ft (pc := 33) tb_Word_signAt 19 rfl) rfl ?_
    refine fg_icmp_gtN (tgt := 48) (fg_ft (pc := 34) tb_Word_signAt 20 rfl) (by decide) (hi) (by decide) (fun c34 => ?_) (fun c34 => ?_)
    · refine fg_bipush (fg_ft (pc := 48) tb_Word_signAt 26 rfl) ib_32 ?_
      exact fg_zret (fg_ft (pc := 50) tb_Word_signAt 27 rfl) rfl (by decide) rfl (fg_q hQ (by first | (exfalso; omega) | (unfold pz_sg; rw [if_neg (show ¬ i < (pz_ns 7).length from by show ¬ i < 2; omega), if_neg (by decide)])))
    · refine fg_aloadn (fg_ft (pc := 37) tb_Word_signAt 21 rfl) rfl ?_
      refine fg_getK (fg_ft (pc := 38) tb_Word_signAt 22 rfl) fk_Word_84_7 ?_
      refine fg_iloadn (fg_ft (pc := 41) tb_Word_signAt 23 rfl) rfl ?_
      refine fg_callV (fg_ft (pc := 42) tb_Word_signAt 24 rfl) cf_Word_97 (Or.inr pz_n7.2.2.2.1) (as := [.int (nI i)]) (st := []) rfl rfl (Nat.le_of_ble_eq_true rfl) (Nat.le_refl _) (Nat.le_refl _) (ev_Str_charAt pz_n7 (i := i) (show i < (pz_ns 7).length from by show i < 2; omega) ?_)
      refine fg_goto (tgt := 50) (fg_ft (pc := 45) tb_Word_signAt 25 rfl) (by decide) ?_
      exact fg_zret (fg_ft (pc := 50) tb_Word_signAt 27 rfl) rfl ((pk_charN (Nat.lt_trans (pz_n7.2.2.2.2.2 i (show i < (pz_ns 7).length from by show i < 2; omega)).2 (by decide))).1) rfl (fg_q hQ (by unfold pz_sg; rw [if_pos (show i < (pz_ns 7).length from by show i < 2; omega)]))
  · refine fg_iloadn (fg_ft (pc := 22) tb_Word_signAt 12 rfl) rfl ?_
    refine fg_goto (tgt := 27) (fg_ft (pc := 23) tb_Word_signAt 13 rfl) (by decide) ?_
    refine fg_istoren (fg_ft (pc := 27) tb_Word_signAt 15 rfl) (Nat.le_of_ble_eq_true rfl) ?_
    refine fg_iloadn (fg_ft (pc := 28) tb_Word_signAt 16 rfl) rfl ?_
    refine fg_if_ltN (tgt := 48) (fg_ft (pc := 29) tb_Word_signAt 17 rfl) (by decide) (by decide) ?_
    refine fg_iloadn (fg_ft (pc := 32) tb_Word_signAt 18 rfl) rfl ?_
    refine fg_iloadn (fg_ft (pc := 33) tb_Word_signAt 19 rfl) rfl ?_
    refine fg_icmp_gtN (tgt := 48) (fg_ft (pc := 34) tb_Word_signAt 20 rfl) (by decide) (by decide) (by decide) (fun c34 => (absurd c34 (by decide))) (fun c34 => ?_)
    refine fg_aloadn (fg_ft (pc := 37) tb_Word_signAt 21 rfl) rfl ?_
    refine fg_getK (fg_ft (pc := 38) tb_Word_signAt 22 rfl) fk_Word_84_7 ?_
    refine fg_iloadn (fg_ft (pc := 41) tb_Word_signAt 23 rfl) rfl ?_
    refine fg_callV (fg_ft (pc := 42) tb_Word_signAt 24 rfl) cf_Word_97 (Or.inr pz_n7.2.2.2.1) (as := [.int (nI 1)]) (st := []) rfl rfl (Nat.le_of_ble_eq_true rfl) (Nat.le_refl _) (Nat.le_refl _) (ev_Str_charAt pz_n7 (i := 1) (show 1 < (pz_ns 7).length from by show 1 < 2; omega) ?_)
    refine fg_goto (tgt := 50) (fg_ft (pc := 45) tb_Word_signAt 25 rfl) (by decide) ?_
    exact fg_zret (fg_ft (pc := 50) tb_Word_signAt 27 rfl) rfl ((pk_charN (Nat.lt_trans (pz_n7.2.2.2.2.2 1 (show 1 < (pz_ns 7).length from by show 1 < 2; omega)).2 (by decide))).1) rfl (fg_q hQ (by unfold pz_sg; rw [if_neg (show ¬ i < (pz_ns 7).length from by show ¬ i < 2; omega), if_pos (by decide)]; rfl))
theorem fk_Word_84_8 : fg_KF "ForgetBread$Word" 84 8 (.ref 47) := ⟨_, List.mem_of_getElem? (l := fg_ofld) (i := 51) rfl, rfl, rfl, fg_tblIn 1729 (by decide +kernel) (by decide +kernel)⟩
theorem fk_Word_87_8 : fg_KF "ForgetBread$Word" 87 8 (.int (nI 1)) := ⟨_, List.mem_of_getElem? (l := fg_ofld) (i := 49) rfl, rfl, rfl, fg_tblIn 1730 (by decide +kernel) (by decide +kernel)⟩
theorem ev_Word_signAt_8 {E : fg_E} {d : Nat} {μ : Nat → Nat → Int32} {R : fg_T4} {Q : Option Value → fg_M → Prop} {i : Nat} (hi : i < 2 ^ 31) (hQ : Q (some (.int (nI (pz_sg 8 i)))) (μ, fg_rho R, 304)) : fg_Ev E yy_Word_signAt (d + 5) [.ref 8, .int (nI i)] (μ, fg_rho R, 304) 304 Q := by
  refine fg_intro (by decide +kernel) (Nat.le_of_ble_eq_true rfl) (fg_okAs rfl) (Nat.le_refl _) ?_
  refine fg_aloadn (fg_ft (pc := 0) tb_Word_signAt 0 rfl) rfl ?_
  refine fg_getK (fg_ft (pc := 1) tb_Word_signAt 1 rfl) fk_Word_84_8 ?_
  refine fg_callV (fg_ft (pc := 4) tb_Word_signAt 2 rfl) cf_Word_91 (Or.inr pz_n8.2.2.2.1) (as := []) (st := []) rfl rfl (Nat.le_of_ble_eq_true rfl) (Nat.le_refl _) (Nat.le_refl _) (ev_Str_length pz_n8 ?_)
  refine fg_top (y := (nI 2)) rfl ?_
  refine fg_iconst (fg_ft (pc := 7) tb_Word_signAt 3 rfl) ic_1 ?_
  refine fg_isubN (fg_ft (pc := 8) tb_Word_signAt 4 rfl) (by omega) ?_
  refine fg_top (y := (nI 1)) rfl ?_
  refine fg_istoren (fg_ft (pc := 9) tb_Word_signAt 5 rfl) (Nat.le_of_ble_eq_true rfl) ?_
  refine fg_aloadn (fg_ft (pc := 10) tb_Word_signAt 6 rfl) rfl ?_
  refine fg_getK (fg_ft (pc := 11) tb_Word_signAt 7 rfl) fk_Word_87_8 ?_
  refine fg_if_eq (tgt := 26) (fg_ft (pc := 14) tb_Word_signAt 8 rfl) (by decide) (fun h => absurd h (by decide)) (fun _ => ?_)
  refine fg_iloadn (fg_ft (pc := 17) tb_Word_signAt 9 rfl) rfl ?_
  refine fg_iloadn (fg_ft (pc := 18) tb_Word_signAt 10 rfl) rfl ?_
  refine fg_icmp_leN (tgt := 26) (fg_ft (pc := 19) tb_Word_signAt 11 rfl) (by decide) (hi) (by decide) (fun c19 => ?_) (fun c19 => ?_)
  · refine fg_iloadn (fg_ft (pc := 26) tb_Word_signAt 14 rfl) rfl ?_
    refine fg_istoren (fg_ft (pc := 27) tb_Word_signAt 15 rfl) (Nat.le_of_ble_eq_true rfl) ?_
    refine fg_iloadn (fg_ft (pc := 28) tb_Word_signAt 16 rfl) rfl ?_
    refine fg_if_ltN (tgt := 48) (fg_ft (pc := 29) tb_Word_signAt 17 rfl) (by decide) (hi) ?_
    refine fg_iloadn (fg_ft (pc := 32) tb_Word_signAt 18 rfl) rfl ?_
    refine fg_iloadn (fg_ft (pc := 33) tb_Word_signAt 19 rfl) rfl ?_
    refine fg_icmp_gtN (tgt := 48) (fg_ft (pc := 34) tb_Word_signAt 20 rfl) (by decide) (hi) (by decide) (fun c34 => ?_) (fun c34 => ?_)
    · refine fg_bipush (fg_ft (pc := 48) tb_Word_signAt 26 rfl) ib_32 ?_
      exact fg_zret (fg_ft (pc := 50) tb_Word_signAt 27 rfl) rfl (by decide) rfl (fg_q hQ (by first | (exfalso; omega) | (unfold pz_sg; rw [if_neg (show ¬ i < (pz_ns 8).length from by show ¬ i < 2; omega), if_neg (by decide)])))
    · refine fg_aloadn (fg_ft (pc := 37) tb_Word_signAt 21 rfl) rfl ?_
      refine fg_getK (fg_ft (pc := 38) tb_Word_signAt 22 rfl) fk_Word_84_8 ?_
      refine fg_iloadn (fg_ft (pc := 41) tb_Word_signAt 23 rfl) rfl ?_
      refine fg_callV (fg_ft (pc := 42) tb_Word_signAt 24 rfl) cf_Word_97 (Or.inr pz_n8.2.2.2.1) (as := [.int (nI i)]) (st := []) rfl rfl (Nat.le_of_ble_eq_true rfl) (Nat.le_refl _) (Nat.le_refl _) (ev_Str_charAt pz_n8 (i := i) (show i < (pz_ns 8).length from by show i < 2; omega) ?_)
      refine fg_goto (tgt := 50) (fg_ft (pc := 45) tb_Word_signAt 25 rfl) (by decide) ?_
      exact fg_zret (fg_ft (pc := 50) tb_Word_signAt 27 rfl) rfl ((pk_charN (Nat.lt_trans (pz_n8.2.2.2.2.2 i (show i < (pz_ns 8).length from by show i < 2; omega)).2 (by decide))).1) rfl (fg_q hQ (by unfold pz_sg; rw [if_pos (show i < (pz_ns 8).length from by show i < 2; omega)]))
  · refine fg_iloadn (fg_ft (pc := 22) tb_Word_signAt 12 rfl) rfl ?_
    refine fg_goto (tgt := 27) (fg_ft (pc := 23) tb_Word_signAt 13 rfl) (by decide) ?_
    refine fg_istoren (fg_ft (pc := 27) tb_Word_signAt 15 rfl) (Nat.le_of_ble_eq_true rfl) ?_
    refine fg_iloadn (fg_ft (pc := 28) tb_Word_signAt 16 rfl) rfl ?_
    refine fg_if_ltN (tgt := 48) (fg_ft (pc := 29) tb_Word_signAt 17 rfl) (by decide) (by decide) ?_
    refine fg_iloadn (fg_ft (pc := 32) tb_Word_signAt 18 rfl) rfl ?_
    refine fg_iloadn (fg_ft (pc := 33) tb_Word_signAt 19 rfl) rfl ?_
    refine fg_icmp_gtN (tgt := 48) (fg_ft (pc := 34) tb_Word_signAt 20 rfl) (by decide) (by decide) (by decide) (fun c34 => (absurd c34 (by decide))) (fun c34 => ?_)
    refine fg_aloadn (fg_ft (pc := 37) tb_Word_signAt 21 rfl) rfl ?_
    refine fg_getK (fg_ft (pc := 38) tb_Word_signAt 22 rfl) fk_Word_84_8 ?_
    refine fg_iloadn (fg_ft (pc := 41) tb_Word_signAt 23 rfl) rfl ?_
    refine fg_callV (fg_ft (pc := 42) tb_Word_signAt 24 rfl) cf_Word_97 (Or.inr pz_n8.2.2.2.1) (as := [.int (nI 1)]) (st := []) rfl rfl (Nat.le_of_ble_eq_true rfl) (Nat.le_refl _) (Nat.le_refl _) (ev_Str_charAt pz_n8 (i := 1) (show 1 < (pz_ns 8).length from by show 1 < 2; omega) ?_)
    refine fg_goto (tgt := 50) (fg_ft (pc := 45) tb_Word_signAt 25 rfl) (by decide) ?_
    exact fg_zret (fg_ft (pc := 50) tb_Word_signAt 27 rfl) rfl ((pk_charN (Nat.lt_trans (pz_n8.2.2.2.2.2 1 (show 1 < (pz_ns 8).length from by show 1 < 2; omega)).2 (by decide))).1) rfl (fg_q hQ (by unfold pz_sg; rw [if_neg (show ¬ i < (pz_ns 8).length from by show ¬ i < 2; omega), if_pos (by decide)]; rfl))
theorem fk_Word_84_9 : fg_KF "ForgetBread$Word" 84 9 (.ref 42) := ⟨_, List.mem_of_getElem? (l := fg_ofld) (i := 57) rfl, rfl, rfl, fg_tblIn 1729 (by decide +kernel) (by decide +kernel)⟩
theorem fk_Word_87_9 : fg_KF "ForgetBread$Word" 87 9 (.int (nI 0)) := ⟨_, List.mem_of_getElem? (l := fg_ofld) (i := 55) rfl, rfl, rfl, fg_tblIn 1730 (by decide +kernel) (by decide +kernel)⟩
theorem ev_Word_signAt_9 {E : fg_E} {d : Nat} {μ : Nat → Nat → Int32} {R : fg_T4} {Q : Option Value → fg_M → Prop} {i : Nat} (hi : i < 2 ^ 31) (hQ : Q (some (.int (nI (pz_sg 9 i)))) (μ, fg_rho R, 304)) : fg_Ev E yy_Word_signAt (d + 5) [.ref 9, .int (nI i)] (μ, fg_rho R, 304) 304 Q := by
  refine fg_intro (by decide +kernel) (Nat.le_of_ble_eq_true rfl) (fg_okAs rfl) (Nat.le_refl _) ?_
  refine fg_aloadn (fg_ft (pc := 0) tb_Word_signAt 0 rfl) rfl ?_
  refine fg_getK (fg_ft (pc := 1) tb_Word_signAt 1 rfl) fk_Word_84_9 ?_
  refine fg_callV (fg_ft (pc := 4) tb_Word_signAt 2 rfl) cf_Word_91 (Or.inr pz_n9.2.2.2.1) (as := []) (st := []) rfl rfl (Nat.le_of_ble_eq_true rfl) (Nat.le_refl _) (Nat.le_refl _) (ev_Str_length pz_n9 ?_)
  refine fg_top (y := (nI 1)) rfl ?_
  refine fg_iconst (fg_ft (pc := 7) tb_Word_signAt 3 rfl) ic_1 ?_
  refine fg_isubN (fg_ft (pc := 8) tb_Word_signAt 4 rfl) (by omega) ?_
  refine fg_top (y := (nI 0)) rfl ?_
  refine fg_istoren (fg_ft (pc := 9) tb_Word_signAt 5 rfl) (Nat.le_of_ble_eq_true rfl) ?_
  refine fg_aloadn (fg_ft (pc := 10) tb_Word_signAt 6 rfl) rfl ?_
  refine fg_getK (fg_ft (pc := 11) tb_Word_signAt 7 rfl) fk_Word_87_9 ?_
  refine fg_if_eq (tgt := 26) (fg_ft (pc := 14) tb_Word_signAt 8 rfl) (by decide) (fun _ => ?_) (fun h => absurd h (by decide))
  refine fg_iloadn (fg_ft (pc := 26) tb_Word_signAt 14 rfl) rfl ?_
  refine fg_istoren (fg_ft (pc := 27) tb_Word_signAt 15 rfl) (Nat.le_of_ble_eq_true rfl) ?_
  refine fg_iloadn (fg_ft (pc := 28) tb_Word_signAt 16 rfl) rfl ?_
  refine fg_if_ltN (tgt := 48) (fg_ft (pc := 29) tb_Word_signAt 17 rfl) (by decide) (hi) ?_
  refine fg_iloadn (fg_ft (pc := 32) tb_Word_signAt 18 rfl) rfl ?_
  refine fg_iloadn (fg_ft (pc := 33) tb_Word_signAt 19 rfl) rfl ?_
  refine fg_icmp_gtN (tgt := 48) (fg_ft (pc := 34) tb_Word_signAt 20 rfl) (by decide) (hi) (by decide) (fun c34 => ?_) (fun c34 => ?_)
  · refine fg_bipush (fg_ft (pc := 48) tb_Word_signAt 26 rfl) ib_32 ?_
    exact fg_zret (fg_ft (pc := 50) tb_Word_signAt 27 rfl) rfl (by decide) rfl (fg_q hQ (by first | (exfalso; omega) | (unfold pz_sg; rw [if_neg (show ¬ i < (pz_ns 9).length from by show ¬ i < 1; omega), if_neg (by decide)])))
  · refine fg_aloadn (fg_ft (pc := 37) tb_Word_signAt 21 rfl) rfl ?_
    refine fg_getK (fg_ft (pc := 38) tb_Word_signAt 22 rfl) fk_Word_84_9 ?_
    refine fg_iloadn (fg_ft (pc := 41) tb_Word_signAt 23 rfl) rfl ?_
    refine fg_callV (fg_ft (pc := 42) tb_Word_signAt 24 rfl) cf_Word_97 (Or.inr pz_n9.2.2.2.1) (as := [.int (nI i)]) (st := []) rfl rfl (Nat.le_of_ble_eq_true rfl) (Nat.le_refl _) (Nat.le_refl _) (ev_Str_charAt pz_n9 (i := i) (show i < (pz_ns 9).length from by show i < 1; omega) ?_)
    refine fg_goto (tgt := 50) (fg_ft (pc := 45) tb_Word_signAt 25 rfl) (by decide) ?_
    exact fg_zret (fg_ft (pc := 50) tb_Word_signAt 27 rfl) rfl ((pk_charN (Nat.lt_trans (pz_n9.2.2.2.2.2 i (show i < (pz_ns 9).length from by show i < 1; omega)).2 (by decide))).1) rfl (fg_q hQ (by unfold pz_sg; rw [if_pos (show i < (pz_ns 9).length from by show i < 1; omega)]))
theorem fk_Word_84_10 : fg_KF "ForgetBread$Word" 84 10 (.ref 48) := ⟨_, List.mem_of_getElem? (l := fg_ofld) (i := 63) rfl, rfl, rfl, fg_tblIn 1729 (by decide +kernel) (by decide +kernel)⟩
theorem fk_Word_87_10 : fg_KF "ForgetBread$Word" 87 10 (.int (nI 0)) := ⟨_, List.mem_of_getElem? (l := fg_ofld) (i := 61) rfl, rfl, rfl, fg_tblIn 1730 (by decide +kernel) (by decide +kernel)⟩
theorem ev_Word_signAt_10 {E : fg_E} {d : Nat} {μ : Nat → Nat → Int32} {R : fg_T4} {Q : Option Value → fg_M → Prop} {i : Nat} (hi : i < 2 ^ 31) (hQ : Q (some (.int (nI (pz_sg 10 i)))) (μ, fg_rho R, 304)) : fg_Ev E yy_Word_signAt (d + 5) [.ref 10, .int (nI i)] (μ, fg_rho R, 304) 304 Q := by
  refine fg_intro (by decide +kernel) (Nat.le_of_ble_eq_true rfl) (fg_okAs rfl) (Nat.le_refl _) ?_
  refine fg_aloadn (fg_ft (pc := 0) tb_Word_signAt 0 rfl) rfl ?_
  refine fg_getK (fg_ft (pc := 1) tb_Word_signAt 1 rfl) fk_Word_84_10 ?_
  refine fg_callV (fg_ft (pc := 4) tb_Word_signAt 2 rfl) cf_Word_91 (Or.inr pz_n10.2.2.2.1) (as := []) (st := []) rfl rfl (Nat.le_of_ble_eq_true rfl) (Nat.le_refl _) (Nat.le_refl _) (ev_Str_length pz_n10 ?_)
  refine fg_top (y := (nI 2)) rfl ?_
  refine fg_iconst (fg_ft (pc := 7) tb_Word_signAt 3 rfl) ic_1 ?_
  refine fg_isubN (fg_ft (pc := 8) tb_Word_signAt 4 rfl) (by omega) ?_
  refine fg_top (y := (nI 1)) rfl ?_
  refine fg_istoren (fg_ft (pc := 9) tb_Word_signAt 5 rfl) (Nat.le_of_ble_eq_true rfl) ?_
  refine fg_aloadn (fg_ft (pc := 10) tb_Word_signAt 6 rfl) rfl ?_
  refine fg_getK (fg_ft (pc := 11) tb_Word_signAt 7 rfl) fk_Word_87_10 ?_
  refine fg_if_eq (tgt := 26) (fg_ft (pc := 14) tb_Word_signAt 8 rfl) (by decide) (fun _ => ?_) (fun h => absurd h (by decide))
  refine fg_iloadn (fg_ft (pc := 26) tb_Word_signAt 14 rfl) rfl ?_
  refine fg_istoren (fg_ft (pc := 27) tb_Word_signAt 15 rfl) (Nat.le_of_ble_eq_true rfl) ?_
  refine fg_iloadn (fg_ft (pc := 28) tb_Word_signAt 16 rfl) rfl ?_
  refine fg_if_ltN (tgt := 48) (fg_ft (pc := 29) tb_Word_signAt 17 rfl) (by decide) (hi) ?_
  refine fg_iloadn (fg_ft (pc := 32) tb_Word_signAt 18 rfl) rfl ?_
  refine fg_iloadn (fg_ft (pc := 33) tb_Word_signAt 19 rfl) rfl ?_
  refine fg_icmp_gtN (tgt := 48) (fg_ft (pc := 34) tb_Word_signAt 20 rfl) (by decide) (hi) (by decide) (fun c34 => ?_) (fun c34 => ?_)
  · refine fg_bipush (fg_ft (pc := 48) tb_Word_signAt 26 rfl) ib_32 ?_
    exact fg_zret (fg_ft (pc := 50) tb_Word_signAt 27 rfl) rfl (by decide) rfl (fg_q hQ (by first | (exfalso; omega) | (unfold pz_sg; rw [if_neg (show ¬ i < (pz_ns 10).length from by show ¬ i < 2; omega), if_neg (by decide)])))
  · refine fg_aloadn (fg_ft (pc := 37) tb_Word_signAt 21 rfl) rfl ?_
    refine fg_getK (fg_ft (pc := 38) tb_Word_signAt 22 rfl) fk_Word_84_10 ?_
    refine fg_iloadn (fg_ft (pc := 41) tb_Word_signAt 23 rfl) rfl ?_
    refine fg_callV (fg_ft (pc := 42) tb_Word_signAt 24 rfl) cf_Word_97 (Or.inr pz_n10.2.2.2.1) (as := [.int (nI i)]) (st := []) rfl rfl (Nat.le_of_ble_eq_true rfl) (Nat.le_refl _) (Nat.le_refl _) (ev_Str_charAt pz_n10 (i := i) (show i < (pz_ns 10).length from by show i < 2; omega) ?_)
    refine fg_goto (tgt := 50) (fg_ft (pc := 45) tb_Word_signAt 25 rfl) (by decide) ?_
    exact fg_zret (fg_ft (pc := 50) tb_Word_signAt 27 rfl) rfl ((pk_charN (Nat.lt_trans (pz_n10.2.2.2.2.2 i (show i < (pz_ns 10).length from by show i < 2; omega)).2 (by decide))).1) rfl (fg_q hQ (by unfold pz_sg; rw [if_pos (show i < (pz_ns 10).length from by show i < 2; omega)]))
theorem fk_Word_84_11 : fg_KF "ForgetBread$Word" 84 11 (.ref 48) := ⟨_, List.mem_of_getElem? (l := fg_ofld) (i := 69) rfl, rfl, rfl, fg_tblIn 1729 (by decide +kernel) (by decide +kernel)⟩
theorem fk_Word_87_11 : fg_KF "ForgetBread$Word" 87 11 (.int (nI 0)) := ⟨_, List.mem_of_getElem? (l := fg_ofld) (i := 67) rfl, rfl, rfl, fg_tblIn 1730 (by decide +kernel) (by decide +kernel)⟩
theorem ev_Word_signAt_11 {E : fg_E} {d : Nat} {μ : Nat → Nat → Int32} {R : fg_T4} {Q : Option Value → fg_M → Prop} {i : Nat} (hi : i < 2 ^ 31) (hQ : Q (some (.int (nI (pz_sg 11 i)))) (μ, fg_rho R, 304)) : fg_Ev E yy_Word_signAt (d + 5) [.ref 11, .int (nI i)] (μ, fg_rho R, 304) 304 Q := by
  refine fg_intro (by decide +kernel) (Nat.le_of_ble_eq_true rfl) (fg_okAs rfl) (Nat.le_refl _) ?_
  refine fg_aloadn (fg_ft (pc := 0) tb_Word_signAt 0 rfl) rfl ?_
  refine fg_getK (fg_ft (pc := 1) tb_Word_signAt 1 rfl) fk_Word_84_11 ?_
  refine fg_callV (fg_ft (pc := 4) tb_Word_signAt 2 rfl) cf_Word_91 (Or.inr pz_n11.2.2.2.1) (as := []) (st := []) rfl rfl (Nat.le_of_ble_eq_true rfl) (Nat.le_refl _) (Nat.le_refl _) (ev_Str_length pz_n11 ?_)
  refine fg_top (y := (nI 2)) rfl ?_
  refine fg_iconst (fg_ft (pc := 7) tb_Word_signAt 3 rfl) ic_1 ?_
  refine fg_isubN (fg_ft (pc := 8) tb_Word_signAt 4 rfl) (by omega) ?_
  refine fg_top (y := (nI 1)) rfl ?_
  refine fg_istoren (fg_ft (pc := 9) tb_Word_signAt 5 rfl) (Nat.le_of_ble_eq_true rfl) ?_
  refine fg_aloadn (fg_ft (pc := 10) tb_Word_signAt 6 rfl) rfl ?_
  refine fg_getK (fg_ft (pc := 11) tb_Word_signAt 7 rfl) fk_Word_87_11 ?_
  refine fg_if_eq (tgt := 26) (fg_ft (pc := 14) tb_Word_signAt 8 rfl) (by decide) (fun _ => ?_) (fun h => absurd h (by decide))
  refine fg_iloadn (fg_ft (pc := 26) tb_Word_signAt 14 rfl) rfl ?_
  refine fg_istoren (fg_ft (pc := 27) tb_Word_signAt 15 rfl) (Nat.le_of_ble_eq_true rfl) ?_
  refine fg_iloadn (fg_ft (pc := 28) tb_Word_signAt 16 rfl) rfl ?_
  refine fg_if_ltN (tgt := 48) (fg_ft (pc := 29) tb_Word_signAt 17 rfl) (by decide) (hi) ?_
  refine fg_iloadn (fg_ft (pc := 32) tb_Word_signAt 18 rfl) rfl ?_
  refine fg_iloadn (fg_ft (pc := 33) tb_Word_signAt 19 rfl) rfl ?_
  refine fg_icmp_gtN (tgt := 48) (fg_ft (pc := 34) tb_Word_signAt 20 rfl) (by decide) (hi) (by decide) (fun c34 => ?_) (fun c34 => ?_)
  · refine fg_bipush (fg_ft (pc := 48) tb_Word_signAt 26 rfl) ib_32 ?_
    exact fg_zret (fg_ft (pc := 50) tb_Word_signAt 27 rfl) rfl (by decide) rfl (fg_q hQ (by first | (exfalso; omega) | (unfold pz_sg; rw [if_neg (show ¬ i < (pz_ns 11).length from by show ¬ i < 2; omega), if_neg (by decide)])))
  · refine fg_aloadn (fg_ft (pc := 37) tb_Word_signAt 21 rfl) rfl ?_
    refine fg_getK (fg_ft (pc := 38) tb_Word_signAt 22 rfl) fk_Word_84_11 ?_
    refine fg_iloadn (fg_ft (pc := 41) tb_Word_signAt 23 rfl) rfl ?_
    refine fg_callV (fg_ft (pc := 42) tb_Word_signAt 24 rfl) cf_Word_97 (Or.inr pz_n11.2.2.2.1) (as := [.int (nI i)]) (st := []) rfl rfl (Nat.le_of_ble_eq_true rfl) (Nat.le_refl _) (Nat.le_refl _) (ev_Str_charAt pz_n11 (i := i) (show i < (pz_ns 11).length from by show i < 2; omega) ?_)
    refine fg_goto (tgt := 50) (fg_ft (pc := 45) tb_Word_signAt 25 rfl) (by decide) ?_
    exact fg_zret (fg_ft (pc := 50) tb_Word_signAt 27 rfl) rfl ((pk_charN (Nat.lt_trans (pz_n11.2.2.2.2.2 i (show i < (pz_ns 11).length from by show i < 2; omega)).2 (by decide))).1) rfl (fg_q hQ (by unfold pz_sg; rw [if_pos (show i < (pz_ns 11).length from by show i < 2; omega)]))
theorem fk_Word_84_12 : fg_KF "ForgetBread$Word" 84 12 (.ref 48) := ⟨_, List.mem_of_getElem? (l := fg_ofld) (i := 75) rfl, rfl, rfl, fg_tblIn 1729 (by decide +kernel) (by decide +kernel)⟩
theorem fk_Word_87_12 : fg_KF "ForgetBread$Word" 87 12 (.int (nI 0)) := ⟨_, List.mem_of_getElem? (l := fg_ofld) (i := 73) rfl, rfl, rfl, fg_tblIn 1730 (by decide +kernel) (by decide +kernel)⟩
theorem ev_Word_signAt_12 {E : fg_E} {d : Nat} {μ : Nat → Nat → Int32} {R : fg_T4} {Q : Option Value → fg_M → Prop} {i : Nat} (hi : i < 2 ^ 31) (hQ : Q (some (.int (nI (pz_sg 12 i)))) (μ, fg_rho R, 304)) : fg_Ev E yy_Word_signAt (d + 5) [.ref 12, .int (nI i)] (μ, fg_rho R, 304) 304 Q := by
  refine fg_intro (by decide +kernel) (Nat.le_of_ble_eq_true rfl) (fg_okAs rfl) (Nat.le_refl _) ?_
  refine fg_aloadn (fg_ft (pc := 0) tb_Word_signAt 0 rfl) rfl ?_
  refine fg_getK (fg_ft (pc := 1) tb_Word_signAt 1 rfl) fk_Word_84_12 ?_
  refine fg_callV (fg_ft (pc := 4) tb_Word_signAt 2 rfl) cf_Word_91 (Or.inr pz_n12.2.2.2.1) (as := []) (st := []) rfl rfl (Nat.le_of_ble_eq_true rfl) (Nat.le_refl _) (Nat.le_refl _) (ev_Str_length pz_n12 ?_)
  refine fg_top (y := (nI 2)) rfl ?_
  refine fg_iconst (fg_ft (pc := 7) tb_Word_signAt 3 rfl) ic_1 ?_
  refine fg_isubN (fg_ft (pc := 8) tb_Word_signAt 4 rfl) (by omega) ?_
  refine fg_top (y := (nI 1)) rfl ?_
  refine fg_istoren (fg_ft (pc := 9) tb_Word_signAt 5 rfl) (Nat.le_of_ble_eq_true rfl) ?_
  refine fg_aloadn (fg_ft (pc := 10) tb_Word_signAt 6 rfl) rfl ?_
  refine fg_getK (fg_ft (pc := 11) tb_Word_signAt 7 rfl) fk_Word_87_12 ?_
  refine fg_if_eq (tgt := 26) (fg_ft (pc := 14) tb_Word_signAt 8 rfl) (by decide) (fun _ => ?_) (fun h => absurd h (by decide))
  refine fg_iloadn (fg_ft (pc := 26) tb_Word_signAt 14 rfl) rfl ?_
  refine fg_istoren (fg_ft (pc := 27) tb_Word_signAt 15 rfl) (Nat.le_of_ble_eq_true rfl) ?_
  refine fg_iloadn (fg_ft (pc := 28) tb_Word_signAt 16 rfl) rfl ?_
  refine fg_if_ltN (tgt := 48) (fg_ft (pc := 29) tb_Word_signAt 17 rfl) (by decide) (hi) ?_
  refine fg_iloadn (fg_ft (pc := 32) tb_Word_signAt 18 rfl) rfl ?_
  refine fg_iloadn (fg_ft (pc := 33) tb_Word_signAt 19 rfl) rfl ?_
  refine fg_icmp_gtN (tgt := 48) (fg_ft (pc := 34) tb_Word_signAt 20 rfl) (by decide) (hi) (by decide) (fun c34 => ?_) (fun c34 => ?_)
  · refine fg_bipush (fg_ft (pc := 48) tb_Word_signAt 26 rfl) ib_32 ?_
    exact fg_zret (fg_ft (pc := 50) tb_Word_signAt 27 rfl) rfl (by decide) rfl (fg_q hQ (by first | (exfalso; omega) | (unfold pz_sg; rw [if_neg (show ¬ i < (pz_ns 12).length from by show ¬ i < 2; omega), if_neg (by decide)])))
  · refine fg_aloadn (fg_ft (pc := 37) tb_Word_signAt 21 rfl) rfl ?_
    refine fg_getK (fg_ft (pc := 38) tb_Word_signAt 22 rfl) fk_Word_84_12 ?_
    refine fg_iloadn (fg_ft (pc := 41) tb_Word_signAt 23 rfl) rfl ?_
    refine fg_callV (fg_ft (pc := 42) tb_Word_signAt 24 rfl) cf_Word_97 (Or.inr pz_n12.2.2.2.1) (as := [.int (nI i)]) (st := []) rfl rfl (Nat.le_of_ble_eq_true rfl) (Nat.le_refl _) (Nat.le_refl _) (ev_Str_charAt pz_n12 (i := i) (show i < (pz_ns 12).length from by show i < 2; omega) ?_)
    refine fg_goto (tgt := 50) (fg_ft (pc := 45) tb_Word_signAt 25 rfl) (by decide) ?_
    exact fg_zret (fg_ft (pc := 50) tb_Word_signAt 27 rfl) rfl ((pk_charN (Nat.lt_trans (pz_n12.2.2.2.2.2 i (show i < (pz_ns 12).length from by show i < 2; omega)).2 (by decide))).1) rfl (fg_q hQ (by unfold pz_sg; rw [if_pos (show i < (pz_ns 12).length from by show i < 2; omega)]))
theorem fk_Word_84_13 : fg_KF "ForgetBread$Word" 84 13 (.ref 48) := ⟨_, List.mem_of_getElem? (l := fg_ofld) (i := 81) rfl, rfl, rfl, fg_tblIn 1729 (by decide +kernel) (by decide +kernel)⟩
theorem fk_Word_87_13 : fg_KF "ForgetBread$Word" 87 13 (.int (nI 0)) := ⟨_, List.mem_of_getElem? (l := fg_ofld) (i := 79) rfl, rfl, rfl, fg_tblIn 1730 (by decide +kernel) (by decide +kernel)⟩
theorem ev_Word_signAt_13 {E : fg_E} {d : Nat} {μ : Nat → Nat → Int32} {R : fg_T4} {Q : Option Value → fg_M → Prop} {i : Nat} (hi : i < 2 ^ 31) (hQ : Q (some (.int (nI (pz_sg 13 i)))) (μ, fg_rho R, 304)) : fg_Ev E yy_Word_signAt (d + 5) [.ref 13, .int (nI i)] (μ, fg_rho R, 304) 304 Q := by
  refine fg_intro (by decide +kernel) (Nat.le_of_ble_eq_true rfl) (fg_okAs rfl) (Nat.le_refl _) ?_
  refine fg_aloadn (fg_ft (pc := 0) tb_Word_signAt 0 rfl) rfl ?_
  refine fg_getK (fg_ft (pc := 1) tb_Word_signAt 1 rfl) fk_Word_84_13 ?_
  refine fg_callV (fg_ft (pc := 4) tb_Word_signAt 2 rfl) cf_Word_91 (Or.inr pz_n13.2.2.2.1) (as := []) (st := []) rfl rfl (Nat.le_of_ble_eq_true rfl) (Nat.le_refl _) (Nat.le_refl _) (ev_Str_length pz_n13 ?_)
  refine fg_top (y := (nI 2)) rfl ?_
  refine fg_iconst (fg_ft (pc := 7) tb_Word_signAt 3 rfl) ic_1 ?_
  refine fg_isubN (fg_ft (pc := 8) tb_Word_signAt 4 rfl) (by omega) ?_
  refine fg_top (y := (nI 1)) rfl ?_
  refine fg_istoren (fg_ft (pc := 9) tb_Word_signAt 5 rfl) (Nat.le_of_ble_eq_true rfl) ?_
  refine fg_aloadn (fg_ft (pc := 10) tb_Word_signAt 6 rfl) rfl ?_
  refine fg_getK (fg_ft (pc := 11) tb_Word_signAt 7 rfl) fk_Word_87_13 ?_
  refine fg_if_eq (tgt := 26) (fg_ft (pc := 14) tb_Word_signAt 8 rfl) (by decide) (fun _ => ?_) (fun h => absurd h (by decide))
  refine fg_iloadn (fg_ft (pc := 26) tb_Word_signAt 14 rfl) rfl ?_
  refine fg_istoren (fg_ft (pc := 27) tb_Word_signAt 15 rfl) (Nat.le_of_ble_eq_true rfl) ?_
  refine fg_iloadn (fg_ft (pc := 28) tb_Word_signAt 16 rfl) rfl ?_
  refine fg_if_ltN (tgt := 48) (fg_ft (pc := 29) tb_Word_signAt 17 rfl) (by decide) (hi) ?_
  refine fg_iloadn (fg_ft (pc := 32) tb_Word_signAt 18 rfl) rfl ?_
  refine fg_iloadn (fg_ft (pc := 33) tb_Word_signAt 19 rfl) rfl ?_
  refine fg_icmp_gtN (tgt := 48) (fg_ft (pc := 34) tb_Word_signAt 20 rfl) (by decide) (hi) (by decide) (fun c34 => ?_) (fun c34 => ?_)
  · refine fg_bipush (fg_ft (pc := 48) tb_Word_signAt 26 rfl) ib_32 ?_
    exact fg_zret (fg_ft (pc := 50) tb_Word_signAt 27 rfl) rfl (by decide) rfl (fg_q hQ (by first | (exfalso; omega) | (unfold pz_sg; rw [if_neg (show ¬ i < (pz_ns 13).length from by show ¬ i < 2; omega), if_neg (by decide)])))
  · refine fg_aloadn (fg_ft (pc := 37) tb_Word_signAt 21 rfl) rfl ?_
    refine fg_getK (fg_ft (pc := 38) tb_Word_signAt 22 rfl) fk_Word_84_13 ?_
    refine fg_iloadn (fg_ft (pc := 41) tb_Word_signAt 23 rfl) rfl ?_
    refine fg_callV (fg_ft (pc := 42) tb_Word_signAt 24 rfl) cf_Word_97 (Or.inr pz_n13.2.2.2.1) (as := [.int (nI i)]) (st := []) rfl rfl (Nat.le_of_ble_eq_true rfl) (Nat.le_refl _) (Nat.le_refl _) (ev_Str_charAt pz_n13 (i := i) (show i < (pz_ns 13).length from by show i < 2; omega) ?_)
    refine fg_goto (tgt := 50) (fg_ft (pc := 45) tb_Word_signAt 25 rfl) (by decide) ?_
    exact fg_zret (fg_ft (pc := 50) tb_Word_signAt 27 rfl) rfl ((pk_charN (Nat.lt_trans (pz_n13.2.2.2.2.2 i (show i < (pz_ns 13).length from by show i < 2; omega)).2 (by decide))).1) rfl (fg_q hQ (by unfold pz_sg; rw [if_pos (show i < (pz_ns 13).length from by show i < 2; omega)]))
theorem fk_Word_84_14 : fg_KF "ForgetBread$Word" 84 14 (.ref 48) := ⟨_, List.mem_of_getElem? (l := fg_ofld) (i := 87) rfl, rfl, rfl, fg_tblIn 1729 (by decide +kernel) (by decide +kernel)⟩
theorem fk_Word_87_14 : fg_KF "ForgetBread$Word" 87 14 (.int (nI 0)) := ⟨_, List.mem_of_getElem? (l := fg_ofld) (i := 85) rfl, rfl, rfl, fg_tblIn 1730 (by decide +kernel) (by decide +kernel)⟩
theorem ev_Word_signAt_14 {E : fg_E} {d : Nat} {μ : Nat → Nat → Int32} {R : fg_T4} {Q : Option Value → fg_M → Prop} {i : Nat} (hi : i < 2 ^ 31) (hQ : Q (some (.int (nI (pz_sg 14 i)))) (μ, fg_rho R, 304)) : fg_Ev E yy_Word_signAt (d + 5) [.ref 14, .int (nI i)] (μ, fg_rho R, 304) 304 Q := by
  refine fg_intro (by decide +kernel) (Nat.le_of_ble_eq_true rfl) (fg_okAs rfl) (Nat.le_refl _) ?_
  refine fg_aloadn (fg_ft (pc := 0) tb_Word_signAt 0 rfl) rfl ?_
  refine fg_getK (fg_ft (pc := 1) tb_Word_signAt 1 rfl) fk_Word_84_14 ?_
  refine fg_callV (fg_ft (pc := 4) tb_Word_signAt 2 rfl) cf_Word_91 (Or.inr pz_n14.2.2.2.1) (as := []) (st := []) rfl rfl (Nat.le_of_ble_eq_true rfl) (Nat.le_refl _) (Nat.le_refl _) (ev_Str_length pz_n14 ?_)
  refine fg_top (y := (nI 2)) rfl ?_
  refine fg_iconst (fg_ft (pc := 7) tb_Word_signAt 3 rfl) ic_1 ?_
  refine fg_isubN (fg_ft (pc := 8) tb_Word_signAt 4 rfl) (by omega) ?_
  refine fg_top (y := (nI 1)) rfl ?_
  refine fg_istoren (fg_ft (pc := 9) tb_Word_signAt 5 rfl) (Nat.le_of_ble_eq_true rfl) ?_
  refine fg_aloadn (fg_ft (pc := 10) tb_Word_signAt 6 rfl) rfl ?_
  refine fg_getK (fg_ft (pc := 11) tb_Word_signAt 7 rfl) fk_Word_87_14 ?_
  refine fg_if_eq (tgt := 26) (fg_ft (pc := 14) tb_Word_signAt 8 rfl) (by decide) (fun _ => ?_) (fun h => absurd h (by decide))
  refine fg_iloadn (fg_ft (pc := 26) tb_Word_signAt 14 rfl) rfl ?_
  refine fg_istoren (fg_ft (pc := 27) tb_Word_signAt 15 rfl) (Nat.le_of_ble_eq_true rfl) ?_
  refine fg_iloadn (fg_ft (pc := 28) tb_Word_signAt 16 rfl) rfl ?_
  refine fg_if_ltN (tgt := 48) (fg_ft (pc := 29) tb_Word_signAt 17 rfl) (by decide) (hi) ?_
  refine fg_iloadn (fg_ft (pc := 32) tb_Word_signAt 18 rfl) rfl ?_
  refine fg_iloadn (fg_ft (pc := 33) tb_Word_signAt 19 rfl) rfl ?_
  refine fg_icmp_gtN (tgt := 48) (fg_ft (pc := 34) tb_Word_signAt 20 rfl) (by decide) (hi) (by decide) (fun c34 => ?_) (fun c34 => ?_)
  · refine fg_bipush (fg_ft (pc := 48) tb_Word_signAt 26 rfl) ib_32 ?_
    exact fg_zret (fg_ft (pc := 50) tb_Word_signAt 27 rfl) rfl (by decide) rfl (fg_q hQ (by first | (exfalso; omega) | (unfold pz_sg; rw [if_neg (show ¬ i < (pz_ns 14).length from by show ¬ i < 2; omega), if_neg (by decide)])))
  · refine fg_aloadn (fg_ft (pc := 37) tb_Word_signAt 21 rfl) rfl ?_
    refine fg_getK (fg_ft (pc := 38) tb_Word_signAt 22 rfl) fk_Word_84_14 ?_
    refine fg_iloadn (fg_ft (pc := 41) tb_Word_signAt 23 rfl) rfl ?_
    refine fg_callV (fg_ft (pc := 42) tb_Word_signAt 24 rfl) cf_Word_97 (Or.inr pz_n14.2.2.2.1) (as := [.int (nI i)]) (st := []) rfl rfl (Nat.le_of_ble_eq_true rfl) (Nat.le_refl _) (Nat.le_refl _) (ev_Str_charAt pz_n14 (i := i) (show i < (pz_ns 14).length from by show i < 2; omega) ?_)
    refine fg_goto (tgt := 50) (fg_ft (pc := 45) tb_Word_signAt 25 rfl) (by decide) ?_
    exact fg_zret (fg_ft (pc := 50) tb_Word_signAt 27 rfl) rfl ((pk_charN (Nat.lt_trans (pz_n14.2.2.2.2.2 i (show i < (pz_ns 14).length from by show i < 2; omega)).2 (by decide))).1) rfl (fg_q hQ (by unfold pz_sg; rw [if_pos (show i < (pz_ns 14).length from by show i < 2; omega)]))
theorem fk_Word_84_15 : fg_KF "ForgetBread$Word" 84 15 (.ref 49) := ⟨_, List.mem_of_getElem? (l := fg_ofld) (i := 93) rfl, rfl, rfl, fg_tblIn 1729 (by decide +kernel) (by decide +kernel)⟩
theorem fk_Word_87_15 : fg_KF "ForgetBread$Word" 87 15 (.int (nI 0)) := ⟨_, List.mem_of_getElem? (l := fg_ofld) (i := 91) rfl, rfl, rfl, fg_tblIn 1730 (by decide +kernel) (by decide +kernel)⟩
theorem ev_Word_signAt_15 {E : fg_E} {d : Nat} {μ : Nat → Nat → Int32} {R : fg_T4} {Q : Option Value → fg_M → Prop} {i : Nat} (hi : i < 2 ^ 31) (hQ : Q (some (.int (nI (pz_sg 15 i)))) (μ, fg_rho R, 304)) : fg_Ev E yy_Word_signAt (d + 5) [.ref 15, .int (nI i)] (μ, fg_rho R, 304) 304 Q := by
  refine fg_intro (by decide +kernel) (Nat.le_of_ble_eq_true rfl) (fg_okAs rfl) (Nat.le_refl _) ?_
  refine fg_aloadn (fg_ft (pc := 0) tb_Word_signAt 0 rfl) rfl ?_
  refine fg_getK (fg_ft (pc := 1) tb_Word_signAt 1 rfl) fk_Word_84_15 ?_
  refine fg_callV (fg_ft (pc := 4) tb_Word_signAt 2 rfl) cf_Word_91 (Or.inr pz_n15.2.2.2.1) (as := []) (st := []) rfl rfl (Nat.le_of_ble_eq_true rfl) (Nat.le_refl _) (Nat.le_refl _) (ev_Str_length pz_n15 ?_)
  refine fg_top (y := (nI 3)) rfl ?_
  refine fg_iconst (fg_ft (pc := 7) tb_Word_signAt 3 rfl) ic_1 ?_
  refine fg_isubN (fg_ft (pc := 8) tb_Word_signAt 4 rfl) (by omega) ?_
  refine fg_top (y := (nI 2)) rfl ?_
  refine fg_istoren (fg_ft (pc := 9) tb_Word_signAt 5 rfl) (Nat.le_of_ble_eq_true rfl) ?_
  refine fg_aloadn (fg_ft (pc := 10) tb_Word_signAt 6 rfl) rfl ?_
  refine fg_getK (fg_ft (pc := 11) tb_Word_signAt 7 rfl) fk_Word_87_15 ?_
  refine fg_if_eq (tgt := 26) (fg_ft (pc := 14) tb_Word_signAt 8 rfl) (by decide) (fun _ => ?_) (fun h => absurd h (by decide))
  refine fg_iloadn (fg_ft (pc := 26) tb_Word_signAt 14 rfl) rfl ?_
  refine fg_istoren (fg_ft (pc := 27) tb_Word_signAt 15 rfl) (Nat.le_of_ble_eq_true rfl) ?_
  refine fg_iloadn (fg_ft (pc := 28) tb_Word_signAt 16 rfl) rfl ?_
  refine fg_if_ltN (tgt := 48) (fg_ft (pc := 29) tb_Word_signAt 17 rfl) (by decide) (hi) ?_
  refine fg_iloadn (fg_ft (pc := 32) tb_Word_signAt 18 rfl) rfl ?_
  refine fg_iloadn (fg_ft (pc := 33) tb_Word_signAt 19 rfl) rfl ?_
  refine fg_icmp_gtN (tgt := 48) (fg_ft (pc := 34) tb_Word_signAt 20 rfl) (by decide) (hi) (by decide) (fun c34 => ?_) (fun c34 => ?_)
  · refine fg_bipush (fg_ft (pc := 48) tb_Word_signAt 26 rfl) ib_32 ?_
    exact fg_zret (fg_ft (pc := 50) tb_Word_signAt 27 rfl) rfl (by decide) rfl (fg_q hQ (by first | (exfalso; omega) | (unfold pz_sg; rw [if_neg (show ¬ i < (pz_ns 15).length from by show ¬ i < 3; omega), if_neg (by decide)])))
  · refine fg_aloadn (fg_ft (pc := 37) tb_Word_signAt 21 rfl) rfl ?_
    refine fg_getK (fg_ft (pc := 38) tb_Word_signAt 22 rfl) fk_Word_84_15 ?_
    refine fg_iloadn (fg_ft (pc := 41) tb_Word_signAt 23 rfl) rfl ?_
    refine fg_callV (fg_ft (pc := 42) tb_Word_signAt 24 rfl) cf_Word_97 (Or.inr pz_n15.2.2.2.1) (as := [.int (nI i)]) (st := []) rfl rfl (Nat.le_of_ble_eq_true rfl) (Nat.le_refl _) (Nat.le_refl _) (ev_Str_charAt pz_n15 (i := i) (show i < (pz_ns 15).length from by show i < 3; omega) ?_)
    refine fg_goto (tgt := 50) (fg_ft (pc := 45) tb_Word_signAt 25 rfl) (by decide) ?_
    exact fg_zret (fg_ft (pc := 50) tb_Word_signAt 27 rfl) rfl ((pk_charN (Nat.lt_trans (pz_n15.2.2.2.2.2 i (show i < (pz_ns 15).length from by show i < 3; omega)).2 (by decide))).1) rfl (fg_q hQ (by unfold pz_sg; rw [if_pos (show i < (pz_ns 15).length from by show i < 3; omega)]))
theorem fk_Word_84_16 : fg_KF "ForgetBread$Word" 84 16 (.ref 50) := ⟨_, List.mem_of_getElem? (l := fg_ofld) (i := 99) rfl, rfl, rfl, fg_tblIn 1729 (by decide +kernel) (by decide +kernel)⟩
theorem fk_Word_87_16 : fg_KF "ForgetBread$Word" 87 16 (.int (nI 0)) := ⟨_, List.mem_of_getElem? (l := fg_ofld) (i := 97) rfl, rfl, rfl, fg_tblIn 1730 (by decide +kernel) (by decide +kernel)⟩
theorem ev_Word_signAt_16 {E : fg_E} {d : Nat} {μ : Nat → Nat → Int32} {R : fg_T4} {Q : Option Value → fg_M → Prop} {i : Nat} (hi : i < 2 ^ 31) (hQ : Q (some (.int (nI (pz_sg 16 i)))) (μ, fg_rho R, 304)) : fg_Ev E yy_Word_signAt (d + 5) [.ref 16, .int (nI i)] (μ, fg_rho R, 304) 304 Q := by
  refine fg_intro (by decide +kernel) (Nat.le_of_ble_eq_true rfl) (fg_okAs rfl) (Nat.le_refl _) ?_
  refine fg_aloadn (fg_ft (pc := 0) tb_Word_signAt 0 rfl) rfl ?_
  refine fg_getK (fg_ft (pc := 1) tb_Word_signAt 1 rfl) fk_Word_84_16 ?_
  refine fg_callV (fg_ft (pc := 4) tb_Word_signAt 2 rfl) cf_Word_91 (Or.inr pz_n16.2.2.2.1) (as := []) (st := []) rfl rfl (Nat.le_of_ble_eq_true rfl) (Nat.le_refl _) (Nat.le_refl _) (ev_Str_length pz_n16 ?_)
  refine fg_top (y := (nI 0)) rfl ?_
  refine fg_iconst (fg_ft (pc := 7) tb_Word_signAt 3 rfl) ic_1 ?_
  refine fg_isub (fg_ft (pc := 8) tb_Word_signAt 4 rfl) ?_
  refine fg_top (y := (-1 : Int32)) rfl ?_
  refine fg_istoren (fg_ft (pc := 9) tb_Word_signAt 5 rfl) (Nat.le_of_ble_eq_true rfl) ?_
  refine fg_aloadn (fg_ft (pc := 10) tb_Word_signAt 6 rfl) rfl ?_
  refine fg_getK (fg_ft (pc := 11) tb_Word_signAt 7 rfl) fk_Word_87_16 ?_
  refine fg_if_eq (tgt := 26) (fg_ft (pc := 14) tb_Word_signAt 8 rfl) (by decide) (fun _ => ?_) (fun h => absurd h (by decide))
  refine fg_iloadn (fg_ft (pc := 26) tb_Word_signAt 14 rfl) rfl ?_
  refine fg_istoren (fg_ft (pc := 27) tb_Word_signAt 15 rfl) (Nat.le_of_ble_eq_true rfl) ?_
  refine fg_iloadn (fg_ft (pc := 28) tb_Word_signAt 16 rfl) rfl ?_
  refine fg_if_ltN (tgt := 48) (fg_ft (pc := 29) tb_Word_signAt 17 rfl) (by decide) (hi) ?_
  refine fg_iloadn (fg_ft (pc := 32) tb_Word_signAt 18 rfl) rfl ?_
  refine fg_iloadn (fg_ft (pc := 33) tb_Word_signAt 19 rfl) rfl ?_
  refine fg_icmp_gt (tgt := 48) (fg_ft (pc := 34) tb_Word_signAt 20 rfl) (by decide) (fun c34 => ?_) (fun c34 => (absurd (Int32.not_lt.mp c34) (by rw [Int32.le_iff_toInt_le, nI_toInt hi]; show ¬ ((i : Int) ≤ -1); omega)))
  refine fg_bipush (fg_ft (pc := 48) tb_Word_signAt 26 rfl) ib_32 ?_
  exact fg_zret (fg_ft (pc := 50) tb_Word_signAt 27 rfl) rfl (by decide) rfl (fg_q hQ (by first | (exfalso; omega) | (unfold pz_sg; rw [if_neg (show ¬ i < (pz_ns 16).length from by show ¬ i < 0; omega), if_neg (by decide)])))
theorem ev_Word_signAt {E : fg_E} {d : Nat} {μ : Nat → Nat → Int32} {R : fg_T4} {Q : Option Value → fg_M → Prop} {w i : Nat} (hw : w < 17) (hi : i < 2 ^ 31) (hQ : Q (some (.int (nI (pz_sg w i)))) (μ, fg_rho R, 304)) : fg_Ev E yy_Word_signAt (d + 5) [.ref w, .int (nI i)] (μ, fg_rho R, 304) 304 Q := by
  rcases (show w = 0 ∨ w = 1 ∨ w = 2 ∨ w = 3 ∨ w = 4 ∨ w = 5 ∨ w = 6 ∨ w = 7 ∨ w = 8 ∨ w = 9 ∨ w = 10 ∨ w = 11 ∨ w = 12 ∨ w = 13 ∨ w = 14 ∨ w = 15 ∨ w = 16 by omega) with rfl | rfl | rfl | rfl | rfl | rfl | rfl | rfl | rfl | rfl | rfl | rfl | rfl | rfl | rfl | rfl | rfl
  · exact ev_Word_signAt_0 hi hQ
  · exact ev_Word_signAt_1 hi hQ
  · exact ev_Word_signAt_2 hi hQ
  · exact ev_Word_signAt_3 hi hQ
  · exact ev_Word_signAt_4 hi hQ
  · exact ev_Word_signAt_5 hi hQ
  · exact ev_Word_signAt_6 hi hQ
  · exact ev_Word_signAt_7 hi hQ
  · exact ev_Word_signAt_8 hi hQ
  · exact ev_Word_signAt_9 hi hQ
  · exact ev_Word_signAt_10 hi hQ
  · exact ev_Word_signAt_11 hi hQ
  · exact ev_Word_signAt_12 hi hQ
  · exact ev_Word_signAt_13 hi hQ
  · exact ev_Word_signAt_14 hi hQ
  · exact ev_Word_signAt_15 hi hQ
  · exact ev_Word_signAt_16 hi hQ
theorem fk_Reader_108_0 : fg_KF "ForgetBread$Reader" 108 0 (.ref 40) := ⟨_, List.mem_of_getElem? (l := fg_ofld) (i := 3) rfl, rfl, rfl, fg_tblIn 1732 (by decide +kernel) (by decide +kernel)⟩
theorem fk_Reader_120_0 : fg_KF "ForgetBread$Reader" 120 0 (.ref 20) := ⟨_, List.mem_of_getElem? (l := fg_ofld) (i := 2) rfl, rfl, rfl, fg_tblIn 1725 (by decide +kernel) (by decide +kernel)⟩
theorem fk_Reader_108_1 : fg_KF "ForgetBread$Reader" 108 1 (.ref 41) := ⟨_, List.mem_of_getElem? (l := fg_ofld) (i := 9) rfl, rfl, rfl, fg_tblIn 1732 (by decide +kernel) (by decide +kernel)⟩
theorem fk_Reader_120_1 : fg_KF "ForgetBread$Reader" 120 1 (.ref 21) := ⟨_, List.mem_of_getElem? (l := fg_ofld) (i := 8) rfl, rfl, rfl, fg_tblIn 1725 (by decide +kernel) (by decide +kernel)⟩
theorem fk_Reader_108_2 : fg_KF "ForgetBread$Reader" 108 2 (.ref 42) := ⟨_, List.mem_of_getElem? (l := fg_ofld) (i := 15) rfl, rfl, rfl, fg_tblIn 1732 (by decide +kernel) (by decide +kernel)⟩
theorem fk_Reader_120_2 : fg_KF "ForgetBread$Reader" 120 2 (.ref 22) := ⟨_, List.mem_of_getElem? (l := fg_ofld) (i := 14) rfl, rfl, rfl, fg_tblIn 1725 (by decide +kernel) (by decide +kernel)⟩
theorem fk_Reader_108_3 : fg_KF "ForgetBread$Reader" 108 3 (.ref 43) := ⟨_, List.mem_of_getElem? (l := fg_ofld) (i := 21) rfl, rfl, rfl, fg_tblIn 1732 (by decide +kernel) (by decide +kernel)⟩
theorem fk_Reader_120_3 : fg_KF "ForgetBread$Reader" 120 3 (.ref 23) := ⟨_, List.mem_of_getElem? (l := fg_ofld) (i := 20) rfl, rfl, rfl, fg_tblIn 1725 (by decide +kernel) (by decide +kernel)⟩
theorem fk_Reader_108_4 : fg_KF "ForgetBread$Reader" 108 4 (.ref 44) := ⟨_, List.mem_of_getElem? (l := fg_ofld) (i := 27) rfl, rfl, rfl, fg_tblIn 1732 (by decide +kernel) (by decide +kernel)⟩
theorem fk_Reader_120_4 : fg_KF "ForgetBread$Reader" 120 4 (.ref 24) := ⟨_, List.mem_of_getElem? (l := fg_ofld) (i := 26) rfl, rfl, rfl, fg_tblIn 1725 (by decide +kernel) (by decide +kernel)⟩
theorem fk_Reader_108_5 : fg_KF "ForgetBread$Reader" 108 5 (.ref 45) := ⟨_, List.mem_of_getElem? (l := fg_ofld) (i := 33) rfl, rfl, rfl, fg_tblIn 1732 (by decide +kernel) (by decide +kernel)⟩
theorem fk_Reader_120_5 : fg_KF "ForgetBread$Reader" 120 5 (.ref 25) := ⟨_, List.mem_of_getElem? (l := fg_ofld) (i := 32) rfl, rfl, rfl, fg_tblIn 1725 (by decide +kernel) (by decide +kernel)⟩
theorem fk_Reader_108_6 : fg_KF "ForgetBread$Reader" 108 6 (.ref 46) := ⟨_, List.mem_of_getElem? (l := fg_ofld) (i := 39) rfl, rfl, rfl, fg_tblIn 1732 (by decide +kernel) (by decide +kernel)⟩
theorem fk_Reader_120_6 : fg_KF "ForgetBread$Reader" 120 6 (.ref 26) := ⟨_, List.mem_of_getElem? (l := fg_ofld) (i := 38) rfl, rfl, rfl, fg_tblIn 1725 (by decide +kernel) (by decide +kernel)⟩
theorem fk_Reader_108_7 : fg_KF "ForgetBread$Reader" 108 7 (.ref 47) := ⟨_, List.mem_of_getElem? (l := fg_ofld) (i := 45) rfl, rfl, rfl, fg_tblIn 1732 (by decide +kernel) (by decide +kernel)⟩
theorem fk_Reader_120_7 : fg_KF "ForgetBread$Reader" 120 7 (.ref 27) := ⟨_, List.mem_of_getElem? (l := fg_ofld) (i := 44) rfl, rfl, rfl, fg_tblIn 1725 (by decide +kernel) (by decide +kernel)⟩
theorem fk_Reader_108_8 : fg_KF "ForgetBread$Reader" 108 8 (.ref 47) := ⟨_, List.mem_of_getElem? (l := fg_ofld) (i := 51) rfl, rfl, rfl, fg_tblIn 1732 (by decide +kernel) (by decide +kernel)⟩
theorem fk_Reader_120_8 : fg_KF "ForgetBread$Reader" 120 8 (.ref 28) := ⟨_, List.mem_of_getElem? (l := fg_ofld) (i := 50) rfl, rfl, rfl, fg_tblIn 1725 (by decide +kernel) (by decide +kernel)⟩
theorem fk_Reader_108_9 : fg_KF "ForgetBread$Reader" 108 9 (.ref 42) := ⟨_, List.mem_of_getElem? (l := fg_ofld) (i := 57) rfl, rfl, rfl, fg_tblIn 1732 (by decide +kernel) (by decide +kernel)⟩
theorem fk_Reader_120_9 : fg_KF "ForgetBread$Reader" 120 9 (.ref 29) := ⟨_, List.mem_of_getElem? (l := fg_ofld) (i := 56) rfl, rfl, rfl, fg_tblIn 1725 (by decide +kernel) (by decide +kernel)⟩
theorem fk_Reader_108_10 : fg_KF "ForgetBread$Reader" 108 10 (.ref 48) := ⟨_, List.mem_of_getElem? (l := fg_ofld) (i := 63) rfl, rfl, rfl, fg_tblIn 1732 (by decide +kernel) (by decide +kernel)⟩
theorem fk_Reader_120_10 : fg_KF "ForgetBread$Reader" 120 10 (.ref 30) := ⟨_, List.mem_of_getElem? (l := fg_ofld) (i := 62) rfl, rfl, rfl, fg_tblIn 1725 (by decide +kernel) (by decide +kernel)⟩
theorem fk_Reader_108_11 : fg_KF "ForgetBread$Reader" 108 11 (.ref 48) := ⟨_, List.mem_of_getElem? (l := fg_ofld) (i := 69) rfl, rfl, rfl, fg_tblIn 1732 (by decide +kernel) (by decide +kernel)⟩
theorem fk_Reader_120_11 : fg_KF "ForgetBread$Reader" 120 11 (.ref 31) := ⟨_, List.mem_of_getElem? (l := fg_ofld) (i := 68) rfl, rfl, rfl, fg_tblIn 1725 (by decide +kernel) (by decide +kernel)⟩
theorem fk_Reader_108_12 : fg_KF "ForgetBread$Reader" 108 12 (.ref 48) := ⟨_, List.mem_of_getElem? (l := fg_ofld) (i := 75) rfl, rfl, rfl, fg_tblIn 1732 (by decide +kernel) (by decide +kernel)⟩
theorem fk_Reader_120_12 : fg_KF "ForgetBread$Reader" 120 12 (.ref 32) := ⟨_, List.mem_of_getElem? (l := fg_ofld) (i := 74) rfl, rfl, rfl, fg_tblIn 1725 (by decide +kernel) (by decide +kernel)⟩
theorem fk_Reader_108_13 : fg_KF "ForgetBread$Reader" 108 13 (.ref 48) := ⟨_, List.mem_of_getElem? (l := fg_ofld) (i := 81) rfl, rfl, rfl, fg_tblIn 1732 (by decide +kernel) (by decide +kernel)⟩
theorem fk_Reader_120_13 : fg_KF "ForgetBread$Reader" 120 13 (.ref 33) := ⟨_, List.mem_of_getElem? (l := fg_ofld) (i := 80) rfl, rfl, rfl, fg_tblIn 1725 (by decide +kernel) (by decide +kernel)⟩
theorem fk_Reader_108_14 : fg_KF "ForgetBread$Reader" 108 14 (.ref 48) := ⟨_, List.mem_of_getElem? (l := fg_ofld) (i := 87) rfl, rfl, rfl, fg_tblIn 1732 (by decide +kernel) (by decide +kernel)⟩
theorem fk_Reader_120_14 : fg_KF "ForgetBread$Reader" 120 14 (.ref 34) := ⟨_, List.mem_of_getElem? (l := fg_ofld) (i := 86) rfl, rfl, rfl, fg_tblIn 1725 (by decide +kernel) (by decide +kernel)⟩
theorem fk_Reader_108_15 : fg_KF "ForgetBread$Reader" 108 15 (.ref 49) := ⟨_, List.mem_of_getElem? (l := fg_ofld) (i := 93) rfl, rfl, rfl, fg_tblIn 1732 (by decide +kernel) (by decide +kernel)⟩
theorem fk_Reader_120_15 : fg_KF "ForgetBread$Reader" 120 15 (.ref 35) := ⟨_, List.mem_of_getElem? (l := fg_ofld) (i := 92) rfl, rfl, rfl, fg_tblIn 1725 (by decide +kernel) (by decide +kernel)⟩
theorem fk_Reader_108_16 : fg_KF "ForgetBread$Reader" 108 16 (.ref 50) := ⟨_, List.mem_of_getElem? (l := fg_ofld) (i := 99) rfl, rfl, rfl, fg_tblIn 1732 (by decide +kernel) (by decide +kernel)⟩
theorem fk_Reader_120_16 : fg_KF "ForgetBread$Reader" 120 16 (.ref 36) := ⟨_, List.mem_of_getElem? (l := fg_ofld) (i := 98) rfl, rfl, rfl, fg_tblIn 1725 (by decide +kernel) (by decide +kernel)⟩
theorem pz_kspelled {w : Nat} (hw : w < 17) : fg_KF "ForgetBread$Reader" 120 w (.ref (20 + w)) := by
  rcases (show w = 0 ∨ w = 1 ∨ w = 2 ∨ w = 3 ∨ w = 4 ∨ w = 5 ∨ w = 6 ∨ w = 7 ∨ w = 8 ∨ w = 9 ∨ w = 10 ∨ w = 11 ∨ w = 12 ∨ w = 13 ∨ w = 14 ∨ w = 15 ∨ w = 16 by omega) with rfl | rfl | rfl | rfl | rfl | rfl | rfl | rfl | rfl | rfl | rfl | rfl | rfl | rfl | rfl | rfl | rfl
  · exact fk_Reader_120_0
  · exact fk_Reader_120_1
  · exact fk_Reader_120_2
  · exact fk_Reader_120_3
  · exact fk_Reader_120_4
  · exact fk_Reader_120_5
  · exact fk_Reader_120_6
  · exact fk_Reader_120_7
  · exact fk_Reader_120_8
  · exact fk_Reader_120_9
  · exact fk_Reader_120_10
  · exact fk_Reader_120_11
  · exact fk_Reader_120_12
  · exact fk_Reader_120_13
  · exact fk_Reader_120_14
  · exact fk_Reader_120_15
  · exact fk_Reader_120_16
theorem pz_knumbers {w : Nat} (hw : w < 17) : fg_KF "ForgetBread$Reader" 108 w (.ref (pz_nn w)) := by
  rcases (show w = 0 ∨ w = 1 ∨ w = 2 ∨ w = 3 ∨ w = 4 ∨ w = 5 ∨ w = 6 ∨ w = 7 ∨ w = 8 ∨ w = 9 ∨ w = 10 ∨ w = 11 ∨ w = 12 ∨ w = 13 ∨ w = 14 ∨ w = 15 ∨ w = 16 by omega) with rfl | rfl | rfl | rfl | rfl | rfl | rfl | rfl | rfl | rfl | rfl | rfl | rfl | rfl | rfl | rfl | rfl
  · exact fk_Reader_108_0
  · exact fk_Reader_108_1
  · exact fk_Reader_108_2
  · exact fk_Reader_108_3
  · exact fk_Reader_108_4
  · exact fk_Reader_108_5
  · exact fk_Reader_108_6
  · exact fk_Reader_108_7
  · exact fk_Reader_108_8
  · exact fk_Reader_108_9
  · exact fk_Reader_108_10
  · exact fk_Reader_108_11
  · exact fk_Reader_108_12
  · exact fk_Reader_108_13
  · exact fk_Reader_108_14
  · exact fk_Reader_108_15
  · exact fk_Reader_108_16
theorem pz_isW {w : Nat} (hw : w < 17) : (w, "ForgetBread$Word") ∈ fg_objs := by
  rcases (show w = 0 ∨ w = 1 ∨ w = 2 ∨ w = 3 ∨ w = 4 ∨ w = 5 ∨ w = 6 ∨ w = 7 ∨ w = 8 ∨ w = 9 ∨ w = 10 ∨ w = 11 ∨ w = 12 ∨ w = 13 ∨ w = 14 ∨ w = 15 ∨ w = 16 by omega) with rfl | rfl | rfl | rfl | rfl | rfl | rfl | rfl | rfl | rfl | rfl | rfl | rfl | rfl | rfl | rfl | rfl
  · exact List.mem_of_getElem? (l := fg_objs) (i := 0) rfl
  · exact List.mem_of_getElem? (l := fg_objs) (i := 1) rfl
  · exact List.mem_of_getElem? (l := fg_objs) (i := 2) rfl
  · exact List.mem_of_getElem? (l := fg_objs) (i := 3) rfl
  · exact List.mem_of_getElem? (l := fg_objs) (i := 4) rfl
  · exact List.mem_of_getElem? (l := fg_objs) (i := 5) rfl
  · exact List.mem_of_getElem? (l := fg_objs) (i := 6) rfl
  · exact List.mem_of_getElem? (l := fg_objs) (i := 7) rfl
  · exact List.mem_of_getElem? (l := fg_objs) (i := 8) rfl
  · exact List.mem_of_getElem? (l := fg_objs) (i := 9) rfl
  · exact List.mem_of_getElem? (l := fg_objs) (i := 10) rfl
  · exact List.mem_of_getElem? (l := fg_objs) (i := 11) rfl
  · exact List.mem_of_getElem? (l := fg_objs) (i := 12) rfl
  · exact List.mem_of_getElem? (l := fg_objs) (i := 13) rfl
  · exact List.mem_of_getElem? (l := fg_objs) (i := 14) rfl
  · exact List.mem_of_getElem? (l := fg_objs) (i := 15) rfl
  · exact List.mem_of_getElem? (l := fg_objs) (i := 16) rfl
theorem pz_strS {w : Nat} (hw : w < 17) : pz_str (20 + w) (60 + w) (pz_sp w) := by
  rcases (show w = 0 ∨ w = 1 ∨ w = 2 ∨ w = 3 ∨ w = 4 ∨ w = 5 ∨ w = 6 ∨ w = 7 ∨ w = 8 ∨ w = 9 ∨ w = 10 ∨ w = 11 ∨ w = 12 ∨ w = 13 ∨ w = 14 ∨ w = 15 ∨ w = 16 by omega) with rfl | rfl | rfl | rfl | rfl | rfl | rfl | rfl | rfl | rfl | rfl | rfl | rfl | rfl | rfl | rfl | rfl
  · exact pz_s20
  · exact pz_s21
  · exact pz_s22
  · exact pz_s23
  · exact pz_s24
  · exact pz_s25
  · exact pz_s26
  · exact pz_s27
  · exact pz_s28
  · exact pz_s29
  · exact pz_s30
  · exact pz_s31
  · exact pz_s32
  · exact pz_s33
  · exact pz_s34
  · exact pz_s35
  · exact pz_s36
theorem pz_strN {w : Nat} (hw : w < 17) : ∃ v, pz_str (pz_nn w) v (pz_ns w) := by
  rcases (show w = 0 ∨ w = 1 ∨ w = 2 ∨ w = 3 ∨ w = 4 ∨ w = 5 ∨ w = 6 ∨ w = 7 ∨ w = 8 ∨ w = 9 ∨ w = 10 ∨ w = 11 ∨ w = 12 ∨ w = 13 ∨ w = 14 ∨ w = 15 ∨ w = 16 by omega) with rfl | rfl | rfl | rfl | rfl | rfl | rfl | rfl | rfl | rfl | rfl | rfl | rfl | rfl | rfl | rfl | rfl
  · exact ⟨_, pz_n0⟩
  · exact ⟨_, pz_n1⟩
  · exact ⟨_, pz_n2⟩
  · exact ⟨_, pz_n3⟩
  · exact ⟨_, pz_n4⟩
  · exact ⟨_, pz_n5⟩
  · exact ⟨_, pz_n6⟩
  · exact ⟨_, pz_n7⟩
  · exact ⟨_, pz_n8⟩
  · exact ⟨_, pz_n9⟩
  · exact ⟨_, pz_n10⟩
  · exact ⟨_, pz_n11⟩
  · exact ⟨_, pz_n12⟩
  · exact ⟨_, pz_n13⟩
  · exact ⟨_, pz_n14⟩
  · exact ⟨_, pz_n15⟩
  · exact ⟨_, pz_n16⟩
