/-! the reference's lines: a line -/
def rz_on (K V S : Nat → Nat) (at9 : Nat) (Z : rz_Z) : rz_Z := rz_p1 2 5 40 3 (rz_nu K V S 0 100 (rz_c3 2 5 at9 Z)).1 (rz_nu K V S 0 100 (rz_c3 2 5 at9 Z)).2
def rz_sg (K V S : Nat → Nat) (at9 : Nat) (Z : rz_Z) : rz_Z := rz_pr 3 12 55 (rz_nu K V S 1 10 (rz_c3 3 12 at9 Z)).1 (rz_fa K V S (rz_nu K V S 1 10 (rz_c3 3 12 at9 Z)).2).1 (rz_fa K V S (rz_nu K V S 1 10 (rz_c3 3 12 at9 Z)).2).2
def rz_ce (cell : Nat) (a : Nat × rz_Z) : rz_Z := rz_sC a.2 (pz_up a.2.2.2.2.2 cell a.1)
def rz_tw (K V S : Nat → Nat) (len at9 : Nat) (Z : rz_Z) : Nat → rz_Z
  | 1 => rz_ce 0 (rz_nu K V S 1 11 Z)
  | 2 => rz_rl K V S len at9 Z
  | 3 => rz_on K V S at9 Z
  | 4 => rz_bi K V S len 1 Z
  | 5 => rz_bi K V S len 0 Z
  | 6 => rz_sg K V S at9 Z
  | 7 => rz_mt K V S at9 Z
  | 8 => rz_sk K V S len 5 127 at9 Z
  | 9 => rz_sk K V S len 6 139 at9 Z
  | 10 => rz_ce 7 (rz_nu K V S 0 100 Z)
  | _ => Z
def rz_tl (K V S : Nat → Nat) (len : Nat) (Z : rz_Z) : rz_Z := rz_el K S (rz_tw K V S len (S Z.1) (rz_ta K V S 1 10 Z).2 (rz_ta K V S 1 10 Z).1)
theorem rz_ta_C {K V S : Nat → Nat} {a b : Nat} {Z : rz_Z} : (rz_ta K V S a b Z).2.2.2.2.2 = Z.2.2.2.2 := by
  unfold rz_ta; split
  · exact rz_en_C
  · rfl
theorem rz_ta_b {K V S : Nat → Nat} {a b : Nat} {Z : rz_Z} : (rz_ta K V S a b Z).1 = 0 ∨ (a ≤ (rz_ta K V S a b Z).1 ∧ (rz_ta K V S a b Z).1 ≤ b) := by
  unfold rz_ta
  by_cases c : Z.2.1 = 1 ∨ K Z.1 ≠ 3 ∨ ¬ (a ≤ V Z.1 + 1 ∧ V Z.1 + 1 ≤ b)
  · rw [if_pos c]; exact Or.inl rfl
  · rw [if_neg c]
    refine Or.inr ?_
    rcases Classical.em (a ≤ V Z.1 + 1 ∧ V Z.1 + 1 ≤ b) with q | q
    · exact q
    · exact absurd (Or.inr (Or.inr q)) c
theorem ev_Mo_townLine_0 {E : fg_E} {d : Nat} {μ : Nat → Nat → Int32} {R : fg_T4} {Q : Option Value → fg_M → Prop} {b : Nat → Nat} {len : Nat} {Z : rz_Z} (hle : len ≤ 600) (hb256 : ∀ j, b j < 256) (h : rz_RZ μ b len Z) (hcnt : ∀ k, 1 ≤ k → k ≤ 6 → Z.2.2.2.2 k ≤ 700) {t : Nat × rz_Z} (ht : rz_ta (pz_K b len) (pz_V b len) (pz_S b len) 1 10 Z = t) (hk : t.1 = 0) (hQ : ∀ μ' : Nat → Nat → Int32, rz_ag μ μ' → rz_RZ μ' b len (rz_el (pz_K b len) (pz_S b len) (rz_tw (pz_K b len) (pz_V b len) (pz_S b len) len (pz_S b len Z.1) t.2 0)) → Q none (μ', fg_rho R, 304)) : fg_Ev E yy_Mo_townLine (d + 9) [.ref 287] (μ, fg_rho R, 304) 304 Q := by
  refine fg_intro (by decide +kernel) (Nat.le_of_ble_eq_true rfl) (fg_okAs rfl) (Nat.le_refl _) ?_
  refine fg_aloadn (fg_ft (pc := 0) tb_Mo_townLine 0 rfl) rfl ?_
  refine fg_getV (v := (nI (pz_S b len Z.1))) (fg_ft (pc := 1) tb_Mo_townLine 1 rfl) ff_Mo_81 ly_287 rfl (fg_lt ly_287 (by decide)) h.2.1.2.1 ?_
  refine fg_istoren (fg_ft (pc := 4) tb_Mo_townLine 2 rfl) (Nat.le_of_ble_eq_true rfl) ?_
  refine fg_aloadn (fg_ft (pc := 5) tb_Mo_townLine 3 rfl) rfl ?_
  refine fg_iconst (fg_ft (pc := 6) tb_Mo_townLine 4 rfl) ic_1 ?_
  refine fg_bipush (fg_ft (pc := 7) tb_Mo_townLine 5 rfl) ib_10 ?_
  refine fg_callV (fg_ft (pc := 9) tb_Mo_townLine 6 rfl) cf_Mo_135 (fg_isOf ly_287 rfl (fg_lt ly_287 (by decide))) (as := [.int (nI 1), .int (nI 10)]) (st := []) rfl rfl (Nat.le_of_ble_eq_true rfl) (Nat.le_refl _) (Nat.le_refl _) (ev_Mo_takes (lo := 1) (hi := 10) hle hb256 h (by decide) (by decide) ?_)
  intro ν1 hg1 h1
  have ag1 := hg1
  rw [ht] at h1 ⊢
  show fg_wp _ _ _ _ _ _ _ _ _ (ν1, fg_rho R, 304)
  have hCt : t.2.2.2.2.2 = Z.2.2.2.2 := by rw [← ht, rz_ta_C]
  have hcn : ∀ i, 1 ≤ i → i ≤ 6 → t.2.2.2.2.2 i ≤ 700 := by rw [hCt]; exact hcnt
  refine fg_top (y := nI 0) (congrArg nI hk) ?_
  refine fg_istoren (fg_ft (pc := 12) tb_Mo_townLine 7 rfl) (Nat.le_of_ble_eq_true rfl) ?_
  refine fg_iloadn (fg_ft (pc := 13) tb_Mo_townLine 8 rfl) rfl ?_
  refine fg_iconst (fg_ft (pc := 14) tb_Mo_townLine 9 rfl) ic_1 ?_
  refine fg_icmp_neN (tgt := 31) (fg_ft (pc := 15) tb_Mo_townLine 10 rfl) (by decide) (by decide) (by decide) (fun c15 => ?_) (fun c15 => (absurd c15 (by decide)))
  refine fg_iloadn (fg_ft (pc := 31) tb_Mo_townLine 19 rfl) rfl ?_
  refine fg_iconst (fg_ft (pc := 32) tb_Mo_townLine 20 rfl) ic_2 ?_
  refine fg_icmp_neN (tgt := 41) (fg_ft (pc := 33) tb_Mo_townLine 21 rfl) (by decide) (by decide) (by decide) (fun c33 => ?_) (fun c33 => (absurd c33 (by decide)))
  refine fg_iloadn (fg_ft (pc := 41) tb_Mo_townLine 25 rfl) rfl ?_
  refine fg_iconst (fg_ft (pc := 42) tb_Mo_townLine 26 rfl) ic_3 ?_
  refine fg_icmp_neN (tgt := 107) (fg_ft (pc := 43) tb_Mo_townLine 27 rfl) (by decide) (by decide) (by decide) (fun c43 => ?_) (fun c43 => (absurd c43 (by decide)))
  refine fg_iloadn (fg_ft (pc := 107) tb_Mo_townLine 69 rfl) rfl ?_
  refine fg_iconst (fg_ft (pc := 108) tb_Mo_townLine 70 rfl) ic_4 ?_
  refine fg_icmp_eqN (tgt := 117) (fg_ft (pc := 109) tb_Mo_townLine 71 rfl) (by decide) (by decide) (by decide) (fun c109 => (absurd c109 (by decide))) (fun c109 => ?_)
  refine fg_iloadn (fg_ft (pc := 112) tb_Mo_townLine 72 rfl) rfl ?_
  refine fg_iconst (fg_ft (pc := 113) tb_Mo_townLine 73 rfl) ic_5 ?_
  refine fg_icmp_neN (tgt := 131) (fg_ft (pc := 114) tb_Mo_townLine 74 rfl) (by decide) (by decide) (by decide) (fun c114 => ?_) (fun c114 => (absurd c114 (by decide)))
  refine fg_iloadn (fg_ft (pc := 131) tb_Mo_townLine 83 rfl) rfl ?_
  refine fg_bipush (fg_ft (pc := 132) tb_Mo_townLine 84 rfl) ib_6 ?_
  refine fg_icmp_neN (tgt := 226) (fg_ft (pc := 134) tb_Mo_townLine 85 rfl) (by decide) (by decide) (by decide) (fun c134 => ?_) (fun c134 => (absurd c134 (by decide)))
  refine fg_iloadn (fg_ft (pc := 226) tb_Mo_townLine 144 rfl) rfl ?_
  refine fg_bipush (fg_ft (pc := 227) tb_Mo_townLine 145 rfl) ib_7 ?_
  refine fg_icmp_neN (tgt := 237) (fg_ft (pc := 229) tb_Mo_townLine 146 rfl) (by decide) (by decide) (by decide) (fun c229 => ?_) (fun c229 => (absurd c229 (by decide)))
  refine fg_iloadn (fg_ft (pc := 237) tb_Mo_townLine 150 rfl) rfl ?_
  refine fg_bipush (fg_ft (pc := 238) tb_Mo_townLine 151 rfl) ib_8 ?_
  refine fg_icmp_neN (tgt := 251) (fg_ft (pc := 240) tb_Mo_townLine 152 rfl) (by decide) (by decide) (by decide) (fun c240 => ?_) (fun c240 => (absurd c240 (by decide)))
  refine fg_iloadn (fg_ft (pc := 251) tb_Mo_townLine 158 rfl) rfl ?_
  refine fg_bipush (fg_ft (pc := 252) tb_Mo_townLine 159 rfl) ib_9 ?_
  refine fg_icmp_neN (tgt := 267) (fg_ft (pc := 254) tb_Mo_townLine 160 rfl) (by decide) (by decide) (by decide) (fun c254 => ?_) (fun c254 => (absurd c254 (by decide)))
  refine fg_iloadn (fg_ft (pc := 267) tb_Mo_townLine 166 rfl) rfl ?_
  refine fg_bipush (fg_ft (pc := 268) tb_Mo_townLine 167 rfl) ib_10 ?_
  refine fg_icmp_neN (tgt := 287) (fg_ft (pc := 270) tb_Mo_townLine 168 rfl) (by decide) (by decide) (by decide) (fun c270 => ?_) (fun c270 => (absurd c270 (by decide)))
  have hm : rz_RZ ν1 b len (rz_tw (pz_K b len) (pz_V b len) (pz_S b len) len (pz_S b len Z.1) t.2 0) := h1
  have agm : rz_ag μ ν1 := fun a j p q r => ag1 a j p q r
  refine fg_aloadn (fg_ft (pc := 287) tb_Mo_townLine 177 rfl) rfl ?_
  refine fg_callV (fg_ft (pc := 288) tb_Mo_townLine 178 rfl) cf_Mo_153 (fg_isOf ly_287 rfl (fg_lt ly_287 (by decide))) (as := []) (st := []) rfl rfl (Nat.le_of_ble_eq_true rfl) (Nat.le_refl _) (Nat.le_refl _) (ev_Mo_endsLine hle hb256 hm ?_)
  intro ν2 hg2 h2
  have ag2 := rz_ag_tr agm hg2
  show fg_wp _ _ _ _ _ _ _ _ _ (ν2, fg_rho R, 304)
  exact fg_vret (fg_ft (pc := 291) tb_Mo_townLine 179 rfl) rfl rfl (hQ _ ag2 h2)
theorem ev_Mo_townLine_1 {E : fg_E} {d : Nat} {μ : Nat → Nat → Int32} {R : fg_T4} {Q : Option Value → fg_M → Prop} {b : Nat → Nat} {len : Nat} {Z : rz_Z} (hle : len ≤ 600) (hb256 : ∀ j, b j < 256) (h : rz_RZ μ b len Z) (hcnt : ∀ k, 1 ≤ k → k ≤ 6 → Z.2.2.2.2 k ≤ 700) {t : Nat × rz_Z} (ht : rz_ta (pz_K b len) (pz_V b len) (pz_S b len) 1 10 Z = t) (hk : t.1 = 1) (hQ : ∀ μ' : Nat → Nat → Int32, rz_ag μ μ' → rz_RZ μ' b len (rz_el (pz_K b len) (pz_S b len) (rz_tw (pz_K b len) (pz_V b len) (pz_S b len) len (pz_S b len Z.1) t.2 1)) → Q none (μ', fg_rho R, 304)) : fg_Ev E yy_Mo_townLine (d + 9) [.ref 287] (μ, fg_rho R, 304) 304 Q := by
  refine fg_intro (by decide +kernel) (Nat.le_of_ble_eq_true rfl) (fg_okAs rfl) (Nat.le_refl _) ?_
  refine fg_aloadn (fg_ft (pc := 0) tb_Mo_townLine 0 rfl) rfl ?_
  refine fg_getV (v := (nI (pz_S b len Z.1))) (fg_ft (pc := 1) tb_Mo_townLine 1 rfl) ff_Mo_81 ly_287 rfl (fg_lt ly_287 (by decide)) h.2.1.2.1 ?_
  refine fg_istoren (fg_ft (pc := 4) tb_Mo_townLine 2 rfl) (Nat.le_of_ble_eq_true rfl) ?_
  refine fg_aloadn (fg_ft (pc := 5) tb_Mo_townLine 3 rfl) rfl ?_
  refine fg_iconst (fg_ft (pc := 6) tb_Mo_townLine 4 rfl) ic_1 ?_
  refine fg_bipush (fg_ft (pc := 7) tb_Mo_townLine 5 rfl) ib_10 ?_
  refine fg_callV (fg_ft (pc := 9) tb_Mo_townLine 6 rfl) cf_Mo_135 (fg_isOf ly_287 rfl (fg_lt ly_287 (by decide))) (as := [.int (nI 1), .int (nI 10)]) (st := []) rfl rfl (Nat.le_of_ble_eq_true rfl) (Nat.le_refl _) (Nat.le_refl _) (ev_Mo_takes (lo := 1) (hi := 10) hle hb256 h (by decide) (by decide) ?_)
  intro ν1 hg1 h1
  have ag1 := hg1
  rw [ht] at h1 ⊢
  show fg_wp _ _ _ _ _ _ _ _ _ (ν1, fg_rho R, 304)
  have hCt : t.2.2.2.2.2 = Z.2.2.2.2 := by rw [← ht, rz_ta_C]
  have hcn : ∀ i, 1 ≤ i → i ≤ 6 → t.2.2.2.2.2 i ≤ 700 := by rw [hCt]; exact hcnt
  refine fg_top (y := nI 1) (congrArg nI hk) ?_
  refine fg_istoren (fg_ft (pc := 12) tb_Mo_townLine 7 rfl) (Nat.le_of_ble_eq_true rfl) ?_
  refine fg_iloadn (fg_ft (pc := 13) tb_Mo_townLine 8 rfl) rfl ?_
  refine fg_iconst (fg_ft (pc := 14) tb_Mo_townLine 9 rfl) ic_1 ?_
  refine fg_icmp_neN (tgt := 31) (fg_ft (pc := 15) tb_Mo_townLine 10 rfl) (by decide) (by decide) (by decide) (fun c15 => (absurd c15 (by decide))) (fun c15 => ?_)
  refine fg_aloadn (fg_ft (pc := 18) tb_Mo_townLine 11 rfl) rfl ?_
  refine fg_getR (fg_ft (pc := 19) tb_Mo_townLine 12 rfl) ff_Mo_17 ly_287 rfl (fg_lt ly_287 (by decide)) (rh_287_10 R) ?_
  refine fg_iconst (fg_ft (pc := 22) tb_Mo_townLine 13 rfl) ic_0 ?_
  refine fg_aloadn (fg_ft (pc := 23) tb_Mo_townLine 14 rfl) rfl ?_
  refine fg_iconst (fg_ft (pc := 24) tb_Mo_townLine 15 rfl) ic_1 ?_
  refine fg_bipush (fg_ft (pc := 25) tb_Mo_townLine 16 rfl) ib_10 ?_
  refine fg_callV (fg_ft (pc := 27) tb_Mo_townLine 17 rfl) cf_Mo_121 (fg_isOf ly_287 rfl (fg_lt ly_287 (by decide))) (as := [.int (nI 1), .int (nI 10)]) (st := [.int (nI 0), .ref 290]) rfl rfl (Nat.le_of_ble_eq_true rfl) (Nat.le_refl _) (Nat.le_refl _) (ev_Mo_numbered (lo := 1) (hi := 10 + 1) hle hb256 h1 (rz_m (by decide) (by decide)) ?_)
  intro ν2 hg2 h2
  have ag2 := rz_ag_tr ag1 hg2
  obtain ⟨a, ha⟩ : ∃ x, (rz_nu (pz_K b len) (pz_V b len) (pz_S b len) 1 (10 + 1) t.2) = x := ⟨_, rfl⟩
  rw [ha] at h2 ⊢
  show fg_wp _ _ _ _ _ _ _ _ _ (ν2, fg_rho R, 304)
  refine fg_iastN (fg_ft (pc := 30) tb_Mo_townLine 18 rfl) ly_290 (fg_lt ly_290 (by decide)) (by omega) ?_
  show fg_wp _ _ _ _ _ _ _ _ _ (fg_u2 ν2 290 0 (nI (a.1)), fg_rho R, 304)
  have hm : rz_RZ (fg_u2 ν2 290 0 (nI (a.1))) b len (rz_tw (pz_K b len) (pz_V b len) (pz_S b len) len (pz_S b len Z.1) t.2 1) := by
    show rz_RZ _ b len (rz_ce 0 (rz_nu (pz_K b len) (pz_V b len) (pz_S b len) 1 (10 + 1) t.2))
    unfold rz_ce
    rw [ha]
    exact (h2).put
  have agm : rz_ag μ (fg_u2 ν2 290 0 (nI (a.1))) := fun a j p q r => (fg_u2ne r).trans (ag2 a j p q r)
  refine fg_iloadn (fg_ft (pc := 31) tb_Mo_townLine 19 rfl) rfl ?_
  refine fg_iconst (fg_ft (pc := 32) tb_Mo_townLine 20 rfl) ic_2 ?_
  refine fg_icmp_neN (tgt := 41) (fg_ft (pc := 33) tb_Mo_townLine 21 rfl) (by decide) (by decide) (by decide) (fun c33 => ?_) (fun c33 => (absurd c33 (by decide)))
  refine fg_iloadn (fg_ft (pc := 41) tb_Mo_townLine 25 rfl) rfl ?_
  refine fg_iconst (fg_ft (pc := 42) tb_Mo_townLine 26 rfl) ic_3 ?_
  refine fg_icmp_neN (tgt := 107) (fg_ft (pc := 43) tb_Mo_townLine 27 rfl) (by decide) (by decide) (by decide) (fun c43 => ?_) (fun c43 => (absurd c43 (by decide)))
  refine fg_iloadn (fg_ft (pc := 107) tb_Mo_townLine 69 rfl) rfl ?_
  refine fg_iconst (fg_ft (pc := 108) tb_Mo_townLine 70 rfl) ic_4 ?_
  refine fg_icmp_eqN (tgt := 117) (fg_ft (pc := 109) tb_Mo_townLine 71 rfl) (by decide) (by decide) (by decide) (fun c109 => (absurd c109 (by decide))) (fun c109 => ?_)
  refine fg_iloadn (fg_ft (pc := 112) tb_Mo_townLine 72 rfl) rfl ?_
  refine fg_iconst (fg_ft (pc := 113) tb_Mo_townLine 73 rfl) ic_5 ?_
  refine fg_icmp_neN (tgt := 131) (fg_ft (pc := 114) tb_Mo_townLine 74 rfl) (by decide) (by decide) (by decide) (fun c114 => ?_) (fun c114 => (absurd c114 (by decide)))
  refine fg_iloadn (fg_ft (pc := 131) tb_Mo_townLine 83 rfl) rfl ?_
  refine fg_bipush (fg_ft (pc := 132) tb_Mo_townLine 84 rfl) ib_6 ?_
  refine fg_icmp_neN (tgt := 226) (fg_ft (pc := 134) tb_Mo_townLine 85 rfl) (by decide) (by decide) (by decide) (fun c134 => ?_) (fun c134 => (absurd c134 (by decide)))
  refine fg_iloadn (fg_ft (pc := 226) tb_Mo_townLine 144 rfl) rfl ?_
  refine fg_bipush (fg_ft (pc := 227) tb_Mo_townLine 145 rfl) ib_7 ?_
  refine fg_icmp_neN (tgt := 237) (fg_ft (pc := 229) tb_Mo_townLine 146 rfl) (by decide) (by decide) (by decide) (fun c229 => ?_) (fun c229 => (absurd c229 (by decide)))
  refine fg_iloadn (fg_ft (pc := 237) tb_Mo_townLine 150 rfl) rfl ?_
  refine fg_bipush (fg_ft (pc := 238) tb_Mo_townLine 151 rfl) ib_8 ?_
  refine fg_icmp_neN (tgt := 251) (fg_ft (pc := 240) tb_Mo_townLine 152 rfl) (by decide) (by decide) (by decide) (fun c240 => ?_) (fun c240 => (absurd c240 (by decide)))
  refine fg_iloadn (fg_ft (pc := 251) tb_Mo_townLine 158 rfl) rfl ?_
  refine fg_bipush (fg_ft (pc := 252) tb_Mo_townLine 159 rfl) ib_9 ?_
  refine fg_icmp_neN (tgt := 267) (fg_ft (pc := 254) tb_Mo_townLine 160 rfl) (by decide) (by decide) (by decide) (fun c254 => ?_) (fun c254 => (absurd c254 (by decide)))
  refine fg_iloadn (fg_ft (pc := 267) tb_Mo_townLine 166 rfl) rfl ?_
  refine fg_bipush (fg_ft (pc := 268) tb_Mo_townLine 167 rfl) ib_10 ?_
  refine fg_icmp_neN (tgt := 287) (fg_ft (pc := 270) tb_Mo_townLine 168 rfl) (by decide) (by decide) (by decide) (fun c270 => ?_) (fun c270 => (absurd c270 (by decide)))
  refine fg_aloadn (fg_ft (pc := 287) tb_Mo_townLine 177 rfl) rfl ?_
  refine fg_callV (fg_ft (pc := 288) tb_Mo_townLine 178 rfl) cf_Mo_153 (fg_isOf ly_287 rfl (fg_lt ly_287 (by decide))) (as := []) (st := []) rfl rfl (Nat.le_of_ble_eq_true rfl) (Nat.le_refl _) (Nat.le_refl _) (ev_Mo_endsLine hle hb256 hm ?_)
  intro ν3 hg3 h3
  have ag3 := rz_ag_tr agm hg3
  show fg_wp _ _ _ _ _ _ _ _ _ (ν3, fg_rho R, 304)
  exact fg_vret (fg_ft (pc := 291) tb_Mo_townLine 179 rfl) rfl rfl (hQ _ ag3 h3)
theorem ev_Mo_townLine_2 {E : fg_E} {d : Nat} {μ : Nat → Nat → Int32} {R : fg_T4} {Q : Option Value → fg_M → Prop} {b : Nat → Nat} {len : Nat} {Z : rz_Z} (hle : len ≤ 600) (hb256 : ∀ j, b j < 256) (h : rz_RZ μ b len Z) (hcnt : ∀ k, 1 ≤ k → k ≤ 6 → Z.2.2.2.2 k ≤ 700) {t : Nat × rz_Z} (ht : rz_ta (pz_K b len) (pz_V b len) (pz_S b len) 1 10 Z = t) (hk : t.1 = 2) (hQ : ∀ μ' : Nat → Nat → Int32, rz_ag μ μ' → rz_RZ μ' b len (rz_el (pz_K b len) (pz_S b len) (rz_tw (pz_K b len) (pz_V b len) (pz_S b len) len (pz_S b len Z.1) t.2 2)) → Q none (μ', fg_rho R, 304)) : fg_Ev E yy_Mo_townLine (d + 9) [.ref 287] (μ, fg_rho R, 304) 304 Q := by
  refine fg_intro (by decide +kernel) (Nat.le_of_ble_eq_true rfl) (fg_okAs rfl) (Nat.le_refl _) ?_
  refine fg_aloadn (fg_ft (pc := 0) tb_Mo_townLine 0 rfl) rfl ?_
  refine fg_getV (v := (nI (pz_S b len Z.1))) (fg_ft (pc := 1) tb_Mo_townLine 1 rfl) ff_Mo_81 ly_287 rfl (fg_lt ly_287 (by decide)) h.2.1.2.1 ?_
  refine fg_istoren (fg_ft (pc := 4) tb_Mo_townLine 2 rfl) (Nat.le_of_ble_eq_true rfl) ?_
  refine fg_aloadn (fg_ft (pc := 5) tb_Mo_townLine 3 rfl) rfl ?_
  refine fg_iconst (fg_ft (pc := 6) tb_Mo_townLine 4 rfl) ic_1 ?_
  refine fg_bipush (fg_ft (pc := 7) tb_Mo_townLine 5 rfl) ib_10 ?_
  refine fg_callV (fg_ft (pc := 9) tb_Mo_townLine 6 rfl) cf_Mo_135 (fg_isOf ly_287 rfl (fg_lt ly_287 (by decide))) (as := [.int (nI 1), .int (nI 10)]) (st := []) rfl rfl (Nat.le_of_ble_eq_true rfl) (Nat.le_refl _) (Nat.le_refl _) (ev_Mo_takes (lo := 1) (hi := 10) hle hb256 h (by decide) (by decide) ?_)
  intro ν1 hg1 h1
  have ag1 := hg1
  rw [ht] at h1 ⊢
  show fg_wp _ _ _ _ _ _ _ _ _ (ν1, fg_rho R, 304)
  have hCt : t.2.2.2.2.2 = Z.2.2.2.2 := by rw [← ht, rz_ta_C]
  have hcn : ∀ i, 1 ≤ i → i ≤ 6 → t.2.2.2.2.2 i ≤ 700 := by rw [hCt]; exact hcnt
  refine fg_top (y := nI 2) (congrArg nI hk) ?_
  refine fg_istoren (fg_ft (pc := 12) tb_Mo_townLine 7 rfl) (Nat.le_of_ble_eq_true rfl) ?_
  refine fg_iloadn (fg_ft (pc := 13) tb_Mo_townLine 8 rfl) rfl ?_
  refine fg_iconst (fg_ft (pc := 14) tb_Mo_townLine 9 rfl) ic_1 ?_
  refine fg_icmp_neN (tgt := 31) (fg_ft (pc := 15) tb_Mo_townLine 10 rfl) (by decide) (by decide) (by decide) (fun c15 => ?_) (fun c15 => (absurd c15 (by decide)))
  refine fg_iloadn (fg_ft (pc := 31) tb_Mo_townLine 19 rfl) rfl ?_
  refine fg_iconst (fg_ft (pc := 32) tb_Mo_townLine 20 rfl) ic_2 ?_
  refine fg_icmp_neN (tgt := 41) (fg_ft (pc := 33) tb_Mo_townLine 21 rfl) (by decide) (by decide) (by decide) (fun c33 => (absurd c33 (by decide))) (fun c33 => ?_)
  refine fg_aloadn (fg_ft (pc := 36) tb_Mo_townLine 22 rfl) rfl ?_
  refine fg_iloadn (fg_ft (pc := 37) tb_Mo_townLine 23 rfl) rfl ?_
  refine fg_callV (fg_ft (pc := 38) tb_Mo_townLine 24 rfl) cf_Mo_138 (fg_isOf ly_287 rfl (fg_lt ly_287 (by decide))) (as := [.int (nI (pz_S b len Z.1))]) (st := []) rfl rfl (Nat.le_of_ble_eq_true rfl) (Nat.le_refl _) (Nat.le_refl _) (ev_Mo_ruleLine hle hb256 h1 (rz_S_le (j := Z.1) hle) hcn ?_)
  intro ν2 hg2 h2
  have ag2 := rz_ag_tr ag1 hg2
  show fg_wp _ _ _ _ _ _ _ _ _ (ν2, fg_rho R, 304)
  have hm : rz_RZ ν2 b len (rz_tw (pz_K b len) (pz_V b len) (pz_S b len) len (pz_S b len Z.1) t.2 2) := h2
  have agm : rz_ag μ ν2 := fun a j p q r => ag2 a j p q r
  refine fg_iloadn (fg_ft (pc := 41) tb_Mo_townLine 25 rfl) rfl ?_
  refine fg_iconst (fg_ft (pc := 42) tb_Mo_townLine 26 rfl) ic_3 ?_
  refine fg_icmp_neN (tgt := 107) (fg_ft (pc := 43) tb_Mo_townLine 27 rfl) (by decide) (by decide) (by decide) (fun c43 => ?_) (fun c43 => (absurd c43 (by decide)))
  refine fg_iloadn (fg_ft (pc := 107) tb_Mo_townLine 69 rfl) rfl ?_
  refine fg_iconst (fg_ft (pc := 108) tb_Mo_townLine 70 rfl) ic_4 ?_
  refine fg_icmp_eqN (tgt := 117) (fg_ft (pc := 109) tb_Mo_townLine 71 rfl) (by decide) (by decide) (by decide) (fun c109 => (absurd c109 (by decide))) (fun c109 => ?_)
  refine fg_iloadn (fg_ft (pc := 112) tb_Mo_townLine 72 rfl) rfl ?_
  refine fg_iconst (fg_ft (pc := 113) tb_Mo_townLine 73 rfl) ic_5 ?_
  refine fg_icmp_neN (tgt := 131) (fg_ft (pc := 114) tb_Mo_townLine 74 rfl) (by decide) (by decide) (by decide) (fun c114 => ?_) (fun c114 => (absurd c114 (by decide)))
  refine fg_iloadn (fg_ft (pc := 131) tb_Mo_townLine 83 rfl) rfl ?_
  refine fg_bipush (fg_ft (pc := 132) tb_Mo_townLine 84 rfl) ib_6 ?_
  refine fg_icmp_neN (tgt := 226) (fg_ft (pc := 134) tb_Mo_townLine 85 rfl) (by decide) (by decide) (by decide) (fun c134 => ?_) (fun c134 => (absurd c134 (by decide)))
  refine fg_iloadn (fg_ft (pc := 226) tb_Mo_townLine 144 rfl) rfl ?_
  refine fg_bipush (fg_ft (pc := 227) tb_Mo_townLine 145 rfl) ib_7 ?_
  refine fg_icmp_neN (tgt := 237) (fg_ft (pc := 229) tb_Mo_townLine 146 rfl) (by decide) (by decide) (by decide) (fun c229 => ?_) (fun c229 => (absurd c229 (by decide)))
  refine fg_iloadn (fg_ft (pc := 237) tb_Mo_townLine 150 rfl) rfl ?_
  refine fg_bipush (fg_ft (pc := 238) tb_Mo_townLine 151 rfl) ib_8 ?_
  refine fg_icmp_neN (tgt := 251) (fg_ft (pc := 240) tb_Mo_townLine 152 rfl) (by decide) (by decide) (by decide) (fun c240 => ?_) (fun c240 => (absurd c240 (by decide)))
  refine fg_iloadn (fg_ft (pc := 251) tb_Mo_townLine 158 rfl) rfl ?_
  refine fg_bipush (fg_ft (pc := 252) tb_Mo_townLine 159 rfl) ib_9 ?_
  refine fg_icmp_neN (tgt := 267) (fg_ft (pc := 254) tb_Mo_townLine 160 rfl) (by decide) (by decide) (by decide) (fun c254 => ?_) (fun c254 => (absurd c254 (by decide)))
  refine fg_iloadn (fg_ft (pc := 267) tb_Mo_townLine 166 rfl) rfl ?_
  refine fg_bipush (fg_ft (pc := 268) tb_Mo_townLine 167 rfl) ib_10 ?_
  refine fg_icmp_neN (tgt := 287) (fg_ft (pc := 270) tb_Mo_townLine 168 rfl) (by decide) (by decide) (by decide) (fun c270 => ?_) (fun c270 => (absurd c270 (by decide)))
  refine fg_aloadn (fg_ft (pc := 287) tb_Mo_townLine 177 rfl) rfl ?_
  refine fg_callV (fg_ft (pc := 288) tb_Mo_townLine 178 rfl) cf_Mo_153 (fg_isOf ly_287 rfl (fg_lt ly_287 (by decide))) (as := []) (st := []) rfl rfl (Nat.le_of_ble_eq_true rfl) (Nat.le_refl _) (Nat.le_refl _) (ev_Mo_endsLine hle hb256 hm ?_)
  intro ν3 hg3 h3
  have ag3 := rz_ag_tr agm hg3
  show fg_wp _ _ _ _ _ _ _ _ _ (ν3, fg_rho R, 304)
  exact fg_vret (fg_ft (pc := 291) tb_Mo_townLine 179 rfl) rfl rfl (hQ _ ag3 h3)
theorem ev_Mo_townLine_3 {E : fg_E} {d : Nat} {μ : Nat → Nat → Int32} {R : fg_T4} {Q : Option Value → fg_M → Prop} {b : Nat → Nat} {len : Nat} {Z : rz_Z} (hle : len ≤ 600) (hb256 : ∀ j, b j < 256) (h : rz_RZ μ b len Z) (hcnt : ∀ k, 1 ≤ k → k ≤ 6 → Z.2.2.2.2 k ≤ 700) {t : Nat × rz_Z} (ht : rz_ta (pz_K b len) (pz_V b len) (pz_S b len) 1 10 Z = t) (hk : t.1 = 3) (hQ : ∀ μ' : Nat → Nat → Int32, rz_ag μ μ' → rz_RZ μ' b len (rz_el (pz_K b len) (pz_S b len) (rz_tw (pz_K b len) (pz_V b len) (pz_S b len) len (pz_S b len Z.1) t.2 3)) → Q none (μ', fg_rho R, 304)) : fg_Ev E yy_Mo_townLine (d + 9) [.ref 287] (μ, fg_rho R, 304) 304 Q := by
  refine fg_intro (by decide +kernel) (Nat.le_of_ble_eq_true rfl) (fg_okAs rfl) (Nat.le_refl _) ?_
  refine fg_aloadn (fg_ft (pc := 0) tb_Mo_townLine 0 rfl) rfl ?_
  refine fg_getV (v := (nI (pz_S b len Z.1))) (fg_ft (pc := 1) tb_Mo_townLine 1 rfl) ff_Mo_81 ly_287 rfl (fg_lt ly_287 (by decide)) h.2.1.2.1 ?_
  refine fg_istoren (fg_ft (pc := 4) tb_Mo_townLine 2 rfl) (Nat.le_of_ble_eq_true rfl) ?_
  refine fg_aloadn (fg_ft (pc := 5) tb_Mo_townLine 3 rfl) rfl ?_
  refine fg_iconst (fg_ft (pc := 6) tb_Mo_townLine 4 rfl) ic_1 ?_
  refine fg_bipush (fg_ft (pc := 7) tb_Mo_townLine 5 rfl) ib_10 ?_
  refine fg_callV (fg_ft (pc := 9) tb_Mo_townLine 6 rfl) cf_Mo_135 (fg_isOf ly_287 rfl (fg_lt ly_287 (by decide))) (as := [.int (nI 1), .int (nI 10)]) (st := []) rfl rfl (Nat.le_of_ble_eq_true rfl) (Nat.le_refl _) (Nat.le_refl _) (ev_Mo_takes (lo := 1) (hi := 10) hle hb256 h (by decide) (by decide) ?_)
  intro ν1 hg1 h1
  have ag1 := hg1
  rw [ht] at h1 ⊢
  show fg_wp _ _ _ _ _ _ _ _ _ (ν1, fg_rho R, 304)
  have hCt : t.2.2.2.2.2 = Z.2.2.2.2 := by rw [← ht, rz_ta_C]
  have hcn : ∀ i, 1 ≤ i → i ≤ 6 → t.2.2.2.2.2 i ≤ 700 := by rw [hCt]; exact hcnt
  refine fg_top (y := nI 3) (congrArg nI hk) ?_
  refine fg_istoren (fg_ft (pc := 12) tb_Mo_townLine 7 rfl) (Nat.le_of_ble_eq_true rfl) ?_
  refine fg_iloadn (fg_ft (pc := 13) tb_Mo_townLine 8 rfl) rfl ?_
  refine fg_iconst (fg_ft (pc := 14) tb_Mo_townLine 9 rfl) ic_1 ?_
  refine fg_icmp_neN (tgt := 31) (fg_ft (pc := 15) tb_Mo_townLine 10 rfl) (by decide) (by decide) (by decide) (fun c15 => ?_) (fun c15 => (absurd c15 (by decide)))
  refine fg_iloadn (fg_ft (pc := 31) tb_Mo_townLine 19 rfl) rfl ?_
  refine fg_iconst (fg_ft (pc := 32) tb_Mo_townLine 20 rfl) ic_2 ?_
  refine fg_icmp_neN (tgt := 41) (fg_ft (pc := 33) tb_Mo_townLine 21 rfl) (by decide) (by decide) (by decide) (fun c33 => ?_) (fun c33 => (absurd c33 (by decide)))
  refine fg_iloadn (fg_ft (pc := 41) tb_Mo_townLine 25 rfl) rfl ?_
  refine fg_iconst (fg_ft (pc := 42) tb_Mo_townLine 26 rfl) ic_3 ?_
  refine fg_icmp_neN (tgt := 107) (fg_ft (pc := 43) tb_Mo_townLine 27 rfl) (by decide) (by decide) (by decide) (fun c43 => (absurd c43 (by decide))) (fun c43 => ?_)
  refine fg_aloadn (fg_ft (pc := 46) tb_Mo_townLine 28 rfl) rfl ?_
  refine fg_getR (fg_ft (pc := 47) tb_Mo_townLine 29 rfl) ff_Mo_17 ly_287 rfl (fg_lt ly_287 (by decide)) (rh_287_10 R) ?_
  refine fg_iconst (fg_ft (pc := 50) tb_Mo_townLine 30 rfl) ic_2 ?_
  have hb0 := hcn 2 (by decide) (by decide)
  refine fg_ialdV (v := (nI (t.2.2.2.2.2 2))) (fg_ft (pc := 51) tb_Mo_townLine 31 rfl) ly_290 (fg_lt ly_290 (by decide)) (by omega) (h1.2.2.2.2.2.2.1 2 (by omega)) ?_
  refine fg_iconst (fg_ft (pc := 52) tb_Mo_townLine 32 rfl) ic_5 ?_
  refine fg_icmp_ltN (tgt := 62) (fg_ft (pc := 53) tb_Mo_townLine 33 rfl) (by decide) (by omega) (by decide) (fun c53 => ?_) (fun c53 => ?_)
  · have hc : rz_RZ ν1 b len (rz_c3 2 5 (pz_S b len Z.1) t.2) := by
      unfold rz_c3
      rw [if_neg (by omega)]
      exact h1
    refine fg_aloadn (fg_ft (pc := 62) tb_Mo_townLine 38 rfl) rfl ?_
    refine fg_iconst (fg_ft (pc := 63) tb_Mo_townLine 39 rfl) ic_0 ?_
    refine fg_bipush (fg_ft (pc := 64) tb_Mo_townLine 40 rfl) ib_99 ?_
    refine fg_callV (fg_ft (pc := 66) tb_Mo_townLine 41 rfl) cf_Mo_121 (fg_isOf ly_287 rfl (fg_lt ly_287 (by decide))) (as := [.int (nI 0), .int (nI 99)]) (st := []) rfl rfl (Nat.le_of_ble_eq_true rfl) (Nat.le_refl _) (Nat.le_refl _) (ev_Mo_numbered (lo := 0) (hi := 99 + 1) hle hb256 hc (rz_m (by decide) (by decide)) ?_)
    intro ν2 hg2 h2
    have ag2 := rz_ag_tr ag1 hg2
    obtain ⟨a, ha⟩ : ∃ x, (rz_nu (pz_K b len) (pz_V b len) (pz_S b len) 0 (99 + 1) (rz_c3 2 5 (pz_S b len Z.1) t.2)) = x := ⟨_, rfl⟩
    rw [ha] at h2 ⊢
    show fg_wp _ _ _ _ _ _ _ _ _ (ν2, fg_rho R, 304)
    have hCa : a.2.2.2.2.2 = Z.2.2.2.2 := by rw [← ha, rz_nu_C, rz_c3_C, hCt]
    have hb1 : a.2.2.2.2.2 2 ≤ 700 := by rw [hCa]; exact hcnt 2 (by decide) (by decide)
    refine fg_istoren (fg_ft (pc := 69) tb_Mo_townLine 42 rfl) (Nat.le_of_ble_eq_true rfl) ?_
    refine fg_aloadn (fg_ft (pc := 70) tb_Mo_townLine 43 rfl) rfl ?_
    refine fg_getR (fg_ft (pc := 71) tb_Mo_townLine 44 rfl) ff_Mo_17 ly_287 rfl (fg_lt ly_287 (by decide)) (rh_287_10 R) ?_
    refine fg_iconst (fg_ft (pc := 74) tb_Mo_townLine 45 rfl) ic_2 ?_
    refine fg_ialdV (v := (nI (a.2.2.2.2.2 2))) (fg_ft (pc := 75) tb_Mo_townLine 46 rfl) ly_290 (fg_lt ly_290 (by decide)) (by omega) (h2.2.2.2.2.2.2.1 2 (by omega)) ?_
    refine fg_iconst (fg_ft (pc := 76) tb_Mo_townLine 47 rfl) ic_5 ?_
    refine fg_icmp_geN (tgt := 97) (fg_ft (pc := 77) tb_Mo_townLine 48 rfl) (by decide) (by omega) (by decide) (fun c77 => ?_) (fun c77 => ?_)
    · refine fg_aloadn (fg_ft (pc := 97) tb_Mo_townLine 61 rfl) rfl ?_
      refine fg_getR (fg_ft (pc := 98) tb_Mo_townLine 62 rfl) ff_Mo_17 ly_287 rfl (fg_lt ly_287 (by decide)) (rh_287_10 R) ?_
      refine fg_iconst (fg_ft (pc := 101) tb_Mo_townLine 63 rfl) ic_2 ?_
      refine fg_dup2 (fg_ft (pc := 102) tb_Mo_townLine 64 rfl) rfl rfl ?_
      refine fg_ialdV (v := (nI (a.2.2.2.2.2 2))) (fg_ft (pc := 103) tb_Mo_townLine 65 rfl) ly_290 (fg_lt ly_290 (by decide)) (by omega) (h2.2.2.2.2.2.2.1 2 (by omega)) ?_
      refine fg_iconst (fg_ft (pc := 104) tb_Mo_townLine 66 rfl) ic_1 ?_
      refine fg_iaddN (fg_ft (pc := 105) tb_Mo_townLine 67 rfl) ?_
      refine fg_iastN (fg_ft (pc := 106) tb_Mo_townLine 68 rfl) ly_290 (fg_lt ly_290 (by decide)) (by omega) ?_
      show fg_wp _ _ _ _ _ _ _ _ _ (fg_u2 ν2 290 2 (nI ((a.2.2.2.2.2 2) + 1)), fg_rho R, 304)
      have hm : rz_RZ (fg_u2 ν2 290 2 (nI ((a.2.2.2.2.2 2) + 1))) b len (rz_tw (pz_K b len) (pz_V b len) (pz_S b len) len (pz_S b len Z.1) t.2 3) := by
        show rz_RZ _ b len (rz_on (pz_K b len) (pz_V b len) (pz_S b len) (pz_S b len Z.1) t.2)
        unfold rz_on rz_p1
        have ha2 : rz_nu (pz_K b len) (pz_V b len) (pz_S b len) 0 100 (rz_c3 2 5 (pz_S b len Z.1) t.2) = a := ha
        rw [ha2, if_neg (by omega)]
        exact (h2).put
      have agm : rz_ag μ (fg_u2 ν2 290 2 (nI ((a.2.2.2.2.2 2) + 1))) := fun a j p q r => (fg_u2ne r).trans (ag2 a j p q r)
      refine fg_iloadn (fg_ft (pc := 107) tb_Mo_townLine 69 rfl) rfl ?_
      refine fg_iconst (fg_ft (pc := 108) tb_Mo_townLine 70 rfl) ic_4 ?_
      refine fg_icmp_eqN (tgt := 117) (fg_ft (pc := 109) tb_Mo_townLine 71 rfl) (by decide) (by decide) (by decide) (fun c109 => (absurd c109 (by decide))) (fun c109 => ?_)
      refine fg_iloadn (fg_ft (pc := 112) tb_Mo_townLine 72 rfl) rfl ?_
      refine fg_iconst (fg_ft (pc := 113) tb_Mo_townLine 73 rfl) ic_5 ?_
      refine fg_icmp_neN (tgt := 131) (fg_ft (pc := 114) tb_Mo_townLine 74 rfl) (by decide) (by decide) (by decide) (fun c114 => ?_) (fun c114 => (absurd c114 (by decide)))
      refine fg_iloadn (fg_ft (pc := 131) tb_Mo_townLine 83 rfl) rfl ?_
      refine fg_bipush (fg_ft (pc := 132) tb_Mo_townLine 84 rfl) ib_6 ?_
      refine fg_icmp_neN (tgt := 226) (fg_ft (pc := 134) tb_Mo_townLine 85 rfl) (by decide) (by decide) (by decide) (fun c134 => ?_) (fun c134 => (absurd c134 (by decide)))
      refine fg_iloadn (fg_ft (pc := 226) tb_Mo_townLine 144 rfl) rfl ?_
      refine fg_bipush (fg_ft (pc := 227) tb_Mo_townLine 145 rfl) ib_7 ?_
      refine fg_icmp_neN (tgt := 237) (fg_ft (pc := 229) tb_Mo_townLine 146 rfl) (by decide) (by decide) (by decide) (fun c229 => ?_) (fun c229 => (absurd c229 (by decide)))
      refine fg_iloadn (fg_ft (pc := 237) tb_Mo_townLine 150 rfl) rfl ?_
      refine fg_bipush (fg_ft (pc := 238) tb_Mo_townLine 151 rfl) ib_8 ?_
      refine fg_icmp_neN (tgt := 251) (fg_ft (pc := 240) tb_Mo_townLine 152 rfl) (by decide) (by decide) (by decide) (fun c240 => ?_) (fun c240 => (absurd c240 (by decide)))
      refine fg_iloadn (fg_ft (pc := 251) tb_Mo_townLine 158 rfl) rfl ?_
      refine fg_bipush (fg_ft (pc := 252) tb_Mo_townLine 159 rfl) ib_9 ?_
      refine fg_icmp_neN (tgt := 267) (fg_ft (pc := 254) tb_Mo_townLine 160 rfl) (by decide) (by decide) (by decide) (fun c254 => ?_) (fun c254 => (absurd c254 (by decide)))
      refine fg_iloadn (fg_ft (pc := 267) tb_Mo_townLine 166 rfl) rfl ?_
      refine fg_bipush (fg_ft (pc := 268) tb_Mo_townLine 167 rfl) ib_10 ?_
      refine fg_icmp_neN (tgt := 287) (fg_ft (pc := 270) tb_Mo_townLine 168 rfl) (by decide) (by decide) (by decide) (fun c270 => ?_) (fun c270 => (absurd c270 (by decide)))
      refine fg_aloadn (fg_ft (pc := 287) tb_Mo_townLine 177 rfl) rfl ?_
      refine fg_callV (fg_ft (pc := 288) tb_Mo_townLine 178 rfl) cf_Mo_153 (fg_isOf ly_287 rfl (fg_lt ly_287 (by decide))) (as := []) (st := []) rfl rfl (Nat.le_of_ble_eq_true rfl) (Nat.le_refl _) (Nat.le_refl _) (ev_Mo_endsLine hle hb256 hm ?_)
      intro ν3 hg3 h3
      have ag3 := rz_ag_tr agm hg3
      show fg_wp _ _ _ _ _ _ _ _ _ (ν3, fg_rho R, 304)
      exact fg_vret (fg_ft (pc := 291) tb_Mo_townLine 179 rfl) rfl rfl (hQ _ ag3 h3)
    · refine fg_aloadn (fg_ft (pc := 80) tb_Mo_townLine 49 rfl) rfl ?_
      refine fg_getR (fg_ft (pc := 81) tb_Mo_townLine 50 rfl) ff_Mo_17 ly_287 rfl (fg_lt ly_287 (by decide)) (rh_287_10 R) ?_
      refine fg_bipush (fg_ft (pc := 84) tb_Mo_townLine 51 rfl) ib_40 ?_
      refine fg_iconst (fg_ft (pc := 86) tb_Mo_townLine 52 rfl) ic_3 ?_
      refine fg_aloadn (fg_ft (pc := 87) tb_Mo_townLine 53 rfl) rfl ?_
      refine fg_getR (fg_ft (pc := 88) tb_Mo_townLine 54 rfl) ff_Mo_17 ly_287 rfl (fg_lt ly_287 (by decide)) (rh_287_10 R) ?_
      refine fg_iconst (fg_ft (pc := 91) tb_Mo_townLine 55 rfl) ic_2 ?_
      refine fg_ialdV (v := (nI (a.2.2.2.2.2 2))) (fg_ft (pc := 92) tb_Mo_townLine 56 rfl) ly_290 (fg_lt ly_290 (by decide)) (by omega) (h2.2.2.2.2.2.2.1 2 (by omega)) ?_
      refine fg_imulN (fg_ft (pc := 93) tb_Mo_townLine 57 rfl) ?_
      refine fg_iaddN (fg_ft (pc := 94) tb_Mo_townLine 58 rfl) ?_
      refine fg_iloadn (fg_ft (pc := 95) tb_Mo_townLine 59 rfl) rfl ?_
      refine fg_iastN (fg_ft (pc := 96) tb_Mo_townLine 60 rfl) ly_290 (fg_lt ly_290 (by decide)) (by omega) ?_
      show fg_wp _ _ _ _ _ _ _ _ _ (fg_u2 ν2 290 (40 + (3 * (a.2.2.2.2.2 2))) (nI (a.1)), fg_rho R, 304)
      refine fg_aloadn (fg_ft (pc := 97) tb_Mo_townLine 61 rfl) rfl ?_
      refine fg_getR (fg_ft (pc := 98) tb_Mo_townLine 62 rfl) ff_Mo_17 ly_287 rfl (fg_lt ly_287 (by decide)) (rh_287_10 R) ?_
      refine fg_iconst (fg_ft (pc := 101) tb_Mo_townLine 63 rfl) ic_2 ?_
      refine fg_dup2 (fg_ft (pc := 102) tb_Mo_townLine 64 rfl) rfl rfl ?_
      refine fg_ialdV (v := (nI (a.2.2.2.2.2 2))) (fg_ft (pc := 103) tb_Mo_townLine 65 rfl) ly_290 (fg_lt ly_290 (by decide)) (by omega) ((fg_u2ns (f := ν2) (a := 290) (k := (40 + (3 * (a.2.2.2.2.2 2)))) (b := 290) (j := 2) (x := (nI (a.1))) (by omega)).trans (h2.2.2.2.2.2.2.1 2 (by omega))) ?_
      refine fg_iconst (fg_ft (pc := 104) tb_Mo_townLine 66 rfl) ic_1 ?_
      refine fg_iaddN (fg_ft (pc := 105) tb_Mo_townLine 67 rfl) ?_
      refine fg_iastN (fg_ft (pc := 106) tb_Mo_townLine 68 rfl) ly_290 (fg_lt ly_290 (by decide)) (by omega) ?_
      show fg_wp _ _ _ _ _ _ _ _ _ (fg_u2 (fg_u2 ν2 290 (40 + (3 * (a.2.2.2.2.2 2))) (nI (a.1))) 290 2 (nI ((a.2.2.2.2.2 2) + 1)), fg_rho R, 304)
      have hm : rz_RZ (fg_u2 (fg_u2 ν2 290 (40 + (3 * (a.2.2.2.2.2 2))) (nI (a.1))) 290 2 (nI ((a.2.2.2.2.2 2) + 1))) b len (rz_tw (pz_K b len) (pz_V b len) (pz_S b len) len (pz_S b len Z.1) t.2 3) := by
        show rz_RZ _ b len (rz_on (pz_K b len) (pz_V b len) (pz_S b len) (pz_S b len Z.1) t.2)
        unfold rz_on rz_p1
        have ha2 : rz_nu (pz_K b len) (pz_V b len) (pz_S b len) 0 100 (rz_c3 2 5 (pz_S b len Z.1) t.2) = a := ha
        rw [ha2, if_pos (by omega)]
        exact ((h2).put).put
      have agm : rz_ag μ (fg_u2 (fg_u2 ν2 290 (40 + (3 * (a.2.2.2.2.2 2))) (nI (a.1))) 290 2 (nI ((a.2.2.2.2.2 2) + 1))) := fun a j p q r => (fg_u2ne r).trans ((fg_u2ne r).trans (ag2 a j p q r))
      refine fg_iloadn (fg_ft (pc := 107) tb_Mo_townLine 69 rfl) rfl ?_
      refine fg_iconst (fg_ft (pc := 108) tb_Mo_townLine 70 rfl) ic_4 ?_
      refine fg_icmp_eqN (tgt := 117) (fg_ft (pc := 109) tb_Mo_townLine 71 rfl) (by decide) (by decide) (by decide) (fun c109 => (absurd c109 (by decide))) (fun c109 => ?_)
      refine fg_iloadn (fg_ft (pc := 112) tb_Mo_townLine 72 rfl) rfl ?_
      refine fg_iconst (fg_ft (pc := 113) tb_Mo_townLine 73 rfl) ic_5 ?_
      refine fg_icmp_neN (tgt := 131) (fg_ft (pc := 114) tb_Mo_townLine 74 rfl) (by decide) (by decide) (by decide) (fun c114 => ?_) (fun c114 => (absurd c114 (by decide)))
      refine fg_iloadn (fg_ft (pc := 131) tb_Mo_townLine 83 rfl) rfl ?_
      refine fg_bipush (fg_ft (pc := 132) tb_Mo_townLine 84 rfl) ib_6 ?_
      refine fg_icmp_neN (tgt := 226) (fg_ft (pc := 134) tb_Mo_townLine 85 rfl) (by decide) (by decide) (by decide) (fun c134 => ?_) (fun c134 => (absurd c134 (by decide)))
      refine fg_iloadn (fg_ft (pc := 226) tb_Mo_townLine 144 rfl) rfl ?_
      refine fg_bipush (fg_ft (pc := 227) tb_Mo_townLine 145 rfl) ib_7 ?_
      refine fg_icmp_neN (tgt := 237) (fg_ft (pc := 229) tb_Mo_townLine 146 rfl) (by decide) (by decide) (by decide) (fun c229 => ?_) (fun c229 => (absurd c229 (by decide)))
      refine fg_iloadn (fg_ft (pc := 237) tb_Mo_townLine 150 rfl) rfl ?_
      refine fg_bipush (fg_ft (pc := 238) tb_Mo_townLine 151 rfl) ib_8 ?_
      refine fg_icmp_neN (tgt := 251) (fg_ft (pc := 240) tb_Mo_townLine 152 rfl) (by decide) (by decide) (by decide) (fun c240 => ?_) (fun c240 => (absurd c240 (by decide)))
      refine fg_iloadn (fg_ft (pc := 251) tb_Mo_townLine 158 rfl) rfl ?_
      refine fg_bipush (fg_ft (pc := 252) tb_Mo_townLine 159 rfl) ib_9 ?_
      refine fg_icmp_neN (tgt := 267) (fg_ft (pc := 254) tb_Mo_townLine 160 rfl) (by decide) (by decide) (by decide) (fun c254 => ?_) (fun c254 => (absurd c254 (by decide)))
      refine fg_iloadn (fg_ft (pc := 267) tb_Mo_townLine 166 rfl) rfl ?_
      refine fg_bipush (fg_ft (pc := 268) tb_Mo_townLine 167 rfl) ib_10 ?_
      refine fg_icmp_neN (tgt := 287) (fg_ft (pc := 270) tb_Mo_townLine 168 rfl) (by decide) (by decide) (by decide) (fun c270 => ?_) (fun c270 => (absurd c270 (by decide)))
      refine fg_aloadn (fg_ft (pc := 287) tb_Mo_townLine 177 rfl) rfl ?_
      refine fg_callV (fg_ft (pc := 288) tb_Mo_townLine 178 rfl) cf_Mo_153 (fg_isOf ly_287 rfl (fg_lt ly_287 (by decide))) (as := []) (st := []) rfl rfl (Nat.le_of_ble_eq_true rfl) (Nat.le_refl _) (Nat.le_refl _) (ev_Mo_endsLine hle hb256 hm ?_)
      intro ν4 hg4 h4
      have ag4 := rz_ag_tr agm hg4
      show fg_wp _ _ _ _ _ _ _ _ _ (ν4, fg_rho R, 304)
      exact fg_vret (fg_ft (pc := 291) tb_Mo_townLine 179 rfl) rfl rfl (hQ _ ag4 h4)
  · refine fg_aloadn (fg_ft (pc := 56) tb_Mo_townLine 34 rfl) rfl ?_
    refine fg_iconst (fg_ft (pc := 57) tb_Mo_townLine 35 rfl) ic_3 ?_
    refine fg_iloadn (fg_ft (pc := 58) tb_Mo_townLine 36 rfl) rfl ?_
    refine fg_callV (fg_ft (pc := 59) tb_Mo_townLine 37 rfl) cf_Mo_114 (fg_isOf ly_287 rfl (fg_lt ly_287 (by decide))) (as := [.int (nI 3), .int (nI (pz_S b len Z.1))]) (st := []) rfl rfl (Nat.le_of_ble_eq_true rfl) (Nat.le_refl _) (Nat.le_refl _) (ev_Mo_also (kd := 3) (at9 := (pz_S b len Z.1)) hle hb256 h1 (by decide) (by decide) (by decide) (rz_S_le hle) ?_)
    intro ν5 hg5 h5
    have ag5 := rz_ag_tr ag1 hg5
    show fg_wp _ _ _ _ _ _ _ _ _ (ν5, fg_rho R, 304)
    have hc : rz_RZ ν5 b len (rz_c3 2 5 (pz_S b len Z.1) t.2) := by
      unfold rz_c3
      rw [if_pos (by omega)]
      exact h5
    refine fg_aloadn (fg_ft (pc := 62) tb_Mo_townLine 38 rfl) rfl ?_
    refine fg_iconst (fg_ft (pc := 63) tb_Mo_townLine 39 rfl) ic_0 ?_
    refine fg_bipush (fg_ft (pc := 64) tb_Mo_townLine 40 rfl) ib_99 ?_
    refine fg_callV (fg_ft (pc := 66) tb_Mo_townLine 41 rfl) cf_Mo_121 (fg_isOf ly_287 rfl (fg_lt ly_287 (by decide))) (as := [.int (nI 0), .int (nI 99)]) (st := []) rfl rfl (Nat.le_of_ble_eq_true rfl) (Nat.le_refl _) (Nat.le_refl _) (ev_Mo_numbered (lo := 0) (hi := 99 + 1) hle hb256 hc (rz_m (by decide) (by decide)) ?_)
    intro ν6 hg6 h6
    have ag6 := rz_ag_tr ag5 hg6
    obtain ⟨a, ha⟩ : ∃ x, (rz_nu (pz_K b len) (pz_V b len) (pz_S b len) 0 (99 + 1) (rz_c3 2 5 (pz_S b len Z.1) t.2)) = x := ⟨_, rfl⟩
    rw [ha] at h6 ⊢
    show fg_wp _ _ _ _ _ _ _ _ _ (ν6, fg_rho R, 304)
    have hCa : a.2.2.2.2.2 = Z.2.2.2.2 := by rw [← ha, rz_nu_C, rz_c3_C, hCt]
    have hb1 : a.2.2.2.2.2 2 ≤ 700 := by rw [hCa]; exact hcnt 2 (by decide) (by decide)
    refine fg_istoren (fg_ft (pc := 69) tb_Mo_townLine 42 rfl) (Nat.le_of_ble_eq_true rfl) ?_
    refine fg_aloadn (fg_ft (pc := 70) tb_Mo_townLine 43 rfl) rfl ?_
    refine fg_getR (fg_ft (pc := 71) tb_Mo_townLine 44 rfl) ff_Mo_17 ly_287 rfl (fg_lt ly_287 (by decide)) (rh_287_10 R) ?_
    refine fg_iconst (fg_ft (pc := 74) tb_Mo_townLine 45 rfl) ic_2 ?_
    refine fg_ialdV (v := (nI (a.2.2.2.2.2 2))) (fg_ft (pc := 75) tb_Mo_townLine 46 rfl) ly_290 (fg_lt ly_290 (by decide)) (by omega) (h6.2.2.2.2.2.2.1 2 (by omega)) ?_
    refine fg_iconst (fg_ft (pc := 76) tb_Mo_townLine 47 rfl) ic_5 ?_
    refine fg_icmp_geN (tgt := 97) (fg_ft (pc := 77) tb_Mo_townLine 48 rfl) (by decide) (by omega) (by decide) (fun c77 => ?_) (fun c77 => ?_)
    · refine fg_aloadn (fg_ft (pc := 97) tb_Mo_townLine 61 rfl) rfl ?_
      refine fg_getR (fg_ft (pc := 98) tb_Mo_townLine 62 rfl) ff_Mo_17 ly_287 rfl (fg_lt ly_287 (by decide)) (rh_287_10 R) ?_
      refine fg_iconst (fg_ft (pc := 101) tb_Mo_townLine 63 rfl) ic_2 ?_
      refine fg_dup2 (fg_ft (pc := 102) tb_Mo_townLine 64 rfl) rfl rfl ?_
      refine fg_ialdV (v := (nI (a.2.2.2.2.2 2))) (fg_ft (pc := 103) tb_Mo_townLine 65 rfl) ly_290 (fg_lt ly_290 (by decide)) (by omega) (h6.2.2.2.2.2.2.1 2 (by omega)) ?_
      refine fg_iconst (fg_ft (pc := 104) tb_Mo_townLine 66 rfl) ic_1 ?_
      refine fg_iaddN (fg_ft (pc := 105) tb_Mo_townLine 67 rfl) ?_
      refine fg_iastN (fg_ft (pc := 106) tb_Mo_townLine 68 rfl) ly_290 (fg_lt ly_290 (by decide)) (by omega) ?_
      show fg_wp _ _ _ _ _ _ _ _ _ (fg_u2 ν6 290 2 (nI ((a.2.2.2.2.2 2) + 1)), fg_rho R, 304)
      have hm : rz_RZ (fg_u2 ν6 290 2 (nI ((a.2.2.2.2.2 2) + 1))) b len (rz_tw (pz_K b len) (pz_V b len) (pz_S b len) len (pz_S b len Z.1) t.2 3) := by
        show rz_RZ _ b len (rz_on (pz_K b len) (pz_V b len) (pz_S b len) (pz_S b len Z.1) t.2)
        unfold rz_on rz_p1
        have ha2 : rz_nu (pz_K b len) (pz_V b len) (pz_S b len) 0 100 (rz_c3 2 5 (pz_S b len Z.1) t.2) = a := ha
        rw [ha2, if_neg (by omega)]
        exact (h6).put
      have agm : rz_ag μ (fg_u2 ν6 290 2 (nI ((a.2.2.2.2.2 2) + 1))) := fun a j p q r => (fg_u2ne r).trans (ag6 a j p q r)
      refine fg_iloadn (fg_ft (pc := 107) tb_Mo_townLine 69 rfl) rfl ?_
      refine fg_iconst (fg_ft (pc := 108) tb_Mo_townLine 70 rfl) ic_4 ?_
      refine fg_icmp_eqN (tgt := 117) (fg_ft (pc := 109) tb_Mo_townLine 71 rfl) (by decide) (by decide) (by decide) (fun c109 => (absurd c109 (by decide))) (fun c109 => ?_)
      refine fg_iloadn (fg_ft (pc := 112) tb_Mo_townLine 72 rfl) rfl ?_
      refine fg_iconst (fg_ft (pc := 113) tb_Mo_townLine 73 rfl) ic_5 ?_
      refine fg_icmp_neN (tgt := 131) (fg_ft (pc := 114) tb_Mo_townLine 74 rfl) (by decide) (by decide) (by decide) (fun c114 => ?_) (fun c114 => (absurd c114 (by decide)))
      refine fg_iloadn (fg_ft (pc := 131) tb_Mo_townLine 83 rfl) rfl ?_
      refine fg_bipush (fg_ft (pc := 132) tb_Mo_townLine 84 rfl) ib_6 ?_
      refine fg_icmp_neN (tgt := 226) (fg_ft (pc := 134) tb_Mo_townLine 85 rfl) (by decide) (by decide) (by decide) (fun c134 => ?_) (fun c134 => (absurd c134 (by decide)))
      refine fg_iloadn (fg_ft (pc := 226) tb_Mo_townLine 144 rfl) rfl ?_
      refine fg_bipush (fg_ft (pc := 227) tb_Mo_townLine 145 rfl) ib_7 ?_
      refine fg_icmp_neN (tgt := 237) (fg_ft (pc := 229) tb_Mo_townLine 146 rfl) (by decide) (by decide) (by decide) (fun c229 => ?_) (fun c229 => (absurd c229 (by decide)))
      refine fg_iloadn (fg_ft (pc := 237) tb_Mo_townLine 150 rfl) rfl ?_
      refine fg_bipush (fg_ft (pc := 238) tb_Mo_townLine 151 rfl) ib_8 ?_
      refine fg_icmp_neN (tgt := 251) (fg_ft (pc := 240) tb_Mo_townLine 152 rfl) (by decide) (by decide) (by decide) (fun c240 => ?_) (fun c240 => (absurd c240 (by decide)))
      refine fg_iloadn (fg_ft (pc := 251) tb_Mo_townLine 158 rfl) rfl ?_
      refine fg_bipush (fg_ft (pc := 252) tb_Mo_townLine 159 rfl) ib_9 ?_
      refine fg_icmp_neN (tgt := 267) (fg_ft (pc := 254) tb_Mo_townLine 160 rfl) (by decide) (by decide) (by decide) (fun c254 => ?_) (fun c254 => (absurd c254 (by decide)))
      refine fg_iloadn (fg_ft (pc := 267) tb_Mo_townLine 166 rfl) rfl ?_
      refine fg_bipush (fg_ft (pc := 268) tb_Mo_townLine 167 rfl) ib_10 ?_
      refine fg_icmp_neN (tgt := 287) (fg_ft (pc := 270) tb_Mo_townLine 168 rfl) (by decide) (by decide) (by decide) (fun c270 => ?_) (fun c270 => (absurd c270 (by decide)))
      refine fg_aloadn (fg_ft (pc := 287) tb_Mo_townLine 177 rfl) rfl ?_
      refine fg_callV (fg_ft (pc := 288) tb_Mo_townLine 178 rfl) cf_Mo_153 (fg_isOf ly_287 rfl (fg_lt ly_287 (by decide))) (as := []) (st := []) rfl rfl (Nat.le_of_ble_eq_true rfl) (Nat.le_refl _) (Nat.le_refl _) (ev_Mo_endsLine hle hb256 hm ?_)
      intro ν7 hg7 h7
      have ag7 := rz_ag_tr agm hg7
      show fg_wp _ _ _ _ _ _ _ _ _ (ν7, fg_rho R, 304)
      exact fg_vret (fg_ft (pc := 291) tb_Mo_townLine 179 rfl) rfl rfl (hQ _ ag7 h7)
    · refine fg_aloadn (fg_ft (pc := 80) tb_Mo_townLine 49 rfl) rfl ?_
      refine fg_getR (fg_ft (pc := 81) tb_Mo_townLine 50 rfl) ff_Mo_17 ly_287 rfl (fg_lt ly_287 (by decide)) (rh_287_10 R) ?_
      refine fg_bipush (fg_ft (pc := 84) tb_Mo_townLine 51 rfl) ib_40 ?_
      refine fg_iconst (fg_ft (pc := 86) tb_Mo_townLine 52 rfl) ic_3 ?_
      refine fg_aloadn (fg_ft (pc := 87) tb_Mo_townLine 53 rfl) rfl ?_
      refine fg_getR (fg_ft (pc := 88) tb_Mo_townLine 54 rfl) ff_Mo_17 ly_287 rfl (fg_lt ly_287 (by decide)) (rh_287_10 R) ?_
      refine fg_iconst (fg_ft (pc := 91) tb_Mo_townLine 55 rfl) ic_2 ?_
      refine fg_ialdV (v := (nI (a.2.2.2.2.2 2))) (fg_ft (pc := 92) tb_Mo_townLine 56 rfl) ly_290 (fg_lt ly_290 (by decide)) (by omega) (h6.2.2.2.2.2.2.1 2 (by omega)) ?_
      refine fg_imulN (fg_ft (pc := 93) tb_Mo_townLine 57 rfl) ?_
      refine fg_iaddN (fg_ft (pc := 94) tb_Mo_townLine 58 rfl) ?_
      refine fg_iloadn (fg_ft (pc := 95) tb_Mo_townLine 59 rfl) rfl ?_
      refine fg_iastN (fg_ft (pc := 96) tb_Mo_townLine 60 rfl) ly_290 (fg_lt ly_290 (by decide)) (by omega) ?_
      show fg_wp _ _ _ _ _ _ _ _ _ (fg_u2 ν6 290 (40 + (3 * (a.2.2.2.2.2 2))) (nI (a.1)), fg_rho R, 304)
      refine fg_aloadn (fg_ft (pc := 97) tb_Mo_townLine 61 rfl) rfl ?_
      refine fg_getR (fg_ft (pc := 98) tb_Mo_townLine 62 rfl) ff_Mo_17 ly_287 rfl (fg_lt ly_287 (by decide)) (rh_287_10 R) ?_
      refine fg_iconst (fg_ft (pc := 101) tb_Mo_townLine 63 rfl) ic_2 ?_
      refine fg_dup2 (fg_ft (pc := 102) tb_Mo_townLine 64 rfl) rfl rfl ?_
      refine fg_ialdV (v := (nI (a.2.2.2.2.2 2))) (fg_ft (pc := 103) tb_Mo_townLine 65 rfl) ly_290 (fg_lt ly_290 (by decide)) (by omega) ((fg_u2ns (f := ν6) (a := 290) (k := (40 + (3 * (a.2.2.2.2.2 2)))) (b := 290) (j := 2) (x := (nI (a.1))) (by omega)).trans (h6.2.2.2.2.2.2.1 2 (by omega))) ?_
      refine fg_iconst (fg_ft (pc := 104) tb_Mo_townLine 66 rfl) ic_1 ?_
      refine fg_iaddN (fg_ft (pc := 105) tb_Mo_townLine 67 rfl) ?_
      refine fg_iastN (fg_ft (pc := 106) tb_Mo_townLine 68 rfl) ly_290 (fg_lt ly_290 (by decide)) (by omega) ?_
      show fg_wp _ _ _ _ _ _ _ _ _ (fg_u2 (fg_u2 ν6 290 (40 + (3 * (a.2.2.2.2.2 2))) (nI (a.1))) 290 2 (nI ((a.2.2.2.2.2 2) + 1)), fg_rho R, 304)
      have hm : rz_RZ (fg_u2 (fg_u2 ν6 290 (40 + (3 * (a.2.2.2.2.2 2))) (nI (a.1))) 290 2 (nI ((a.2.2.2.2.2 2) + 1))) b len (rz_tw (pz_K b len) (pz_V b len) (pz_S b len) len (pz_S b len Z.1) t.2 3) := by
        show rz_RZ _ b len (rz_on (pz_K b len) (pz_V b len) (pz_S b len) (pz_S b len Z.1) t.2)
        unfold rz_on rz_p1
        have ha2 : rz_nu (pz_K b len) (pz_V b len) (pz_S b len) 0 100 (rz_c3 2 5 (pz_S b len Z.1) t.2) = a := ha
        rw [ha2, if_pos (by omega)]
        exact ((h6).put).put
      have agm : rz_ag μ (fg_u2 (fg_u2 ν6 290 (40 + (3 * (a.2.2.2.2.2 2))) (nI (a.1))) 290 2 (nI ((a.2.2.2.2.2 2) + 1))) := fun a j p q r => (fg_u2ne r).trans ((fg_u2ne r).trans (ag6 a j p q r))
      refine fg_iloadn (fg_ft (pc := 107) tb_Mo_townLine 69 rfl) rfl ?_
      refine fg_iconst (fg_ft (pc := 108) tb_Mo_townLine 70 rfl) ic_4 ?_
      refine fg_icmp_eqN (tgt := 117) (fg_ft (pc := 109) tb_Mo_townLine 71 rfl) (by decide) (by decide) (by decide) (fun c109 => (absurd c109 (by decide))) (fun c109 => ?_)
      refine fg_iloadn (fg_ft (pc := 112) tb_Mo_townLine 72 rfl) rfl ?_
      refine fg_iconst (fg_ft (pc := 113) tb_Mo_townLine 73 rfl) ic_5 ?_
      refine fg_icmp_neN (tgt := 131) (fg_ft (pc := 114) tb_Mo_townLine 74 rfl) (by decide) (by decide) (by decide) (fun c114 => ?_) (fun c114 => (absurd c114 (by decide)))
      refine fg_iloadn (fg_ft (pc := 131) tb_Mo_townLine 83 rfl) rfl ?_
      refine fg_bipush (fg_ft (pc := 132) tb_Mo_townLine 84 rfl) ib_6 ?_
      refine fg_icmp_neN (tgt := 226) (fg_ft (pc := 134) tb_Mo_townLine 85 rfl) (by decide) (by decide) (by decide) (fun c134 => ?_) (fun c134 => (absurd c134 (by decide)))
      refine fg_iloadn (fg_ft (pc := 226) tb_Mo_townLine 144 rfl) rfl ?_
      refine fg_bipush (fg_ft (pc := 227) tb_Mo_townLine 145 rfl) ib_7 ?_
      refine fg_icmp_neN (tgt := 237) (fg_ft (pc := 229) tb_Mo_townLine 146 rfl) (by decide) (by decide) (by decide) (fun c229 => ?_) (fun c229 => (absurd c229 (by decide)))
      refine fg_iloadn (fg_ft (pc := 237) tb_Mo_townLine 150 rfl) rfl ?_
      refine fg_bipush (fg_ft (pc := 238) tb_Mo_townLine 151 rfl) ib_8 ?_
      refine fg_icmp_neN (tgt := 251) (fg_ft (pc := 240) tb_Mo_townLine 152 rfl) (by decide) (by decide) (by decide) (fun c240 => ?_) (fun c240 => (absurd c240 (by decide)))
      refine fg_iloadn (fg_ft (pc := 251) tb_Mo_townLine 158 rfl) rfl ?_
      refine fg_bipush (fg_ft (pc := 252) tb_Mo_townLine 159 rfl) ib_9 ?_
      refine fg_icmp_neN (tgt := 267) (fg_ft (pc := 254) tb_Mo_townLine 160 rfl) (by decide) (by decide) (by decide) (fun c254 => ?_) (fun c254 => (absurd c254 (by decide)))
      refine fg_iloadn (fg_ft (pc := 267) tb_Mo_townLine 166 rfl) rfl ?_
      refine fg_bipush (fg_ft (pc := 268) tb_Mo_townLine 167 rfl) ib_10 ?_
      refine fg_icmp_neN (tgt := 287) (fg_ft (pc := 270) tb_Mo_townLine 168 rfl) (by decide) (by decide) (by decide) (fun c270 => ?_) (fun c270 => (absurd c270 (by decide)))
      refine fg_aloadn (fg_ft (pc := 287) tb_Mo_townLine 177 rfl) rfl ?_
      refine fg_callV (fg_ft (pc := 288) tb_Mo_townLine 178 rfl) cf_Mo_153 (fg_isOf ly_287 rfl (fg_lt ly_287 (by decide))) (as := []) (st := []) rfl rfl (Nat.le_of_ble_eq_true rfl) (Nat.le_refl _) (Nat.le_refl _) (ev_Mo_endsLine hle hb256 hm ?_)
      intro ν8 hg8 h8
      have ag8 := rz_ag_tr agm hg8
      show fg_wp _ _ _ _ _ _ _ _ _ (ν8, fg_rho R, 304)
      exact fg_vret (fg_ft (pc := 291) tb_Mo_townLine 179 rfl) rfl rfl (hQ _ ag8 h8)
theorem ev_Mo_townLine_4 {E : fg_E} {d : Nat} {μ : Nat → Nat → Int32} {R : fg_T4} {Q : Option Value → fg_M → Prop} {b : Nat → Nat} {len : Nat} {Z : rz_Z} (hle : len ≤ 600) (hb256 : ∀ j, b j < 256) (h : rz_RZ μ b len Z) (hcnt : ∀ k, 1 ≤ k → k ≤ 6 → Z.2.2.2.2 k ≤ 700) {t : Nat × rz_Z} (ht : rz_ta (pz_K b len) (pz_V b len) (pz_S b len) 1 10 Z = t) (hk : t.1 = 4) (hQ : ∀ μ' : Nat → Nat → Int32, rz_ag μ μ' → rz_RZ μ' b len (rz_el (pz_K b len) (pz_S b len) (rz_tw (pz_K b len) (pz_V b len) (pz_S b len) len (pz_S b len Z.1) t.2 4)) → Q none (μ', fg_rho R, 304)) : fg_Ev E yy_Mo_townLine (d + 9) [.ref 287] (μ, fg_rho R, 304) 304 Q := by
  refine fg_intro (by decide +kernel) (Nat.le_of_ble_eq_true rfl) (fg_okAs rfl) (Nat.le_refl _) ?_
  refine fg_aloadn (fg_ft (pc := 0) tb_Mo_townLine 0 rfl) rfl ?_
  refine fg_getV (v := (nI (pz_S b len Z.1))) (fg_ft (pc := 1) tb_Mo_townLine 1 rfl) ff_Mo_81 ly_287 rfl (fg_lt ly_287 (by decide)) h.2.1.2.1 ?_
  refine fg_istoren (fg_ft (pc := 4) tb_Mo_townLine 2 rfl) (Nat.le_of_ble_eq_true rfl) ?_
  refine fg_aloadn (fg_ft (pc := 5) tb_Mo_townLine 3 rfl) rfl ?_
  refine fg_iconst (fg_ft (pc := 6) tb_Mo_townLine 4 rfl) ic_1 ?_
  refine fg_bipush (fg_ft (pc := 7) tb_Mo_townLine 5 rfl) ib_10 ?_
  refine fg_callV (fg_ft (pc := 9) tb_Mo_townLine 6 rfl) cf_Mo_135 (fg_isOf ly_287 rfl (fg_lt ly_287 (by decide))) (as := [.int (nI 1), .int (nI 10)]) (st := []) rfl rfl (Nat.le_of_ble_eq_true rfl) (Nat.le_refl _) (Nat.le_refl _) (ev_Mo_takes (lo := 1) (hi := 10) hle hb256 h (by decide) (by decide) ?_)
  intro ν1 hg1 h1
  have ag1 := hg1
  rw [ht] at h1 ⊢
  show fg_wp _ _ _ _ _ _ _ _ _ (ν1, fg_rho R, 304)
  have hCt : t.2.2.2.2.2 = Z.2.2.2.2 := by rw [← ht, rz_ta_C]
  have hcn : ∀ i, 1 ≤ i → i ≤ 6 → t.2.2.2.2.2 i ≤ 700 := by rw [hCt]; exact hcnt
  refine fg_top (y := nI 4) (congrArg nI hk) ?_
  refine fg_istoren (fg_ft (pc := 12) tb_Mo_townLine 7 rfl) (Nat.le_of_ble_eq_true rfl) ?_
  refine fg_iloadn (fg_ft (pc := 13) tb_Mo_townLine 8 rfl) rfl ?_
  refine fg_iconst (fg_ft (pc := 14) tb_Mo_townLine 9 rfl) ic_1 ?_
  refine fg_icmp_neN (tgt := 31) (fg_ft (pc := 15) tb_Mo_townLine 10 rfl) (by decide) (by decide) (by decide) (fun c15 => ?_) (fun c15 => (absurd c15 (by decide)))
  refine fg_iloadn (fg_ft (pc := 31) tb_Mo_townLine 19 rfl) rfl ?_
  refine fg_iconst (fg_ft (pc := 32) tb_Mo_townLine 20 rfl) ic_2 ?_
  refine fg_icmp_neN (tgt := 41) (fg_ft (pc := 33) tb_Mo_townLine 21 rfl) (by decide) (by decide) (by decide) (fun c33 => ?_) (fun c33 => (absurd c33 (by decide)))
  refine fg_iloadn (fg_ft (pc := 41) tb_Mo_townLine 25 rfl) rfl ?_
  refine fg_iconst (fg_ft (pc := 42) tb_Mo_townLine 26 rfl) ic_3 ?_
  refine fg_icmp_neN (tgt := 107) (fg_ft (pc := 43) tb_Mo_townLine 27 rfl) (by decide) (by decide) (by decide) (fun c43 => ?_) (fun c43 => (absurd c43 (by decide)))
  refine fg_iloadn (fg_ft (pc := 107) tb_Mo_townLine 69 rfl) rfl ?_
  refine fg_iconst (fg_ft (pc := 108) tb_Mo_townLine 70 rfl) ic_4 ?_
  refine fg_icmp_eqN (tgt := 117) (fg_ft (pc := 109) tb_Mo_townLine 71 rfl) (by decide) (by decide) (by decide) (fun c109 => ?_) (fun c109 => (absurd c109 (by decide)))
  refine fg_aloadn (fg_ft (pc := 117) tb_Mo_townLine 75 rfl) rfl ?_
  refine fg_iloadn (fg_ft (pc := 118) tb_Mo_townLine 76 rfl) rfl ?_
  refine fg_iconst (fg_ft (pc := 119) tb_Mo_townLine 77 rfl) ic_4 ?_
  refine fg_icmp_neN (tgt := 127) (fg_ft (pc := 120) tb_Mo_townLine 78 rfl) (by decide) (by decide) (by decide) (fun c120 => (absurd c120 (by decide))) (fun c120 => ?_)
  refine fg_iconst (fg_ft (pc := 123) tb_Mo_townLine 79 rfl) ic_1 ?_
  refine fg_goto (tgt := 128) (fg_ft (pc := 124) tb_Mo_townLine 80 rfl) (by decide) ?_
  refine fg_callV (fg_ft (pc := 128) tb_Mo_townLine 82 rfl) cf_Mo_142 (fg_isOf ly_287 rfl (fg_lt ly_287 (by decide))) (as := [.int (nI 1)]) (st := []) rfl rfl (Nat.le_of_ble_eq_true rfl) (Nat.le_refl _) (Nat.le_refl _) (ev_Mo_bitsLine1 hle hb256 h1 (hcn 2 (by decide) (by decide)) rfl ?_)
  intro ν2 hg2 h2
  have ag2 := rz_ag_tr ag1 hg2
  show fg_wp _ _ _ _ _ _ _ _ _ (ν2, fg_rho R, 304)
  have hm : rz_RZ ν2 b len (rz_tw (pz_K b len) (pz_V b len) (pz_S b len) len (pz_S b len Z.1) t.2 4) := h2
  have agm : rz_ag μ ν2 := fun a j p q r => ag2 a j p q r
  refine fg_iloadn (fg_ft (pc := 131) tb_Mo_townLine 83 rfl) rfl ?_
  refine fg_bipush (fg_ft (pc := 132) tb_Mo_townLine 84 rfl) ib_6 ?_
  refine fg_icmp_neN (tgt := 226) (fg_ft (pc := 134) tb_Mo_townLine 85 rfl) (by decide) (by decide) (by decide) (fun c134 => ?_) (fun c134 => (absurd c134 (by decide)))
  refine fg_iloadn (fg_ft (pc := 226) tb_Mo_townLine 144 rfl) rfl ?_
  refine fg_bipush (fg_ft (pc := 227) tb_Mo_townLine 145 rfl) ib_7 ?_
  refine fg_icmp_neN (tgt := 237) (fg_ft (pc := 229) tb_Mo_townLine 146 rfl) (by decide) (by decide) (by decide) (fun c229 => ?_) (fun c229 => (absurd c229 (by decide)))
  refine fg_iloadn (fg_ft (pc := 237) tb_Mo_townLine 150 rfl) rfl ?_
  refine fg_bipush (fg_ft (pc := 238) tb_Mo_townLine 151 rfl) ib_8 ?_
  refine fg_icmp_neN (tgt := 251) (fg_ft (pc := 240) tb_Mo_townLine 152 rfl) (by decide) (by decide) (by decide) (fun c240 => ?_) (fun c240 => (absurd c240 (by decide)))
  refine fg_iloadn (fg_ft (pc := 251) tb_Mo_townLine 158 rfl) rfl ?_
  refine fg_bipush (fg_ft (pc := 252) tb_Mo_townLine 159 rfl) ib_9 ?_
  refine fg_icmp_neN (tgt := 267) (fg_ft (pc := 254) tb_Mo_townLine 160 rfl) (by decide) (by decide) (by decide) (fun c254 => ?_) (fun c254 => (absurd c254 (by decide)))
  refine fg_iloadn (fg_ft (pc := 267) tb_Mo_townLine 166 rfl) rfl ?_
  refine fg_bipush (fg_ft (pc := 268) tb_Mo_townLine 167 rfl) ib_10 ?_
  refine fg_icmp_neN (tgt := 287) (fg_ft (pc := 270) tb_Mo_townLine 168 rfl) (by decide) (by decide) (by decide) (fun c270 => ?_) (fun c270 => (absurd c270 (by decide)))
  refine fg_aloadn (fg_ft (pc := 287) tb_Mo_townLine 177 rfl) rfl ?_
  refine fg_callV (fg_ft (pc := 288) tb_Mo_townLine 178 rfl) cf_Mo_153 (fg_isOf ly_287 rfl (fg_lt ly_287 (by decide))) (as := []) (st := []) rfl rfl (Nat.le_of_ble_eq_true rfl) (Nat.le_refl _) (Nat.le_refl _) (ev_Mo_endsLine hle hb256 hm ?_)
  intro ν3 hg3 h3
  have ag3 := rz_ag_tr agm hg3
  show fg_wp _ _ _ _ _ _ _ _ _ (ν3, fg_rho R, 304)
  exact fg_vret (fg_ft (pc := 291) tb_Mo_townLine 179 rfl) rfl rfl (hQ _ ag3 h3)
theorem ev_Mo_townLine_5 {E : fg_E} {d : Nat} {μ : Nat → Nat → Int32} {R : fg_T4} {Q : Option Value → fg_M → Prop} {b : Nat → Nat} {len : Nat} {Z : rz_Z} (hle : len ≤ 600) (hb256 : ∀ j, b j < 256) (h : rz_RZ μ b len Z) (hcnt : ∀ k, 1 ≤ k → k ≤ 6 → Z.2.2.2.2 k ≤ 700) {t : Nat × rz_Z} (ht : rz_ta (pz_K b len) (pz_V b len) (pz_S b len) 1 10 Z = t) (hk : t.1 = 5) (hQ : ∀ μ' : Nat → Nat → Int32, rz_ag μ μ' → rz_RZ μ' b len (rz_el (pz_K b len) (pz_S b len) (rz_tw (pz_K b len) (pz_V b len) (pz_S b len) len (pz_S b len Z.1) t.2 5)) → Q none (μ', fg_rho R, 304)) : fg_Ev E yy_Mo_townLine (d + 9) [.ref 287] (μ, fg_rho R, 304) 304 Q := by
  refine fg_intro (by decide +kernel) (Nat.le_of_ble_eq_true rfl) (fg_okAs rfl) (Nat.le_refl _) ?_
  refine fg_aloadn (fg_ft (pc := 0) tb_Mo_townLine 0 rfl) rfl ?_
  refine fg_getV (v := (nI (pz_S b len Z.1))) (fg_ft (pc := 1) tb_Mo_townLine 1 rfl) ff_Mo_81 ly_287 rfl (fg_lt ly_287 (by decide)) h.2.1.2.1 ?_
  refine fg_istoren (fg_ft (pc := 4) tb_Mo_townLine 2 rfl) (Nat.le_of_ble_eq_true rfl) ?_
  refine fg_aloadn (fg_ft (pc := 5) tb_Mo_townLine 3 rfl) rfl ?_
  refine fg_iconst (fg_ft (pc := 6) tb_Mo_townLine 4 rfl) ic_1 ?_
  refine fg_bipush (fg_ft (pc := 7) tb_Mo_townLine 5 rfl) ib_10 ?_
  refine fg_callV (fg_ft (pc := 9) tb_Mo_townLine 6 rfl) cf_Mo_135 (fg_isOf ly_287 rfl (fg_lt ly_287 (by decide))) (as := [.int (nI 1), .int (nI 10)]) (st := []) rfl rfl (Nat.le_of_ble_eq_true rfl) (Nat.le_refl _) (Nat.le_refl _) (ev_Mo_takes (lo := 1) (hi := 10) hle hb256 h (by decide) (by decide) ?_)
  intro ν1 hg1 h1
  have ag1 := hg1
  rw [ht] at h1 ⊢
  show fg_wp _ _ _ _ _ _ _ _ _ (ν1, fg_rho R, 304)
  have hCt : t.2.2.2.2.2 = Z.2.2.2.2 := by rw [← ht, rz_ta_C]
  have hcn : ∀ i, 1 ≤ i → i ≤ 6 → t.2.2.2.2.2 i ≤ 700 := by rw [hCt]; exact hcnt
  refine fg_top (y := nI 5) (congrArg nI hk) ?_
  refine fg_istoren (fg_ft (pc := 12) tb_Mo_townLine 7 rfl) (Nat.le_of_ble_eq_true rfl) ?_
  refine fg_iloadn (fg_ft (pc := 13) tb_Mo_townLine 8 rfl) rfl ?_
  refine fg_iconst (fg_ft (pc := 14) tb_Mo_townLine 9 rfl) ic_1 ?_
  refine fg_icmp_neN (tgt := 31) (fg_ft (pc := 15) tb_Mo_townLine 10 rfl) (by decide) (by decide) (by decide) (fun c15 => ?_) (fun c15 => (absurd c15 (by decide)))
  refine fg_iloadn (fg_ft (pc := 31) tb_Mo_townLine 19 rfl) rfl ?_
  refine fg_iconst (fg_ft (pc := 32) tb_Mo_townLine 20 rfl) ic_2 ?_
  refine fg_icmp_neN (tgt := 41) (fg_ft (pc := 33) tb_Mo_townLine 21 rfl) (by decide) (by decide) (by decide) (fun c33 => ?_) (fun c33 => (absurd c33 (by decide)))
  refine fg_iloadn (fg_ft (pc := 41) tb_Mo_townLine 25 rfl) rfl ?_
  refine fg_iconst (fg_ft (pc := 42) tb_Mo_townLine 26 rfl) ic_3 ?_
  refine fg_icmp_neN (tgt := 107) (fg_ft (pc := 43) tb_Mo_townLine 27 rfl) (by decide) (by decide) (by decide) (fun c43 => ?_) (fun c43 => (absurd c43 (by decide)))
  refine fg_iloadn (fg_ft (pc := 107) tb_Mo_townLine 69 rfl) rfl ?_
  refine fg_iconst (fg_ft (pc := 108) tb_Mo_townLine 70 rfl) ic_4 ?_
  refine fg_icmp_eqN (tgt := 117) (fg_ft (pc := 109) tb_Mo_townLine 71 rfl) (by decide) (by decide) (by decide) (fun c109 => (absurd c109 (by decide))) (fun c109 => ?_)
  refine fg_iloadn (fg_ft (pc := 112) tb_Mo_townLine 72 rfl) rfl ?_
  refine fg_iconst (fg_ft (pc := 113) tb_Mo_townLine 73 rfl) ic_5 ?_
  refine fg_icmp_neN (tgt := 131) (fg_ft (pc := 114) tb_Mo_townLine 74 rfl) (by decide) (by decide) (by decide) (fun c114 => (absurd c114 (by decide))) (fun c114 => ?_)
  refine fg_aloadn (fg_ft (pc := 117) tb_Mo_townLine 75 rfl) rfl ?_
  refine fg_iloadn (fg_ft (pc := 118) tb_Mo_townLine 76 rfl) rfl ?_
  refine fg_iconst (fg_ft (pc := 119) tb_Mo_townLine 77 rfl) ic_4 ?_
  refine fg_icmp_neN (tgt := 127) (fg_ft (pc := 120) tb_Mo_townLine 78 rfl) (by decide) (by decide) (by decide) (fun c120 => ?_) (fun c120 => (absurd c120 (by decide)))
  refine fg_iconst (fg_ft (pc := 127) tb_Mo_townLine 81 rfl) ic_0 ?_
  refine fg_callV (fg_ft (pc := 128) tb_Mo_townLine 82 rfl) cf_Mo_142 (fg_isOf ly_287 rfl (fg_lt ly_287 (by decide))) (as := [.int (nI 0)]) (st := []) rfl rfl (Nat.le_of_ble_eq_true rfl) (Nat.le_refl _) (Nat.le_refl _) (ev_Mo_bitsLine0 hle hb256 h1 (hcn 2 (by decide) (by decide)) rfl ?_)
  intro ν2 hg2 h2
  have ag2 := rz_ag_tr ag1 hg2
  show fg_wp _ _ _ _ _ _ _ _ _ (ν2, fg_rho R, 304)
  have hm : rz_RZ ν2 b len (rz_tw (pz_K b len) (pz_V b len) (pz_S b len) len (pz_S b len Z.1) t.2 5) := h2
  have agm : rz_ag μ ν2 := fun a j p q r => ag2 a j p q r
  refine fg_iloadn (fg_ft (pc := 131) tb_Mo_townLine 83 rfl) rfl ?_
  refine fg_bipush (fg_ft (pc := 132) tb_Mo_townLine 84 rfl) ib_6 ?_
  refine fg_icmp_neN (tgt := 226) (fg_ft (pc := 134) tb_Mo_townLine 85 rfl) (by decide) (by decide) (by decide) (fun c134 => ?_) (fun c134 => (absurd c134 (by decide)))
  refine fg_iloadn (fg_ft (pc := 226) tb_Mo_townLine 144 rfl) rfl ?_
  refine fg_bipush (fg_ft (pc := 227) tb_Mo_townLine 145 rfl) ib_7 ?_
  refine fg_icmp_neN (tgt := 237) (fg_ft (pc := 229) tb_Mo_townLine 146 rfl) (by decide) (by decide) (by decide) (fun c229 => ?_) (fun c229 => (absurd c229 (by decide)))
  refine fg_iloadn (fg_ft (pc := 237) tb_Mo_townLine 150 rfl) rfl ?_
  refine fg_bipush (fg_ft (pc := 238) tb_Mo_townLine 151 rfl) ib_8 ?_
  refine fg_icmp_neN (tgt := 251) (fg_ft (pc := 240) tb_Mo_townLine 152 rfl) (by decide) (by decide) (by decide) (fun c240 => ?_) (fun c240 => (absurd c240 (by decide)))
  refine fg_iloadn (fg_ft (pc := 251) tb_Mo_townLine 158 rfl) rfl ?_
  refine fg_bipush (fg_ft (pc := 252) tb_Mo_townLine 159 rfl) ib_9 ?_
  refine fg_icmp_neN (tgt := 267) (fg_ft (pc := 254) tb_Mo_townLine 160 rfl) (by decide) (by decide) (by decide) (fun c254 => ?_) (fun c254 => (absurd c254 (by decide)))
  refine fg_iloadn (fg_ft (pc := 267) tb_Mo_townLine 166 rfl) rfl ?_
  refine fg_bipush (fg_ft (pc := 268) tb_Mo_townLine 167 rfl) ib_10 ?_
  refine fg_icmp_neN (tgt := 287) (fg_ft (pc := 270) tb_Mo_townLine 168 rfl) (by decide) (by decide) (by decide) (fun c270 => ?_) (fun c270 => (absurd c270 (by decide)))
  refine fg_aloadn (fg_ft (pc := 287) tb_Mo_townLine 177 rfl) rfl ?_
  refine fg_callV (fg_ft (pc := 288) tb_Mo_townLine 178 rfl) cf_Mo_153 (fg_isOf ly_287 rfl (fg_lt ly_287 (by decide))) (as := []) (st := []) rfl rfl (Nat.le_of_ble_eq_true rfl) (Nat.le_refl _) (Nat.le_refl _) (ev_Mo_endsLine hle hb256 hm ?_)
  intro ν3 hg3 h3
  have ag3 := rz_ag_tr agm hg3
  show fg_wp _ _ _ _ _ _ _ _ _ (ν3, fg_rho R, 304)
  exact fg_vret (fg_ft (pc := 291) tb_Mo_townLine 179 rfl) rfl rfl (hQ _ ag3 h3)
theorem ev_Mo_townLine_6 {E : fg_E} {d : Nat} {μ : Nat → Nat → Int32} {R : fg_T4} {Q : Option Value → fg_M → Prop} {b : Nat → Nat} {len : Nat} {Z : rz_Z} (hle : len ≤ 600) (hb256 : ∀ j, b j < 256) (h : rz_RZ μ b len Z) (hcnt : ∀ k, 1 ≤ k → k ≤ 6 → Z.2.2.2.2 k ≤ 700) {t : Nat × rz_Z} (ht : rz_ta (pz_K b len) (pz_V b len) (pz_S b len) 1 10 Z = t) (hk : t.1 = 6) (hQ : ∀ μ' : Nat → Nat → Int32, rz_ag μ μ' → rz_RZ μ' b len (rz_el (pz_K b len) (pz_S b len) (rz_tw (pz_K b len) (pz_V b len) (pz_S b len) len (pz_S b len Z.1) t.2 6)) → Q none (μ', fg_rho R, 304)) : fg_Ev E yy_Mo_townLine (d + 9) [.ref 287] (μ, fg_rho R, 304) 304 Q := by
  refine fg_intro (by decide +kernel) (Nat.le_of_ble_eq_true rfl) (fg_okAs rfl) (Nat.le_refl _) ?_
  refine fg_aloadn (fg_ft (pc := 0) tb_Mo_townLine 0 rfl) rfl ?_
  refine fg_getV (v := (nI (pz_S b len Z.1))) (fg_ft (pc := 1) tb_Mo_townLine 1 rfl) ff_Mo_81 ly_287 rfl (fg_lt ly_287 (by decide)) h.2.1.2.1 ?_
  refine fg_istoren (fg_ft (pc := 4) tb_Mo_townLine 2 rfl) (Nat.le_of_ble_eq_true rfl) ?_
  refine fg_aloadn (fg_ft (pc := 5) tb_Mo_townLine 3 rfl) rfl ?_
  refine fg_iconst (fg_ft (pc := 6) tb_Mo_townLine 4 rfl) ic_1 ?_
  refine fg_bipush (fg_ft (pc := 7) tb_Mo_townLine 5 rfl) ib_10 ?_
  refine fg_callV (fg_ft (pc := 9) tb_Mo_townLine 6 rfl) cf_Mo_135 (fg_isOf ly_287 rfl (fg_lt ly_287 (by decide))) (as := [.int (nI 1), .int (nI 10)]) (st := []) rfl rfl (Nat.le_of_ble_eq_true rfl) (Nat.le_refl _) (Nat.le_refl _) (ev_Mo_takes (lo := 1) (hi := 10) hle hb256 h (by decide) (by decide) ?_)
  intro ν1 hg1 h1
  have ag1 := hg1
  rw [ht] at h1 ⊢
  show fg_wp _ _ _ _ _ _ _ _ _ (ν1, fg_rho R, 304)
  have hCt : t.2.2.2.2.2 = Z.2.2.2.2 := by rw [← ht, rz_ta_C]
  have hcn : ∀ i, 1 ≤ i → i ≤ 6 → t.2.2.2.2.2 i ≤ 700 := by rw [hCt]; exact hcnt
  refine fg_top (y := nI 6) (congrArg nI hk) ?_
  refine fg_istoren (fg_ft (pc := 12) tb_Mo_townLine 7 rfl) (Nat.le_of_ble_eq_true rfl) ?_
  refine fg_iloadn (fg_ft (pc := 13) tb_Mo_townLine 8 rfl) rfl ?_
  refine fg_iconst (fg_ft (pc := 14) tb_Mo_townLine 9 rfl) ic_1 ?_
  refine fg_icmp_neN (tgt := 31) (fg_ft (pc := 15) tb_Mo_townLine 10 rfl) (by decide) (by decide) (by decide) (fun c15 => ?_) (fun c15 => (absurd c15 (by decide)))
  refine fg_iloadn (fg_ft (pc := 31) tb_Mo_townLine 19 rfl) rfl ?_
  refine fg_iconst (fg_ft (pc := 32) tb_Mo_townLine 20 rfl) ic_2 ?_
  refine fg_icmp_neN (tgt := 41) (fg_ft (pc := 33) tb_Mo_townLine 21 rfl) (by decide) (by decide) (by decide) (fun c33 => ?_) (fun c33 => (absurd c33 (by decide)))
  refine fg_iloadn (fg_ft (pc := 41) tb_Mo_townLine 25 rfl) rfl ?_
  refine fg_iconst (fg_ft (pc := 42) tb_Mo_townLine 26 rfl) ic_3 ?_
  refine fg_icmp_neN (tgt := 107) (fg_ft (pc := 43) tb_Mo_townLine 27 rfl) (by decide) (by decide) (by decide) (fun c43 => ?_) (fun c43 => (absurd c43 (by decide)))
  refine fg_iloadn (fg_ft (pc := 107) tb_Mo_townLine 69 rfl) rfl ?_
  refine fg_iconst (fg_ft (pc := 108) tb_Mo_townLine 70 rfl) ic_4 ?_
  refine fg_icmp_eqN (tgt := 117) (fg_ft (pc := 109) tb_Mo_townLine 71 rfl) (by decide) (by decide) (by decide) (fun c109 => (absurd c109 (by decide))) (fun c109 => ?_)
  refine fg_iloadn (fg_ft (pc := 112) tb_Mo_townLine 72 rfl) rfl ?_
  refine fg_iconst (fg_ft (pc := 113) tb_Mo_townLine 73 rfl) ic_5 ?_
  refine fg_icmp_neN (tgt := 131) (fg_ft (pc := 114) tb_Mo_townLine 74 rfl) (by decide) (by decide) (by decide) (fun c114 => ?_) (fun c114 => (absurd c114 (by decide)))
  refine fg_iloadn (fg_ft (pc := 131) tb_Mo_townLine 83 rfl) rfl ?_
  refine fg_bipush (fg_ft (pc := 132) tb_Mo_townLine 84 rfl) ib_6 ?_
  refine fg_icmp_neN (tgt := 226) (fg_ft (pc := 134) tb_Mo_townLine 85 rfl) (by decide) (by decide) (by decide) (fun c134 => (absurd c134 (by decide))) (fun c134 => ?_)
  refine fg_aloadn (fg_ft (pc := 137) tb_Mo_townLine 86 rfl) rfl ?_
  refine fg_getR (fg_ft (pc := 138) tb_Mo_townLine 87 rfl) ff_Mo_17 ly_287 rfl (fg_lt ly_287 (by decide)) (rh_287_10 R) ?_
  refine fg_iconst (fg_ft (pc := 141) tb_Mo_townLine 88 rfl) ic_3 ?_
  have hb0 := hcn 3 (by decide) (by decide)
  refine fg_ialdV (v := (nI (t.2.2.2.2.2 3))) (fg_ft (pc := 142) tb_Mo_townLine 89 rfl) ly_290 (fg_lt ly_290 (by decide)) (by omega) (h1.2.2.2.2.2.2.1 3 (by omega)) ?_
  refine fg_bipush (fg_ft (pc := 143) tb_Mo_townLine 90 rfl) ib_12 ?_
  refine fg_icmp_ltN (tgt := 154) (fg_ft (pc := 145) tb_Mo_townLine 91 rfl) (by decide) (by omega) (by decide) (fun c145 => ?_) (fun c145 => ?_)
  · have hc : rz_RZ ν1 b len (rz_c3 3 12 (pz_S b len Z.1) t.2) := by
      unfold rz_c3
      rw [if_neg (by omega)]
      exact h1
    refine fg_aloadn (fg_ft (pc := 154) tb_Mo_townLine 96 rfl) rfl ?_
    refine fg_iconst (fg_ft (pc := 155) tb_Mo_townLine 97 rfl) ic_1 ?_
    refine fg_bipush (fg_ft (pc := 156) tb_Mo_townLine 98 rfl) ib_9 ?_
    refine fg_callV (fg_ft (pc := 158) tb_Mo_townLine 99 rfl) cf_Mo_121 (fg_isOf ly_287 rfl (fg_lt ly_287 (by decide))) (as := [.int (nI 1), .int (nI 9)]) (st := []) rfl rfl (Nat.le_of_ble_eq_true rfl) (Nat.le_refl _) (Nat.le_refl _) (ev_Mo_numbered (lo := 1) (hi := 9 + 1) hle hb256 hc (rz_m (by decide) (by decide)) ?_)
    intro ν2 hg2 h2
    have ag2 := rz_ag_tr ag1 hg2
    obtain ⟨a, ha⟩ : ∃ x, (rz_nu (pz_K b len) (pz_V b len) (pz_S b len) 1 (9 + 1) (rz_c3 3 12 (pz_S b len Z.1) t.2)) = x := ⟨_, rfl⟩
    rw [ha] at h2 ⊢
    show fg_wp _ _ _ _ _ _ _ _ _ (ν2, fg_rho R, 304)
    refine fg_istoren (fg_ft (pc := 161) tb_Mo_townLine 100 rfl) (Nat.le_of_ble_eq_true rfl) ?_
    refine fg_aloadn (fg_ft (pc := 162) tb_Mo_townLine 101 rfl) rfl ?_
    refine fg_callV (fg_ft (pc := 163) tb_Mo_townLine 102 rfl) cf_Mo_128 (fg_isOf ly_287 rfl (fg_lt ly_287 (by decide))) (as := []) (st := []) rfl rfl (Nat.le_of_ble_eq_true rfl) (Nat.le_refl _) (Nat.le_refl _) (ev_Mo_factOf hle hb256 h2 ?_)
    intro ν3 hg3 h3
    have ag3 := rz_ag_tr ag2 hg3
    obtain ⟨f, hf⟩ : ∃ x, (rz_fa (pz_K b len) (pz_V b len) (pz_S b len) a.2) = x := ⟨_, rfl⟩
    rw [hf] at h3 ⊢
    show fg_wp _ _ _ _ _ _ _ _ _ (ν3, fg_rho R, 304)
    have hCf : f.2.2.2.2.2 = Z.2.2.2.2 := by rw [← hf, rz_fa_C, ← ha, rz_nu_C, rz_c3_C, hCt]
    have hb1 : f.2.2.2.2.2 3 ≤ 700 := by rw [hCf]; exact hcnt 3 (by decide) (by decide)
    refine fg_istore (fg_ft (pc := 166) tb_Mo_townLine 103 rfl) (Nat.le_of_ble_eq_true rfl) ?_
    refine fg_aloadn (fg_ft (pc := 168) tb_Mo_townLine 104 rfl) rfl ?_
    refine fg_getR (fg_ft (pc := 169) tb_Mo_townLine 105 rfl) ff_Mo_17 ly_287 rfl (fg_lt ly_287 (by decide)) (rh_287_10 R) ?_
    refine fg_iconst (fg_ft (pc := 172) tb_Mo_townLine 106 rfl) ic_3 ?_
    refine fg_ialdV (v := (nI (f.2.2.2.2.2 3))) (fg_ft (pc := 173) tb_Mo_townLine 107 rfl) ly_290 (fg_lt ly_290 (by decide)) (by omega) (h3.2.2.2.2.2.2.1 3 (by omega)) ?_
    refine fg_bipush (fg_ft (pc := 174) tb_Mo_townLine 108 rfl) ib_12 ?_
    refine fg_icmp_geN (tgt := 216) (fg_ft (pc := 176) tb_Mo_townLine 109 rfl) (by decide) (by omega) (by decide) (fun c176 => ?_) (fun c176 => ?_)
    · refine fg_aloadn (fg_ft (pc := 216) tb_Mo_townLine 136 rfl) rfl ?_
      refine fg_getR (fg_ft (pc := 217) tb_Mo_townLine 137 rfl) ff_Mo_17 ly_287 rfl (fg_lt ly_287 (by decide)) (rh_287_10 R) ?_
      refine fg_iconst (fg_ft (pc := 220) tb_Mo_townLine 138 rfl) ic_3 ?_
      refine fg_dup2 (fg_ft (pc := 221) tb_Mo_townLine 139 rfl) rfl rfl ?_
      refine fg_ialdV (v := (nI (f.2.2.2.2.2 3))) (fg_ft (pc := 222) tb_Mo_townLine 140 rfl) ly_290 (fg_lt ly_290 (by decide)) (by omega) (h3.2.2.2.2.2.2.1 3 (by omega)) ?_
      refine fg_iconst (fg_ft (pc := 223) tb_Mo_townLine 141 rfl) ic_1 ?_
      refine fg_iaddN (fg_ft (pc := 224) tb_Mo_townLine 142 rfl) ?_
      refine fg_iastN (fg_ft (pc := 225) tb_Mo_townLine 143 rfl) ly_290 (fg_lt ly_290 (by decide)) (by omega) ?_
      show fg_wp _ _ _ _ _ _ _ _ _ (fg_u2 ν3 290 3 (nI ((f.2.2.2.2.2 3) + 1)), fg_rho R, 304)
      have hm : rz_RZ (fg_u2 ν3 290 3 (nI ((f.2.2.2.2.2 3) + 1))) b len (rz_tw (pz_K b len) (pz_V b len) (pz_S b len) len (pz_S b len Z.1) t.2 6) := by
        show rz_RZ _ b len (rz_sg (pz_K b len) (pz_V b len) (pz_S b len) (pz_S b len Z.1) t.2)
        unfold rz_sg rz_pr
        have ha2 : rz_nu (pz_K b len) (pz_V b len) (pz_S b len) 1 10 (rz_c3 3 12 (pz_S b len Z.1) t.2) = a := ha
        rw [ha2, hf, if_neg (by omega)]
        exact (h3).put
      have agm : rz_ag μ (fg_u2 ν3 290 3 (nI ((f.2.2.2.2.2 3) + 1))) := fun a j p q r => (fg_u2ne r).trans (ag3 a j p q r)
      refine fg_iloadn (fg_ft (pc := 226) tb_Mo_townLine 144 rfl) rfl ?_
      refine fg_bipush (fg_ft (pc := 227) tb_Mo_townLine 145 rfl) ib_7 ?_
      refine fg_icmp_neN (tgt := 237) (fg_ft (pc := 229) tb_Mo_townLine 146 rfl) (by decide) (by decide) (by decide) (fun c229 => ?_) (fun c229 => (absurd c229 (by decide)))
      refine fg_iloadn (fg_ft (pc := 237) tb_Mo_townLine 150 rfl) rfl ?_
      refine fg_bipush (fg_ft (pc := 238) tb_Mo_townLine 151 rfl) ib_8 ?_
      refine fg_icmp_neN (tgt := 251) (fg_ft (pc := 240) tb_Mo_townLine 152 rfl) (by decide) (by decide) (by decide) (fun c240 => ?_) (fun c240 => (absurd c240 (by decide)))
      refine fg_iloadn (fg_ft (pc := 251) tb_Mo_townLine 158 rfl) rfl ?_
      refine fg_bipush (fg_ft (pc := 252) tb_Mo_townLine 159 rfl) ib_9 ?_
      refine fg_icmp_neN (tgt := 267) (fg_ft (pc := 254) tb_Mo_townLine 160 rfl) (by decide) (by decide) (by decide) (fun c254 => ?_) (fun c254 => (absurd c254 (by decide)))
      refine fg_iloadn (fg_ft (pc := 267) tb_Mo_townLine 166 rfl) rfl ?_
      refine fg_bipush (fg_ft (pc := 268) tb_Mo_townLine 167 rfl) ib_10 ?_
      refine fg_icmp_neN (tgt := 287) (fg_ft (pc := 270) tb_Mo_townLine 168 rfl) (by decide) (by decide) (by decide) (fun c270 => ?_) (fun c270 => (absurd c270 (by decide)))
      refine fg_aloadn (fg_ft (pc := 287) tb_Mo_townLine 177 rfl) rfl ?_
      refine fg_callV (fg_ft (pc := 288) tb_Mo_townLine 178 rfl) cf_Mo_153 (fg_isOf ly_287 rfl (fg_lt ly_287 (by decide))) (as := []) (st := []) rfl rfl (Nat.le_of_ble_eq_true rfl) (Nat.le_refl _) (Nat.le_refl _) (ev_Mo_endsLine hle hb256 hm ?_)
      intro ν4 hg4 h4
      have ag4 := rz_ag_tr agm hg4
      show fg_wp _ _ _ _ _ _ _ _ _ (ν4, fg_rho R, 304)
      exact fg_vret (fg_ft (pc := 291) tb_Mo_townLine 179 rfl) rfl rfl (hQ _ ag4 h4)
    · refine fg_aloadn (fg_ft (pc := 179) tb_Mo_townLine 110 rfl) rfl ?_
      refine fg_getR (fg_ft (pc := 180) tb_Mo_townLine 111 rfl) ff_Mo_17 ly_287 rfl (fg_lt ly_287 (by decide)) (rh_287_10 R) ?_
      refine fg_bipush (fg_ft (pc := 183) tb_Mo_townLine 112 rfl) ib_55 ?_
      refine fg_iconst (fg_ft (pc := 185) tb_Mo_townLine 113 rfl) ic_2 ?_
      refine fg_aloadn (fg_ft (pc := 186) tb_Mo_townLine 114 rfl) rfl ?_
      refine fg_getR (fg_ft (pc := 187) tb_Mo_townLine 115 rfl) ff_Mo_17 ly_287 rfl (fg_lt ly_287 (by decide)) (rh_287_10 R) ?_
      refine fg_iconst (fg_ft (pc := 190) tb_Mo_townLine 116 rfl) ic_3 ?_
      refine fg_ialdV (v := (nI (f.2.2.2.2.2 3))) (fg_ft (pc := 191) tb_Mo_townLine 117 rfl) ly_290 (fg_lt ly_290 (by decide)) (by omega) (h3.2.2.2.2.2.2.1 3 (by omega)) ?_
      refine fg_imulN (fg_ft (pc := 192) tb_Mo_townLine 118 rfl) ?_
      refine fg_iaddN (fg_ft (pc := 193) tb_Mo_townLine 119 rfl) ?_
      refine fg_iloadn (fg_ft (pc := 194) tb_Mo_townLine 120 rfl) rfl ?_
      refine fg_iastN (fg_ft (pc := 195) tb_Mo_townLine 121 rfl) ly_290 (fg_lt ly_290 (by decide)) (by omega) ?_
      show fg_wp _ _ _ _ _ _ _ _ _ (fg_u2 ν3 290 (55 + (2 * (f.2.2.2.2.2 3))) (nI (a.1)), fg_rho R, 304)
      refine fg_aloadn (fg_ft (pc := 196) tb_Mo_townLine 122 rfl) rfl ?_
      refine fg_getR (fg_ft (pc := 197) tb_Mo_townLine 123 rfl) ff_Mo_17 ly_287 rfl (fg_lt ly_287 (by decide)) (rh_287_10 R) ?_
      refine fg_bipush (fg_ft (pc := 200) tb_Mo_townLine 124 rfl) ib_55 ?_
      refine fg_iconst (fg_ft (pc := 202) tb_Mo_townLine 125 rfl) ic_2 ?_
      refine fg_aloadn (fg_ft (pc := 203) tb_Mo_townLine 126 rfl) rfl ?_
      refine fg_getR (fg_ft (pc := 204) tb_Mo_townLine 127 rfl) ff_Mo_17 ly_287 rfl (fg_lt ly_287 (by decide)) (rh_287_10 R) ?_
      refine fg_iconst (fg_ft (pc := 207) tb_Mo_townLine 128 rfl) ic_3 ?_
      refine fg_ialdV (v := (nI (f.2.2.2.2.2 3))) (fg_ft (pc := 208) tb_Mo_townLine 129 rfl) ly_290 (fg_lt ly_290 (by decide)) (by omega) ((fg_u2ns (f := ν3) (a := 290) (k := (55 + (2 * (f.2.2.2.2.2 3)))) (b := 290) (j := 3) (x := (nI (a.1))) (by omega)).trans (h3.2.2.2.2.2.2.1 3 (by omega))) ?_
      refine fg_imulN (fg_ft (pc := 209) tb_Mo_townLine 130 rfl) ?_
      refine fg_iaddN (fg_ft (pc := 210) tb_Mo_townLine 131 rfl) ?_
      refine fg_iconst (fg_ft (pc := 211) tb_Mo_townLine 132 rfl) ic_1 ?_
      refine fg_iaddN (fg_ft (pc := 212) tb_Mo_townLine 133 rfl) ?_
      refine fg_iload (fg_ft (pc := 213) tb_Mo_townLine 134 rfl) rfl ?_
      refine fg_iastN (fg_ft (pc := 215) tb_Mo_townLine 135 rfl) ly_290 (fg_lt ly_290 (by decide)) (by omega) ?_
      show fg_wp _ _ _ _ _ _ _ _ _ (fg_u2 (fg_u2 ν3 290 (55 + (2 * (f.2.2.2.2.2 3))) (nI (a.1))) 290 ((55 + (2 * (f.2.2.2.2.2 3))) + 1) (nI (f.1)), fg_rho R, 304)
      refine fg_aloadn (fg_ft (pc := 216) tb_Mo_townLine 136 rfl) rfl ?_
      refine fg_getR (fg_ft (pc := 217) tb_Mo_townLine 137 rfl) ff_Mo_17 ly_287 rfl (fg_lt ly_287 (by decide)) (rh_287_10 R) ?_
      refine fg_iconst (fg_ft (pc := 220) tb_Mo_townLine 138 rfl) ic_3 ?_
      refine fg_dup2 (fg_ft (pc := 221) tb_Mo_townLine 139 rfl) rfl rfl ?_
      refine fg_ialdV (v := (nI (f.2.2.2.2.2 3))) (fg_ft (pc := 222) tb_Mo_townLine 140 rfl) ly_290 (fg_lt ly_290 (by decide)) (by omega) ((fg_u2ns (f := (fg_u2 ν3 290 (55 + (2 * (f.2.2.2.2.2 3))) (nI (a.1)))) (a := 290) (k := ((55 + (2 * (f.2.2.2.2.2 3))) + 1)) (b := 290) (j := 3) (x := (nI (f.1))) (by omega)).trans ((fg_u2ns (f := ν3) (a := 290) (k := (55 + (2 * (f.2.2.2.2.2 3)))) (b := 290) (j := 3) (x := (nI (a.1))) (by omega)).trans (h3.2.2.2.2.2.2.1 3 (by omega)))) ?_
      refine fg_iconst (fg_ft (pc := 223) tb_Mo_townLine 141 rfl) ic_1 ?_
      refine fg_iaddN (fg_ft (pc := 224) tb_Mo_townLine 142 rfl) ?_
      refine fg_iastN (fg_ft (pc := 225) tb_Mo_townLine 143 rfl) ly_290 (fg_lt ly_290 (by decide)) (by omega) ?_
      show fg_wp _ _ _ _ _ _ _ _ _ (fg_u2 (fg_u2 (fg_u2 ν3 290 (55 + (2 * (f.2.2.2.2.2 3))) (nI (a.1))) 290 ((55 + (2 * (f.2.2.2.2.2 3))) + 1) (nI (f.1))) 290 3 (nI ((f.2.2.2.2.2 3) + 1)), fg_rho R, 304)
      have hm : rz_RZ (fg_u2 (fg_u2 (fg_u2 ν3 290 (55 + (2 * (f.2.2.2.2.2 3))) (nI (a.1))) 290 ((55 + (2 * (f.2.2.2.2.2 3))) + 1) (nI (f.1))) 290 3 (nI ((f.2.2.2.2.2 3) + 1))) b len (rz_tw (pz_K b len) (pz_V b len) (pz_S b len) len (pz_S b len Z.1) t.2 6) := by
        show rz_RZ _ b len (rz_sg (pz_K b len) (pz_V b len) (pz_S b len) (pz_S b len Z.1) t.2)
        unfold rz_sg rz_pr
        have ha2 : rz_nu (pz_K b len) (pz_V b len) (pz_S b len) 1 10 (rz_c3 3 12 (pz_S b len Z.1) t.2) = a := ha
        rw [ha2, hf, if_pos (by omega)]
        exact (((h3).put).put).put
      have agm : rz_ag μ (fg_u2 (fg_u2 (fg_u2 ν3 290 (55 + (2 * (f.2.2.2.2.2 3))) (nI (a.1))) 290 ((55 + (2 * (f.2.2.2.2.2 3))) + 1) (nI (f.1))) 290 3 (nI ((f.2.2.2.2.2 3) + 1))) := fun a j p q r => (fg_u2ne r).trans ((fg_u2ne r).trans ((fg_u2ne r).trans (ag3 a j p q r)))
      refine fg_iloadn (fg_ft (pc := 226) tb_Mo_townLine 144 rfl) rfl ?_
      refine fg_bipush (fg_ft (pc := 227) tb_Mo_townLine 145 rfl) ib_7 ?_
      refine fg_icmp_neN (tgt := 237) (fg_ft (pc := 229) tb_Mo_townLine 146 rfl) (by decide) (by decide) (by decide) (fun c229 => ?_) (fun c229 => (absurd c229 (by decide)))
      refine fg_iloadn (fg_ft (pc := 237) tb_Mo_townLine 150 rfl) rfl ?_
      refine fg_bipush (fg_ft (pc := 238) tb_Mo_townLine 151 rfl) ib_8 ?_
      refine fg_icmp_neN (tgt := 251) (fg_ft (pc := 240) tb_Mo_townLine 152 rfl) (by decide) (by decide) (by decide) (fun c240 => ?_) (fun c240 => (absurd c240 (by decide)))
      refine fg_iloadn (fg_ft (pc := 251) tb_Mo_townLine 158 rfl) rfl ?_
      refine fg_bipush (fg_ft (pc := 252) tb_Mo_townLine 159 rfl) ib_9 ?_
      refine fg_icmp_neN (tgt := 267) (fg_ft (pc := 254) tb_Mo_townLine 160 rfl) (by decide) (by decide) (by decide) (fun c254 => ?_) (fun c254 => (absurd c254 (by decide)))
      refine fg_iloadn (fg_ft (pc := 267) tb_Mo_townLine 166 rfl) rfl ?_
      refine fg_bipush (fg_ft (pc := 268) tb_Mo_townLine 167 rfl) ib_10 ?_
      refine fg_icmp_neN (tgt := 287) (fg_ft (pc := 270) tb_Mo_townLine 168 rfl) (by decide) (by decide) (by decide) (fun c270 => ?_) (fun c270 => (absurd c270 (by decide)))
      refine fg_aloadn (fg_ft (pc := 287) tb_Mo_townLine 177 rfl) rfl ?_
      refine fg_callV (fg_ft (pc := 288) tb_Mo_townLine 178 rfl) cf_Mo_153 (fg_isOf ly_287 rfl (fg_lt ly_287 (by decide))) (as := []) (st := []) rfl rfl (Nat.le_of_ble_eq_true rfl) (Nat.le_refl _) (Nat.le_refl _) (ev_Mo_endsLine hle hb256 hm ?_)
      intro ν5 hg5 h5
      have ag5 := rz_ag_tr agm hg5
      show fg_wp _ _ _ _ _ _ _ _ _ (ν5, fg_rho R, 304)
      exact fg_vret (fg_ft (pc := 291) tb_Mo_townLine 179 rfl) rfl rfl (hQ _ ag5 h5)
  · refine fg_aloadn (fg_ft (pc := 148) tb_Mo_townLine 92 rfl) rfl ?_
    refine fg_iconst (fg_ft (pc := 149) tb_Mo_townLine 93 rfl) ic_3 ?_
    refine fg_iloadn (fg_ft (pc := 150) tb_Mo_townLine 94 rfl) rfl ?_
    refine fg_callV (fg_ft (pc := 151) tb_Mo_townLine 95 rfl) cf_Mo_114 (fg_isOf ly_287 rfl (fg_lt ly_287 (by decide))) (as := [.int (nI 3), .int (nI (pz_S b len Z.1))]) (st := []) rfl rfl (Nat.le_of_ble_eq_true rfl) (Nat.le_refl _) (Nat.le_refl _) (ev_Mo_also (kd := 3) (at9 := (pz_S b len Z.1)) hle hb256 h1 (by decide) (by decide) (by decide) (rz_S_le hle) ?_)
    intro ν6 hg6 h6
    have ag6 := rz_ag_tr ag1 hg6
    show fg_wp _ _ _ _ _ _ _ _ _ (ν6, fg_rho R, 304)
    have hc : rz_RZ ν6 b len (rz_c3 3 12 (pz_S b len Z.1) t.2) := by
      unfold rz_c3
      rw [if_pos (by omega)]
      exact h6
    refine fg_aloadn (fg_ft (pc := 154) tb_Mo_townLine 96 rfl) rfl ?_
    refine fg_iconst (fg_ft (pc := 155) tb_Mo_townLine 97 rfl) ic_1 ?_
    refine fg_bipush (fg_ft (pc := 156) tb_Mo_townLine 98 rfl) ib_9 ?_
    refine fg_callV (fg_ft (pc := 158) tb_Mo_townLine 99 rfl) cf_Mo_121 (fg_isOf ly_287 rfl (fg_lt ly_287 (by decide))) (as := [.int (nI 1), .int (nI 9)]) (st := []) rfl rfl (Nat.le_of_ble_eq_true rfl) (Nat.le_refl _) (Nat.le_refl _) (ev_Mo_numbered (lo := 1) (hi := 9 + 1) hle hb256 hc (rz_m (by decide) (by decide)) ?_)
    intro ν7 hg7 h7
    have ag7 := rz_ag_tr ag6 hg7
    obtain ⟨a, ha⟩ : ∃ x, (rz_nu (pz_K b len) (pz_V b len) (pz_S b len) 1 (9 + 1) (rz_c3 3 12 (pz_S b len Z.1) t.2)) = x := ⟨_, rfl⟩
    rw [ha] at h7 ⊢
    show fg_wp _ _ _ _ _ _ _ _ _ (ν7, fg_rho R, 304)
    refine fg_istoren (fg_ft (pc := 161) tb_Mo_townLine 100 rfl) (Nat.le_of_ble_eq_true rfl) ?_
    refine fg_aloadn (fg_ft (pc := 162) tb_Mo_townLine 101 rfl) rfl ?_
    refine fg_callV (fg_ft (pc := 163) tb_Mo_townLine 102 rfl) cf_Mo_128 (fg_isOf ly_287 rfl (fg_lt ly_287 (by decide))) (as := []) (st := []) rfl rfl (Nat.le_of_ble_eq_true rfl) (Nat.le_refl _) (Nat.le_refl _) (ev_Mo_factOf hle hb256 h7 ?_)
    intro ν8 hg8 h8
    have ag8 := rz_ag_tr ag7 hg8
    obtain ⟨f, hf⟩ : ∃ x, (rz_fa (pz_K b len) (pz_V b len) (pz_S b len) a.2) = x := ⟨_, rfl⟩
    rw [hf] at h8 ⊢
    show fg_wp _ _ _ _ _ _ _ _ _ (ν8, fg_rho R, 304)
    have hCf : f.2.2.2.2.2 = Z.2.2.2.2 := by rw [← hf, rz_fa_C, ← ha, rz_nu_C, rz_c3_C, hCt]
    have hb1 : f.2.2.2.2.2 3 ≤ 700 := by rw [hCf]; exact hcnt 3 (by decide) (by decide)
    refine fg_istore (fg_ft (pc := 166) tb_Mo_townLine 103 rfl) (Nat.le_of_ble_eq_true rfl) ?_
    refine fg_aloadn (fg_ft (pc := 168) tb_Mo_townLine 104 rfl) rfl ?_
    refine fg_getR (fg_ft (pc := 169) tb_Mo_townLine 105 rfl) ff_Mo_17 ly_287 rfl (fg_lt ly_287 (by decide)) (rh_287_10 R) ?_
    refine fg_iconst (fg_ft (pc := 172) tb_Mo_townLine 106 rfl) ic_3 ?_
    refine fg_ialdV (v := (nI (f.2.2.2.2.2 3))) (fg_ft (pc := 173) tb_Mo_townLine 107 rfl) ly_290 (fg_lt ly_290 (by decide)) (by omega) (h8.2.2.2.2.2.2.1 3 (by omega)) ?_
    refine fg_bipush (fg_ft (pc := 174) tb_Mo_townLine 108 rfl) ib_12 ?_
    refine fg_icmp_geN (tgt := 216) (fg_ft (pc := 176) tb_Mo_townLine 109 rfl) (by decide) (by omega) (by decide) (fun c176 => ?_) (fun c176 => ?_)
    · refine fg_aloadn (fg_ft (pc := 216) tb_Mo_townLine 136 rfl) rfl ?_
      refine fg_getR (fg_ft (pc := 217) tb_Mo_townLine 137 rfl) ff_Mo_17 ly_287 rfl (fg_lt ly_287 (by decide)) (rh_287_10 R) ?_
      refine fg_iconst (fg_ft (pc := 220) tb_Mo_townLine 138 rfl) ic_3 ?_
      refine fg_dup2 (fg_ft (pc := 221) tb_Mo_townLine 139 rfl) rfl rfl ?_
      refine fg_ialdV (v := (nI (f.2.2.2.2.2 3))) (fg_ft (pc := 222) tb_Mo_townLine 140 rfl) ly_290 (fg_lt ly_290 (by decide)) (by omega) (h8.2.2.2.2.2.2.1 3 (by omega)) ?_
      refine fg_iconst (fg_ft (pc := 223) tb_Mo_townLine 141 rfl) ic_1 ?_
      refine fg_iaddN (fg_ft (pc := 224) tb_Mo_townLine 142 rfl) ?_
      refine fg_iastN (fg_ft (pc := 225) tb_Mo_townLine 143 rfl) ly_290 (fg_lt ly_290 (by decide)) (by omega) ?_
      show fg_wp _ _ _ _ _ _ _ _ _ (fg_u2 ν8 290 3 (nI ((f.2.2.2.2.2 3) + 1)), fg_rho R, 304)
      have hm : rz_RZ (fg_u2 ν8 290 3 (nI ((f.2.2.2.2.2 3) + 1))) b len (rz_tw (pz_K b len) (pz_V b len) (pz_S b len) len (pz_S b len Z.1) t.2 6) := by
        show rz_RZ _ b len (rz_sg (pz_K b len) (pz_V b len) (pz_S b len) (pz_S b len Z.1) t.2)
        unfold rz_sg rz_pr
        have ha2 : rz_nu (pz_K b len) (pz_V b len) (pz_S b len) 1 10 (rz_c3 3 12 (pz_S b len Z.1) t.2) = a := ha
        rw [ha2, hf, if_neg (by omega)]
        exact (h8).put
      have agm : rz_ag μ (fg_u2 ν8 290 3 (nI ((f.2.2.2.2.2 3) + 1))) := fun a j p q r => (fg_u2ne r).trans (ag8 a j p q r)
      refine fg_iloadn (fg_ft (pc := 226) tb_Mo_townLine 144 rfl) rfl ?_
      refine fg_bipush (fg_ft (pc := 227) tb_Mo_townLine 145 rfl) ib_7 ?_
      refine fg_icmp_neN (tgt := 237) (fg_ft (pc := 229) tb_Mo_townLine 146 rfl) (by decide) (by decide) (by decide) (fun c229 => ?_) (fun c229 => (absurd c229 (by decide)))
      refine fg_iloadn (fg_ft (pc := 237) tb_Mo_townLine 150 rfl) rfl ?_
      refine fg_bipush (fg_ft (pc := 238) tb_Mo_townLine 151 rfl) ib_8 ?_
      refine fg_icmp_neN (tgt := 251) (fg_ft (pc := 240) tb_Mo_townLine 152 rfl) (by decide) (by decide) (by decide) (fun c240 => ?_) (fun c240 => (absurd c240 (by decide)))
      refine fg_iloadn (fg_ft (pc := 251) tb_Mo_townLine 158 rfl) rfl ?_
      refine fg_bipush (fg_ft (pc := 252) tb_Mo_townLine 159 rfl) ib_9 ?_
      refine fg_icmp_neN (tgt := 267) (fg_ft (pc := 254) tb_Mo_townLine 160 rfl) (by decide) (by decide) (by decide) (fun c254 => ?_) (fun c254 => (absurd c254 (by decide)))
      refine fg_iloadn (fg_ft (pc := 267) tb_Mo_townLine 166 rfl) rfl ?_
      refine fg_bipush (fg_ft (pc := 268) tb_Mo_townLine 167 rfl) ib_10 ?_
      refine fg_icmp_neN (tgt := 287) (fg_ft (pc := 270) tb_Mo_townLine 168 rfl) (by decide) (by decide) (by decide) (fun c270 => ?_) (fun c270 => (absurd c270 (by decide)))
      refine fg_aloadn (fg_ft (pc := 287) tb_Mo_townLine 177 rfl) rfl ?_
      refine fg_callV (fg_ft (pc := 288) tb_Mo_townLine 178 rfl) cf_Mo_153 (fg_isOf ly_287 rfl (fg_lt ly_287 (by decide))) (as := []) (st := []) rfl rfl (Nat.le_of_ble_eq_true rfl) (Nat.le_refl _) (Nat.le_refl _) (ev_Mo_endsLine hle hb256 hm ?_)
      intro ν9 hg9 h9
      have ag9 := rz_ag_tr agm hg9
      show fg_wp _ _ _ _ _ _ _ _ _ (ν9, fg_rho R, 304)
      exact fg_vret (fg_ft (pc := 291) tb_Mo_townLine 179 rfl) rfl rfl (hQ _ ag9 h9)
    · refine fg_aloadn (fg_ft (pc := 179) tb_Mo_townLine 110 rfl) rfl ?_
      refine fg_getR (fg_ft (pc := 180) tb_Mo_townLine 111 rfl) ff_Mo_17 ly_287 rfl (fg_lt ly_287 (by decide)) (rh_287_10 R) ?_
      refine fg_bipush (fg_ft (pc := 183) tb_Mo_townLine 112 rfl) ib_55 ?_
      refine fg_iconst (fg_ft (pc := 185) tb_Mo_townLine 113 rfl) ic_2 ?_
      refine fg_aloadn (fg_ft (pc := 186) tb_Mo_townLine 114 rfl) rfl ?_
      refine fg_getR (fg_ft (pc := 187) tb_Mo_townLine 115 rfl) ff_Mo_17 ly_287 rfl (fg_lt ly_287 (by decide)) (rh_287_10 R) ?_
      refine fg_iconst (fg_ft (pc := 190) tb_Mo_townLine 116 rfl) ic_3 ?_
      refine fg_ialdV (v := (nI (f.2.2.2.2.2 3))) (fg_ft (pc := 191) tb_Mo_townLine 117 rfl) ly_290 (fg_lt ly_290 (by decide)) (by omega) (h8.2.2.2.2.2.2.1 3 (by omega)) ?_
      refine fg_imulN (fg_ft (pc := 192) tb_Mo_townLine 118 rfl) ?_
      refine fg_iaddN (fg_ft (pc := 193) tb_Mo_townLine 119 rfl) ?_
      refine fg_iloadn (fg_ft (pc := 194) tb_Mo_townLine 120 rfl) rfl ?_
      refine fg_iastN (fg_ft (pc := 195) tb_Mo_townLine 121 rfl) ly_290 (fg_lt ly_290 (by decide)) (by omega) ?_
      show fg_wp _ _ _ _ _ _ _ _ _ (fg_u2 ν8 290 (55 + (2 * (f.2.2.2.2.2 3))) (nI (a.1)), fg_rho R, 304)
      refine fg_aloadn (fg_ft (pc := 196) tb_Mo_townLine 122 rfl) rfl ?_
      refine fg_getR (fg_ft (pc := 197) tb_Mo_townLine 123 rfl) ff_Mo_17 ly_287 rfl (fg_lt ly_287 (by decide)) (rh_287_10 R) ?_
      refine fg_bipush (fg_ft (pc := 200) tb_Mo_townLine 124 rfl) ib_55 ?_
      refine fg_iconst (fg_ft (pc := 202) tb_Mo_townLine 125 rfl) ic_2 ?_
      refine fg_aloadn (fg_ft (pc := 203) tb_Mo_townLine 126 rfl) rfl ?_
      refine fg_getR (fg_ft (pc := 204) tb_Mo_townLine 127 rfl) ff_Mo_17 ly_287 rfl (fg_lt ly_287 (by decide)) (rh_287_10 R) ?_
      refine fg_iconst (fg_ft (pc := 207) tb_Mo_townLine 128 rfl) ic_3 ?_
      refine fg_ialdV (v := (nI (f.2.2.2.2.2 3))) (fg_ft (pc := 208) tb_Mo_townLine 129 rfl) ly_290 (fg_lt ly_290 (by decide)) (by omega) ((fg_u2ns (f := ν8) (a := 290) (k := (55 + (2 * (f.2.2.2.2.2 3)))) (b := 290) (j := 3) (x := (nI (a.1))) (by omega)).trans (h8.2.2.2.2.2.2.1 3 (by omega))) ?_
      refine fg_imulN (fg_ft (pc := 209) tb_Mo_townLine 130 rfl) ?_
      refine fg_iaddN (fg_ft (pc := 210) tb_Mo_townLine 131 rfl) ?_
      refine fg_iconst (fg_ft (pc := 211) tb_Mo_townLine 132 rfl) ic_1 ?_
      refine fg_iaddN (fg_ft (pc := 212) tb_Mo_townLine 133 rfl) ?_
      refine fg_iload (fg_ft (pc := 213) tb_Mo_townLine 134 rfl) rfl ?_
      refine fg_iastN (fg_ft (pc := 215) tb_Mo_townLine 135 rfl) ly_290 (fg_lt ly_290 (by decide)) (by omega) ?_
      show fg_wp _ _ _ _ _ _ _ _ _ (fg_u2 (fg_u2 ν8 290 (55 + (2 * (f.2.2.2.2.2 3))) (nI (a.1))) 290 ((55 + (2 * (f.2.2.2.2.2 3))) + 1) (nI (f.1)), fg_rho R, 304)
      refine fg_aloadn (fg_ft (pc := 216) tb_Mo_townLine 136 rfl) rfl ?_
      refine fg_getR (fg_ft (pc := 217) tb_Mo_townLine 137 rfl) ff_Mo_17 ly_287 rfl (fg_lt ly_287 (by decide)) (rh_287_10 R) ?_
      refine fg_iconst (fg_ft (pc := 220) tb_Mo_townLine 138 rfl) ic_3 ?_
      refine fg_dup2 (fg_ft (pc := 221) tb_Mo_townLine 139 rfl) rfl rfl ?_
      refine fg_ialdV (v := (nI (f.2.2.2.2.2 3))) (fg_ft (pc := 222) tb_Mo_townLine 140 rfl) ly_290 (fg_lt ly_290 (by decide)) (by omega) ((fg_u2ns (f := (fg_u2 ν8 290 (55 + (2 * (f.2.2.2.2.2 3))) (nI (a.1)))) (a := 290) (k := ((55 + (2 * (f.2.2.2.2.2 3))) + 1)) (b := 290) (j := 3) (x := (nI (f.1))) (by omega)).trans ((fg_u2ns (f := ν8) (a := 290) (k := (55 + (2 * (f.2.2.2.2.2 3)))) (b := 290) (j := 3) (x := (nI (a.1))) (by omega)).trans (h8.2.2.2.2.2.2.1 3 (by omega)))) ?_
      refine fg_iconst (fg_ft (pc := 223) tb_Mo_townLine 141 rfl) ic_1 ?_
      refine fg_iaddN (fg_ft (pc := 224) tb_Mo_townLine 142 rfl) ?_
      refine fg_iastN (fg_ft (pc := 225) tb_Mo_townLine 143 rfl) ly_290 (fg_lt ly_290 (by decide)) (by omega) ?_
      show fg_wp _ _ _ _ _ _ _ _ _ (fg_u2 (fg_u2 (fg_u2 ν8 290 (55 + (2 * (f.2.2.2.2.2 3))) (nI (a.1))) 290 ((55 + (2 * (f.2.2.2.2.2 3))) + 1) (nI (f.1))) 290 3 (nI ((f.2.2.2.2.2 3) + 1)), fg_rho R, 304)
      have hm : rz_RZ (fg_u2 (fg_u2 (fg_u2 ν8 290 (55 + (2 * (f.2.2.2.2.2 3))) (nI (a.1))) 290 ((55 + (2 * (f.2.2.2.2.2 3))) + 1) (nI (f.1))) 290 3 (nI ((f.2.2.2.2.2 3) + 1))) b len (rz_tw (pz_K b len) (pz_V b len) (pz_S b len) len (pz_S b len Z.1) t.2 6) := by
        show rz_RZ _ b len (rz_sg (pz_K b len) (pz_V b len) (pz_S b len) (pz_S b len Z.1) t.2)
        unfold rz_sg rz_pr
        have ha2 : rz_nu (pz_K b len) (pz_V b len) (pz_S b len) 1 10 (rz_c3 3 12 (pz_S b len Z.1) t.2) = a := ha
        rw [ha2, hf, if_pos (by omega)]
        exact (((h8).put).put).put
      have agm : rz_ag μ (fg_u2 (fg_u2 (fg_u2 ν8 290 (55 + (2 * (f.2.2.2.2.2 3))) (nI (a.1))) 290 ((55 + (2 * (f.2.2.2.2.2 3))) + 1) (nI (f.1))) 290 3 (nI ((f.2.2.2.2.2 3) + 1))) := fun a j p q r => (fg_u2ne r).trans ((fg_u2ne r).trans ((fg_u2ne r).trans (ag8 a j p q r)))
      refine fg_iloadn (fg_ft (pc := 226) tb_Mo_townLine 144 rfl) rfl ?_
      refine fg_bipush (fg_ft (pc := 227) tb_Mo_townLine 145 rfl) ib_7 ?_
      refine fg_icmp_neN (tgt := 237) (fg_ft (pc := 229) tb_Mo_townLine 146 rfl) (by decide) (by decide) (by decide) (fun c229 => ?_) (fun c229 => (absurd c229 (by decide)))
      refine fg_iloadn (fg_ft (pc := 237) tb_Mo_townLine 150 rfl) rfl ?_
      refine fg_bipush (fg_ft (pc := 238) tb_Mo_townLine 151 rfl) ib_8 ?_
      refine fg_icmp_neN (tgt := 251) (fg_ft (pc := 240) tb_Mo_townLine 152 rfl) (by decide) (by decide) (by decide) (fun c240 => ?_) (fun c240 => (absurd c240 (by decide)))
      refine fg_iloadn (fg_ft (pc := 251) tb_Mo_townLine 158 rfl) rfl ?_
      refine fg_bipush (fg_ft (pc := 252) tb_Mo_townLine 159 rfl) ib_9 ?_
      refine fg_icmp_neN (tgt := 267) (fg_ft (pc := 254) tb_Mo_townLine 160 rfl) (by decide) (by decide) (by decide) (fun c254 => ?_) (fun c254 => (absurd c254 (by decide)))
      refine fg_iloadn (fg_ft (pc := 267) tb_Mo_townLine 166 rfl) rfl ?_
      refine fg_bipush (fg_ft (pc := 268) tb_Mo_townLine 167 rfl) ib_10 ?_
      refine fg_icmp_neN (tgt := 287) (fg_ft (pc := 270) tb_Mo_townLine 168 rfl) (by decide) (by decide) (by decide) (fun c270 => ?_) (fun c270 => (absurd c270 (by decide)))
      refine fg_aloadn (fg_ft (pc := 287) tb_Mo_townLine 177 rfl) rfl ?_
      refine fg_callV (fg_ft (pc := 288) tb_Mo_townLine 178 rfl) cf_Mo_153 (fg_isOf ly_287 rfl (fg_lt ly_287 (by decide))) (as := []) (st := []) rfl rfl (Nat.le_of_ble_eq_true rfl) (Nat.le_refl _) (Nat.le_refl _) (ev_Mo_endsLine hle hb256 hm ?_)
      intro ν10 hg10 h10
      have ag10 := rz_ag_tr agm hg10
      show fg_wp _ _ _ _ _ _ _ _ _ (ν10, fg_rho R, 304)
      exact fg_vret (fg_ft (pc := 291) tb_Mo_townLine 179 rfl) rfl rfl (hQ _ ag10 h10)
theorem ev_Mo_townLine_7 {E : fg_E} {d : Nat} {μ : Nat → Nat → Int32} {R : fg_T4} {Q : Option Value → fg_M → Prop} {b : Nat → Nat} {len : Nat} {Z : rz_Z} (hle : len ≤ 600) (hb256 : ∀ j, b j < 256) (h : rz_RZ μ b len Z) (hcnt : ∀ k, 1 ≤ k → k ≤ 6 → Z.2.2.2.2 k ≤ 700) {t : Nat × rz_Z} (ht : rz_ta (pz_K b len) (pz_V b len) (pz_S b len) 1 10 Z = t) (hk : t.1 = 7) (hQ : ∀ μ' : Nat → Nat → Int32, rz_ag μ μ' → rz_RZ μ' b len (rz_el (pz_K b len) (pz_S b len) (rz_tw (pz_K b len) (pz_V b len) (pz_S b len) len (pz_S b len Z.1) t.2 7)) → Q none (μ', fg_rho R, 304)) : fg_Ev E yy_Mo_townLine (d + 9) [.ref 287] (μ, fg_rho R, 304) 304 Q := by
  refine fg_intro (by decide +kernel) (Nat.le_of_ble_eq_true rfl) (fg_okAs rfl) (Nat.le_refl _) ?_
  refine fg_aloadn (fg_ft (pc := 0) tb_Mo_townLine 0 rfl) rfl ?_
  refine fg_getV (v := (nI (pz_S b len Z.1))) (fg_ft (pc := 1) tb_Mo_townLine 1 rfl) ff_Mo_81 ly_287 rfl (fg_lt ly_287 (by decide)) h.2.1.2.1 ?_
  refine fg_istoren (fg_ft (pc := 4) tb_Mo_townLine 2 rfl) (Nat.le_of_ble_eq_true rfl) ?_
  refine fg_aloadn (fg_ft (pc := 5) tb_Mo_townLine 3 rfl) rfl ?_
  refine fg_iconst (fg_ft (pc := 6) tb_Mo_townLine 4 rfl) ic_1 ?_
  refine fg_bipush (fg_ft (pc := 7) tb_Mo_townLine 5 rfl) ib_10 ?_
  refine fg_callV (fg_ft (pc := 9) tb_Mo_townLine 6 rfl) cf_Mo_135 (fg_isOf ly_287 rfl (fg_lt ly_287 (by decide))) (as := [.int (nI 1), .int (nI 10)]) (st := []) rfl rfl (Nat.le_of_ble_eq_true rfl) (Nat.le_refl _) (Nat.le_refl _) (ev_Mo_takes (lo := 1) (hi := 10) hle hb256 h (by decide) (by decide) ?_)
  intro ν1 hg1 h1
  have ag1 := hg1
  rw [ht] at h1 ⊢
  show fg_wp _ _ _ _ _ _ _ _ _ (ν1, fg_rho R, 304)
  have hCt : t.2.2.2.2.2 = Z.2.2.2.2 := by rw [← ht, rz_ta_C]
  have hcn : ∀ i, 1 ≤ i → i ≤ 6 → t.2.2.2.2.2 i ≤ 700 := by rw [hCt]; exact hcnt
  refine fg_top (y := nI 7) (congrArg nI hk) ?_
  refine fg_istoren (fg_ft (pc := 12) tb_Mo_townLine 7 rfl) (Nat.le_of_ble_eq_true rfl) ?_
  refine fg_iloadn (fg_ft (pc := 13) tb_Mo_townLine 8 rfl) rfl ?_
  refine fg_iconst (fg_ft (pc := 14) tb_Mo_townLine 9 rfl) ic_1 ?_
  refine fg_icmp_neN (tgt := 31) (fg_ft (pc := 15) tb_Mo_townLine 10 rfl) (by decide) (by decide) (by decide) (fun c15 => ?_) (fun c15 => (absurd c15 (by decide)))
  refine fg_iloadn (fg_ft (pc := 31) tb_Mo_townLine 19 rfl) rfl ?_
  refine fg_iconst (fg_ft (pc := 32) tb_Mo_townLine 20 rfl) ic_2 ?_
  refine fg_icmp_neN (tgt := 41) (fg_ft (pc := 33) tb_Mo_townLine 21 rfl) (by decide) (by decide) (by decide) (fun c33 => ?_) (fun c33 => (absurd c33 (by decide)))
  refine fg_iloadn (fg_ft (pc := 41) tb_Mo_townLine 25 rfl) rfl ?_
  refine fg_iconst (fg_ft (pc := 42) tb_Mo_townLine 26 rfl) ic_3 ?_
  refine fg_icmp_neN (tgt := 107) (fg_ft (pc := 43) tb_Mo_townLine 27 rfl) (by decide) (by decide) (by decide) (fun c43 => ?_) (fun c43 => (absurd c43 (by decide)))
  refine fg_iloadn (fg_ft (pc := 107) tb_Mo_townLine 69 rfl) rfl ?_
  refine fg_iconst (fg_ft (pc := 108) tb_Mo_townLine 70 rfl) ic_4 ?_
  refine fg_icmp_eqN (tgt := 117) (fg_ft (pc := 109) tb_Mo_townLine 71 rfl) (by decide) (by decide) (by decide) (fun c109 => (absurd c109 (by decide))) (fun c109 => ?_)
  refine fg_iloadn (fg_ft (pc := 112) tb_Mo_townLine 72 rfl) rfl ?_
  refine fg_iconst (fg_ft (pc := 113) tb_Mo_townLine 73 rfl) ic_5 ?_
  refine fg_icmp_neN (tgt := 131) (fg_ft (pc := 114) tb_Mo_townLine 74 rfl) (by decide) (by decide) (by decide) (fun c114 => ?_) (fun c114 => (absurd c114 (by decide)))
  refine fg_iloadn (fg_ft (pc := 131) tb_Mo_townLine 83 rfl) rfl ?_
  refine fg_bipush (fg_ft (pc := 132) tb_Mo_townLine 84 rfl) ib_6 ?_
  refine fg_icmp_neN (tgt := 226) (fg_ft (pc := 134) tb_Mo_townLine 85 rfl) (by decide) (by decide) (by decide) (fun c134 => ?_) (fun c134 => (absurd c134 (by decide)))
  refine fg_iloadn (fg_ft (pc := 226) tb_Mo_townLine 144 rfl) rfl ?_
  refine fg_bipush (fg_ft (pc := 227) tb_Mo_townLine 145 rfl) ib_7 ?_
  refine fg_icmp_neN (tgt := 237) (fg_ft (pc := 229) tb_Mo_townLine 146 rfl) (by decide) (by decide) (by decide) (fun c229 => (absurd c229 (by decide))) (fun c229 => ?_)
  refine fg_aloadn (fg_ft (pc := 232) tb_Mo_townLine 147 rfl) rfl ?_
  refine fg_iloadn (fg_ft (pc := 233) tb_Mo_townLine 148 rfl) rfl ?_
  refine fg_callV (fg_ft (pc := 234) tb_Mo_townLine 149 rfl) cf_Mo_146 (fg_isOf ly_287 rfl (fg_lt ly_287 (by decide))) (as := [.int (nI (pz_S b len Z.1))]) (st := []) rfl rfl (Nat.le_of_ble_eq_true rfl) (Nat.le_refl _) (Nat.le_refl _) (ev_Mo_meetLine hle hb256 h1 (rz_S_le (j := Z.1) hle) hcn ?_)
  intro ν2 hg2 h2
  have ag2 := rz_ag_tr ag1 hg2
  show fg_wp _ _ _ _ _ _ _ _ _ (ν2, fg_rho R, 304)
  have hm : rz_RZ ν2 b len (rz_tw (pz_K b len) (pz_V b len) (pz_S b len) len (pz_S b len Z.1) t.2 7) := h2
  have agm : rz_ag μ ν2 := fun a j p q r => ag2 a j p q r
  refine fg_iloadn (fg_ft (pc := 237) tb_Mo_townLine 150 rfl) rfl ?_
  refine fg_bipush (fg_ft (pc := 238) tb_Mo_townLine 151 rfl) ib_8 ?_
  refine fg_icmp_neN (tgt := 251) (fg_ft (pc := 240) tb_Mo_townLine 152 rfl) (by decide) (by decide) (by decide) (fun c240 => ?_) (fun c240 => (absurd c240 (by decide)))
  refine fg_iloadn (fg_ft (pc := 251) tb_Mo_townLine 158 rfl) rfl ?_
  refine fg_bipush (fg_ft (pc := 252) tb_Mo_townLine 159 rfl) ib_9 ?_
  refine fg_icmp_neN (tgt := 267) (fg_ft (pc := 254) tb_Mo_townLine 160 rfl) (by decide) (by decide) (by decide) (fun c254 => ?_) (fun c254 => (absurd c254 (by decide)))
  refine fg_iloadn (fg_ft (pc := 267) tb_Mo_townLine 166 rfl) rfl ?_
  refine fg_bipush (fg_ft (pc := 268) tb_Mo_townLine 167 rfl) ib_10 ?_
  refine fg_icmp_neN (tgt := 287) (fg_ft (pc := 270) tb_Mo_townLine 168 rfl) (by decide) (by decide) (by decide) (fun c270 => ?_) (fun c270 => (absurd c270 (by decide)))
  refine fg_aloadn (fg_ft (pc := 287) tb_Mo_townLine 177 rfl) rfl ?_
  refine fg_callV (fg_ft (pc := 288) tb_Mo_townLine 178 rfl) cf_Mo_153 (fg_isOf ly_287 rfl (fg_lt ly_287 (by decide))) (as := []) (st := []) rfl rfl (Nat.le_of_ble_eq_true rfl) (Nat.le_refl _) (Nat.le_refl _) (ev_Mo_endsLine hle hb256 hm ?_)
  intro ν3 hg3 h3
  have ag3 := rz_ag_tr agm hg3
  show fg_wp _ _ _ _ _ _ _ _ _ (ν3, fg_rho R, 304)
  exact fg_vret (fg_ft (pc := 291) tb_Mo_townLine 179 rfl) rfl rfl (hQ _ ag3 h3)
theorem ev_Mo_townLine_8 {E : fg_E} {d : Nat} {μ : Nat → Nat → Int32} {R : fg_T4} {Q : Option Value → fg_M → Prop} {b : Nat → Nat} {len : Nat} {Z : rz_Z} (hle : len ≤ 600) (hb256 : ∀ j, b j < 256) (h : rz_RZ μ b len Z) (hcnt : ∀ k, 1 ≤ k → k ≤ 6 → Z.2.2.2.2 k ≤ 700) {t : Nat × rz_Z} (ht : rz_ta (pz_K b len) (pz_V b len) (pz_S b len) 1 10 Z = t) (hk : t.1 = 8) (hQ : ∀ μ' : Nat → Nat → Int32, rz_ag μ μ' → rz_RZ μ' b len (rz_el (pz_K b len) (pz_S b len) (rz_tw (pz_K b len) (pz_V b len) (pz_S b len) len (pz_S b len Z.1) t.2 8)) → Q none (μ', fg_rho R, 304)) : fg_Ev E yy_Mo_townLine (d + 9) [.ref 287] (μ, fg_rho R, 304) 304 Q := by
  refine fg_intro (by decide +kernel) (Nat.le_of_ble_eq_true rfl) (fg_okAs rfl) (Nat.le_refl _) ?_
  refine fg_aloadn (fg_ft (pc := 0) tb_Mo_townLine 0 rfl) rfl ?_
  refine fg_getV (v := (nI (pz_S b len Z.1))) (fg_ft (pc := 1) tb_Mo_townLine 1 rfl) ff_Mo_81 ly_287 rfl (fg_lt ly_287 (by decide)) h.2.1.2.1 ?_
  refine fg_istoren (fg_ft (pc := 4) tb_Mo_townLine 2 rfl) (Nat.le_of_ble_eq_true rfl) ?_
  refine fg_aloadn (fg_ft (pc := 5) tb_Mo_townLine 3 rfl) rfl ?_
  refine fg_iconst (fg_ft (pc := 6) tb_Mo_townLine 4 rfl) ic_1 ?_
  refine fg_bipush (fg_ft (pc := 7) tb_Mo_townLine 5 rfl) ib_10 ?_
  refine fg_callV (fg_ft (pc := 9) tb_Mo_townLine 6 rfl) cf_Mo_135 (fg_isOf ly_287 rfl (fg_lt ly_287 (by decide))) (as := [.int (nI 1), .int (nI 10)]) (st := []) rfl rfl (Nat.le_of_ble_eq_true rfl) (Nat.le_refl _) (Nat.le_refl _) (ev_Mo_takes (lo := 1) (hi := 10) hle hb256 h (by decide) (by decide) ?_)
  intro ν1 hg1 h1
  have ag1 := hg1
  rw [ht] at h1 ⊢
  show fg_wp _ _ _ _ _ _ _ _ _ (ν1, fg_rho R, 304)
  have hCt : t.2.2.2.2.2 = Z.2.2.2.2 := by rw [← ht, rz_ta_C]
  have hcn : ∀ i, 1 ≤ i → i ≤ 6 → t.2.2.2.2.2 i ≤ 700 := by rw [hCt]; exact hcnt
  refine fg_top (y := nI 8) (congrArg nI hk) ?_
  refine fg_istoren (fg_ft (pc := 12) tb_Mo_townLine 7 rfl) (Nat.le_of_ble_eq_true rfl) ?_
  refine fg_iloadn (fg_ft (pc := 13) tb_Mo_townLine 8 rfl) rfl ?_
  refine fg_iconst (fg_ft (pc := 14) tb_Mo_townLine 9 rfl) ic_1 ?_
  refine fg_icmp_neN (tgt := 31) (fg_ft (pc := 15) tb_Mo_townLine 10 rfl) (by decide) (by decide) (by decide) (fun c15 => ?_) (fun c15 => (absurd c15 (by decide)))
  refine fg_iloadn (fg_ft (pc := 31) tb_Mo_townLine 19 rfl) rfl ?_
  refine fg_iconst (fg_ft (pc := 32) tb_Mo_townLine 20 rfl) ic_2 ?_
  refine fg_icmp_neN (tgt := 41) (fg_ft (pc := 33) tb_Mo_townLine 21 rfl) (by decide) (by decide) (by decide) (fun c33 => ?_) (fun c33 => (absurd c33 (by decide)))
  refine fg_iloadn (fg_ft (pc := 41) tb_Mo_townLine 25 rfl) rfl ?_
  refine fg_iconst (fg_ft (pc := 42) tb_Mo_townLine 26 rfl) ic_3 ?_
  refine fg_icmp_neN (tgt := 107) (fg_ft (pc := 43) tb_Mo_townLine 27 rfl) (by decide) (by decide) (by decide) (fun c43 => ?_) (fun c43 => (absurd c43 (by decide)))
  refine fg_iloadn (fg_ft (pc := 107) tb_Mo_townLine 69 rfl) rfl ?_
  refine fg_iconst (fg_ft (pc := 108) tb_Mo_townLine 70 rfl) ic_4 ?_
  refine fg_icmp_eqN (tgt := 117) (fg_ft (pc := 109) tb_Mo_townLine 71 rfl) (by decide) (by decide) (by decide) (fun c109 => (absurd c109 (by decide))) (fun c109 => ?_)
  refine fg_iloadn (fg_ft (pc := 112) tb_Mo_townLine 72 rfl) rfl ?_
  refine fg_iconst (fg_ft (pc := 113) tb_Mo_townLine 73 rfl) ic_5 ?_
  refine fg_icmp_neN (tgt := 131) (fg_ft (pc := 114) tb_Mo_townLine 74 rfl) (by decide) (by decide) (by decide) (fun c114 => ?_) (fun c114 => (absurd c114 (by decide)))
  refine fg_iloadn (fg_ft (pc := 131) tb_Mo_townLine 83 rfl) rfl ?_
  refine fg_bipush (fg_ft (pc := 132) tb_Mo_townLine 84 rfl) ib_6 ?_
  refine fg_icmp_neN (tgt := 226) (fg_ft (pc := 134) tb_Mo_townLine 85 rfl) (by decide) (by decide) (by decide) (fun c134 => ?_) (fun c134 => (absurd c134 (by decide)))
  refine fg_iloadn (fg_ft (pc := 226) tb_Mo_townLine 144 rfl) rfl ?_
  refine fg_bipush (fg_ft (pc := 227) tb_Mo_townLine 145 rfl) ib_7 ?_
  refine fg_icmp_neN (tgt := 237) (fg_ft (pc := 229) tb_Mo_townLine 146 rfl) (by decide) (by decide) (by decide) (fun c229 => ?_) (fun c229 => (absurd c229 (by decide)))
  refine fg_iloadn (fg_ft (pc := 237) tb_Mo_townLine 150 rfl) rfl ?_
  refine fg_bipush (fg_ft (pc := 238) tb_Mo_townLine 151 rfl) ib_8 ?_
  refine fg_icmp_neN (tgt := 251) (fg_ft (pc := 240) tb_Mo_townLine 152 rfl) (by decide) (by decide) (by decide) (fun c240 => (absurd c240 (by decide))) (fun c240 => ?_)
  refine fg_aloadn (fg_ft (pc := 243) tb_Mo_townLine 153 rfl) rfl ?_
  refine fg_iconst (fg_ft (pc := 244) tb_Mo_townLine 154 rfl) ic_5 ?_
  refine fg_bipush (fg_ft (pc := 245) tb_Mo_townLine 155 rfl) ib_127 ?_
  refine fg_iloadn (fg_ft (pc := 247) tb_Mo_townLine 156 rfl) rfl ?_
  refine fg_callV (fg_ft (pc := 248) tb_Mo_townLine 157 rfl) cf_Mo_149 (fg_isOf ly_287 rfl (fg_lt ly_287 (by decide))) (as := [.int (nI 5), .int (nI 127), .int (nI (pz_S b len Z.1))]) (st := []) rfl rfl (Nat.le_of_ble_eq_true rfl) (Nat.le_refl _) (Nat.le_refl _) (ev_Mo_skillLine5 hle hb256 h1 (rz_S_le (j := Z.1) hle) hcn ?_)
  intro ν2 hg2 h2
  have ag2 := rz_ag_tr ag1 hg2
  show fg_wp _ _ _ _ _ _ _ _ _ (ν2, fg_rho R, 304)
  have hm : rz_RZ ν2 b len (rz_tw (pz_K b len) (pz_V b len) (pz_S b len) len (pz_S b len Z.1) t.2 8) := h2
  have agm : rz_ag μ ν2 := fun a j p q r => ag2 a j p q r
  refine fg_iloadn (fg_ft (pc := 251) tb_Mo_townLine 158 rfl) rfl ?_
  refine fg_bipush (fg_ft (pc := 252) tb_Mo_townLine 159 rfl) ib_9 ?_
  refine fg_icmp_neN (tgt := 267) (fg_ft (pc := 254) tb_Mo_townLine 160 rfl) (by decide) (by decide) (by decide) (fun c254 => ?_) (fun c254 => (absurd c254 (by decide)))
  refine fg_iloadn (fg_ft (pc := 267) tb_Mo_townLine 166 rfl) rfl ?_
  refine fg_bipush (fg_ft (pc := 268) tb_Mo_townLine 167 rfl) ib_10 ?_
  refine fg_icmp_neN (tgt := 287) (fg_ft (pc := 270) tb_Mo_townLine 168 rfl) (by decide) (by decide) (by decide) (fun c270 => ?_) (fun c270 => (absurd c270 (by decide)))
  refine fg_aloadn (fg_ft (pc := 287) tb_Mo_townLine 177 rfl) rfl ?_
  refine fg_callV (fg_ft (pc := 288) tb_Mo_townLine 178 rfl) cf_Mo_153 (fg_isOf ly_287 rfl (fg_lt ly_287 (by decide))) (as := []) (st := []) rfl rfl (Nat.le_of_ble_eq_true rfl) (Nat.le_refl _) (Nat.le_refl _) (ev_Mo_endsLine hle hb256 hm ?_)
  intro ν3 hg3 h3
  have ag3 := rz_ag_tr agm hg3
  show fg_wp _ _ _ _ _ _ _ _ _ (ν3, fg_rho R, 304)
  exact fg_vret (fg_ft (pc := 291) tb_Mo_townLine 179 rfl) rfl rfl (hQ _ ag3 h3)
theorem ev_Mo_townLine_9 {E : fg_E} {d : Nat} {μ : Nat → Nat → Int32} {R : fg_T4} {Q : Option Value → fg_M → Prop} {b : Nat → Nat} {len : Nat} {Z : rz_Z} (hle : len ≤ 600) (hb256 : ∀ j, b j < 256) (h : rz_RZ μ b len Z) (hcnt : ∀ k, 1 ≤ k → k ≤ 6 → Z.2.2.2.2 k ≤ 700) {t : Nat × rz_Z} (ht : rz_ta (pz_K b len) (pz_V b len) (pz_S b len) 1 10 Z = t) (hk : t.1 = 9) (hQ : ∀ μ' : Nat → Nat → Int32, rz_ag μ μ' → rz_RZ μ' b len (rz_el (pz_K b len) (pz_S b len) (rz_tw (pz_K b len) (pz_V b len) (pz_S b len) len (pz_S b len Z.1) t.2 9)) → Q none (μ', fg_rho R, 304)) : fg_Ev E yy_Mo_townLine (d + 9) [.ref 287] (μ, fg_rho R, 304) 304 Q := by
  refine fg_intro (by decide +kernel) (Nat.le_of_ble_eq_true rfl) (fg_okAs rfl) (Nat.le_refl _) ?_
  refine fg_aloadn (fg_ft (pc := 0) tb_Mo_townLine 0 rfl) rfl ?_
  refine fg_getV (v := (nI (pz_S b len Z.1))) (fg_ft (pc := 1) tb_Mo_townLine 1 rfl) ff_Mo_81 ly_287 rfl (fg_lt ly_287 (by decide)) h.2.1.2.1 ?_
  refine fg_istoren (fg_ft (pc := 4) tb_Mo_townLine 2 rfl) (Nat.le_of_ble_eq_true rfl) ?_
  refine fg_aloadn (fg_ft (pc := 5) tb_Mo_townLine 3 rfl) rfl ?_
  refine fg_iconst (fg_ft (pc := 6) tb_Mo_townLine 4 rfl) ic_1 ?_
  refine fg_bipush (fg_ft (pc := 7) tb_Mo_townLine 5 rfl) ib_10 ?_
  refine fg_callV (fg_ft (pc := 9) tb_Mo_townLine 6 rfl) cf_Mo_135 (fg_isOf ly_287 rfl (fg_lt ly_287 (by decide))) (as := [.int (nI 1), .int (nI 10)]) (st := []) rfl rfl (Nat.le_of_ble_eq_true rfl) (Nat.le_refl _) (Nat.le_refl _) (ev_Mo_takes (lo := 1) (hi := 10) hle hb256 h (by decide) (by decide) ?_)
  intro ν1 hg1 h1
  have ag1 := hg1
  rw [ht] at h1 ⊢
  show fg_wp _ _ _ _ _ _ _ _ _ (ν1, fg_rho R, 304)
  have hCt : t.2.2.2.2.2 = Z.2.2.2.2 := by rw [← ht, rz_ta_C]
  have hcn : ∀ i, 1 ≤ i → i ≤ 6 → t.2.2.2.2.2 i ≤ 700 := by rw [hCt]; exact hcnt
  refine fg_top (y := nI 9) (congrArg nI hk) ?_
  refine fg_istoren (fg_ft (pc := 12) tb_Mo_townLine 7 rfl) (Nat.le_of_ble_eq_true rfl) ?_
  refine fg_iloadn (fg_ft (pc := 13) tb_Mo_townLine 8 rfl) rfl ?_
  refine fg_iconst (fg_ft (pc := 14) tb_Mo_townLine 9 rfl) ic_1 ?_
  refine fg_icmp_neN (tgt := 31) (fg_ft (pc := 15) tb_Mo_townLine 10 rfl) (by decide) (by decide) (by decide) (fun c15 => ?_) (fun c15 => (absurd c15 (by decide)))
  refine fg_iloadn (fg_ft (pc := 31) tb_Mo_townLine 19 rfl) rfl ?_
  refine fg_iconst (fg_ft (pc := 32) tb_Mo_townLine 20 rfl) ic_2 ?_
  refine fg_icmp_neN (tgt := 41) (fg_ft (pc := 33) tb_Mo_townLine 21 rfl) (by decide) (by decide) (by decide) (fun c33 => ?_) (fun c33 => (absurd c33 (by decide)))
  refine fg_iloadn (fg_ft (pc := 41) tb_Mo_townLine 25 rfl) rfl ?_
  refine fg_iconst (fg_ft (pc := 42) tb_Mo_townLine 26 rfl) ic_3 ?_
  refine fg_icmp_neN (tgt := 107) (fg_ft (pc := 43) tb_Mo_townLine 27 rfl) (by decide) (by decide) (by decide) (fun c43 => ?_) (fun c43 => (absurd c43 (by decide)))
  refine fg_iloadn (fg_ft (pc := 107) tb_Mo_townLine 69 rfl) rfl ?_
  refine fg_iconst (fg_ft (pc := 108) tb_Mo_townLine 70 rfl) ic_4 ?_
  refine fg_icmp_eqN (tgt := 117) (fg_ft (pc := 109) tb_Mo_townLine 71 rfl) (by decide) (by decide) (by decide) (fun c109 => (absurd c109 (by decide))) (fun c109 => ?_)
  refine fg_iloadn (fg_ft (pc := 112) tb_Mo_townLine 72 rfl) rfl ?_
  refine fg_iconst (fg_ft (pc := 113) tb_Mo_townLine 73 rfl) ic_5 ?_
  refine fg_icmp_neN (tgt := 131) (fg_ft (pc := 114) tb_Mo_townLine 74 rfl) (by decide) (by decide) (by decide) (fun c114 => ?_) (fun c114 => (absurd c114 (by decide)))
  refine fg_iloadn (fg_ft (pc := 131) tb_Mo_townLine 83 rfl) rfl ?_
  refine fg_bipush (fg_ft (pc := 132) tb_Mo_townLine 84 rfl) ib_6 ?_
  refine fg_icmp_neN (tgt := 226) (fg_ft (pc := 134) tb_Mo_townLine 85 rfl) (by decide) (by decide) (by decide) (fun c134 => ?_) (fun c134 => (absurd c134 (by decide)))
  refine fg_iloadn (fg_ft (pc := 226) tb_Mo_townLine 144 rfl) rfl ?_
  refine fg_bipush (fg_ft (pc := 227) tb_Mo_townLine 145 rfl) ib_7 ?_
  refine fg_icmp_neN (tgt := 237) (fg_ft (pc := 229) tb_Mo_townLine 146 rfl) (by decide) (by decide) (by decide) (fun c229 => ?_) (fun c229 => (absurd c229 (by decide)))
  refine fg_iloadn (fg_ft (pc := 237) tb_Mo_townLine 150 rfl) rfl ?_
  refine fg_bipush (fg_ft (pc := 238) tb_Mo_townLine 151 rfl) ib_8 ?_
  refine fg_icmp_neN (tgt := 251) (fg_ft (pc := 240) tb_Mo_townLine 152 rfl) (by decide) (by decide) (by decide) (fun c240 => ?_) (fun c240 => (absurd c240 (by decide)))
  refine fg_iloadn (fg_ft (pc := 251) tb_Mo_townLine 158 rfl) rfl ?_
  refine fg_bipush (fg_ft (pc := 252) tb_Mo_townLine 159 rfl) ib_9 ?_
  refine fg_icmp_neN (tgt := 267) (fg_ft (pc := 254) tb_Mo_townLine 160 rfl) (by decide) (by decide) (by decide) (fun c254 => (absurd c254 (by decide))) (fun c254 => ?_)
  refine fg_aloadn (fg_ft (pc := 257) tb_Mo_townLine 161 rfl) rfl ?_
  refine fg_bipush (fg_ft (pc := 258) tb_Mo_townLine 162 rfl) ib_6 ?_
  refine fg_sipush (fg_ft (pc := 260) tb_Mo_townLine 163 rfl) is_139 ?_
  refine fg_iloadn (fg_ft (pc := 263) tb_Mo_townLine 164 rfl) rfl ?_
  refine fg_callV (fg_ft (pc := 264) tb_Mo_townLine 165 rfl) cf_Mo_149 (fg_isOf ly_287 rfl (fg_lt ly_287 (by decide))) (as := [.int (nI 6), .int (nI 139), .int (nI (pz_S b len Z.1))]) (st := []) rfl rfl (Nat.le_of_ble_eq_true rfl) (Nat.le_refl _) (Nat.le_refl _) (ev_Mo_skillLine6 hle hb256 h1 (rz_S_le (j := Z.1) hle) hcn ?_)
  intro ν2 hg2 h2
  have ag2 := rz_ag_tr ag1 hg2
  show fg_wp _ _ _ _ _ _ _ _ _ (ν2, fg_rho R, 304)
  have hm : rz_RZ ν2 b len (rz_tw (pz_K b len) (pz_V b len) (pz_S b len) len (pz_S b len Z.1) t.2 9) := h2
  have agm : rz_ag μ ν2 := fun a j p q r => ag2 a j p q r
  refine fg_iloadn (fg_ft (pc := 267) tb_Mo_townLine 166 rfl) rfl ?_
  refine fg_bipush (fg_ft (pc := 268) tb_Mo_townLine 167 rfl) ib_10 ?_
  refine fg_icmp_neN (tgt := 287) (fg_ft (pc := 270) tb_Mo_townLine 168 rfl) (by decide) (by decide) (by decide) (fun c270 => ?_) (fun c270 => (absurd c270 (by decide)))
  refine fg_aloadn (fg_ft (pc := 287) tb_Mo_townLine 177 rfl) rfl ?_
  refine fg_callV (fg_ft (pc := 288) tb_Mo_townLine 178 rfl) cf_Mo_153 (fg_isOf ly_287 rfl (fg_lt ly_287 (by decide))) (as := []) (st := []) rfl rfl (Nat.le_of_ble_eq_true rfl) (Nat.le_refl _) (Nat.le_refl _) (ev_Mo_endsLine hle hb256 hm ?_)
  intro ν3 hg3 h3
  have ag3 := rz_ag_tr agm hg3
  show fg_wp _ _ _ _ _ _ _ _ _ (ν3, fg_rho R, 304)
  exact fg_vret (fg_ft (pc := 291) tb_Mo_townLine 179 rfl) rfl rfl (hQ _ ag3 h3)
theorem ev_Mo_townLine_10 {E : fg_E} {d : Nat} {μ : Nat → Nat → Int32} {R : fg_T4} {Q : Option Value → fg_M → Prop} {b : Nat → Nat} {len : Nat} {Z : rz_Z} (hle : len ≤ 600) (hb256 : ∀ j, b j < 256) (h : rz_RZ μ b len Z) (hcnt : ∀ k, 1 ≤ k → k ≤ 6 → Z.2.2.2.2 k ≤ 700) {t : Nat × rz_Z} (ht : rz_ta (pz_K b len) (pz_V b len) (pz_S b len) 1 10 Z = t) (hk : t.1 = 10) (hQ : ∀ μ' : Nat → Nat → Int32, rz_ag μ μ' → rz_RZ μ' b len (rz_el (pz_K b len) (pz_S b len) (rz_tw (pz_K b len) (pz_V b len) (pz_S b len) len (pz_S b len Z.1) t.2 10)) → Q none (μ', fg_rho R, 304)) : fg_Ev E yy_Mo_townLine (d + 9) [.ref 287] (μ, fg_rho R, 304) 304 Q := by
  refine fg_intro (by decide +kernel) (Nat.le_of_ble_eq_true rfl) (fg_okAs rfl) (Nat.le_refl _) ?_
  refine fg_aloadn (fg_ft (pc := 0) tb_Mo_townLine 0 rfl) rfl ?_
  refine fg_getV (v := (nI (pz_S b len Z.1))) (fg_ft (pc := 1) tb_Mo_townLine 1 rfl) ff_Mo_81 ly_287 rfl (fg_lt ly_287 (by decide)) h.2.1.2.1 ?_
  refine fg_istoren (fg_ft (pc := 4) tb_Mo_townLine 2 rfl) (Nat.le_of_ble_eq_true rfl) ?_
  refine fg_aloadn (fg_ft (pc := 5) tb_Mo_townLine 3 rfl) rfl ?_
  refine fg_iconst (fg_ft (pc := 6) tb_Mo_townLine 4 rfl) ic_1 ?_
  refine fg_bipush (fg_ft (pc := 7) tb_Mo_townLine 5 rfl) ib_10 ?_
  refine fg_callV (fg_ft (pc := 9) tb_Mo_townLine 6 rfl) cf_Mo_135 (fg_isOf ly_287 rfl (fg_lt ly_287 (by decide))) (as := [.int (nI 1), .int (nI 10)]) (st := []) rfl rfl (Nat.le_of_ble_eq_true rfl) (Nat.le_refl _) (Nat.le_refl _) (ev_Mo_takes (lo := 1) (hi := 10) hle hb256 h (by decide) (by decide) ?_)
  intro ν1 hg1 h1
  have ag1 := hg1
  rw [ht] at h1 ⊢
  show fg_wp _ _ _ _ _ _ _ _ _ (ν1, fg_rho R, 304)
  have hCt : t.2.2.2.2.2 = Z.2.2.2.2 := by rw [← ht, rz_ta_C]
  have hcn : ∀ i, 1 ≤ i → i ≤ 6 → t.2.2.2.2.2 i ≤ 700 := by rw [hCt]; exact hcnt
  refine fg_top (y := nI 10) (congrArg nI hk) ?_
  refine fg_istoren (fg_ft (pc := 12) tb_Mo_townLine 7 rfl) (Nat.le_of_ble_eq_true rfl) ?_
  refine fg_iloadn (fg_ft (pc := 13) tb_Mo_townLine 8 rfl) rfl ?_
  refine fg_iconst (fg_ft (pc := 14) tb_Mo_townLine 9 rfl) ic_1 ?_
  refine fg_icmp_neN (tgt := 31) (fg_ft (pc := 15) tb_Mo_townLine 10 rfl) (by decide) (by decide) (by decide) (fun c15 => ?_) (fun c15 => (absurd c15 (by decide)))
  refine fg_iloadn (fg_ft (pc := 31) tb_Mo_townLine 19 rfl) rfl ?_
  refine fg_iconst (fg_ft (pc := 32) tb_Mo_townLine 20 rfl) ic_2 ?_
  refine fg_icmp_neN (tgt := 41) (fg_ft (pc := 33) tb_Mo_townLine 21 rfl) (by decide) (by decide) (by decide) (fun c33 => ?_) (fun c33 => (absurd c33 (by decide)))
  refine fg_iloadn (fg_ft (pc := 41) tb_Mo_townLine 25 rfl) rfl ?_
  refine fg_iconst (fg_ft (pc := 42) tb_Mo_townLine 26 rfl) ic_3 ?_
  refine fg_icmp_neN (tgt := 107) (fg_ft (pc := 43) tb_Mo_townLine 27 rfl) (by decide) (by decide) (by decide) (fun c43 => ?_) (fun c43 => (absurd c43 (by decide)))
  refine fg_iloadn (fg_ft (pc := 107) tb_Mo_townLine 69 rfl) rfl ?_
  refine fg_iconst (fg_ft (pc := 108) tb_Mo_townLine 70 rfl) ic_4 ?_
  refine fg_icmp_eqN (tgt := 117) (fg_ft (pc := 109) tb_Mo_townLine 71 rfl) (by decide) (by decide) (by decide) (fun c109 => (absurd c109 (by decide))) (fun c109 => ?_)
  refine fg_iloadn (fg_ft (pc := 112) tb_Mo_townLine 72 rfl) rfl ?_
  refine fg_iconst (fg_ft (pc := 113) tb_Mo_townLine 73 rfl) ic_5 ?_
  refine fg_icmp_neN (tgt := 131) (fg_ft (pc := 114) tb_Mo_townLine 74 rfl) (by decide) (by decide) (by decide) (fun c114 => ?_) (fun c114 => (absurd c114 (by decide)))
  refine fg_iloadn (fg_ft (pc := 131) tb_Mo_townLine 83 rfl) rfl ?_
  refine fg_bipush (fg_ft (pc := 132) tb_Mo_townLine 84 rfl) ib_6 ?_
  refine fg_icmp_neN (tgt := 226) (fg_ft (pc := 134) tb_Mo_townLine 85 rfl) (by decide) (by decide) (by decide) (fun c134 => ?_) (fun c134 => (absurd c134 (by decide)))
  refine fg_iloadn (fg_ft (pc := 226) tb_Mo_townLine 144 rfl) rfl ?_
  refine fg_bipush (fg_ft (pc := 227) tb_Mo_townLine 145 rfl) ib_7 ?_
  refine fg_icmp_neN (tgt := 237) (fg_ft (pc := 229) tb_Mo_townLine 146 rfl) (by decide) (by decide) (by decide) (fun c229 => ?_) (fun c229 => (absurd c229 (by decide)))
  refine fg_iloadn (fg_ft (pc := 237) tb_Mo_townLine 150 rfl) rfl ?_
  refine fg_bipush (fg_ft (pc := 238) tb_Mo_townLine 151 rfl) ib_8 ?_
  refine fg_icmp_neN (tgt := 251) (fg_ft (pc := 240) tb_Mo_townLine 152 rfl) (by decide) (by decide) (by decide) (fun c240 => ?_) (fun c240 => (absurd c240 (by decide)))
  refine fg_iloadn (fg_ft (pc := 251) tb_Mo_townLine 158 rfl) rfl ?_
  refine fg_bipush (fg_ft (pc := 252) tb_Mo_townLine 159 rfl) ib_9 ?_
  refine fg_icmp_neN (tgt := 267) (fg_ft (pc := 254) tb_Mo_townLine 160 rfl) (by decide) (by decide) (by decide) (fun c254 => ?_) (fun c254 => (absurd c254 (by decide)))
  refine fg_iloadn (fg_ft (pc := 267) tb_Mo_townLine 166 rfl) rfl ?_
  refine fg_bipush (fg_ft (pc := 268) tb_Mo_townLine 167 rfl) ib_10 ?_
  refine fg_icmp_neN (tgt := 287) (fg_ft (pc := 270) tb_Mo_townLine 168 rfl) (by decide) (by decide) (by decide) (fun c270 => (absurd c270 (by decide))) (fun c270 => ?_)
  refine fg_aloadn (fg_ft (pc := 273) tb_Mo_townLine 169 rfl) rfl ?_
  refine fg_getR (fg_ft (pc := 274) tb_Mo_townLine 170 rfl) ff_Mo_17 ly_287 rfl (fg_lt ly_287 (by decide)) (rh_287_10 R) ?_
  refine fg_bipush (fg_ft (pc := 277) tb_Mo_townLine 171 rfl) ib_7 ?_
  refine fg_aloadn (fg_ft (pc := 279) tb_Mo_townLine 172 rfl) rfl ?_
  refine fg_iconst (fg_ft (pc := 280) tb_Mo_townLine 173 rfl) ic_0 ?_
  refine fg_bipush (fg_ft (pc := 281) tb_Mo_townLine 174 rfl) ib_99 ?_
  refine fg_callV (fg_ft (pc := 283) tb_Mo_townLine 175 rfl) cf_Mo_121 (fg_isOf ly_287 rfl (fg_lt ly_287 (by decide))) (as := [.int (nI 0), .int (nI 99)]) (st := [.int (nI 7), .ref 290]) rfl rfl (Nat.le_of_ble_eq_true rfl) (Nat.le_refl _) (Nat.le_refl _) (ev_Mo_numbered (lo := 0) (hi := 99 + 1) hle hb256 h1 (rz_m (by decide) (by decide)) ?_)
  intro ν2 hg2 h2
  have ag2 := rz_ag_tr ag1 hg2
  obtain ⟨a, ha⟩ : ∃ x, (rz_nu (pz_K b len) (pz_V b len) (pz_S b len) 0 (99 + 1) t.2) = x := ⟨_, rfl⟩
  rw [ha] at h2 ⊢
  show fg_wp _ _ _ _ _ _ _ _ _ (ν2, fg_rho R, 304)
  refine fg_iastN (fg_ft (pc := 286) tb_Mo_townLine 176 rfl) ly_290 (fg_lt ly_290 (by decide)) (by omega) ?_
  show fg_wp _ _ _ _ _ _ _ _ _ (fg_u2 ν2 290 7 (nI (a.1)), fg_rho R, 304)
  have hm : rz_RZ (fg_u2 ν2 290 7 (nI (a.1))) b len (rz_tw (pz_K b len) (pz_V b len) (pz_S b len) len (pz_S b len Z.1) t.2 10) := by
    show rz_RZ _ b len (rz_ce 7 (rz_nu (pz_K b len) (pz_V b len) (pz_S b len) 0 (99 + 1) t.2))
    unfold rz_ce
    rw [ha]
    exact (h2).put
  have agm : rz_ag μ (fg_u2 ν2 290 7 (nI (a.1))) := fun a j p q r => (fg_u2ne r).trans (ag2 a j p q r)
  refine fg_aloadn (fg_ft (pc := 287) tb_Mo_townLine 177 rfl) rfl ?_
  refine fg_callV (fg_ft (pc := 288) tb_Mo_townLine 178 rfl) cf_Mo_153 (fg_isOf ly_287 rfl (fg_lt ly_287 (by decide))) (as := []) (st := []) rfl rfl (Nat.le_of_ble_eq_true rfl) (Nat.le_refl _) (Nat.le_refl _) (ev_Mo_endsLine hle hb256 hm ?_)
  intro ν3 hg3 h3
  have ag3 := rz_ag_tr agm hg3
  show fg_wp _ _ _ _ _ _ _ _ _ (ν3, fg_rho R, 304)
  exact fg_vret (fg_ft (pc := 291) tb_Mo_townLine 179 rfl) rfl rfl (hQ _ ag3 h3)
theorem ev_Mo_townLine {E : fg_E} {d : Nat} {μ : Nat → Nat → Int32} {R : fg_T4} {Q : Option Value → fg_M → Prop} {b : Nat → Nat} {len : Nat} {Z : rz_Z} (hle : len ≤ 600) (hb256 : ∀ j, b j < 256) (h : rz_RZ μ b len Z) (hcnt : ∀ k, 1 ≤ k → k ≤ 6 → Z.2.2.2.2 k ≤ 700) (hQ : ∀ μ' : Nat → Nat → Int32, rz_ag μ μ' → rz_RZ μ' b len (rz_tl (pz_K b len) (pz_V b len) (pz_S b len) len Z) → Q none (μ', fg_rho R, 304)) : fg_Ev E yy_Mo_townLine (d + 9) [.ref 287] (μ, fg_rho R, 304) 304 Q := by
  have hb := rz_ta_b (K := pz_K b len) (V := pz_V b len) (S := pz_S b len) (a := 1) (b := 10) (Z := Z)
  unfold rz_tl at hQ
  rcases (show (rz_ta (pz_K b len) (pz_V b len) (pz_S b len) 1 10 Z).1 = 0 ∨ (rz_ta (pz_K b len) (pz_V b len) (pz_S b len) 1 10 Z).1 = 1 ∨ (rz_ta (pz_K b len) (pz_V b len) (pz_S b len) 1 10 Z).1 = 2 ∨ (rz_ta (pz_K b len) (pz_V b len) (pz_S b len) 1 10 Z).1 = 3 ∨ (rz_ta (pz_K b len) (pz_V b len) (pz_S b len) 1 10 Z).1 = 4 ∨ (rz_ta (pz_K b len) (pz_V b len) (pz_S b len) 1 10 Z).1 = 5 ∨ (rz_ta (pz_K b len) (pz_V b len) (pz_S b len) 1 10 Z).1 = 6 ∨ (rz_ta (pz_K b len) (pz_V b len) (pz_S b len) 1 10 Z).1 = 7 ∨ (rz_ta (pz_K b len) (pz_V b len) (pz_S b len) 1 10 Z).1 = 8 ∨ (rz_ta (pz_K b len) (pz_V b len) (pz_S b len) 1 10 Z).1 = 9 ∨ (rz_ta (pz_K b len) (pz_V b len) (pz_S b len) 1 10 Z).1 = 10 by omega) with q | q | q | q | q | q | q | q | q | q | q
  · rw [q] at hQ; exact ev_Mo_townLine_0 hle hb256 h hcnt rfl q hQ
  · rw [q] at hQ; exact ev_Mo_townLine_1 hle hb256 h hcnt rfl q hQ
  · rw [q] at hQ; exact ev_Mo_townLine_2 hle hb256 h hcnt rfl q hQ
  · rw [q] at hQ; exact ev_Mo_townLine_3 hle hb256 h hcnt rfl q hQ
  · rw [q] at hQ; exact ev_Mo_townLine_4 hle hb256 h hcnt rfl q hQ
  · rw [q] at hQ; exact ev_Mo_townLine_5 hle hb256 h hcnt rfl q hQ
  · rw [q] at hQ; exact ev_Mo_townLine_6 hle hb256 h hcnt rfl q hQ
  · rw [q] at hQ; exact ev_Mo_townLine_7 hle hb256 h hcnt rfl q hQ
  · rw [q] at hQ; exact ev_Mo_townLine_8 hle hb256 h hcnt rfl q hQ
  · rw [q] at hQ; exact ev_Mo_townLine_9 hle hb256 h hcnt rfl q hQ
  · rw [q] at hQ; exact ev_Mo_townLine_10 hle hb256 h hcnt rfl q hQ
