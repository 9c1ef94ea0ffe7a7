/-! the reference's lines of a day -/
def rz_kd (k : Nat) : Nat := if k = 0 then 4294967285 else k - 11
def rz_pd (kd a b9 c : Nat) (Z : rz_Z) : rz_Z := rz_sC Z (pz_up (if Z.2.2.2.2 0 < 30 then pz_up (pz_up (pz_up (pz_up Z.2.2.2.2 (1 + 4 * Z.2.2.2.2 0) kd) (1 + 4 * Z.2.2.2.2 0 + 1) a) (1 + 4 * Z.2.2.2.2 0 + 2) b9) (1 + 4 * Z.2.2.2.2 0 + 3) c else Z.2.2.2.2) 0 (Z.2.2.2.2 0 + 1))
def rz_dq (K V S : Nat → Nat) (a : Nat × rz_Z) : Nat × Nat × Nat × rz_Z := (fun b9 : Nat × rz_Z => (fun c : Nat × rz_Z => (a.1, b9.1, c.1, c.2)) (rz_nu K V S 0 10 b9.2)) (rz_nu K V S 0 5 (rz_dup K V S a.1 a.2))
def rz_dr (K V S : Nat → Nat) (a : Nat × rz_Z) : Nat × Nat × Nat × rz_Z := (fun b9 : Nat × rz_Z => (a.1, b9.1, 4294967295, b9.2)) (rz_nu K V S 0 10 a.2)
def rz_dm (K V S : Nat → Nat) (Z : rz_Z) (k : Nat) : Nat × Nat × Nat × rz_Z :=
  if k = 0 ∨ k = 17 then (4294967295, 4294967295, 4294967295, Z) else if k = 16 then rz_dq K V S (rz_nu K V S 0 5 Z) else rz_dr K V S (rz_nu K V S 0 5 Z)
def rz_dn (k : Nat) (x : Nat × Nat × Nat × rz_Z) : rz_Z := rz_pd (rz_kd k) x.1 x.2.1 x.2.2.1 x.2.2.2
def rz_dl (K V S : Nat → Nat) (Z : rz_Z) : rz_Z := rz_el K S (rz_dn (rz_ta K V S 11 17 (rz_c3 0 30 (S Z.1) Z)).1 (rz_dm K V S (rz_ta K V S 11 17 (rz_c3 0 30 (S Z.1) Z)).2 (rz_ta K V S 11 17 (rz_c3 0 30 (S Z.1) Z)).1))
theorem ev_Mo_dayLine_0 {E : fg_E} {d : Nat} {μ : Nat → Nat → Int32} {R : fg_T4} {Q : Option Value → fg_M → Prop} {b : Nat → Nat} {len : Nat} {Z : rz_Z} (hle : len ≤ 600) (hb256 : ∀ j, b j < 256) (h : rz_RZ μ b len Z) (hcnt : Z.2.2.2.2 0 ≤ 700) {t : Nat × rz_Z} (ht : rz_ta (pz_K b len) (pz_V b len) (pz_S b len) 11 17 (rz_c3 0 30 (pz_S b len Z.1) Z) = t) (hk : t.1 = 0) (hQ : ∀ μ' : Nat → Nat → Int32, rz_ag μ μ' → rz_RZ μ' b len (rz_el (pz_K b len) (pz_S b len) (rz_dn 0 (rz_dm (pz_K b len) (pz_V b len) (pz_S b len) t.2 0))) → Q none (μ', fg_rho R, 304)) : fg_Ev E yy_Mo_dayLine (d + 9) [.ref 287] (μ, fg_rho R, 304) 304 Q := by
  refine fg_intro (by decide +kernel) (Nat.le_of_ble_eq_true rfl) (fg_okAs rfl) (Nat.le_refl _) ?_
  refine fg_aloadn (fg_ft (pc := 0) tb_Mo_dayLine 0 rfl) rfl ?_
  refine fg_getV (v := (nI (pz_S b len Z.1))) (fg_ft (pc := 1) tb_Mo_dayLine 1 rfl) ff_Mo_81 ly_287 rfl (fg_lt ly_287 (by decide)) h.2.1.2.1 ?_
  refine fg_istoren (fg_ft (pc := 4) tb_Mo_dayLine 2 rfl) (Nat.le_of_ble_eq_true rfl) ?_
  refine fg_aloadn (fg_ft (pc := 5) tb_Mo_dayLine 3 rfl) rfl ?_
  refine fg_getR (fg_ft (pc := 6) tb_Mo_dayLine 4 rfl) ff_Mo_17 ly_287 rfl (fg_lt ly_287 (by decide)) (rh_287_10 R) ?_
  refine fg_iconst (fg_ft (pc := 9) tb_Mo_dayLine 5 rfl) ic_0 ?_
  refine fg_ialdV (v := (nI (Z.2.2.2.2 0))) (fg_ft (pc := 10) tb_Mo_dayLine 6 rfl) ly_290 (fg_lt ly_290 (by decide)) (by omega) (h.2.2.2.2.2.2.1 0 (by omega)) ?_
  have hb0 := hcnt
  refine fg_bipush (fg_ft (pc := 11) tb_Mo_dayLine 7 rfl) ib_30 ?_
  refine fg_icmp_ltN (tgt := 22) (fg_ft (pc := 13) tb_Mo_dayLine 8 rfl) (by decide) (by omega) (by decide) (fun c13 => ?_) (fun c13 => ?_)
  · have hc : rz_RZ μ b len (rz_c3 0 30 (pz_S b len Z.1) Z) := by
      unfold rz_c3
      rw [if_neg (by omega)]
      exact h
    refine fg_aloadn (fg_ft (pc := 22) tb_Mo_dayLine 13 rfl) rfl ?_
    refine fg_bipush (fg_ft (pc := 23) tb_Mo_dayLine 14 rfl) ib_11 ?_
    refine fg_bipush (fg_ft (pc := 25) tb_Mo_dayLine 15 rfl) ib_17 ?_
    refine fg_callV (fg_ft (pc := 27) tb_Mo_dayLine 16 rfl) cf_Mo_135 (fg_isOf ly_287 rfl (fg_lt ly_287 (by decide))) (as := [.int (nI 11), .int (nI 17)]) (st := []) rfl rfl (Nat.le_of_ble_eq_true rfl) (Nat.le_refl _) (Nat.le_refl _) (ev_Mo_takes (lo := 11) (hi := 17) hle hb256 hc (by decide) (by decide) ?_)
    intro ν1 hg1 h1
    have ag1 := hg1
    rw [ht] at h1 ⊢
    show fg_wp _ _ _ _ _ _ _ _ _ (ν1, fg_rho R, 304)
    have hCt : t.2.2.2.2.2 = Z.2.2.2.2 := by rw [← ht, rz_ta_C, rz_c3_C]
    refine fg_top (y := nI 0) (congrArg nI hk) ?_
    refine fg_istoren (fg_ft (pc := 30) tb_Mo_dayLine 17 rfl) (Nat.le_of_ble_eq_true rfl) ?_
    refine fg_iconst (fg_ft (pc := 31) tb_Mo_dayLine 18 rfl) ic_m1 ?_
    refine fg_top (y := nI 4294967295) (by decide) ?_
    refine fg_istoren (fg_ft (pc := 32) tb_Mo_dayLine 19 rfl) (Nat.le_of_ble_eq_true rfl) ?_
    refine fg_iconst (fg_ft (pc := 33) tb_Mo_dayLine 20 rfl) ic_m1 ?_
    refine fg_top (y := nI 4294967295) (by decide) ?_
    refine fg_istore (fg_ft (pc := 34) tb_Mo_dayLine 21 rfl) (Nat.le_of_ble_eq_true rfl) ?_
    refine fg_iconst (fg_ft (pc := 36) tb_Mo_dayLine 22 rfl) ic_m1 ?_
    refine fg_top (y := nI 4294967295) (by decide) ?_
    refine fg_istore (fg_ft (pc := 37) tb_Mo_dayLine 23 rfl) (Nat.le_of_ble_eq_true rfl) ?_
    refine fg_iloadn (fg_ft (pc := 39) tb_Mo_dayLine 24 rfl) rfl ?_
    refine fg_if_leN (tgt := 56) (fg_ft (pc := 40) tb_Mo_dayLine 25 rfl) (by decide) (by decide) (fun c40 => ?_) (fun c40 => (absurd c40 (by decide)))
    refine fg_iloadn (fg_ft (pc := 56) tb_Mo_dayLine 34 rfl) rfl ?_
    refine fg_bipush (fg_ft (pc := 57) tb_Mo_dayLine 35 rfl) ib_16 ?_
    refine fg_icmp_neN (tgt := 107) (fg_ft (pc := 59) tb_Mo_dayLine 36 rfl) (by decide) (by decide) (by decide) (fun c59 => ?_) (fun c59 => (absurd c59 (by decide)))
    refine fg_iloadn (fg_ft (pc := 107) tb_Mo_dayLine 61 rfl) rfl ?_
    refine fg_if_leN (tgt := 126) (fg_ft (pc := 108) tb_Mo_dayLine 62 rfl) (by decide) (by decide) (fun c108 => ?_) (fun c108 => (absurd c108 (by decide)))
    have hCf : t.2.2.2.2.2 = Z.2.2.2.2 := hCt
    have hb1 : t.2.2.2.2.2 0 ≤ 700 := by rw [hCf]; exact hcnt
    refine fg_aloadn (fg_ft (pc := 126) tb_Mo_dayLine 71 rfl) rfl ?_
    refine fg_getR (fg_ft (pc := 127) tb_Mo_dayLine 72 rfl) ff_Mo_17 ly_287 rfl (fg_lt ly_287 (by decide)) (rh_287_10 R) ?_
    refine fg_iconst (fg_ft (pc := 130) tb_Mo_dayLine 73 rfl) ic_0 ?_
    refine fg_ialdV (v := (nI (t.2.2.2.2.2 0))) (fg_ft (pc := 131) tb_Mo_dayLine 74 rfl) ly_290 (fg_lt ly_290 (by decide)) (by omega) (h1.2.2.2.2.2.2.1 0 (by omega)) ?_
    refine fg_bipush (fg_ft (pc := 132) tb_Mo_dayLine 75 rfl) ib_30 ?_
    refine fg_icmp_geN (tgt := 192) (fg_ft (pc := 134) tb_Mo_dayLine 76 rfl) (by decide) (by omega) (by decide) (fun c134 => ?_) (fun c134 => ?_)
    · refine fg_aloadn (fg_ft (pc := 192) tb_Mo_dayLine 114 rfl) rfl ?_
      refine fg_getR (fg_ft (pc := 193) tb_Mo_dayLine 115 rfl) ff_Mo_17 ly_287 rfl (fg_lt ly_287 (by decide)) (rh_287_10 R) ?_
      refine fg_iconst (fg_ft (pc := 196) tb_Mo_dayLine 116 rfl) ic_0 ?_
      refine fg_dup2 (fg_ft (pc := 197) tb_Mo_dayLine 117 rfl) rfl rfl ?_
      refine fg_ialdV (v := (nI (t.2.2.2.2.2 0))) (fg_ft (pc := 198) tb_Mo_dayLine 118 rfl) ly_290 (fg_lt ly_290 (by decide)) (by omega) (h1.2.2.2.2.2.2.1 0 (by omega)) ?_
      refine fg_iconst (fg_ft (pc := 199) tb_Mo_dayLine 119 rfl) ic_1 ?_
      refine fg_iaddN (fg_ft (pc := 200) tb_Mo_dayLine 120 rfl) ?_
      refine fg_iastN (fg_ft (pc := 201) tb_Mo_dayLine 121 rfl) ly_290 (fg_lt ly_290 (by decide)) (by omega) ?_
      show fg_wp _ _ _ _ _ _ _ _ _ (fg_u2 ν1 290 0 (nI ((t.2.2.2.2.2 0) + 1)), fg_rho R, 304)
      have hm : rz_RZ (fg_u2 ν1 290 0 (nI ((t.2.2.2.2.2 0) + 1))) b len (rz_dn 0 (rz_dm (pz_K b len) (pz_V b len) (pz_S b len) t.2 0)) := by
        have e9 : rz_dm (pz_K b len) (pz_V b len) (pz_S b len) t.2 0 = (4294967295, 4294967295, 4294967295, t.2) := rfl
        rw [e9]
        show rz_RZ _ b len (rz_pd 4294967285 4294967295 4294967295 4294967295 t.2)
        unfold rz_pd
        rw [if_neg (by omega)]
        exact (h1).put
      have agm : rz_ag μ (fg_u2 ν1 290 0 (nI ((t.2.2.2.2.2 0) + 1))) := fun a j p q r => (fg_u2ne r).trans (ag1 a j p q r)
      refine fg_aloadn (fg_ft (pc := 202) tb_Mo_dayLine 122 rfl) rfl ?_
      refine fg_callV (fg_ft (pc := 203) tb_Mo_dayLine 123 rfl) cf_Mo_153 (fg_isOf ly_287 rfl (fg_lt ly_287 (by decide))) (as := []) (st := []) rfl rfl (Nat.le_of_ble_eq_true rfl) (Nat.le_refl _) (Nat.le_refl _) (ev_Mo_endsLine hle hb256 hm ?_)
      intro ν2 hg2 h2
      have ag2 := rz_ag_tr agm hg2
      show fg_wp _ _ _ _ _ _ _ _ _ (ν2, fg_rho R, 304)
      exact fg_vret (fg_ft (pc := 206) tb_Mo_dayLine 124 rfl) rfl rfl (hQ _ ag2 h2)
    · refine fg_iconst (fg_ft (pc := 137) tb_Mo_dayLine 77 rfl) ic_1 ?_
      refine fg_iconst (fg_ft (pc := 138) tb_Mo_dayLine 78 rfl) ic_4 ?_
      refine fg_aloadn (fg_ft (pc := 139) tb_Mo_dayLine 79 rfl) rfl ?_
      refine fg_getR (fg_ft (pc := 140) tb_Mo_dayLine 80 rfl) ff_Mo_17 ly_287 rfl (fg_lt ly_287 (by decide)) (rh_287_10 R) ?_
      refine fg_iconst (fg_ft (pc := 143) tb_Mo_dayLine 81 rfl) ic_0 ?_
      refine fg_ialdV (v := (nI (t.2.2.2.2.2 0))) (fg_ft (pc := 144) tb_Mo_dayLine 82 rfl) ly_290 (fg_lt ly_290 (by decide)) (by omega) (h1.2.2.2.2.2.2.1 0 (by omega)) ?_
      refine fg_imulN (fg_ft (pc := 145) tb_Mo_dayLine 83 rfl) ?_
      refine fg_iaddN (fg_ft (pc := 146) tb_Mo_dayLine 84 rfl) ?_
      refine fg_istore (fg_ft (pc := 147) tb_Mo_dayLine 85 rfl) (Nat.le_of_ble_eq_true rfl) ?_
      refine fg_aloadn (fg_ft (pc := 149) tb_Mo_dayLine 86 rfl) rfl ?_
      refine fg_getR (fg_ft (pc := 150) tb_Mo_dayLine 87 rfl) ff_Mo_17 ly_287 rfl (fg_lt ly_287 (by decide)) (rh_287_10 R) ?_
      refine fg_iload (fg_ft (pc := 153) tb_Mo_dayLine 88 rfl) rfl ?_
      refine fg_iloadn (fg_ft (pc := 155) tb_Mo_dayLine 89 rfl) rfl ?_
      refine fg_bipush (fg_ft (pc := 156) tb_Mo_dayLine 90 rfl) ib_11 ?_
      refine fg_isub (fg_ft (pc := 158) tb_Mo_dayLine 91 rfl) ?_
      refine fg_top (y := nI 4294967285) (by decide) ?_
      refine fg_iastN (fg_ft (pc := 159) tb_Mo_dayLine 92 rfl) ly_290 (fg_lt ly_290 (by decide)) (by omega) ?_
      show fg_wp _ _ _ _ _ _ _ _ _ (fg_u2 ν1 290 (1 + (4 * (t.2.2.2.2.2 0))) (nI 4294967285), fg_rho R, 304)
      refine fg_aloadn (fg_ft (pc := 160) tb_Mo_dayLine 93 rfl) rfl ?_
      refine fg_getR (fg_ft (pc := 161) tb_Mo_dayLine 94 rfl) ff_Mo_17 ly_287 rfl (fg_lt ly_287 (by decide)) (rh_287_10 R) ?_
      refine fg_iload (fg_ft (pc := 164) tb_Mo_dayLine 95 rfl) rfl ?_
      refine fg_iconst (fg_ft (pc := 166) tb_Mo_dayLine 96 rfl) ic_1 ?_
      refine fg_iaddN (fg_ft (pc := 167) tb_Mo_dayLine 97 rfl) ?_
      refine fg_iloadn (fg_ft (pc := 168) tb_Mo_dayLine 98 rfl) rfl ?_
      refine fg_iastN (fg_ft (pc := 169) tb_Mo_dayLine 99 rfl) ly_290 (fg_lt ly_290 (by decide)) (by omega) ?_
      show fg_wp _ _ _ _ _ _ _ _ _ (fg_u2 (fg_u2 ν1 290 (1 + (4 * (t.2.2.2.2.2 0))) (nI 4294967285)) 290 ((1 + (4 * (t.2.2.2.2.2 0))) + 1) (nI 4294967295), fg_rho R, 304)
      refine fg_aloadn (fg_ft (pc := 170) tb_Mo_dayLine 100 rfl) rfl ?_
      refine fg_getR (fg_ft (pc := 171) tb_Mo_dayLine 101 rfl) ff_Mo_17 ly_287 rfl (fg_lt ly_287 (by decide)) (rh_287_10 R) ?_
      refine fg_iload (fg_ft (pc := 174) tb_Mo_dayLine 102 rfl) rfl ?_
      refine fg_iconst (fg_ft (pc := 176) tb_Mo_dayLine 103 rfl) ic_2 ?_
      refine fg_iaddN (fg_ft (pc := 177) tb_Mo_dayLine 104 rfl) ?_
      refine fg_iload (fg_ft (pc := 178) tb_Mo_dayLine 105 rfl) rfl ?_
      refine fg_iastN (fg_ft (pc := 180) tb_Mo_dayLine 106 rfl) ly_290 (fg_lt ly_290 (by decide)) (by omega) ?_
      show fg_wp _ _ _ _ _ _ _ _ _ (fg_u2 (fg_u2 (fg_u2 ν1 290 (1 + (4 * (t.2.2.2.2.2 0))) (nI 4294967285)) 290 ((1 + (4 * (t.2.2.2.2.2 0))) + 1) (nI 4294967295)) 290 ((1 + (4 * (t.2.2.2.2.2 0))) + 2) (nI 4294967295), fg_rho R, 304)
      refine fg_aloadn (fg_ft (pc := 181) tb_Mo_dayLine 107 rfl) rfl ?_
      refine fg_getR (fg_ft (pc := 182) tb_Mo_dayLine 108 rfl) ff_Mo_17 ly_287 rfl (fg_lt ly_287 (by decide)) (rh_287_10 R) ?_
      refine fg_iload (fg_ft (pc := 185) tb_Mo_dayLine 109 rfl) rfl ?_
      refine fg_iconst (fg_ft (pc := 187) tb_Mo_dayLine 110 rfl) ic_3 ?_
      refine fg_iaddN (fg_ft (pc := 188) tb_Mo_dayLine 111 rfl) ?_
      refine fg_iload (fg_ft (pc := 189) tb_Mo_dayLine 112 rfl) rfl ?_
      refine fg_iastN (fg_ft (pc := 191) tb_Mo_dayLine 113 rfl) ly_290 (fg_lt ly_290 (by decide)) (by omega) ?_
      show fg_wp _ _ _ _ _ _ _ _ _ (fg_u2 (fg_u2 (fg_u2 (fg_u2 ν1 290 (1 + (4 * (t.2.2.2.2.2 0))) (nI 4294967285)) 290 ((1 + (4 * (t.2.2.2.2.2 0))) + 1) (nI 4294967295)) 290 ((1 + (4 * (t.2.2.2.2.2 0))) + 2) (nI 4294967295)) 290 ((1 + (4 * (t.2.2.2.2.2 0))) + 3) (nI 4294967295), fg_rho R, 304)
      refine fg_aloadn (fg_ft (pc := 192) tb_Mo_dayLine 114 rfl) rfl ?_
      refine fg_getR (fg_ft (pc := 193) tb_Mo_dayLine 115 rfl) ff_Mo_17 ly_287 rfl (fg_lt ly_287 (by decide)) (rh_287_10 R) ?_
      refine fg_iconst (fg_ft (pc := 196) tb_Mo_dayLine 116 rfl) ic_0 ?_
      refine fg_dup2 (fg_ft (pc := 197) tb_Mo_dayLine 117 rfl) rfl rfl ?_
      refine fg_ialdV (v := (nI (t.2.2.2.2.2 0))) (fg_ft (pc := 198) tb_Mo_dayLine 118 rfl) ly_290 (fg_lt ly_290 (by decide)) (by omega) ((fg_u2ns (f := (fg_u2 (fg_u2 (fg_u2 ν1 290 (1 + (4 * (t.2.2.2.2.2 0))) (nI 4294967285)) 290 ((1 + (4 * (t.2.2.2.2.2 0))) + 1) (nI 4294967295)) 290 ((1 + (4 * (t.2.2.2.2.2 0))) + 2) (nI 4294967295))) (a := 290) (k := ((1 + (4 * (t.2.2.2.2.2 0))) + 3)) (b := 290) (j := 0) (x := (nI 4294967295)) (by omega)).trans ((fg_u2ns (f := (fg_u2 (fg_u2 ν1 290 (1 + (4 * (t.2.2.2.2.2 0))) (nI 4294967285)) 290 ((1 + (4 * (t.2.2.2.2.2 0))) + 1) (nI 4294967295))) (a := 290) (k := ((1 + (4 * (t.2.2.2.2.2 0))) + 2)) (b := 290) (j := 0) (x := (nI 4294967295)) (by omega)).trans ((fg_u2ns (f := (fg_u2 ν1 290 (1 + (4 * (t.2.2.2.2.2 0))) (nI 4294967285))) (a := 290) (k := ((1 + (4 * (t.2.2.2.2.2 0))) + 1)) (b := 290) (j := 0) (x := (nI 4294967295)) (by omega)).trans ((fg_u2ns (f := ν1) (a := 290) (k := (1 + (4 * (t.2.2.2.2.2 0)))) (b := 290) (j := 0) (x := (nI 4294967285)) (by omega)).trans (h1.2.2.2.2.2.2.1 0 (by omega)))))) ?_
      refine fg_iconst (fg_ft (pc := 199) tb_Mo_dayLine 119 rfl) ic_1 ?_
      refine fg_iaddN (fg_ft (pc := 200) tb_Mo_dayLine 120 rfl) ?_
      refine fg_iastN (fg_ft (pc := 201) tb_Mo_dayLine 121 rfl) ly_290 (fg_lt ly_290 (by decide)) (by omega) ?_
      show fg_wp _ _ _ _ _ _ _ _ _ (fg_u2 (fg_u2 (fg_u2 (fg_u2 (fg_u2 ν1 290 (1 + (4 * (t.2.2.2.2.2 0))) (nI 4294967285)) 290 ((1 + (4 * (t.2.2.2.2.2 0))) + 1) (nI 4294967295)) 290 ((1 + (4 * (t.2.2.2.2.2 0))) + 2) (nI 4294967295)) 290 ((1 + (4 * (t.2.2.2.2.2 0))) + 3) (nI 4294967295)) 290 0 (nI ((t.2.2.2.2.2 0) + 1)), fg_rho R, 304)
      have hm : rz_RZ (fg_u2 (fg_u2 (fg_u2 (fg_u2 (fg_u2 ν1 290 (1 + (4 * (t.2.2.2.2.2 0))) (nI 4294967285)) 290 ((1 + (4 * (t.2.2.2.2.2 0))) + 1) (nI 4294967295)) 290 ((1 + (4 * (t.2.2.2.2.2 0))) + 2) (nI 4294967295)) 290 ((1 + (4 * (t.2.2.2.2.2 0))) + 3) (nI 4294967295)) 290 0 (nI ((t.2.2.2.2.2 0) + 1))) b len (rz_dn 0 (rz_dm (pz_K b len) (pz_V b len) (pz_S b len) t.2 0)) := by
        have e9 : rz_dm (pz_K b len) (pz_V b len) (pz_S b len) t.2 0 = (4294967295, 4294967295, 4294967295, t.2) := rfl
        rw [e9]
        show rz_RZ _ b len (rz_pd 4294967285 4294967295 4294967295 4294967295 t.2)
        unfold rz_pd
        rw [if_pos (by omega)]
        exact (((((h1).put).put).put).put).put
      have agm : rz_ag μ (fg_u2 (fg_u2 (fg_u2 (fg_u2 (fg_u2 ν1 290 (1 + (4 * (t.2.2.2.2.2 0))) (nI 4294967285)) 290 ((1 + (4 * (t.2.2.2.2.2 0))) + 1) (nI 4294967295)) 290 ((1 + (4 * (t.2.2.2.2.2 0))) + 2) (nI 4294967295)) 290 ((1 + (4 * (t.2.2.2.2.2 0))) + 3) (nI 4294967295)) 290 0 (nI ((t.2.2.2.2.2 0) + 1))) := fun a j p q r => (fg_u2ne r).trans ((fg_u2ne r).trans ((fg_u2ne r).trans ((fg_u2ne r).trans ((fg_u2ne r).trans (ag1 a j p q r)))))
      refine fg_aloadn (fg_ft (pc := 202) tb_Mo_dayLine 122 rfl) rfl ?_
      refine fg_callV (fg_ft (pc := 203) tb_Mo_dayLine 123 rfl) cf_Mo_153 (fg_isOf ly_287 rfl (fg_lt ly_287 (by decide))) (as := []) (st := []) rfl rfl (Nat.le_of_ble_eq_true rfl) (Nat.le_refl _) (Nat.le_refl _) (ev_Mo_endsLine hle hb256 hm ?_)
      intro ν3 hg3 h3
      have ag3 := rz_ag_tr agm hg3
      show fg_wp _ _ _ _ _ _ _ _ _ (ν3, fg_rho R, 304)
      exact fg_vret (fg_ft (pc := 206) tb_Mo_dayLine 124 rfl) rfl rfl (hQ _ ag3 h3)
  · refine fg_aloadn (fg_ft (pc := 16) tb_Mo_dayLine 9 rfl) rfl ?_
    refine fg_iconst (fg_ft (pc := 17) tb_Mo_dayLine 10 rfl) ic_3 ?_
    refine fg_iloadn (fg_ft (pc := 18) tb_Mo_dayLine 11 rfl) rfl ?_
    refine fg_callV (fg_ft (pc := 19) tb_Mo_dayLine 12 rfl) cf_Mo_114 (fg_isOf ly_287 rfl (fg_lt ly_287 (by decide))) (as := [.int (nI 3), .int (nI (pz_S b len Z.1))]) (st := []) rfl rfl (Nat.le_of_ble_eq_true rfl) (Nat.le_refl _) (Nat.le_refl _) (ev_Mo_also (kd := 3) (at9 := (pz_S b len Z.1)) hle hb256 h (by decide) (by decide) (by decide) (rz_S_le hle) ?_)
    intro ν4 hg4 h4
    have ag4 := hg4
    show fg_wp _ _ _ _ _ _ _ _ _ (ν4, fg_rho R, 304)
    have hc : rz_RZ ν4 b len (rz_c3 0 30 (pz_S b len Z.1) Z) := by
      unfold rz_c3
      rw [if_pos (by omega)]
      exact h4
    refine fg_aloadn (fg_ft (pc := 22) tb_Mo_dayLine 13 rfl) rfl ?_
    refine fg_bipush (fg_ft (pc := 23) tb_Mo_dayLine 14 rfl) ib_11 ?_
    refine fg_bipush (fg_ft (pc := 25) tb_Mo_dayLine 15 rfl) ib_17 ?_
    refine fg_callV (fg_ft (pc := 27) tb_Mo_dayLine 16 rfl) cf_Mo_135 (fg_isOf ly_287 rfl (fg_lt ly_287 (by decide))) (as := [.int (nI 11), .int (nI 17)]) (st := []) rfl rfl (Nat.le_of_ble_eq_true rfl) (Nat.le_refl _) (Nat.le_refl _) (ev_Mo_takes (lo := 11) (hi := 17) hle hb256 hc (by decide) (by decide) ?_)
    intro ν5 hg5 h5
    have ag5 := rz_ag_tr ag4 hg5
    rw [ht] at h5 ⊢
    show fg_wp _ _ _ _ _ _ _ _ _ (ν5, fg_rho R, 304)
    have hCt : t.2.2.2.2.2 = Z.2.2.2.2 := by rw [← ht, rz_ta_C, rz_c3_C]
    refine fg_top (y := nI 0) (congrArg nI hk) ?_
    refine fg_istoren (fg_ft (pc := 30) tb_Mo_dayLine 17 rfl) (Nat.le_of_ble_eq_true rfl) ?_
    refine fg_iconst (fg_ft (pc := 31) tb_Mo_dayLine 18 rfl) ic_m1 ?_
    refine fg_top (y := nI 4294967295) (by decide) ?_
    refine fg_istoren (fg_ft (pc := 32) tb_Mo_dayLine 19 rfl) (Nat.le_of_ble_eq_true rfl) ?_
    refine fg_iconst (fg_ft (pc := 33) tb_Mo_dayLine 20 rfl) ic_m1 ?_
    refine fg_top (y := nI 4294967295) (by decide) ?_
    refine fg_istore (fg_ft (pc := 34) tb_Mo_dayLine 21 rfl) (Nat.le_of_ble_eq_true rfl) ?_
    refine fg_iconst (fg_ft (pc := 36) tb_Mo_dayLine 22 rfl) ic_m1 ?_
    refine fg_top (y := nI 4294967295) (by decide) ?_
    refine fg_istore (fg_ft (pc := 37) tb_Mo_dayLine 23 rfl) (Nat.le_of_ble_eq_true rfl) ?_
    refine fg_iloadn (fg_ft (pc := 39) tb_Mo_dayLine 24 rfl) rfl ?_
    refine fg_if_leN (tgt := 56) (fg_ft (pc := 40) tb_Mo_dayLine 25 rfl) (by decide) (by decide) (fun c40 => ?_) (fun c40 => (absurd c40 (by decide)))
    refine fg_iloadn (fg_ft (pc := 56) tb_Mo_dayLine 34 rfl) rfl ?_
    refine fg_bipush (fg_ft (pc := 57) tb_Mo_dayLine 35 rfl) ib_16 ?_
    refine fg_icmp_neN (tgt := 107) (fg_ft (pc := 59) tb_Mo_dayLine 36 rfl) (by decide) (by decide) (by decide) (fun c59 => ?_) (fun c59 => (absurd c59 (by decide)))
    refine fg_iloadn (fg_ft (pc := 107) tb_Mo_dayLine 61 rfl) rfl ?_
    refine fg_if_leN (tgt := 126) (fg_ft (pc := 108) tb_Mo_dayLine 62 rfl) (by decide) (by decide) (fun c108 => ?_) (fun c108 => (absurd c108 (by decide)))
    have hCf : t.2.2.2.2.2 = Z.2.2.2.2 := hCt
    have hb1 : t.2.2.2.2.2 0 ≤ 700 := by rw [hCf]; exact hcnt
    refine fg_aloadn (fg_ft (pc := 126) tb_Mo_dayLine 71 rfl) rfl ?_
    refine fg_getR (fg_ft (pc := 127) tb_Mo_dayLine 72 rfl) ff_Mo_17 ly_287 rfl (fg_lt ly_287 (by decide)) (rh_287_10 R) ?_
    refine fg_iconst (fg_ft (pc := 130) tb_Mo_dayLine 73 rfl) ic_0 ?_
    refine fg_ialdV (v := (nI (t.2.2.2.2.2 0))) (fg_ft (pc := 131) tb_Mo_dayLine 74 rfl) ly_290 (fg_lt ly_290 (by decide)) (by omega) (h5.2.2.2.2.2.2.1 0 (by omega)) ?_
    refine fg_bipush (fg_ft (pc := 132) tb_Mo_dayLine 75 rfl) ib_30 ?_
    refine fg_icmp_geN (tgt := 192) (fg_ft (pc := 134) tb_Mo_dayLine 76 rfl) (by decide) (by omega) (by decide) (fun c134 => ?_) (fun c134 => ?_)
    · refine fg_aloadn (fg_ft (pc := 192) tb_Mo_dayLine 114 rfl) rfl ?_
      refine fg_getR (fg_ft (pc := 193) tb_Mo_dayLine 115 rfl) ff_Mo_17 ly_287 rfl (fg_lt ly_287 (by decide)) (rh_287_10 R) ?_
      refine fg_iconst (fg_ft (pc := 196) tb_Mo_dayLine 116 rfl) ic_0 ?_
      refine fg_dup2 (fg_ft (pc := 197) tb_Mo_dayLine 117 rfl) rfl rfl ?_
      refine fg_ialdV (v := (nI (t.2.2.2.2.2 0))) (fg_ft (pc := 198) tb_Mo_dayLine 118 rfl) ly_290 (fg_lt ly_290 (by decide)) (by omega) (h5.2.2.2.2.2.2.1 0 (by omega)) ?_
      refine fg_iconst (fg_ft (pc := 199) tb_Mo_dayLine 119 rfl) ic_1 ?_
      refine fg_iaddN (fg_ft (pc := 200) tb_Mo_dayLine 120 rfl) ?_
      refine fg_iastN (fg_ft (pc := 201) tb_Mo_dayLine 121 rfl) ly_290 (fg_lt ly_290 (by decide)) (by omega) ?_
      show fg_wp _ _ _ _ _ _ _ _ _ (fg_u2 ν5 290 0 (nI ((t.2.2.2.2.2 0) + 1)), fg_rho R, 304)
      have hm : rz_RZ (fg_u2 ν5 290 0 (nI ((t.2.2.2.2.2 0) + 1))) b len (rz_dn 0 (rz_dm (pz_K b len) (pz_V b len) (pz_S b len) t.2 0)) := by
        have e9 : rz_dm (pz_K b len) (pz_V b len) (pz_S b len) t.2 0 = (4294967295, 4294967295, 4294967295, t.2) := rfl
        rw [e9]
        show rz_RZ _ b len (rz_pd 4294967285 4294967295 4294967295 4294967295 t.2)
        unfold rz_pd
        rw [if_neg (by omega)]
        exact (h5).put
      have agm : rz_ag μ (fg_u2 ν5 290 0 (nI ((t.2.2.2.2.2 0) + 1))) := fun a j p q r => (fg_u2ne r).trans (ag5 a j p q r)
      refine fg_aloadn (fg_ft (pc := 202) tb_Mo_dayLine 122 rfl) rfl ?_
      refine fg_callV (fg_ft (pc := 203) tb_Mo_dayLine 123 rfl) cf_Mo_153 (fg_isOf ly_287 rfl (fg_lt ly_287 (by decide))) (as := []) (st := []) rfl rfl (Nat.le_of_ble_eq_true rfl) (Nat.le_refl _) (Nat.le_refl _) (ev_Mo_endsLine hle hb256 hm ?_)
      intro ν6 hg6 h6
      have ag6 := rz_ag_tr agm hg6
      show fg_wp _ _ _ _ _ _ _ _ _ (ν6, fg_rho R, 304)
      exact fg_vret (fg_ft (pc := 206) tb_Mo_dayLine 124 rfl) rfl rfl (hQ _ ag6 h6)
    · refine fg_iconst (fg_ft (pc := 137) tb_Mo_dayLine 77 rfl) ic_1 ?_
      refine fg_iconst (fg_ft (pc := 138) tb_Mo_dayLine 78 rfl) ic_4 ?_
      refine fg_aloadn (fg_ft (pc := 139) tb_Mo_dayLine 79 rfl) rfl ?_
      refine fg_getR (fg_ft (pc := 140) tb_Mo_dayLine 80 rfl) ff_Mo_17 ly_287 rfl (fg_lt ly_287 (by decide)) (rh_287_10 R) ?_
      refine fg_iconst (fg_ft (pc := 143) tb_Mo_dayLine 81 rfl) ic_0 ?_
      refine fg_ialdV (v := (nI (t.2.2.2.2.2 0))) (fg_ft (pc := 144) tb_Mo_dayLine 82 rfl) ly_290 (fg_lt ly_290 (by decide)) (by omega) (h5.2.2.2.2.2.2.1 0 (by omega)) ?_
      refine fg_imulN (fg_ft (pc := 145) tb_Mo_dayLine 83 rfl) ?_
      refine fg_iaddN (fg_ft (pc := 146) tb_Mo_dayLine 84 rfl) ?_
      refine fg_istore (fg_ft (pc := 147) tb_Mo_dayLine 85 rfl) (Nat.le_of_ble_eq_true rfl) ?_
      refine fg_aloadn (fg_ft (pc := 149) tb_Mo_dayLine 86 rfl) rfl ?_
      refine fg_getR (fg_ft (pc := 150) tb_Mo_dayLine 87 rfl) ff_Mo_17 ly_287 rfl (fg_lt ly_287 (by decide)) (rh_287_10 R) ?_
      refine fg_iload (fg_ft (pc := 153) tb_Mo_dayLine 88 rfl) rfl ?_
      refine fg_iloadn (fg_ft (pc := 155) tb_Mo_dayLine 89 rfl) rfl ?_
      refine fg_bipush (fg_ft (pc := 156) tb_Mo_dayLine 90 rfl) ib_11 ?_
      refine fg_isub (fg_ft (pc := 158) tb_Mo_dayLine 91 rfl) ?_
      refine fg_top (y := nI 4294967285) (by decide) ?_
      refine fg_iastN (fg_ft (pc := 159) tb_Mo_dayLine 92 rfl) ly_290 (fg_lt ly_290 (by decide)) (by omega) ?_
      show fg_wp _ _ _ _ _ _ _ _ _ (fg_u2 ν5 290 (1 + (4 * (t.2.2.2.2.2 0))) (nI 4294967285), fg_rho R, 304)
      refine fg_aloadn (fg_ft (pc := 160) tb_Mo_dayLine 93 rfl) rfl ?_
      refine fg_getR (fg_ft (pc := 161) tb_Mo_dayLine 94 rfl) ff_Mo_17 ly_287 rfl (fg_lt ly_287 (by decide)) (rh_287_10 R) ?_
      refine fg_iload (fg_ft (pc := 164) tb_Mo_dayLine 95 rfl) rfl ?_
      refine fg_iconst (fg_ft (pc := 166) tb_Mo_dayLine 96 rfl) ic_1 ?_
      refine fg_iaddN (fg_ft (pc := 167) tb_Mo_dayLine 97 rfl) ?_
      refine fg_iloadn (fg_ft (pc := 168) tb_Mo_dayLine 98 rfl) rfl ?_
      refine fg_iastN (fg_ft (pc := 169) tb_Mo_dayLine 99 rfl) ly_290 (fg_lt ly_290 (by decide)) (by omega) ?_
      show fg_wp _ _ _ _ _ _ _ _ _ (fg_u2 (fg_u2 ν5 290 (1 + (4 * (t.2.2.2.2.2 0))) (nI 4294967285)) 290 ((1 + (4 * (t.2.2.2.2.2 0))) + 1) (nI 4294967295), fg_rho R, 304)
      refine fg_aloadn (fg_ft (pc := 170) tb_Mo_dayLine 100 rfl) rfl ?_
      refine fg_getR (fg_ft (pc := 171) tb_Mo_dayLine 101 rfl) ff_Mo_17 ly_287 rfl (fg_lt ly_287 (by decide)) (rh_287_10 R) ?_
      refine fg_iload (fg_ft (pc := 174) tb_Mo_dayLine 102 rfl) rfl ?_
      refine fg_iconst (fg_ft (pc := 176) tb_Mo_dayLine 103 rfl) ic_2 ?_
      refine fg_iaddN (fg_ft (pc := 177) tb_Mo_dayLine 104 rfl) ?_
      refine fg_iload (fg_ft (pc := 178) tb_Mo_dayLine 105 rfl) rfl ?_
      refine fg_iastN (fg_ft (pc := 180) tb_Mo_dayLine 106 rfl) ly_290 (fg_lt ly_290 (by decide)) (by omega) ?_
      show fg_wp _ _ _ _ _ _ _ _ _ (fg_u2 (fg_u2 (fg_u2 ν5 290 (1 + (4 * (t.2.2.2.2.2 0))) (nI 4294967285)) 290 ((1 + (4 * (t.2.2.2.2.2 0))) + 1) (nI 4294967295)) 290 ((1 + (4 * (t.2.2.2.2.2 0))) + 2) (nI 4294967295), fg_rho R, 304)
      refine fg_aloadn (fg_ft (pc := 181) tb_Mo_dayLine 107 rfl) rfl ?_
      refine fg_getR (fg_ft (pc := 182) tb_Mo_dayLine 108 rfl) ff_Mo_17 ly_287 rfl (fg_lt ly_287 (by decide)) (rh_287_10 R) ?_
      refine fg_iload (fg_ft (pc := 185) tb_Mo_dayLine 109 rfl) rfl ?_
      refine fg_iconst (fg_ft (pc := 187) tb_Mo_dayLine 110 rfl) ic_3 ?_
      refine fg_iaddN (fg_ft (pc := 188) tb_Mo_dayLine 111 rfl) ?_
      refine fg_iload (fg_ft (pc := 189) tb_Mo_dayLine 112 rfl) rfl ?_
      refine fg_iastN (fg_ft (pc := 191) tb_Mo_dayLine 113 rfl) ly_290 (fg_lt ly_290 (by decide)) (by omega) ?_
      show fg_wp _ _ _ _ _ _ _ _ _ (fg_u2 (fg_u2 (fg_u2 (fg_u2 ν5 290 (1 + (4 * (t.2.2.2.2.2 0))) (nI 4294967285)) 290 ((1 + (4 * (t.2.2.2.2.2 0))) + 1) (nI 4294967295)) 290 ((1 + (4 * (t.2.2.2.2.2 0))) + 2) (nI 4294967295)) 290 ((1 + (4 * (t.2.2.2.2.2 0))) + 3) (nI 4294967295), fg_rho R, 304)
      refine fg_aloadn (fg_ft (pc := 192) tb_Mo_dayLine 114 rfl) rfl ?_
      refine fg_getR (fg_ft (pc := 193) tb_Mo_dayLine 115 rfl) ff_Mo_17 ly_287 rfl (fg_lt ly_287 (by decide)) (rh_287_10 R) ?_
      refine fg_iconst (fg_ft (pc := 196) tb_Mo_dayLine 116 rfl) ic_0 ?_
      refine fg_dup2 (fg_ft (pc := 197) tb_Mo_dayLine 117 rfl) rfl rfl ?_
      refine fg_ialdV (v := (nI (t.2.2.2.2.2 0))) (fg_ft (pc := 198) tb_Mo_dayLine 118 rfl) ly_290 (fg_lt ly_290 (by decide)) (by omega) ((fg_u2ns (f := (fg_u2 (fg_u2 (fg_u2 ν5 290 (1 + (4 * (t.2.2.2.2.2 0))) (nI 4294967285)) 290 ((1 + (4 * (t.2.2.2.2.2 0))) + 1) (nI 4294967295)) 290 ((1 + (4 * (t.2.2.2.2.2 0))) + 2) (nI 4294967295))) (a := 290) (k := ((1 + (4 * (t.2.2.2.2.2 0))) + 3)) (b := 290) (j := 0) (x := (nI 4294967295)) (by omega)).trans ((fg_u2ns (f := (fg_u2 (fg_u2 ν5 290 (1 + (4 * (t.2.2.2.2.2 0))) (nI 4294967285)) 290 ((1 + (4 * (t.2.2.2.2.2 0))) + 1) (nI 4294967295))) (a := 290) (k := ((1 + (4 * (t.2.2.2.2.2 0))) + 2)) (b := 290) (j := 0) (x := (nI 4294967295)) (by omega)).trans ((fg_u2ns (f := (fg_u2 ν5 290 (1 + (4 * (t.2.2.2.2.2 0))) (nI 4294967285))) (a := 290) (k := ((1 + (4 * (t.2.2.2.2.2 0))) + 1)) (b := 290) (j := 0) (x := (nI 4294967295)) (by omega)).trans ((fg_u2ns (f := ν5) (a := 290) (k := (1 + (4 * (t.2.2.2.2.2 0)))) (b := 290) (j := 0) (x := (nI 4294967285)) (by omega)).trans (h5.2.2.2.2.2.2.1 0 (by omega)))))) ?_
      refine fg_iconst (fg_ft (pc := 199) tb_Mo_dayLine 119 rfl) ic_1 ?_
      refine fg_iaddN (fg_ft (pc := 200) tb_Mo_dayLine 120 rfl) ?_
      refine fg_iastN (fg_ft (pc := 201) tb_Mo_dayLine 121 rfl) ly_290 (fg_lt ly_290 (by decide)) (by omega) ?_
      show fg_wp _ _ _ _ _ _ _ _ _ (fg_u2 (fg_u2 (fg_u2 (fg_u2 (fg_u2 ν5 290 (1 + (4 * (t.2.2.2.2.2 0))) (nI 4294967285)) 290 ((1 + (4 * (t.2.2.2.2.2 0))) + 1) (nI 4294967295)) 290 ((1 + (4 * (t.2.2.2.2.2 0))) + 2) (nI 4294967295)) 290 ((1 + (4 * (t.2.2.2.2.2 0))) + 3) (nI 4294967295)) 290 0 (nI ((t.2.2.2.2.2 0) + 1)), fg_rho R, 304)
      have hm : rz_RZ (fg_u2 (fg_u2 (fg_u2 (fg_u2 (fg_u2 ν5 290 (1 + (4 * (t.2.2.2.2.2 0))) (nI 4294967285)) 290 ((1 + (4 * (t.2.2.2.2.2 0))) + 1) (nI 4294967295)) 290 ((1 + (4 * (t.2.2.2.2.2 0))) + 2) (nI 4294967295)) 290 ((1 + (4 * (t.2.2.2.2.2 0))) + 3) (nI 4294967295)) 290 0 (nI ((t.2.2.2.2.2 0) + 1))) b len (rz_dn 0 (rz_dm (pz_K b len) (pz_V b len) (pz_S b len) t.2 0)) := by
        have e9 : rz_dm (pz_K b len) (pz_V b len) (pz_S b len) t.2 0 = (4294967295, 4294967295, 4294967295, t.2) := rfl
        rw [e9]
        show rz_RZ _ b len (rz_pd 4294967285 4294967295 4294967295 4294967295 t.2)
        unfold rz_pd
        rw [if_pos (by omega)]
        exact (((((h5).put).put).put).put).put
      have agm : rz_ag μ (fg_u2 (fg_u2 (fg_u2 (fg_u2 (fg_u2 ν5 290 (1 + (4 * (t.2.2.2.2.2 0))) (nI 4294967285)) 290 ((1 + (4 * (t.2.2.2.2.2 0))) + 1) (nI 4294967295)) 290 ((1 + (4 * (t.2.2.2.2.2 0))) + 2) (nI 4294967295)) 290 ((1 + (4 * (t.2.2.2.2.2 0))) + 3) (nI 4294967295)) 290 0 (nI ((t.2.2.2.2.2 0) + 1))) := fun a j p q r => (fg_u2ne r).trans ((fg_u2ne r).trans ((fg_u2ne r).trans ((fg_u2ne r).trans ((fg_u2ne r).trans (ag5 a j p q r)))))
      refine fg_aloadn (fg_ft (pc := 202) tb_Mo_dayLine 122 rfl) rfl ?_
      refine fg_callV (fg_ft (pc := 203) tb_Mo_dayLine 123 rfl) cf_Mo_153 (fg_isOf ly_287 rfl (fg_lt ly_287 (by decide))) (as := []) (st := []) rfl rfl (Nat.le_of_ble_eq_true rfl) (Nat.le_refl _) (Nat.le_refl _) (ev_Mo_endsLine hle hb256 hm ?_)
      intro ν7 hg7 h7
      have ag7 := rz_ag_tr agm hg7
      show fg_wp _ _ _ _ _ _ _ _ _ (ν7, fg_rho R, 304)
      exact fg_vret (fg_ft (pc := 206) tb_Mo_dayLine 124 rfl) rfl rfl (hQ _ ag7 h7)
theorem ev_Mo_dayLine_11 {E : fg_E} {d : Nat} {μ : Nat → Nat → Int32} {R : fg_T4} {Q : Option Value → fg_M → Prop} {b : Nat → Nat} {len : Nat} {Z : rz_Z} (hle : len ≤ 600) (hb256 : ∀ j, b j < 256) (h : rz_RZ μ b len Z) (hcnt : Z.2.2.2.2 0 ≤ 700) {t : Nat × rz_Z} (ht : rz_ta (pz_K b len) (pz_V b len) (pz_S b len) 11 17 (rz_c3 0 30 (pz_S b len Z.1) Z) = t) (hk : t.1 = 11) (hQ : ∀ μ' : Nat → Nat → Int32, rz_ag μ μ' → rz_RZ μ' b len (rz_el (pz_K b len) (pz_S b len) (rz_dn 11 (rz_dm (pz_K b len) (pz_V b len) (pz_S b len) t.2 11))) → Q none (μ', fg_rho R, 304)) : fg_Ev E yy_Mo_dayLine (d + 9) [.ref 287] (μ, fg_rho R, 304) 304 Q := by
  refine fg_intro (by decide +kernel) (Nat.le_of_ble_eq_true rfl) (fg_okAs rfl) (Nat.le_refl _) ?_
  refine fg_aloadn (fg_ft (pc := 0) tb_Mo_dayLine 0 rfl) rfl ?_
  refine fg_getV (v := (nI (pz_S b len Z.1))) (fg_ft (pc := 1) tb_Mo_dayLine 1 rfl) ff_Mo_81 ly_287 rfl (fg_lt ly_287 (by decide)) h.2.1.2.1 ?_
  refine fg_istoren (fg_ft (pc := 4) tb_Mo_dayLine 2 rfl) (Nat.le_of_ble_eq_true rfl) ?_
  refine fg_aloadn (fg_ft (pc := 5) tb_Mo_dayLine 3 rfl) rfl ?_
  refine fg_getR (fg_ft (pc := 6) tb_Mo_dayLine 4 rfl) ff_Mo_17 ly_287 rfl (fg_lt ly_287 (by decide)) (rh_287_10 R) ?_
  refine fg_iconst (fg_ft (pc := 9) tb_Mo_dayLine 5 rfl) ic_0 ?_
  refine fg_ialdV (v := (nI (Z.2.2.2.2 0))) (fg_ft (pc := 10) tb_Mo_dayLine 6 rfl) ly_290 (fg_lt ly_290 (by decide)) (by omega) (h.2.2.2.2.2.2.1 0 (by omega)) ?_
  have hb0 := hcnt
  refine fg_bipush (fg_ft (pc := 11) tb_Mo_dayLine 7 rfl) ib_30 ?_
  refine fg_icmp_ltN (tgt := 22) (fg_ft (pc := 13) tb_Mo_dayLine 8 rfl) (by decide) (by omega) (by decide) (fun c13 => ?_) (fun c13 => ?_)
  · have hc : rz_RZ μ b len (rz_c3 0 30 (pz_S b len Z.1) Z) := by
      unfold rz_c3
      rw [if_neg (by omega)]
      exact h
    refine fg_aloadn (fg_ft (pc := 22) tb_Mo_dayLine 13 rfl) rfl ?_
    refine fg_bipush (fg_ft (pc := 23) tb_Mo_dayLine 14 rfl) ib_11 ?_
    refine fg_bipush (fg_ft (pc := 25) tb_Mo_dayLine 15 rfl) ib_17 ?_
    refine fg_callV (fg_ft (pc := 27) tb_Mo_dayLine 16 rfl) cf_Mo_135 (fg_isOf ly_287 rfl (fg_lt ly_287 (by decide))) (as := [.int (nI 11), .int (nI 17)]) (st := []) rfl rfl (Nat.le_of_ble_eq_true rfl) (Nat.le_refl _) (Nat.le_refl _) (ev_Mo_takes (lo := 11) (hi := 17) hle hb256 hc (by decide) (by decide) ?_)
    intro ν1 hg1 h1
    have ag1 := hg1
    rw [ht] at h1 ⊢
    show fg_wp _ _ _ _ _ _ _ _ _ (ν1, fg_rho R, 304)
    have hCt : t.2.2.2.2.2 = Z.2.2.2.2 := by rw [← ht, rz_ta_C, rz_c3_C]
    refine fg_top (y := nI 11) (congrArg nI hk) ?_
    refine fg_istoren (fg_ft (pc := 30) tb_Mo_dayLine 17 rfl) (Nat.le_of_ble_eq_true rfl) ?_
    refine fg_iconst (fg_ft (pc := 31) tb_Mo_dayLine 18 rfl) ic_m1 ?_
    refine fg_top (y := nI 4294967295) (by decide) ?_
    refine fg_istoren (fg_ft (pc := 32) tb_Mo_dayLine 19 rfl) (Nat.le_of_ble_eq_true rfl) ?_
    refine fg_iconst (fg_ft (pc := 33) tb_Mo_dayLine 20 rfl) ic_m1 ?_
    refine fg_top (y := nI 4294967295) (by decide) ?_
    refine fg_istore (fg_ft (pc := 34) tb_Mo_dayLine 21 rfl) (Nat.le_of_ble_eq_true rfl) ?_
    refine fg_iconst (fg_ft (pc := 36) tb_Mo_dayLine 22 rfl) ic_m1 ?_
    refine fg_top (y := nI 4294967295) (by decide) ?_
    refine fg_istore (fg_ft (pc := 37) tb_Mo_dayLine 23 rfl) (Nat.le_of_ble_eq_true rfl) ?_
    refine fg_iloadn (fg_ft (pc := 39) tb_Mo_dayLine 24 rfl) rfl ?_
    refine fg_if_leN (tgt := 56) (fg_ft (pc := 40) tb_Mo_dayLine 25 rfl) (by decide) (by decide) (fun c40 => (absurd c40 (by decide))) (fun c40 => ?_)
    refine fg_iloadn (fg_ft (pc := 43) tb_Mo_dayLine 26 rfl) rfl ?_
    refine fg_bipush (fg_ft (pc := 44) tb_Mo_dayLine 27 rfl) ib_17 ?_
    refine fg_icmp_eqN (tgt := 56) (fg_ft (pc := 46) tb_Mo_dayLine 28 rfl) (by decide) (by decide) (by decide) (fun c46 => (absurd c46 (by decide))) (fun c46 => ?_)
    refine fg_aloadn (fg_ft (pc := 49) tb_Mo_dayLine 29 rfl) rfl ?_
    refine fg_iconst (fg_ft (pc := 50) tb_Mo_dayLine 30 rfl) ic_0 ?_
    refine fg_iconst (fg_ft (pc := 51) tb_Mo_dayLine 31 rfl) ic_4 ?_
    refine fg_callV (fg_ft (pc := 52) tb_Mo_dayLine 32 rfl) cf_Mo_121 (fg_isOf ly_287 rfl (fg_lt ly_287 (by decide))) (as := [.int (nI 0), .int (nI 4)]) (st := []) rfl rfl (Nat.le_of_ble_eq_true rfl) (Nat.le_refl _) (Nat.le_refl _) (ev_Mo_numbered (lo := 0) (hi := 4 + 1) hle hb256 h1 (rz_m (by decide) (by decide)) ?_)
    intro ν2 hg2 h2
    have ag2 := rz_ag_tr ag1 hg2
    obtain ⟨a, ha⟩ : ∃ x, (rz_nu (pz_K b len) (pz_V b len) (pz_S b len) 0 (4 + 1) t.2) = x := ⟨_, rfl⟩
    rw [ha] at h2 ⊢
    show fg_wp _ _ _ _ _ _ _ _ _ (ν2, fg_rho R, 304)
    have hab : a.1 ≤ 99 ∨ a.1 = 4294967295 := by rw [← ha]; exact rz_nu_lt
    have hCa : a.2.2.2.2.2 = Z.2.2.2.2 := by rw [← ha, rz_nu_C, hCt]
    refine fg_istoren (fg_ft (pc := 55) tb_Mo_dayLine 33 rfl) (Nat.le_of_ble_eq_true rfl) ?_
    refine fg_iloadn (fg_ft (pc := 56) tb_Mo_dayLine 34 rfl) rfl ?_
    refine fg_bipush (fg_ft (pc := 57) tb_Mo_dayLine 35 rfl) ib_16 ?_
    refine fg_icmp_neN (tgt := 107) (fg_ft (pc := 59) tb_Mo_dayLine 36 rfl) (by decide) (by decide) (by decide) (fun c59 => ?_) (fun c59 => (absurd c59 (by decide)))
    refine fg_iloadn (fg_ft (pc := 107) tb_Mo_dayLine 61 rfl) rfl ?_
    refine fg_if_leN (tgt := 126) (fg_ft (pc := 108) tb_Mo_dayLine 62 rfl) (by decide) (by decide) (fun c108 => (absurd c108 (by decide))) (fun c108 => ?_)
    refine fg_iloadn (fg_ft (pc := 111) tb_Mo_dayLine 63 rfl) rfl ?_
    refine fg_bipush (fg_ft (pc := 112) tb_Mo_dayLine 64 rfl) ib_17 ?_
    refine fg_icmp_eqN (tgt := 126) (fg_ft (pc := 114) tb_Mo_dayLine 65 rfl) (by decide) (by decide) (by decide) (fun c114 => (absurd c114 (by decide))) (fun c114 => ?_)
    refine fg_aloadn (fg_ft (pc := 117) tb_Mo_dayLine 66 rfl) rfl ?_
    refine fg_iconst (fg_ft (pc := 118) tb_Mo_dayLine 67 rfl) ic_0 ?_
    refine fg_bipush (fg_ft (pc := 119) tb_Mo_dayLine 68 rfl) ib_9 ?_
    refine fg_callV (fg_ft (pc := 121) tb_Mo_dayLine 69 rfl) cf_Mo_121 (fg_isOf ly_287 rfl (fg_lt ly_287 (by decide))) (as := [.int (nI 0), .int (nI 9)]) (st := []) rfl rfl (Nat.le_of_ble_eq_true rfl) (Nat.le_refl _) (Nat.le_refl _) (ev_Mo_numbered (lo := 0) (hi := 9 + 1) hle hb256 h2 (rz_m (by decide) (by decide)) ?_)
    intro ν3 hg3 h3
    have ag3 := rz_ag_tr ag2 hg3
    obtain ⟨b9, hb9⟩ : ∃ x, (rz_nu (pz_K b len) (pz_V b len) (pz_S b len) 0 (9 + 1) a.2) = x := ⟨_, rfl⟩
    rw [hb9] at h3 ⊢
    show fg_wp _ _ _ _ _ _ _ _ _ (ν3, fg_rho R, 304)
    refine fg_istore (fg_ft (pc := 124) tb_Mo_dayLine 70 rfl) (Nat.le_of_ble_eq_true rfl) ?_
    have hCf : b9.2.2.2.2.2 = Z.2.2.2.2 := by rw [← hb9, rz_nu_C, hCa]
    have hb1 : b9.2.2.2.2.2 0 ≤ 700 := by rw [hCf]; exact hcnt
    refine fg_aloadn (fg_ft (pc := 126) tb_Mo_dayLine 71 rfl) rfl ?_
    refine fg_getR (fg_ft (pc := 127) tb_Mo_dayLine 72 rfl) ff_Mo_17 ly_287 rfl (fg_lt ly_287 (by decide)) (rh_287_10 R) ?_
    refine fg_iconst (fg_ft (pc := 130) tb_Mo_dayLine 73 rfl) ic_0 ?_
    refine fg_ialdV (v := (nI (b9.2.2.2.2.2 0))) (fg_ft (pc := 131) tb_Mo_dayLine 74 rfl) ly_290 (fg_lt ly_290 (by decide)) (by omega) (h3.2.2.2.2.2.2.1 0 (by omega)) ?_
    refine fg_bipush (fg_ft (pc := 132) tb_Mo_dayLine 75 rfl) ib_30 ?_
    refine fg_icmp_geN (tgt := 192) (fg_ft (pc := 134) tb_Mo_dayLine 76 rfl) (by decide) (by omega) (by decide) (fun c134 => ?_) (fun c134 => ?_)
    · refine fg_aloadn (fg_ft (pc := 192) tb_Mo_dayLine 114 rfl) rfl ?_
      refine fg_getR (fg_ft (pc := 193) tb_Mo_dayLine 115 rfl) ff_Mo_17 ly_287 rfl (fg_lt ly_287 (by decide)) (rh_287_10 R) ?_
      refine fg_iconst (fg_ft (pc := 196) tb_Mo_dayLine 116 rfl) ic_0 ?_
      refine fg_dup2 (fg_ft (pc := 197) tb_Mo_dayLine 117 rfl) rfl rfl ?_
      refine fg_ialdV (v := (nI (b9.2.2.2.2.2 0))) (fg_ft (pc := 198) tb_Mo_dayLine 118 rfl) ly_290 (fg_lt ly_290 (by decide)) (by omega) (h3.2.2.2.2.2.2.1 0 (by omega)) ?_
      refine fg_iconst (fg_ft (pc := 199) tb_Mo_dayLine 119 rfl) ic_1 ?_
      refine fg_iaddN (fg_ft (pc := 200) tb_Mo_dayLine 120 rfl) ?_
      refine fg_iastN (fg_ft (pc := 201) tb_Mo_dayLine 121 rfl) ly_290 (fg_lt ly_290 (by decide)) (by omega) ?_
      show fg_wp _ _ _ _ _ _ _ _ _ (fg_u2 ν3 290 0 (nI ((b9.2.2.2.2.2 0) + 1)), fg_rho R, 304)
      have hm : rz_RZ (fg_u2 ν3 290 0 (nI ((b9.2.2.2.2.2 0) + 1))) b len (rz_dn 11 (rz_dm (pz_K b len) (pz_V b len) (pz_S b len) t.2 11)) := by
        have e9 : rz_dm (pz_K b len) (pz_V b len) (pz_S b len) t.2 11 = (a.1, b9.1, 4294967295, b9.2) := (by
          show rz_dr (pz_K b len) (pz_V b len) (pz_S b len) (rz_nu (pz_K b len) (pz_V b len) (pz_S b len) 0 (4 + 1) t.2) = _
          rw [ha]
          unfold rz_dr
          have h1 : rz_nu (pz_K b len) (pz_V b len) (pz_S b len) 0 10 a.2 = b9 := hb9
          rw [h1])
        rw [e9]
        show rz_RZ _ b len (rz_pd 0 a.1 b9.1 4294967295 b9.2)
        unfold rz_pd
        rw [if_neg (by omega)]
        exact (h3).put
      have agm : rz_ag μ (fg_u2 ν3 290 0 (nI ((b9.2.2.2.2.2 0) + 1))) := fun a j p q r => (fg_u2ne r).trans (ag3 a j p q r)
      refine fg_aloadn (fg_ft (pc := 202) tb_Mo_dayLine 122 rfl) rfl ?_
      refine fg_callV (fg_ft (pc := 203) tb_Mo_dayLine 123 rfl) cf_Mo_153 (fg_isOf ly_287 rfl (fg_lt ly_287 (by decide))) (as := []) (st := []) rfl rfl (Nat.le_of_ble_eq_true rfl) (Nat.le_refl _) (Nat.le_refl _) (ev_Mo_endsLine hle hb256 hm ?_)
      intro ν4 hg4 h4
      have ag4 := rz_ag_tr agm hg4
      show fg_wp _ _ _ _ _ _ _ _ _ (ν4, fg_rho R, 304)
      exact fg_vret (fg_ft (pc := 206) tb_Mo_dayLine 124 rfl) rfl rfl (hQ _ ag4 h4)
    · refine fg_iconst (fg_ft (pc := 137) tb_Mo_dayLine 77 rfl) ic_1 ?_
      refine fg_iconst (fg_ft (pc := 138) tb_Mo_dayLine 78 rfl) ic_4 ?_
      refine fg_aloadn (fg_ft (pc := 139) tb_Mo_dayLine 79 rfl) rfl ?_
      refine fg_getR (fg_ft (pc := 140) tb_Mo_dayLine 80 rfl) ff_Mo_17 ly_287 rfl (fg_lt ly_287 (by decide)) (rh_287_10 R) ?_
      refine fg_iconst (fg_ft (pc := 143) tb_Mo_dayLine 81 rfl) ic_0 ?_
      refine fg_ialdV (v := (nI (b9.2.2.2.2.2 0))) (fg_ft (pc := 144) tb_Mo_dayLine 82 rfl) ly_290 (fg_lt ly_290 (by decide)) (by omega) (h3.2.2.2.2.2.2.1 0 (by omega)) ?_
      refine fg_imulN (fg_ft (pc := 145) tb_Mo_dayLine 83 rfl) ?_
      refine fg_iaddN (fg_ft (pc := 146) tb_Mo_dayLine 84 rfl) ?_
      refine fg_istore (fg_ft (pc := 147) tb_Mo_dayLine 85 rfl) (Nat.le_of_ble_eq_true rfl) ?_
      refine fg_aloadn (fg_ft (pc := 149) tb_Mo_dayLine 86 rfl) rfl ?_
      refine fg_getR (fg_ft (pc := 150) tb_Mo_dayLine 87 rfl) ff_Mo_17 ly_287 rfl (fg_lt ly_287 (by decide)) (rh_287_10 R) ?_
      refine fg_iload (fg_ft (pc := 153) tb_Mo_dayLine 88 rfl) rfl ?_
      refine fg_iloadn (fg_ft (pc := 155) tb_Mo_dayLine 89 rfl) rfl ?_
      refine fg_bipush (fg_ft (pc := 156) tb_Mo_dayLine 90 rfl) ib_11 ?_
      refine fg_isubN (fg_ft (pc := 158) tb_Mo_dayLine 91 rfl) (by omega) ?_
      refine fg_iastN (fg_ft (pc := 159) tb_Mo_dayLine 92 rfl) ly_290 (fg_lt ly_290 (by decide)) (by omega) ?_
      show fg_wp _ _ _ _ _ _ _ _ _ (fg_u2 ν3 290 (1 + (4 * (b9.2.2.2.2.2 0))) (nI (11 - 11)), fg_rho R, 304)
      refine fg_aloadn (fg_ft (pc := 160) tb_Mo_dayLine 93 rfl) rfl ?_
      refine fg_getR (fg_ft (pc := 161) tb_Mo_dayLine 94 rfl) ff_Mo_17 ly_287 rfl (fg_lt ly_287 (by decide)) (rh_287_10 R) ?_
      refine fg_iload (fg_ft (pc := 164) tb_Mo_dayLine 95 rfl) rfl ?_
      refine fg_iconst (fg_ft (pc := 166) tb_Mo_dayLine 96 rfl) ic_1 ?_
      refine fg_iaddN (fg_ft (pc := 167) tb_Mo_dayLine 97 rfl) ?_
      refine fg_iloadn (fg_ft (pc := 168) tb_Mo_dayLine 98 rfl) rfl ?_
      refine fg_iastN (fg_ft (pc := 169) tb_Mo_dayLine 99 rfl) ly_290 (fg_lt ly_290 (by decide)) (by omega) ?_
      show fg_wp _ _ _ _ _ _ _ _ _ (fg_u2 (fg_u2 ν3 290 (1 + (4 * (b9.2.2.2.2.2 0))) (nI (11 - 11))) 290 ((1 + (4 * (b9.2.2.2.2.2 0))) + 1) (nI (a.1)), fg_rho R, 304)
      refine fg_aloadn (fg_ft (pc := 170) tb_Mo_dayLine 100 rfl) rfl ?_
      refine fg_getR (fg_ft (pc := 171) tb_Mo_dayLine 101 rfl) ff_Mo_17 ly_287 rfl (fg_lt ly_287 (by decide)) (rh_287_10 R) ?_
      refine fg_iload (fg_ft (pc := 174) tb_Mo_dayLine 102 rfl) rfl ?_
      refine fg_iconst (fg_ft (pc := 176) tb_Mo_dayLine 103 rfl) ic_2 ?_
      refine fg_iaddN (fg_ft (pc := 177) tb_Mo_dayLine 104 rfl) ?_
      refine fg_iload (fg_ft (pc := 178) tb_Mo_dayLine 105 rfl) rfl ?_
      refine fg_iastN (fg_ft (pc := 180) tb_Mo_dayLine 106 rfl) ly_290 (fg_lt ly_290 (by decide)) (by omega) ?_
      show fg_wp _ _ _ _ _ _ _ _ _ (fg_u2 (fg_u2 (fg_u2 ν3 290 (1 + (4 * (b9.2.2.2.2.2 0))) (nI (11 - 11))) 290 ((1 + (4 * (b9.2.2.2.2.2 0))) + 1) (nI (a.1))) 290 ((1 + (4 * (b9.2.2.2.2.2 0))) + 2) (nI (b9.1)), fg_rho R, 304)
      refine fg_aloadn (fg_ft (pc := 181) tb_Mo_dayLine 107 rfl) rfl ?_
      refine fg_getR (fg_ft (pc := 182) tb_Mo_dayLine 108 rfl) ff_Mo_17 ly_287 rfl (fg_lt ly_287 (by decide)) (rh_287_10 R) ?_
      refine fg_iload (fg_ft (pc := 185) tb_Mo_dayLine 109 rfl) rfl ?_
      refine fg_iconst (fg_ft (pc := 187) tb_Mo_dayLine 110 rfl) ic_3 ?_
      refine fg_iaddN (fg_ft (pc := 188) tb_Mo_dayLine 111 rfl) ?_
      refine fg_iload (fg_ft (pc := 189) tb_Mo_dayLine 112 rfl) rfl ?_
      refine fg_iastN (fg_ft (pc := 191) tb_Mo_dayLine 113 rfl) ly_290 (fg_lt ly_290 (by decide)) (by omega) ?_
      show fg_wp _ _ _ _ _ _ _ _ _ (fg_u2 (fg_u2 (fg_u2 (fg_u2 ν3 290 (1 + (4 * (b9.2.2.2.2.2 0))) (nI (11 - 11))) 290 ((1 + (4 * (b9.2.2.2.2.2 0))) + 1) (nI (a.1))) 290 ((1 + (4 * (b9.2.2.2.2.2 0))) + 2) (nI (b9.1))) 290 ((1 + (4 * (b9.2.2.2.2.2 0))) + 3) (nI 4294967295), fg_rho R, 304)
      refine fg_aloadn (fg_ft (pc := 192) tb_Mo_dayLine 114 rfl) rfl ?_
      refine fg_getR (fg_ft (pc := 193) tb_Mo_dayLine 115 rfl) ff_Mo_17 ly_287 rfl (fg_lt ly_287 (by decide)) (rh_287_10 R) ?_
      refine fg_iconst (fg_ft (pc := 196) tb_Mo_dayLine 116 rfl) ic_0 ?_
      refine fg_dup2 (fg_ft (pc := 197) tb_Mo_dayLine 117 rfl) rfl rfl ?_
      refine fg_ialdV (v := (nI (b9.2.2.2.2.2 0))) (fg_ft (pc := 198) tb_Mo_dayLine 118 rfl) ly_290 (fg_lt ly_290 (by decide)) (by omega) ((fg_u2ns (f := (fg_u2 (fg_u2 (fg_u2 ν3 290 (1 + (4 * (b9.2.2.2.2.2 0))) (nI (11 - 11))) 290 ((1 + (4 * (b9.2.2.2.2.2 0))) + 1) (nI (a.1))) 290 ((1 + (4 * (b9.2.2.2.2.2 0))) + 2) (nI (b9.1)))) (a := 290) (k := ((1 + (4 * (b9.2.2.2.2.2 0))) + 3)) (b := 290) (j := 0) (x := (nI 4294967295)) (by omega)).trans ((fg_u2ns (f := (fg_u2 (fg_u2 ν3 290 (1 + (4 * (b9.2.2.2.2.2 0))) (nI (11 - 11))) 290 ((1 + (4 * (b9.2.2.2.2.2 0))) + 1) (nI (a.1)))) (a := 290) (k := ((1 + (4 * (b9.2.2.2.2.2 0))) + 2)) (b := 290) (j := 0) (x := (nI (b9.1))) (by omega)).trans ((fg_u2ns (f := (fg_u2 ν3 290 (1 + (4 * (b9.2.2.2.2.2 0))) (nI (11 - 11)))) (a := 290) (k := ((1 + (4 * (b9.2.2.2.2.2 0))) + 1)) (b := 290) (j := 0) (x := (nI (a.1))) (by omega)).trans ((fg_u2ns (f := ν3) (a := 290) (k := (1 + (4 * (b9.2.2.2.2.2 0)))) (b := 290) (j := 0) (x := (nI (11 - 11))) (by omega)).trans (h3.2.2.2.2.2.2.1 0 (by omega)))))) ?_
      refine fg_iconst (fg_ft (pc := 199) tb_Mo_dayLine 119 rfl) ic_1 ?_
      refine fg_iaddN (fg_ft (pc := 200) tb_Mo_dayLine 120 rfl) ?_
      refine fg_iastN (fg_ft (pc := 201) tb_Mo_dayLine 121 rfl) ly_290 (fg_lt ly_290 (by decide)) (by omega) ?_
      show fg_wp _ _ _ _ _ _ _ _ _ (fg_u2 (fg_u2 (fg_u2 (fg_u2 (fg_u2 ν3 290 (1 + (4 * (b9.2.2.2.2.2 0))) (nI (11 - 11))) 290 ((1 + (4 * (b9.2.2.2.2.2 0))) + 1) (nI (a.1))) 290 ((1 + (4 * (b9.2.2.2.2.2 0))) + 2) (nI (b9.1))) 290 ((1 + (4 * (b9.2.2.2.2.2 0))) + 3) (nI 4294967295)) 290 0 (nI ((b9.2.2.2.2.2 0) + 1)), fg_rho R, 304)
      have hm : rz_RZ (fg_u2 (fg_u2 (fg_u2 (fg_u2 (fg_u2 ν3 290 (1 + (4 * (b9.2.2.2.2.2 0))) (nI (11 - 11))) 290 ((1 + (4 * (b9.2.2.2.2.2 0))) + 1) (nI (a.1))) 290 ((1 + (4 * (b9.2.2.2.2.2 0))) + 2) (nI (b9.1))) 290 ((1 + (4 * (b9.2.2.2.2.2 0))) + 3) (nI 4294967295)) 290 0 (nI ((b9.2.2.2.2.2 0) + 1))) b len (rz_dn 11 (rz_dm (pz_K b len) (pz_V b len) (pz_S b len) t.2 11)) := by
        have e9 : rz_dm (pz_K b len) (pz_V b len) (pz_S b len) t.2 11 = (a.1, b9.1, 4294967295, b9.2) := (by
          show rz_dr (pz_K b len) (pz_V b len) (pz_S b len) (rz_nu (pz_K b len) (pz_V b len) (pz_S b len) 0 (4 + 1) t.2) = _
          rw [ha]
          unfold rz_dr
          have h1 : rz_nu (pz_K b len) (pz_V b len) (pz_S b len) 0 10 a.2 = b9 := hb9
          rw [h1])
        rw [e9]
        show rz_RZ _ b len (rz_pd 0 a.1 b9.1 4294967295 b9.2)
        unfold rz_pd
        rw [if_pos (by omega)]
        exact (((((h3).put).put).put).put).put
      have agm : rz_ag μ (fg_u2 (fg_u2 (fg_u2 (fg_u2 (fg_u2 ν3 290 (1 + (4 * (b9.2.2.2.2.2 0))) (nI (11 - 11))) 290 ((1 + (4 * (b9.2.2.2.2.2 0))) + 1) (nI (a.1))) 290 ((1 + (4 * (b9.2.2.2.2.2 0))) + 2) (nI (b9.1))) 290 ((1 + (4 * (b9.2.2.2.2.2 0))) + 3) (nI 4294967295)) 290 0 (nI ((b9.2.2.2.2.2 0) + 1))) := fun a j p q r => (fg_u2ne r).trans ((fg_u2ne r).trans ((fg_u2ne r).trans ((fg_u2ne r).trans ((fg_u2ne r).trans (ag3 a j p q r)))))
      refine fg_aloadn (fg_ft (pc := 202) tb_Mo_dayLine 122 rfl) rfl ?_
      refine fg_callV (fg_ft (pc := 203) tb_Mo_dayLine 123 rfl) cf_Mo_153 (fg_isOf ly_287 rfl (fg_lt ly_287 (by decide))) (as := []) (st := []) rfl rfl (Nat.le_of_ble_eq_true rfl) (Nat.le_refl _) (Nat.le_refl _) (ev_Mo_endsLine hle hb256 hm ?_)
      intro ν5 hg5 h5
      have ag5 := rz_ag_tr agm hg5
      show fg_wp _ _ _ _ _ _ _ _ _ (ν5, fg_rho R, 304)
      exact fg_vret (fg_ft (pc := 206) tb_Mo_dayLine 124 rfl) rfl rfl (hQ _ ag5 h5)
  · refine fg_aloadn (fg_ft (pc := 16) tb_Mo_dayLine 9 rfl) rfl ?_
    refine fg_iconst (fg_ft (pc := 17) tb_Mo_dayLine 10 rfl) ic_3 ?_
    refine fg_iloadn (fg_ft (pc := 18) tb_Mo_dayLine 11 rfl) rfl ?_
    refine fg_callV (fg_ft (pc := 19) tb_Mo_dayLine 12 rfl) cf_Mo_114 (fg_isOf ly_287 rfl (fg_lt ly_287 (by decide))) (as := [.int (nI 3), .int (nI (pz_S b len Z.1))]) (st := []) rfl rfl (Nat.le_of_ble_eq_true rfl) (Nat.le_refl _) (Nat.le_refl _) (ev_Mo_also (kd := 3) (at9 := (pz_S b len Z.1)) hle hb256 h (by decide) (by decide) (by decide) (rz_S_le hle) ?_)
    intro ν6 hg6 h6
    have ag6 := hg6
    show fg_wp _ _ _ _ _ _ _ _ _ (ν6, fg_rho R, 304)
    have hc : rz_RZ ν6 b len (rz_c3 0 30 (pz_S b len Z.1) Z) := by
      unfold rz_c3
      rw [if_pos (by omega)]
      exact h6
    refine fg_aloadn (fg_ft (pc := 22) tb_Mo_dayLine 13 rfl) rfl ?_
    refine fg_bipush (fg_ft (pc := 23) tb_Mo_dayLine 14 rfl) ib_11 ?_
    refine fg_bipush (fg_ft (pc := 25) tb_Mo_dayLine 15 rfl) ib_17 ?_
    refine fg_callV (fg_ft (pc := 27) tb_Mo_dayLine 16 rfl) cf_Mo_135 (fg_isOf ly_287 rfl (fg_lt ly_287 (by decide))) (as := [.int (nI 11), .int (nI 17)]) (st := []) rfl rfl (Nat.le_of_ble_eq_true rfl) (Nat.le_refl _) (Nat.le_refl _) (ev_Mo_takes (lo := 11) (hi := 17) hle hb256 hc (by decide) (by decide) ?_)
    intro ν7 hg7 h7
    have ag7 := rz_ag_tr ag6 hg7
    rw [ht] at h7 ⊢
    show fg_wp _ _ _ _ _ _ _ _ _ (ν7, fg_rho R, 304)
    have hCt : t.2.2.2.2.2 = Z.2.2.2.2 := by rw [← ht, rz_ta_C, rz_c3_C]
    refine fg_top (y := nI 11) (congrArg nI hk) ?_
    refine fg_istoren (fg_ft (pc := 30) tb_Mo_dayLine 17 rfl) (Nat.le_of_ble_eq_true rfl) ?_
    refine fg_iconst (fg_ft (pc := 31) tb_Mo_dayLine 18 rfl) ic_m1 ?_
    refine fg_top (y := nI 4294967295) (by decide) ?_
    refine fg_istoren (fg_ft (pc := 32) tb_Mo_dayLine 19 rfl) (Nat.le_of_ble_eq_true rfl) ?_
    refine fg_iconst (fg_ft (pc := 33) tb_Mo_dayLine 20 rfl) ic_m1 ?_
    refine fg_top (y := nI 4294967295) (by decide) ?_
    refine fg_istore (fg_ft (pc := 34) tb_Mo_dayLine 21 rfl) (Nat.le_of_ble_eq_true rfl) ?_
    refine fg_iconst (fg_ft (pc := 36) tb_Mo_dayLine 22 rfl) ic_m1 ?_
    refine fg_top (y := nI 4294967295) (by decide) ?_
    refine fg_istore (fg_ft (pc := 37) tb_Mo_dayLine 23 rfl) (Nat.le_of_ble_eq_true rfl) ?_
    refine fg_iloadn (fg_ft (pc := 39) tb_Mo_dayLine 24 rfl) rfl ?_
    refine fg_if_leN (tgt := 56) (fg_ft (pc := 40) tb_Mo_dayLine 25 rfl) (by decide) (by decide) (fun c40 => (absurd c40 (by decide))) (fun c40 => ?_)
    refine fg_iloadn (fg_ft (pc := 43) tb_Mo_dayLine 26 rfl) rfl ?_
    refine fg_bipush (fg_ft (pc := 44) tb_Mo_dayLine 27 rfl) ib_17 ?_
    refine fg_icmp_eqN (tgt := 56) (fg_ft (pc := 46) tb_Mo_dayLine 28 rfl) (by decide) (by decide) (by decide) (fun c46 => (absurd c46 (by decide))) (fun c46 => ?_)
    refine fg_aloadn (fg_ft (pc := 49) tb_Mo_dayLine 29 rfl) rfl ?_
    refine fg_iconst (fg_ft (pc := 50) tb_Mo_dayLine 30 rfl) ic_0 ?_
    refine fg_iconst (fg_ft (pc := 51) tb_Mo_dayLine 31 rfl) ic_4 ?_
    refine fg_callV (fg_ft (pc := 52) tb_Mo_dayLine 32 rfl) cf_Mo_121 (fg_isOf ly_287 rfl (fg_lt ly_287 (by decide))) (as := [.int (nI 0), .int (nI 4)]) (st := []) rfl rfl (Nat.le_of_ble_eq_true rfl) (Nat.le_refl _) (Nat.le_refl _) (ev_Mo_numbered (lo := 0) (hi := 4 + 1) hle hb256 h7 (rz_m (by decide) (by decide)) ?_)
    intro ν8 hg8 h8
    have ag8 := rz_ag_tr ag7 hg8
    obtain ⟨a, ha⟩ : ∃ x, (rz_nu (pz_K b len) (pz_V b len) (pz_S b len) 0 (4 + 1) t.2) = x := ⟨_, rfl⟩
    rw [ha] at h8 ⊢
    show fg_wp _ _ _ _ _ _ _ _ _ (ν8, fg_rho R, 304)
    have hab : a.1 ≤ 99 ∨ a.1 = 4294967295 := by rw [← ha]; exact rz_nu_lt
    have hCa : a.2.2.2.2.2 = Z.2.2.2.2 := by rw [← ha, rz_nu_C, hCt]
    refine fg_istoren (fg_ft (pc := 55) tb_Mo_dayLine 33 rfl) (Nat.le_of_ble_eq_true rfl) ?_
    refine fg_iloadn (fg_ft (pc := 56) tb_Mo_dayLine 34 rfl) rfl ?_
    refine fg_bipush (fg_ft (pc := 57) tb_Mo_dayLine 35 rfl) ib_16 ?_
    refine fg_icmp_neN (tgt := 107) (fg_ft (pc := 59) tb_Mo_dayLine 36 rfl) (by decide) (by decide) (by decide) (fun c59 => ?_) (fun c59 => (absurd c59 (by decide)))
    refine fg_iloadn (fg_ft (pc := 107) tb_Mo_dayLine 61 rfl) rfl ?_
    refine fg_if_leN (tgt := 126) (fg_ft (pc := 108) tb_Mo_dayLine 62 rfl) (by decide) (by decide) (fun c108 => (absurd c108 (by decide))) (fun c108 => ?_)
    refine fg_iloadn (fg_ft (pc := 111) tb_Mo_dayLine 63 rfl) rfl ?_
    refine fg_bipush (fg_ft (pc := 112) tb_Mo_dayLine 64 rfl) ib_17 ?_
    refine fg_icmp_eqN (tgt := 126) (fg_ft (pc := 114) tb_Mo_dayLine 65 rfl) (by decide) (by decide) (by decide) (fun c114 => (absurd c114 (by decide))) (fun c114 => ?_)
    refine fg_aloadn (fg_ft (pc := 117) tb_Mo_dayLine 66 rfl) rfl ?_
    refine fg_iconst (fg_ft (pc := 118) tb_Mo_dayLine 67 rfl) ic_0 ?_
    refine fg_bipush (fg_ft (pc := 119) tb_Mo_dayLine 68 rfl) ib_9 ?_
    refine fg_callV (fg_ft (pc := 121) tb_Mo_dayLine 69 rfl) cf_Mo_121 (fg_isOf ly_287 rfl (fg_lt ly_287 (by decide))) (as := [.int (nI 0), .int (nI 9)]) (st := []) rfl rfl (Nat.le_of_ble_eq_true rfl) (Nat.le_refl _) (Nat.le_refl _) (ev_Mo_numbered (lo := 0) (hi := 9 + 1) hle hb256 h8 (rz_m (by decide) (by decide)) ?_)
    intro ν9 hg9 h9
    have ag9 := rz_ag_tr ag8 hg9
    obtain ⟨b9, hb9⟩ : ∃ x, (rz_nu (pz_K b len) (pz_V b len) (pz_S b len) 0 (9 + 1) a.2) = x := ⟨_, rfl⟩
    rw [hb9] at h9 ⊢
    show fg_wp _ _ _ _ _ _ _ _ _ (ν9, fg_rho R, 304)
    refine fg_istore (fg_ft (pc := 124) tb_Mo_dayLine 70 rfl) (Nat.le_of_ble_eq_true rfl) ?_
    have hCf : b9.2.2.2.2.2 = Z.2.2.2.2 := by rw [← hb9, rz_nu_C, hCa]
    have hb1 : b9.2.2.2.2.2 0 ≤ 700 := by rw [hCf]; exact hcnt
    refine fg_aloadn (fg_ft (pc := 126) tb_Mo_dayLine 71 rfl) rfl ?_
    refine fg_getR (fg_ft (pc := 127) tb_Mo_dayLine 72 rfl) ff_Mo_17 ly_287 rfl (fg_lt ly_287 (by decide)) (rh_287_10 R) ?_
    refine fg_iconst (fg_ft (pc := 130) tb_Mo_dayLine 73 rfl) ic_0 ?_
    refine fg_ialdV (v := (nI (b9.2.2.2.2.2 0))) (fg_ft (pc := 131) tb_Mo_dayLine 74 rfl) ly_290 (fg_lt ly_290 (by decide)) (by omega) (h9.2.2.2.2.2.2.1 0 (by omega)) ?_
    refine fg_bipush (fg_ft (pc := 132) tb_Mo_dayLine 75 rfl) ib_30 ?_
    refine fg_icmp_geN (tgt := 192) (fg_ft (pc := 134) tb_Mo_dayLine 76 rfl) (by decide) (by omega) (by decide) (fun c134 => ?_) (fun c134 => ?_)
    · refine fg_aloadn (fg_ft (pc := 192) tb_Mo_dayLine 114 rfl) rfl ?_
      refine fg_getR (fg_ft (pc := 193) tb_Mo_dayLine 115 rfl) ff_Mo_17 ly_287 rfl (fg_lt ly_287 (by decide)) (rh_287_10 R) ?_
      refine fg_iconst (fg_ft (pc := 196) tb_Mo_dayLine 116 rfl) ic_0 ?_
      refine fg_dup2 (fg_ft (pc := 197) tb_Mo_dayLine 117 rfl) rfl rfl ?_
      refine fg_ialdV (v := (nI (b9.2.2.2.2.2 0))) (fg_ft (pc := 198) tb_Mo_dayLine 118 rfl) ly_290 (fg_lt ly_290 (by decide)) (by omega) (h9.2.2.2.2.2.2.1 0 (by omega)) ?_
      refine fg_iconst (fg_ft (pc := 199) tb_Mo_dayLine 119 rfl) ic_1 ?_
      refine fg_iaddN (fg_ft (pc := 200) tb_Mo_dayLine 120 rfl) ?_
      refine fg_iastN (fg_ft (pc := 201) tb_Mo_dayLine 121 rfl) ly_290 (fg_lt ly_290 (by decide)) (by omega) ?_
      show fg_wp _ _ _ _ _ _ _ _ _ (fg_u2 ν9 290 0 (nI ((b9.2.2.2.2.2 0) + 1)), fg_rho R, 304)
      have hm : rz_RZ (fg_u2 ν9 290 0 (nI ((b9.2.2.2.2.2 0) + 1))) b len (rz_dn 11 (rz_dm (pz_K b len) (pz_V b len) (pz_S b len) t.2 11)) := by
        have e9 : rz_dm (pz_K b len) (pz_V b len) (pz_S b len) t.2 11 = (a.1, b9.1, 4294967295, b9.2) := (by
          show rz_dr (pz_K b len) (pz_V b len) (pz_S b len) (rz_nu (pz_K b len) (pz_V b len) (pz_S b len) 0 (4 + 1) t.2) = _
          rw [ha]
          unfold rz_dr
          have h1 : rz_nu (pz_K b len) (pz_V b len) (pz_S b len) 0 10 a.2 = b9 := hb9
          rw [h1])
        rw [e9]
        show rz_RZ _ b len (rz_pd 0 a.1 b9.1 4294967295 b9.2)
        unfold rz_pd
        rw [if_neg (by omega)]
        exact (h9).put
      have agm : rz_ag μ (fg_u2 ν9 290 0 (nI ((b9.2.2.2.2.2 0) + 1))) := fun a j p q r => (fg_u2ne r).trans (ag9 a j p q r)
      refine fg_aloadn (fg_ft (pc := 202) tb_Mo_dayLine 122 rfl) rfl ?_
      refine fg_callV (fg_ft (pc := 203) tb_Mo_dayLine 123 rfl) cf_Mo_153 (fg_isOf ly_287 rfl (fg_lt ly_287 (by decide))) (as := []) (st := []) rfl rfl (Nat.le_of_ble_eq_true rfl) (Nat.le_refl _) (Nat.le_refl _) (ev_Mo_endsLine hle hb256 hm ?_)
      intro ν10 hg10 h10
      have ag10 := rz_ag_tr agm hg10
      show fg_wp _ _ _ _ _ _ _ _ _ (ν10, fg_rho R, 304)
      exact fg_vret (fg_ft (pc := 206) tb_Mo_dayLine 124 rfl) rfl rfl (hQ _ ag10 h10)
    · refine fg_iconst (fg_ft (pc := 137) tb_Mo_dayLine 77 rfl) ic_1 ?_
      refine fg_iconst (fg_ft (pc := 138) tb_Mo_dayLine 78 rfl) ic_4 ?_
      refine fg_aloadn (fg_ft (pc := 139) tb_Mo_dayLine 79 rfl) rfl ?_
      refine fg_getR (fg_ft (pc := 140) tb_Mo_dayLine 80 rfl) ff_Mo_17 ly_287 rfl (fg_lt ly_287 (by decide)) (rh_287_10 R) ?_
      refine fg_iconst (fg_ft (pc := 143) tb_Mo_dayLine 81 rfl) ic_0 ?_
      refine fg_ialdV (v := (nI (b9.2.2.2.2.2 0))) (fg_ft (pc := 144) tb_Mo_dayLine 82 rfl) ly_290 (fg_lt ly_290 (by decide)) (by omega) (h9.2.2.2.2.2.2.1 0 (by omega)) ?_
      refine fg_imulN (fg_ft (pc := 145) tb_Mo_dayLine 83 rfl) ?_
      refine fg_iaddN (fg_ft (pc := 146) tb_Mo_dayLine 84 rfl) ?_
      refine fg_istore (fg_ft (pc := 147) tb_Mo_dayLine 85 rfl) (Nat.le_of_ble_eq_true rfl) ?_
      refine fg_aloadn (fg_ft (pc := 149) tb_Mo_dayLine 86 rfl) rfl ?_
      refine fg_getR (fg_ft (pc := 150) tb_Mo_dayLine 87 rfl) ff_Mo_17 ly_287 rfl (fg_lt ly_287 (by decide)) (rh_287_10 R) ?_
      refine fg_iload (fg_ft (pc := 153) tb_Mo_dayLine 88 rfl) rfl ?_
      refine fg_iloadn (fg_ft (pc := 155) tb_Mo_dayLine 89 rfl) rfl ?_
      refine fg_bipush (fg_ft (pc := 156) tb_Mo_dayLine 90 rfl) ib_11 ?_
      refine fg_isubN (fg_ft (pc := 158) tb_Mo_dayLine 91 rfl) (by omega) ?_
      refine fg_iastN (fg_ft (pc := 159) tb_Mo_dayLine 92 rfl) ly_290 (fg_lt ly_290 (by decide)) (by omega) ?_
      show fg_wp _ _ _ _ _ _ _ _ _ (fg_u2 ν9 290 (1 + (4 * (b9.2.2.2.2.2 0))) (nI (11 - 11)), fg_rho R, 304)
      refine fg_aloadn (fg_ft (pc := 160) tb_Mo_dayLine 93 rfl) rfl ?_
      refine fg_getR (fg_ft (pc := 161) tb_Mo_dayLine 94 rfl) ff_Mo_17 ly_287 rfl (fg_lt ly_287 (by decide)) (rh_287_10 R) ?_
      refine fg_iload (fg_ft (pc := 164) tb_Mo_dayLine 95 rfl) rfl ?_
      refine fg_iconst (fg_ft (pc := 166) tb_Mo_dayLine 96 rfl) ic_1 ?_
      refine fg_iaddN (fg_ft (pc := 167) tb_Mo_dayLine 97 rfl) ?_
      refine fg_iloadn (fg_ft (pc := 168) tb_Mo_dayLine 98 rfl) rfl ?_
      refine fg_iastN (fg_ft (pc := 169) tb_Mo_dayLine 99 rfl) ly_290 (fg_lt ly_290 (by decide)) (by omega) ?_
      show fg_wp _ _ _ _ _ _ _ _ _ (fg_u2 (fg_u2 ν9 290 (1 + (4 * (b9.2.2.2.2.2 0))) (nI (11 - 11))) 290 ((1 + (4 * (b9.2.2.2.2.2 0))) + 1) (nI (a.1)), fg_rho R, 304)
      refine fg_aloadn (fg_ft (pc := 170) tb_Mo_dayLine 100 rfl) rfl ?_
      refine fg_getR (fg_ft (pc := 171) tb_Mo_dayLine 101 rfl) ff_Mo_17 ly_287 rfl (fg_lt ly_287 (by decide)) (rh_287_10 R) ?_
      refine fg_iload (fg_ft (pc := 174) tb_Mo_dayLine 102 rfl) rfl ?_
      refine fg_iconst (fg_ft (pc := 176) tb_Mo_dayLine 103 rfl) ic_2 ?_
      refine fg_iaddN (fg_ft (pc := 177) tb_Mo_dayLine 104 rfl) ?_
      refine fg_iload (fg_ft (pc := 178) tb_Mo_dayLine 105 rfl) rfl ?_
      refine fg_iastN (fg_ft (pc := 180) tb_Mo_dayLine 106 rfl) ly_290 (fg_lt ly_290 (by decide)) (by omega) ?_
      show fg_wp _ _ _ _ _ _ _ _ _ (fg_u2 (fg_u2 (fg_u2 ν9 290 (1 + (4 * (b9.2.2.2.2.2 0))) (nI (11 - 11))) 290 ((1 + (4 * (b9.2.2.2.2.2 0))) + 1) (nI (a.1))) 290 ((1 + (4 * (b9.2.2.2.2.2 0))) + 2) (nI (b9.1)), fg_rho R, 304)
      refine fg_aloadn (fg_ft (pc := 181) tb_Mo_dayLine 107 rfl) rfl ?_
      refine fg_getR (fg_ft (pc := 182) tb_Mo_dayLine 108 rfl) ff_Mo_17 ly_287 rfl (fg_lt ly_287 (by decide)) (rh_287_10 R) ?_
      refine fg_iload (fg_ft (pc := 185) tb_Mo_dayLine 109 rfl) rfl ?_
      refine fg_iconst (fg_ft (pc := 187) tb_Mo_dayLine 110 rfl) ic_3 ?_
      refine fg_iaddN (fg_ft (pc := 188) tb_Mo_dayLine 111 rfl) ?_
      refine fg_iload (fg_ft (pc := 189) tb_Mo_dayLine 112 rfl) rfl ?_
      refine fg_iastN (fg_ft (pc := 191) tb_Mo_dayLine 113 rfl) ly_290 (fg_lt ly_290 (by decide)) (by omega) ?_
      show fg_wp _ _ _ _ _ _ _ _ _ (fg_u2 (fg_u2 (fg_u2 (fg_u2 ν9 290 (1 + (4 * (b9.2.2.2.2.2 0))) (nI (11 - 11))) 290 ((1 + (4 * (b9.2.2.2.2.2 0))) + 1) (nI (a.1))) 290 ((1 + (4 * (b9.2.2.2.2.2 0))) + 2) (nI (b9.1))) 290 ((1 + (4 * (b9.2.2.2.2.2 0))) + 3) (nI 4294967295), fg_rho R, 304)
      refine fg_aloadn (fg_ft (pc := 192) tb_Mo_dayLine 114 rfl) rfl ?_
      refine fg_getR (fg_ft (pc := 193) tb_Mo_dayLine 115 rfl) ff_Mo_17 ly_287 rfl (fg_lt ly_287 (by decide)) (rh_287_10 R) ?_
      refine fg_iconst (fg_ft (pc := 196) tb_Mo_dayLine 116 rfl) ic_0 ?_
      refine fg_dup2 (fg_ft (pc := 197) tb_Mo_dayLine 117 rfl) rfl rfl ?_
      refine fg_ialdV (v := (nI (b9.2.2.2.2.2 0))) (fg_ft (pc := 198) tb_Mo_dayLine 118 rfl) ly_290 (fg_lt ly_290 (by decide)) (by omega) ((fg_u2ns (f := (fg_u2 (fg_u2 (fg_u2 ν9 290 (1 + (4 * (b9.2.2.2.2.2 0))) (nI (11 - 11))) 290 ((1 + (4 * (b9.2.2.2.2.2 0))) + 1) (nI (a.1))) 290 ((1 + (4 * (b9.2.2.2.2.2 0))) + 2) (nI (b9.1)))) (a := 290) (k := ((1 + (4 * (b9.2.2.2.2.2 0))) + 3)) (b := 290) (j := 0) (x := (nI 4294967295)) (by omega)).trans ((fg_u2ns (f := (fg_u2 (fg_u2 ν9 290 (1 + (4 * (b9.2.2.2.2.2 0))) (nI (11 - 11))) 290 ((1 + (4 * (b9.2.2.2.2.2 0))) + 1) (nI (a.1)))) (a := 290) (k := ((1 + (4 * (b9.2.2.2.2.2 0))) + 2)) (b := 290) (j := 0) (x := (nI (b9.1))) (by omega)).trans ((fg_u2ns (f := (fg_u2 ν9 290 (1 + (4 * (b9.2.2.2.2.2 0))) (nI (11 - 11)))) (a := 290) (k := ((1 + (4 * (b9.2.2.2.2.2 0))) + 1)) (b := 290) (j := 0) (x := (nI (a.1))) (by omega)).trans ((fg_u2ns (f := ν9) (a := 290) (k := (1 + (4 * (b9.2.2.2.2.2 0)))) (b := 290) (j := 0) (x := (nI (11 - 11))) (by omega)).trans (h9.2.2.2.2.2.2.1 0 (by omega)))))) ?_
      refine fg_iconst (fg_ft (pc := 199) tb_Mo_dayLine 119 rfl) ic_1 ?_
      refine fg_iaddN (fg_ft (pc := 200) tb_Mo_dayLine 120 rfl) ?_
      refine fg_iastN (fg_ft (pc := 201) tb_Mo_dayLine 121 rfl) ly_290 (fg_lt ly_290 (by decide)) (by omega) ?_
      show fg_wp _ _ _ _ _ _ _ _ _ (fg_u2 (fg_u2 (fg_u2 (fg_u2 (fg_u2 ν9 290 (1 + (4 * (b9.2.2.2.2.2 0))) (nI (11 - 11))) 290 ((1 + (4 * (b9.2.2.2.2.2 0))) + 1) (nI (a.1))) 290 ((1 + (4 * (b9.2.2.2.2.2 0))) + 2) (nI (b9.1))) 290 ((1 + (4 * (b9.2.2.2.2.2 0))) + 3) (nI 4294967295)) 290 0 (nI ((b9.2.2.2.2.2 0) + 1)), fg_rho R, 304)
      have hm : rz_RZ (fg_u2 (fg_u2 (fg_u2 (fg_u2 (fg_u2 ν9 290 (1 + (4 * (b9.2.2.2.2.2 0))) (nI (11 - 11))) 290 ((1 + (4 * (b9.2.2.2.2.2 0))) + 1) (nI (a.1))) 290 ((1 + (4 * (b9.2.2.2.2.2 0))) + 2) (nI (b9.1))) 290 ((1 + (4 * (b9.2.2.2.2.2 0))) + 3) (nI 4294967295)) 290 0 (nI ((b9.2.2.2.2.2 0) + 1))) b len (rz_dn 11 (rz_dm (pz_K b len) (pz_V b len) (pz_S b len) t.2 11)) := by
        have e9 : rz_dm (pz_K b len) (pz_V b len) (pz_S b len) t.2 11 = (a.1, b9.1, 4294967295, b9.2) := (by
          show rz_dr (pz_K b len) (pz_V b len) (pz_S b len) (rz_nu (pz_K b len) (pz_V b len) (pz_S b len) 0 (4 + 1) t.2) = _
          rw [ha]
          unfold rz_dr
          have h1 : rz_nu (pz_K b len) (pz_V b len) (pz_S b len) 0 10 a.2 = b9 := hb9
          rw [h1])
        rw [e9]
        show rz_RZ _ b len (rz_pd 0 a.1 b9.1 4294967295 b9.2)
        unfold rz_pd
        rw [if_pos (by omega)]
        exact (((((h9).put).put).put).put).put
      have agm : rz_ag μ (fg_u2 (fg_u2 (fg_u2 (fg_u2 (fg_u2 ν9 290 (1 + (4 * (b9.2.2.2.2.2 0))) (nI (11 - 11))) 290 ((1 + (4 * (b9.2.2.2.2.2 0))) + 1) (nI (a.1))) 290 ((1 + (4 * (b9.2.2.2.2.2 0))) + 2) (nI (b9.1))) 290 ((1 + (4 * (b9.2.2.2.2.2 0))) + 3) (nI 4294967295)) 290 0 (nI ((b9.2.2.2.2.2 0) + 1))) := fun a j p q r => (fg_u2ne r).trans ((fg_u2ne r).trans ((fg_u2ne r).trans ((fg_u2ne r).trans ((fg_u2ne r).trans (ag9 a j p q r)))))
      refine fg_aloadn (fg_ft (pc := 202) tb_Mo_dayLine 122 rfl) rfl ?_
      refine fg_callV (fg_ft (pc := 203) tb_Mo_dayLine 123 rfl) cf_Mo_153 (fg_isOf ly_287 rfl (fg_lt ly_287 (by decide))) (as := []) (st := []) rfl rfl (Nat.le_of_ble_eq_true rfl) (Nat.le_refl _) (Nat.le_refl _) (ev_Mo_endsLine hle hb256 hm ?_)
      intro ν11 hg11 h11
      have ag11 := rz_ag_tr agm hg11
      show fg_wp _ _ _ _ _ _ _ _ _ (ν11, fg_rho R, 304)
      exact fg_vret (fg_ft (pc := 206) tb_Mo_dayLine 124 rfl) rfl rfl (hQ _ ag11 h11)
theorem ev_Mo_dayLine_12 {E : fg_E} {d : Nat} {μ : Nat → Nat → Int32} {R : fg_T4} {Q : Option Value → fg_M → Prop} {b : Nat → Nat} {len : Nat} {Z : rz_Z} (hle : len ≤ 600) (hb256 : ∀ j, b j < 256) (h : rz_RZ μ b len Z) (hcnt : Z.2.2.2.2 0 ≤ 700) {t : Nat × rz_Z} (ht : rz_ta (pz_K b len) (pz_V b len) (pz_S b len) 11 17 (rz_c3 0 30 (pz_S b len Z.1) Z) = t) (hk : t.1 = 12) (hQ : ∀ μ' : Nat → Nat → Int32, rz_ag μ μ' → rz_RZ μ' b len (rz_el (pz_K b len) (pz_S b len) (rz_dn 12 (rz_dm (pz_K b len) (pz_V b len) (pz_S b len) t.2 12))) → Q none (μ', fg_rho R, 304)) : fg_Ev E yy_Mo_dayLine (d + 9) [.ref 287] (μ, fg_rho R, 304) 304 Q := by
  refine fg_intro (by decide +kernel) (Nat.le_of_ble_eq_true rfl) (fg_okAs rfl) (Nat.le_refl _) ?_
  refine fg_aloadn (fg_ft (pc := 0) tb_Mo_dayLine 0 rfl) rfl ?_
  refine fg_getV (v := (nI (pz_S b len Z.1))) (fg_ft (pc := 1) tb_Mo_dayLine 1 rfl) ff_Mo_81 ly_287 rfl (fg_lt ly_287 (by decide)) h.2.1.2.1 ?_
  refine fg_istoren (fg_ft (pc := 4) tb_Mo_dayLine 2 rfl) (Nat.le_of_ble_eq_true rfl) ?_
  refine fg_aloadn (fg_ft (pc := 5) tb_Mo_dayLine 3 rfl) rfl ?_
  refine fg_getR (fg_ft (pc := 6) tb_Mo_dayLine 4 rfl) ff_Mo_17 ly_287 rfl (fg_lt ly_287 (by decide)) (rh_287_10 R) ?_
  refine fg_iconst (fg_ft (pc := 9) tb_Mo_dayLine 5 rfl) ic_0 ?_
  refine fg_ialdV (v := (nI (Z.2.2.2.2 0))) (fg_ft (pc := 10) tb_Mo_dayLine 6 rfl) ly_290 (fg_lt ly_290 (by decide)) (by omega) (h.2.2.2.2.2.2.1 0 (by omega)) ?_
  have hb0 := hcnt
  refine fg_bipush (fg_ft (pc := 11) tb_Mo_dayLine 7 rfl) ib_30 ?_
  refine fg_icmp_ltN (tgt := 22) (fg_ft (pc := 13) tb_Mo_dayLine 8 rfl) (by decide) (by omega) (by decide) (fun c13 => ?_) (fun c13 => ?_)
  · have hc : rz_RZ μ b len (rz_c3 0 30 (pz_S b len Z.1) Z) := by
      unfold rz_c3
      rw [if_neg (by omega)]
      exact h
    refine fg_aloadn (fg_ft (pc := 22) tb_Mo_dayLine 13 rfl) rfl ?_
    refine fg_bipush (fg_ft (pc := 23) tb_Mo_dayLine 14 rfl) ib_11 ?_
    refine fg_bipush (fg_ft (pc := 25) tb_Mo_dayLine 15 rfl) ib_17 ?_
    refine fg_callV (fg_ft (pc := 27) tb_Mo_dayLine 16 rfl) cf_Mo_135 (fg_isOf ly_287 rfl (fg_lt ly_287 (by decide))) (as := [.int (nI 11), .int (nI 17)]) (st := []) rfl rfl (Nat.le_of_ble_eq_true rfl) (Nat.le_refl _) (Nat.le_refl _) (ev_Mo_takes (lo := 11) (hi := 17) hle hb256 hc (by decide) (by decide) ?_)
    intro ν1 hg1 h1
    have ag1 := hg1
    rw [ht] at h1 ⊢
    show fg_wp _ _ _ _ _ _ _ _ _ (ν1, fg_rho R, 304)
    have hCt : t.2.2.2.2.2 = Z.2.2.2.2 := by rw [← ht, rz_ta_C, rz_c3_C]
    refine fg_top (y := nI 12) (congrArg nI hk) ?_
    refine fg_istoren (fg_ft (pc := 30) tb_Mo_dayLine 17 rfl) (Nat.le_of_ble_eq_true rfl) ?_
    refine fg_iconst (fg_ft (pc := 31) tb_Mo_dayLine 18 rfl) ic_m1 ?_
    refine fg_top (y := nI 4294967295) (by decide) ?_
    refine fg_istoren (fg_ft (pc := 32) tb_Mo_dayLine 19 rfl) (Nat.le_of_ble_eq_true rfl) ?_
    refine fg_iconst (fg_ft (pc := 33) tb_Mo_dayLine 20 rfl) ic_m1 ?_
    refine fg_top (y := nI 4294967295) (by decide) ?_
    refine fg_istore (fg_ft (pc := 34) tb_Mo_dayLine 21 rfl) (Nat.le_of_ble_eq_true rfl) ?_
    refine fg_iconst (fg_ft (pc := 36) tb_Mo_dayLine 22 rfl) ic_m1 ?_
    refine fg_top (y := nI 4294967295) (by decide) ?_
    refine fg_istore (fg_ft (pc := 37) tb_Mo_dayLine 23 rfl) (Nat.le_of_ble_eq_true rfl) ?_
    refine fg_iloadn (fg_ft (pc := 39) tb_Mo_dayLine 24 rfl) rfl ?_
    refine fg_if_leN (tgt := 56) (fg_ft (pc := 40) tb_Mo_dayLine 25 rfl) (by decide) (by decide) (fun c40 => (absurd c40 (by decide))) (fun c40 => ?_)
    refine fg_iloadn (fg_ft (pc := 43) tb_Mo_dayLine 26 rfl) rfl ?_
    refine fg_bipush (fg_ft (pc := 44) tb_Mo_dayLine 27 rfl) ib_17 ?_
    refine fg_icmp_eqN (tgt := 56) (fg_ft (pc := 46) tb_Mo_dayLine 28 rfl) (by decide) (by decide) (by decide) (fun c46 => (absurd c46 (by decide))) (fun c46 => ?_)
    refine fg_aloadn (fg_ft (pc := 49) tb_Mo_dayLine 29 rfl) rfl ?_
    refine fg_iconst (fg_ft (pc := 50) tb_Mo_dayLine 30 rfl) ic_0 ?_
    refine fg_iconst (fg_ft (pc := 51) tb_Mo_dayLine 31 rfl) ic_4 ?_
    refine fg_callV (fg_ft (pc := 52) tb_Mo_dayLine 32 rfl) cf_Mo_121 (fg_isOf ly_287 rfl (fg_lt ly_287 (by decide))) (as := [.int (nI 0), .int (nI 4)]) (st := []) rfl rfl (Nat.le_of_ble_eq_true rfl) (Nat.le_refl _) (Nat.le_refl _) (ev_Mo_numbered (lo := 0) (hi := 4 + 1) hle hb256 h1 (rz_m (by decide) (by decide)) ?_)
    intro ν2 hg2 h2
    have ag2 := rz_ag_tr ag1 hg2
    obtain ⟨a, ha⟩ : ∃ x, (rz_nu (pz_K b len) (pz_V b len) (pz_S b len) 0 (4 + 1) t.2) = x := ⟨_, rfl⟩
    rw [ha] at h2 ⊢
    show fg_wp _ _ _ _ _ _ _ _ _ (ν2, fg_rho R, 304)
    have hab : a.1 ≤ 99 ∨ a.1 = 4294967295 := by rw [← ha]; exact rz_nu_lt
    have hCa : a.2.2.2.2.2 = Z.2.2.2.2 := by rw [← ha, rz_nu_C, hCt]
    refine fg_istoren (fg_ft (pc := 55) tb_Mo_dayLine 33 rfl) (Nat.le_of_ble_eq_true rfl) ?_
    refine fg_iloadn (fg_ft (pc := 56) tb_Mo_dayLine 34 rfl) rfl ?_
    refine fg_bipush (fg_ft (pc := 57) tb_Mo_dayLine 35 rfl) ib_16 ?_
    refine fg_icmp_neN (tgt := 107) (fg_ft (pc := 59) tb_Mo_dayLine 36 rfl) (by decide) (by decide) (by decide) (fun c59 => ?_) (fun c59 => (absurd c59 (by decide)))
    refine fg_iloadn (fg_ft (pc := 107) tb_Mo_dayLine 61 rfl) rfl ?_
    refine fg_if_leN (tgt := 126) (fg_ft (pc := 108) tb_Mo_dayLine 62 rfl) (by decide) (by decide) (fun c108 => (absurd c108 (by decide))) (fun c108 => ?_)
    refine fg_iloadn (fg_ft (pc := 111) tb_Mo_dayLine 63 rfl) rfl ?_
    refine fg_bipush (fg_ft (pc := 112) tb_Mo_dayLine 64 rfl) ib_17 ?_
    refine fg_icmp_eqN (tgt := 126) (fg_ft (pc := 114) tb_Mo_dayLine 65 rfl) (by decide) (by decide) (by decide) (fun c114 => (absurd c114 (by decide))) (fun c114 => ?_)
    refine fg_aloadn (fg_ft (pc := 117) tb_Mo_dayLine 66 rfl) rfl ?_
    refine fg_iconst (fg_ft (pc := 118) tb_Mo_dayLine 67 rfl) ic_0 ?_
    refine fg_bipush (fg_ft (pc := 119) tb_Mo_dayLine 68 rfl) ib_9 ?_
    refine fg_callV (fg_ft (pc := 121) tb_Mo_dayLine 69 rfl) cf_Mo_121 (fg_isOf ly_287 rfl (fg_lt ly_287 (by decide))) (as := [.int (nI 0), .int (nI 9)]) (st := []) rfl rfl (Nat.le_of_ble_eq_true rfl) (Nat.le_refl _) (Nat.le_refl _) (ev_Mo_numbered (lo := 0) (hi := 9 + 1) hle hb256 h2 (rz_m (by decide) (by decide)) ?_)
    intro ν3 hg3 h3
    have ag3 := rz_ag_tr ag2 hg3
    obtain ⟨b9, hb9⟩ : ∃ x, (rz_nu (pz_K b len) (pz_V b len) (pz_S b len) 0 (9 + 1) a.2) = x := ⟨_, rfl⟩
    rw [hb9] at h3 ⊢
    show fg_wp _ _ _ _ _ _ _ _ _ (ν3, fg_rho R, 304)
    refine fg_istore (fg_ft (pc := 124) tb_Mo_dayLine 70 rfl) (Nat.le_of_ble_eq_true rfl) ?_
    have hCf : b9.2.2.2.2.2 = Z.2.2.2.2 := by rw [← hb9, rz_nu_C, hCa]
    have hb1 : b9.2.2.2.2.2 0 ≤ 700 := by rw [hCf]; exact hcnt
    refine fg_aloadn (fg_ft (pc := 126) tb_Mo_dayLine 71 rfl) rfl ?_
    refine fg_getR (fg_ft (pc := 127) tb_Mo_dayLine 72 rfl) ff_Mo_17 ly_287 rfl (fg_lt ly_287 (by decide)) (rh_287_10 R) ?_
    refine fg_iconst (fg_ft (pc := 130) tb_Mo_dayLine 73 rfl) ic_0 ?_
    refine fg_ialdV (v := (nI (b9.2.2.2.2.2 0))) (fg_ft (pc := 131) tb_Mo_dayLine 74 rfl) ly_290 (fg_lt ly_290 (by decide)) (by omega) (h3.2.2.2.2.2.2.1 0 (by omega)) ?_
    refine fg_bipush (fg_ft (pc := 132) tb_Mo_dayLine 75 rfl) ib_30 ?_
    refine fg_icmp_geN (tgt := 192) (fg_ft (pc := 134) tb_Mo_dayLine 76 rfl) (by decide) (by omega) (by decide) (fun c134 => ?_) (fun c134 => ?_)
    · refine fg_aloadn (fg_ft (pc := 192) tb_Mo_dayLine 114 rfl) rfl ?_
      refine fg_getR (fg_ft (pc := 193) tb_Mo_dayLine 115 rfl) ff_Mo_17 ly_287 rfl (fg_lt ly_287 (by decide)) (rh_287_10 R) ?_
      refine fg_iconst (fg_ft (pc := 196) tb_Mo_dayLine 116 rfl) ic_0 ?_
      refine fg_dup2 (fg_ft (pc := 197) tb_Mo_dayLine 117 rfl) rfl rfl ?_
      refine fg_ialdV (v := (nI (b9.2.2.2.2.2 0))) (fg_ft (pc := 198) tb_Mo_dayLine 118 rfl) ly_290 (fg_lt ly_290 (by decide)) (by omega) (h3.2.2.2.2.2.2.1 0 (by omega)) ?_
      refine fg_iconst (fg_ft (pc := 199) tb_Mo_dayLine 119 rfl) ic_1 ?_
      refine fg_iaddN (fg_ft (pc := 200) tb_Mo_dayLine 120 rfl) ?_
      refine fg_iastN (fg_ft (pc := 201) tb_Mo_dayLine 121 rfl) ly_290 (fg_lt ly_290 (by decide)) (by omega) ?_
      show fg_wp _ _ _ _ _ _ _ _ _ (fg_u2 ν3 290 0 (nI ((b9.2.2.2.2.2 0) + 1)), fg_rho R, 304)
      have hm : rz_RZ (fg_u2 ν3 290 0 (nI ((b9.2.2.2.2.2 0) + 1))) b len (rz_dn 12 (rz_dm (pz_K b len) (pz_V b len) (pz_S b len) t.2 12)) := by
        have e9 : rz_dm (pz_K b len) (pz_V b len) (pz_S b len) t.2 12 = (a.1, b9.1, 4294967295, b9.2) := (by
          show rz_dr (pz_K b len) (pz_V b len) (pz_S b len) (rz_nu (pz_K b len) (pz_V b len) (pz_S b len) 0 (4 + 1) t.2) = _
          rw [ha]
          unfold rz_dr
          have h1 : rz_nu (pz_K b len) (pz_V b len) (pz_S b len) 0 10 a.2 = b9 := hb9
          rw [h1])
        rw [e9]
        show rz_RZ _ b len (rz_pd 1 a.1 b9.1 4294967295 b9.2)
        unfold rz_pd
        rw [if_neg (by omega)]
        exact (h3).put
      have agm : rz_ag μ (fg_u2 ν3 290 0 (nI ((b9.2.2.2.2.2 0) + 1))) := fun a j p q r => (fg_u2ne r).trans (ag3 a j p q r)
      refine fg_aloadn (fg_ft (pc := 202) tb_Mo_dayLine 122 rfl) rfl ?_
      refine fg_callV (fg_ft (pc := 203) tb_Mo_dayLine 123 rfl) cf_Mo_153 (fg_isOf ly_287 rfl (fg_lt ly_287 (by decide))) (as := []) (st := []) rfl rfl (Nat.le_of_ble_eq_true rfl) (Nat.le_refl _) (Nat.le_refl _) (ev_Mo_endsLine hle hb256 hm ?_)
      intro ν4 hg4 h4
      have ag4 := rz_ag_tr agm hg4
      show fg_wp _ _ _ _ _ _ _ _ _ (ν4, fg_rho R, 304)
      exact fg_vret (fg_ft (pc := 206) tb_Mo_dayLine 124 rfl) rfl rfl (hQ _ ag4 h4)
    · refine fg_iconst (fg_ft (pc := 137) tb_Mo_dayLine 77 rfl) ic_1 ?_
      refine fg_iconst (fg_ft (pc := 138) tb_Mo_dayLine 78 rfl) ic_4 ?_
      refine fg_aloadn (fg_ft (pc := 139) tb_Mo_dayLine 79 rfl) rfl ?_
      refine fg_getR (fg_ft (pc := 140) tb_Mo_dayLine 80 rfl) ff_Mo_17 ly_287 rfl (fg_lt ly_287 (by decide)) (rh_287_10 R) ?_
      refine fg_iconst (fg_ft (pc := 143) tb_Mo_dayLine 81 rfl) ic_0 ?_
      refine fg_ialdV (v := (nI (b9.2.2.2.2.2 0))) (fg_ft (pc := 144) tb_Mo_dayLine 82 rfl) ly_290 (fg_lt ly_290 (by decide)) (by omega) (h3.2.2.2.2.2.2.1 0 (by omega)) ?_
      refine fg_imulN (fg_ft (pc := 145) tb_Mo_dayLine 83 rfl) ?_
      refine fg_iaddN (fg_ft (pc := 146) tb_Mo_dayLine 84 rfl) ?_
      refine fg_istore (fg_ft (pc := 147) tb_Mo_dayLine 85 rfl) (Nat.le_of_ble_eq_true rfl) ?_
      refine fg_aloadn (fg_ft (pc := 149) tb_Mo_dayLine 86 rfl) rfl ?_
      refine fg_getR (fg_ft (pc := 150) tb_Mo_dayLine 87 rfl) ff_Mo_17 ly_287 rfl (fg_lt ly_287 (by decide)) (rh_287_10 R) ?_
      refine fg_iload (fg_ft (pc := 153) tb_Mo_dayLine 88 rfl) rfl ?_
      refine fg_iloadn (fg_ft (pc := 155) tb_Mo_dayLine 89 rfl) rfl ?_
      refine fg_bipush (fg_ft (pc := 156) tb_Mo_dayLine 90 rfl) ib_11 ?_
      refine fg_isubN (fg_ft (pc := 158) tb_Mo_dayLine 91 rfl) (by omega) ?_
      refine fg_iastN (fg_ft (pc := 159) tb_Mo_dayLine 92 rfl) ly_290 (fg_lt ly_290 (by decide)) (by omega) ?_
      show fg_wp _ _ _ _ _ _ _ _ _ (fg_u2 ν3 290 (1 + (4 * (b9.2.2.2.2.2 0))) (nI (12 - 11)), fg_rho R, 304)
      refine fg_aloadn (fg_ft (pc := 160) tb_Mo_dayLine 93 rfl) rfl ?_
      refine fg_getR (fg_ft (pc := 161) tb_Mo_dayLine 94 rfl) ff_Mo_17 ly_287 rfl (fg_lt ly_287 (by decide)) (rh_287_10 R) ?_
      refine fg_iload (fg_ft (pc := 164) tb_Mo_dayLine 95 rfl) rfl ?_
      refine fg_iconst (fg_ft (pc := 166) tb_Mo_dayLine 96 rfl) ic_1 ?_
      refine fg_iaddN (fg_ft (pc := 167) tb_Mo_dayLine 97 rfl) ?_
      refine fg_iloadn (fg_ft (pc := 168) tb_Mo_dayLine 98 rfl) rfl ?_
      refine fg_iastN (fg_ft (pc := 169) tb_Mo_dayLine 99 rfl) ly_290 (fg_lt ly_290 (by decide)) (by omega) ?_
      show fg_wp _ _ _ _ _ _ _ _ _ (fg_u2 (fg_u2 ν3 290 (1 + (4 * (b9.2.2.2.2.2 0))) (nI (12 - 11))) 290 ((1 + (4 * (b9.2.2.2.2.2 0))) + 1) (nI (a.1)), fg_rho R, 304)
      refine fg_aloadn (fg_ft (pc := 170) tb_Mo_dayLine 100 rfl) rfl ?_
      refine fg_getR (fg_ft (pc := 171) tb_Mo_dayLine 101 rfl) ff_Mo_17 ly_287 rfl (fg_lt ly_287 (by decide)) (rh_287_10 R) ?_
      refine fg_iload (fg_ft (pc := 174) tb_Mo_dayLine 102 rfl) rfl ?_
      refine fg_iconst (fg_ft (pc := 176) tb_Mo_dayLine 103 rfl) ic_2 ?_
      refine fg_iaddN (fg_ft (pc := 177) tb_Mo_dayLine 104 rfl) ?_
      refine fg_iload (fg_ft (pc := 178) tb_Mo_dayLine 105 rfl) rfl ?_
      refine fg_iastN (fg_ft (pc := 180) tb_Mo_dayLine 106 rfl) ly_290 (fg_lt ly_290 (by decide)) (by omega) ?_
      show fg_wp _ _ _ _ _ _ _ _ _ (fg_u2 (fg_u2 (fg_u2 ν3 290 (1 + (4 * (b9.2.2.2.2.2 0))) (nI (12 - 11))) 290 ((1 + (4 * (b9.2.2.2.2.2 0))) + 1) (nI (a.1))) 290 ((1 + (4 * (b9.2.2.2.2.2 0))) + 2) (nI (b9.1)), fg_rho R, 304)
      refine fg_aloadn (fg_ft (pc := 181) tb_Mo_dayLine 107 rfl) rfl ?_
      refine fg_getR (fg_ft (pc := 182) tb_Mo_dayLine 108 rfl) ff_Mo_17 ly_287 rfl (fg_lt ly_287 (by decide)) (rh_287_10 R) ?_
      refine fg_iload (fg_ft (pc := 185) tb_Mo_dayLine 109 rfl) rfl ?_
      refine fg_iconst (fg_ft (pc := 187) tb_Mo_dayLine 110 rfl) ic_3 ?_
      refine fg_iaddN (fg_ft (pc := 188) tb_Mo_dayLine 111 rfl) ?_
      refine fg_iload (fg_ft (pc := 189) tb_Mo_dayLine 112 rfl) rfl ?_
      refine fg_iastN (fg_ft (pc := 191) tb_Mo_dayLine 113 rfl) ly_290 (fg_lt ly_290 (by decide)) (by omega) ?_
      show fg_wp _ _ _ _ _ _ _ _ _ (fg_u2 (fg_u2 (fg_u2 (fg_u2 ν3 290 (1 + (4 * (b9.2.2.2.2.2 0))) (nI (12 - 11))) 290 ((1 + (4 * (b9.2.2.2.2.2 0))) + 1) (nI (a.1))) 290 ((1 + (4 * (b9.2.2.2.2.2 0))) + 2) (nI (b9.1))) 290 ((1 + (4 * (b9.2.2.2.2.2 0))) + 3) (nI 4294967295), fg_rho R, 304)
      refine fg_aloadn (fg_ft (pc := 192) tb_Mo_dayLine 114 rfl) rfl ?_
      refine fg_getR (fg_ft (pc := 193) tb_Mo_dayLine 115 rfl) ff_Mo_17 ly_287 rfl (fg_lt ly_287 (by decide)) (rh_287_10 R) ?_
      refine fg_iconst (fg_ft (pc := 196) tb_Mo_dayLine 116 rfl) ic_0 ?_
      refine fg_dup2 (fg_ft (pc := 197) tb_Mo_dayLine 117 rfl) rfl rfl ?_
      refine fg_ialdV (v := (nI (b9.2.2.2.2.2 0))) (fg_ft (pc := 198) tb_Mo_dayLine 118 rfl) ly_290 (fg_lt ly_290 (by decide)) (by omega) ((fg_u2ns (f := (fg_u2 (fg_u2 (fg_u2 ν3 290 (1 + (4 * (b9.2.2.2.2.2 0))) (nI (12 - 11))) 290 ((1 + (4 * (b9.2.2.2.2.2 0))) + 1) (nI (a.1))) 290 ((1 + (4 * (b9.2.2.2.2.2 0))) + 2) (nI (b9.1)))) (a := 290) (k := ((1 + (4 * (b9.2.2.2.2.2 0))) + 3)) (b := 290) (j := 0) (x := (nI 4294967295)) (by omega)).trans ((fg_u2ns (f := (fg_u2 (fg_u2 ν3 290 (1 + (4 * (b9.2.2.2.2.2 0))) (nI (12 - 11))) 290 ((1 + (4 * (b9.2.2.2.2.2 0))) + 1) (nI (a.1)))) (a := 290) (k := ((1 + (4 * (b9.2.2.2.2.2 0))) + 2)) (b := 290) (j := 0) (x := (nI (b9.1))) (by omega)).trans ((fg_u2ns (f := (fg_u2 ν3 290 (1 + (4 * (b9.2.2.2.2.2 0))) (nI (12 - 11)))) (a := 290) (k := ((1 + (4 * (b9.2.2.2.2.2 0))) + 1)) (b := 290) (j := 0) (x := (nI (a.1))) (by omega)).trans ((fg_u2ns (f := ν3) (a := 290) (k := (1 + (4 * (b9.2.2.2.2.2 0)))) (b := 290) (j := 0) (x := (nI (12 - 11))) (by omega)).trans (h3.2.2.2.2.2.2.1 0 (by omega)))))) ?_
      refine fg_iconst (fg_ft (pc := 199) tb_Mo_dayLine 119 rfl) ic_1 ?_
      refine fg_iaddN (fg_ft (pc := 200) tb_Mo_dayLine 120 rfl) ?_
      refine fg_iastN (fg_ft (pc := 201) tb_Mo_dayLine 121 rfl) ly_290 (fg_lt ly_290 (by decide)) (by omega) ?_
      show fg_wp _ _ _ _ _ _ _ _ _ (fg_u2 (fg_u2 (fg_u2 (fg_u2 (fg_u2 ν3 290 (1 + (4 * (b9.2.2.2.2.2 0))) (nI (12 - 11))) 290 ((1 + (4 * (b9.2.2.2.2.2 0))) + 1) (nI (a.1))) 290 ((1 + (4 * (b9.2.2.2.2.2 0))) + 2) (nI (b9.1))) 290 ((1 + (4 * (b9.2.2.2.2.2 0))) + 3) (nI 4294967295)) 290 0 (nI ((b9.2.2.2.2.2 0) + 1)), fg_rho R, 304)
      have hm : rz_RZ (fg_u2 (fg_u2 (fg_u2 (fg_u2 (fg_u2 ν3 290 (1 + (4 * (b9.2.2.2.2.2 0))) (nI (12 - 11))) 290 ((1 + (4 * (b9.2.2.2.2.2 0))) + 1) (nI (a.1))) 290 ((1 + (4 * (b9.2.2.2.2.2 0))) + 2) (nI (b9.1))) 290 ((1 + (4 * (b9.2.2.2.2.2 0))) + 3) (nI 4294967295)) 290 0 (nI ((b9.2.2.2.2.2 0) + 1))) b len (rz_dn 12 (rz_dm (pz_K b len) (pz_V b len) (pz_S b len) t.2 12)) := by
        have e9 : rz_dm (pz_K b len) (pz_V b len) (pz_S b len) t.2 12 = (a.1, b9.1, 4294967295, b9.2) := (by
          show rz_dr (pz_K b len) (pz_V b len) (pz_S b len) (rz_nu (pz_K b len) (pz_V b len) (pz_S b len) 0 (4 + 1) t.2) = _
          rw [ha]
          unfold rz_dr
          have h1 : rz_nu (pz_K b len) (pz_V b len) (pz_S b len) 0 10 a.2 = b9 := hb9
          rw [h1])
        rw [e9]
        show rz_RZ _ b len (rz_pd 1 a.1 b9.1 4294967295 b9.2)
        unfold rz_pd
        rw [if_pos (by omega)]
        exact (((((h3).put).put).put).put).put
      have agm : rz_ag μ (fg_u2 (fg_u2 (fg_u2 (fg_u2 (fg_u2 ν3 290 (1 + (4 * (b9.2.2.2.2.2 0))) (nI (12 - 11))) 290 ((1 + (4 * (b9.2.2.2.2.2 0))) + 1) (nI (a.1))) 290 ((1 + (4 * (b9.2.2.2.2.2 0))) + 2) (nI (b9.1))) 290 ((1 + (4 * (b9.2.2.2.2.2 0))) + 3) (nI 4294967295)) 290 0 (nI ((b9.2.2.2.2.2 0) + 1))) := fun a j p q r => (fg_u2ne r).trans ((fg_u2ne r).trans ((fg_u2ne r).trans ((fg_u2ne r).trans ((fg_u2ne r).trans (ag3 a j p q r)))))
      refine fg_aloadn (fg_ft (pc := 202) tb_Mo_dayLine 122 rfl) rfl ?_
      refine fg_callV (fg_ft (pc := 203) tb_Mo_dayLine 123 rfl) cf_Mo_153 (fg_isOf ly_287 rfl (fg_lt ly_287 (by decide))) (as := []) (st := []) rfl rfl (Nat.le_of_ble_eq_true rfl) (Nat.le_refl _) (Nat.le_refl _) (ev_Mo_endsLine hle hb256 hm ?_)
      intro ν5 hg5 h5
      have ag5 := rz_ag_tr agm hg5
      show fg_wp _ _ _ _ _ _ _ _ _ (ν5, fg_rho R, 304)
      exact fg_vret (fg_ft (pc := 206) tb_Mo_dayLine 124 rfl) rfl rfl (hQ _ ag5 h5)
  · refine fg_aloadn (fg_ft (pc := 16) tb_Mo_dayLine 9 rfl) rfl ?_
    refine fg_iconst (fg_ft (pc := 17) tb_Mo_dayLine 10 rfl) ic_3 ?_
    refine fg_iloadn (fg_ft (pc := 18) tb_Mo_dayLine 11 rfl) rfl ?_
    refine fg_callV (fg_ft (pc := 19) tb_Mo_dayLine 12 rfl) cf_Mo_114 (fg_isOf ly_287 rfl (fg_lt ly_287 (by decide))) (as := [.int (nI 3), .int (nI (pz_S b len Z.1))]) (st := []) rfl rfl (Nat.le_of_ble_eq_true rfl) (Nat.le_refl _) (Nat.le_refl _) (ev_Mo_also (kd := 3) (at9 := (pz_S b len Z.1)) hle hb256 h (by decide) (by decide) (by decide) (rz_S_le hle) ?_)
    intro ν6 hg6 h6
    have ag6 := hg6
    show fg_wp _ _ _ _ _ _ _ _ _ (ν6, fg_rho R, 304)
    have hc : rz_RZ ν6 b len (rz_c3 0 30 (pz_S b len Z.1) Z) := by
      unfold rz_c3
      rw [if_pos (by omega)]
      exact h6
    refine fg_aloadn (fg_ft (pc := 22) tb_Mo_dayLine 13 rfl) rfl ?_
    refine fg_bipush (fg_ft (pc := 23) tb_Mo_dayLine 14 rfl) ib_11 ?_
    refine fg_bipush (fg_ft (pc := 25) tb_Mo_dayLine 15 rfl) ib_17 ?_
    refine fg_callV (fg_ft (pc := 27) tb_Mo_dayLine 16 rfl) cf_Mo_135 (fg_isOf ly_287 rfl (fg_lt ly_287 (by decide))) (as := [.int (nI 11), .int (nI 17)]) (st := []) rfl rfl (Nat.le_of_ble_eq_true rfl) (Nat.le_refl _) (Nat.le_refl _) (ev_Mo_takes (lo := 11) (hi := 17) hle hb256 hc (by decide) (by decide) ?_)
    intro ν7 hg7 h7
    have ag7 := rz_ag_tr ag6 hg7
    rw [ht] at h7 ⊢
    show fg_wp _ _ _ _ _ _ _ _ _ (ν7, fg_rho R, 304)
    have hCt : t.2.2.2.2.2 = Z.2.2.2.2 := by rw [← ht, rz_ta_C, rz_c3_C]
    refine fg_top (y := nI 12) (congrArg nI hk) ?_
    refine fg_istoren (fg_ft (pc := 30) tb_Mo_dayLine 17 rfl) (Nat.le_of_ble_eq_true rfl) ?_
    refine fg_iconst (fg_ft (pc := 31) tb_Mo_dayLine 18 rfl) ic_m1 ?_
    refine fg_top (y := nI 4294967295) (by decide) ?_
    refine fg_istoren (fg_ft (pc := 32) tb_Mo_dayLine 19 rfl) (Nat.le_of_ble_eq_true rfl) ?_
    refine fg_iconst (fg_ft (pc := 33) tb_Mo_dayLine 20 rfl) ic_m1 ?_
    refine fg_top (y := nI 4294967295) (by decide) ?_
    refine fg_istore (fg_ft (pc := 34) tb_Mo_dayLine 21 rfl) (Nat.le_of_ble_eq_true rfl) ?_
    refine fg_iconst (fg_ft (pc := 36) tb_Mo_dayLine 22 rfl) ic_m1 ?_
    refine fg_top (y := nI 4294967295) (by decide) ?_
    refine fg_istore (fg_ft (pc := 37) tb_Mo_dayLine 23 rfl) (Nat.le_of_ble_eq_true rfl) ?_
    refine fg_iloadn (fg_ft (pc := 39) tb_Mo_dayLine 24 rfl) rfl ?_
    refine fg_if_leN (tgt := 56) (fg_ft (pc := 40) tb_Mo_dayLine 25 rfl) (by decide) (by decide) (fun c40 => (absurd c40 (by decide))) (fun c40 => ?_)
    refine fg_iloadn (fg_ft (pc := 43) tb_Mo_dayLine 26 rfl) rfl ?_
    refine fg_bipush (fg_ft (pc := 44) tb_Mo_dayLine 27 rfl) ib_17 ?_
    refine fg_icmp_eqN (tgt := 56) (fg_ft (pc := 46) tb_Mo_dayLine 28 rfl) (by decide) (by decide) (by decide) (fun c46 => (absurd c46 (by decide))) (fun c46 => ?_)
    refine fg_aloadn (fg_ft (pc := 49) tb_Mo_dayLine 29 rfl) rfl ?_
    refine fg_iconst (fg_ft (pc := 50) tb_Mo_dayLine 30 rfl) ic_0 ?_
    refine fg_iconst (fg_ft (pc := 51) tb_Mo_dayLine 31 rfl) ic_4 ?_
    refine fg_callV (fg_ft (pc := 52) tb_Mo_dayLine 32 rfl) cf_Mo_121 (fg_isOf ly_287 rfl (fg_lt ly_287 (by decide))) (as := [.int (nI 0), .int (nI 4)]) (st := []) rfl rfl (Nat.le_of_ble_eq_true rfl) (Nat.le_refl _) (Nat.le_refl _) (ev_Mo_numbered (lo := 0) (hi := 4 + 1) hle hb256 h7 (rz_m (by decide) (by decide)) ?_)
    intro ν8 hg8 h8
    have ag8 := rz_ag_tr ag7 hg8
    obtain ⟨a, ha⟩ : ∃ x, (rz_nu (pz_K b len) (pz_V b len) (pz_S b len) 0 (4 + 1) t.2) = x := ⟨_, rfl⟩
    rw [ha] at h8 ⊢
    show fg_wp _ _ _ _ _ _ _ _ _ (ν8, fg_rho R, 304)
    have hab : a.1 ≤ 99 ∨ a.1 = 4294967295 := by rw [← ha]; exact rz_nu_lt
    have hCa : a.2.2.2.2.2 = Z.2.2.2.2 := by rw [← ha, rz_nu_C, hCt]
    refine fg_istoren (fg_ft (pc := 55) tb_Mo_dayLine 33 rfl) (Nat.le_of_ble_eq_true rfl) ?_
    refine fg_iloadn (fg_ft (pc := 56) tb_Mo_dayLine 34 rfl) rfl ?_
    refine fg_bipush (fg_ft (pc := 57) tb_Mo_dayLine 35 rfl) ib_16 ?_
    refine fg_icmp_neN (tgt := 107) (fg_ft (pc := 59) tb_Mo_dayLine 36 rfl) (by decide) (by decide) (by decide) (fun c59 => ?_) (fun c59 => (absurd c59 (by decide)))
    refine fg_iloadn (fg_ft (pc := 107) tb_Mo_dayLine 61 rfl) rfl ?_
    refine fg_if_leN (tgt := 126) (fg_ft (pc := 108) tb_Mo_dayLine 62 rfl) (by decide) (by decide) (fun c108 => (absurd c108 (by decide))) (fun c108 => ?_)
    refine fg_iloadn (fg_ft (pc := 111) tb_Mo_dayLine 63 rfl) rfl ?_
    refine fg_bipush (fg_ft (pc := 112) tb_Mo_dayLine 64 rfl) ib_17 ?_
    refine fg_icmp_eqN (tgt := 126) (fg_ft (pc := 114) tb_Mo_dayLine 65 rfl) (by decide) (by decide) (by decide) (fun c114 => (absurd c114 (by decide))) (fun c114 => ?_)
    refine fg_aloadn (fg_ft (pc := 117) tb_Mo_dayLine 66 rfl) rfl ?_
    refine fg_iconst (fg_ft (pc := 118) tb_Mo_dayLine 67 rfl) ic_0 ?_
    refine fg_bipush (fg_ft (pc := 119) tb_Mo_dayLine 68 rfl) ib_9 ?_
    refine fg_callV (fg_ft (pc := 121) tb_Mo_dayLine 69 rfl) cf_Mo_121 (fg_isOf ly_287 rfl (fg_lt ly_287 (by decide))) (as := [.int (nI 0), .int (nI 9)]) (st := []) rfl rfl (Nat.le_of_ble_eq_true rfl) (Nat.le_refl _) (Nat.le_refl _) (ev_Mo_numbered (lo := 0) (hi := 9 + 1) hle hb256 h8 (rz_m (by decide) (by decide)) ?_)
    intro ν9 hg9 h9
    have ag9 := rz_ag_tr ag8 hg9
    obtain ⟨b9, hb9⟩ : ∃ x, (rz_nu (pz_K b len) (pz_V b len) (pz_S b len) 0 (9 + 1) a.2) = x := ⟨_, rfl⟩
    rw [hb9] at h9 ⊢
    show fg_wp _ _ _ _ _ _ _ _ _ (ν9, fg_rho R, 304)
    refine fg_istore (fg_ft (pc := 124) tb_Mo_dayLine 70 rfl) (Nat.le_of_ble_eq_true rfl) ?_
    have hCf : b9.2.2.2.2.2 = Z.2.2.2.2 := by rw [← hb9, rz_nu_C, hCa]
    have hb1 : b9.2.2.2.2.2 0 ≤ 700 := by rw [hCf]; exact hcnt
    refine fg_aloadn (fg_ft (pc := 126) tb_Mo_dayLine 71 rfl) rfl ?_
    refine fg_getR (fg_ft (pc := 127) tb_Mo_dayLine 72 rfl) ff_Mo_17 ly_287 rfl (fg_lt ly_287 (by decide)) (rh_287_10 R) ?_
    refine fg_iconst (fg_ft (pc := 130) tb_Mo_dayLine 73 rfl) ic_0 ?_
    refine fg_ialdV (v := (nI (b9.2.2.2.2.2 0))) (fg_ft (pc := 131) tb_Mo_dayLine 74 rfl) ly_290 (fg_lt ly_290 (by decide)) (by omega) (h9.2.2.2.2.2.2.1 0 (by omega)) ?_
    refine fg_bipush (fg_ft (pc := 132) tb_Mo_dayLine 75 rfl) ib_30 ?_
    refine fg_icmp_geN (tgt := 192) (fg_ft (pc := 134) tb_Mo_dayLine 76 rfl) (by decide) (by omega) (by decide) (fun c134 => ?_) (fun c134 => ?_)
    · refine fg_aloadn (fg_ft (pc := 192) tb_Mo_dayLine 114 rfl) rfl ?_
      refine fg_getR (fg_ft (pc := 193) tb_Mo_dayLine 115 rfl) ff_Mo_17 ly_287 rfl (fg_lt ly_287 (by decide)) (rh_287_10 R) ?_
      refine fg_iconst (fg_ft (pc := 196) tb_Mo_dayLine 116 rfl) ic_0 ?_
      refine fg_dup2 (fg_ft (pc := 197) tb_Mo_dayLine 117 rfl) rfl rfl ?_
      refine fg_ialdV (v := (nI (b9.2.2.2.2.2 0))) (fg_ft (pc := 198) tb_Mo_dayLine 118 rfl) ly_290 (fg_lt ly_290 (by decide)) (by omega) (h9.2.2.2.2.2.2.1 0 (by omega)) ?_
      refine fg_iconst (fg_ft (pc := 199) tb_Mo_dayLine 119 rfl) ic_1 ?_
      refine fg_iaddN (fg_ft (pc := 200) tb_Mo_dayLine 120 rfl) ?_
      refine fg_iastN (fg_ft (pc := 201) tb_Mo_dayLine 121 rfl) ly_290 (fg_lt ly_290 (by decide)) (by omega) ?_
      show fg_wp _ _ _ _ _ _ _ _ _ (fg_u2 ν9 290 0 (nI ((b9.2.2.2.2.2 0) + 1)), fg_rho R, 304)
      have hm : rz_RZ (fg_u2 ν9 290 0 (nI ((b9.2.2.2.2.2 0) + 1))) b len (rz_dn 12 (rz_dm (pz_K b len) (pz_V b len) (pz_S b len) t.2 12)) := by
        have e9 : rz_dm (pz_K b len) (pz_V b len) (pz_S b len) t.2 12 = (a.1, b9.1, 4294967295, b9.2) := (by
          show rz_dr (pz_K b len) (pz_V b len) (pz_S b len) (rz_nu (pz_K b len) (pz_V b len) (pz_S b len) 0 (4 + 1) t.2) = _
          rw [ha]
          unfold rz_dr
          have h1 : rz_nu (pz_K b len) (pz_V b len) (pz_S b len) 0 10 a.2 = b9 := hb9
          rw [h1])
        rw [e9]
        show rz_RZ _ b len (rz_pd 1 a.1 b9.1 4294967295 b9.2)
        unfold rz_pd
        rw [if_neg (by omega)]
        exact (h9).put
      have agm : rz_ag μ (fg_u2 ν9 290 0 (nI ((b9.2.2.2.2.2 0) + 1))) := fun a j p q r => (fg_u2ne r).trans (ag9 a j p q r)
      refine fg_aloadn (fg_ft (pc := 202) tb_Mo_dayLine 122 rfl) rfl ?_
      refine fg_callV (fg_ft (pc := 203) tb_Mo_dayLine 123 rfl) cf_Mo_153 (fg_isOf ly_287 rfl (fg_lt ly_287 (by decide))) (as := []) (st := []) rfl rfl (Nat.le_of_ble_eq_true rfl) (Nat.le_refl _) (Nat.le_refl _) (ev_Mo_endsLine hle hb256 hm ?_)
      intro ν10 hg10 h10
      have ag10 := rz_ag_tr agm hg10
      show fg_wp _ _ _ _ _ _ _ _ _ (ν10, fg_rho R, 304)
      exact fg_vret (fg_ft (pc := 206) tb_Mo_dayLine 124 rfl) rfl rfl (hQ _ ag10 h10)
    · refine fg_iconst (fg_ft (pc := 137) tb_Mo_dayLine 77 rfl) ic_1 ?_
      refine fg_iconst (fg_ft (pc := 138) tb_Mo_dayLine 78 rfl) ic_4 ?_
      refine fg_aloadn (fg_ft (pc := 139) tb_Mo_dayLine 79 rfl) rfl ?_
      refine fg_getR (fg_ft (pc := 140) tb_Mo_dayLine 80 rfl) ff_Mo_17 ly_287 rfl (fg_lt ly_287 (by decide)) (rh_287_10 R) ?_
      refine fg_iconst (fg_ft (pc := 143) tb_Mo_dayLine 81 rfl) ic_0 ?_
      refine fg_ialdV (v := (nI (b9.2.2.2.2.2 0))) (fg_ft (pc := 144) tb_Mo_dayLine 82 rfl) ly_290 (fg_lt ly_290 (by decide)) (by omega) (h9.2.2.2.2.2.2.1 0 (by omega)) ?_
      refine fg_imulN (fg_ft (pc := 145) tb_Mo_dayLine 83 rfl) ?_
      refine fg_iaddN (fg_ft (pc := 146) tb_Mo_dayLine 84 rfl) ?_
      refine fg_istore (fg_ft (pc := 147) tb_Mo_dayLine 85 rfl) (Nat.le_of_ble_eq_true rfl) ?_
      refine fg_aloadn (fg_ft (pc := 149) tb_Mo_dayLine 86 rfl) rfl ?_
      refine fg_getR (fg_ft (pc := 150) tb_Mo_dayLine 87 rfl) ff_Mo_17 ly_287 rfl (fg_lt ly_287 (by decide)) (rh_287_10 R) ?_
      refine fg_iload (fg_ft (pc := 153) tb_Mo_dayLine 88 rfl) rfl ?_
      refine fg_iloadn (fg_ft (pc := 155) tb_Mo_dayLine 89 rfl) rfl ?_
      refine fg_bipush (fg_ft (pc := 156) tb_Mo_dayLine 90 rfl) ib_11 ?_
      refine fg_isubN (fg_ft (pc := 158) tb_Mo_dayLine 91 rfl) (by omega) ?_
      refine fg_iastN (fg_ft (pc := 159) tb_Mo_dayLine 92 rfl) ly_290 (fg_lt ly_290 (by decide)) (by omega) ?_
      show fg_wp _ _ _ _ _ _ _ _ _ (fg_u2 ν9 290 (1 + (4 * (b9.2.2.2.2.2 0))) (nI (12 - 11)), fg_rho R, 304)
      refine fg_aloadn (fg_ft (pc := 160) tb_Mo_dayLine 93 rfl) rfl ?_
      refine fg_getR (fg_ft (pc := 161) tb_Mo_dayLine 94 rfl) ff_Mo_17 ly_287 rfl (fg_lt ly_287 (by decide)) (rh_287_10 R) ?_
      refine fg_iload (fg_ft (pc := 164) tb_Mo_dayLine 95 rfl) rfl ?_
      refine fg_iconst (fg_ft (pc := 166) tb_Mo_dayLine 96 rfl) ic_1 ?_
      refine fg_iaddN (fg_ft (pc := 167) tb_Mo_dayLine 97 rfl) ?_
      refine fg_iloadn (fg_ft (pc := 168) tb_Mo_dayLine 98 rfl) rfl ?_
      refine fg_iastN (fg_ft (pc := 169) tb_Mo_dayLine 99 rfl) ly_290 (fg_lt ly_290 (by decide)) (by omega) ?_
      show fg_wp _ _ _ _ _ _ _ _ _ (fg_u2 (fg_u2 ν9 290 (1 + (4 * (b9.2.2.2.2.2 0))) (nI (12 - 11))) 290 ((1 + (4 * (b9.2.2.2.2.2 0))) + 1) (nI (a.1)), fg_rho R, 304)
      refine fg_aloadn (fg_ft (pc := 170) tb_Mo_dayLine 100 rfl) rfl ?_
      refine fg_getR (fg_ft (pc := 171) tb_Mo_dayLine 101 rfl) ff_Mo_17 ly_287 rfl (fg_lt ly_287 (by decide)) (rh_287_10 R) ?_
      refine fg_iload (fg_ft (pc := 174) tb_Mo_dayLine 102 rfl) rfl ?_
      refine fg_iconst (fg_ft (pc := 176) tb_Mo_dayLine 103 rfl) ic_2 ?_
      refine fg_iaddN (fg_ft (pc := 177) tb_Mo_dayLine 104 rfl) ?_
      refine fg_iload (fg_ft (pc := 178) tb_Mo_dayLine 105 rfl) rfl ?_
      refine fg_iastN (fg_ft (pc := 180) tb_Mo_dayLine 106 rfl) ly_290 (fg_lt ly_290 (by decide)) (by omega) ?_
      show fg_wp _ _ _ _ _ _ _ _ _ (fg_u2 (fg_u2 (fg_u2 ν9 290 (1 + (4 * (b9.2.2.2.2.2 0))) (nI (12 - 11))) 290 ((1 + (4 * (b9.2.2.2.2.2 0))) + 1) (nI (a.1))) 290 ((1 + (4 * (b9.2.2.2.2.2 0))) + 2) (nI (b9.1)), fg_rho R, 304)
      refine fg_aloadn (fg_ft (pc := 181) tb_Mo_dayLine 107 rfl) rfl ?_
      refine fg_getR (fg_ft (pc := 182) tb_Mo_dayLine 108 rfl) ff_Mo_17 ly_287 rfl (fg_lt ly_287 (by decide)) (rh_287_10 R) ?_
      refine fg_iload (fg_ft (pc := 185) tb_Mo_dayLine 109 rfl) rfl ?_
      refine fg_iconst (fg_ft (pc := 187) tb_Mo_dayLine 110 rfl) ic_3 ?_
      refine fg_iaddN (fg_ft (pc := 188) tb_Mo_dayLine 111 rfl) ?_
      refine fg_iload (fg_ft (pc := 189) tb_Mo_dayLine 112 rfl) rfl ?_
      refine fg_iastN (fg_ft (pc := 191) tb_Mo_dayLine 113 rfl) ly_290 (fg_lt ly_290 (by decide)) (by omega) ?_
      show fg_wp _ _ _ _ _ _ _ _ _ (fg_u2 (fg_u2 (fg_u2 (fg_u2 ν9 290 (1 + (4 * (b9.2.2.2.2.2 0))) (nI (12 - 11))) 290 ((1 + (4 * (b9.2.2.2.2.2 0))) + 1) (nI (a.1))) 290 ((1 + (4 * (b9.2.2.2.2.2 0))) + 2) (nI (b9.1))) 290 ((1 + (4 * (b9.2.2.2.2.2 0))) + 3) (nI 4294967295), fg_rho R, 304)
      refine fg_aloadn (fg_ft (pc := 192) tb_Mo_dayLine 114 rfl) rfl ?_
      refine fg_getR (fg_ft (pc := 193) tb_Mo_dayLine 115 rfl) ff_Mo_17 ly_287 rfl (fg_lt ly_287 (by decide)) (rh_287_10 R) ?_
      refine fg_iconst (fg_ft (pc := 196) tb_Mo_dayLine 116 rfl) ic_0 ?_
      refine fg_dup2 (fg_ft (pc := 197) tb_Mo_dayLine 117 rfl) rfl rfl ?_
      refine fg_ialdV (v := (nI (b9.2.2.2.2.2 0))) (fg_ft (pc := 198) tb_Mo_dayLine 118 rfl) ly_290 (fg_lt ly_290 (by decide)) (by omega) ((fg_u2ns (f := (fg_u2 (fg_u2 (fg_u2 ν9 290 (1 + (4 * (b9.2.2.2.2.2 0))) (nI (12 - 11))) 290 ((1 + (4 * (b9.2.2.2.2.2 0))) + 1) (nI (a.1))) 290 ((1 + (4 * (b9.2.2.2.2.2 0))) + 2) (nI (b9.1)))) (a := 290) (k := ((1 + (4 * (b9.2.2.2.2.2 0))) + 3)) (b := 290) (j := 0) (x := (nI 4294967295)) (by omega)).trans ((fg_u2ns (f := (fg_u2 (fg_u2 ν9 290 (1 + (4 * (b9.2.2.2.2.2 0))) (nI (12 - 11))) 290 ((1 + (4 * (b9.2.2.2.2.2 0))) + 1) (nI (a.1)))) (a := 290) (k := ((1 + (4 * (b9.2.2.2.2.2 0))) + 2)) (b := 290) (j := 0) (x := (nI (b9.1))) (by omega)).trans ((fg_u2ns (f := (fg_u2 ν9 290 (1 + (4 * (b9.2.2.2.2.2 0))) (nI (12 - 11)))) (a := 290) (k := ((1 + (4 * (b9.2.2.2.2.2 0))) + 1)) (b := 290) (j := 0) (x := (nI (a.1))) (by omega)).trans ((fg_u2ns (f := ν9) (a := 290) (k := (1 + (4 * (b9.2.2.2.2.2 0)))) (b := 290) (j := 0) (x := (nI (12 - 11))) (by omega)).trans (h9.2.2.2.2.2.2.1 0 (by omega)))))) ?_
      refine fg_iconst (fg_ft (pc := 199) tb_Mo_dayLine 119 rfl) ic_1 ?_
      refine fg_iaddN (fg_ft (pc := 200) tb_Mo_dayLine 120 rfl) ?_
      refine fg_iastN (fg_ft (pc := 201) tb_Mo_dayLine 121 rfl) ly_290 (fg_lt ly_290 (by decide)) (by omega) ?_
      show fg_wp _ _ _ _ _ _ _ _ _ (fg_u2 (fg_u2 (fg_u2 (fg_u2 (fg_u2 ν9 290 (1 + (4 * (b9.2.2.2.2.2 0))) (nI (12 - 11))) 290 ((1 + (4 * (b9.2.2.2.2.2 0))) + 1) (nI (a.1))) 290 ((1 + (4 * (b9.2.2.2.2.2 0))) + 2) (nI (b9.1))) 290 ((1 + (4 * (b9.2.2.2.2.2 0))) + 3) (nI 4294967295)) 290 0 (nI ((b9.2.2.2.2.2 0) + 1)), fg_rho R, 304)
      have hm : rz_RZ (fg_u2 (fg_u2 (fg_u2 (fg_u2 (fg_u2 ν9 290 (1 + (4 * (b9.2.2.2.2.2 0))) (nI (12 - 11))) 290 ((1 + (4 * (b9.2.2.2.2.2 0))) + 1) (nI (a.1))) 290 ((1 + (4 * (b9.2.2.2.2.2 0))) + 2) (nI (b9.1))) 290 ((1 + (4 * (b9.2.2.2.2.2 0))) + 3) (nI 4294967295)) 290 0 (nI ((b9.2.2.2.2.2 0) + 1))) b len (rz_dn 12 (rz_dm (pz_K b len) (pz_V b len) (pz_S b len) t.2 12)) := by
        have e9 : rz_dm (pz_K b len) (pz_V b len) (pz_S b len) t.2 12 = (a.1, b9.1, 4294967295, b9.2) := (by
          show rz_dr (pz_K b len) (pz_V b len) (pz_S b len) (rz_nu (pz_K b len) (pz_V b len) (pz_S b len) 0 (4 + 1) t.2) = _
          rw [ha]
          unfold rz_dr
          have h1 : rz_nu (pz_K b len) (pz_V b len) (pz_S b len) 0 10 a.2 = b9 := hb9
          rw [h1])
        rw [e9]
        show rz_RZ _ b len (rz_pd 1 a.1 b9.1 4294967295 b9.2)
        unfold rz_pd
        rw [if_pos (by omega)]
        exact (((((h9).put).put).put).put).put
      have agm : rz_ag μ (fg_u2 (fg_u2 (fg_u2 (fg_u2 (fg_u2 ν9 290 (1 + (4 * (b9.2.2.2.2.2 0))) (nI (12 - 11))) 290 ((1 + (4 * (b9.2.2.2.2.2 0))) + 1) (nI (a.1))) 290 ((1 + (4 * (b9.2.2.2.2.2 0))) + 2) (nI (b9.1))) 290 ((1 + (4 * (b9.2.2.2.2.2 0))) + 3) (nI 4294967295)) 290 0 (nI ((b9.2.2.2.2.2 0) + 1))) := fun a j p q r => (fg_u2ne r).trans ((fg_u2ne r).trans ((fg_u2ne r).trans ((fg_u2ne r).trans ((fg_u2ne r).trans (ag9 a j p q r)))))
      refine fg_aloadn (fg_ft (pc := 202) tb_Mo_dayLine 122 rfl) rfl ?_
      refine fg_callV (fg_ft (pc := 203) tb_Mo_dayLine 123 rfl) cf_Mo_153 (fg_isOf ly_287 rfl (fg_lt ly_287 (by decide))) (as := []) (st := []) rfl rfl (Nat.le_of_ble_eq_true rfl) (Nat.le_refl _) (Nat.le_refl _) (ev_Mo_endsLine hle hb256 hm ?_)
      intro ν11 hg11 h11
      have ag11 := rz_ag_tr agm hg11
      show fg_wp _ _ _ _ _ _ _ _ _ (ν11, fg_rho R, 304)
      exact fg_vret (fg_ft (pc := 206) tb_Mo_dayLine 124 rfl) rfl rfl (hQ _ ag11 h11)
theorem ev_Mo_dayLine_13 {E : fg_E} {d : Nat} {μ : Nat → Nat → Int32} {R : fg_T4} {Q : Option Value → fg_M → Prop} {b : Nat → Nat} {len : Nat} {Z : rz_Z} (hle : len ≤ 600) (hb256 : ∀ j, b j < 256) (h : rz_RZ μ b len Z) (hcnt : Z.2.2.2.2 0 ≤ 700) {t : Nat × rz_Z} (ht : rz_ta (pz_K b len) (pz_V b len) (pz_S b len) 11 17 (rz_c3 0 30 (pz_S b len Z.1) Z) = t) (hk : t.1 = 13) (hQ : ∀ μ' : Nat → Nat → Int32, rz_ag μ μ' → rz_RZ μ' b len (rz_el (pz_K b len) (pz_S b len) (rz_dn 13 (rz_dm (pz_K b len) (pz_V b len) (pz_S b len) t.2 13))) → Q none (μ', fg_rho R, 304)) : fg_Ev E yy_Mo_dayLine (d + 9) [.ref 287] (μ, fg_rho R, 304) 304 Q := by
  refine fg_intro (by decide +kernel) (Nat.le_of_ble_eq_true rfl) (fg_okAs rfl) (Nat.le_refl _) ?_
  refine fg_aloadn (fg_ft (pc := 0) tb_Mo_dayLine 0 rfl) rfl ?_
  refine fg_getV (v := (nI (pz_S b len Z.1))) (fg_ft (pc := 1) tb_Mo_dayLine 1 rfl) ff_Mo_81 ly_287 rfl (fg_lt ly_287 (by decide)) h.2.1.2.1 ?_
  refine fg_istoren (fg_ft (pc := 4) tb_Mo_dayLine 2 rfl) (Nat.le_of_ble_eq_true rfl) ?_
  refine fg_aloadn (fg_ft (pc := 5) tb_Mo_dayLine 3 rfl) rfl ?_
  refine fg_getR (fg_ft (pc := 6) tb_Mo_dayLine 4 rfl) ff_Mo_17 ly_287 rfl (fg_lt ly_287 (by decide)) (rh_287_10 R) ?_
  refine fg_iconst (fg_ft (pc := 9) tb_Mo_dayLine 5 rfl) ic_0 ?_
  refine fg_ialdV (v := (nI (Z.2.2.2.2 0))) (fg_ft (pc := 10) tb_Mo_dayLine 6 rfl) ly_290 (fg_lt ly_290 (by decide)) (by omega) (h.2.2.2.2.2.2.1 0 (by omega)) ?_
  have hb0 := hcnt
  refine fg_bipush (fg_ft (pc := 11) tb_Mo_dayLine 7 rfl) ib_30 ?_
  refine fg_icmp_ltN (tgt := 22) (fg_ft (pc := 13) tb_Mo_dayLine 8 rfl) (by decide) (by omega) (by decide) (fun c13 => ?_) (fun c13 => ?_)
  · have hc : rz_RZ μ b len (rz_c3 0 30 (pz_S b len Z.1) Z) := by
      unfold rz_c3
      rw [if_neg (by omega)]
      exact h
    refine fg_aloadn (fg_ft (pc := 22) tb_Mo_dayLine 13 rfl) rfl ?_
    refine fg_bipush (fg_ft (pc := 23) tb_Mo_dayLine 14 rfl) ib_11 ?_
    refine fg_bipush (fg_ft (pc := 25) tb_Mo_dayLine 15 rfl) ib_17 ?_
    refine fg_callV (fg_ft (pc := 27) tb_Mo_dayLine 16 rfl) cf_Mo_135 (fg_isOf ly_287 rfl (fg_lt ly_287 (by decide))) (as := [.int (nI 11), .int (nI 17)]) (st := []) rfl rfl (Nat.le_of_ble_eq_true rfl) (Nat.le_refl _) (Nat.le_refl _) (ev_Mo_takes (lo := 11) (hi := 17) hle hb256 hc (by decide) (by decide) ?_)
    intro ν1 hg1 h1
    have ag1 := hg1
    rw [ht] at h1 ⊢
    show fg_wp _ _ _ _ _ _ _ _ _ (ν1, fg_rho R, 304)
    have hCt : t.2.2.2.2.2 = Z.2.2.2.2 := by rw [← ht, rz_ta_C, rz_c3_C]
    refine fg_top (y := nI 13) (congrArg nI hk) ?_
    refine fg_istoren (fg_ft (pc := 30) tb_Mo_dayLine 17 rfl) (Nat.le_of_ble_eq_true rfl) ?_
    refine fg_iconst (fg_ft (pc := 31) tb_Mo_dayLine 18 rfl) ic_m1 ?_
    refine fg_top (y := nI 4294967295) (by decide) ?_
    refine fg_istoren (fg_ft (pc := 32) tb_Mo_dayLine 19 rfl) (Nat.le_of_ble_eq_true rfl) ?_
    refine fg_iconst (fg_ft (pc := 33) tb_Mo_dayLine 20 rfl) ic_m1 ?_
    refine fg_top (y := nI 4294967295) (by decide) ?_
    refine fg_istore (fg_ft (pc := 34) tb_Mo_dayLine 21 rfl) (Nat.le_of_ble_eq_true rfl) ?_
    refine fg_iconst (fg_ft (pc := 36) tb_Mo_dayLine 22 rfl) ic_m1 ?_
    refine fg_top (y := nI 4294967295) (by decide) ?_
    refine fg_istore (fg_ft (pc := 37) tb_Mo_dayLine 23 rfl) (Nat.le_of_ble_eq_true rfl) ?_
    refine fg_iloadn (fg_ft (pc := 39) tb_Mo_dayLine 24 rfl) rfl ?_
    refine fg_if_leN (tgt := 56) (fg_ft (pc := 40) tb_Mo_dayLine 25 rfl) (by decide) (by decide) (fun c40 => (absurd c40 (by decide))) (fun c40 => ?_)
    refine fg_iloadn (fg_ft (pc := 43) tb_Mo_dayLine 26 rfl) rfl ?_
    refine fg_bipush (fg_ft (pc := 44) tb_Mo_dayLine 27 rfl) ib_17 ?_
    refine fg_icmp_eqN (tgt := 56) (fg_ft (pc := 46) tb_Mo_dayLine 28 rfl) (by decide) (by decide) (by decide) (fun c46 => (absurd c46 (by decide))) (fun c46 => ?_)
    refine fg_aloadn (fg_ft (pc := 49) tb_Mo_dayLine 29 rfl) rfl ?_
    refine fg_iconst (fg_ft (pc := 50) tb_Mo_dayLine 30 rfl) ic_0 ?_
    refine fg_iconst (fg_ft (pc := 51) tb_Mo_dayLine 31 rfl) ic_4 ?_
    refine fg_callV (fg_ft (pc := 52) tb_Mo_dayLine 32 rfl) cf_Mo_121 (fg_isOf ly_287 rfl (fg_lt ly_287 (by decide))) (as := [.int (nI 0), .int (nI 4)]) (st := []) rfl rfl (Nat.le_of_ble_eq_true rfl) (Nat.le_refl _) (Nat.le_refl _) (ev_Mo_numbered (lo := 0) (hi := 4 + 1) hle hb256 h1 (rz_m (by decide) (by decide)) ?_)
    intro ν2 hg2 h2
    have ag2 := rz_ag_tr ag1 hg2
    obtain ⟨a, ha⟩ : ∃ x, (rz_nu (pz_K b len) (pz_V b len) (pz_S b len) 0 (4 + 1) t.2) = x := ⟨_, rfl⟩
    rw [ha] at h2 ⊢
    show fg_wp _ _ _ _ _ _ _ _ _ (ν2, fg_rho R, 304)
    have hab : a.1 ≤ 99 ∨ a.1 = 4294967295 := by rw [← ha]; exact rz_nu_lt
    have hCa : a.2.2.2.2.2 = Z.2.2.2.2 := by rw [← ha, rz_nu_C, hCt]
    refine fg_istoren (fg_ft (pc := 55) tb_Mo_dayLine 33 rfl) (Nat.le_of_ble_eq_true rfl) ?_
    refine fg_iloadn (fg_ft (pc := 56) tb_Mo_dayLine 34 rfl) rfl ?_
    refine fg_bipush (fg_ft (pc := 57) tb_Mo_dayLine 35 rfl) ib_16 ?_
    refine fg_icmp_neN (tgt := 107) (fg_ft (pc := 59) tb_Mo_dayLine 36 rfl) (by decide) (by decide) (by decide) (fun c59 => ?_) (fun c59 => (absurd c59 (by decide)))
    refine fg_iloadn (fg_ft (pc := 107) tb_Mo_dayLine 61 rfl) rfl ?_
    refine fg_if_leN (tgt := 126) (fg_ft (pc := 108) tb_Mo_dayLine 62 rfl) (by decide) (by decide) (fun c108 => (absurd c108 (by decide))) (fun c108 => ?_)
    refine fg_iloadn (fg_ft (pc := 111) tb_Mo_dayLine 63 rfl) rfl ?_
    refine fg_bipush (fg_ft (pc := 112) tb_Mo_dayLine 64 rfl) ib_17 ?_
    refine fg_icmp_eqN (tgt := 126) (fg_ft (pc := 114) tb_Mo_dayLine 65 rfl) (by decide) (by decide) (by decide) (fun c114 => (absurd c114 (by decide))) (fun c114 => ?_)
    refine fg_aloadn (fg_ft (pc := 117) tb_Mo_dayLine 66 rfl) rfl ?_
    refine fg_iconst (fg_ft (pc := 118) tb_Mo_dayLine 67 rfl) ic_0 ?_
    refine fg_bipush (fg_ft (pc := 119) tb_Mo_dayLine 68 rfl) ib_9 ?_
    refine fg_callV (fg_ft (pc := 121) tb_Mo_dayLine 69 rfl) cf_Mo_121 (fg_isOf ly_287 rfl (fg_lt ly_287 (by decide))) (as := [.int (nI 0), .int (nI 9)]) (st := []) rfl rfl (Nat.le_of_ble_eq_true rfl) (Nat.le_refl _) (Nat.le_refl _) (ev_Mo_numbered (lo := 0) (hi := 9 + 1) hle hb256 h2 (rz_m (by decide) (by decide)) ?_)
    intro ν3 hg3 h3
    have ag3 := rz_ag_tr ag2 hg3
    obtain ⟨b9, hb9⟩ : ∃ x, (rz_nu (pz_K b len) (pz_V b len) (pz_S b len) 0 (9 + 1) a.2) = x := ⟨_, rfl⟩
    rw [hb9] at h3 ⊢
    show fg_wp _ _ _ _ _ _ _ _ _ (ν3, fg_rho R, 304)
    refine fg_istore (fg_ft (pc := 124) tb_Mo_dayLine 70 rfl) (Nat.le_of_ble_eq_true rfl) ?_
    have hCf : b9.2.2.2.2.2 = Z.2.2.2.2 := by rw [← hb9, rz_nu_C, hCa]
    have hb1 : b9.2.2.2.2.2 0 ≤ 700 := by rw [hCf]; exact hcnt
    refine fg_aloadn (fg_ft (pc := 126) tb_Mo_dayLine 71 rfl) rfl ?_
    refine fg_getR (fg_ft (pc := 127) tb_Mo_dayLine 72 rfl) ff_Mo_17 ly_287 rfl (fg_lt ly_287 (by decide)) (rh_287_10 R) ?_
    refine fg_iconst (fg_ft (pc := 130) tb_Mo_dayLine 73 rfl) ic_0 ?_
    refine fg_ialdV (v := (nI (b9.2.2.2.2.2 0))) (fg_ft (pc := 131) tb_Mo_dayLine 74 rfl) ly_290 (fg_lt ly_290 (by decide)) (by omega) (h3.2.2.2.2.2.2.1 0 (by omega)) ?_
    refine fg_bipush (fg_ft (pc := 132) tb_Mo_dayLine 75 rfl) ib_30 ?_
    refine fg_icmp_geN (tgt := 192) (fg_ft (pc := 134) tb_Mo_dayLine 76 rfl) (by decide) (by omega) (by decide) (fun c134 => ?_) (fun c134 => ?_)
    · refine fg_aloadn (fg_ft (pc := 192) tb_Mo_dayLine 114 rfl) rfl ?_
      refine fg_getR (fg_ft (pc := 193) tb_Mo_dayLine 115 rfl) ff_Mo_17 ly_287 rfl (fg_lt ly_287 (by decide)) (rh_287_10 R) ?_
      refine fg_iconst (fg_ft (pc := 196) tb_Mo_dayLine 116 rfl) ic_0 ?_
      refine fg_dup2 (fg_ft (pc := 197) tb_Mo_dayLine 117 rfl) rfl rfl ?_
      refine fg_ialdV (v := (nI (b9.2.2.2.2.2 0))) (fg_ft (pc := 198) tb_Mo_dayLine 118 rfl) ly_290 (fg_lt ly_290 (by decide)) (by omega) (h3.2.2.2.2.2.2.1 0 (by omega)) ?_
      refine fg_iconst (fg_ft (pc := 199) tb_Mo_dayLine 119 rfl) ic_1 ?_
      refine fg_iaddN (fg_ft (pc := 200) tb_Mo_dayLine 120 rfl) ?_
      refine fg_iastN (fg_ft (pc := 201) tb_Mo_dayLine 121 rfl) ly_290 (fg_lt ly_290 (by decide)) (by omega) ?_
      show fg_wp _ _ _ _ _ _ _ _ _ (fg_u2 ν3 290 0 (nI ((b9.2.2.2.2.2 0) + 1)), fg_rho R, 304)
      have hm : rz_RZ (fg_u2 ν3 290 0 (nI ((b9.2.2.2.2.2 0) + 1))) b len (rz_dn 13 (rz_dm (pz_K b len) (pz_V b len) (pz_S b len) t.2 13)) := by
        have e9 : rz_dm (pz_K b len) (pz_V b len) (pz_S b len) t.2 13 = (a.1, b9.1, 4294967295, b9.2) := (by
          show rz_dr (pz_K b len) (pz_V b len) (pz_S b len) (rz_nu (pz_K b len) (pz_V b len) (pz_S b len) 0 (4 + 1) t.2) = _
          rw [ha]
          unfold rz_dr
          have h1 : rz_nu (pz_K b len) (pz_V b len) (pz_S b len) 0 10 a.2 = b9 := hb9
          rw [h1])
        rw [e9]
        show rz_RZ _ b len (rz_pd 2 a.1 b9.1 4294967295 b9.2)
        unfold rz_pd
        rw [if_neg (by omega)]
        exact (h3).put
      have agm : rz_ag μ (fg_u2 ν3 290 0 (nI ((b9.2.2.2.2.2 0) + 1))) := fun a j p q r => (fg_u2ne r).trans (ag3 a j p q r)
      refine fg_aloadn (fg_ft (pc := 202) tb_Mo_dayLine 122 rfl) rfl ?_
      refine fg_callV (fg_ft (pc := 203) tb_Mo_dayLine 123 rfl) cf_Mo_153 (fg_isOf ly_287 rfl (fg_lt ly_287 (by decide))) (as := []) (st := []) rfl rfl (Nat.le_of_ble_eq_true rfl) (Nat.le_refl _) (Nat.le_refl _) (ev_Mo_endsLine hle hb256 hm ?_)
      intro ν4 hg4 h4
      have ag4 := rz_ag_tr agm hg4
      show fg_wp _ _ _ _ _ _ _ _ _ (ν4, fg_rho R, 304)
      exact fg_vret (fg_ft (pc := 206) tb_Mo_dayLine 124 rfl) rfl rfl (hQ _ ag4 h4)
    · refine fg_iconst (fg_ft (pc := 137) tb_Mo_dayLine 77 rfl) ic_1 ?_
      refine fg_iconst (fg_ft (pc := 138) tb_Mo_dayLine 78 rfl) ic_4 ?_
      refine fg_aloadn (fg_ft (pc := 139) tb_Mo_dayLine 79 rfl) rfl ?_
      refine fg_getR (fg_ft (pc := 140) tb_Mo_dayLine 80 rfl) ff_Mo_17 ly_287 rfl (fg_lt ly_287 (by decide)) (rh_287_10 R) ?_
      refine fg_iconst (fg_ft (pc := 143) tb_Mo_dayLine 81 rfl) ic_0 ?_
      refine fg_ialdV (v := (nI (b9.2.2.2.2.2 0))) (fg_ft (pc := 144) tb_Mo_dayLine 82 rfl) ly_290 (fg_lt ly_290 (by decide)) (by omega) (h3.2.2.2.2.2.2.1 0 (by omega)) ?_
      refine fg_imulN (fg_ft (pc := 145) tb_Mo_dayLine 83 rfl) ?_
      refine fg_iaddN (fg_ft (pc := 146) tb_Mo_dayLine 84 rfl) ?_
      refine fg_istore (fg_ft (pc := 147) tb_Mo_dayLine 85 rfl) (Nat.le_of_ble_eq_true rfl) ?_
      refine fg_aloadn (fg_ft (pc := 149) tb_Mo_dayLine 86 rfl) rfl ?_
      refine fg_getR (fg_ft (pc := 150) tb_Mo_dayLine 87 rfl) ff_Mo_17 ly_287 rfl (fg_lt ly_287 (by decide)) (rh_287_10 R) ?_
      refine fg_iload (fg_ft (pc := 153) tb_Mo_dayLine 88 rfl) rfl ?_
      refine fg_iloadn (fg_ft (pc := 155) tb_Mo_dayLine 89 rfl) rfl ?_
      refine fg_bipush (fg_ft (pc := 156) tb_Mo_dayLine 90 rfl) ib_11 ?_
      refine fg_isubN (fg_ft (pc := 158) tb_Mo_dayLine 91 rfl) (by omega) ?_
      refine fg_iastN (fg_ft (pc := 159) tb_Mo_dayLine 92 rfl) ly_290 (fg_lt ly_290 (by decide)) (by omega) ?_
      show fg_wp _ _ _ _ _ _ _ _ _ (fg_u2 ν3 290 (1 + (4 * (b9.2.2.2.2.2 0))) (nI (13 - 11)), fg_rho R, 304)
      refine fg_aloadn (fg_ft (pc := 160) tb_Mo_dayLine 93 rfl) rfl ?_
      refine fg_getR (fg_ft (pc := 161) tb_Mo_dayLine 94 rfl) ff_Mo_17 ly_287 rfl (fg_lt ly_287 (by decide)) (rh_287_10 R) ?_
      refine fg_iload (fg_ft (pc := 164) tb_Mo_dayLine 95 rfl) rfl ?_
      refine fg_iconst (fg_ft (pc := 166) tb_Mo_dayLine 96 rfl) ic_1 ?_
      refine fg_iaddN (fg_ft (pc := 167) tb_Mo_dayLine 97 rfl) ?_
      refine fg_iloadn (fg_ft (pc := 168) tb_Mo_dayLine 98 rfl) rfl ?_
      refine fg_iastN (fg_ft (pc := 169) tb_Mo_dayLine 99 rfl) ly_290 (fg_lt ly_290 (by decide)) (by omega) ?_
      show fg_wp _ _ _ _ _ _ _ _ _ (fg_u2 (fg_u2 ν3 290 (1 + (4 * (b9.2.2.2.2.2 0))) (nI (13 - 11))) 290 ((1 + (4 * (b9.2.2.2.2.2 0))) + 1) (nI (a.1)), fg_rho R, 304)
      refine fg_aloadn (fg_ft (pc := 170) tb_Mo_dayLine 100 rfl) rfl ?_
      refine fg_getR (fg_ft (pc := 171) tb_Mo_dayLine 101 rfl) ff_Mo_17 ly_287 rfl (fg_lt ly_287 (by decide)) (rh_287_10 R) ?_
      refine fg_iload (fg_ft (pc := 174) tb_Mo_dayLine 102 rfl) rfl ?_
      refine fg_iconst (fg_ft (pc := 176) tb_Mo_dayLine 103 rfl) ic_2 ?_
      refine fg_iaddN (fg_ft (pc := 177) tb_Mo_dayLine 104 rfl) ?_
      refine fg_iload (fg_ft (pc := 178) tb_Mo_dayLine 105 rfl) rfl ?_
      refine fg_iastN (fg_ft (pc := 180) tb_Mo_dayLine 106 rfl) ly_290 (fg_lt ly_290 (by decide)) (by omega) ?_
      show fg_wp _ _ _ _ _ _ _ _ _ (fg_u2 (fg_u2 (fg_u2 ν3 290 (1 + (4 * (b9.2.2.2.2.2 0))) (nI (13 - 11))) 290 ((1 + (4 * (b9.2.2.2.2.2 0))) + 1) (nI (a.1))) 290 ((1 + (4 * (b9.2.2.2.2.2 0))) + 2) (nI (b9.1)), fg_rho R, 304)
      refine fg_aloadn (fg_ft (pc := 181) tb_Mo_dayLine 107 rfl) rfl ?_
      refine fg_getR (fg_ft (pc := 182) tb_Mo_dayLine 108 rfl) ff_Mo_17 ly_287 rfl (fg_lt ly_287 (by decide)) (rh_287_10 R) ?_
      refine fg_iload (fg_ft (pc := 185) tb_Mo_dayLine 109 rfl) rfl ?_
      refine fg_iconst (fg_ft (pc := 187) tb_Mo_dayLine 110 rfl) ic_3 ?_
      refine fg_iaddN (fg_ft (pc := 188) tb_Mo_dayLine 111 rfl) ?_
      refine fg_iload (fg_ft (pc := 189) tb_Mo_dayLine 112 rfl) rfl ?_
      refine fg_iastN (fg_ft (pc := 191) tb_Mo_dayLine 113 rfl) ly_290 (fg_lt ly_290 (by decide)) (by omega) ?_
      show fg_wp _ _ _ _ _ _ _ _ _ (fg_u2 (fg_u2 (fg_u2 (fg_u2 ν3 290 (1 + (4 * (b9.2.2.2.2.2 0))) (nI (13 - 11))) 290 ((1 + (4 * (b9.2.2.2.2.2 0))) + 1) (nI (a.1))) 290 ((1 + (4 * (b9.2.2.2.2.2 0))) + 2) (nI (b9.1))) 290 ((1 + (4 * (b9.2.2.2.2.2 0))) + 3) (nI 4294967295), fg_rho R, 304)
      refine fg_aloadn (fg_ft (pc := 192) tb_Mo_dayLine 114 rfl) rfl ?_
      refine fg_getR (fg_ft (pc := 193) tb_Mo_dayLine 115 rfl) ff_Mo_17 ly_287 rfl (fg_lt ly_287 (by decide)) (rh_287_10 R) ?_
      refine fg_iconst (fg_ft (pc := 196) tb_Mo_dayLine 116 rfl) ic_0 ?_
      refine fg_dup2 (fg_ft (pc := 197) tb_Mo_dayLine 117 rfl) rfl rfl ?_
      refine fg_ialdV (v := (nI (b9.2.2.2.2.2 0))) (fg_ft (pc := 198) tb_Mo_dayLine 118 rfl) ly_290 (fg_lt ly_290 (by decide)) (by omega) ((fg_u2ns (f := (fg_u2 (fg_u2 (fg_u2 ν3 290 (1 + (4 * (b9.2.2.2.2.2 0))) (nI (13 - 11))) 290 ((1 + (4 * (b9.2.2.2.2.2 0))) + 1) (nI (a.1))) 290 ((1 + (4 * (b9.2.2.2.2.2 0))) + 2) (nI (b9.1)))) (a := 290) (k := ((1 + (4 * (b9.2.2.2.2.2 0))) + 3)) (b := 290) (j := 0) (x := (nI 4294967295)) (by omega)).trans ((fg_u2ns (f := (fg_u2 (fg_u2 ν3 290 (1 + (4 * (b9.2.2.2.2.2 0))) (nI (13 - 11))) 290 ((1 + (4 * (b9.2.2.2.2.2 0))) + 1) (nI (a.1)))) (a := 290) (k := ((1 + (4 * (b9.2.2.2.2.2 0))) + 2)) (b := 290) (j := 0) (x := (nI (b9.1))) (by omega)).trans ((fg_u2ns (f := (fg_u2 ν3 290 (1 + (4 * (b9.2.2.2.2.2 0))) (nI (13 - 11)))) (a := 290) (k := ((1 + (4 * (b9.2.2.2.2.2 0))) + 1)) (b := 290) (j := 0) (x := (nI (a.1))) (by omega)).trans ((fg_u2ns (f := ν3) (a := 290) (k := (1 + (4 * (b9.2.2.2.2.2 0)))) (b := 290) (j := 0) (x := (nI (13 - 11))) (by omega)).trans (h3.2.2.2.2.2.2.1 0 (by omega)))))) ?_
      refine fg_iconst (fg_ft (pc := 199) tb_Mo_dayLine 119 rfl) ic_1 ?_
      refine fg_iaddN (fg_ft (pc := 200) tb_Mo_dayLine 120 rfl) ?_
      refine fg_iastN (fg_ft (pc := 201) tb_Mo_dayLine 121 rfl) ly_290 (fg_lt ly_290 (by decide)) (by omega) ?_
      show fg_wp _ _ _ _ _ _ _ _ _ (fg_u2 (fg_u2 (fg_u2 (fg_u2 (fg_u2 ν3 290 (1 + (4 * (b9.2.2.2.2.2 0))) (nI (13 - 11))) 290 ((1 + (4 * (b9.2.2.2.2.2 0))) + 1) (nI (a.1))) 290 ((1 + (4 * (b9.2.2.2.2.2 0))) + 2) (nI (b9.1))) 290 ((1 + (4 * (b9.2.2.2.2.2 0))) + 3) (nI 4294967295)) 290 0 (nI ((b9.2.2.2.2.2 0) + 1)), fg_rho R, 304)
      have hm : rz_RZ (fg_u2 (fg_u2 (fg_u2 (fg_u2 (fg_u2 ν3 290 (1 + (4 * (b9.2.2.2.2.2 0))) (nI (13 - 11))) 290 ((1 + (4 * (b9.2.2.2.2.2 0))) + 1) (nI (a.1))) 290 ((1 + (4 * (b9.2.2.2.2.2 0))) + 2) (nI (b9.1))) 290 ((1 + (4 * (b9.2.2.2.2.2 0))) + 3) (nI 4294967295)) 290 0 (nI ((b9.2.2.2.2.2 0) + 1))) b len (rz_dn 13 (rz_dm (pz_K b len) (pz_V b len) (pz_S b len) t.2 13)) := by
        have e9 : rz_dm (pz_K b len) (pz_V b len) (pz_S b len) t.2 13 = (a.1, b9.1, 4294967295, b9.2) := (by
          show rz_dr (pz_K b len) (pz_V b len) (pz_S b len) (rz_nu (pz_K b len) (pz_V b len) (pz_S b len) 0 (4 + 1) t.2) = _
          rw [ha]
          unfold rz_dr
          have h1 : rz_nu (pz_K b len) (pz_V b len) (pz_S b len) 0 10 a.2 = b9 := hb9
          rw [h1])
        rw [e9]
        show rz_RZ _ b len (rz_pd 2 a.1 b9.1 4294967295 b9.2)
        unfold rz_pd
        rw [if_pos (by omega)]
        exact (((((h3).put).put).put).put).put
      have agm : rz_ag μ (fg_u2 (fg_u2 (fg_u2 (fg_u2 (fg_u2 ν3 290 (1 + (4 * (b9.2.2.2.2.2 0))) (nI (13 - 11))) 290 ((1 + (4 * (b9.2.2.2.2.2 0))) + 1) (nI (a.1))) 290 ((1 + (4 * (b9.2.2.2.2.2 0))) + 2) (nI (b9.1))) 290 ((1 + (4 * (b9.2.2.2.2.2 0))) + 3) (nI 4294967295)) 290 0 (nI ((b9.2.2.2.2.2 0) + 1))) := fun a j p q r => (fg_u2ne r).trans ((fg_u2ne r).trans ((fg_u2ne r).trans ((fg_u2ne r).trans ((fg_u2ne r).trans (ag3 a j p q r)))))
      refine fg_aloadn (fg_ft (pc := 202) tb_Mo_dayLine 122 rfl) rfl ?_
      refine fg_callV (fg_ft (pc := 203) tb_Mo_dayLine 123 rfl) cf_Mo_153 (fg_isOf ly_287 rfl (fg_lt ly_287 (by decide))) (as := []) (st := []) rfl rfl (Nat.le_of_ble_eq_true rfl) (Nat.le_refl _) (Nat.le_refl _) (ev_Mo_endsLine hle hb256 hm ?_)
      intro ν5 hg5 h5
      have ag5 := rz_ag_tr agm hg5
      show fg_wp _ _ _ _ _ _ _ _ _ (ν5, fg_rho R, 304)
      exact fg_vret (fg_ft (pc := 206) tb_Mo_dayLine 124 rfl) rfl rfl (hQ _ ag5 h5)
  · refine fg_aloadn (fg_ft (pc := 16) tb_Mo_dayLine 9 rfl) rfl ?_
    refine fg_iconst (fg_ft (pc := 17) tb_Mo_dayLine 10 rfl) ic_3 ?_
    refine fg_iloadn (fg_ft (pc := 18) tb_Mo_dayLine 11 rfl) rfl ?_
    refine fg_callV (fg_ft (pc := 19) tb_Mo_dayLine 12 rfl) cf_Mo_114 (fg_isOf ly_287 rfl (fg_lt ly_287 (by decide))) (as := [.int (nI 3), .int (nI (pz_S b len Z.1))]) (st := []) rfl rfl (Nat.le_of_ble_eq_true rfl) (Nat.le_refl _) (Nat.le_refl _) (ev_Mo_also (kd := 3) (at9 := (pz_S b len Z.1)) hle hb256 h (by decide) (by decide) (by decide) (rz_S_le hle) ?_)
    intro ν6 hg6 h6
    have ag6 := hg6
    show fg_wp _ _ _ _ _ _ _ _ _ (ν6, fg_rho R, 304)
    have hc : rz_RZ ν6 b len (rz_c3 0 30 (pz_S b len Z.1) Z) := by
      unfold rz_c3
      rw [if_pos (by omega)]
      exact h6
    refine fg_aloadn (fg_ft (pc := 22) tb_Mo_dayLine 13 rfl) rfl ?_
    refine fg_bipush (fg_ft (pc := 23) tb_Mo_dayLine 14 rfl) ib_11 ?_
    refine fg_bipush (fg_ft (pc := 25) tb_Mo_dayLine 15 rfl) ib_17 ?_
    refine fg_callV (fg_ft (pc := 27) tb_Mo_dayLine 16 rfl) cf_Mo_135 (fg_isOf ly_287 rfl (fg_lt ly_287 (by decide))) (as := [.int (nI 11), .int (nI 17)]) (st := []) rfl rfl (Nat.le_of_ble_eq_true rfl) (Nat.le_refl _) (Nat.le_refl _) (ev_Mo_takes (lo := 11) (hi := 17) hle hb256 hc (by decide) (by decide) ?_)
    intro ν7 hg7 h7
    have ag7 := rz_ag_tr ag6 hg7
    rw [ht] at h7 ⊢
    show fg_wp _ _ _ _ _ _ _ _ _ (ν7, fg_rho R, 304)
    have hCt : t.2.2.2.2.2 = Z.2.2.2.2 := by rw [← ht, rz_ta_C, rz_c3_C]
    refine fg_top (y := nI 13) (congrArg nI hk) ?_
    refine fg_istoren (fg_ft (pc := 30) tb_Mo_dayLine 17 rfl) (Nat.le_of_ble_eq_true rfl) ?_
    refine fg_iconst (fg_ft (pc := 31) tb_Mo_dayLine 18 rfl) ic_m1 ?_
    refine fg_top (y := nI 4294967295) (by decide) ?_
    refine fg_istoren (fg_ft (pc := 32) tb_Mo_dayLine 19 rfl) (Nat.le_of_ble_eq_true rfl) ?_
    refine fg_iconst (fg_ft (pc := 33) tb_Mo_dayLine 20 rfl) ic_m1 ?_
    refine fg_top (y := nI 4294967295) (by decide) ?_
    refine fg_istore (fg_ft (pc := 34) tb_Mo_dayLine 21 rfl) (Nat.le_of_ble_eq_true rfl) ?_
    refine fg_iconst (fg_ft (pc := 36) tb_Mo_dayLine 22 rfl) ic_m1 ?_
    refine fg_top (y := nI 4294967295) (by decide) ?_
    refine fg_istore (fg_ft (pc := 37) tb_Mo_dayLine 23 rfl) (Nat.le_of_ble_eq_true rfl) ?_
    refine fg_iloadn (fg_ft (pc := 39) tb_Mo_dayLine 24 rfl) rfl ?_
    refine fg_if_leN (tgt := 56) (fg_ft (pc := 40) tb_Mo_dayLine 25 rfl) (by decide) (by decide) (fun c40 => (absurd c40 (by decide))) (fun c40 => ?_)
    refine fg_iloadn (fg_ft (pc := 43) tb_Mo_dayLine 26 rfl) rfl ?_
    refine fg_bipush (fg_ft (pc := 44) tb_Mo_dayLine 27 rfl) ib_17 ?_
    refine fg_icmp_eqN (tgt := 56) (fg_ft (pc := 46) tb_Mo_dayLine 28 rfl) (by decide) (by decide) (by decide) (fun c46 => (absurd c46 (by decide))) (fun c46 => ?_)
    refine fg_aloadn (fg_ft (pc := 49) tb_Mo_dayLine 29 rfl) rfl ?_
    refine fg_iconst (fg_ft (pc := 50) tb_Mo_dayLine 30 rfl) ic_0 ?_
    refine fg_iconst (fg_ft (pc := 51) tb_Mo_dayLine 31 rfl) ic_4 ?_
    refine fg_callV (fg_ft (pc := 52) tb_Mo_dayLine 32 rfl) cf_Mo_121 (fg_isOf ly_287 rfl (fg_lt ly_287 (by decide))) (as := [.int (nI 0), .int (nI 4)]) (st := []) rfl rfl (Nat.le_of_ble_eq_true rfl) (Nat.le_refl _) (Nat.le_refl _) (ev_Mo_numbered (lo := 0) (hi := 4 + 1) hle hb256 h7 (rz_m (by decide) (by decide)) ?_)
    intro ν8 hg8 h8
    have ag8 := rz_ag_tr ag7 hg8
    obtain ⟨a, ha⟩ : ∃ x, (rz_nu (pz_K b len) (pz_V b len) (pz_S b len) 0 (4 + 1) t.2) = x := ⟨_, rfl⟩
    rw [ha] at h8 ⊢
    show fg_wp _ _ _ _ _ _ _ _ _ (ν8, fg_rho R, 304)
    have hab : a.1 ≤ 99 ∨ a.1 = 4294967295 := by rw [← ha]; exact rz_nu_lt
    have hCa : a.2.2.2.2.2 = Z.2.2.2.2 := by rw [← ha, rz_nu_C, hCt]
    refine fg_istoren (fg_ft (pc := 55) tb_Mo_dayLine 33 rfl) (Nat.le_of_ble_eq_true rfl) ?_
    refine fg_iloadn (fg_ft (pc := 56) tb_Mo_dayLine 34 rfl) rfl ?_
    refine fg_bipush (fg_ft (pc := 57) tb_Mo_dayLine 35 rfl) ib_16 ?_
    refine fg_icmp_neN (tgt := 107) (fg_ft (pc := 59) tb_Mo_dayLine 36 rfl) (by decide) (by decide) (by decide) (fun c59 => ?_) (fun c59 => (absurd c59 (by decide)))
    refine fg_iloadn (fg_ft (pc := 107) tb_Mo_dayLine 61 rfl) rfl ?_
    refine fg_if_leN (tgt := 126) (fg_ft (pc := 108) tb_Mo_dayLine 62 rfl) (by decide) (by decide) (fun c108 => (absurd c108 (by decide))) (fun c108 => ?_)
    refine fg_iloadn (fg_ft (pc := 111) tb_Mo_dayLine 63 rfl) rfl ?_
    refine fg_bipush (fg_ft (pc := 112) tb_Mo_dayLine 64 rfl) ib_17 ?_
    refine fg_icmp_eqN (tgt := 126) (fg_ft (pc := 114) tb_Mo_dayLine 65 rfl) (by decide) (by decide) (by decide) (fun c114 => (absurd c114 (by decide))) (fun c114 => ?_)
    refine fg_aloadn (fg_ft (pc := 117) tb_Mo_dayLine 66 rfl) rfl ?_
    refine fg_iconst (fg_ft (pc := 118) tb_Mo_dayLine 67 rfl) ic_0 ?_
    refine fg_bipush (fg_ft (pc := 119) tb_Mo_dayLine 68 rfl) ib_9 ?_
    refine fg_callV (fg_ft (pc := 121) tb_Mo_dayLine 69 rfl) cf_Mo_121 (fg_isOf ly_287 rfl (fg_lt ly_287 (by decide))) (as := [.int (nI 0), .int (nI 9)]) (st := []) rfl rfl (Nat.le_of_ble_eq_true rfl) (Nat.le_refl _) (Nat.le_refl _) (ev_Mo_numbered (lo := 0) (hi := 9 + 1) hle hb256 h8 (rz_m (by decide) (by decide)) ?_)
    intro ν9 hg9 h9
    have ag9 := rz_ag_tr ag8 hg9
    obtain ⟨b9, hb9⟩ : ∃ x, (rz_nu (pz_K b len) (pz_V b len) (pz_S b len) 0 (9 + 1) a.2) = x := ⟨_, rfl⟩
    rw [hb9] at h9 ⊢
    show fg_wp _ _ _ _ _ _ _ _ _ (ν9, fg_rho R, 304)
    refine fg_istore (fg_ft (pc := 124) tb_Mo_dayLine 70 rfl) (Nat.le_of_ble_eq_true rfl) ?_
    have hCf : b9.2.2.2.2.2 = Z.2.2.2.2 := by rw [← hb9, rz_nu_C, hCa]
    have hb1 : b9.2.2.2.2.2 0 ≤ 700 := by rw [hCf]; exact hcnt
    refine fg_aloadn (fg_ft (pc := 126) tb_Mo_dayLine 71 rfl) rfl ?_
    refine fg_getR (fg_ft (pc := 127) tb_Mo_dayLine 72 rfl) ff_Mo_17 ly_287 rfl (fg_lt ly_287 (by decide)) (rh_287_10 R) ?_
    refine fg_iconst (fg_ft (pc := 130) tb_Mo_dayLine 73 rfl) ic_0 ?_
    refine fg_ialdV (v := (nI (b9.2.2.2.2.2 0))) (fg_ft (pc := 131) tb_Mo_dayLine 74 rfl) ly_290 (fg_lt ly_290 (by decide)) (by omega) (h9.2.2.2.2.2.2.1 0 (by omega)) ?_
    refine fg_bipush (fg_ft (pc := 132) tb_Mo_dayLine 75 rfl) ib_30 ?_
    refine fg_icmp_geN (tgt := 192) (fg_ft (pc := 134) tb_Mo_dayLine 76 rfl) (by decide) (by omega) (by decide) (fun c134 => ?_) (fun c134 => ?_)
    · refine fg_aloadn (fg_ft (pc := 192) tb_Mo_dayLine 114 rfl) rfl ?_
      refine fg_getR (fg_ft (pc := 193) tb_Mo_dayLine 115 rfl) ff_Mo_17 ly_287 rfl (fg_lt ly_287 (by decide)) (rh_287_10 R) ?_
      refine fg_iconst (fg_ft (pc := 196) tb_Mo_dayLine 116 rfl) ic_0 ?_
      refine fg_dup2 (fg_ft (pc := 197) tb_Mo_dayLine 117 rfl) rfl rfl ?_
      refine fg_ialdV (v := (nI (b9.2.2.2.2.2 0))) (fg_ft (pc := 198) tb_Mo_dayLine 118 rfl) ly_290 (fg_lt ly_290 (by decide)) (by omega) (h9.2.2.2.2.2.2.1 0 (by omega)) ?_
      refine fg_iconst (fg_ft (pc := 199) tb_Mo_dayLine 119 rfl) ic_1 ?_
      refine fg_iaddN (fg_ft (pc := 200) tb_Mo_dayLine 120 rfl) ?_
      refine fg_iastN (fg_ft (pc := 201) tb_Mo_dayLine 121 rfl) ly_290 (fg_lt ly_290 (by decide)) (by omega) ?_
      show fg_wp _ _ _ _ _ _ _ _ _ (fg_u2 ν9 290 0 (nI ((b9.2.2.2.2.2 0) + 1)), fg_rho R, 304)
      have hm : rz_RZ (fg_u2 ν9 290 0 (nI ((b9.2.2.2.2.2 0) + 1))) b len (rz_dn 13 (rz_dm (pz_K b len) (pz_V b len) (pz_S b len) t.2 13)) := by
        have e9 : rz_dm (pz_K b len) (pz_V b len) (pz_S b len) t.2 13 = (a.1, b9.1, 4294967295, b9.2) := (by
          show rz_dr (pz_K b len) (pz_V b len) (pz_S b len) (rz_nu (pz_K b len) (pz_V b len) (pz_S b len) 0 (4 + 1) t.2) = _
          rw [ha]
          unfold rz_dr
          have h1 : rz_nu (pz_K b len) (pz_V b len) (pz_S b len) 0 10 a.2 = b9 := hb9
          rw [h1])
        rw [e9]
        show rz_RZ _ b len (rz_pd 2 a.1 b9.1 4294967295 b9.2)
        unfold rz_pd
        rw [if_neg (by omega)]
        exact (h9).put
      have agm : rz_ag μ (fg_u2 ν9 290 0 (nI ((b9.2.2.2.2.2 0) + 1))) := fun a j p q r => (fg_u2ne r).trans (ag9 a j p q r)
      refine fg_aloadn (fg_ft (pc := 202) tb_Mo_dayLine 122 rfl) rfl ?_
      refine fg_callV (fg_ft (pc := 203) tb_Mo_dayLine 123 rfl) cf_Mo_153 (fg_isOf ly_287 rfl (fg_lt ly_287 (by decide))) (as := []) (st := []) rfl rfl (Nat.le_of_ble_eq_true rfl) (Nat.le_refl _) (Nat.le_refl _) (ev_Mo_endsLine hle hb256 hm ?_)
      intro ν10 hg10 h10
      have ag10 := rz_ag_tr agm hg10
      show fg_wp _ _ _ _ _ _ _ _ _ (ν10, fg_rho R, 304)
      exact fg_vret (fg_ft (pc := 206) tb_Mo_dayLine 124 rfl) rfl rfl (hQ _ ag10 h10)
    · refine fg_iconst (fg_ft (pc := 137) tb_Mo_dayLine 77 rfl) ic_1 ?_
      refine fg_iconst (fg_ft (pc := 138) tb_Mo_dayLine 78 rfl) ic_4 ?_
      refine fg_aloadn (fg_ft (pc := 139) tb_Mo_dayLine 79 rfl) rfl ?_
      refine fg_getR (fg_ft (pc := 140) tb_Mo_dayLine 80 rfl) ff_Mo_17 ly_287 rfl (fg_lt ly_287 (by decide)) (rh_287_10 R) ?_
      refine fg_iconst (fg_ft (pc := 143) tb_Mo_dayLine 81 rfl) ic_0 ?_
      refine fg_ialdV (v := (nI (b9.2.2.2.2.2 0))) (fg_ft (pc := 144) tb_Mo_dayLine 82 rfl) ly_290 (fg_lt ly_290 (by decide)) (by omega) (h9.2.2.2.2.2.2.1 0 (by omega)) ?_
      refine fg_imulN (fg_ft (pc := 145) tb_Mo_dayLine 83 rfl) ?_
      refine fg_iaddN (fg_ft (pc := 146) tb_Mo_dayLine 84 rfl) ?_
      refine fg_istore (fg_ft (pc := 147) tb_Mo_dayLine 85 rfl) (Nat.le_of_ble_eq_true rfl) ?_
      refine fg_aloadn (fg_ft (pc := 149) tb_Mo_dayLine 86 rfl) rfl ?_
      refine fg_getR (fg_ft (pc := 150) tb_Mo_dayLine 87 rfl) ff_Mo_17 ly_287 rfl (fg_lt ly_287 (by decide)) (rh_287_10 R) ?_
      refine fg_iload (fg_ft (pc := 153) tb_Mo_dayLine 88 rfl) rfl ?_
      refine fg_iloadn (fg_ft (pc := 155) tb_Mo_dayLine 89 rfl) rfl ?_
      refine fg_bipush (fg_ft (pc := 156) tb_Mo_dayLine 90 rfl) ib_11 ?_
      refine fg_isubN (fg_ft (pc := 158) tb_Mo_dayLine 91 rfl) (by omega) ?_
      refine fg_iastN (fg_ft (pc := 159) tb_Mo_dayLine 92 rfl) ly_290 (fg_lt ly_290 (by decide)) (by omega) ?_
      show fg_wp _ _ _ _ _ _ _ _ _ (fg_u2 ν9 290 (1 + (4 * (b9.2.2.2.2.2 0))) (nI (13 - 11)), fg_rho R, 304)
      refine fg_aloadn (fg_ft (pc := 160) tb_Mo_dayLine 93 rfl) rfl ?_
      refine fg_getR (fg_ft (pc := 161) tb_Mo_dayLine 94 rfl) ff_Mo_17 ly_287 rfl (fg_lt ly_287 (by decide)) (rh_287_10 R) ?_
      refine fg_iload (fg_ft (pc := 164) tb_Mo_dayLine 95 rfl) rfl ?_
      refine fg_iconst (fg_ft (pc := 166) tb_Mo_dayLine 96 rfl) ic_1 ?_
      refine fg_iaddN (fg_ft (pc := 167) tb_Mo_dayLine 97 rfl) ?_
      refine fg_iloadn (fg_ft (pc := 168) tb_Mo_dayLine 98 rfl) rfl ?_
      refine fg_iastN (fg_ft (pc := 169) tb_Mo_dayLine 99 rfl) ly_290 (fg_lt ly_290 (by decide)) (by omega) ?_
      show fg_wp _ _ _ _ _ _ _ _ _ (fg_u2 (fg_u2 ν9 290 (1 + (4 * (b9.2.2.2.2.2 0))) (nI (13 - 11))) 290 ((1 + (4 * (b9.2.2.2.2.2 0))) + 1) (nI (a.1)), fg_rho R, 304)
      refine fg_aloadn (fg_ft (pc := 170) tb_Mo_dayLine 100 rfl) rfl ?_
      refine fg_getR (fg_ft (pc := 171) tb_Mo_dayLine 101 rfl) ff_Mo_17 ly_287 rfl (fg_lt ly_287 (by decide)) (rh_287_10 R) ?_
      refine fg_iload (fg_ft (pc := 174) tb_Mo_dayLine 102 rfl) rfl ?_
      refine fg_iconst (fg_ft (pc := 176) tb_Mo_dayLine 103 rfl) ic_2 ?_
      refine fg_iaddN (fg_ft (pc := 177) tb_Mo_dayLine 104 rfl) ?_
      refine fg_iload (fg_ft (pc := 178) tb_Mo_dayLine 105 rfl) rfl ?_
      refine fg_iastN (fg_ft (pc := 180) tb_Mo_dayLine 106 rfl) ly_290 (fg_lt ly_290 (by decide)) (by omega) ?_
      show fg_wp _ _ _ _ _ _ _ _ _ (fg_u2 (fg_u2 (fg_u2 ν9 290 (1 + (4 * (b9.2.2.2.2.2 0))) (nI (13 - 11))) 290 ((1 + (4 * (b9.2.2.2.2.2 0))) + 1) (nI (a.1))) 290 ((1 + (4 * (b9.2.2.2.2.2 0))) + 2) (nI (b9.1)), fg_rho R, 304)
      refine fg_aloadn (fg_ft (pc := 181) tb_Mo_dayLine 107 rfl) rfl ?_
      refine fg_getR (fg_ft (pc := 182) tb_Mo_dayLine 108 rfl) ff_Mo_17 ly_287 rfl (fg_lt ly_287 (by decide)) (rh_287_10 R) ?_
      refine fg_iload (fg_ft (pc := 185) tb_Mo_dayLine 109 rfl) rfl ?_
      refine fg_iconst (fg_ft (pc := 187) tb_Mo_dayLine 110 rfl) ic_3 ?_
      refine fg_iaddN (fg_ft (pc := 188) tb_Mo_dayLine 111 rfl) ?_
      refine fg_iload (fg_ft (pc := 189) tb_Mo_dayLine 112 rfl) rfl ?_
      refine fg_iastN (fg_ft (pc := 191) tb_Mo_dayLine 113 rfl) ly_290 (fg_lt ly_290 (by decide)) (by omega) ?_
      show fg_wp _ _ _ _ _ _ _ _ _ (fg_u2 (fg_u2 (fg_u2 (fg_u2 ν9 290 (1 + (4 * (b9.2.2.2.2.2 0))) (nI (13 - 11))) 290 ((1 + (4 * (b9.2.2.2.2.2 0))) + 1) (nI (a.1))) 290 ((1 + (4 * (b9.2.2.2.2.2 0))) + 2) (nI (b9.1))) 290 ((1 + (4 * (b9.2.2.2.2.2 0))) + 3) (nI 4294967295), fg_rho R, 304)
      refine fg_aloadn (fg_ft (pc := 192) tb_Mo_dayLine 114 rfl) rfl ?_
      refine fg_getR (fg_ft (pc := 193) tb_Mo_dayLine 115 rfl) ff_Mo_17 ly_287 rfl (fg_lt ly_287 (by decide)) (rh_287_10 R) ?_
      refine fg_iconst (fg_ft (pc := 196) tb_Mo_dayLine 116 rfl) ic_0 ?_
      refine fg_dup2 (fg_ft (pc := 197) tb_Mo_dayLine 117 rfl) rfl rfl ?_
      refine fg_ialdV (v := (nI (b9.2.2.2.2.2 0))) (fg_ft (pc := 198) tb_Mo_dayLine 118 rfl) ly_290 (fg_lt ly_290 (by decide)) (by omega) ((fg_u2ns (f := (fg_u2 (fg_u2 (fg_u2 ν9 290 (1 + (4 * (b9.2.2.2.2.2 0))) (nI (13 - 11))) 290 ((1 + (4 * (b9.2.2.2.2.2 0))) + 1) (nI (a.1))) 290 ((1 + (4 * (b9.2.2.2.2.2 0))) + 2) (nI (b9.1)))) (a := 290) (k := ((1 + (4 * (b9.2.2.2.2.2 0))) + 3)) (b := 290) (j := 0) (x := (nI 4294967295)) (by omega)).trans ((fg_u2ns (f := (fg_u2 (fg_u2 ν9 290 (1 + (4 * (b9.2.2.2.2.2 0))) (nI (13 - 11))) 290 ((1 + (4 * (b9.2.2.2.2.2 0))) + 1) (nI (a.1)))) (a := 290) (k := ((1 + (4 * (b9.2.2.2.2.2 0))) + 2)) (b := 290) (j := 0) (x := (nI (b9.1))) (by omega)).trans ((fg_u2ns (f := (fg_u2 ν9 290 (1 + (4 * (b9.2.2.2.2.2 0))) (nI (13 - 11)))) (a := 290) (k := ((1 + (4 * (b9.2.2.2.2.2 0))) + 1)) (b := 290) (j := 0) (x := (nI (a.1))) (by omega)).trans ((fg_u2ns (f := ν9) (a := 290) (k := (1 + (4 * (b9.2.2.2.2.2 0)))) (b := 290) (j := 0) (x := (nI (13 - 11))) (by omega)).trans (h9.2.2.2.2.2.2.1 0 (by omega)))))) ?_
      refine fg_iconst (fg_ft (pc := 199) tb_Mo_dayLine 119 rfl) ic_1 ?_
      refine fg_iaddN (fg_ft (pc := 200) tb_Mo_dayLine 120 rfl) ?_
      refine fg_iastN (fg_ft (pc := 201) tb_Mo_dayLine 121 rfl) ly_290 (fg_lt ly_290 (by decide)) (by omega) ?_
      show fg_wp _ _ _ _ _ _ _ _ _ (fg_u2 (fg_u2 (fg_u2 (fg_u2 (fg_u2 ν9 290 (1 + (4 * (b9.2.2.2.2.2 0))) (nI (13 - 11))) 290 ((1 + (4 * (b9.2.2.2.2.2 0))) + 1) (nI (a.1))) 290 ((1 + (4 * (b9.2.2.2.2.2 0))) + 2) (nI (b9.1))) 290 ((1 + (4 * (b9.2.2.2.2.2 0))) + 3) (nI 4294967295)) 290 0 (nI ((b9.2.2.2.2.2 0) + 1)), fg_rho R, 304)
      have hm : rz_RZ (fg_u2 (fg_u2 (fg_u2 (fg_u2 (fg_u2 ν9 290 (1 + (4 * (b9.2.2.2.2.2 0))) (nI (13 - 11))) 290 ((1 + (4 * (b9.2.2.2.2.2 0))) + 1) (nI (a.1))) 290 ((1 + (4 * (b9.2.2.2.2.2 0))) + 2) (nI (b9.1))) 290 ((1 + (4 * (b9.2.2.2.2.2 0))) + 3) (nI 4294967295)) 290 0 (nI ((b9.2.2.2.2.2 0) + 1))) b len (rz_dn 13 (rz_dm (pz_K b len) (pz_V b len) (pz_S b len) t.2 13)) := by
        have e9 : rz_dm (pz_K b len) (pz_V b len) (pz_S b len) t.2 13 = (a.1, b9.1, 4294967295, b9.2) := (by
          show rz_dr (pz_K b len) (pz_V b len) (pz_S b len) (rz_nu (pz_K b len) (pz_V b len) (pz_S b len) 0 (4 + 1) t.2) = _
          rw [ha]
          unfold rz_dr
          have h1 : rz_nu (pz_K b len) (pz_V b len) (pz_S b len) 0 10 a.2 = b9 := hb9
          rw [h1])
        rw [e9]
        show rz_RZ _ b len (rz_pd 2 a.1 b9.1 4294967295 b9.2)
        unfold rz_pd
        rw [if_pos (by omega)]
        exact (((((h9).put).put).put).put).put
      have agm : rz_ag μ (fg_u2 (fg_u2 (fg_u2 (fg_u2 (fg_u2 ν9 290 (1 + (4 * (b9.2.2.2.2.2 0))) (nI (13 - 11))) 290 ((1 + (4 * (b9.2.2.2.2.2 0))) + 1) (nI (a.1))) 290 ((1 + (4 * (b9.2.2.2.2.2 0))) + 2) (nI (b9.1))) 290 ((1 + (4 * (b9.2.2.2.2.2 0))) + 3) (nI 4294967295)) 290 0 (nI ((b9.2.2.2.2.2 0) + 1))) := fun a j p q r => (fg_u2ne r).trans ((fg_u2ne r).trans ((fg_u2ne r).trans ((fg_u2ne r).trans ((fg_u2ne r).trans (ag9 a j p q r)))))
      refine fg_aloadn (fg_ft (pc := 202) tb_Mo_dayLine 122 rfl) rfl ?_
      refine fg_callV (fg_ft (pc := 203) tb_Mo_dayLine 123 rfl) cf_Mo_153 (fg_isOf ly_287 rfl (fg_lt ly_287 (by decide))) (as := []) (st := []) rfl rfl (Nat.le_of_ble_eq_true rfl) (Nat.le_refl _) (Nat.le_refl _) (ev_Mo_endsLine hle hb256 hm ?_)
      intro ν11 hg11 h11
      have ag11 := rz_ag_tr agm hg11
      show fg_wp _ _ _ _ _ _ _ _ _ (ν11, fg_rho R, 304)
      exact fg_vret (fg_ft (pc := 206) tb_Mo_dayLine 124 rfl) rfl rfl (hQ _ ag11 h11)
theorem ev_Mo_dayLine_14 {E : fg_E} {d : Nat} {μ : Nat → Nat → Int32} {R : fg_T4} {Q : Option Value → fg_M → Prop} {b : Nat → Nat} {len : Nat} {Z : rz_Z} (hle : len ≤ 600) (hb256 : ∀ j, b j < 256) (h : rz_RZ μ b len Z) (hcnt : Z.2.2.2.2 0 ≤ 700) {t : Nat × rz_Z} (ht : rz_ta (pz_K b len) (pz_V b len) (pz_S b len) 11 17 (rz_c3 0 30 (pz_S b len Z.1) Z) = t) (hk : t.1 = 14) (hQ : ∀ μ' : Nat → Nat → Int32, rz_ag μ μ' → rz_RZ μ' b len (rz_el (pz_K b len) (pz_S b len) (rz_dn 14 (rz_dm (pz_K b len) (pz_V b len) (pz_S b len) t.2 14))) → Q none (μ', fg_rho R, 304)) : fg_Ev E yy_Mo_dayLine (d + 9) [.ref 287] (μ, fg_rho R, 304) 304 Q := by
  refine fg_intro (by decide +kernel) (Nat.le_of_ble_eq_true rfl) (fg_okAs rfl) (Nat.le_refl _) ?_
  refine fg_aloadn (fg_ft (pc := 0) tb_Mo_dayLine 0 rfl) rfl ?_
  refine fg_getV (v := (nI (pz_S b len Z.1))) (fg_ft (pc := 1) tb_Mo_dayLine 1 rfl) ff_Mo_81 ly_287 rfl (fg_lt ly_287 (by decide)) h.2.1.2.1 ?_
  refine fg_istoren (fg_ft (pc := 4) tb_Mo_dayLine 2 rfl) (Nat.le_of_ble_eq_true rfl) ?_
  refine fg_aloadn (fg_ft (pc := 5) tb_Mo_dayLine 3 rfl) rfl ?_
  refine fg_getR (fg_ft (pc := 6) tb_Mo_dayLine 4 rfl) ff_Mo_17 ly_287 rfl (fg_lt ly_287 (by decide)) (rh_287_10 R) ?_
  refine fg_iconst (fg_ft (pc := 9) tb_Mo_dayLine 5 rfl) ic_0 ?_
  refine fg_ialdV (v := (nI (Z.2.2.2.2 0))) (fg_ft (pc := 10) tb_Mo_dayLine 6 rfl) ly_290 (fg_lt ly_290 (by decide)) (by omega) (h.2.2.2.2.2.2.1 0 (by omega)) ?_
  have hb0 := hcnt
  refine fg_bipush (fg_ft (pc := 11) tb_Mo_dayLine 7 rfl) ib_30 ?_
  refine fg_icmp_ltN (tgt := 22) (fg_ft (pc := 13) tb_Mo_dayLine 8 rfl) (by decide) (by omega) (by decide) (fun c13 => ?_) (fun c13 => ?_)
  · have hc : rz_RZ μ b len (rz_c3 0 30 (pz_S b len Z.1) Z) := by
      unfold rz_c3
      rw [if_neg (by omega)]
      exact h
    refine fg_aloadn (fg_ft (pc := 22) tb_Mo_dayLine 13 rfl) rfl ?_
    refine fg_bipush (fg_ft (pc := 23) tb_Mo_dayLine 14 rfl) ib_11 ?_
    refine fg_bipush (fg_ft (pc := 25) tb_Mo_dayLine 15 rfl) ib_17 ?_
    refine fg_callV (fg_ft (pc := 27) tb_Mo_dayLine 16 rfl) cf_Mo_135 (fg_isOf ly_287 rfl (fg_lt ly_287 (by decide))) (as := [.int (nI 11), .int (nI 17)]) (st := []) rfl rfl (Nat.le_of_ble_eq_true rfl) (Nat.le_refl _) (Nat.le_refl _) (ev_Mo_takes (lo := 11) (hi := 17) hle hb256 hc (by decide) (by decide) ?_)
    intro ν1 hg1 h1
    have ag1 := hg1
    rw [ht] at h1 ⊢
    show fg_wp _ _ _ _ _ _ _ _ _ (ν1, fg_rho R, 304)
    have hCt : t.2.2.2.2.2 = Z.2.2.2.2 := by rw [← ht, rz_ta_C, rz_c3_C]
    refine fg_top (y := nI 14) (congrArg nI hk) ?_
    refine fg_istoren (fg_ft (pc := 30) tb_Mo_dayLine 17 rfl) (Nat.le_of_ble_eq_true rfl) ?_
    refine fg_iconst (fg_ft (pc := 31) tb_Mo_dayLine 18 rfl) ic_m1 ?_
    refine fg_top (y := nI 4294967295) (by decide) ?_
    refine fg_istoren (fg_ft (pc := 32) tb_Mo_dayLine 19 rfl) (Nat.le_of_ble_eq_true rfl) ?_
    refine fg_iconst (fg_ft (pc := 33) tb_Mo_dayLine 20 rfl) ic_m1 ?_
    refine fg_top (y := nI 4294967295) (by decide) ?_
    refine fg_istore (fg_ft (pc := 34) tb_Mo_dayLine 21 rfl) (Nat.le_of_ble_eq_true rfl) ?_
    refine fg_iconst (fg_ft (pc := 36) tb_Mo_dayLine 22 rfl) ic_m1 ?_
    refine fg_top (y := nI 4294967295) (by decide) ?_
    refine fg_istore (fg_ft (pc := 37) tb_Mo_dayLine 23 rfl) (Nat.le_of_ble_eq_true rfl) ?_
    refine fg_iloadn (fg_ft (pc := 39) tb_Mo_dayLine 24 rfl) rfl ?_
    refine fg_if_leN (tgt := 56) (fg_ft (pc := 40) tb_Mo_dayLine 25 rfl) (by decide) (by decide) (fun c40 => (absurd c40 (by decide))) (fun c40 => ?_)
    refine fg_iloadn (fg_ft (pc := 43) tb_Mo_dayLine 26 rfl) rfl ?_
    refine fg_bipush (fg_ft (pc := 44) tb_Mo_dayLine 27 rfl) ib_17 ?_
    refine fg_icmp_eqN (tgt := 56) (fg_ft (pc := 46) tb_Mo_dayLine 28 rfl) (by decide) (by decide) (by decide) (fun c46 => (absurd c46 (by decide))) (fun c46 => ?_)
    refine fg_aloadn (fg_ft (pc := 49) tb_Mo_dayLine 29 rfl) rfl ?_
    refine fg_iconst (fg_ft (pc := 50) tb_Mo_dayLine 30 rfl) ic_0 ?_
    refine fg_iconst (fg_ft (pc := 51) tb_Mo_dayLine 31 rfl) ic_4 ?_
    refine fg_callV (fg_ft (pc := 52) tb_Mo_dayLine 32 rfl) cf_Mo_121 (fg_isOf ly_287 rfl (fg_lt ly_287 (by decide))) (as := [.int (nI 0), .int (nI 4)]) (st := []) rfl rfl (Nat.le_of_ble_eq_true rfl) (Nat.le_refl _) (Nat.le_refl _) (ev_Mo_numbered (lo := 0) (hi := 4 + 1) hle hb256 h1 (rz_m (by decide) (by decide)) ?_)
    intro ν2 hg2 h2
    have ag2 := rz_ag_tr ag1 hg2
    obtain ⟨a, ha⟩ : ∃ x, (rz_nu (pz_K b len) (pz_V b len) (pz_S b len) 0 (4 + 1) t.2) = x := ⟨_, rfl⟩
    rw [ha] at h2 ⊢
    show fg_wp _ _ _ _ _ _ _ _ _ (ν2, fg_rho R, 304)
    have hab : a.1 ≤ 99 ∨ a.1 = 4294967295 := by rw [← ha]; exact rz_nu_lt
    have hCa : a.2.2.2.2.2 = Z.2.2.2.2 := by rw [← ha, rz_nu_C, hCt]
    refine fg_istoren (fg_ft (pc := 55) tb_Mo_dayLine 33 rfl) (Nat.le_of_ble_eq_true rfl) ?_
    refine fg_iloadn (fg_ft (pc := 56) tb_Mo_dayLine 34 rfl) rfl ?_
    refine fg_bipush (fg_ft (pc := 57) tb_Mo_dayLine 35 rfl) ib_16 ?_
    refine fg_icmp_neN (tgt := 107) (fg_ft (pc := 59) tb_Mo_dayLine 36 rfl) (by decide) (by decide) (by decide) (fun c59 => ?_) (fun c59 => (absurd c59 (by decide)))
    refine fg_iloadn (fg_ft (pc := 107) tb_Mo_dayLine 61 rfl) rfl ?_
    refine fg_if_leN (tgt := 126) (fg_ft (pc := 108) tb_Mo_dayLine 62 rfl) (by decide) (by decide) (fun c108 => (absurd c108 (by decide))) (fun c108 => ?_)
    refine fg_iloadn (fg_ft (pc := 111) tb_Mo_dayLine 63 rfl) rfl ?_
    refine fg_bipush (fg_ft (pc := 112) tb_Mo_dayLine 64 rfl) ib_17 ?_
    refine fg_icmp_eqN (tgt := 126) (fg_ft (pc := 114) tb_Mo_dayLine 65 rfl) (by decide) (by decide) (by decide) (fun c114 => (absurd c114 (by decide))) (fun c114 => ?_)
    refine fg_aloadn (fg_ft (pc := 117) tb_Mo_dayLine 66 rfl) rfl ?_
    refine fg_iconst (fg_ft (pc := 118) tb_Mo_dayLine 67 rfl) ic_0 ?_
    refine fg_bipush (fg_ft (pc := 119) tb_Mo_dayLine 68 rfl) ib_9 ?_
    refine fg_callV (fg_ft (pc := 121) tb_Mo_dayLine 69 rfl) cf_Mo_121 (fg_isOf ly_287 rfl (fg_lt ly_287 (by decide))) (as := [.int (nI 0), .int (nI 9)]) (st := []) rfl rfl (Nat.le_of_ble_eq_true rfl) (Nat.le_refl _) (Nat.le_refl _) (ev_Mo_numbered (lo := 0) (hi := 9 + 1) hle hb256 h2 (rz_m (by decide) (by decide)) ?_)
    intro ν3 hg3 h3
    have ag3 := rz_ag_tr ag2 hg3
    obtain ⟨b9, hb9⟩ : ∃ x, (rz_nu (pz_K b len) (pz_V b len) (pz_S b len) 0 (9 + 1) a.2) = x := ⟨_, rfl⟩
    rw [hb9] at h3 ⊢
    show fg_wp _ _ _ _ _ _ _ _ _ (ν3, fg_rho R, 304)
    refine fg_istore (fg_ft (pc := 124) tb_Mo_dayLine 70 rfl) (Nat.le_of_ble_eq_true rfl) ?_
    have hCf : b9.2.2.2.2.2 = Z.2.2.2.2 := by rw [← hb9, rz_nu_C, hCa]
    have hb1 : b9.2.2.2.2.2 0 ≤ 700 := by rw [hCf]; exact hcnt
    refine fg_aloadn (fg_ft (pc := 126) tb_Mo_dayLine 71 rfl) rfl ?_
    refine fg_getR (fg_ft (pc := 127) tb_Mo_dayLine 72 rfl) ff_Mo_17 ly_287 rfl (fg_lt ly_287 (by decide)) (rh_287_10 R) ?_
    refine fg_iconst (fg_ft (pc := 130) tb_Mo_dayLine 73 rfl) ic_0 ?_
    refine fg_ialdV (v := (nI (b9.2.2.2.2.2 0))) (fg_ft (pc := 131) tb_Mo_dayLine 74 rfl) ly_290 (fg_lt ly_290 (by decide)) (by omega) (h3.2.2.2.2.2.2.1 0 (by omega)) ?_
    refine fg_bipush (fg_ft (pc := 132) tb_Mo_dayLine 75 rfl) ib_30 ?_
    refine fg_icmp_geN (tgt := 192) (fg_ft (pc := 134) tb_Mo_dayLine 76 rfl) (by decide) (by omega) (by decide) (fun c134 => ?_) (fun c134 => ?_)
    · refine fg_aloadn (fg_ft (pc := 192) tb_Mo_dayLine 114 rfl) rfl ?_
      refine fg_getR (fg_ft (pc := 193) tb_Mo_dayLine 115 rfl) ff_Mo_17 ly_287 rfl (fg_lt ly_287 (by decide)) (rh_287_10 R) ?_
      refine fg_iconst (fg_ft (pc := 196) tb_Mo_dayLine 116 rfl) ic_0 ?_
      refine fg_dup2 (fg_ft (pc := 197) tb_Mo_dayLine 117 rfl) rfl rfl ?_
      refine fg_ialdV (v := (nI (b9.2.2.2.2.2 0))) (fg_ft (pc := 198) tb_Mo_dayLine 118 rfl) ly_290 (fg_lt ly_290 (by decide)) (by omega) (h3.2.2.2.2.2.2.1 0 (by omega)) ?_
      refine fg_iconst (fg_ft (pc := 199) tb_Mo_dayLine 119 rfl) ic_1 ?_
      refine fg_iaddN (fg_ft (pc := 200) tb_Mo_dayLine 120 rfl) ?_
      refine fg_iastN (fg_ft (pc := 201) tb_Mo_dayLine 121 rfl) ly_290 (fg_lt ly_290 (by decide)) (by omega) ?_
      show fg_wp _ _ _ _ _ _ _ _ _ (fg_u2 ν3 290 0 (nI ((b9.2.2.2.2.2 0) + 1)), fg_rho R, 304)
      have hm : rz_RZ (fg_u2 ν3 290 0 (nI ((b9.2.2.2.2.2 0) + 1))) b len (rz_dn 14 (rz_dm (pz_K b len) (pz_V b len) (pz_S b len) t.2 14)) := by
        have e9 : rz_dm (pz_K b len) (pz_V b len) (pz_S b len) t.2 14 = (a.1, b9.1, 4294967295, b9.2) := (by
          show rz_dr (pz_K b len) (pz_V b len) (pz_S b len) (rz_nu (pz_K b len) (pz_V b len) (pz_S b len) 0 (4 + 1) t.2) = _
          rw [ha]
          unfold rz_dr
          have h1 : rz_nu (pz_K b len) (pz_V b len) (pz_S b len) 0 10 a.2 = b9 := hb9
          rw [h1])
        rw [e9]
        show rz_RZ _ b len (rz_pd 3 a.1 b9.1 4294967295 b9.2)
        unfold rz_pd
        rw [if_neg (by omega)]
        exact (h3).put
      have agm : rz_ag μ (fg_u2 ν3 290 0 (nI ((b9.2.2.2.2.2 0) + 1))) := fun a j p q r => (fg_u2ne r).trans (ag3 a j p q r)
      refine fg_aloadn (fg_ft (pc := 202) tb_Mo_dayLine 122 rfl) rfl ?_
      refine fg_callV (fg_ft (pc := 203) tb_Mo_dayLine 123 rfl) cf_Mo_153 (fg_isOf ly_287 rfl (fg_lt ly_287 (by decide))) (as := []) (st := []) rfl rfl (Nat.le_of_ble_eq_true rfl) (Nat.le_refl _) (Nat.le_refl _) (ev_Mo_endsLine hle hb256 hm ?_)
      intro ν4 hg4 h4
      have ag4 := rz_ag_tr agm hg4
      show fg_wp _ _ _ _ _ _ _ _ _ (ν4, fg_rho R, 304)
      exact fg_vret (fg_ft (pc := 206) tb_Mo_dayLine 124 rfl) rfl rfl (hQ _ ag4 h4)
    · refine fg_iconst (fg_ft (pc := 137) tb_Mo_dayLine 77 rfl) ic_1 ?_
      refine fg_iconst (fg_ft (pc := 138) tb_Mo_dayLine 78 rfl) ic_4 ?_
      refine fg_aloadn (fg_ft (pc := 139) tb_Mo_dayLine 79 rfl) rfl ?_
      refine fg_getR (fg_ft (pc := 140) tb_Mo_dayLine 80 rfl) ff_Mo_17 ly_287 rfl (fg_lt ly_287 (by decide)) (rh_287_10 R) ?_
      refine fg_iconst (fg_ft (pc := 143) tb_Mo_dayLine 81 rfl) ic_0 ?_
      refine fg_ialdV (v := (nI (b9.2.2.2.2.2 0))) (fg_ft (pc := 144) tb_Mo_dayLine 82 rfl) ly_290 (fg_lt ly_290 (by decide)) (by omega) (h3.2.2.2.2.2.2.1 0 (by omega)) ?_
      refine fg_imulN (fg_ft (pc := 145) tb_Mo_dayLine 83 rfl) ?_
      refine fg_iaddN (fg_ft (pc := 146) tb_Mo_dayLine 84 rfl) ?_
      refine fg_istore (fg_ft (pc := 147) tb_Mo_dayLine 85 rfl) (Nat.le_of_ble_eq_true rfl) ?_
      refine fg_aloadn (fg_ft (pc := 149) tb_Mo_dayLine 86 rfl) rfl ?_
      refine fg_getR (fg_ft (pc := 150) tb_Mo_dayLine 87 rfl) ff_Mo_17 ly_287 rfl (fg_lt ly_287 (by decide)) (rh_287_10 R) ?_
      refine fg_iload (fg_ft (pc := 153) tb_Mo_dayLine 88 rfl) rfl ?_
      refine fg_iloadn (fg_ft (pc := 155) tb_Mo_dayLine 89 rfl) rfl ?_
      refine fg_bipush (fg_ft (pc := 156) tb_Mo_dayLine 90 rfl) ib_11 ?_
      refine fg_isubN (fg_ft (pc := 158) tb_Mo_dayLine 91 rfl) (by omega) ?_
      refine fg_iastN (fg_ft (pc := 159) tb_Mo_dayLine 92 rfl) ly_290 (fg_lt ly_290 (by decide)) (by omega) ?_
      show fg_wp _ _ _ _ _ _ _ _ _ (fg_u2 ν3 290 (1 + (4 * (b9.2.2.2.2.2 0))) (nI (14 - 11)), fg_rho R, 304)
      refine fg_aloadn (fg_ft (pc := 160) tb_Mo_dayLine 93 rfl) rfl ?_
      refine fg_getR (fg_ft (pc := 161) tb_Mo_dayLine 94 rfl) ff_Mo_17 ly_287 rfl (fg_lt ly_287 (by decide)) (rh_287_10 R) ?_
      refine fg_iload (fg_ft (pc := 164) tb_Mo_dayLine 95 rfl) rfl ?_
      refine fg_iconst (fg_ft (pc := 166) tb_Mo_dayLine 96 rfl) ic_1 ?_
      refine fg_iaddN (fg_ft (pc := 167) tb_Mo_dayLine 97 rfl) ?_
      refine fg_iloadn (fg_ft (pc := 168) tb_Mo_dayLine 98 rfl) rfl ?_
      refine fg_iastN (fg_ft (pc := 169) tb_Mo_dayLine 99 rfl) ly_290 (fg_lt ly_290 (by decide)) (by omega) ?_
      show fg_wp _ _ _ _ _ _ _ _ _ (fg_u2 (fg_u2 ν3 290 (1 + (4 * (b9.2.2.2.2.2 0))) (nI (14 - 11))) 290 ((1 + (4 * (b9.2.2.2.2.2 0))) + 1) (nI (a.1)), fg_rho R, 304)
      refine fg_aloadn (fg_ft (pc := 170) tb_Mo_dayLine 100 rfl) rfl ?_
      refine fg_getR (fg_ft (pc := 171) tb_Mo_dayLine 101 rfl) ff_Mo_17 ly_287 rfl (fg_lt ly_287 (by decide)) (rh_287_10 R) ?_
      refine fg_iload (fg_ft (pc := 174) tb_Mo_dayLine 102 rfl) rfl ?_
      refine fg_iconst (fg_ft (pc := 176) tb_Mo_dayLine 103 rfl) ic_2 ?_
      refine fg_iaddN (fg_ft (pc := 177) tb_Mo_dayLine 104 rfl) ?_
      refine fg_iload (fg_ft (pc := 178) tb_Mo_dayLine 105 rfl) rfl ?_
      refine fg_iastN (fg_ft (pc := 180) tb_Mo_dayLine 106 rfl) ly_290 (fg_lt ly_290 (by decide)) (by omega) ?_
      show fg_wp _ _ _ _ _ _ _ _ _ (fg_u2 (fg_u2 (fg_u2 ν3 290 (1 + (4 * (b9.2.2.2.2.2 0))) (nI (14 - 11))) 290 ((1 + (4 * (b9.2.2.2.2.2 0))) + 1) (nI (a.1))) 290 ((1 + (4 * (b9.2.2.2.2.2 0))) + 2) (nI (b9.1)), fg_rho R, 304)
      refine fg_aloadn (fg_ft (pc := 181) tb_Mo_dayLine 107 rfl) rfl ?_
      refine fg_getR (fg_ft (pc := 182) tb_Mo_dayLine 108 rfl) ff_Mo_17 ly_287 rfl (fg_lt ly_287 (by decide)) (rh_287_10 R) ?_
      refine fg_iload (fg_ft (pc := 185) tb_Mo_dayLine 109 rfl) rfl ?_
      refine fg_iconst (fg_ft (pc := 187) tb_Mo_dayLine 110 rfl) ic_3 ?_
      refine fg_iaddN (fg_ft (pc := 188) tb_Mo_dayLine 111 rfl) ?_
      refine fg_iload (fg_ft (pc := 189) tb_Mo_dayLine 112 rfl) rfl ?_
      refine fg_iastN (fg_ft (pc := 191) tb_Mo_dayLine 113 rfl) ly_290 (fg_lt ly_290 (by decide)) (by omega) ?_
      show fg_wp _ _ _ _ _ _ _ _ _ (fg_u2 (fg_u2 (fg_u2 (fg_u2 ν3 290 (1 + (4 * (b9.2.2.2.2.2 0))) (nI (14 - 11))) 290 ((1 + (4 * (b9.2.2.2.2.2 0))) + 1) (nI (a.1))) 290 ((1 + (4 * (b9.2.2.2.2.2 0))) + 2) (nI (b9.1))) 290 ((1 + (4 * (b9.2.2.2.2.2 0))) + 3) (nI 4294967295), fg_rho R, 304)
      refine fg_aloadn (fg_ft (pc := 192) tb_Mo_dayLine 114 rfl) rfl ?_
      refine fg_getR (fg_ft (pc := 193) tb_Mo_dayLine 115 rfl) ff_Mo_17 ly_287 rfl (fg_lt ly_287 (by decide)) (rh_287_10 R) ?_
      refine fg_iconst (fg_ft (pc := 196) tb_Mo_dayLine 116 rfl) ic_0 ?_
      refine fg_dup2 (fg_ft (pc := 197) tb_Mo_dayLine 117 rfl) rfl rfl ?_
      refine fg_ialdV (v := (nI (b9.2.2.2.2.2 0))) (fg_ft (pc := 198) tb_Mo_dayLine 118 rfl) ly_290 (fg_lt ly_290 (by decide)) (by omega) ((fg_u2ns (f := (fg_u2 (fg_u2 (fg_u2 ν3 290 (1 + (4 * (b9.2.2.2.2.2 0))) (nI (14 - 11))) 290 ((1 + (4 * (b9.2.2.2.2.2 0))) + 1) (nI (a.1))) 290 ((1 + (4 * (b9.2.2.2.2.2 0))) + 2) (nI (b9.1)))) (a := 290) (k := ((1 + (4 * (b9.2.2.2.2.2 0))) + 3)) (b := 290) (j := 0) (x := (nI 4294967295)) (by omega)).trans ((fg_u2ns (f := (fg_u2 (fg_u2 ν3 290 (1 + (4 * (b9.2.2.2.2.2 0))) (nI (14 - 11))) 290 ((1 + (4 * (b9.2.2.2.2.2 0))) + 1) (nI (a.1)))) (a := 290) (k := ((1 + (4 * (b9.2.2.2.2.2 0))) + 2)) (b := 290) (j := 0) (x := (nI (b9.1))) (by omega)).trans ((fg_u2ns (f := (fg_u2 ν3 290 (1 + (4 * (b9.2.2.2.2.2 0))) (nI (14 - 11)))) (a := 290) (k := ((1 + (4 * (b9.2.2.2.2.2 0))) + 1)) (b := 290) (j := 0) (x := (nI (a.1))) (by omega)).trans ((fg_u2ns (f := ν3) (a := 290) (k := (1 + (4 * (b9.2.2.2.2.2 0)))) (b := 290) (j := 0) (x := (nI (14 - 11))) (by omega)).trans (h3.2.2.2.2.2.2.1 0 (by omega)))))) ?_
      refine fg_iconst (fg_ft (pc := 199) tb_Mo_dayLine 119 rfl) ic_1 ?_
      refine fg_iaddN (fg_ft (pc := 200) tb_Mo_dayLine 120 rfl) ?_
      refine fg_iastN (fg_ft (pc := 201) tb_Mo_dayLine 121 rfl) ly_290 (fg_lt ly_290 (by decide)) (by omega) ?_
      show fg_wp _ _ _ _ _ _ _ _ _ (fg_u2 (fg_u2 (fg_u2 (fg_u2 (fg_u2 ν3 290 (1 + (4 * (b9.2.2.2.2.2 0))) (nI (14 - 11))) 290 ((1 + (4 * (b9.2.2.2.2.2 0))) + 1) (nI (a.1))) 290 ((1 + (4 * (b9.2.2.2.2.2 0))) + 2) (nI (b9.1))) 290 ((1 + (4 * (b9.2.2.2.2.2 0))) + 3) (nI 4294967295)) 290 0 (nI ((b9.2.2.2.2.2 0) + 1)), fg_rho R, 304)
      have hm : rz_RZ (fg_u2 (fg_u2 (fg_u2 (fg_u2 (fg_u2 ν3 290 (1 + (4 * (b9.2.2.2.2.2 0))) (nI (14 - 11))) 290 ((1 + (4 * (b9.2.2.2.2.2 0))) + 1) (nI (a.1))) 290 ((1 + (4 * (b9.2.2.2.2.2 0))) + 2) (nI (b9.1))) 290 ((1 + (4 * (b9.2.2.2.2.2 0))) + 3) (nI 4294967295)) 290 0 (nI ((b9.2.2.2.2.2 0) + 1))) b len (rz_dn 14 (rz_dm (pz_K b len) (pz_V b len) (pz_S b len) t.2 14)) := by
        have e9 : rz_dm (pz_K b len) (pz_V b len) (pz_S b len) t.2 14 = (a.1, b9.1, 4294967295, b9.2) := (by
          show rz_dr (pz_K b len) (pz_V b len) (pz_S b len) (rz_nu (pz_K b len) (pz_V b len) (pz_S b len) 0 (4 + 1) t.2) = _
          rw [ha]
          unfold rz_dr
          have h1 : rz_nu (pz_K b len) (pz_V b len) (pz_S b len) 0 10 a.2 = b9 := hb9
          rw [h1])
        rw [e9]
        show rz_RZ _ b len (rz_pd 3 a.1 b9.1 4294967295 b9.2)
        unfold rz_pd
        rw [if_pos (by omega)]
        exact (((((h3).put).put).put).put).put
      have agm : rz_ag μ (fg_u2 (fg_u2 (fg_u2 (fg_u2 (fg_u2 ν3 290 (1 + (4 * (b9.2.2.2.2.2 0))) (nI (14 - 11))) 290 ((1 + (4 * (b9.2.2.2.2.2 0))) + 1) (nI (a.1))) 290 ((1 + (4 * (b9.2.2.2.2.2 0))) + 2) (nI (b9.1))) 290 ((1 + (4 * (b9.2.2.2.2.2 0))) + 3) (nI 4294967295)) 290 0 (nI ((b9.2.2.2.2.2 0) + 1))) := fun a j p q r => (fg_u2ne r).trans ((fg_u2ne r).trans ((fg_u2ne r).trans ((fg_u2ne r).trans ((fg_u2ne r).trans (ag3 a j p q r)))))
      refine fg_aloadn (fg_ft (pc := 202) tb_Mo_dayLine 122 rfl) rfl ?_
      refine fg_callV (fg_ft (pc := 203) tb_Mo_dayLine 123 rfl) cf_Mo_153 (fg_isOf ly_287 rfl (fg_lt ly_287 (by decide))) (as := []) (st := []) rfl rfl (Nat.le_of_ble_eq_true rfl) (Nat.le_refl _) (Nat.le_refl _) (ev_Mo_endsLine hle hb256 hm ?_)
      intro ν5 hg5 h5
      have ag5 := rz_ag_tr agm hg5
      show fg_wp _ _ _ _ _ _ _ _ _ (ν5, fg_rho R, 304)
      exact fg_vret (fg_ft (pc := 206) tb_Mo_dayLine 124 rfl) rfl rfl (hQ _ ag5 h5)
  · refine fg_aloadn (fg_ft (pc := 16) tb_Mo_dayLine 9 rfl) rfl ?_
    refine fg_iconst (fg_ft (pc := 17) tb_Mo_dayLine 10 rfl) ic_3 ?_
    refine fg_iloadn (fg_ft (pc := 18) tb_Mo_dayLine 11 rfl) rfl ?_
    refine fg_callV (fg_ft (pc := 19) tb_Mo_dayLine 12 rfl) cf_Mo_114 (fg_isOf ly_287 rfl (fg_lt ly_287 (by decide))) (as := [.int (nI 3), .int (nI (pz_S b len Z.1))]) (st := []) rfl rfl (Nat.le_of_ble_eq_true rfl) (Nat.le_refl _) (Nat.le_refl _) (ev_Mo_also (kd := 3) (at9 := (pz_S b len Z.1)) hle hb256 h (by decide) (by decide) (by decide) (rz_S_le hle) ?_)
    intro ν6 hg6 h6
    have ag6 := hg6
    show fg_wp _ _ _ _ _ _ _ _ _ (ν6, fg_rho R, 304)
    have hc : rz_RZ ν6 b len (rz_c3 0 30 (pz_S b len Z.1) Z) := by
      unfold rz_c3
      rw [if_pos (by omega)]
      exact h6
    refine fg_aloadn (fg_ft (pc := 22) tb_Mo_dayLine 13 rfl) rfl ?_
    refine fg_bipush (fg_ft (pc := 23) tb_Mo_dayLine 14 rfl) ib_11 ?_
    refine fg_bipush (fg_ft (pc := 25) tb_Mo_dayLine 15 rfl) ib_17 ?_
    refine fg_callV (fg_ft (pc := 27) tb_Mo_dayLine 16 rfl) cf_Mo_135 (fg_isOf ly_287 rfl (fg_lt ly_287 (by decide))) (as := [.int (nI 11), .int (nI 17)]) (st := []) rfl rfl (Nat.le_of_ble_eq_true rfl) (Nat.le_refl _) (Nat.le_refl _) (ev_Mo_takes (lo := 11) (hi := 17) hle hb256 hc (by decide) (by decide) ?_)
    intro ν7 hg7 h7
    have ag7 := rz_ag_tr ag6 hg7
    rw [ht] at h7 ⊢
    show fg_wp _ _ _ _ _ _ _ _ _ (ν7, fg_rho R, 304)
    have hCt : t.2.2.2.2.2 = Z.2.2.2.2 := by rw [← ht, rz_ta_C, rz_c3_C]
    refine fg_top (y := nI 14) (congrArg nI hk) ?_
    refine fg_istoren (fg_ft (pc := 30) tb_Mo_dayLine 17 rfl) (Nat.le_of_ble_eq_true rfl) ?_
    refine fg_iconst (fg_ft (pc := 31) tb_Mo_dayLine 18 rfl) ic_m1 ?_
    refine fg_top (y := nI 4294967295) (by decide) ?_
    refine fg_istoren (fg_ft (pc := 32) tb_Mo_dayLine 19 rfl) (Nat.le_of_ble_eq_true rfl) ?_
    refine fg_iconst (fg_ft (pc := 33) tb_Mo_dayLine 20 rfl) ic_m1 ?_
    refine fg_top (y := nI 4294967295) (by decide) ?_
    refine fg_istore (fg_ft (pc := 34) tb_Mo_dayLine 21 rfl) (Nat.le_of_ble_eq_true rfl) ?_
    refine fg_iconst (fg_ft (pc := 36) tb_Mo_dayLine 22 rfl) ic_m1 ?_
    refine fg_top (y := nI 4294967295) (by decide) ?_
    refine fg_istore (fg_ft (pc := 37) tb_Mo_dayLine 23 rfl) (Nat.le_of_ble_eq_true rfl) ?_
    refine fg_iloadn (fg_ft (pc := 39) tb_Mo_dayLine 24 rfl) rfl ?_
    refine fg_if_leN (tgt := 56) (fg_ft (pc := 40) tb_Mo_dayLine 25 rfl) (by decide) (by decide) (fun c40 => (absurd c40 (by decide))) (fun c40 => ?_)
    refine fg_iloadn (fg_ft (pc := 43) tb_Mo_dayLine 26 rfl) rfl ?_
    refine fg_bipush (fg_ft (pc := 44) tb_Mo_dayLine 27 rfl) ib_17 ?_
    refine fg_icmp_eqN (tgt := 56) (fg_ft (pc := 46) tb_Mo_dayLine 28 rfl) (by decide) (by decide) (by decide) (fun c46 => (absurd c46 (by decide))) (fun c46 => ?_)
    refine fg_aloadn (fg_ft (pc := 49) tb_Mo_dayLine 29 rfl) rfl ?_
    refine fg_iconst (fg_ft (pc := 50) tb_Mo_dayLine 30 rfl) ic_0 ?_
    refine fg_iconst (fg_ft (pc := 51) tb_Mo_dayLine 31 rfl) ic_4 ?_
    refine fg_callV (fg_ft (pc := 52) tb_Mo_dayLine 32 rfl) cf_Mo_121 (fg_isOf ly_287 rfl (fg_lt ly_287 (by decide))) (as := [.int (nI 0), .int (nI 4)]) (st := []) rfl rfl (Nat.le_of_ble_eq_true rfl) (Nat.le_refl _) (Nat.le_refl _) (ev_Mo_numbered (lo := 0) (hi := 4 + 1) hle hb256 h7 (rz_m (by decide) (by decide)) ?_)
    intro ν8 hg8 h8
    have ag8 := rz_ag_tr ag7 hg8
    obtain ⟨a, ha⟩ : ∃ x, (rz_nu (pz_K b len) (pz_V b len) (pz_S b len) 0 (4 + 1) t.2) = x := ⟨_, rfl⟩
    rw [ha] at h8 ⊢
    show fg_wp _ _ _ _ _ _ _ _ _ (ν8, fg_rho R, 304)
    have hab : a.1 ≤ 99 ∨ a.1 = 4294967295 := by rw [← ha]; exact rz_nu_lt
    have hCa : a.2.2.2.2.2 = Z.2.2.2.2 := by rw [← ha, rz_nu_C, hCt]
    refine fg_istoren (fg_ft (pc := 55) tb_Mo_dayLine 33 rfl) (Nat.le_of_ble_eq_true rfl) ?_
    refine fg_iloadn (fg_ft (pc := 56) tb_Mo_dayLine 34 rfl) rfl ?_
    refine fg_bipush (fg_ft (pc := 57) tb_Mo_dayLine 35 rfl) ib_16 ?_
    refine fg_icmp_neN (tgt := 107) (fg_ft (pc := 59) tb_Mo_dayLine 36 rfl) (by decide) (by decide) (by decide) (fun c59 => ?_) (fun c59 => (absurd c59 (by decide)))
    refine fg_iloadn (fg_ft (pc := 107) tb_Mo_dayLine 61 rfl) rfl ?_
    refine fg_if_leN (tgt := 126) (fg_ft (pc := 108) tb_Mo_dayLine 62 rfl) (by decide) (by decide) (fun c108 => (absurd c108 (by decide))) (fun c108 => ?_)
    refine fg_iloadn (fg_ft (pc := 111) tb_Mo_dayLine 63 rfl) rfl ?_
    refine fg_bipush (fg_ft (pc := 112) tb_Mo_dayLine 64 rfl) ib_17 ?_
    refine fg_icmp_eqN (tgt := 126) (fg_ft (pc := 114) tb_Mo_dayLine 65 rfl) (by decide) (by decide) (by decide) (fun c114 => (absurd c114 (by decide))) (fun c114 => ?_)
    refine fg_aloadn (fg_ft (pc := 117) tb_Mo_dayLine 66 rfl) rfl ?_
    refine fg_iconst (fg_ft (pc := 118) tb_Mo_dayLine 67 rfl) ic_0 ?_
    refine fg_bipush (fg_ft (pc := 119) tb_Mo_dayLine 68 rfl) ib_9 ?_
    refine fg_callV (fg_ft (pc := 121) tb_Mo_dayLine 69 rfl) cf_Mo_121 (fg_isOf ly_287 rfl (fg_lt ly_287 (by decide))) (as := [.int (nI 0), .int (nI 9)]) (st := []) rfl rfl (Nat.le_of_ble_eq_true rfl) (Nat.le_refl _) (Nat.le_refl _) (ev_Mo_numbered (lo := 0) (hi := 9 + 1) hle hb256 h8 (rz_m (by decide) (by decide)) ?_)
    intro ν9 hg9 h9
    have ag9 := rz_ag_tr ag8 hg9
    obtain ⟨b9, hb9⟩ : ∃ x, (rz_nu (pz_K b len) (pz_V b len) (pz_S b len) 0 (9 + 1) a.2) = x := ⟨_, rfl⟩
    rw [hb9] at h9 ⊢
    show fg_wp _ _ _ _ _ _ _ _ _ (ν9, fg_rho R, 304)
    refine fg_istore (fg_ft (pc := 124) tb_Mo_dayLine 70 rfl) (Nat.le_of_ble_eq_true rfl) ?_
    have hCf : b9.2.2.2.2.2 = Z.2.2.2.2 := by rw [← hb9, rz_nu_C, hCa]
    have hb1 : b9.2.2.2.2.2 0 ≤ 700 := by rw [hCf]; exact hcnt
    refine fg_aloadn (fg_ft (pc := 126) tb_Mo_dayLine 71 rfl) rfl ?_
    refine fg_getR (fg_ft (pc := 127) tb_Mo_dayLine 72 rfl) ff_Mo_17 ly_287 rfl (fg_lt ly_287 (by decide)) (rh_287_10 R) ?_
    refine fg_iconst (fg_ft (pc := 130) tb_Mo_dayLine 73 rfl) ic_0 ?_
    refine fg_ialdV (v := (nI (b9.2.2.2.2.2 0))) (fg_ft (pc := 131) tb_Mo_dayLine 74 rfl) ly_290 (fg_lt ly_290 (by decide)) (by omega) (h9.2.2.2.2.2.2.1 0 (by omega)) ?_
    refine fg_bipush (fg_ft (pc := 132) tb_Mo_dayLine 75 rfl) ib_30 ?_
    refine fg_icmp_geN (tgt := 192) (fg_ft (pc := 134) tb_Mo_dayLine 76 rfl) (by decide) (by omega) (by decide) (fun c134 => ?_) (fun c134 => ?_)
    · refine fg_aloadn (fg_ft (pc := 192) tb_Mo_dayLine 114 rfl) rfl ?_
      refine fg_getR (fg_ft (pc := 193) tb_Mo_dayLine 115 rfl) ff_Mo_17 ly_287 rfl (fg_lt ly_287 (by decide)) (rh_287_10 R) ?_
      refine fg_iconst (fg_ft (pc := 196) tb_Mo_dayLine 116 rfl) ic_0 ?_
      refine fg_dup2 (fg_ft (pc := 197) tb_Mo_dayLine 117 rfl) rfl rfl ?_
      refine fg_ialdV (v := (nI (b9.2.2.2.2.2 0))) (fg_ft (pc := 198) tb_Mo_dayLine 118 rfl) ly_290 (fg_lt ly_290 (by decide)) (by omega) (h9.2.2.2.2.2.2.1 0 (by omega)) ?_
      refine fg_iconst (fg_ft (pc := 199) tb_Mo_dayLine 119 rfl) ic_1 ?_
      refine fg_iaddN (fg_ft (pc := 200) tb_Mo_dayLine 120 rfl) ?_
      refine fg_iastN (fg_ft (pc := 201) tb_Mo_dayLine 121 rfl) ly_290 (fg_lt ly_290 (by decide)) (by omega) ?_
      show fg_wp _ _ _ _ _ _ _ _ _ (fg_u2 ν9 290 0 (nI ((b9.2.2.2.2.2 0) + 1)), fg_rho R, 304)
      have hm : rz_RZ (fg_u2 ν9 290 0 (nI ((b9.2.2.2.2.2 0) + 1))) b len (rz_dn 14 (rz_dm (pz_K b len) (pz_V b len) (pz_S b len) t.2 14)) := by
        have e9 : rz_dm (pz_K b len) (pz_V b len) (pz_S b len) t.2 14 = (a.1, b9.1, 4294967295, b9.2) := (by
          show rz_dr (pz_K b len) (pz_V b len) (pz_S b len) (rz_nu (pz_K b len) (pz_V b len) (pz_S b len) 0 (4 + 1) t.2) = _
          rw [ha]
          unfold rz_dr
          have h1 : rz_nu (pz_K b len) (pz_V b len) (pz_S b len) 0 10 a.2 = b9 := hb9
          rw [h1])
        rw [e9]
        show rz_RZ _ b len (rz_pd 3 a.1 b9.1 4294967295 b9.2)
        unfold rz_pd
        rw [if_neg (by omega)]
        exact (h9).put
      have agm : rz_ag μ (fg_u2 ν9 290 0 (nI ((b9.2.2.2.2.2 0) + 1))) := fun a j p q r => (fg_u2ne r).trans (ag9 a j p q r)
      refine fg_aloadn (fg_ft (pc := 202) tb_Mo_dayLine 122 rfl) rfl ?_
      refine fg_callV (fg_ft (pc := 203) tb_Mo_dayLine 123 rfl) cf_Mo_153 (fg_isOf ly_287 rfl (fg_lt ly_287 (by decide))) (as := []) (st := []) rfl rfl (Nat.le_of_ble_eq_true rfl) (Nat.le_refl _) (Nat.le_refl _) (ev_Mo_endsLine hle hb256 hm ?_)
      intro ν10 hg10 h10
      have ag10 := rz_ag_tr agm hg10
      show fg_wp _ _ _ _ _ _ _ _ _ (ν10, fg_rho R, 304)
      exact fg_vret (fg_ft (pc := 206) tb_Mo_dayLine 124 rfl) rfl rfl (hQ _ ag10 h10)
    · refine fg_iconst (fg_ft (pc := 137) tb_Mo_dayLine 77 rfl) ic_1 ?_
      refine fg_iconst (fg_ft (pc := 138) tb_Mo_dayLine 78 rfl) ic_4 ?_
      refine fg_aloadn (fg_ft (pc := 139) tb_Mo_dayLine 79 rfl) rfl ?_
      refine fg_getR (fg_ft (pc := 140) tb_Mo_dayLine 80 rfl) ff_Mo_17 ly_287 rfl (fg_lt ly_287 (by decide)) (rh_287_10 R) ?_
      refine fg_iconst (fg_ft (pc := 143) tb_Mo_dayLine 81 rfl) ic_0 ?_
      refine fg_ialdV (v := (nI (b9.2.2.2.2.2 0))) (fg_ft (pc := 144) tb_Mo_dayLine 82 rfl) ly_290 (fg_lt ly_290 (by decide)) (by omega) (h9.2.2.2.2.2.2.1 0 (by omega)) ?_
      refine fg_imulN (fg_ft (pc := 145) tb_Mo_dayLine 83 rfl) ?_
      refine fg_iaddN (fg_ft (pc := 146) tb_Mo_dayLine 84 rfl) ?_
      refine fg_istore (fg_ft (pc := 147) tb_Mo_dayLine 85 rfl) (Nat.le_of_ble_eq_true rfl) ?_
      refine fg_aloadn (fg_ft (pc := 149) tb_Mo_dayLine 86 rfl) rfl ?_
      refine fg_getR (fg_ft (pc := 150) tb_Mo_dayLine 87 rfl) ff_Mo_17 ly_287 rfl (fg_lt ly_287 (by decide)) (rh_287_10 R) ?_
      refine fg_iload (fg_ft (pc := 153) tb_Mo_dayLine 88 rfl) rfl ?_
      refine fg_iloadn (fg_ft (pc := 155) tb_Mo_dayLine 89 rfl) rfl ?_
      refine fg_bipush (fg_ft (pc := 156) tb_Mo_dayLine 90 rfl) ib_11 ?_
      refine fg_isubN (fg_ft (pc := 158) tb_Mo_dayLine 91 rfl) (by omega) ?_
      refine fg_iastN (fg_ft (pc := 159) tb_Mo_dayLine 92 rfl) ly_290 (fg_lt ly_290 (by decide)) (by omega) ?_
      show fg_wp _ _ _ _ _ _ _ _ _ (fg_u2 ν9 290 (1 + (4 * (b9.2.2.2.2.2 0))) (nI (14 - 11)), fg_rho R, 304)
      refine fg_aloadn (fg_ft (pc := 160) tb_Mo_dayLine 93 rfl) rfl ?_
      refine fg_getR (fg_ft (pc := 161) tb_Mo_dayLine 94 rfl) ff_Mo_17 ly_287 rfl (fg_lt ly_287 (by decide)) (rh_287_10 R) ?_
      refine fg_iload (fg_ft (pc := 164) tb_Mo_dayLine 95 rfl) rfl ?_
      refine fg_iconst (fg_ft (pc := 166) tb_Mo_dayLine 96 rfl) ic_1 ?_
      refine fg_iaddN (fg_ft (pc := 167) tb_Mo_dayLine 97 rfl) ?_
      refine fg_iloadn (fg_ft (pc := 168) tb_Mo_dayLine 98 rfl) rfl ?_
      refine fg_iastN (fg_ft (pc := 169) tb_Mo_dayLine 99 rfl) ly_290 (fg_lt ly_290 (by decide)) (by omega) ?_
      show fg_wp _ _ _ _ _ _ _ _ _ (fg_u2 (fg_u2 ν9 290 (1 + (4 * (b9.2.2.2.2.2 0))) (nI (14 - 11))) 290 ((1 + (4 * (b9.2.2.2.2.2 0))) + 1) (nI (a.1)), fg_rho R, 304)
      refine fg_aloadn (fg_ft (pc := 170) tb_Mo_dayLine 100 rfl) rfl ?_
      refine fg_getR (fg_ft (pc := 171) tb_Mo_dayLine 101 rfl) ff_Mo_17 ly_287 rfl (fg_lt ly_287 (by decide)) (rh_287_10 R) ?_
      refine fg_iload (fg_ft (pc := 174) tb_Mo_dayLine 102 rfl) rfl ?_
      refine fg_iconst (fg_ft (pc := 176) tb_Mo_dayLine 103 rfl) ic_2 ?_
      refine fg_iaddN (fg_ft (pc := 177) tb_Mo_dayLine 104 rfl) ?_
      refine fg_iload (fg_ft (pc := 178) tb_Mo_dayLine 105 rfl) rfl ?_
      refine fg_iastN (fg_ft (pc := 180) tb_Mo_dayLine 106 rfl) ly_290 (fg_lt ly_290 (by decide)) (by omega) ?_
      show fg_wp _ _ _ _ _ _ _ _ _ (fg_u2 (fg_u2 (fg_u2 ν9 290 (1 + (4 * (b9.2.2.2.2.2 0))) (nI (14 - 11))) 290 ((1 + (4 * (b9.2.2.2.2.2 0))) + 1) (nI (a.1))) 290 ((1 + (4 * (b9.2.2.2.2.2 0))) + 2) (nI (b9.1)), fg_rho R, 304)
      refine fg_aloadn (fg_ft (pc := 181) tb_Mo_dayLine 107 rfl) rfl ?_
      refine fg_getR (fg_ft (pc := 182) tb_Mo_dayLine 108 rfl) ff_Mo_17 ly_287 rfl (fg_lt ly_287 (by decide)) (rh_287_10 R) ?_
      refine fg_iload (fg_ft (pc := 185) tb_Mo_dayLine 109 rfl) rfl ?_
      refine fg_iconst (fg_ft (pc := 187) tb_Mo_dayLine 110 rfl) ic_3 ?_
      refine fg_iaddN (fg_ft (pc := 188) tb_Mo_dayLine 111 rfl) ?_
      refine fg_iload (fg_ft (pc := 189) tb_Mo_dayLine 112 rfl) rfl ?_
      refine fg_iastN (fg_ft (pc := 191) tb_Mo_dayLine 113 rfl) ly_290 (fg_lt ly_290 (by decide)) (by omega) ?_
      show fg_wp _ _ _ _ _ _ _ _ _ (fg_u2 (fg_u2 (fg_u2 (fg_u2 ν9 290 (1 + (4 * (b9.2.2.2.2.2 0))) (nI (14 - 11))) 290 ((1 + (4 * (b9.2.2.2.2.2 0))) + 1) (nI (a.1))) 290 ((1 + (4 * (b9.2.2.2.2.2 0))) + 2) (nI (b9.1))) 290 ((1 + (4 * (b9.2.2.2.2.2 0))) + 3) (nI 4294967295), fg_rho R, 304)
      refine fg_aloadn (fg_ft (pc := 192) tb_Mo_dayLine 114 rfl) rfl ?_
      refine fg_getR (fg_ft (pc := 193) tb_Mo_dayLine 115 rfl) ff_Mo_17 ly_287 rfl (fg_lt ly_287 (by decide)) (rh_287_10 R) ?_
      refine fg_iconst (fg_ft (pc := 196) tb_Mo_dayLine 116 rfl) ic_0 ?_
      refine fg_dup2 (fg_ft (pc := 197) tb_Mo_dayLine 117 rfl) rfl rfl ?_
      refine fg_ialdV (v := (nI (b9.2.2.2.2.2 0))) (fg_ft (pc := 198) tb_Mo_dayLine 118 rfl) ly_290 (fg_lt ly_290 (by decide)) (by omega) ((fg_u2ns (f := (fg_u2 (fg_u2 (fg_u2 ν9 290 (1 + (4 * (b9.2.2.2.2.2 0))) (nI (14 - 11))) 290 ((1 + (4 * (b9.2.2.2.2.2 0))) + 1) (nI (a.1))) 290 ((1 + (4 * (b9.2.2.2.2.2 0))) + 2) (nI (b9.1)))) (a := 290) (k := ((1 + (4 * (b9.2.2.2.2.2 0))) + 3)) (b := 290) (j := 0) (x := (nI 4294967295)) (by omega)).trans ((fg_u2ns (f := (fg_u2 (fg_u2 ν9 290 (1 + (4 * (b9.2.2.2.2.2 0))) (nI (14 - 11))) 290 ((1 + (4 * (b9.2.2.2.2.2 0))) + 1) (nI (a.1)))) (a := 290) (k := ((1 + (4 * (b9.2.2.2.2.2 0))) + 2)) (b := 290) (j := 0) (x := (nI (b9.1))) (by omega)).trans ((fg_u2ns (f := (fg_u2 ν9 290 (1 + (4 * (b9.2.2.2.2.2 0))) (nI (14 - 11)))) (a := 290) (k := ((1 + (4 * (b9.2.2.2.2.2 0))) + 1)) (b := 290) (j := 0) (x := (nI (a.1))) (by omega)).trans ((fg_u2ns (f := ν9) (a := 290) (k := (1 + (4 * (b9.2.2.2.2.2 0)))) (b := 290) (j := 0) (x := (nI (14 - 11))) (by omega)).trans (h9.2.2.2.2.2.2.1 0 (by omega)))))) ?_
      refine fg_iconst (fg_ft (pc := 199) tb_Mo_dayLine 119 rfl) ic_1 ?_
      refine fg_iaddN (fg_ft (pc := 200) tb_Mo_dayLine 120 rfl) ?_
      refine fg_iastN (fg_ft (pc := 201) tb_Mo_dayLine 121 rfl) ly_290 (fg_lt ly_290 (by decide)) (by omega) ?_
      show fg_wp _ _ _ _ _ _ _ _ _ (fg_u2 (fg_u2 (fg_u2 (fg_u2 (fg_u2 ν9 290 (1 + (4 * (b9.2.2.2.2.2 0))) (nI (14 - 11))) 290 ((1 + (4 * (b9.2.2.2.2.2 0))) + 1) (nI (a.1))) 290 ((1 + (4 * (b9.2.2.2.2.2 0))) + 2) (nI (b9.1))) 290 ((1 + (4 * (b9.2.2.2.2.2 0))) + 3) (nI 4294967295)) 290 0 (nI ((b9.2.2.2.2.2 0) + 1)), fg_rho R, 304)
      have hm : rz_RZ (fg_u2 (fg_u2 (fg_u2 (fg_u2 (fg_u2 ν9 290 (1 + (4 * (b9.2.2.2.2.2 0))) (nI (14 - 11))) 290 ((1 + (4 * (b9.2.2.2.2.2 0))) + 1) (nI (a.1))) 290 ((1 + (4 * (b9.2.2.2.2.2 0))) + 2) (nI (b9.1))) 290 ((1 + (4 * (b9.2.2.2.2.2 0))) + 3) (nI 4294967295)) 290 0 (nI ((b9.2.2.2.2.2 0) + 1))) b len (rz_dn 14 (rz_dm (pz_K b len) (pz_V b len) (pz_S b len) t.2 14)) := by
        have e9 : rz_dm (pz_K b len) (pz_V b len) (pz_S b len) t.2 14 = (a.1, b9.1, 4294967295, b9.2) := (by
          show rz_dr (pz_K b len) (pz_V b len) (pz_S b len) (rz_nu (pz_K b len) (pz_V b len) (pz_S b len) 0 (4 + 1) t.2) = _
          rw [ha]
          unfold rz_dr
          have h1 : rz_nu (pz_K b len) (pz_V b len) (pz_S b len) 0 10 a.2 = b9 := hb9
          rw [h1])
        rw [e9]
        show rz_RZ _ b len (rz_pd 3 a.1 b9.1 4294967295 b9.2)
        unfold rz_pd
        rw [if_pos (by omega)]
        exact (((((h9).put).put).put).put).put
      have agm : rz_ag μ (fg_u2 (fg_u2 (fg_u2 (fg_u2 (fg_u2 ν9 290 (1 + (4 * (b9.2.2.2.2.2 0))) (nI (14 - 11))) 290 ((1 + (4 * (b9.2.2.2.2.2 0))) + 1) (nI (a.1))) 290 ((1 + (4 * (b9.2.2.2.2.2 0))) + 2) (nI (b9.1))) 290 ((1 + (4 * (b9.2.2.2.2.2 0))) + 3) (nI 4294967295)) 290 0 (nI ((b9.2.2.2.2.2 0) + 1))) := fun a j p q r => (fg_u2ne r).trans ((fg_u2ne r).trans ((fg_u2ne r).trans ((fg_u2ne r).trans ((fg_u2ne r).trans (ag9 a j p q r)))))
      refine fg_aloadn (fg_ft (pc := 202) tb_Mo_dayLine 122 rfl) rfl ?_
      refine fg_callV (fg_ft (pc := 203) tb_Mo_dayLine 123 rfl) cf_Mo_153 (fg_isOf ly_287 rfl (fg_lt ly_287 (by decide))) (as := []) (st := []) rfl rfl (Nat.le_of_ble_eq_true rfl) (Nat.le_refl _) (Nat.le_refl _) (ev_Mo_endsLine hle hb256 hm ?_)
      intro ν11 hg11 h11
      have ag11 := rz_ag_tr agm hg11
      show fg_wp _ _ _ _ _ _ _ _ _ (ν11, fg_rho R, 304)
      exact fg_vret (fg_ft (pc := 206) tb_Mo_dayLine 124 rfl) rfl rfl (hQ _ ag11 h11)
theorem ev_Mo_dayLine_15 {E : fg_E} {d : Nat} {μ : Nat → Nat → Int32} {R : fg_T4} {Q : Option Value → fg_M → Prop} {b : Nat → Nat} {len : Nat} {Z : rz_Z} (hle : len ≤ 600) (hb256 : ∀ j, b j < 256) (h : rz_RZ μ b len Z) (hcnt : Z.2.2.2.2 0 ≤ 700) {t : Nat × rz_Z} (ht : rz_ta (pz_K b len) (pz_V b len) (pz_S b len) 11 17 (rz_c3 0 30 (pz_S b len Z.1) Z) = t) (hk : t.1 = 15) (hQ : ∀ μ' : Nat → Nat → Int32, rz_ag μ μ' → rz_RZ μ' b len (rz_el (pz_K b len) (pz_S b len) (rz_dn 15 (rz_dm (pz_K b len) (pz_V b len) (pz_S b len) t.2 15))) → Q none (μ', fg_rho R, 304)) : fg_Ev E yy_Mo_dayLine (d + 9) [.ref 287] (μ, fg_rho R, 304) 304 Q := by
  refine fg_intro (by decide +kernel) (Nat.le_of_ble_eq_true rfl) (fg_okAs rfl) (Nat.le_refl _) ?_
  refine fg_aloadn (fg_ft (pc := 0) tb_Mo_dayLine 0 rfl) rfl ?_
  refine fg_getV (v := (nI (pz_S b len Z.1))) (fg_ft (pc := 1) tb_Mo_dayLine 1 rfl) ff_Mo_81 ly_287 rfl (fg_lt ly_287 (by decide)) h.2.1.2.1 ?_
  refine fg_istoren (fg_ft (pc := 4) tb_Mo_dayLine 2 rfl) (Nat.le_of_ble_eq_true rfl) ?_
  refine fg_aloadn (fg_ft (pc := 5) tb_Mo_dayLine 3 rfl) rfl ?_
  refine fg_getR (fg_ft (pc := 6) tb_Mo_dayLine 4 rfl) ff_Mo_17 ly_287 rfl (fg_lt ly_287 (by decide)) (rh_287_10 R) ?_
  refine fg_iconst (fg_ft (pc := 9) tb_Mo_dayLine 5 rfl) ic_0 ?_
  refine fg_ialdV (v := (nI (Z.2.2.2.2 0))) (fg_ft (pc := 10) tb_Mo_dayLine 6 rfl) ly_290 (fg_lt ly_290 (by decide)) (by omega) (h.2.2.2.2.2.2.1 0 (by omega)) ?_
  have hb0 := hcnt
  refine fg_bipush (fg_ft (pc := 11) tb_Mo_dayLine 7 rfl) ib_30 ?_
  refine fg_icmp_ltN (tgt := 22) (fg_ft (pc := 13) tb_Mo_dayLine 8 rfl) (by decide) (by omega) (by decide) (fun c13 => ?_) (fun c13 => ?_)
  · have hc : rz_RZ μ b len (rz_c3 0 30 (pz_S b len Z.1) Z) := by
      unfold rz_c3
      rw [if_neg (by omega)]
      exact h
    refine fg_aloadn (fg_ft (pc := 22) tb_Mo_dayLine 13 rfl) rfl ?_
    refine fg_bipush (fg_ft (pc := 23) tb_Mo_dayLine 14 rfl) ib_11 ?_
    refine fg_bipush (fg_ft (pc := 25) tb_Mo_dayLine 15 rfl) ib_17 ?_
    refine fg_callV (fg_ft (pc := 27) tb_Mo_dayLine 16 rfl) cf_Mo_135 (fg_isOf ly_287 rfl (fg_lt ly_287 (by decide))) (as := [.int (nI 11), .int (nI 17)]) (st := []) rfl rfl (Nat.le_of_ble_eq_true rfl) (Nat.le_refl _) (Nat.le_refl _) (ev_Mo_takes (lo := 11) (hi := 17) hle hb256 hc (by decide) (by decide) ?_)
    intro ν1 hg1 h1
    have ag1 := hg1
    rw [ht] at h1 ⊢
    show fg_wp _ _ _ _ _ _ _ _ _ (ν1, fg_rho R, 304)
    have hCt : t.2.2.2.2.2 = Z.2.2.2.2 := by rw [← ht, rz_ta_C, rz_c3_C]
    refine fg_top (y := nI 15) (congrArg nI hk) ?_
    refine fg_istoren (fg_ft (pc := 30) tb_Mo_dayLine 17 rfl) (Nat.le_of_ble_eq_true rfl) ?_
    refine fg_iconst (fg_ft (pc := 31) tb_Mo_dayLine 18 rfl) ic_m1 ?_
    refine fg_top (y := nI 4294967295) (by decide) ?_
    refine fg_istoren (fg_ft (pc := 32) tb_Mo_dayLine 19 rfl) (Nat.le_of_ble_eq_true rfl) ?_
    refine fg_iconst (fg_ft (pc := 33) tb_Mo_dayLine 20 rfl) ic_m1 ?_
    refine fg_top (y := nI 4294967295) (by decide) ?_
    refine fg_istore (fg_ft (pc := 34) tb_Mo_dayLine 21 rfl) (Nat.le_of_ble_eq_true rfl) ?_
    refine fg_iconst (fg_ft (pc := 36) tb_Mo_dayLine 22 rfl) ic_m1 ?_
    refine fg_top (y := nI 4294967295) (by decide) ?_
    refine fg_istore (fg_ft (pc := 37) tb_Mo_dayLine 23 rfl) (Nat.le_of_ble_eq_true rfl) ?_
    refine fg_iloadn (fg_ft (pc := 39) tb_Mo_dayLine 24 rfl) rfl ?_
    refine fg_if_leN (tgt := 56) (fg_ft (pc := 40) tb_Mo_dayLine 25 rfl) (by decide) (by decide) (fun c40 => (absurd c40 (by decide))) (fun c40 => ?_)
    refine fg_iloadn (fg_ft (pc := 43) tb_Mo_dayLine 26 rfl) rfl ?_
    refine fg_bipush (fg_ft (pc := 44) tb_Mo_dayLine 27 rfl) ib_17 ?_
    refine fg_icmp_eqN (tgt := 56) (fg_ft (pc := 46) tb_Mo_dayLine 28 rfl) (by decide) (by decide) (by decide) (fun c46 => (absurd c46 (by decide))) (fun c46 => ?_)
    refine fg_aloadn (fg_ft (pc := 49) tb_Mo_dayLine 29 rfl) rfl ?_
    refine fg_iconst (fg_ft (pc := 50) tb_Mo_dayLine 30 rfl) ic_0 ?_
    refine fg_iconst (fg_ft (pc := 51) tb_Mo_dayLine 31 rfl) ic_4 ?_
    refine fg_callV (fg_ft (pc := 52) tb_Mo_dayLine 32 rfl) cf_Mo_121 (fg_isOf ly_287 rfl (fg_lt ly_287 (by decide))) (as := [.int (nI 0), .int (nI 4)]) (st := []) rfl rfl (Nat.le_of_ble_eq_true rfl) (Nat.le_refl _) (Nat.le_refl _) (ev_Mo_numbered (lo := 0) (hi := 4 + 1) hle hb256 h1 (rz_m (by decide) (by decide)) ?_)
    intro ν2 hg2 h2
    have ag2 := rz_ag_tr ag1 hg2
    obtain ⟨a, ha⟩ : ∃ x, (rz_nu (pz_K b len) (pz_V b len) (pz_S b len) 0 (4 + 1) t.2) = x := ⟨_, rfl⟩
    rw [ha] at h2 ⊢
    show fg_wp _ _ _ _ _ _ _ _ _ (ν2, fg_rho R, 304)
    have hab : a.1 ≤ 99 ∨ a.1 = 4294967295 := by rw [← ha]; exact rz_nu_lt
    have hCa : a.2.2.2.2.2 = Z.2.2.2.2 := by rw [← ha, rz_nu_C, hCt]
    refine fg_istoren (fg_ft (pc := 55) tb_Mo_dayLine 33 rfl) (Nat.le_of_ble_eq_true rfl) ?_
    refine fg_iloadn (fg_ft (pc := 56) tb_Mo_dayLine 34 rfl) rfl ?_
    refine fg_bipush (fg_ft (pc := 57) tb_Mo_dayLine 35 rfl) ib_16 ?_
    refine fg_icmp_neN (tgt := 107) (fg_ft (pc := 59) tb_Mo_dayLine 36 rfl) (by decide) (by decide) (by decide) (fun c59 => ?_) (fun c59 => (absurd c59 (by decide)))
    refine fg_iloadn (fg_ft (pc := 107) tb_Mo_dayLine 61 rfl) rfl ?_
    refine fg_if_leN (tgt := 126) (fg_ft (pc := 108) tb_Mo_dayLine 62 rfl) (by decide) (by decide) (fun c108 => (absurd c108 (by decide))) (fun c108 => ?_)
    refine fg_iloadn (fg_ft (pc := 111) tb_Mo_dayLine 63 rfl) rfl ?_
    refine fg_bipush (fg_ft (pc := 112) tb_Mo_dayLine 64 rfl) ib_17 ?_
    refine fg_icmp_eqN (tgt := 126) (fg_ft (pc := 114) tb_Mo_dayLine 65 rfl) (by decide) (by decide) (by decide) (fun c114 => (absurd c114 (by decide))) (fun c114 => ?_)
    refine fg_aloadn (fg_ft (pc := 117) tb_Mo_dayLine 66 rfl) rfl ?_
    refine fg_iconst (fg_ft (pc := 118) tb_Mo_dayLine 67 rfl) ic_0 ?_
    refine fg_bipush (fg_ft (pc := 119) tb_Mo_dayLine 68 rfl) ib_9 ?_
    refine fg_callV (fg_ft (pc := 121) tb_Mo_dayLine 69 rfl) cf_Mo_121 (fg_isOf ly_287 rfl (fg_lt ly_287 (by decide))) (as := [.int (nI 0), .int (nI 9)]) (st := []) rfl rfl (Nat.le_of_ble_eq_true rfl) (Nat.le_refl _) (Nat.le_refl _) (ev_Mo_numbered (lo := 0) (hi := 9 + 1) hle hb256 h2 (rz_m (by decide) (by decide)) ?_)
    intro ν3 hg3 h3
    have ag3 := rz_ag_tr ag2 hg3
    obtain ⟨b9, hb9⟩ : ∃ x, (rz_nu (pz_K b len) (pz_V b len) (pz_S b len) 0 (9 + 1) a.2) = x := ⟨_, rfl⟩
    rw [hb9] at h3 ⊢
    show fg_wp _ _ _ _ _ _ _ _ _ (ν3, fg_rho R, 304)
    refine fg_istore (fg_ft (pc := 124) tb_Mo_dayLine 70 rfl) (Nat.le_of_ble_eq_true rfl) ?_
    have hCf : b9.2.2.2.2.2 = Z.2.2.2.2 := by rw [← hb9, rz_nu_C, hCa]
    have hb1 : b9.2.2.2.2.2 0 ≤ 700 := by rw [hCf]; exact hcnt
    refine fg_aloadn (fg_ft (pc := 126) tb_Mo_dayLine 71 rfl) rfl ?_
    refine fg_getR (fg_ft (pc := 127) tb_Mo_dayLine 72 rfl) ff_Mo_17 ly_287 rfl (fg_lt ly_287 (by decide)) (rh_287_10 R) ?_
    refine fg_iconst (fg_ft (pc := 130) tb_Mo_dayLine 73 rfl) ic_0 ?_
    refine fg_ialdV (v := (nI (b9.2.2.2.2.2 0))) (fg_ft (pc := 131) tb_Mo_dayLine 74 rfl) ly_290 (fg_lt ly_290 (by decide)) (by omega) (h3.2.2.2.2.2.2.1 0 (by omega)) ?_
    refine fg_bipush (fg_ft (pc := 132) tb_Mo_dayLine 75 rfl) ib_30 ?_
    refine fg_icmp_geN (tgt := 192) (fg_ft (pc := 134) tb_Mo_dayLine 76 rfl) (by decide) (by omega) (by decide) (fun c134 => ?_) (fun c134 => ?_)
    · refine fg_aloadn (fg_ft (pc := 192) tb_Mo_dayLine 114 rfl) rfl ?_
      refine fg_getR (fg_ft (pc := 193) tb_Mo_dayLine 115 rfl) ff_Mo_17 ly_287 rfl (fg_lt ly_287 (by decide)) (rh_287_10 R) ?_
      refine fg_iconst (fg_ft (pc := 196) tb_Mo_dayLine 116 rfl) ic_0 ?_
      refine fg_dup2 (fg_ft (pc := 197) tb_Mo_dayLine 117 rfl) rfl rfl ?_
      refine fg_ialdV (v := (nI (b9.2.2.2.2.2 0))) (fg_ft (pc := 198) tb_Mo_dayLine 118 rfl) ly_290 (fg_lt ly_290 (by decide)) (by omega) (h3.2.2.2.2.2.2.1 0 (by omega)) ?_
      refine fg_iconst (fg_ft (pc := 199) tb_Mo_dayLine 119 rfl) ic_1 ?_
      refine fg_iaddN (fg_ft (pc := 200) tb_Mo_dayLine 120 rfl) ?_
      refine fg_iastN (fg_ft (pc := 201) tb_Mo_dayLine 121 rfl) ly_290 (fg_lt ly_290 (by decide)) (by omega) ?_
      show fg_wp _ _ _ _ _ _ _ _ _ (fg_u2 ν3 290 0 (nI ((b9.2.2.2.2.2 0) + 1)), fg_rho R, 304)
      have hm : rz_RZ (fg_u2 ν3 290 0 (nI ((b9.2.2.2.2.2 0) + 1))) b len (rz_dn 15 (rz_dm (pz_K b len) (pz_V b len) (pz_S b len) t.2 15)) := by
        have e9 : rz_dm (pz_K b len) (pz_V b len) (pz_S b len) t.2 15 = (a.1, b9.1, 4294967295, b9.2) := (by
          show rz_dr (pz_K b len) (pz_V b len) (pz_S b len) (rz_nu (pz_K b len) (pz_V b len) (pz_S b len) 0 (4 + 1) t.2) = _
          rw [ha]
          unfold rz_dr
          have h1 : rz_nu (pz_K b len) (pz_V b len) (pz_S b len) 0 10 a.2 = b9 := hb9
          rw [h1])
        rw [e9]
        show rz_RZ _ b len (rz_pd 4 a.1 b9.1 4294967295 b9.2)
        unfold rz_pd
        rw [if_neg (by omega)]
        exact (h3).put
      have agm : rz_ag μ (fg_u2 ν3 290 0 (nI ((b9.2.2.2.2.2 0) + 1))) := fun a j p q r => (fg_u2ne r).trans (ag3 a j p q r)
      refine fg_aloadn (fg_ft (pc := 202) tb_Mo_dayLine 122 rfl) rfl ?_
      refine fg_callV (fg_ft (pc := 203) tb_Mo_dayLine 123 rfl) cf_Mo_153 (fg_isOf ly_287 rfl (fg_lt ly_287 (by decide))) (as := []) (st := []) rfl rfl (Nat.le_of_ble_eq_true rfl) (Nat.le_refl _) (Nat.le_refl _) (ev_Mo_endsLine hle hb256 hm ?_)
      intro ν4 hg4 h4
      have ag4 := rz_ag_tr agm hg4
      show fg_wp _ _ _ _ _ _ _ _ _ (ν4, fg_rho R, 304)
      exact fg_vret (fg_ft (pc := 206) tb_Mo_dayLine 124 rfl) rfl rfl (hQ _ ag4 h4)
    · refine fg_iconst (fg_ft (pc := 137) tb_Mo_dayLine 77 rfl) ic_1 ?_
      refine fg_iconst (fg_ft (pc := 138) tb_Mo_dayLine 78 rfl) ic_4 ?_
      refine fg_aloadn (fg_ft (pc := 139) tb_Mo_dayLine 79 rfl) rfl ?_
      refine fg_getR (fg_ft (pc := 140) tb_Mo_dayLine 80 rfl) ff_Mo_17 ly_287 rfl (fg_lt ly_287 (by decide)) (rh_287_10 R) ?_
      refine fg_iconst (fg_ft (pc := 143) tb_Mo_dayLine 81 rfl) ic_0 ?_
      refine fg_ialdV (v := (nI (b9.2.2.2.2.2 0))) (fg_ft (pc := 144) tb_Mo_dayLine 82 rfl) ly_290 (fg_lt ly_290 (by decide)) (by omega) (h3.2.2.2.2.2.2.1 0 (by omega)) ?_
      refine fg_imulN (fg_ft (pc := 145) tb_Mo_dayLine 83 rfl) ?_
      refine fg_iaddN (fg_ft (pc := 146) tb_Mo_dayLine 84 rfl) ?_
      refine fg_istore (fg_ft (pc := 147) tb_Mo_dayLine 85 rfl) (Nat.le_of_ble_eq_true rfl) ?_
      refine fg_aloadn (fg_ft (pc := 149) tb_Mo_dayLine 86 rfl) rfl ?_
      refine fg_getR (fg_ft (pc := 150) tb_Mo_dayLine 87 rfl) ff_Mo_17 ly_287 rfl (fg_lt ly_287 (by decide)) (rh_287_10 R) ?_
      refine fg_iload (fg_ft (pc := 153) tb_Mo_dayLine 88 rfl) rfl ?_
      refine fg_iloadn (fg_ft (pc := 155) tb_Mo_dayLine 89 rfl) rfl ?_
      refine fg_bipush (fg_ft (pc := 156) tb_Mo_dayLine 90 rfl) ib_11 ?_
      refine fg_isubN (fg_ft (pc := 158) tb_Mo_dayLine 91 rfl) (by omega) ?_
      refine fg_iastN (fg_ft (pc := 159) tb_Mo_dayLine 92 rfl) ly_290 (fg_lt ly_290 (by decide)) (by omega) ?_
      show fg_wp _ _ _ _ _ _ _ _ _ (fg_u2 ν3 290 (1 + (4 * (b9.2.2.2.2.2 0))) (nI (15 - 11)), fg_rho R, 304)
      refine fg_aloadn (fg_ft (pc := 160) tb_Mo_dayLine 93 rfl) rfl ?_
      refine fg_getR (fg_ft (pc := 161) tb_Mo_dayLine 94 rfl) ff_Mo_17 ly_287 rfl (fg_lt ly_287 (by decide)) (rh_287_10 R) ?_
      refine fg_iload (fg_ft (pc := 164) tb_Mo_dayLine 95 rfl) rfl ?_
      refine fg_iconst (fg_ft (pc := 166) tb_Mo_dayLine 96 rfl) ic_1 ?_
      refine fg_iaddN (fg_ft (pc := 167) tb_Mo_dayLine 97 rfl) ?_
      refine fg_iloadn (fg_ft (pc := 168) tb_Mo_dayLine 98 rfl) rfl ?_
      refine fg_iastN (fg_ft (pc := 169) tb_Mo_dayLine 99 rfl) ly_290 (fg_lt ly_290 (by decide)) (by omega) ?_
      show fg_wp _ _ _ _ _ _ _ _ _ (fg_u2 (fg_u2 ν3 290 (1 + (4 * (b9.2.2.2.2.2 0))) (nI (15 - 11))) 290 ((1 + (4 * (b9.2.2.2.2.2 0))) + 1) (nI (a.1)), fg_rho R, 304)
      refine fg_aloadn (fg_ft (pc := 170) tb_Mo_dayLine 100 rfl) rfl ?_
      refine fg_getR (fg_ft (pc := 171) tb_Mo_dayLine 101 rfl) ff_Mo_17 ly_287 rfl (fg_lt ly_287 (by decide)) (rh_287_10 R) ?_
      refine fg_iload (fg_ft (pc := 174) tb_Mo_dayLine 102 rfl) rfl ?_
      refine fg_iconst (fg_ft (pc := 176) tb_Mo_dayLine 103 rfl) ic_2 ?_
      refine fg_iaddN (fg_ft (pc := 177) tb_Mo_dayLine 104 rfl) ?_
      refine fg_iload (fg_ft (pc := 178) tb_Mo_dayLine 105 rfl) rfl ?_
      refine fg_iastN (fg_ft (pc := 180) tb_Mo_dayLine 106 rfl) ly_290 (fg_lt ly_290 (by decide)) (by omega) ?_
      show fg_wp _ _ _ _ _ _ _ _ _ (fg_u2 (fg_u2 (fg_u2 ν3 290 (1 + (4 * (b9.2.2.2.2.2 0))) (nI (15 - 11))) 290 ((1 + (4 * (b9.2.2.2.2.2 0))) + 1) (nI (a.1))) 290 ((1 + (4 * (b9.2.2.2.2.2 0))) + 2) (nI (b9.1)), fg_rho R, 304)
      refine fg_aloadn (fg_ft (pc := 181) tb_Mo_dayLine 107 rfl) rfl ?_
      refine fg_getR (fg_ft (pc := 182) tb_Mo_dayLine 108 rfl) ff_Mo_17 ly_287 rfl (fg_lt ly_287 (by decide)) (rh_287_10 R) ?_
      refine fg_iload (fg_ft (pc := 185) tb_Mo_dayLine 109 rfl) rfl ?_
      refine fg_iconst (fg_ft (pc := 187) tb_Mo_dayLine 110 rfl) ic_3 ?_
      refine fg_iaddN (fg_ft (pc := 188) tb_Mo_dayLine 111 rfl) ?_
      refine fg_iload (fg_ft (pc := 189) tb_Mo_dayLine 112 rfl) rfl ?_
      refine fg_iastN (fg_ft (pc := 191) tb_Mo_dayLine 113 rfl) ly_290 (fg_lt ly_290 (by decide)) (by omega) ?_
      show fg_wp _ _ _ _ _ _ _ _ _ (fg_u2 (fg_u2 (fg_u2 (fg_u2 ν3 290 (1 + (4 * (b9.2.2.2.2.2 0))) (nI (15 - 11))) 290 ((1 + (4 * (b9.2.2.2.2.2 0))) + 1) (nI (a.1))) 290 ((1 + (4 * (b9.2.2.2.2.2 0))) + 2) (nI (b9.1))) 290 ((1 + (4 * (b9.2.2.2.2.2 0))) + 3) (nI 4294967295), fg_rho R, 304)
      refine fg_aloadn (fg_ft (pc := 192) tb_Mo_dayLine 114 rfl) rfl ?_
      refine fg_getR (fg_ft (pc := 193) tb_Mo_dayLine 115 rfl) ff_Mo_17 ly_287 rfl (fg_lt ly_287 (by decide)) (rh_287_10 R) ?_
      refine fg_iconst (fg_ft (pc := 196) tb_Mo_dayLine 116 rfl) ic_0 ?_
      refine fg_dup2 (fg_ft (pc := 197) tb_Mo_dayLine 117 rfl) rfl rfl ?_
      refine fg_ialdV (v := (nI (b9.2.2.2.2.2 0))) (fg_ft (pc := 198) tb_Mo_dayLine 118 rfl) ly_290 (fg_lt ly_290 (by decide)) (by omega) ((fg_u2ns (f := (fg_u2 (fg_u2 (fg_u2 ν3 290 (1 + (4 * (b9.2.2.2.2.2 0))) (nI (15 - 11))) 290 ((1 + (4 * (b9.2.2.2.2.2 0))) + 1) (nI (a.1))) 290 ((1 + (4 * (b9.2.2.2.2.2 0))) + 2) (nI (b9.1)))) (a := 290) (k := ((1 + (4 * (b9.2.2.2.2.2 0))) + 3)) (b := 290) (j := 0) (x := (nI 4294967295)) (by omega)).trans ((fg_u2ns (f := (fg_u2 (fg_u2 ν3 290 (1 + (4 * (b9.2.2.2.2.2 0))) (nI (15 - 11))) 290 ((1 + (4 * (b9.2.2.2.2.2 0))) + 1) (nI (a.1)))) (a := 290) (k := ((1 + (4 * (b9.2.2.2.2.2 0))) + 2)) (b := 290) (j := 0) (x := (nI (b9.1))) (by omega)).trans ((fg_u2ns (f := (fg_u2 ν3 290 (1 + (4 * (b9.2.2.2.2.2 0))) (nI (15 - 11)))) (a := 290) (k := ((1 + (4 * (b9.2.2.2.2.2 0))) + 1)) (b := 290) (j := 0) (x := (nI (a.1))) (by omega)).trans ((fg_u2ns (f := ν3) (a := 290) (k := (1 + (4 * (b9.2.2.2.2.2 0)))) (b := 290) (j := 0) (x := (nI (15 - 11))) (by omega)).trans (h3.2.2.2.2.2.2.1 0 (by omega)))))) ?_
      refine fg_iconst (fg_ft (pc := 199) tb_Mo_dayLine 119 rfl) ic_1 ?_
      refine fg_iaddN (fg_ft (pc := 200) tb_Mo_dayLine 120 rfl) ?_
      refine fg_iastN (fg_ft (pc := 201) tb_Mo_dayLine 121 rfl) ly_290 (fg_lt ly_290 (by decide)) (by omega) ?_
      show fg_wp _ _ _ _ _ _ _ _ _ (fg_u2 (fg_u2 (fg_u2 (fg_u2 (fg_u2 ν3 290 (1 + (4 * (b9.2.2.2.2.2 0))) (nI (15 - 11))) 290 ((1 + (4 * (b9.2.2.2.2.2 0))) + 1) (nI (a.1))) 290 ((1 + (4 * (b9.2.2.2.2.2 0))) + 2) (nI (b9.1))) 290 ((1 + (4 * (b9.2.2.2.2.2 0))) + 3) (nI 4294967295)) 290 0 (nI ((b9.2.2.2.2.2 0) + 1)), fg_rho R, 304)
      have hm : rz_RZ (fg_u2 (fg_u2 (fg_u2 (fg_u2 (fg_u2 ν3 290 (1 + (4 * (b9.2.2.2.2.2 0))) (nI (15 - 11))) 290 ((1 + (4 * (b9.2.2.2.2.2 0))) + 1) (nI (a.1))) 290 ((1 + (4 * (b9.2.2.2.2.2 0))) + 2) (nI (b9.1))) 290 ((1 + (4 * (b9.2.2.2.2.2 0))) + 3) (nI 4294967295)) 290 0 (nI ((b9.2.2.2.2.2 0) + 1))) b len (rz_dn 15 (rz_dm (pz_K b len) (pz_V b len) (pz_S b len) t.2 15)) := by
        have e9 : rz_dm (pz_K b len) (pz_V b len) (pz_S b len) t.2 15 = (a.1, b9.1, 4294967295, b9.2) := (by
          show rz_dr (pz_K b len) (pz_V b len) (pz_S b len) (rz_nu (pz_K b len) (pz_V b len) (pz_S b len) 0 (4 + 1) t.2) = _
          rw [ha]
          unfold rz_dr
          have h1 : rz_nu (pz_K b len) (pz_V b len) (pz_S b len) 0 10 a.2 = b9 := hb9
          rw [h1])
        rw [e9]
        show rz_RZ _ b len (rz_pd 4 a.1 b9.1 4294967295 b9.2)
        unfold rz_pd
        rw [if_pos (by omega)]
        exact (((((h3).put).put).put).put).put
      have agm : rz_ag μ (fg_u2 (fg_u2 (fg_u2 (fg_u2 (fg_u2 ν3 290 (1 + (4 * (b9.2.2.2.2.2 0))) (nI (15 - 11))) 290 ((1 + (4 * (b9.2.2.2.2.2 0))) + 1) (nI (a.1))) 290 ((1 + (4 * (b9.2.2.2.2.2 0))) + 2) (nI (b9.1))) 290 ((1 + (4 * (b9.2.2.2.2.2 0))) + 3) (nI 4294967295)) 290 0 (nI ((b9.2.2.2.2.2 0) + 1))) := fun a j p q r => (fg_u2ne r).trans ((fg_u2ne r).trans ((fg_u2ne r).trans ((fg_u2ne r).trans ((fg_u2ne r).trans (ag3 a j p q r)))))
      refine fg_aloadn (fg_ft (pc := 202) tb_Mo_dayLine 122 rfl) rfl ?_
      refine fg_callV (fg_ft (pc := 203) tb_Mo_dayLine 123 rfl) cf_Mo_153 (fg_isOf ly_287 rfl (fg_lt ly_287 (by decide))) (as := []) (st := []) rfl rfl (Nat.le_of_ble_eq_true rfl) (Nat.le_refl _) (Nat.le_refl _) (ev_Mo_endsLine hle hb256 hm ?_)
      intro ν5 hg5 h5
      have ag5 := rz_ag_tr agm hg5
      show fg_wp _ _ _ _ _ _ _ _ _ (ν5, fg_rho R, 304)
      exact fg_vret (fg_ft (pc := 206) tb_Mo_dayLine 124 rfl) rfl rfl (hQ _ ag5 h5)
  · refine fg_aloadn (fg_ft (pc := 16) tb_Mo_dayLine 9 rfl) rfl ?_
    refine fg_iconst (fg_ft (pc := 17) tb_Mo_dayLine 10 rfl) ic_3 ?_
    refine fg_iloadn (fg_ft (pc := 18) tb_Mo_dayLine 11 rfl) rfl ?_
    refine fg_callV (fg_ft (pc := 19) tb_Mo_dayLine 12 rfl) cf_Mo_114 (fg_isOf ly_287 rfl (fg_lt ly_287 (by decide))) (as := [.int (nI 3), .int (nI (pz_S b len Z.1))]) (st := []) rfl rfl (Nat.le_of_ble_eq_true rfl) (Nat.le_refl _) (Nat.le_refl _) (ev_Mo_also (kd := 3) (at9 := (pz_S b len Z.1)) hle hb256 h (by decide) (by decide) (by decide) (rz_S_le hle) ?_)
    intro ν6 hg6 h6
    have ag6 := hg6
    show fg_wp _ _ _ _ _ _ _ _ _ (ν6, fg_rho R, 304)
    have hc : rz_RZ ν6 b len (rz_c3 0 30 (pz_S b len Z.1) Z) := by
      unfold rz_c3
      rw [if_pos (by omega)]
      exact h6
    refine fg_aloadn (fg_ft (pc := 22) tb_Mo_dayLine 13 rfl) rfl ?_
    refine fg_bipush (fg_ft (pc := 23) tb_Mo_dayLine 14 rfl) ib_11 ?_
    refine fg_bipush (fg_ft (pc := 25) tb_Mo_dayLine 15 rfl) ib_17 ?_
    refine fg_callV (fg_ft (pc := 27) tb_Mo_dayLine 16 rfl) cf_Mo_135 (fg_isOf ly_287 rfl (fg_lt ly_287 (by decide))) (as := [.int (nI 11), .int (nI 17)]) (st := []) rfl rfl (Nat.le_of_ble_eq_true rfl) (Nat.le_refl _) (Nat.le_refl _) (ev_Mo_takes (lo := 11) (hi := 17) hle hb256 hc (by decide) (by decide) ?_)
    intro ν7 hg7 h7
    have ag7 := rz_ag_tr ag6 hg7
    rw [ht] at h7 ⊢
    show fg_wp _ _ _ _ _ _ _ _ _ (ν7, fg_rho R, 304)
    have hCt : t.2.2.2.2.2 = Z.2.2.2.2 := by rw [← ht, rz_ta_C, rz_c3_C]
    refine fg_top (y := nI 15) (congrArg nI hk) ?_
    refine fg_istoren (fg_ft (pc := 30) tb_Mo_dayLine 17 rfl) (Nat.le_of_ble_eq_true rfl) ?_
    refine fg_iconst (fg_ft (pc := 31) tb_Mo_dayLine 18 rfl) ic_m1 ?_
    refine fg_top (y := nI 4294967295) (by decide) ?_
    refine fg_istoren (fg_ft (pc := 32) tb_Mo_dayLine 19 rfl) (Nat.le_of_ble_eq_true rfl) ?_
    refine fg_iconst (fg_ft (pc := 33) tb_Mo_dayLine 20 rfl) ic_m1 ?_
    refine fg_top (y := nI 4294967295) (by decide) ?_
    refine fg_istore (fg_ft (pc := 34) tb_Mo_dayLine 21 rfl) (Nat.le_of_ble_eq_true rfl) ?_
    refine fg_iconst (fg_ft (pc := 36) tb_Mo_dayLine 22 rfl) ic_m1 ?_
    refine fg_top (y := nI 4294967295) (by decide) ?_
    refine fg_istore (fg_ft (pc := 37) tb_Mo_dayLine 23 rfl) (Nat.le_of_ble_eq_true rfl) ?_
    refine fg_iloadn (fg_ft (pc := 39) tb_Mo_dayLine 24 rfl) rfl ?_
    refine fg_if_leN (tgt := 56) (fg_ft (pc := 40) tb_Mo_dayLine 25 rfl) (by decide) (by decide) (fun c40 => (absurd c40 (by decide))) (fun c40 => ?_)
    refine fg_iloadn (fg_ft (pc := 43) tb_Mo_dayLine 26 rfl) rfl ?_
    refine fg_bipush (fg_ft (pc := 44) tb_Mo_dayLine 27 rfl) ib_17 ?_
    refine fg_icmp_eqN (tgt := 56) (fg_ft (pc := 46) tb_Mo_dayLine 28 rfl) (by decide) (by decide) (by decide) (fun c46 => (absurd c46 (by decide))) (fun c46 => ?_)
    refine fg_aloadn (fg_ft (pc := 49) tb_Mo_dayLine 29 rfl) rfl ?_
    refine fg_iconst (fg_ft (pc := 50) tb_Mo_dayLine 30 rfl) ic_0 ?_
    refine fg_iconst (fg_ft (pc := 51) tb_Mo_dayLine 31 rfl) ic_4 ?_
    refine fg_callV (fg_ft (pc := 52) tb_Mo_dayLine 32 rfl) cf_Mo_121 (fg_isOf ly_287 rfl (fg_lt ly_287 (by decide))) (as := [.int (nI 0), .int (nI 4)]) (st := []) rfl rfl (Nat.le_of_ble_eq_true rfl) (Nat.le_refl _) (Nat.le_refl _) (ev_Mo_numbered (lo := 0) (hi := 4 + 1) hle hb256 h7 (rz_m (by decide) (by decide)) ?_)
    intro ν8 hg8 h8
    have ag8 := rz_ag_tr ag7 hg8
    obtain ⟨a, ha⟩ : ∃ x, (rz_nu (pz_K b len) (pz_V b len) (pz_S b len) 0 (4 + 1) t.2) = x := ⟨_, rfl⟩
    rw [ha] at h8 ⊢
    show fg_wp _ _ _ _ _ _ _ _ _ (ν8, fg_rho R, 304)
    have hab : a.1 ≤ 99 ∨ a.1 = 4294967295 := by rw [← ha]; exact rz_nu_lt
    have hCa : a.2.2.2.2.2 = Z.2.2.2.2 := by rw [← ha, rz_nu_C, hCt]
    refine fg_istoren (fg_ft (pc := 55) tb_Mo_dayLine 33 rfl) (Nat.le_of_ble_eq_true rfl) ?_
    refine fg_iloadn (fg_ft (pc := 56) tb_Mo_dayLine 34 rfl) rfl ?_
    refine fg_bipush (fg_ft (pc := 57) tb_Mo_dayLine 35 rfl) ib_16 ?_
    refine fg_icmp_neN (tgt := 107) (fg_ft (pc := 59) tb_Mo_dayLine 36 rfl) (by decide) (by decide) (by decide) (fun c59 => ?_) (fun c59 => (absurd c59 (by decide)))
    refine fg_iloadn (fg_ft (pc := 107) tb_Mo_dayLine 61 rfl) rfl ?_
    refine fg_if_leN (tgt := 126) (fg_ft (pc := 108) tb_Mo_dayLine 62 rfl) (by decide) (by decide) (fun c108 => (absurd c108 (by decide))) (fun c108 => ?_)
    refine fg_iloadn (fg_ft (pc := 111) tb_Mo_dayLine 63 rfl) rfl ?_
    refine fg_bipush (fg_ft (pc := 112) tb_Mo_dayLine 64 rfl) ib_17 ?_
    refine fg_icmp_eqN (tgt := 126) (fg_ft (pc := 114) tb_Mo_dayLine 65 rfl) (by decide) (by decide) (by decide) (fun c114 => (absurd c114 (by decide))) (fun c114 => ?_)
    refine fg_aloadn (fg_ft (pc := 117) tb_Mo_dayLine 66 rfl) rfl ?_
    refine fg_iconst (fg_ft (pc := 118) tb_Mo_dayLine 67 rfl) ic_0 ?_
    refine fg_bipush (fg_ft (pc := 119) tb_Mo_dayLine 68 rfl) ib_9 ?_
    refine fg_callV (fg_ft (pc := 121) tb_Mo_dayLine 69 rfl) cf_Mo_121 (fg_isOf ly_287 rfl (fg_lt ly_287 (by decide))) (as := [.int (nI 0), .int (nI 9)]) (st := []) rfl rfl (Nat.le_of_ble_eq_true rfl) (Nat.le_refl _) (Nat.le_refl _) (ev_Mo_numbered (lo := 0) (hi := 9 + 1) hle hb256 h8 (rz_m (by decide) (by decide)) ?_)
    intro ν9 hg9 h9
    have ag9 := rz_ag_tr ag8 hg9
    obtain ⟨b9, hb9⟩ : ∃ x, (rz_nu (pz_K b len) (pz_V b len) (pz_S b len) 0 (9 + 1) a.2) = x := ⟨_, rfl⟩
    rw [hb9] at h9 ⊢
    show fg_wp _ _ _ _ _ _ _ _ _ (ν9, fg_rho R, 304)
    refine fg_istore (fg_ft (pc := 124) tb_Mo_dayLine 70 rfl) (Nat.le_of_ble_eq_true rfl) ?_
    have hCf : b9.2.2.2.2.2 = Z.2.2.2.2 := by rw [← hb9, rz_nu_C, hCa]
    have hb1 : b9.2.2.2.2.2 0 ≤ 700 := by rw [hCf]; exact hcnt
    refine fg_aloadn (fg_ft (pc := 126) tb_Mo_dayLine 71 rfl) rfl ?_
    refine fg_getR (fg_ft (pc := 127) tb_Mo_dayLine 72 rfl) ff_Mo_17 ly_287 rfl (fg_lt ly_287 (by decide)) (rh_287_10 R) ?_
    refine fg_iconst (fg_ft (pc := 130) tb_Mo_dayLine 73 rfl) ic_0 ?_
    refine fg_ialdV (v := (nI (b9.2.2.2.2.2 0))) (fg_ft (pc := 131) tb_Mo_dayLine 74 rfl) ly_290 (fg_lt ly_290 (by decide)) (by omega) (h9.2.2.2.2.2.2.1 0 (by omega)) ?_
    refine fg_bipush (fg_ft (pc := 132) tb_Mo_dayLine 75 rfl) ib_30 ?_
    refine fg_icmp_geN (tgt := 192) (fg_ft (pc := 134) tb_Mo_dayLine 76 rfl) (by decide) (by omega) (by decide) (fun c134 => ?_) (fun c134 => ?_)
    · refine fg_aloadn (fg_ft (pc := 192) tb_Mo_dayLine 114 rfl) rfl ?_
      refine fg_getR (fg_ft (pc := 193) tb_Mo_dayLine 115 rfl) ff_Mo_17 ly_287 rfl (fg_lt ly_287 (by decide)) (rh_287_10 R) ?_
      refine fg_iconst (fg_ft (pc := 196) tb_Mo_dayLine 116 rfl) ic_0 ?_
      refine fg_dup2 (fg_ft (pc := 197) tb_Mo_dayLine 117 rfl) rfl rfl ?_
      refine fg_ialdV (v := (nI (b9.2.2.2.2.2 0))) (fg_ft (pc := 198) tb_Mo_dayLine 118 rfl) ly_290 (fg_lt ly_290 (by decide)) (by omega) (h9.2.2.2.2.2.2.1 0 (by omega)) ?_
      refine fg_iconst (fg_ft (pc := 199) tb_Mo_dayLine 119 rfl) ic_1 ?_
      refine fg_iaddN (fg_ft (pc := 200) tb_Mo_dayLine 120 rfl) ?_
      refine fg_iastN (fg_ft (pc := 201) tb_Mo_dayLine 121 rfl) ly_290 (fg_lt ly_290 (by decide)) (by omega) ?_
      show fg_wp _ _ _ _ _ _ _ _ _ (fg_u2 ν9 290 0 (nI ((b9.2.2.2.2.2 0) + 1)), fg_rho R, 304)
      have hm : rz_RZ (fg_u2 ν9 290 0 (nI ((b9.2.2.2.2.2 0) + 1))) b len (rz_dn 15 (rz_dm (pz_K b len) (pz_V b len) (pz_S b len) t.2 15)) := by
        have e9 : rz_dm (pz_K b len) (pz_V b len) (pz_S b len) t.2 15 = (a.1, b9.1, 4294967295, b9.2) := (by
          show rz_dr (pz_K b len) (pz_V b len) (pz_S b len) (rz_nu (pz_K b len) (pz_V b len) (pz_S b len) 0 (4 + 1) t.2) = _
          rw [ha]
          unfold rz_dr
          have h1 : rz_nu (pz_K b len) (pz_V b len) (pz_S b len) 0 10 a.2 = b9 := hb9
          rw [h1])
        rw [e9]
        show rz_RZ _ b len (rz_pd 4 a.1 b9.1 4294967295 b9.2)
        unfold rz_pd
        rw [if_neg (by omega)]
        exact (h9).put
      have agm : rz_ag μ (fg_u2 ν9 290 0 (nI ((b9.2.2.2.2.2 0) + 1))) := fun a j p q r => (fg_u2ne r).trans (ag9 a j p q r)
      refine fg_aloadn (fg_ft (pc := 202) tb_Mo_dayLine 122 rfl) rfl ?_
      refine fg_callV (fg_ft (pc := 203) tb_Mo_dayLine 123 rfl) cf_Mo_153 (fg_isOf ly_287 rfl (fg_lt ly_287 (by decide))) (as := []) (st := []) rfl rfl (Nat.le_of_ble_eq_true rfl) (Nat.le_refl _) (Nat.le_refl _) (ev_Mo_endsLine hle hb256 hm ?_)
      intro ν10 hg10 h10
      have ag10 := rz_ag_tr agm hg10
      show fg_wp _ _ _ _ _ _ _ _ _ (ν10, fg_rho R, 304)
      exact fg_vret (fg_ft (pc := 206) tb_Mo_dayLine 124 rfl) rfl rfl (hQ _ ag10 h10)
    · refine fg_iconst (fg_ft (pc := 137) tb_Mo_dayLine 77 rfl) ic_1 ?_
      refine fg_iconst (fg_ft (pc := 138) tb_Mo_dayLine 78 rfl) ic_4 ?_
      refine fg_aloadn (fg_ft (pc := 139) tb_Mo_dayLine 79 rfl) rfl ?_
      refine fg_getR (fg_ft (pc := 140) tb_Mo_dayLine 80 rfl) ff_Mo_17 ly_287 rfl (fg_lt ly_287 (by decide)) (rh_287_10 R) ?_
      refine fg_iconst (fg_ft (pc := 143) tb_Mo_dayLine 81 rfl) ic_0 ?_
      refine fg_ialdV (v := (nI (b9.2.2.2.2.2 0))) (fg_ft (pc := 144) tb_Mo_dayLine 82 rfl) ly_290 (fg_lt ly_290 (by decide)) (by omega) (h9.2.2.2.2.2.2.1 0 (by omega)) ?_
      refine fg_imulN (fg_ft (pc := 145) tb_Mo_dayLine 83 rfl) ?_
      refine fg_iaddN (fg_ft (pc := 146) tb_Mo_dayLine 84 rfl) ?_
      refine fg_istore (fg_ft (pc := 147) tb_Mo_dayLine 85 rfl) (Nat.le_of_ble_eq_true rfl) ?_
      refine fg_aloadn (fg_ft (pc := 149) tb_Mo_dayLine 86 rfl) rfl ?_
      refine fg_getR (fg_ft (pc := 150) tb_Mo_dayLine 87 rfl) ff_Mo_17 ly_287 rfl (fg_lt ly_287 (by decide)) (rh_287_10 R) ?_
      refine fg_iload (fg_ft (pc := 153) tb_Mo_dayLine 88 rfl) rfl ?_
      refine fg_iloadn (fg_ft (pc := 155) tb_Mo_dayLine 89 rfl) rfl ?_
      refine fg_bipush (fg_ft (pc := 156) tb_Mo_dayLine 90 rfl) ib_11 ?_
      refine fg_isubN (fg_ft (pc := 158) tb_Mo_dayLine 91 rfl) (by omega) ?_
      refine fg_iastN (fg_ft (pc := 159) tb_Mo_dayLine 92 rfl) ly_290 (fg_lt ly_290 (by decide)) (by omega) ?_
      show fg_wp _ _ _ _ _ _ _ _ _ (fg_u2 ν9 290 (1 + (4 * (b9.2.2.2.2.2 0))) (nI (15 - 11)), fg_rho R, 304)
      refine fg_aloadn (fg_ft (pc := 160) tb_Mo_dayLine 93 rfl) rfl ?_
      refine fg_getR (fg_ft (pc := 161) tb_Mo_dayLine 94 rfl) ff_Mo_17 ly_287 rfl (fg_lt ly_287 (by decide)) (rh_287_10 R) ?_
      refine fg_iload (fg_ft (pc := 164) tb_Mo_dayLine 95 rfl) rfl ?_
      refine fg_iconst (fg_ft (pc := 166) tb_Mo_dayLine 96 rfl) ic_1 ?_
      refine fg_iaddN (fg_ft (pc := 167) tb_Mo_dayLine 97 rfl) ?_
      refine fg_iloadn (fg_ft (pc := 168) tb_Mo_dayLine 98 rfl) rfl ?_
      refine fg_iastN (fg_ft (pc := 169) tb_Mo_dayLine 99 rfl) ly_290 (fg_lt ly_290 (by decide)) (by omega) ?_
      show fg_wp _ _ _ _ _ _ _ _ _ (fg_u2 (fg_u2 ν9 290 (1 + (4 * (b9.2.2.2.2.2 0))) (nI (15 - 11))) 290 ((1 + (4 * (b9.2.2.2.2.2 0))) + 1) (nI (a.1)), fg_rho R, 304)
      refine fg_aloadn (fg_ft (pc := 170) tb_Mo_dayLine 100 rfl) rfl ?_
      refine fg_getR (fg_ft (pc := 171) tb_Mo_dayLine 101 rfl) ff_Mo_17 ly_287 rfl (fg_lt ly_287 (by decide)) (rh_287_10 R) ?_
      refine fg_iload (fg_ft (pc := 174) tb_Mo_dayLine 102 rfl) rfl ?_
      refine fg_iconst (fg_ft (pc := 176) tb_Mo_dayLine 103 rfl) ic_2 ?_
      refine fg_iaddN (fg_ft (pc := 177) tb_Mo_dayLine 104 rfl) ?_
      refine fg_iload (fg_ft (pc := 178) tb_Mo_dayLine 105 rfl) rfl ?_
      refine fg_iastN (fg_ft (pc := 180) tb_Mo_dayLine 106 rfl) ly_290 (fg_lt ly_290 (by decide)) (by omega) ?_
      show fg_wp _ _ _ _ _ _ _ _ _ (fg_u2 (fg_u2 (fg_u2 ν9 290 (1 + (4 * (b9.2.2.2.2.2 0))) (nI (15 - 11))) 290 ((1 + (4 * (b9.2.2.2.2.2 0))) + 1) (nI (a.1))) 290 ((1 + (4 * (b9.2.2.2.2.2 0))) + 2) (nI (b9.1)), fg_rho R, 304)
      refine fg_aloadn (fg_ft (pc := 181) tb_Mo_dayLine 107 rfl) rfl ?_
      refine fg_getR (fg_ft (pc := 182) tb_Mo_dayLine 108 rfl) ff_Mo_17 ly_287 rfl (fg_lt ly_287 (by decide)) (rh_287_10 R) ?_
      refine fg_iload (fg_ft (pc := 185) tb_Mo_dayLine 109 rfl) rfl ?_
      refine fg_iconst (fg_ft (pc := 187) tb_Mo_dayLine 110 rfl) ic_3 ?_
      refine fg_iaddN (fg_ft (pc := 188) tb_Mo_dayLine 111 rfl) ?_
      refine fg_iload (fg_ft (pc := 189) tb_Mo_dayLine 112 rfl) rfl ?_
      refine fg_iastN (fg_ft (pc := 191) tb_Mo_dayLine 113 rfl) ly_290 (fg_lt ly_290 (by decide)) (by omega) ?_
      show fg_wp _ _ _ _ _ _ _ _ _ (fg_u2 (fg_u2 (fg_u2 (fg_u2 ν9 290 (1 + (4 * (b9.2.2.2.2.2 0))) (nI (15 - 11))) 290 ((1 + (4 * (b9.2.2.2.2.2 0))) + 1) (nI (a.1))) 290 ((1 + (4 * (b9.2.2.2.2.2 0))) + 2) (nI (b9.1))) 290 ((1 + (4 * (b9.2.2.2.2.2 0))) + 3) (nI 4294967295), fg_rho R, 304)
      refine fg_aloadn (fg_ft (pc := 192) tb_Mo_dayLine 114 rfl) rfl ?_
      refine fg_getR (fg_ft (pc := 193) tb_Mo_dayLine 115 rfl) ff_Mo_17 ly_287 rfl (fg_lt ly_287 (by decide)) (rh_287_10 R) ?_
      refine fg_iconst (fg_ft (pc := 196) tb_Mo_dayLine 116 rfl) ic_0 ?_
      refine fg_dup2 (fg_ft (pc := 197) tb_Mo_dayLine 117 rfl) rfl rfl ?_
      refine fg_ialdV (v := (nI (b9.2.2.2.2.2 0))) (fg_ft (pc := 198) tb_Mo_dayLine 118 rfl) ly_290 (fg_lt ly_290 (by decide)) (by omega) ((fg_u2ns (f := (fg_u2 (fg_u2 (fg_u2 ν9 290 (1 + (4 * (b9.2.2.2.2.2 0))) (nI (15 - 11))) 290 ((1 + (4 * (b9.2.2.2.2.2 0))) + 1) (nI (a.1))) 290 ((1 + (4 * (b9.2.2.2.2.2 0))) + 2) (nI (b9.1)))) (a := 290) (k := ((1 + (4 * (b9.2.2.2.2.2 0))) + 3)) (b := 290) (j := 0) (x := (nI 4294967295)) (by omega)).trans ((fg_u2ns (f := (fg_u2 (fg_u2 ν9 290 (1 + (4 * (b9.2.2.2.2.2 0))) (nI (15 - 11))) 290 ((1 + (4 * (b9.2.2.2.2.2 0))) + 1) (nI (a.1)))) (a := 290) (k := ((1 + (4 * (b9.2.2.2.2.2 0))) + 2)) (b := 290) (j := 0) (x := (nI (b9.1))) (by omega)).trans ((fg_u2ns (f := (fg_u2 ν9 290 (1 + (4 * (b9.2.2.2.2.2 0))) (nI (15 - 11)))) (a := 290) (k := ((1 + (4 * (b9.2.2.2.2.2 0))) + 1)) (b := 290) (j := 0) (x := (nI (a.1))) (by omega)).trans ((fg_u2ns (f := ν9) (a := 290) (k := (1 + (4 * (b9.2.2.2.2.2 0)))) (b := 290) (j := 0) (x := (nI (15 - 11))) (by omega)).trans (h9.2.2.2.2.2.2.1 0 (by omega)))))) ?_
      refine fg_iconst (fg_ft (pc := 199) tb_Mo_dayLine 119 rfl) ic_1 ?_
      refine fg_iaddN (fg_ft (pc := 200) tb_Mo_dayLine 120 rfl) ?_
      refine fg_iastN (fg_ft (pc := 201) tb_Mo_dayLine 121 rfl) ly_290 (fg_lt ly_290 (by decide)) (by omega) ?_
      show fg_wp _ _ _ _ _ _ _ _ _ (fg_u2 (fg_u2 (fg_u2 (fg_u2 (fg_u2 ν9 290 (1 + (4 * (b9.2.2.2.2.2 0))) (nI (15 - 11))) 290 ((1 + (4 * (b9.2.2.2.2.2 0))) + 1) (nI (a.1))) 290 ((1 + (4 * (b9.2.2.2.2.2 0))) + 2) (nI (b9.1))) 290 ((1 + (4 * (b9.2.2.2.2.2 0))) + 3) (nI 4294967295)) 290 0 (nI ((b9.2.2.2.2.2 0) + 1)), fg_rho R, 304)
      have hm : rz_RZ (fg_u2 (fg_u2 (fg_u2 (fg_u2 (fg_u2 ν9 290 (1 + (4 * (b9.2.2.2.2.2 0))) (nI (15 - 11))) 290 ((1 + (4 * (b9.2.2.2.2.2 0))) + 1) (nI (a.1))) 290 ((1 + (4 * (b9.2.2.2.2.2 0))) + 2) (nI (b9.1))) 290 ((1 + (4 * (b9.2.2.2.2.2 0))) + 3) (nI 4294967295)) 290 0 (nI ((b9.2.2.2.2.2 0) + 1))) b len (rz_dn 15 (rz_dm (pz_K b len) (pz_V b len) (pz_S b len) t.2 15)) := by
        have e9 : rz_dm (pz_K b len) (pz_V b len) (pz_S b len) t.2 15 = (a.1, b9.1, 4294967295, b9.2) := (by
          show rz_dr (pz_K b len) (pz_V b len) (pz_S b len) (rz_nu (pz_K b len) (pz_V b len) (pz_S b len) 0 (4 + 1) t.2) = _
          rw [ha]
          unfold rz_dr
          have h1 : rz_nu (pz_K b len) (pz_V b len) (pz_S b len) 0 10 a.2 = b9 := hb9
          rw [h1])
        rw [e9]
        show rz_RZ _ b len (rz_pd 4 a.1 b9.1 4294967295 b9.2)
        unfold rz_pd
        rw [if_pos (by omega)]
        exact (((((h9).put).put).put).put).put
      have agm : rz_ag μ (fg_u2 (fg_u2 (fg_u2 (fg_u2 (fg_u2 ν9 290 (1 + (4 * (b9.2.2.2.2.2 0))) (nI (15 - 11))) 290 ((1 + (4 * (b9.2.2.2.2.2 0))) + 1) (nI (a.1))) 290 ((1 + (4 * (b9.2.2.2.2.2 0))) + 2) (nI (b9.1))) 290 ((1 + (4 * (b9.2.2.2.2.2 0))) + 3) (nI 4294967295)) 290 0 (nI ((b9.2.2.2.2.2 0) + 1))) := fun a j p q r => (fg_u2ne r).trans ((fg_u2ne r).trans ((fg_u2ne r).trans ((fg_u2ne r).trans ((fg_u2ne r).trans (ag9 a j p q r)))))
      refine fg_aloadn (fg_ft (pc := 202) tb_Mo_dayLine 122 rfl) rfl ?_
      refine fg_callV (fg_ft (pc := 203) tb_Mo_dayLine 123 rfl) cf_Mo_153 (fg_isOf ly_287 rfl (fg_lt ly_287 (by decide))) (as := []) (st := []) rfl rfl (Nat.le_of_ble_eq_true rfl) (Nat.le_refl _) (Nat.le_refl _) (ev_Mo_endsLine hle hb256 hm ?_)
      intro ν11 hg11 h11
      have ag11 := rz_ag_tr agm hg11
      show fg_wp _ _ _ _ _ _ _ _ _ (ν11, fg_rho R, 304)
      exact fg_vret (fg_ft (pc := 206) tb_Mo_dayLine 124 rfl) rfl rfl (hQ _ ag11 h11)
theorem ev_Mo_dayLine_16 {E : fg_E} {d : Nat} {μ : Nat → Nat → Int32} {R : fg_T4} {Q : Option Value → fg_M → Prop} {b : Nat → Nat} {len : Nat} {Z : rz_Z} (hle : len ≤ 600) (hb256 : ∀ j, b j < 256) (h : rz_RZ μ b len Z) (hcnt : Z.2.2.2.2 0 ≤ 700) {t : Nat × rz_Z} (ht : rz_ta (pz_K b len) (pz_V b len) (pz_S b len) 11 17 (rz_c3 0 30 (pz_S b len Z.1) Z) = t) (hk : t.1 = 16) (hQ : ∀ μ' : Nat → Nat → Int32, rz_ag μ μ' → rz_RZ μ' b len (rz_el (pz_K b len) (pz_S b len) (rz_dn 16 (rz_dm (pz_K b len) (pz_V b len) (pz_S b len) t.2 16))) → Q none (μ', fg_rho R, 304)) : fg_Ev E yy_Mo_dayLine (d + 9) [.ref 287] (μ, fg_rho R, 304) 304 Q := by
  refine fg_intro (by decide +kernel) (Nat.le_of_ble_eq_true rfl) (fg_okAs rfl) (Nat.le_refl _) ?_
  refine fg_aloadn (fg_ft (pc := 0) tb_Mo_dayLine 0 rfl) rfl ?_
  refine fg_getV (v := (nI (pz_S b len Z.1))) (fg_ft (pc := 1) tb_Mo_dayLine 1 rfl) ff_Mo_81 ly_287 rfl (fg_lt ly_287 (by decide)) h.2.1.2.1 ?_
  refine fg_istoren (fg_ft (pc := 4) tb_Mo_dayLine 2 rfl) (Nat.le_of_ble_eq_true rfl) ?_
  refine fg_aloadn (fg_ft (pc := 5) tb_Mo_dayLine 3 rfl) rfl ?_
  refine fg_getR (fg_ft (pc := 6) tb_Mo_dayLine 4 rfl) ff_Mo_17 ly_287 rfl (fg_lt ly_287 (by decide)) (rh_287_10 R) ?_
  refine fg_iconst (fg_ft (pc := 9) tb_Mo_dayLine 5 rfl) ic_0 ?_
  refine fg_ialdV (v := (nI (Z.2.2.2.2 0))) (fg_ft (pc := 10) tb_Mo_dayLine 6 rfl) ly_290 (fg_lt ly_290 (by decide)) (by omega) (h.2.2.2.2.2.2.1 0 (by omega)) ?_
  have hb0 := hcnt
  refine fg_bipush (fg_ft (pc := 11) tb_Mo_dayLine 7 rfl) ib_30 ?_
  refine fg_icmp_ltN (tgt := 22) (fg_ft (pc := 13) tb_Mo_dayLine 8 rfl) (by decide) (by omega) (by decide) (fun c13 => ?_) (fun c13 => ?_)
  · have hc : rz_RZ μ b len (rz_c3 0 30 (pz_S b len Z.1) Z) := by
      unfold rz_c3
      rw [if_neg (by omega)]
      exact h
    refine fg_aloadn (fg_ft (pc := 22) tb_Mo_dayLine 13 rfl) rfl ?_
    refine fg_bipush (fg_ft (pc := 23) tb_Mo_dayLine 14 rfl) ib_11 ?_
    refine fg_bipush (fg_ft (pc := 25) tb_Mo_dayLine 15 rfl) ib_17 ?_
    refine fg_callV (fg_ft (pc := 27) tb_Mo_dayLine 16 rfl) cf_Mo_135 (fg_isOf ly_287 rfl (fg_lt ly_287 (by decide))) (as := [.int (nI 11), .int (nI 17)]) (st := []) rfl rfl (Nat.le_of_ble_eq_true rfl) (Nat.le_refl _) (Nat.le_refl _) (ev_Mo_takes (lo := 11) (hi := 17) hle hb256 hc (by decide) (by decide) ?_)
    intro ν1 hg1 h1
    have ag1 := hg1
    rw [ht] at h1 ⊢
    show fg_wp _ _ _ _ _ _ _ _ _ (ν1, fg_rho R, 304)
    have hCt : t.2.2.2.2.2 = Z.2.2.2.2 := by rw [← ht, rz_ta_C, rz_c3_C]
    refine fg_top (y := nI 16) (congrArg nI hk) ?_
    refine fg_istoren (fg_ft (pc := 30) tb_Mo_dayLine 17 rfl) (Nat.le_of_ble_eq_true rfl) ?_
    refine fg_iconst (fg_ft (pc := 31) tb_Mo_dayLine 18 rfl) ic_m1 ?_
    refine fg_top (y := nI 4294967295) (by decide) ?_
    refine fg_istoren (fg_ft (pc := 32) tb_Mo_dayLine 19 rfl) (Nat.le_of_ble_eq_true rfl) ?_
    refine fg_iconst (fg_ft (pc := 33) tb_Mo_dayLine 20 rfl) ic_m1 ?_
    refine fg_top (y := nI 4294967295) (by decide) ?_
    refine fg_istore (fg_ft (pc := 34) tb_Mo_dayLine 21 rfl) (Nat.le_of_ble_eq_true rfl) ?_
    refine fg_iconst (fg_ft (pc := 36) tb_Mo_dayLine 22 rfl) ic_m1 ?_
    refine fg_top (y := nI 4294967295) (by decide) ?_
    refine fg_istore (fg_ft (pc := 37) tb_Mo_dayLine 23 rfl) (Nat.le_of_ble_eq_true rfl) ?_
    refine fg_iloadn (fg_ft (pc := 39) tb_Mo_dayLine 24 rfl) rfl ?_
    refine fg_if_leN (tgt := 56) (fg_ft (pc := 40) tb_Mo_dayLine 25 rfl) (by decide) (by decide) (fun c40 => (absurd c40 (by decide))) (fun c40 => ?_)
    refine fg_iloadn (fg_ft (pc := 43) tb_Mo_dayLine 26 rfl) rfl ?_
    refine fg_bipush (fg_ft (pc := 44) tb_Mo_dayLine 27 rfl) ib_17 ?_
    refine fg_icmp_eqN (tgt := 56) (fg_ft (pc := 46) tb_Mo_dayLine 28 rfl) (by decide) (by decide) (by decide) (fun c46 => (absurd c46 (by decide))) (fun c46 => ?_)
    refine fg_aloadn (fg_ft (pc := 49) tb_Mo_dayLine 29 rfl) rfl ?_
    refine fg_iconst (fg_ft (pc := 50) tb_Mo_dayLine 30 rfl) ic_0 ?_
    refine fg_iconst (fg_ft (pc := 51) tb_Mo_dayLine 31 rfl) ic_4 ?_
    refine fg_callV (fg_ft (pc := 52) tb_Mo_dayLine 32 rfl) cf_Mo_121 (fg_isOf ly_287 rfl (fg_lt ly_287 (by decide))) (as := [.int (nI 0), .int (nI 4)]) (st := []) rfl rfl (Nat.le_of_ble_eq_true rfl) (Nat.le_refl _) (Nat.le_refl _) (ev_Mo_numbered (lo := 0) (hi := 4 + 1) hle hb256 h1 (rz_m (by decide) (by decide)) ?_)
    intro ν2 hg2 h2
    have ag2 := rz_ag_tr ag1 hg2
    obtain ⟨a, ha⟩ : ∃ x, (rz_nu (pz_K b len) (pz_V b len) (pz_S b len) 0 (4 + 1) t.2) = x := ⟨_, rfl⟩
    rw [ha] at h2 ⊢
    show fg_wp _ _ _ _ _ _ _ _ _ (ν2, fg_rho R, 304)
    have hab : a.1 ≤ 99 ∨ a.1 = 4294967295 := by rw [← ha]; exact rz_nu_lt
    have hCa : a.2.2.2.2.2 = Z.2.2.2.2 := by rw [← ha, rz_nu_C, hCt]
    refine fg_istoren (fg_ft (pc := 55) tb_Mo_dayLine 33 rfl) (Nat.le_of_ble_eq_true rfl) ?_
    refine fg_iloadn (fg_ft (pc := 56) tb_Mo_dayLine 34 rfl) rfl ?_
    refine fg_bipush (fg_ft (pc := 57) tb_Mo_dayLine 35 rfl) ib_16 ?_
    refine fg_icmp_neN (tgt := 107) (fg_ft (pc := 59) tb_Mo_dayLine 36 rfl) (by decide) (by decide) (by decide) (fun c59 => (absurd c59 (by decide))) (fun c59 => ?_)
    refine fg_aloadn (fg_ft (pc := 62) tb_Mo_dayLine 37 rfl) rfl ?_
    refine fg_getV (v := (nI (pz_K b len a.2.1))) (fg_ft (pc := 63) tb_Mo_dayLine 38 rfl) ff_Mo_84 ly_287 rfl (fg_lt ly_287 (by decide)) h2.2.1.2.2.1 ?_
    refine fg_iconst (fg_ft (pc := 66) tb_Mo_dayLine 39 rfl) ic_1 ?_
    refine fg_icmp_neN (tgt := 87) (fg_ft (pc := 67) tb_Mo_dayLine 40 rfl) (by decide) (by have := (pz_sp_i b len a.2.1).2.2.2.1; omega) (by decide) (fun c67 => ?_) (fun c67 => ?_)
    · have hd : rz_RZ ν2 b len (rz_dup (pz_K b len) (pz_V b len) (pz_S b len) a.1 a.2) := by
        unfold rz_dup
        rw [if_neg (fun q => by first | exact c67 q.1 | exact c75 q.2)]
        exact h2
      refine fg_aloadn (fg_ft (pc := 87) tb_Mo_dayLine 50 rfl) rfl ?_
      refine fg_iconst (fg_ft (pc := 88) tb_Mo_dayLine 51 rfl) ic_0 ?_
      refine fg_iconst (fg_ft (pc := 89) tb_Mo_dayLine 52 rfl) ic_4 ?_
      refine fg_callV (fg_ft (pc := 90) tb_Mo_dayLine 53 rfl) cf_Mo_121 (fg_isOf ly_287 rfl (fg_lt ly_287 (by decide))) (as := [.int (nI 0), .int (nI 4)]) (st := []) rfl rfl (Nat.le_of_ble_eq_true rfl) (Nat.le_refl _) (Nat.le_refl _) (ev_Mo_numbered (lo := 0) (hi := 4 + 1) hle hb256 hd (rz_m (by decide) (by decide)) ?_)
      intro ν3 hg3 h3
      have ag3 := rz_ag_tr ag2 hg3
      obtain ⟨b9, hb9⟩ : ∃ x, (rz_nu (pz_K b len) (pz_V b len) (pz_S b len) 0 (4 + 1) (rz_dup (pz_K b len) (pz_V b len) (pz_S b len) a.1 a.2)) = x := ⟨_, rfl⟩
      rw [hb9] at h3 ⊢
      show fg_wp _ _ _ _ _ _ _ _ _ (ν3, fg_rho R, 304)
      refine fg_istore (fg_ft (pc := 93) tb_Mo_dayLine 54 rfl) (Nat.le_of_ble_eq_true rfl) ?_
      refine fg_aloadn (fg_ft (pc := 95) tb_Mo_dayLine 55 rfl) rfl ?_
      refine fg_iconst (fg_ft (pc := 96) tb_Mo_dayLine 56 rfl) ic_0 ?_
      refine fg_bipush (fg_ft (pc := 97) tb_Mo_dayLine 57 rfl) ib_9 ?_
      refine fg_callV (fg_ft (pc := 99) tb_Mo_dayLine 58 rfl) cf_Mo_121 (fg_isOf ly_287 rfl (fg_lt ly_287 (by decide))) (as := [.int (nI 0), .int (nI 9)]) (st := []) rfl rfl (Nat.le_of_ble_eq_true rfl) (Nat.le_refl _) (Nat.le_refl _) (ev_Mo_numbered (lo := 0) (hi := 9 + 1) hle hb256 h3 (rz_m (by decide) (by decide)) ?_)
      intro ν4 hg4 h4
      have ag4 := rz_ag_tr ag3 hg4
      obtain ⟨c, hc9⟩ : ∃ x, (rz_nu (pz_K b len) (pz_V b len) (pz_S b len) 0 (9 + 1) b9.2) = x := ⟨_, rfl⟩
      rw [hc9] at h4 ⊢
      show fg_wp _ _ _ _ _ _ _ _ _ (ν4, fg_rho R, 304)
      refine fg_istore (fg_ft (pc := 102) tb_Mo_dayLine 59 rfl) (Nat.le_of_ble_eq_true rfl) ?_
      refine fg_goto (tgt := 126) (fg_ft (pc := 104) tb_Mo_dayLine 60 rfl) (by decide) ?_
      have hCf : c.2.2.2.2.2 = Z.2.2.2.2 := by rw [← hc9, rz_nu_C, ← hb9, rz_nu_C, rz_dup_C, hCa]
      have hb1 : c.2.2.2.2.2 0 ≤ 700 := by rw [hCf]; exact hcnt
      refine fg_aloadn (fg_ft (pc := 126) tb_Mo_dayLine 71 rfl) rfl ?_
      refine fg_getR (fg_ft (pc := 127) tb_Mo_dayLine 72 rfl) ff_Mo_17 ly_287 rfl (fg_lt ly_287 (by decide)) (rh_287_10 R) ?_
      refine fg_iconst (fg_ft (pc := 130) tb_Mo_dayLine 73 rfl) ic_0 ?_
      refine fg_ialdV (v := (nI (c.2.2.2.2.2 0))) (fg_ft (pc := 131) tb_Mo_dayLine 74 rfl) ly_290 (fg_lt ly_290 (by decide)) (by omega) (h4.2.2.2.2.2.2.1 0 (by omega)) ?_
      refine fg_bipush (fg_ft (pc := 132) tb_Mo_dayLine 75 rfl) ib_30 ?_
      refine fg_icmp_geN (tgt := 192) (fg_ft (pc := 134) tb_Mo_dayLine 76 rfl) (by decide) (by omega) (by decide) (fun c134 => ?_) (fun c134 => ?_)
      · refine fg_aloadn (fg_ft (pc := 192) tb_Mo_dayLine 114 rfl) rfl ?_
        refine fg_getR (fg_ft (pc := 193) tb_Mo_dayLine 115 rfl) ff_Mo_17 ly_287 rfl (fg_lt ly_287 (by decide)) (rh_287_10 R) ?_
        refine fg_iconst (fg_ft (pc := 196) tb_Mo_dayLine 116 rfl) ic_0 ?_
        refine fg_dup2 (fg_ft (pc := 197) tb_Mo_dayLine 117 rfl) rfl rfl ?_
        refine fg_ialdV (v := (nI (c.2.2.2.2.2 0))) (fg_ft (pc := 198) tb_Mo_dayLine 118 rfl) ly_290 (fg_lt ly_290 (by decide)) (by omega) (h4.2.2.2.2.2.2.1 0 (by omega)) ?_
        refine fg_iconst (fg_ft (pc := 199) tb_Mo_dayLine 119 rfl) ic_1 ?_
        refine fg_iaddN (fg_ft (pc := 200) tb_Mo_dayLine 120 rfl) ?_
        refine fg_iastN (fg_ft (pc := 201) tb_Mo_dayLine 121 rfl) ly_290 (fg_lt ly_290 (by decide)) (by omega) ?_
        show fg_wp _ _ _ _ _ _ _ _ _ (fg_u2 ν4 290 0 (nI ((c.2.2.2.2.2 0) + 1)), fg_rho R, 304)
        have hm : rz_RZ (fg_u2 ν4 290 0 (nI ((c.2.2.2.2.2 0) + 1))) b len (rz_dn 16 (rz_dm (pz_K b len) (pz_V b len) (pz_S b len) t.2 16)) := by
          have e9 : rz_dm (pz_K b len) (pz_V b len) (pz_S b len) t.2 16 = (a.1, b9.1, c.1, c.2) := (by
            show rz_dq (pz_K b len) (pz_V b len) (pz_S b len) (rz_nu (pz_K b len) (pz_V b len) (pz_S b len) 0 (4 + 1) t.2) = _
            rw [ha]
            unfold rz_dq
            have h1 : rz_nu (pz_K b len) (pz_V b len) (pz_S b len) 0 5 (rz_dup (pz_K b len) (pz_V b len) (pz_S b len) a.1 a.2) = b9 := hb9
            have h2 : rz_nu (pz_K b len) (pz_V b len) (pz_S b len) 0 10 b9.2 = c := hc9
            rw [h1]
            show (a.1, b9.1, (rz_nu (pz_K b len) (pz_V b len) (pz_S b len) 0 10 b9.2).1, (rz_nu (pz_K b len) (pz_V b len) (pz_S b len) 0 10 b9.2).2) = _
            rw [h2])
          rw [e9]
          show rz_RZ _ b len (rz_pd 5 a.1 b9.1 c.1 c.2)
          unfold rz_pd
          rw [if_neg (by omega)]
          exact (h4).put
        have agm : rz_ag μ (fg_u2 ν4 290 0 (nI ((c.2.2.2.2.2 0) + 1))) := fun a j p q r => (fg_u2ne r).trans (ag4 a j p q r)
        refine fg_aloadn (fg_ft (pc := 202) tb_Mo_dayLine 122 rfl) rfl ?_
        refine fg_callV (fg_ft (pc := 203) tb_Mo_dayLine 123 rfl) cf_Mo_153 (fg_isOf ly_287 rfl (fg_lt ly_287 (by decide))) (as := []) (st := []) rfl rfl (Nat.le_of_ble_eq_true rfl) (Nat.le_refl _) (Nat.le_refl _) (ev_Mo_endsLine hle hb256 hm ?_)
        intro ν5 hg5 h5
        have ag5 := rz_ag_tr agm hg5
        show fg_wp _ _ _ _ _ _ _ _ _ (ν5, fg_rho R, 304)
        exact fg_vret (fg_ft (pc := 206) tb_Mo_dayLine 124 rfl) rfl rfl (hQ _ ag5 h5)
      · refine fg_iconst (fg_ft (pc := 137) tb_Mo_dayLine 77 rfl) ic_1 ?_
        refine fg_iconst (fg_ft (pc := 138) tb_Mo_dayLine 78 rfl) ic_4 ?_
        refine fg_aloadn (fg_ft (pc := 139) tb_Mo_dayLine 79 rfl) rfl ?_
        refine fg_getR (fg_ft (pc := 140) tb_Mo_dayLine 80 rfl) ff_Mo_17 ly_287 rfl (fg_lt ly_287 (by decide)) (rh_287_10 R) ?_
        refine fg_iconst (fg_ft (pc := 143) tb_Mo_dayLine 81 rfl) ic_0 ?_
        refine fg_ialdV (v := (nI (c.2.2.2.2.2 0))) (fg_ft (pc := 144) tb_Mo_dayLine 82 rfl) ly_290 (fg_lt ly_290 (by decide)) (by omega) (h4.2.2.2.2.2.2.1 0 (by omega)) ?_
        refine fg_imulN (fg_ft (pc := 145) tb_Mo_dayLine 83 rfl) ?_
        refine fg_iaddN (fg_ft (pc := 146) tb_Mo_dayLine 84 rfl) ?_
        refine fg_istore (fg_ft (pc := 147) tb_Mo_dayLine 85 rfl) (Nat.le_of_ble_eq_true rfl) ?_
        refine fg_aloadn (fg_ft (pc := 149) tb_Mo_dayLine 86 rfl) rfl ?_
        refine fg_getR (fg_ft (pc := 150) tb_Mo_dayLine 87 rfl) ff_Mo_17 ly_287 rfl (fg_lt ly_287 (by decide)) (rh_287_10 R) ?_
        refine fg_iload (fg_ft (pc := 153) tb_Mo_dayLine 88 rfl) rfl ?_
        refine fg_iloadn (fg_ft (pc := 155) tb_Mo_dayLine 89 rfl) rfl ?_
        refine fg_bipush (fg_ft (pc := 156) tb_Mo_dayLine 90 rfl) ib_11 ?_
        refine fg_isubN (fg_ft (pc := 158) tb_Mo_dayLine 91 rfl) (by omega) ?_
        refine fg_iastN (fg_ft (pc := 159) tb_Mo_dayLine 92 rfl) ly_290 (fg_lt ly_290 (by decide)) (by omega) ?_
        show fg_wp _ _ _ _ _ _ _ _ _ (fg_u2 ν4 290 (1 + (4 * (c.2.2.2.2.2 0))) (nI (16 - 11)), fg_rho R, 304)
        refine fg_aloadn (fg_ft (pc := 160) tb_Mo_dayLine 93 rfl) rfl ?_
        refine fg_getR (fg_ft (pc := 161) tb_Mo_dayLine 94 rfl) ff_Mo_17 ly_287 rfl (fg_lt ly_287 (by decide)) (rh_287_10 R) ?_
        refine fg_iload (fg_ft (pc := 164) tb_Mo_dayLine 95 rfl) rfl ?_
        refine fg_iconst (fg_ft (pc := 166) tb_Mo_dayLine 96 rfl) ic_1 ?_
        refine fg_iaddN (fg_ft (pc := 167) tb_Mo_dayLine 97 rfl) ?_
        refine fg_iloadn (fg_ft (pc := 168) tb_Mo_dayLine 98 rfl) rfl ?_
        refine fg_iastN (fg_ft (pc := 169) tb_Mo_dayLine 99 rfl) ly_290 (fg_lt ly_290 (by decide)) (by omega) ?_
        show fg_wp _ _ _ _ _ _ _ _ _ (fg_u2 (fg_u2 ν4 290 (1 + (4 * (c.2.2.2.2.2 0))) (nI (16 - 11))) 290 ((1 + (4 * (c.2.2.2.2.2 0))) + 1) (nI (a.1)), fg_rho R, 304)
        refine fg_aloadn (fg_ft (pc := 170) tb_Mo_dayLine 100 rfl) rfl ?_
        refine fg_getR (fg_ft (pc := 171) tb_Mo_dayLine 101 rfl) ff_Mo_17 ly_287 rfl (fg_lt ly_287 (by decide)) (rh_287_10 R) ?_
        refine fg_iload (fg_ft (pc := 174) tb_Mo_dayLine 102 rfl) rfl ?_
        refine fg_iconst (fg_ft (pc := 176) tb_Mo_dayLine 103 rfl) ic_2 ?_
        refine fg_iaddN (fg_ft (pc := 177) tb_Mo_dayLine 104 rfl) ?_
        refine fg_iload (fg_ft (pc := 178) tb_Mo_dayLine 105 rfl) rfl ?_
        refine fg_iastN (fg_ft (pc := 180) tb_Mo_dayLine 106 rfl) ly_290 (fg_lt ly_290 (by decide)) (by omega) ?_
        show fg_wp _ _ _ _ _ _ _ _ _ (fg_u2 (fg_u2 (fg_u2 ν4 290 (1 + (4 * (c.2.2.2.2.2 0))) (nI (16 - 11))) 290 ((1 + (4 * (c.2.2.2.2.2 0))) + 1) (nI (a.1))) 290 ((1 + (4 * (c.2.2.2.2.2 0))) + 2) (nI (b9.1)), fg_rho R, 304)
        refine fg_aloadn (fg_ft (pc := 181) tb_Mo_dayLine 107 rfl) rfl ?_
        refine fg_getR (fg_ft (pc := 182) tb_Mo_dayLine 108 rfl) ff_Mo_17 ly_287 rfl (fg_lt ly_287 (by decide)) (rh_287_10 R) ?_
        refine fg_iload (fg_ft (pc := 185) tb_Mo_dayLine 109 rfl) rfl ?_
        refine fg_iconst (fg_ft (pc := 187) tb_Mo_dayLine 110 rfl) ic_3 ?_
        refine fg_iaddN (fg_ft (pc := 188) tb_Mo_dayLine 111 rfl) ?_
        refine fg_iload (fg_ft (pc := 189) tb_Mo_dayLine 112 rfl) rfl ?_
        refine fg_iastN (fg_ft (pc := 191) tb_Mo_dayLine 113 rfl) ly_290 (fg_lt ly_290 (by decide)) (by omega) ?_
        show fg_wp _ _ _ _ _ _ _ _ _ (fg_u2 (fg_u2 (fg_u2 (fg_u2 ν4 290 (1 + (4 * (c.2.2.2.2.2 0))) (nI (16 - 11))) 290 ((1 + (4 * (c.2.2.2.2.2 0))) + 1) (nI (a.1))) 290 ((1 + (4 * (c.2.2.2.2.2 0))) + 2) (nI (b9.1))) 290 ((1 + (4 * (c.2.2.2.2.2 0))) + 3) (nI (c.1)), fg_rho R, 304)
        refine fg_aloadn (fg_ft (pc := 192) tb_Mo_dayLine 114 rfl) rfl ?_
        refine fg_getR (fg_ft (pc := 193) tb_Mo_dayLine 115 rfl) ff_Mo_17 ly_287 rfl (fg_lt ly_287 (by decide)) (rh_287_10 R) ?_
        refine fg_iconst (fg_ft (pc := 196) tb_Mo_dayLine 116 rfl) ic_0 ?_
        refine fg_dup2 (fg_ft (pc := 197) tb_Mo_dayLine 117 rfl) rfl rfl ?_
        refine fg_ialdV (v := (nI (c.2.2.2.2.2 0))) (fg_ft (pc := 198) tb_Mo_dayLine 118 rfl) ly_290 (fg_lt ly_290 (by decide)) (by omega) ((fg_u2ns (f := (fg_u2 (fg_u2 (fg_u2 ν4 290 (1 + (4 * (c.2.2.2.2.2 0))) (nI (16 - 11))) 290 ((1 + (4 * (c.2.2.2.2.2 0))) + 1) (nI (a.1))) 290 ((1 + (4 * (c.2.2.2.2.2 0))) + 2) (nI (b9.1)))) (a := 290) (k := ((1 + (4 * (c.2.2.2.2.2 0))) + 3)) (b := 290) (j := 0) (x := (nI (c.1))) (by omega)).trans ((fg_u2ns (f := (fg_u2 (fg_u2 ν4 290 (1 + (4 * (c.2.2.2.2.2 0))) (nI (16 - 11))) 290 ((1 + (4 * (c.2.2.2.2.2 0))) + 1) (nI (a.1)))) (a := 290) (k := ((1 + (4 * (c.2.2.2.2.2 0))) + 2)) (b := 290) (j := 0) (x := (nI (b9.1))) (by omega)).trans ((fg_u2ns (f := (fg_u2 ν4 290 (1 + (4 * (c.2.2.2.2.2 0))) (nI (16 - 11)))) (a := 290) (k := ((1 + (4 * (c.2.2.2.2.2 0))) + 1)) (b := 290) (j := 0) (x := (nI (a.1))) (by omega)).trans ((fg_u2ns (f := ν4) (a := 290) (k := (1 + (4 * (c.2.2.2.2.2 0)))) (b := 290) (j := 0) (x := (nI (16 - 11))) (by omega)).trans (h4.2.2.2.2.2.2.1 0 (by omega)))))) ?_
        refine fg_iconst (fg_ft (pc := 199) tb_Mo_dayLine 119 rfl) ic_1 ?_
        refine fg_iaddN (fg_ft (pc := 200) tb_Mo_dayLine 120 rfl) ?_
        refine fg_iastN (fg_ft (pc := 201) tb_Mo_dayLine 121 rfl) ly_290 (fg_lt ly_290 (by decide)) (by omega) ?_
        show fg_wp _ _ _ _ _ _ _ _ _ (fg_u2 (fg_u2 (fg_u2 (fg_u2 (fg_u2 ν4 290 (1 + (4 * (c.2.2.2.2.2 0))) (nI (16 - 11))) 290 ((1 + (4 * (c.2.2.2.2.2 0))) + 1) (nI (a.1))) 290 ((1 + (4 * (c.2.2.2.2.2 0))) + 2) (nI (b9.1))) 290 ((1 + (4 * (c.2.2.2.2.2 0))) + 3) (nI (c.1))) 290 0 (nI ((c.2.2.2.2.2 0) + 1)), fg_rho R, 304)
        have hm : rz_RZ (fg_u2 (fg_u2 (fg_u2 (fg_u2 (fg_u2 ν4 290 (1 + (4 * (c.2.2.2.2.2 0))) (nI (16 - 11))) 290 ((1 + (4 * (c.2.2.2.2.2 0))) + 1) (nI (a.1))) 290 ((1 + (4 * (c.2.2.2.2.2 0))) + 2) (nI (b9.1))) 290 ((1 + (4 * (c.2.2.2.2.2 0))) + 3) (nI (c.1))) 290 0 (nI ((c.2.2.2.2.2 0) + 1))) b len (rz_dn 16 (rz_dm (pz_K b len) (pz_V b len) (pz_S b len) t.2 16)) := by
          have e9 : rz_dm (pz_K b len) (pz_V b len) (pz_S b len) t.2 16 = (a.1, b9.1, c.1, c.2) := (by
            show rz_dq (pz_K b len) (pz_V b len) (pz_S b len) (rz_nu (pz_K b len) (pz_V b len) (pz_S b len) 0 (4 + 1) t.2) = _
            rw [ha]
            unfold rz_dq
            have h1 : rz_nu (pz_K b len) (pz_V b len) (pz_S b len) 0 5 (rz_dup (pz_K b len) (pz_V b len) (pz_S b len) a.1 a.2) = b9 := hb9
            have h2 : rz_nu (pz_K b len) (pz_V b len) (pz_S b len) 0 10 b9.2 = c := hc9
            rw [h1]
            show (a.1, b9.1, (rz_nu (pz_K b len) (pz_V b len) (pz_S b len) 0 10 b9.2).1, (rz_nu (pz_K b len) (pz_V b len) (pz_S b len) 0 10 b9.2).2) = _
            rw [h2])
          rw [e9]
          show rz_RZ _ b len (rz_pd 5 a.1 b9.1 c.1 c.2)
          unfold rz_pd
          rw [if_pos (by omega)]
          exact (((((h4).put).put).put).put).put
        have agm : rz_ag μ (fg_u2 (fg_u2 (fg_u2 (fg_u2 (fg_u2 ν4 290 (1 + (4 * (c.2.2.2.2.2 0))) (nI (16 - 11))) 290 ((1 + (4 * (c.2.2.2.2.2 0))) + 1) (nI (a.1))) 290 ((1 + (4 * (c.2.2.2.2.2 0))) + 2) (nI (b9.1))) 290 ((1 + (4 * (c.2.2.2.2.2 0))) + 3) (nI (c.1))) 290 0 (nI ((c.2.2.2.2.2 0) + 1))) := fun a j p q r => (fg_u2ne r).trans ((fg_u2ne r).trans ((fg_u2ne r).trans ((fg_u2ne r).trans ((fg_u2ne r).trans (ag4 a j p q r)))))
        refine fg_aloadn (fg_ft (pc := 202) tb_Mo_dayLine 122 rfl) rfl ?_
        refine fg_callV (fg_ft (pc := 203) tb_Mo_dayLine 123 rfl) cf_Mo_153 (fg_isOf ly_287 rfl (fg_lt ly_287 (by decide))) (as := []) (st := []) rfl rfl (Nat.le_of_ble_eq_true rfl) (Nat.le_refl _) (Nat.le_refl _) (ev_Mo_endsLine hle hb256 hm ?_)
        intro ν6 hg6 h6
        have ag6 := rz_ag_tr agm hg6
        show fg_wp _ _ _ _ _ _ _ _ _ (ν6, fg_rho R, 304)
        exact fg_vret (fg_ft (pc := 206) tb_Mo_dayLine 124 rfl) rfl rfl (hQ _ ag6 h6)
    · have hK1 := c67
      refine fg_aloadn (fg_ft (pc := 70) tb_Mo_dayLine 41 rfl) rfl ?_
      refine fg_getV (v := (nI (pz_V b len a.2.1))) (fg_ft (pc := 71) tb_Mo_dayLine 42 rfl) ff_Mo_100 ly_287 rfl (fg_lt ly_287 (by decide)) (h2.2.1.2.2.2.1 hK1) ?_
      refine fg_iloadn (fg_ft (pc := 74) tb_Mo_dayLine 43 rfl) rfl ?_
      refine fg_icmp_neW (tgt := 87) (fg_ft (pc := 75) tb_Mo_dayLine 44 rfl) (by decide) (Nat.lt_trans (show _ < 2 ^ 31 from by have := (pz_sp_i b len a.2.1).2.2.2.2.2.2.1; omega) (by decide)) (by have := hab; omega) (fun c75 => ?_) (fun c75 => ?_)
      · have hd : rz_RZ ν2 b len (rz_dup (pz_K b len) (pz_V b len) (pz_S b len) a.1 a.2) := by
          unfold rz_dup
          rw [if_neg (fun q => by first | exact c67 q.1 | exact c75 q.2)]
          exact h2
        refine fg_aloadn (fg_ft (pc := 87) tb_Mo_dayLine 50 rfl) rfl ?_
        refine fg_iconst (fg_ft (pc := 88) tb_Mo_dayLine 51 rfl) ic_0 ?_
        refine fg_iconst (fg_ft (pc := 89) tb_Mo_dayLine 52 rfl) ic_4 ?_
        refine fg_callV (fg_ft (pc := 90) tb_Mo_dayLine 53 rfl) cf_Mo_121 (fg_isOf ly_287 rfl (fg_lt ly_287 (by decide))) (as := [.int (nI 0), .int (nI 4)]) (st := []) rfl rfl (Nat.le_of_ble_eq_true rfl) (Nat.le_refl _) (Nat.le_refl _) (ev_Mo_numbered (lo := 0) (hi := 4 + 1) hle hb256 hd (rz_m (by decide) (by decide)) ?_)
        intro ν7 hg7 h7
        have ag7 := rz_ag_tr ag2 hg7
        obtain ⟨b9, hb9⟩ : ∃ x, (rz_nu (pz_K b len) (pz_V b len) (pz_S b len) 0 (4 + 1) (rz_dup (pz_K b len) (pz_V b len) (pz_S b len) a.1 a.2)) = x := ⟨_, rfl⟩
        rw [hb9] at h7 ⊢
        show fg_wp _ _ _ _ _ _ _ _ _ (ν7, fg_rho R, 304)
        refine fg_istore (fg_ft (pc := 93) tb_Mo_dayLine 54 rfl) (Nat.le_of_ble_eq_true rfl) ?_
        refine fg_aloadn (fg_ft (pc := 95) tb_Mo_dayLine 55 rfl) rfl ?_
        refine fg_iconst (fg_ft (pc := 96) tb_Mo_dayLine 56 rfl) ic_0 ?_
        refine fg_bipush (fg_ft (pc := 97) tb_Mo_dayLine 57 rfl) ib_9 ?_
        refine fg_callV (fg_ft (pc := 99) tb_Mo_dayLine 58 rfl) cf_Mo_121 (fg_isOf ly_287 rfl (fg_lt ly_287 (by decide))) (as := [.int (nI 0), .int (nI 9)]) (st := []) rfl rfl (Nat.le_of_ble_eq_true rfl) (Nat.le_refl _) (Nat.le_refl _) (ev_Mo_numbered (lo := 0) (hi := 9 + 1) hle hb256 h7 (rz_m (by decide) (by decide)) ?_)
        intro ν8 hg8 h8
        have ag8 := rz_ag_tr ag7 hg8
        obtain ⟨c, hc9⟩ : ∃ x, (rz_nu (pz_K b len) (pz_V b len) (pz_S b len) 0 (9 + 1) b9.2) = x := ⟨_, rfl⟩
        rw [hc9] at h8 ⊢
        show fg_wp _ _ _ _ _ _ _ _ _ (ν8, fg_rho R, 304)
        refine fg_istore (fg_ft (pc := 102) tb_Mo_dayLine 59 rfl) (Nat.le_of_ble_eq_true rfl) ?_
        refine fg_goto (tgt := 126) (fg_ft (pc := 104) tb_Mo_dayLine 60 rfl) (by decide) ?_
        have hCf : c.2.2.2.2.2 = Z.2.2.2.2 := by rw [← hc9, rz_nu_C, ← hb9, rz_nu_C, rz_dup_C, hCa]
        have hb1 : c.2.2.2.2.2 0 ≤ 700 := by rw [hCf]; exact hcnt
        refine fg_aloadn (fg_ft (pc := 126) tb_Mo_dayLine 71 rfl) rfl ?_
        refine fg_getR (fg_ft (pc := 127) tb_Mo_dayLine 72 rfl) ff_Mo_17 ly_287 rfl (fg_lt ly_287 (by decide)) (rh_287_10 R) ?_
        refine fg_iconst (fg_ft (pc := 130) tb_Mo_dayLine 73 rfl) ic_0 ?_
        refine fg_ialdV (v := (nI (c.2.2.2.2.2 0))) (fg_ft (pc := 131) tb_Mo_dayLine 74 rfl) ly_290 (fg_lt ly_290 (by decide)) (by omega) (h8.2.2.2.2.2.2.1 0 (by omega)) ?_
        refine fg_bipush (fg_ft (pc := 132) tb_Mo_dayLine 75 rfl) ib_30 ?_
        refine fg_icmp_geN (tgt := 192) (fg_ft (pc := 134) tb_Mo_dayLine 76 rfl) (by decide) (by omega) (by decide) (fun c134 => ?_) (fun c134 => ?_)
        · refine fg_aloadn (fg_ft (pc := 192) tb_Mo_dayLine 114 rfl) rfl ?_
          refine fg_getR (fg_ft (pc := 193) tb_Mo_dayLine 115 rfl) ff_Mo_17 ly_287 rfl (fg_lt ly_287 (by decide)) (rh_287_10 R) ?_
          refine fg_iconst (fg_ft (pc := 196) tb_Mo_dayLine 116 rfl) ic_0 ?_
          refine fg_dup2 (fg_ft (pc := 197) tb_Mo_dayLine 117 rfl) rfl rfl ?_
          refine fg_ialdV (v := (nI (c.2.2.2.2.2 0))) (fg_ft (pc := 198) tb_Mo_dayLine 118 rfl) ly_290 (fg_lt ly_290 (by decide)) (by omega) (h8.2.2.2.2.2.2.1 0 (by omega)) ?_
          refine fg_iconst (fg_ft (pc := 199) tb_Mo_dayLine 119 rfl) ic_1 ?_
          refine fg_iaddN (fg_ft (pc := 200) tb_Mo_dayLine 120 rfl) ?_
          refine fg_iastN (fg_ft (pc := 201) tb_Mo_dayLine 121 rfl) ly_290 (fg_lt ly_290 (by decide)) (by omega) ?_
          show fg_wp _ _ _ _ _ _ _ _ _ (fg_u2 ν8 290 0 (nI ((c.2.2.2.2.2 0) + 1)), fg_rho R, 304)
          have hm : rz_RZ (fg_u2 ν8 290 0 (nI ((c.2.2.2.2.2 0) + 1))) b len (rz_dn 16 (rz_dm (pz_K b len) (pz_V b len) (pz_S b len) t.2 16)) := by
            have e9 : rz_dm (pz_K b len) (pz_V b len) (pz_S b len) t.2 16 = (a.1, b9.1, c.1, c.2) := (by
              show rz_dq (pz_K b len) (pz_V b len) (pz_S b len) (rz_nu (pz_K b len) (pz_V b len) (pz_S b len) 0 (4 + 1) t.2) = _
              rw [ha]
              unfold rz_dq
              have h1 : rz_nu (pz_K b len) (pz_V b len) (pz_S b len) 0 5 (rz_dup (pz_K b len) (pz_V b len) (pz_S b len) a.1 a.2) = b9 := hb9
              have h2 : rz_nu (pz_K b len) (pz_V b len) (pz_S b len) 0 10 b9.2 = c := hc9
              rw [h1]
              show (a.1, b9.1, (rz_nu (pz_K b len) (pz_V b len) (pz_S b len) 0 10 b9.2).1, (rz_nu (pz_K b len) (pz_V b len) (pz_S b len) 0 10 b9.2).2) = _
              rw [h2])
            rw [e9]
            show rz_RZ _ b len (rz_pd 5 a.1 b9.1 c.1 c.2)
            unfold rz_pd
            rw [if_neg (by omega)]
            exact (h8).put
          have agm : rz_ag μ (fg_u2 ν8 290 0 (nI ((c.2.2.2.2.2 0) + 1))) := fun a j p q r => (fg_u2ne r).trans (ag8 a j p q r)
          refine fg_aloadn (fg_ft (pc := 202) tb_Mo_dayLine 122 rfl) rfl ?_
          refine fg_callV (fg_ft (pc := 203) tb_Mo_dayLine 123 rfl) cf_Mo_153 (fg_isOf ly_287 rfl (fg_lt ly_287 (by decide))) (as := []) (st := []) rfl rfl (Nat.le_of_ble_eq_true rfl) (Nat.le_refl _) (Nat.le_refl _) (ev_Mo_endsLine hle hb256 hm ?_)
          intro ν9 hg9 h9
          have ag9 := rz_ag_tr agm hg9
          show fg_wp _ _ _ _ _ _ _ _ _ (ν9, fg_rho R, 304)
          exact fg_vret (fg_ft (pc := 206) tb_Mo_dayLine 124 rfl) rfl rfl (hQ _ ag9 h9)
        · refine fg_iconst (fg_ft (pc := 137) tb_Mo_dayLine 77 rfl) ic_1 ?_
          refine fg_iconst (fg_ft (pc := 138) tb_Mo_dayLine 78 rfl) ic_4 ?_
          refine fg_aloadn (fg_ft (pc := 139) tb_Mo_dayLine 79 rfl) rfl ?_
          refine fg_getR (fg_ft (pc := 140) tb_Mo_dayLine 80 rfl) ff_Mo_17 ly_287 rfl (fg_lt ly_287 (by decide)) (rh_287_10 R) ?_
          refine fg_iconst (fg_ft (pc := 143) tb_Mo_dayLine 81 rfl) ic_0 ?_
          refine fg_ialdV (v := (nI (c.2.2.2.2.2 0))) (fg_ft (pc := 144) tb_Mo_dayLine 82 rfl) ly_290 (fg_lt ly_290 (by decide)) (by omega) (h8.2.2.2.2.2.2.1 0 (by omega)) ?_
          refine fg_imulN (fg_ft (pc := 145) tb_Mo_dayLine 83 rfl) ?_
          refine fg_iaddN (fg_ft (pc := 146) tb_Mo_dayLine 84 rfl) ?_
          refine fg_istore (fg_ft (pc := 147) tb_Mo_dayLine 85 rfl) (Nat.le_of_ble_eq_true rfl) ?_
          refine fg_aloadn (fg_ft (pc := 149) tb_Mo_dayLine 86 rfl) rfl ?_
          refine fg_getR (fg_ft (pc := 150) tb_Mo_dayLine 87 rfl) ff_Mo_17 ly_287 rfl (fg_lt ly_287 (by decide)) (rh_287_10 R) ?_
          refine fg_iload (fg_ft (pc := 153) tb_Mo_dayLine 88 rfl) rfl ?_
          refine fg_iloadn (fg_ft (pc := 155) tb_Mo_dayLine 89 rfl) rfl ?_
          refine fg_bipush (fg_ft (pc := 156) tb_Mo_dayLine 90 rfl) ib_11 ?_
          refine fg_isubN (fg_ft (pc := 158) tb_Mo_dayLine 91 rfl) (by omega) ?_
          refine fg_iastN (fg_ft (pc := 159) tb_Mo_dayLine 92 rfl) ly_290 (fg_lt ly_290 (by decide)) (by omega) ?_
          show fg_wp _ _ _ _ _ _ _ _ _ (fg_u2 ν8 290 (1 + (4 * (c.2.2.2.2.2 0))) (nI (16 - 11)), fg_rho R, 304)
          refine fg_aloadn (fg_ft (pc := 160) tb_Mo_dayLine 93 rfl) rfl ?_
          refine fg_getR (fg_ft (pc := 161) tb_Mo_dayLine 94 rfl) ff_Mo_17 ly_287 rfl (fg_lt ly_287 (by decide)) (rh_287_10 R) ?_
          refine fg_iload (fg_ft (pc := 164) tb_Mo_dayLine 95 rfl) rfl ?_
          refine fg_iconst (fg_ft (pc := 166) tb_Mo_dayLine 96 rfl) ic_1 ?_
          refine fg_iaddN (fg_ft (pc := 167) tb_Mo_dayLine 97 rfl) ?_
          refine fg_iloadn (fg_ft (pc := 168) tb_Mo_dayLine 98 rfl) rfl ?_
          refine fg_iastN (fg_ft (pc := 169) tb_Mo_dayLine 99 rfl) ly_290 (fg_lt ly_290 (by decide)) (by omega) ?_
          show fg_wp _ _ _ _ _ _ _ _ _ (fg_u2 (fg_u2 ν8 290 (1 + (4 * (c.2.2.2.2.2 0))) (nI (16 - 11))) 290 ((1 + (4 * (c.2.2.2.2.2 0))) + 1) (nI (a.1)), fg_rho R, 304)
          refine fg_aloadn (fg_ft (pc := 170) tb_Mo_dayLine 100 rfl) rfl ?_
          refine fg_getR (fg_ft (pc := 171) tb_Mo_dayLine 101 rfl) ff_Mo_17 ly_287 rfl (fg_lt ly_287 (by decide)) (rh_287_10 R) ?_
          refine fg_iload (fg_ft (pc := 174) tb_Mo_dayLine 102 rfl) rfl ?_
          refine fg_iconst (fg_ft (pc := 176) tb_Mo_dayLine 103 rfl) ic_2 ?_
          refine fg_iaddN (fg_ft (pc := 177) tb_Mo_dayLine 104 rfl) ?_
          refine fg_iload (fg_ft (pc := 178) tb_Mo_dayLine 105 rfl) rfl ?_
          refine fg_iastN (fg_ft (pc := 180) tb_Mo_dayLine 106 rfl) ly_290 (fg_lt ly_290 (by decide)) (by omega) ?_
          show fg_wp _ _ _ _ _ _ _ _ _ (fg_u2 (fg_u2 (fg_u2 ν8 290 (1 + (4 * (c.2.2.2.2.2 0))) (nI (16 - 11))) 290 ((1 + (4 * (c.2.2.2.2.2 0))) + 1) (nI (a.1))) 290 ((1 + (4 * (c.2.2.2.2.2 0))) + 2) (nI (b9.1)), fg_rho R, 304)
          refine fg_aloadn (fg_ft (pc := 181) tb_Mo_dayLine 107 rfl) rfl ?_
          refine fg_getR (fg_ft (pc := 182) tb_Mo_dayLine 108 rfl) ff_Mo_17 ly_287 rfl (fg_lt ly_287 (by decide)) (rh_287_10 R) ?_
          refine fg_iload (fg_ft (pc := 185) tb_Mo_dayLine 109 rfl) rfl ?_
          refine fg_iconst (fg_ft (pc := 187) tb_Mo_dayLine 110 rfl) ic_3 ?_
          refine fg_iaddN (fg_ft (pc := 188) tb_Mo_dayLine 111 rfl) ?_
          refine fg_iload (fg_ft (pc := 189) tb_Mo_dayLine 112 rfl) rfl ?_
          refine fg_iastN (fg_ft (pc := 191) tb_Mo_dayLine 113 rfl) ly_290 (fg_lt ly_290 (by decide)) (by omega) ?_
          show fg_wp _ _ _ _ _ _ _ _ _ (fg_u2 (fg_u2 (fg_u2 (fg_u2 ν8 290 (1 + (4 * (c.2.2.2.2.2 0))) (nI (16 - 11))) 290 ((1 + (4 * (c.2.2.2.2.2 0))) + 1) (nI (a.1))) 290 ((1 + (4 * (c.2.2.2.2.2 0))) + 2) (nI (b9.1))) 290 ((1 + (4 * (c.2.2.2.2.2 0))) + 3) (nI (c.1)), fg_rho R, 304)
          refine fg_aloadn (fg_ft (pc := 192) tb_Mo_dayLine 114 rfl) rfl ?_
          refine fg_getR (fg_ft (pc := 193) tb_Mo_dayLine 115 rfl) ff_Mo_17 ly_287 rfl (fg_lt ly_287 (by decide)) (rh_287_10 R) ?_
          refine fg_iconst (fg_ft (pc := 196) tb_Mo_dayLine 116 rfl) ic_0 ?_
          refine fg_dup2 (fg_ft (pc := 197) tb_Mo_dayLine 117 rfl) rfl rfl ?_
          refine fg_ialdV (v := (nI (c.2.2.2.2.2 0))) (fg_ft (pc := 198) tb_Mo_dayLine 118 rfl) ly_290 (fg_lt ly_290 (by decide)) (by omega) ((fg_u2ns (f := (fg_u2 (fg_u2 (fg_u2 ν8 290 (1 + (4 * (c.2.2.2.2.2 0))) (nI (16 - 11))) 290 ((1 + (4 * (c.2.2.2.2.2 0))) + 1) (nI (a.1))) 290 ((1 + (4 * (c.2.2.2.2.2 0))) + 2) (nI (b9.1)))) (a := 290) (k := ((1 + (4 * (c.2.2.2.2.2 0))) + 3)) (b := 290) (j := 0) (x := (nI (c.1))) (by omega)).trans ((fg_u2ns (f := (fg_u2 (fg_u2 ν8 290 (1 + (4 * (c.2.2.2.2.2 0))) (nI (16 - 11))) 290 ((1 + (4 * (c.2.2.2.2.2 0))) + 1) (nI (a.1)))) (a := 290) (k := ((1 + (4 * (c.2.2.2.2.2 0))) + 2)) (b := 290) (j := 0) (x := (nI (b9.1))) (by omega)).trans ((fg_u2ns (f := (fg_u2 ν8 290 (1 + (4 * (c.2.2.2.2.2 0))) (nI (16 - 11)))) (a := 290) (k := ((1 + (4 * (c.2.2.2.2.2 0))) + 1)) (b := 290) (j := 0) (x := (nI (a.1))) (by omega)).trans ((fg_u2ns (f := ν8) (a := 290) (k := (1 + (4 * (c.2.2.2.2.2 0)))) (b := 290) (j := 0) (x := (nI (16 - 11))) (by omega)).trans (h8.2.2.2.2.2.2.1 0 (by omega)))))) ?_
          refine fg_iconst (fg_ft (pc := 199) tb_Mo_dayLine 119 rfl) ic_1 ?_
          refine fg_iaddN (fg_ft (pc := 200) tb_Mo_dayLine 120 rfl) ?_
          refine fg_iastN (fg_ft (pc := 201) tb_Mo_dayLine 121 rfl) ly_290 (fg_lt ly_290 (by decide)) (by omega) ?_
          show fg_wp _ _ _ _ _ _ _ _ _ (fg_u2 (fg_u2 (fg_u2 (fg_u2 (fg_u2 ν8 290 (1 + (4 * (c.2.2.2.2.2 0))) (nI (16 - 11))) 290 ((1 + (4 * (c.2.2.2.2.2 0))) + 1) (nI (a.1))) 290 ((1 + (4 * (c.2.2.2.2.2 0))) + 2) (nI (b9.1))) 290 ((1 + (4 * (c.2.2.2.2.2 0))) + 3) (nI (c.1))) 290 0 (nI ((c.2.2.2.2.2 0) + 1)), fg_rho R, 304)
          have hm : rz_RZ (fg_u2 (fg_u2 (fg_u2 (fg_u2 (fg_u2 ν8 290 (1 + (4 * (c.2.2.2.2.2 0))) (nI (16 - 11))) 290 ((1 + (4 * (c.2.2.2.2.2 0))) + 1) (nI (a.1))) 290 ((1 + (4 * (c.2.2.2.2.2 0))) + 2) (nI (b9.1))) 290 ((1 + (4 * (c.2.2.2.2.2 0))) + 3) (nI (c.1))) 290 0 (nI ((c.2.2.2.2.2 0) + 1))) b len (rz_dn 16 (rz_dm (pz_K b len) (pz_V b len) (pz_S b len) t.2 16)) := by
            have e9 : rz_dm (pz_K b len) (pz_V b len) (pz_S b len) t.2 16 = (a.1, b9.1, c.1, c.2) := (by
              show rz_dq (pz_K b len) (pz_V b len) (pz_S b len) (rz_nu (pz_K b len) (pz_V b len) (pz_S b len) 0 (4 + 1) t.2) = _
              rw [ha]
              unfold rz_dq
              have h1 : rz_nu (pz_K b len) (pz_V b len) (pz_S b len) 0 5 (rz_dup (pz_K b len) (pz_V b len) (pz_S b len) a.1 a.2) = b9 := hb9
              have h2 : rz_nu (pz_K b len) (pz_V b len) (pz_S b len) 0 10 b9.2 = c := hc9
              rw [h1]
              show (a.1, b9.1, (rz_nu (pz_K b len) (pz_V b len) (pz_S b len) 0 10 b9.2).1, (rz_nu (pz_K b len) (pz_V b len) (pz_S b len) 0 10 b9.2).2) = _
              rw [h2])
            rw [e9]
            show rz_RZ _ b len (rz_pd 5 a.1 b9.1 c.1 c.2)
            unfold rz_pd
            rw [if_pos (by omega)]
            exact (((((h8).put).put).put).put).put
          have agm : rz_ag μ (fg_u2 (fg_u2 (fg_u2 (fg_u2 (fg_u2 ν8 290 (1 + (4 * (c.2.2.2.2.2 0))) (nI (16 - 11))) 290 ((1 + (4 * (c.2.2.2.2.2 0))) + 1) (nI (a.1))) 290 ((1 + (4 * (c.2.2.2.2.2 0))) + 2) (nI (b9.1))) 290 ((1 + (4 * (c.2.2.2.2.2 0))) + 3) (nI (c.1))) 290 0 (nI ((c.2.2.2.2.2 0) + 1))) := fun a j p q r => (fg_u2ne r).trans ((fg_u2ne r).trans ((fg_u2ne r).trans ((fg_u2ne r).trans ((fg_u2ne r).trans (ag8 a j p q r)))))
          refine fg_aloadn (fg_ft (pc := 202) tb_Mo_dayLine 122 rfl) rfl ?_
          refine fg_callV (fg_ft (pc := 203) tb_Mo_dayLine 123 rfl) cf_Mo_153 (fg_isOf ly_287 rfl (fg_lt ly_287 (by decide))) (as := []) (st := []) rfl rfl (Nat.le_of_ble_eq_true rfl) (Nat.le_refl _) (Nat.le_refl _) (ev_Mo_endsLine hle hb256 hm ?_)
          intro ν10 hg10 h10
          have ag10 := rz_ag_tr agm hg10
          show fg_wp _ _ _ _ _ _ _ _ _ (ν10, fg_rho R, 304)
          exact fg_vret (fg_ft (pc := 206) tb_Mo_dayLine 124 rfl) rfl rfl (hQ _ ag10 h10)
      · refine fg_aloadn (fg_ft (pc := 78) tb_Mo_dayLine 45 rfl) rfl ?_
        refine fg_iconst (fg_ft (pc := 79) tb_Mo_dayLine 46 rfl) ic_2 ?_
        refine fg_aloadn (fg_ft (pc := 80) tb_Mo_dayLine 47 rfl) rfl ?_
        refine fg_getV (v := (nI (pz_S b len a.2.1))) (fg_ft (pc := 81) tb_Mo_dayLine 48 rfl) ff_Mo_81 ly_287 rfl (fg_lt ly_287 (by decide)) h2.2.1.2.1 ?_
        refine fg_callV (fg_ft (pc := 84) tb_Mo_dayLine 49 rfl) cf_Mo_114 (fg_isOf ly_287 rfl (fg_lt ly_287 (by decide))) (as := [.int (nI 2), .int (nI (pz_S b len a.2.1))]) (st := []) rfl rfl (Nat.le_of_ble_eq_true rfl) (Nat.le_refl _) (Nat.le_refl _) (ev_Mo_also (kd := 2) (at9 := (pz_S b len a.2.1)) hle hb256 h2 (by decide) (by decide) (by decide) (rz_S_le hle) ?_)
        intro ν11 hg11 h11
        have ag11 := rz_ag_tr ag2 hg11
        show fg_wp _ _ _ _ _ _ _ _ _ (ν11, fg_rho R, 304)
        have hd : rz_RZ ν11 b len (rz_dup (pz_K b len) (pz_V b len) (pz_S b len) a.1 a.2) := by
          unfold rz_dup
          rw [if_pos ⟨c67, c75⟩]
          exact h11
        refine fg_aloadn (fg_ft (pc := 87) tb_Mo_dayLine 50 rfl) rfl ?_
        refine fg_iconst (fg_ft (pc := 88) tb_Mo_dayLine 51 rfl) ic_0 ?_
        refine fg_iconst (fg_ft (pc := 89) tb_Mo_dayLine 52 rfl) ic_4 ?_
        refine fg_callV (fg_ft (pc := 90) tb_Mo_dayLine 53 rfl) cf_Mo_121 (fg_isOf ly_287 rfl (fg_lt ly_287 (by decide))) (as := [.int (nI 0), .int (nI 4)]) (st := []) rfl rfl (Nat.le_of_ble_eq_true rfl) (Nat.le_refl _) (Nat.le_refl _) (ev_Mo_numbered (lo := 0) (hi := 4 + 1) hle hb256 hd (rz_m (by decide) (by decide)) ?_)
        intro ν12 hg12 h12
        have ag12 := rz_ag_tr ag11 hg12
        obtain ⟨b9, hb9⟩ : ∃ x, (rz_nu (pz_K b len) (pz_V b len) (pz_S b len) 0 (4 + 1) (rz_dup (pz_K b len) (pz_V b len) (pz_S b len) a.1 a.2)) = x := ⟨_, rfl⟩
        rw [hb9] at h12 ⊢
        show fg_wp _ _ _ _ _ _ _ _ _ (ν12, fg_rho R, 304)
        refine fg_istore (fg_ft (pc := 93) tb_Mo_dayLine 54 rfl) (Nat.le_of_ble_eq_true rfl) ?_
        refine fg_aloadn (fg_ft (pc := 95) tb_Mo_dayLine 55 rfl) rfl ?_
        refine fg_iconst (fg_ft (pc := 96) tb_Mo_dayLine 56 rfl) ic_0 ?_
        refine fg_bipush (fg_ft (pc := 97) tb_Mo_dayLine 57 rfl) ib_9 ?_
        refine fg_callV (fg_ft (pc := 99) tb_Mo_dayLine 58 rfl) cf_Mo_121 (fg_isOf ly_287 rfl (fg_lt ly_287 (by decide))) (as := [.int (nI 0), .int (nI 9)]) (st := []) rfl rfl (Nat.le_of_ble_eq_true rfl) (Nat.le_refl _) (Nat.le_refl _) (ev_Mo_numbered (lo := 0) (hi := 9 + 1) hle hb256 h12 (rz_m (by decide) (by decide)) ?_)
        intro ν13 hg13 h13
        have ag13 := rz_ag_tr ag12 hg13
        obtain ⟨c, hc9⟩ : ∃ x, (rz_nu (pz_K b len) (pz_V b len) (pz_S b len) 0 (9 + 1) b9.2) = x := ⟨_, rfl⟩
        rw [hc9] at h13 ⊢
        show fg_wp _ _ _ _ _ _ _ _ _ (ν13, fg_rho R, 304)
        refine fg_istore (fg_ft (pc := 102) tb_Mo_dayLine 59 rfl) (Nat.le_of_ble_eq_true rfl) ?_
        refine fg_goto (tgt := 126) (fg_ft (pc := 104) tb_Mo_dayLine 60 rfl) (by decide) ?_
        have hCf : c.2.2.2.2.2 = Z.2.2.2.2 := by rw [← hc9, rz_nu_C, ← hb9, rz_nu_C, rz_dup_C, hCa]
        have hb1 : c.2.2.2.2.2 0 ≤ 700 := by rw [hCf]; exact hcnt
        refine fg_aloadn (fg_ft (pc := 126) tb_Mo_dayLine 71 rfl) rfl ?_
        refine fg_getR (fg_ft (pc := 127) tb_Mo_dayLine 72 rfl) ff_Mo_17 ly_287 rfl (fg_lt ly_287 (by decide)) (rh_287_10 R) ?_
        refine fg_iconst (fg_ft (pc := 130) tb_Mo_dayLine 73 rfl) ic_0 ?_
        refine fg_ialdV (v := (nI (c.2.2.2.2.2 0))) (fg_ft (pc := 131) tb_Mo_dayLine 74 rfl) ly_290 (fg_lt ly_290 (by decide)) (by omega) (h13.2.2.2.2.2.2.1 0 (by omega)) ?_
        refine fg_bipush (fg_ft (pc := 132) tb_Mo_dayLine 75 rfl) ib_30 ?_
        refine fg_icmp_geN (tgt := 192) (fg_ft (pc := 134) tb_Mo_dayLine 76 rfl) (by decide) (by omega) (by decide) (fun c134 => ?_) (fun c134 => ?_)
        · refine fg_aloadn (fg_ft (pc := 192) tb_Mo_dayLine 114 rfl) rfl ?_
          refine fg_getR (fg_ft (pc := 193) tb_Mo_dayLine 115 rfl) ff_Mo_17 ly_287 rfl (fg_lt ly_287 (by decide)) (rh_287_10 R) ?_
          refine fg_iconst (fg_ft (pc := 196) tb_Mo_dayLine 116 rfl) ic_0 ?_
          refine fg_dup2 (fg_ft (pc := 197) tb_Mo_dayLine 117 rfl) rfl rfl ?_
          refine fg_ialdV (v := (nI (c.2.2.2.2.2 0))) (fg_ft (pc := 198) tb_Mo_dayLine 118 rfl) ly_290 (fg_lt ly_290 (by decide)) (by omega) (h13.2.2.2.2.2.2.1 0 (by omega)) ?_
          refine fg_iconst (fg_ft (pc := 199) tb_Mo_dayLine 119 rfl) ic_1 ?_
          refine fg_iaddN (fg_ft (pc := 200) tb_Mo_dayLine 120 rfl) ?_
          refine fg_iastN (fg_ft (pc := 201) tb_Mo_dayLine 121 rfl) ly_290 (fg_lt ly_290 (by decide)) (by omega) ?_
          show fg_wp _ _ _ _ _ _ _ _ _ (fg_u2 ν13 290 0 (nI ((c.2.2.2.2.2 0) + 1)), fg_rho R, 304)
          have hm : rz_RZ (fg_u2 ν13 290 0 (nI ((c.2.2.2.2.2 0) + 1))) b len (rz_dn 16 (rz_dm (pz_K b len) (pz_V b len) (pz_S b len) t.2 16)) := by
            have e9 : rz_dm (pz_K b len) (pz_V b len) (pz_S b len) t.2 16 = (a.1, b9.1, c.1, c.2) := (by
              show rz_dq (pz_K b len) (pz_V b len) (pz_S b len) (rz_nu (pz_K b len) (pz_V b len) (pz_S b len) 0 (4 + 1) t.2) = _
              rw [ha]
              unfold rz_dq
              have h1 : rz_nu (pz_K b len) (pz_V b len) (pz_S b len) 0 5 (rz_dup (pz_K b len) (pz_V b len) (pz_S b len) a.1 a.2) = b9 := hb9
              have h2 : rz_nu (pz_K b len) (pz_V b len) (pz_S b len) 0 10 b9.2 = c := hc9
              rw [h1]
              show (a.1, b9.1, (rz_nu (pz_K b len) (pz_V b len) (pz_S b len) 0 10 b9.2).1, (rz_nu (pz_K b len) (pz_V b len) (pz_S b len) 0 10 b9.2).2) = _
              rw [h2])
            rw [e9]
            show rz_RZ _ b len (rz_pd 5 a.1 b9.1 c.1 c.2)
            unfold rz_pd
            rw [if_neg (by omega)]
            exact (h13).put
          have agm : rz_ag μ (fg_u2 ν13 290 0 (nI ((c.2.2.2.2.2 0) + 1))) := fun a j p q r => (fg_u2ne r).trans (ag13 a j p q r)
          refine fg_aloadn (fg_ft (pc := 202) tb_Mo_dayLine 122 rfl) rfl ?_
          refine fg_callV (fg_ft (pc := 203) tb_Mo_dayLine 123 rfl) cf_Mo_153 (fg_isOf ly_287 rfl (fg_lt ly_287 (by decide))) (as := []) (st := []) rfl rfl (Nat.le_of_ble_eq_true rfl) (Nat.le_refl _) (Nat.le_refl _) (ev_Mo_endsLine hle hb256 hm ?_)
          intro ν14 hg14 h14
          have ag14 := rz_ag_tr agm hg14
          show fg_wp _ _ _ _ _ _ _ _ _ (ν14, fg_rho R, 304)
          exact fg_vret (fg_ft (pc := 206) tb_Mo_dayLine 124 rfl) rfl rfl (hQ _ ag14 h14)
        · refine fg_iconst (fg_ft (pc := 137) tb_Mo_dayLine 77 rfl) ic_1 ?_
          refine fg_iconst (fg_ft (pc := 138) tb_Mo_dayLine 78 rfl) ic_4 ?_
          refine fg_aloadn (fg_ft (pc := 139) tb_Mo_dayLine 79 rfl) rfl ?_
          refine fg_getR (fg_ft (pc := 140) tb_Mo_dayLine 80 rfl) ff_Mo_17 ly_287 rfl (fg_lt ly_287 (by decide)) (rh_287_10 R) ?_
          refine fg_iconst (fg_ft (pc := 143) tb_Mo_dayLine 81 rfl) ic_0 ?_
          refine fg_ialdV (v := (nI (c.2.2.2.2.2 0))) (fg_ft (pc := 144) tb_Mo_dayLine 82 rfl) ly_290 (fg_lt ly_290 (by decide)) (by omega) (h13.2.2.2.2.2.2.1 0 (by omega)) ?_
          refine fg_imulN (fg_ft (pc := 145) tb_Mo_dayLine 83 rfl) ?_
          refine fg_iaddN (fg_ft (pc := 146) tb_Mo_dayLine 84 rfl) ?_
          refine fg_istore (fg_ft (pc := 147) tb_Mo_dayLine 85 rfl) (Nat.le_of_ble_eq_true rfl) ?_
          refine fg_aloadn (fg_ft (pc := 149) tb_Mo_dayLine 86 rfl) rfl ?_
          refine fg_getR (fg_ft (pc := 150) tb_Mo_dayLine 87 rfl) ff_Mo_17 ly_287 rfl (fg_lt ly_287 (by decide)) (rh_287_10 R) ?_
          refine fg_iload (fg_ft (pc := 153) tb_Mo_dayLine 88 rfl) rfl ?_
          refine fg_iloadn (fg_ft (pc := 155) tb_Mo_dayLine 89 rfl) rfl ?_
          refine fg_bipush (fg_ft (pc := 156) tb_Mo_dayLine 90 rfl) ib_11 ?_
          refine fg_isubN (fg_ft (pc := 158) tb_Mo_dayLine 91 rfl) (by omega) ?_
          refine fg_iastN (fg_ft (pc := 159) tb_Mo_dayLine 92 rfl) ly_290 (fg_lt ly_290 (by decide)) (by omega) ?_
          show fg_wp _ _ _ _ _ _ _ _ _ (fg_u2 ν13 290 (1 + (4 * (c.2.2.2.2.2 0))) (nI (16 - 11)), fg_rho R, 304)
          refine fg_aloadn (fg_ft (pc := 160) tb_Mo_dayLine 93 rfl) rfl ?_
          refine fg_getR (fg_ft (pc := 161) tb_Mo_dayLine 94 rfl) ff_Mo_17 ly_287 rfl (fg_lt ly_287 (by decide)) (rh_287_10 R) ?_
          refine fg_iload (fg_ft (pc := 164) tb_Mo_dayLine 95 rfl) rfl ?_
          refine fg_iconst (fg_ft (pc := 166) tb_Mo_dayLine 96 rfl) ic_1 ?_
          refine fg_iaddN (fg_ft (pc := 167) tb_Mo_dayLine 97 rfl) ?_
          refine fg_iloadn (fg_ft (pc := 168) tb_Mo_dayLine 98 rfl) rfl ?_
          refine fg_iastN (fg_ft (pc := 169) tb_Mo_dayLine 99 rfl) ly_290 (fg_lt ly_290 (by decide)) (by omega) ?_
          show fg_wp _ _ _ _ _ _ _ _ _ (fg_u2 (fg_u2 ν13 290 (1 + (4 * (c.2.2.2.2.2 0))) (nI (16 - 11))) 290 ((1 + (4 * (c.2.2.2.2.2 0))) + 1) (nI (a.1)), fg_rho R, 304)
          refine fg_aloadn (fg_ft (pc := 170) tb_Mo_dayLine 100 rfl) rfl ?_
          refine fg_getR (fg_ft (pc := 171) tb_Mo_dayLine 101 rfl) ff_Mo_17 ly_287 rfl (fg_lt ly_287 (by decide)) (rh_287_10 R) ?_
          refine fg_iload (fg_ft (pc := 174) tb_Mo_dayLine 102 rfl) rfl ?_
          refine fg_iconst (fg_ft (pc := 176) tb_Mo_dayLine 103 rfl) ic_2 ?_
          refine fg_iaddN (fg_ft (pc := 177) tb_Mo_dayLine 104 rfl) ?_
          refine fg_iload (fg_ft (pc := 178) tb_Mo_dayLine 105 rfl) rfl ?_
          refine fg_iastN (fg_ft (pc := 180) tb_Mo_dayLine 106 rfl) ly_290 (fg_lt ly_290 (by decide)) (by omega) ?_
          show fg_wp _ _ _ _ _ _ _ _ _ (fg_u2 (fg_u2 (fg_u2 ν13 290 (1 + (4 * (c.2.2.2.2.2 0))) (nI (16 - 11))) 290 ((1 + (4 * (c.2.2.2.2.2 0))) + 1) (nI (a.1))) 290 ((1 + (4 * (c.2.2.2.2.2 0))) + 2) (nI (b9.1)), fg_rho R, 304)
          refine fg_aloadn (fg_ft (pc := 181) tb_Mo_dayLine 107 rfl) rfl ?_
          refine fg_getR (fg_ft (pc := 182) tb_Mo_dayLine 108 rfl) ff_Mo_17 ly_287 rfl (fg_lt ly_287 (by decide)) (rh_287_10 R) ?_
          refine fg_iload (fg_ft (pc := 185) tb_Mo_dayLine 109 rfl) rfl ?_
          refine fg_iconst (fg_ft (pc := 187) tb_Mo_dayLine 110 rfl) ic_3 ?_
          refine fg_iaddN (fg_ft (pc := 188) tb_Mo_dayLine 111 rfl) ?_
          refine fg_iload (fg_ft (pc := 189) tb_Mo_dayLine 112 rfl) rfl ?_
          refine fg_iastN (fg_ft (pc := 191) tb_Mo_dayLine 113 rfl) ly_290 (fg_lt ly_290 (by decide)) (by omega) ?_
          show fg_wp _ _ _ _ _ _ _ _ _ (fg_u2 (fg_u2 (fg_u2 (fg_u2 ν13 290 (1 + (4 * (c.2.2.2.2.2 0))) (nI (16 - 11))) 290 ((1 + (4 * (c.2.2.2.2.2 0))) + 1) (nI (a.1))) 290 ((1 + (4 * (c.2.2.2.2.2 0))) + 2) (nI (b9.1))) 290 ((1 + (4 * (c.2.2.2.2.2 0))) + 3) (nI (c.1)), fg_rho R, 304)
          refine fg_aloadn (fg_ft (pc := 192) tb_Mo_dayLine 114 rfl) rfl ?_
          refine fg_getR (fg_ft (pc := 193) tb_Mo_dayLine 115 rfl) ff_Mo_17 ly_287 rfl (fg_lt ly_287 (by decide)) (rh_287_10 R) ?_
          refine fg_iconst (fg_ft (pc := 196) tb_Mo_dayLine 116 rfl) ic_0 ?_
          refine fg_dup2 (fg_ft (pc := 197) tb_Mo_dayLine 117 rfl) rfl rfl ?_
          refine fg_ialdV (v := (nI (c.2.2.2.2.2 0))) (fg_ft (pc := 198) tb_Mo_dayLine 118 rfl) ly_290 (fg_lt ly_290 (by decide)) (by omega) ((fg_u2ns (f := (fg_u2 (fg_u2 (fg_u2 ν13 290 (1 + (4 * (c.2.2.2.2.2 0))) (nI (16 - 11))) 290 ((1 + (4 * (c.2.2.2.2.2 0))) + 1) (nI (a.1))) 290 ((1 + (4 * (c.2.2.2.2.2 0))) + 2) (nI (b9.1)))) (a := 290) (k := ((1 + (4 * (c.2.2.2.2.2 0))) + 3)) (b := 290) (j := 0) (x := (nI (c.1))) (by omega)).trans ((fg_u2ns (f := (fg_u2 (fg_u2 ν13 290 (1 + (4 * (c.2.2.2.2.2 0))) (nI (16 - 11))) 290 ((1 + (4 * (c.2.2.2.2.2 0))) + 1) (nI (a.1)))) (a := 290) (k := ((1 + (4 * (c.2.2.2.2.2 0))) + 2)) (b := 290) (j := 0) (x := (nI (b9.1))) (by omega)).trans ((fg_u2ns (f := (fg_u2 ν13 290 (1 + (4 * (c.2.2.2.2.2 0))) (nI (16 - 11)))) (a := 290) (k := ((1 + (4 * (c.2.2.2.2.2 0))) + 1)) (b := 290) (j := 0) (x := (nI (a.1))) (by omega)).trans ((fg_u2ns (f := ν13) (a := 290) (k := (1 + (4 * (c.2.2.2.2.2 0)))) (b := 290) (j := 0) (x := (nI (16 - 11))) (by omega)).trans (h13.2.2.2.2.2.2.1 0 (by omega)))))) ?_
          refine fg_iconst (fg_ft (pc := 199) tb_Mo_dayLine 119 rfl) ic_1 ?_
          refine fg_iaddN (fg_ft (pc := 200) tb_Mo_dayLine 120 rfl) ?_
          refine fg_iastN (fg_ft (pc := 201) tb_Mo_dayLine 121 rfl) ly_290 (fg_lt ly_290 (by decide)) (by omega) ?_
          show fg_wp _ _ _ _ _ _ _ _ _ (fg_u2 (fg_u2 (fg_u2 (fg_u2 (fg_u2 ν13 290 (1 + (4 * (c.2.2.2.2.2 0))) (nI (16 - 11))) 290 ((1 + (4 * (c.2.2.2.2.2 0))) + 1) (nI (a.1))) 290 ((1 + (4 * (c.2.2.2.2.2 0))) + 2) (nI (b9.1))) 290 ((1 + (4 * (c.2.2.2.2.2 0))) + 3) (nI (c.1))) 290 0 (nI ((c.2.2.2.2.2 0) + 1)), fg_rho R, 304)
          have hm : rz_RZ (fg_u2 (fg_u2 (fg_u2 (fg_u2 (fg_u2 ν13 290 (1 + (4 * (c.2.2.2.2.2 0))) (nI (16 - 11))) 290 ((1 + (4 * (c.2.2.2.2.2 0))) + 1) (nI (a.1))) 290 ((1 + (4 * (c.2.2.2.2.2 0))) + 2) (nI (b9.1))) 290 ((1 + (4 * (c.2.2.2.2.2 0))) + 3) (nI (c.1))) 290 0 (nI ((c.2.2.2.2.2 0) + 1))) b len (rz_dn 16 (rz_dm (pz_K b len) (pz_V b len) (pz_S b len) t.2 16)) := by
            have e9 : rz_dm (pz_K b len) (pz_V b len) (pz_S b len) t.2 16 = (a.1, b9.1, c.1, c.2) := (by
              show rz_dq (pz_K b len) (pz_V b len) (pz_S b len) (rz_nu (pz_K b len) (pz_V b len) (pz_S b len) 0 (4 + 1) t.2) = _
              rw [ha]
              unfold rz_dq
              have h1 : rz_nu (pz_K b len) (pz_V b len) (pz_S b len) 0 5 (rz_dup (pz_K b len) (pz_V b len) (pz_S b len) a.1 a.2) = b9 := hb9
              have h2 : rz_nu (pz_K b len) (pz_V b len) (pz_S b len) 0 10 b9.2 = c := hc9
              rw [h1]
              show (a.1, b9.1, (rz_nu (pz_K b len) (pz_V b len) (pz_S b len) 0 10 b9.2).1, (rz_nu (pz_K b len) (pz_V b len) (pz_S b len) 0 10 b9.2).2) = _
              rw [h2])
            rw [e9]
            show rz_RZ _ b len (rz_pd 5 a.1 b9.1 c.1 c.2)
            unfold rz_pd
            rw [if_pos (by omega)]
            exact (((((h13).put).put).put).put).put
          have agm : rz_ag μ (fg_u2 (fg_u2 (fg_u2 (fg_u2 (fg_u2 ν13 290 (1 + (4 * (c.2.2.2.2.2 0))) (nI (16 - 11))) 290 ((1 + (4 * (c.2.2.2.2.2 0))) + 1) (nI (a.1))) 290 ((1 + (4 * (c.2.2.2.2.2 0))) + 2) (nI (b9.1))) 290 ((1 + (4 * (c.2.2.2.2.2 0))) + 3) (nI (c.1))) 290 0 (nI ((c.2.2.2.2.2 0) + 1))) := fun a j p q r => (fg_u2ne r).trans ((fg_u2ne r).trans ((fg_u2ne r).trans ((fg_u2ne r).trans ((fg_u2ne r).trans (ag13 a j p q r)))))
          refine fg_aloadn (fg_ft (pc := 202) tb_Mo_dayLine 122 rfl) rfl ?_
          refine fg_callV (fg_ft (pc := 203) tb_Mo_dayLine 123 rfl) cf_Mo_153 (fg_isOf ly_287 rfl (fg_lt ly_287 (by decide))) (as := []) (st := []) rfl rfl (Nat.le_of_ble_eq_true rfl) (Nat.le_refl _) (Nat.le_refl _) (ev_Mo_endsLine hle hb256 hm ?_)
          intro ν15 hg15 h15
          have ag15 := rz_ag_tr agm hg15
          show fg_wp _ _ _ _ _ _ _ _ _ (ν15, fg_rho R, 304)
          exact fg_vret (fg_ft (pc := 206) tb_Mo_dayLine 124 rfl) rfl rfl (hQ _ ag15 h15)
  · refine fg_aloadn (fg_ft (pc := 16) tb_Mo_dayLine 9 rfl) rfl ?_
    refine fg_iconst (fg_ft (pc := 17) tb_Mo_dayLine 10 rfl) ic_3 ?_
    refine fg_iloadn (fg_ft (pc := 18) tb_Mo_dayLine 11 rfl) rfl ?_
    refine fg_callV (fg_ft (pc := 19) tb_Mo_dayLine 12 rfl) cf_Mo_114 (fg_isOf ly_287 rfl (fg_lt ly_287 (by decide))) (as := [.int (nI 3), .int (nI (pz_S b len Z.1))]) (st := []) rfl rfl (Nat.le_of_ble_eq_true rfl) (Nat.le_refl _) (Nat.le_refl _) (ev_Mo_also (kd := 3) (at9 := (pz_S b len Z.1)) hle hb256 h (by decide) (by decide) (by decide) (rz_S_le hle) ?_)
    intro ν16 hg16 h16
    have ag16 := hg16
    show fg_wp _ _ _ _ _ _ _ _ _ (ν16, fg_rho R, 304)
    have hc : rz_RZ ν16 b len (rz_c3 0 30 (pz_S b len Z.1) Z) := by
      unfold rz_c3
      rw [if_pos (by omega)]
      exact h16
    refine fg_aloadn (fg_ft (pc := 22) tb_Mo_dayLine 13 rfl) rfl ?_
    refine fg_bipush (fg_ft (pc := 23) tb_Mo_dayLine 14 rfl) ib_11 ?_
    refine fg_bipush (fg_ft (pc := 25) tb_Mo_dayLine 15 rfl) ib_17 ?_
    refine fg_callV (fg_ft (pc := 27) tb_Mo_dayLine 16 rfl) cf_Mo_135 (fg_isOf ly_287 rfl (fg_lt ly_287 (by decide))) (as := [.int (nI 11), .int (nI 17)]) (st := []) rfl rfl (Nat.le_of_ble_eq_true rfl) (Nat.le_refl _) (Nat.le_refl _) (ev_Mo_takes (lo := 11) (hi := 17) hle hb256 hc (by decide) (by decide) ?_)
    intro ν17 hg17 h17
    have ag17 := rz_ag_tr ag16 hg17
    rw [ht] at h17 ⊢
    show fg_wp _ _ _ _ _ _ _ _ _ (ν17, fg_rho R, 304)
    have hCt : t.2.2.2.2.2 = Z.2.2.2.2 := by rw [← ht, rz_ta_C, rz_c3_C]
    refine fg_top (y := nI 16) (congrArg nI hk) ?_
    refine fg_istoren (fg_ft (pc := 30) tb_Mo_dayLine 17 rfl) (Nat.le_of_ble_eq_true rfl) ?_
    refine fg_iconst (fg_ft (pc := 31) tb_Mo_dayLine 18 rfl) ic_m1 ?_
    refine fg_top (y := nI 4294967295) (by decide) ?_
    refine fg_istoren (fg_ft (pc := 32) tb_Mo_dayLine 19 rfl) (Nat.le_of_ble_eq_true rfl) ?_
    refine fg_iconst (fg_ft (pc := 33) tb_Mo_dayLine 20 rfl) ic_m1 ?_
    refine fg_top (y := nI 4294967295) (by decide) ?_
    refine fg_istore (fg_ft (pc := 34) tb_Mo_dayLine 21 rfl) (Nat.le_of_ble_eq_true rfl) ?_
    refine fg_iconst (fg_ft (pc := 36) tb_Mo_dayLine 22 rfl) ic_m1 ?_
    refine fg_top (y := nI 4294967295) (by decide) ?_
    refine fg_istore (fg_ft (pc := 37) tb_Mo_dayLine 23 rfl) (Nat.le_of_ble_eq_true rfl) ?_
    refine fg_iloadn (fg_ft (pc := 39) tb_Mo_dayLine 24 rfl) rfl ?_
    refine fg_if_leN (tgt := 56) (fg_ft (pc := 40) tb_Mo_dayLine 25 rfl) (by decide) (by decide) (fun c40 => (absurd c40 (by decide))) (fun c40 => ?_)
    refine fg_iloadn (fg_ft (pc := 43) tb_Mo_dayLine 26 rfl) rfl ?_
    refine fg_bipush (fg_ft (pc := 44) tb_Mo_dayLine 27 rfl) ib_17 ?_
    refine fg_icmp_eqN (tgt := 56) (fg_ft (pc := 46) tb_Mo_dayLine 28 rfl) (by decide) (by decide) (by decide) (fun c46 => (absurd c46 (by decide))) (fun c46 => ?_)
    refine fg_aloadn (fg_ft (pc := 49) tb_Mo_dayLine 29 rfl) rfl ?_
    refine fg_iconst (fg_ft (pc := 50) tb_Mo_dayLine 30 rfl) ic_0 ?_
    refine fg_iconst (fg_ft (pc := 51) tb_Mo_dayLine 31 rfl) ic_4 ?_
    refine fg_callV (fg_ft (pc := 52) tb_Mo_dayLine 32 rfl) cf_Mo_121 (fg_isOf ly_287 rfl (fg_lt ly_287 (by decide))) (as := [.int (nI 0), .int (nI 4)]) (st := []) rfl rfl (Nat.le_of_ble_eq_true rfl) (Nat.le_refl _) (Nat.le_refl _) (ev_Mo_numbered (lo := 0) (hi := 4 + 1) hle hb256 h17 (rz_m (by decide) (by decide)) ?_)
    intro ν18 hg18 h18
    have ag18 := rz_ag_tr ag17 hg18
    obtain ⟨a, ha⟩ : ∃ x, (rz_nu (pz_K b len) (pz_V b len) (pz_S b len) 0 (4 + 1) t.2) = x := ⟨_, rfl⟩
    rw [ha] at h18 ⊢
    show fg_wp _ _ _ _ _ _ _ _ _ (ν18, fg_rho R, 304)
    have hab : a.1 ≤ 99 ∨ a.1 = 4294967295 := by rw [← ha]; exact rz_nu_lt
    have hCa : a.2.2.2.2.2 = Z.2.2.2.2 := by rw [← ha, rz_nu_C, hCt]
    refine fg_istoren (fg_ft (pc := 55) tb_Mo_dayLine 33 rfl) (Nat.le_of_ble_eq_true rfl) ?_
    refine fg_iloadn (fg_ft (pc := 56) tb_Mo_dayLine 34 rfl) rfl ?_
    refine fg_bipush (fg_ft (pc := 57) tb_Mo_dayLine 35 rfl) ib_16 ?_
    refine fg_icmp_neN (tgt := 107) (fg_ft (pc := 59) tb_Mo_dayLine 36 rfl) (by decide) (by decide) (by decide) (fun c59 => (absurd c59 (by decide))) (fun c59 => ?_)
    refine fg_aloadn (fg_ft (pc := 62) tb_Mo_dayLine 37 rfl) rfl ?_
    refine fg_getV (v := (nI (pz_K b len a.2.1))) (fg_ft (pc := 63) tb_Mo_dayLine 38 rfl) ff_Mo_84 ly_287 rfl (fg_lt ly_287 (by decide)) h18.2.1.2.2.1 ?_
    refine fg_iconst (fg_ft (pc := 66) tb_Mo_dayLine 39 rfl) ic_1 ?_
    refine fg_icmp_neN (tgt := 87) (fg_ft (pc := 67) tb_Mo_dayLine 40 rfl) (by decide) (by have := (pz_sp_i b len a.2.1).2.2.2.1; omega) (by decide) (fun c67 => ?_) (fun c67 => ?_)
    · have hd : rz_RZ ν18 b len (rz_dup (pz_K b len) (pz_V b len) (pz_S b len) a.1 a.2) := by
        unfold rz_dup
        rw [if_neg (fun q => by first | exact c67 q.1 | exact c75 q.2)]
        exact h18
      refine fg_aloadn (fg_ft (pc := 87) tb_Mo_dayLine 50 rfl) rfl ?_
      refine fg_iconst (fg_ft (pc := 88) tb_Mo_dayLine 51 rfl) ic_0 ?_
      refine fg_iconst (fg_ft (pc := 89) tb_Mo_dayLine 52 rfl) ic_4 ?_
      refine fg_callV (fg_ft (pc := 90) tb_Mo_dayLine 53 rfl) cf_Mo_121 (fg_isOf ly_287 rfl (fg_lt ly_287 (by decide))) (as := [.int (nI 0), .int (nI 4)]) (st := []) rfl rfl (Nat.le_of_ble_eq_true rfl) (Nat.le_refl _) (Nat.le_refl _) (ev_Mo_numbered (lo := 0) (hi := 4 + 1) hle hb256 hd (rz_m (by decide) (by decide)) ?_)
      intro ν19 hg19 h19
      have ag19 := rz_ag_tr ag18 hg19
      obtain ⟨b9, hb9⟩ : ∃ x, (rz_nu (pz_K b len) (pz_V b len) (pz_S b len) 0 (4 + 1) (rz_dup (pz_K b len) (pz_V b len) (pz_S b len) a.1 a.2)) = x := ⟨_, rfl⟩
      rw [hb9] at h19 ⊢
      show fg_wp _ _ _ _ _ _ _ _ _ (ν19, fg_rho R, 304)
      refine fg_istore (fg_ft (pc := 93) tb_Mo_dayLine 54 rfl) (Nat.le_of_ble_eq_true rfl) ?_
      refine fg_aloadn (fg_ft (pc := 95) tb_Mo_dayLine 55 rfl) rfl ?_
      refine fg_iconst (fg_ft (pc := 96) tb_Mo_dayLine 56 rfl) ic_0 ?_
      refine fg_bipush (fg_ft (pc := 97) tb_Mo_dayLine 57 rfl) ib_9 ?_
      refine fg_callV (fg_ft (pc := 99) tb_Mo_dayLine 58 rfl) cf_Mo_121 (fg_isOf ly_287 rfl (fg_lt ly_287 (by decide))) (as := [.int (nI 0), .int (nI 9)]) (st := []) rfl rfl (Nat.le_of_ble_eq_true rfl) (Nat.le_refl _) (Nat.le_refl _) (ev_Mo_numbered (lo := 0) (hi := 9 + 1) hle hb256 h19 (rz_m (by decide) (by decide)) ?_)
      intro ν20 hg20 h20
      have ag20 := rz_ag_tr ag19 hg20
      obtain ⟨c, hc9⟩ : ∃ x, (rz_nu (pz_K b len) (pz_V b len) (pz_S b len) 0 (9 + 1) b9.2) = x := ⟨_, rfl⟩
      rw [hc9] at h20 ⊢
      show fg_wp _ _ _ _ _ _ _ _ _ (ν20, fg_rho R, 304)
      refine fg_istore (fg_ft (pc := 102) tb_Mo_dayLine 59 rfl) (Nat.le_of_ble_eq_true rfl) ?_
      refine fg_goto (tgt := 126) (fg_ft (pc := 104) tb_Mo_dayLine 60 rfl) (by decide) ?_
      have hCf : c.2.2.2.2.2 = Z.2.2.2.2 := by rw [← hc9, rz_nu_C, ← hb9, rz_nu_C, rz_dup_C, hCa]
      have hb1 : c.2.2.2.2.2 0 ≤ 700 := by rw [hCf]; exact hcnt
      refine fg_aloadn (fg_ft (pc := 126) tb_Mo_dayLine 71 rfl) rfl ?_
      refine fg_getR (fg_ft (pc := 127) tb_Mo_dayLine 72 rfl) ff_Mo_17 ly_287 rfl (fg_lt ly_287 (by decide)) (rh_287_10 R) ?_
      refine fg_iconst (fg_ft (pc := 130) tb_Mo_dayLine 73 rfl) ic_0 ?_
      refine fg_ialdV (v := (nI (c.2.2.2.2.2 0))) (fg_ft (pc := 131) tb_Mo_dayLine 74 rfl) ly_290 (fg_lt ly_290 (by decide)) (by omega) (h20.2.2.2.2.2.2.1 0 (by omega)) ?_
      refine fg_bipush (fg_ft (pc := 132) tb_Mo_dayLine 75 rfl) ib_30 ?_
      refine fg_icmp_geN (tgt := 192) (fg_ft (pc := 134) tb_Mo_dayLine 76 rfl) (by decide) (by omega) (by decide) (fun c134 => ?_) (fun c134 => ?_)
      · refine fg_aloadn (fg_ft (pc := 192) tb_Mo_dayLine 114 rfl) rfl ?_
        refine fg_getR (fg_ft (pc := 193) tb_Mo_dayLine 115 rfl) ff_Mo_17 ly_287 rfl (fg_lt ly_287 (by decide)) (rh_287_10 R) ?_
        refine fg_iconst (fg_ft (pc := 196) tb_Mo_dayLine 116 rfl) ic_0 ?_
        refine fg_dup2 (fg_ft (pc := 197) tb_Mo_dayLine 117 rfl) rfl rfl ?_
        refine fg_ialdV (v := (nI (c.2.2.2.2.2 0))) (fg_ft (pc := 198) tb_Mo_dayLine 118 rfl) ly_290 (fg_lt ly_290 (by decide)) (by omega) (h20.2.2.2.2.2.2.1 0 (by omega)) ?_
        refine fg_iconst (fg_ft (pc := 199) tb_Mo_dayLine 119 rfl) ic_1 ?_
        refine fg_iaddN (fg_ft (pc := 200) tb_Mo_dayLine 120 rfl) ?_
        refine fg_iastN (fg_ft (pc := 201) tb_Mo_dayLine 121 rfl) ly_290 (fg_lt ly_290 (by decide)) (by omega) ?_
        show fg_wp _ _ _ _ _ _ _ _ _ (fg_u2 ν20 290 0 (nI ((c.2.2.2.2.2 0) + 1)), fg_rho R, 304)
        have hm : rz_RZ (fg_u2 ν20 290 0 (nI ((c.2.2.2.2.2 0) + 1))) b len (rz_dn 16 (rz_dm (pz_K b len) (pz_V b len) (pz_S b len) t.2 16)) := by
          have e9 : rz_dm (pz_K b len) (pz_V b len) (pz_S b len) t.2 16 = (a.1, b9.1, c.1, c.2) := (by
            show rz_dq (pz_K b len) (pz_V b len) (pz_S b len) (rz_nu (pz_K b len) (pz_V b len) (pz_S b len) 0 (4 + 1) t.2) = _
            rw [ha]
            unfold rz_dq
            have h1 : rz_nu (pz_K b len) (pz_V b len) (pz_S b len) 0 5 (rz_dup (pz_K b len) (pz_V b len) (pz_S b len) a.1 a.2) = b9 := hb9
            have h2 : rz_nu (pz_K b len) (pz_V b len) (pz_S b len) 0 10 b9.2 = c := hc9
            rw [h1]
            show (a.1, b9.1, (rz_nu (pz_K b len) (pz_V b len) (pz_S b len) 0 10 b9.2).1, (rz_nu (pz_K b len) (pz_V b len) (pz_S b len) 0 10 b9.2).2) = _
            rw [h2])
          rw [e9]
          show rz_RZ _ b len (rz_pd 5 a.1 b9.1 c.1 c.2)
          unfold rz_pd
          rw [if_neg (by omega)]
          exact (h20).put
        have agm : rz_ag μ (fg_u2 ν20 290 0 (nI ((c.2.2.2.2.2 0) + 1))) := fun a j p q r => (fg_u2ne r).trans (ag20 a j p q r)
        refine fg_aloadn (fg_ft (pc := 202) tb_Mo_dayLine 122 rfl) rfl ?_
        refine fg_callV (fg_ft (pc := 203) tb_Mo_dayLine 123 rfl) cf_Mo_153 (fg_isOf ly_287 rfl (fg_lt ly_287 (by decide))) (as := []) (st := []) rfl rfl (Nat.le_of_ble_eq_true rfl) (Nat.le_refl _) (Nat.le_refl _) (ev_Mo_endsLine hle hb256 hm ?_)
        intro ν21 hg21 h21
        have ag21 := rz_ag_tr agm hg21
        show fg_wp _ _ _ _ _ _ _ _ _ (ν21, fg_rho R, 304)
        exact fg_vret (fg_ft (pc := 206) tb_Mo_dayLine 124 rfl) rfl rfl (hQ _ ag21 h21)
      · refine fg_iconst (fg_ft (pc := 137) tb_Mo_dayLine 77 rfl) ic_1 ?_
        refine fg_iconst (fg_ft (pc := 138) tb_Mo_dayLine 78 rfl) ic_4 ?_
        refine fg_aloadn (fg_ft (pc := 139) tb_Mo_dayLine 79 rfl) rfl ?_
        refine fg_getR (fg_ft (pc := 140) tb_Mo_dayLine 80 rfl) ff_Mo_17 ly_287 rfl (fg_lt ly_287 (by decide)) (rh_287_10 R) ?_
        refine fg_iconst (fg_ft (pc := 143) tb_Mo_dayLine 81 rfl) ic_0 ?_
        refine fg_ialdV (v := (nI (c.2.2.2.2.2 0))) (fg_ft (pc := 144) tb_Mo_dayLine 82 rfl) ly_290 (fg_lt ly_290 (by decide)) (by omega) (h20.2.2.2.2.2.2.1 0 (by omega)) ?_
        refine fg_imulN (fg_ft (pc := 145) tb_Mo_dayLine 83 rfl) ?_
        refine fg_iaddN (fg_ft (pc := 146) tb_Mo_dayLine 84 rfl) ?_
        refine fg_istore (fg_ft (pc := 147) tb_Mo_dayLine 85 rfl) (Nat.le_of_ble_eq_true rfl) ?_
        refine fg_aloadn (fg_ft (pc := 149) tb_Mo_dayLine 86 rfl) rfl ?_
        refine fg_getR (fg_ft (pc := 150) tb_Mo_dayLine 87 rfl) ff_Mo_17 ly_287 rfl (fg_lt ly_287 (by decide)) (rh_287_10 R) ?_
        refine fg_iload (fg_ft (pc := 153) tb_Mo_dayLine 88 rfl) rfl ?_
        refine fg_iloadn (fg_ft (pc := 155) tb_Mo_dayLine 89 rfl) rfl ?_
        refine fg_bipush (fg_ft (pc := 156) tb_Mo_dayLine 90 rfl) ib_11 ?_
        refine fg_isubN (fg_ft (pc := 158) tb_Mo_dayLine 91 rfl) (by omega) ?_
        refine fg_iastN (fg_ft (pc := 159) tb_Mo_dayLine 92 rfl) ly_290 (fg_lt ly_290 (by decide)) (by omega) ?_
        show fg_wp _ _ _ _ _ _ _ _ _ (fg_u2 ν20 290 (1 + (4 * (c.2.2.2.2.2 0))) (nI (16 - 11)), fg_rho R, 304)
        refine fg_aloadn (fg_ft (pc := 160) tb_Mo_dayLine 93 rfl) rfl ?_
        refine fg_getR (fg_ft (pc := 161) tb_Mo_dayLine 94 rfl) ff_Mo_17 ly_287 rfl (fg_lt ly_287 (by decide)) (rh_287_10 R) ?_
        refine fg_iload (fg_ft (pc := 164) tb_Mo_dayLine 95 rfl) rfl ?_
        refine fg_iconst (fg_ft (pc := 166) tb_Mo_dayLine 96 rfl) ic_1 ?_
        refine fg_iaddN (fg_ft (pc := 167) tb_Mo_dayLine 97 rfl) ?_
        refine fg_iloadn (fg_ft (pc := 168) tb_Mo_dayLine 98 rfl) rfl ?_
        refine fg_iastN (fg_ft (pc := 169) tb_Mo_dayLine 99 rfl) ly_290 (fg_lt ly_290 (by decide)) (by omega) ?_
        show fg_wp _ _ _ _ _ _ _ _ _ (fg_u2 (fg_u2 ν20 290 (1 + (4 * (c.2.2.2.2.2 0))) (nI (16 - 11))) 290 ((1 + (4 * (c.2.2.2.2.2 0))) + 1) (nI (a.1)), fg_rho R, 304)
        refine fg_aloadn (fg_ft (pc := 170) tb_Mo_dayLine 100 rfl) rfl ?_
        refine fg_getR (fg_ft (pc := 171) tb_Mo_dayLine 101 rfl) ff_Mo_17 ly_287 rfl (fg_lt ly_287 (by decide)) (rh_287_10 R) ?_
        refine fg_iload (fg_ft (pc := 174) tb_Mo_dayLine 102 rfl) rfl ?_
        refine fg_iconst (fg_ft (pc := 176) tb_Mo_dayLine 103 rfl) ic_2 ?_
        refine fg_iaddN (fg_ft (pc := 177) tb_Mo_dayLine 104 rfl) ?_
        refine fg_iload (fg_ft (pc := 178) tb_Mo_dayLine 105 rfl) rfl ?_
        refine fg_iastN (fg_ft (pc := 180) tb_Mo_dayLine 106 rfl) ly_290 (fg_lt ly_290 (by decide)) (by omega) ?_
        show fg_wp _ _ _ _ _ _ _ _ _ (fg_u2 (fg_u2 (fg_u2 ν20 290 (1 + (4 * (c.2.2.2.2.2 0))) (nI (16 - 11))) 290 ((1 + (4 * (c.2.2.2.2.2 0))) + 1) (nI (a.1))) 290 ((1 + (4 * (c.2.2.2.2.2 0))) + 2) (nI (b9.1)), fg_rho R, 304)
        refine fg_aloadn (fg_ft (pc := 181) tb_Mo_dayLine 107 rfl) rfl ?_
        refine fg_getR (fg_ft (pc := 182) tb_Mo_dayLine 108 rfl) ff_Mo_17 ly_287 rfl (fg_lt ly_287 (by decide)) (rh_287_10 R) ?_
        refine fg_iload (fg_ft (pc := 185) tb_Mo_dayLine 109 rfl) rfl ?_
        refine fg_iconst (fg_ft (pc := 187) tb_Mo_dayLine 110 rfl) ic_3 ?_
        refine fg_iaddN (fg_ft (pc := 188) tb_Mo_dayLine 111 rfl) ?_
        refine fg_iload (fg_ft (pc := 189) tb_Mo_dayLine 112 rfl) rfl ?_
        refine fg_iastN (fg_ft (pc := 191) tb_Mo_dayLine 113 rfl) ly_290 (fg_lt ly_290 (by decide)) (by omega) ?_
        show fg_wp _ _ _ _ _ _ _ _ _ (fg_u2 (fg_u2 (fg_u2 (fg_u2 ν20 290 (1 + (4 * (c.2.2.2.2.2 0))) (nI (16 - 11))) 290 ((1 + (4 * (c.2.2.2.2.2 0))) + 1) (nI (a.1))) 290 ((1 + (4 * (c.2.2.2.2.2 0))) + 2) (nI (b9.1))) 290 ((1 + (4 * (c.2.2.2.2.2 0))) + 3) (nI (c.1)), fg_rho R, 304)
        refine fg_aloadn (fg_ft (pc := 192) tb_Mo_dayLine 114 rfl) rfl ?_
        refine fg_getR (fg_ft (pc := 193) tb_Mo_dayLine 115 rfl) ff_Mo_17 ly_287 rfl (fg_lt ly_287 (by decide)) (rh_287_10 R) ?_
        refine fg_iconst (fg_ft (pc := 196) tb_Mo_dayLine 116 rfl) ic_0 ?_
        refine fg_dup2 (fg_ft (pc := 197) tb_Mo_dayLine 117 rfl) rfl rfl ?_
        refine fg_ialdV (v := (nI (c.2.2.2.2.2 0))) (fg_ft (pc := 198) tb_Mo_dayLine 118 rfl) ly_290 (fg_lt ly_290 (by decide)) (by omega) ((fg_u2ns (f := (fg_u2 (fg_u2 (fg_u2 ν20 290 (1 + (4 * (c.2.2.2.2.2 0))) (nI (16 - 11))) 290 ((1 + (4 * (c.2.2.2.2.2 0))) + 1) (nI (a.1))) 290 ((1 + (4 * (c.2.2.2.2.2 0))) + 2) (nI (b9.1)))) (a := 290) (k := ((1 + (4 * (c.2.2.2.2.2 0))) + 3)) (b := 290) (j := 0) (x := (nI (c.1))) (by omega)).trans ((fg_u2ns (f := (fg_u2 (fg_u2 ν20 290 (1 + (4 * (c.2.2.2.2.2 0))) (nI (16 - 11))) 290 ((1 + (4 * (c.2.2.2.2.2 0))) + 1) (nI (a.1)))) (a := 290) (k := ((1 + (4 * (c.2.2.2.2.2 0))) + 2)) (b := 290) (j := 0) (x := (nI (b9.1))) (by omega)).trans ((fg_u2ns (f := (fg_u2 ν20 290 (1 + (4 * (c.2.2.2.2.2 0))) (nI (16 - 11)))) (a := 290) (k := ((1 + (4 * (c.2.2.2.2.2 0))) + 1)) (b := 290) (j := 0) (x := (nI (a.1))) (by omega)).trans ((fg_u2ns (f := ν20) (a := 290) (k := (1 + (4 * (c.2.2.2.2.2 0)))) (b := 290) (j := 0) (x := (nI (16 - 11))) (by omega)).trans (h20.2.2.2.2.2.2.1 0 (by omega)))))) ?_
        refine fg_iconst (fg_ft (pc := 199) tb_Mo_dayLine 119 rfl) ic_1 ?_
        refine fg_iaddN (fg_ft (pc := 200) tb_Mo_dayLine 120 rfl) ?_
        refine fg_iastN (fg_ft (pc := 201) tb_Mo_dayLine 121 rfl) ly_290 (fg_lt ly_290 (by decide)) (by omega) ?_
        show fg_wp _ _ _ _ _ _ _ _ _ (fg_u2 (fg_u2 (fg_u2 (fg_u2 (fg_u2 ν20 290 (1 + (4 * (c.2.2.2.2.2 0))) (nI (16 - 11))) 290 ((1 + (4 * (c.2.2.2.2.2 0))) + 1) (nI (a.1))) 290 ((1 + (4 * (c.2.2.2.2.2 0))) + 2) (nI (b9.1))) 290 ((1 + (4 * (c.2.2.2.2.2 0))) + 3) (nI (c.1))) 290 0 (nI ((c.2.2.2.2.2 0) + 1)), fg_rho R, 304)
        have hm : rz_RZ (fg_u2 (fg_u2 (fg_u2 (fg_u2 (fg_u2 ν20 290 (1 + (4 * (c.2.2.2.2.2 0))) (nI (16 - 11))) 290 ((1 + (4 * (c.2.2.2.2.2 0))) + 1) (nI (a.1))) 290 ((1 + (4 * (c.2.2.2.2.2 0))) + 2) (nI (b9.1))) 290 ((1 + (4 * (c.2.2.2.2.2 0))) + 3) (nI (c.1))) 290 0 (nI ((c.2.2.2.2.2 0) + 1))) b len (rz_dn 16 (rz_dm (pz_K b len) (pz_V b len) (pz_S b len) t.2 16)) := by
          have e9 : rz_dm (pz_K b len) (pz_V b len) (pz_S b len) t.2 16 = (a.1, b9.1, c.1, c.2) := (by
            show rz_dq (pz_K b len) (pz_V b len) (pz_S b len) (rz_nu (pz_K b len) (pz_V b len) (pz_S b len) 0 (4 + 1) t.2) = _
            rw [ha]
            unfold rz_dq
            have h1 : rz_nu (pz_K b len) (pz_V b len) (pz_S b len) 0 5 (rz_dup (pz_K b len) (pz_V b len) (pz_S b len) a.1 a.2) = b9 := hb9
            have h2 : rz_nu (pz_K b len) (pz_V b len) (pz_S b len) 0 10 b9.2 = c := hc9
            rw [h1]
            show (a.1, b9.1, (rz_nu (pz_K b len) (pz_V b len) (pz_S b len) 0 10 b9.2).1, (rz_nu (pz_K b len) (pz_V b len) (pz_S b len) 0 10 b9.2).2) = _
            rw [h2])
          rw [e9]
          show rz_RZ _ b len (rz_pd 5 a.1 b9.1 c.1 c.2)
          unfold rz_pd
          rw [if_pos (by omega)]
          exact (((((h20).put).put).put).put).put
        have agm : rz_ag μ (fg_u2 (fg_u2 (fg_u2 (fg_u2 (fg_u2 ν20 290 (1 + (4 * (c.2.2.2.2.2 0))) (nI (16 - 11))) 290 ((1 + (4 * (c.2.2.2.2.2 0))) + 1) (nI (a.1))) 290 ((1 + (4 * (c.2.2.2.2.2 0))) + 2) (nI (b9.1))) 290 ((1 + (4 * (c.2.2.2.2.2 0))) + 3) (nI (c.1))) 290 0 (nI ((c.2.2.2.2.2 0) + 1))) := fun a j p q r => (fg_u2ne r).trans ((fg_u2ne r).trans ((fg_u2ne r).trans ((fg_u2ne r).trans ((fg_u2ne r).trans (ag20 a j p q r)))))
        refine fg_aloadn (fg_ft (pc := 202) tb_Mo_dayLine 122 rfl) rfl ?_
        refine fg_callV (fg_ft (pc := 203) tb_Mo_dayLine 123 rfl) cf_Mo_153 (fg_isOf ly_287 rfl (fg_lt ly_287 (by decide))) (as := []) (st := []) rfl rfl (Nat.le_of_ble_eq_true rfl) (Nat.le_refl _) (Nat.le_refl _) (ev_Mo_endsLine hle hb256 hm ?_)
        intro ν22 hg22 h22
        have ag22 := rz_ag_tr agm hg22
        show fg_wp _ _ _ _ _ _ _ _ _ (ν22, fg_rho R, 304)
        exact fg_vret (fg_ft (pc := 206) tb_Mo_dayLine 124 rfl) rfl rfl (hQ _ ag22 h22)
    · have hK1 := c67
      refine fg_aloadn (fg_ft (pc := 70) tb_Mo_dayLine 41 rfl) rfl ?_
      refine fg_getV (v := (nI (pz_V b len a.2.1))) (fg_ft (pc := 71) tb_Mo_dayLine 42 rfl) ff_Mo_100 ly_287 rfl (fg_lt ly_287 (by decide)) (h18.2.1.2.2.2.1 hK1) ?_
      refine fg_iloadn (fg_ft (pc := 74) tb_Mo_dayLine 43 rfl) rfl ?_
      refine fg_icmp_neW (tgt := 87) (fg_ft (pc := 75) tb_Mo_dayLine 44 rfl) (by decide) (Nat.lt_trans (show _ < 2 ^ 31 from by have := (pz_sp_i b len a.2.1).2.2.2.2.2.2.1; omega) (by decide)) (by have := hab; omega) (fun c75 => ?_) (fun c75 => ?_)
      · have hd : rz_RZ ν18 b len (rz_dup (pz_K b len) (pz_V b len) (pz_S b len) a.1 a.2) := by
          unfold rz_dup
          rw [if_neg (fun q => by first | exact c67 q.1 | exact c75 q.2)]
          exact h18
        refine fg_aloadn (fg_ft (pc := 87) tb_Mo_dayLine 50 rfl) rfl ?_
        refine fg_iconst (fg_ft (pc := 88) tb_Mo_dayLine 51 rfl) ic_0 ?_
        refine fg_iconst (fg_ft (pc := 89) tb_Mo_dayLine 52 rfl) ic_4 ?_
        refine fg_callV (fg_ft (pc := 90) tb_Mo_dayLine 53 rfl) cf_Mo_121 (fg_isOf ly_287 rfl (fg_lt ly_287 (by decide))) (as := [.int (nI 0), .int (nI 4)]) (st := []) rfl rfl (Nat.le_of_ble_eq_true rfl) (Nat.le_refl _) (Nat.le_refl _) (ev_Mo_numbered (lo := 0) (hi := 4 + 1) hle hb256 hd (rz_m (by decide) (by decide)) ?_)
        intro ν23 hg23 h23
        have ag23 := rz_ag_tr ag18 hg23
        obtain ⟨b9, hb9⟩ : ∃ x, (rz_nu (pz_K b len) (pz_V b len) (pz_S b len) 0 (4 + 1) (rz_dup (pz_K b len) (pz_V b len) (pz_S b len) a.1 a.2)) = x := ⟨_, rfl⟩
        rw [hb9] at h23 ⊢
        show fg_wp _ _ _ _ _ _ _ _ _ (ν23, fg_rho R, 304)
        refine fg_istore (fg_ft (pc := 93) tb_Mo_dayLine 54 rfl) (Nat.le_of_ble_eq_true rfl) ?_
        refine fg_aloadn (fg_ft (pc := 95) tb_Mo_dayLine 55 rfl) rfl ?_
        refine fg_iconst (fg_ft (pc := 96) tb_Mo_dayLine 56 rfl) ic_0 ?_
        refine fg_bipush (fg_ft (pc := 97) tb_Mo_dayLine 57 rfl) ib_9 ?_
        refine fg_callV (fg_ft (pc := 99) tb_Mo_dayLine 58 rfl) cf_Mo_121 (fg_isOf ly_287 rfl (fg_lt ly_287 (by decide))) (as := [.int (nI 0), .int (nI 9)]) (st := []) rfl rfl (Nat.le_of_ble_eq_true rfl) (Nat.le_refl _) (Nat.le_refl _) (ev_Mo_numbered (lo := 0) (hi := 9 + 1) hle hb256 h23 (rz_m (by decide) (by decide)) ?_)
        intro ν24 hg24 h24
        have ag24 := rz_ag_tr ag23 hg24
        obtain ⟨c, hc9⟩ : ∃ x, (rz_nu (pz_K b len) (pz_V b len) (pz_S b len) 0 (9 + 1) b9.2) = x := ⟨_, rfl⟩
        rw [hc9] at h24 ⊢
        show fg_wp _ _ _ _ _ _ _ _ _ (ν24, fg_rho R, 304)
        refine fg_istore (fg_ft (pc := 102) tb_Mo_dayLine 59 rfl) (Nat.le_of_ble_eq_true rfl) ?_
        refine fg_goto (tgt := 126) (fg_ft (pc := 104) tb_Mo_dayLine 60 rfl) (by decide) ?_
        have hCf : c.2.2.2.2.2 = Z.2.2.2.2 := by rw [← hc9, rz_nu_C, ← hb9, rz_nu_C, rz_dup_C, hCa]
        have hb1 : c.2.2.2.2.2 0 ≤ 700 := by rw [hCf]; exact hcnt
        refine fg_aloadn (fg_ft (pc := 126) tb_Mo_dayLine 71 rfl) rfl ?_
        refine fg_getR (fg_ft (pc := 127) tb_Mo_dayLine 72 rfl) ff_Mo_17 ly_287 rfl (fg_lt ly_287 (by decide)) (rh_287_10 R) ?_
        refine fg_iconst (fg_ft (pc := 130) tb_Mo_dayLine 73 rfl) ic_0 ?_
        refine fg_ialdV (v := (nI (c.2.2.2.2.2 0))) (fg_ft (pc := 131) tb_Mo_dayLine 74 rfl) ly_290 (fg_lt ly_290 (by decide)) (by omega) (h24.2.2.2.2.2.2.1 0 (by omega)) ?_
        refine fg_bipush (fg_ft (pc := 132) tb_Mo_dayLine 75 rfl) ib_30 ?_
        refine fg_icmp_geN (tgt := 192) (fg_ft (pc := 134) tb_Mo_dayLine 76 rfl) (by decide) (by omega) (by decide) (fun c134 => ?_) (fun c134 => ?_)
        · refine fg_aloadn (fg_ft (pc := 192) tb_Mo_dayLine 114 rfl) rfl ?_
          refine fg_getR (fg_ft (pc := 193) tb_Mo_dayLine 115 rfl) ff_Mo_17 ly_287 rfl (fg_lt ly_287 (by decide)) (rh_287_10 R) ?_
          refine fg_iconst (fg_ft (pc := 196) tb_Mo_dayLine 116 rfl) ic_0 ?_
          refine fg_dup2 (fg_ft (pc := 197) tb_Mo_dayLine 117 rfl) rfl rfl ?_
          refine fg_ialdV (v := (nI (c.2.2.2.2.2 0))) (fg_ft (pc := 198) tb_Mo_dayLine 118 rfl) ly_290 (fg_lt ly_290 (by decide)) (by omega) (h24.2.2.2.2.2.2.1 0 (by omega)) ?_
          refine fg_iconst (fg_ft (pc := 199) tb_Mo_dayLine 119 rfl) ic_1 ?_
          refine fg_iaddN (fg_ft (pc := 200) tb_Mo_dayLine 120 rfl) ?_
          refine fg_iastN (fg_ft (pc := 201) tb_Mo_dayLine 121 rfl) ly_290 (fg_lt ly_290 (by decide)) (by omega) ?_
          show fg_wp _ _ _ _ _ _ _ _ _ (fg_u2 ν24 290 0 (nI ((c.2.2.2.2.2 0) + 1)), fg_rho R, 304)
          have hm : rz_RZ (fg_u2 ν24 290 0 (nI ((c.2.2.2.2.2 0) + 1))) b len (rz_dn 16 (rz_dm (pz_K b len) (pz_V b len) (pz_S b len) t.2 16)) := by
            have e9 : rz_dm (pz_K b len) (pz_V b len) (pz_S b len) t.2 16 = (a.1, b9.1, c.1, c.2) := (by
              show rz_dq (pz_K b len) (pz_V b len) (pz_S b len) (rz_nu (pz_K b len) (pz_V b len) (pz_S b len) 0 (4 + 1) t.2) = _
              rw [ha]
              unfold rz_dq
              have h1 : rz_nu (pz_K b len) (pz_V b len) (pz_S b len) 0 5 (rz_dup (pz_K b len) (pz_V b len) (pz_S b len) a.1 a.2) = b9 := hb9
              have h2 : rz_nu (pz_K b len) (pz_V b len) (pz_S b len) 0 10 b9.2 = c := hc9
              rw [h1]
              show (a.1, b9.1, (rz_nu (pz_K b len) (pz_V b len) (pz_S b len) 0 10 b9.2).1, (rz_nu (pz_K b len) (pz_V b len) (pz_S b len) 0 10 b9.2).2) = _
              rw [h2])
            rw [e9]
            show rz_RZ _ b len (rz_pd 5 a.1 b9.1 c.1 c.2)
            unfold rz_pd
            rw [if_neg (by omega)]
            exact (h24).put
          have agm : rz_ag μ (fg_u2 ν24 290 0 (nI ((c.2.2.2.2.2 0) + 1))) := fun a j p q r => (fg_u2ne r).trans (ag24 a j p q r)
          refine fg_aloadn (fg_ft (pc := 202) tb_Mo_dayLine 122 rfl) rfl ?_
          refine fg_callV (fg_ft (pc := 203) tb_Mo_dayLine 123 rfl) cf_Mo_153 (fg_isOf ly_287 rfl (fg_lt ly_287 (by decide))) (as := []) (st := []) rfl rfl (Nat.le_of_ble_eq_true rfl) (Nat.le_refl _) (Nat.le_refl _) (ev_Mo_endsLine hle hb256 hm ?_)
          intro ν25 hg25 h25
          have ag25 := rz_ag_tr agm hg25
          show fg_wp _ _ _ _ _ _ _ _ _ (ν25, fg_rho R, 304)
          exact fg_vret (fg_ft (pc := 206) tb_Mo_dayLine 124 rfl) rfl rfl (hQ _ ag25 h25)
        · refine fg_iconst (fg_ft (pc := 137) tb_Mo_dayLine 77 rfl) ic_1 ?_
          refine fg_iconst (fg_ft (pc := 138) tb_Mo_dayLine 78 rfl) ic_4 ?_
          refine fg_aloadn (fg_ft (pc := 139) tb_Mo_dayLine 79 rfl) rfl ?_
          refine fg_getR (fg_ft (pc := 140) tb_Mo_dayLine 80 rfl) ff_Mo_17 ly_287 rfl (fg_lt ly_287 (by decide)) (rh_287_10 R) ?_
          refine fg_iconst (fg_ft (pc := 143) tb_Mo_dayLine 81 rfl) ic_0 ?_
          refine fg_ialdV (v := (nI (c.2.2.2.2.2 0))) (fg_ft (pc := 144) tb_Mo_dayLine 82 rfl) ly_290 (fg_lt ly_290 (by decide)) (by omega) (h24.2.2.2.2.2.2.1 0 (by omega)) ?_
          refine fg_imulN (fg_ft (pc := 145) tb_Mo_dayLine 83 rfl) ?_
          refine fg_iaddN (fg_ft (pc := 146) tb_Mo_dayLine 84 rfl) ?_
          refine fg_istore (fg_ft (pc := 147) tb_Mo_dayLine 85 rfl) (Nat.le_of_ble_eq_true rfl) ?_
          refine fg_aloadn (fg_ft (pc := 149) tb_Mo_dayLine 86 rfl) rfl ?_
          refine fg_getR (fg_ft (pc := 150) tb_Mo_dayLine 87 rfl) ff_Mo_17 ly_287 rfl (fg_lt ly_287 (by decide)) (rh_287_10 R) ?_
          refine fg_iload (fg_ft (pc := 153) tb_Mo_dayLine 88 rfl) rfl ?_
          refine fg_iloadn (fg_ft (pc := 155) tb_Mo_dayLine 89 rfl) rfl ?_
          refine fg_bipush (fg_ft (pc := 156) tb_Mo_dayLine 90 rfl) ib_11 ?_
          refine fg_isubN (fg_ft (pc := 158) tb_Mo_dayLine 91 rfl) (by omega) ?_
          refine fg_iastN (fg_ft (pc := 159) tb_Mo_dayLine 92 rfl) ly_290 (fg_lt ly_290 (by decide)) (by omega) ?_
          show fg_wp _ _ _ _ _ _ _ _ _ (fg_u2 ν24 290 (1 + (4 * (c.2.2.2.2.2 0))) (nI (16 - 11)), fg_rho R, 304)
          refine fg_aloadn (fg_ft (pc := 160) tb_Mo_dayLine 93 rfl) rfl ?_
          refine fg_getR (fg_ft (pc := 161) tb_Mo_dayLine 94 rfl) ff_Mo_17 ly_287 rfl (fg_lt ly_287 (by decide)) (rh_287_10 R) ?_
          refine fg_iload (fg_ft (pc := 164) tb_Mo_dayLine 95 rfl) rfl ?_
          refine fg_iconst (fg_ft (pc := 166) tb_Mo_dayLine 96 rfl) ic_1 ?_
          refine fg_iaddN (fg_ft (pc := 167) tb_Mo_dayLine 97 rfl) ?_
          refine fg_iloadn (fg_ft (pc := 168) tb_Mo_dayLine 98 rfl) rfl ?_
          refine fg_iastN (fg_ft (pc := 169) tb_Mo_dayLine 99 rfl) ly_290 (fg_lt ly_290 (by decide)) (by omega) ?_
          show fg_wp _ _ _ _ _ _ _ _ _ (fg_u2 (fg_u2 ν24 290 (1 + (4 * (c.2.2.2.2.2 0))) (nI (16 - 11))) 290 ((1 + (4 * (c.2.2.2.2.2 0))) + 1) (nI (a.1)), fg_rho R, 304)
          refine fg_aloadn (fg_ft (pc := 170) tb_Mo_dayLine 100 rfl) rfl ?_
          refine fg_getR (fg_ft (pc := 171) tb_Mo_dayLine 101 rfl) ff_Mo_17 ly_287 rfl (fg_lt ly_287 (by decide)) (rh_287_10 R) ?_
          refine fg_iload (fg_ft (pc := 174) tb_Mo_dayLine 102 rfl) rfl ?_
          refine fg_iconst (fg_ft (pc := 176) tb_Mo_dayLine 103 rfl) ic_2 ?_
          refine fg_iaddN (fg_ft (pc := 177) tb_Mo_dayLine 104 rfl) ?_
          refine fg_iload (fg_ft (pc := 178) tb_Mo_dayLine 105 rfl) rfl ?_
          refine fg_iastN (fg_ft (pc := 180) tb_Mo_dayLine 106 rfl) ly_290 (fg_lt ly_290 (by decide)) (by omega) ?_
          show fg_wp _ _ _ _ _ _ _ _ _ (fg_u2 (fg_u2 (fg_u2 ν24 290 (1 + (4 * (c.2.2.2.2.2 0))) (nI (16 - 11))) 290 ((1 + (4 * (c.2.2.2.2.2 0))) + 1) (nI (a.1))) 290 ((1 + (4 * (c.2.2.2.2.2 0))) + 2) (nI (b9.1)), fg_rho R, 304)
          refine fg_aloadn (fg_ft (pc := 181) tb_Mo_dayLine 107 rfl) rfl ?_
          refine fg_getR (fg_ft (pc := 182) tb_Mo_dayLine 108 rfl) ff_Mo_17 ly_287 rfl (fg_lt ly_287 (by decide)) (rh_287_10 R) ?_
          refine fg_iload (fg_ft (pc := 185) tb_Mo_dayLine 109 rfl) rfl ?_
          refine fg_iconst (fg_ft (pc := 187) tb_Mo_dayLine 110 rfl) ic_3 ?_
          refine fg_iaddN (fg_ft (pc := 188) tb_Mo_dayLine 111 rfl) ?_
          refine fg_iload (fg_ft (pc := 189) tb_Mo_dayLine 112 rfl) rfl ?_
          refine fg_iastN (fg_ft (pc := 191) tb_Mo_dayLine 113 rfl) ly_290 (fg_lt ly_290 (by decide)) (by omega) ?_
          show fg_wp _ _ _ _ _ _ _ _ _ (fg_u2 (fg_u2 (fg_u2 (fg_u2 ν24 290 (1 + (4 * (c.2.2.2.2.2 0))) (nI (16 - 11))) 290 ((1 + (4 * (c.2.2.2.2.2 0))) + 1) (nI (a.1))) 290 ((1 + (4 * (c.2.2.2.2.2 0))) + 2) (nI (b9.1))) 290 ((1 + (4 * (c.2.2.2.2.2 0))) + 3) (nI (c.1)), fg_rho R, 304)
          refine fg_aloadn (fg_ft (pc := 192) tb_Mo_dayLine 114 rfl) rfl ?_
          refine fg_getR (fg_ft (pc := 193) tb_Mo_dayLine 115 rfl) ff_Mo_17 ly_287 rfl (fg_lt ly_287 (by decide)) (rh_287_10 R) ?_
          refine fg_iconst (fg_ft (pc := 196) tb_Mo_dayLine 116 rfl) ic_0 ?_
          refine fg_dup2 (fg_ft (pc := 197) tb_Mo_dayLine 117 rfl) rfl rfl ?_
          refine fg_ialdV (v := (nI (c.2.2.2.2.2 0))) (fg_ft (pc := 198) tb_Mo_dayLine 118 rfl) ly_290 (fg_lt ly_290 (by decide)) (by omega) ((fg_u2ns (f := (fg_u2 (fg_u2 (fg_u2 ν24 290 (1 + (4 * (c.2.2.2.2.2 0))) (nI (16 - 11))) 290 ((1 + (4 * (c.2.2.2.2.2 0))) + 1) (nI (a.1))) 290 ((1 + (4 * (c.2.2.2.2.2 0))) + 2) (nI (b9.1)))) (a := 290) (k := ((1 + (4 * (c.2.2.2.2.2 0))) + 3)) (b := 290) (j := 0) (x := (nI (c.1))) (by omega)).trans ((fg_u2ns (f := (fg_u2 (fg_u2 ν24 290 (1 + (4 * (c.2.2.2.2.2 0))) (nI (16 - 11))) 290 ((1 + (4 * (c.2.2.2.2.2 0))) + 1) (nI (a.1)))) (a := 290) (k := ((1 + (4 * (c.2.2.2.2.2 0))) + 2)) (b := 290) (j := 0) (x := (nI (b9.1))) (by omega)).trans ((fg_u2ns (f := (fg_u2 ν24 290 (1 + (4 * (c.2.2.2.2.2 0))) (nI (16 - 11)))) (a := 290) (k := ((1 + (4 * (c.2.2.2.2.2 0))) + 1)) (b := 290) (j := 0) (x := (nI (a.1))) (by omega)).trans ((fg_u2ns (f := ν24) (a := 290) (k := (1 + (4 * (c.2.2.2.2.2 0)))) (b := 290) (j := 0) (x := (nI (16 - 11))) (by omega)).trans (h24.2.2.2.2.2.2.1 0 (by omega)))))) ?_
          refine fg_iconst (fg_ft (pc := 199) tb_Mo_dayLine 119 rfl) ic_1 ?_
          refine fg_iaddN (fg_ft (pc := 200) tb_Mo_dayLine 120 rfl) ?_
          refine fg_iastN (fg_ft (pc := 201) tb_Mo_dayLine 121 rfl) ly_290 (fg_lt ly_290 (by decide)) (by omega) ?_
          show fg_wp _ _ _ _ _ _ _ _ _ (fg_u2 (fg_u2 (fg_u2 (fg_u2 (fg_u2 ν24 290 (1 + (4 * (c.2.2.2.2.2 0))) (nI (16 - 11))) 290 ((1 + (4 * (c.2.2.2.2.2 0))) + 1) (nI (a.1))) 290 ((1 + (4 * (c.2.2.2.2.2 0))) + 2) (nI (b9.1))) 290 ((1 + (4 * (c.2.2.2.2.2 0))) + 3) (nI (c.1))) 290 0 (nI ((c.2.2.2.2.2 0) + 1)), fg_rho R, 304)
          have hm : rz_RZ (fg_u2 (fg_u2 (fg_u2 (fg_u2 (fg_u2 ν24 290 (1 + (4 * (c.2.2.2.2.2 0))) (nI (16 - 11))) 290 ((1 + (4 * (c.2.2.2.2.2 0))) + 1) (nI (a.1))) 290 ((1 + (4 * (c.2.2.2.2.2 0))) + 2) (nI (b9.1))) 290 ((1 + (4 * (c.2.2.2.2.2 0))) + 3) (nI (c.1))) 290 0 (nI ((c.2.2.2.2.2 0) + 1))) b len (rz_dn 16 (rz_dm (pz_K b len) (pz_V b len) (pz_S b len) t.2 16)) := by
            have e9 : rz_dm (pz_K b len) (pz_V b len) (pz_S b len) t.2 16 = (a.1, b9.1, c.1, c.2) := (by
              show rz_dq (pz_K b len) (pz_V b len) (pz_S b len) (rz_nu (pz_K b len) (pz_V b len) (pz_S b len) 0 (4 + 1) t.2) = _
              rw [ha]
              unfold rz_dq
              have h1 : rz_nu (pz_K b len) (pz_V b len) (pz_S b len) 0 5 (rz_dup (pz_K b len) (pz_V b len) (pz_S b len) a.1 a.2) = b9 := hb9
              have h2 : rz_nu (pz_K b len) (pz_V b len) (pz_S b len) 0 10 b9.2 = c := hc9
              rw [h1]
              show (a.1, b9.1, (rz_nu (pz_K b len) (pz_V b len) (pz_S b len) 0 10 b9.2).1, (rz_nu (pz_K b len) (pz_V b len) (pz_S b len) 0 10 b9.2).2) = _
              rw [h2])
            rw [e9]
            show rz_RZ _ b len (rz_pd 5 a.1 b9.1 c.1 c.2)
            unfold rz_pd
            rw [if_pos (by omega)]
            exact (((((h24).put).put).put).put).put
          have agm : rz_ag μ (fg_u2 (fg_u2 (fg_u2 (fg_u2 (fg_u2 ν24 290 (1 + (4 * (c.2.2.2.2.2 0))) (nI (16 - 11))) 290 ((1 + (4 * (c.2.2.2.2.2 0))) + 1) (nI (a.1))) 290 ((1 + (4 * (c.2.2.2.2.2 0))) + 2) (nI (b9.1))) 290 ((1 + (4 * (c.2.2.2.2.2 0))) + 3) (nI (c.1))) 290 0 (nI ((c.2.2.2.2.2 0) + 1))) := fun a j p q r => (fg_u2ne r).trans ((fg_u2ne r).trans ((fg_u2ne r).trans ((fg_u2ne r).trans ((fg_u2ne r).trans (ag24 a j p q r)))))
          refine fg_aloadn (fg_ft (pc := 202) tb_Mo_dayLine 122 rfl) rfl ?_
          refine fg_callV (fg_ft (pc := 203) tb_Mo_dayLine 123 rfl) cf_Mo_153 (fg_isOf ly_287 rfl (fg_lt ly_287 (by decide))) (as := []) (st := []) rfl rfl (Nat.le_of_ble_eq_true rfl) (Nat.le_refl _) (Nat.le_refl _) (ev_Mo_endsLine hle hb256 hm ?_)
          intro ν26 hg26 h26
          have ag26 := rz_ag_tr agm hg26
          show fg_wp _ _ _ _ _ _ _ _ _ (ν26, fg_rho R, 304)
          exact fg_vret (fg_ft (pc := 206) tb_Mo_dayLine 124 rfl) rfl rfl (hQ _ ag26 h26)
      · refine fg_aloadn (fg_ft (pc := 78) tb_Mo_dayLine 45 rfl) rfl ?_
        refine fg_iconst (fg_ft (pc := 79) tb_Mo_dayLine 46 rfl) ic_2 ?_
        refine fg_aloadn (fg_ft (pc := 80) tb_Mo_dayLine 47 rfl) rfl ?_
        refine fg_getV (v := (nI (pz_S b len a.2.1))) (fg_ft (pc := 81) tb_Mo_dayLine 48 rfl) ff_Mo_81 ly_287 rfl (fg_lt ly_287 (by decide)) h18.2.1.2.1 ?_
        refine fg_callV (fg_ft (pc := 84) tb_Mo_dayLine 49 rfl) cf_Mo_114 (fg_isOf ly_287 rfl (fg_lt ly_287 (by decide))) (as := [.int (nI 2), .int (nI (pz_S b len a.2.1))]) (st := []) rfl rfl (Nat.le_of_ble_eq_true rfl) (Nat.le_refl _) (Nat.le_refl _) (ev_Mo_also (kd := 2) (at9 := (pz_S b len a.2.1)) hle hb256 h18 (by decide) (by decide) (by decide) (rz_S_le hle) ?_)
        intro ν27 hg27 h27
        have ag27 := rz_ag_tr ag18 hg27
        show fg_wp _ _ _ _ _ _ _ _ _ (ν27, fg_rho R, 304)
        have hd : rz_RZ ν27 b len (rz_dup (pz_K b len) (pz_V b len) (pz_S b len) a.1 a.2) := by
          unfold rz_dup
          rw [if_pos ⟨c67, c75⟩]
          exact h27
        refine fg_aloadn (fg_ft (pc := 87) tb_Mo_dayLine 50 rfl) rfl ?_
        refine fg_iconst (fg_ft (pc := 88) tb_Mo_dayLine 51 rfl) ic_0 ?_
        refine fg_iconst (fg_ft (pc := 89) tb_Mo_dayLine 52 rfl) ic_4 ?_
        refine fg_callV (fg_ft (pc := 90) tb_Mo_dayLine 53 rfl) cf_Mo_121 (fg_isOf ly_287 rfl (fg_lt ly_287 (by decide))) (as := [.int (nI 0), .int (nI 4)]) (st := []) rfl rfl (Nat.le_of_ble_eq_true rfl) (Nat.le_refl _) (Nat.le_refl _) (ev_Mo_numbered (lo := 0) (hi := 4 + 1) hle hb256 hd (rz_m (by decide) (by decide)) ?_)
        intro ν28 hg28 h28
        have ag28 := rz_ag_tr ag27 hg28
        obtain ⟨b9, hb9⟩ : ∃ x, (rz_nu (pz_K b len) (pz_V b len) (pz_S b len) 0 (4 + 1) (rz_dup (pz_K b len) (pz_V b len) (pz_S b len) a.1 a.2)) = x := ⟨_, rfl⟩
        rw [hb9] at h28 ⊢
        show fg_wp _ _ _ _ _ _ _ _ _ (ν28, fg_rho R, 304)
        refine fg_istore (fg_ft (pc := 93) tb_Mo_dayLine 54 rfl) (Nat.le_of_ble_eq_true rfl) ?_
        refine fg_aloadn (fg_ft (pc := 95) tb_Mo_dayLine 55 rfl) rfl ?_
        refine fg_iconst (fg_ft (pc := 96) tb_Mo_dayLine 56 rfl) ic_0 ?_
        refine fg_bipush (fg_ft (pc := 97) tb_Mo_dayLine 57 rfl) ib_9 ?_
        refine fg_callV (fg_ft (pc := 99) tb_Mo_dayLine 58 rfl) cf_Mo_121 (fg_isOf ly_287 rfl (fg_lt ly_287 (by decide))) (as := [.int (nI 0), .int (nI 9)]) (st := []) rfl rfl (Nat.le_of_ble_eq_true rfl) (Nat.le_refl _) (Nat.le_refl _) (ev_Mo_numbered (lo := 0) (hi := 9 + 1) hle hb256 h28 (rz_m (by decide) (by decide)) ?_)
        intro ν29 hg29 h29
        have ag29 := rz_ag_tr ag28 hg29
        obtain ⟨c, hc9⟩ : ∃ x, (rz_nu (pz_K b len) (pz_V b len) (pz_S b len) 0 (9 + 1) b9.2) = x := ⟨_, rfl⟩
        rw [hc9] at h29 ⊢
        show fg_wp _ _ _ _ _ _ _ _ _ (ν29, fg_rho R, 304)
        refine fg_istore (fg_ft (pc := 102) tb_Mo_dayLine 59 rfl) (Nat.le_of_ble_eq_true rfl) ?_
        refine fg_goto (tgt := 126) (fg_ft (pc := 104) tb_Mo_dayLine 60 rfl) (by decide) ?_
        have hCf : c.2.2.2.2.2 = Z.2.2.2.2 := by rw [← hc9, rz_nu_C, ← hb9, rz_nu_C, rz_dup_C, hCa]
        have hb1 : c.2.2.2.2.2 0 ≤ 700 := by rw [hCf]; exact hcnt
        refine fg_aloadn (fg_ft (pc := 126) tb_Mo_dayLine 71 rfl) rfl ?_
        refine fg_getR (fg_ft (pc := 127) tb_Mo_dayLine 72 rfl) ff_Mo_17 ly_287 rfl (fg_lt ly_287 (by decide)) (rh_287_10 R) ?_
        refine fg_iconst (fg_ft (pc := 130) tb_Mo_dayLine 73 rfl) ic_0 ?_
        refine fg_ialdV (v := (nI (c.2.2.2.2.2 0))) (fg_ft (pc := 131) tb_Mo_dayLine 74 rfl) ly_290 (fg_lt ly_290 (by decide)) (by omega) (h29.2.2.2.2.2.2.1 0 (by omega)) ?_
        refine fg_bipush (fg_ft (pc := 132) tb_Mo_dayLine 75 rfl) ib_30 ?_
        refine fg_icmp_geN (tgt := 192) (fg_ft (pc := 134) tb_Mo_dayLine 76 rfl) (by decide) (by omega) (by decide) (fun c134 => ?_) (fun c134 => ?_)
        · refine fg_aloadn (fg_ft (pc := 192) tb_Mo_dayLine 114 rfl) rfl ?_
          refine fg_getR (fg_ft (pc := 193) tb_Mo_dayLine 115 rfl) ff_Mo_17 ly_287 rfl (fg_lt ly_287 (by decide)) (rh_287_10 R) ?_
          refine fg_iconst (fg_ft (pc := 196) tb_Mo_dayLine 116 rfl) ic_0 ?_
          refine fg_dup2 (fg_ft (pc := 197) tb_Mo_dayLine 117 rfl) rfl rfl ?_
          refine fg_ialdV (v := (nI (c.2.2.2.2.2 0))) (fg_ft (pc := 198) tb_Mo_dayLine 118 rfl) ly_290 (fg_lt ly_290 (by decide)) (by omega) (h29.2.2.2.2.2.2.1 0 (by omega)) ?_
          refine fg_iconst (fg_ft (pc := 199) tb_Mo_dayLine 119 rfl) ic_1 ?_
          refine fg_iaddN (fg_ft (pc := 200) tb_Mo_dayLine 120 rfl) ?_
          refine fg_iastN (fg_ft (pc := 201) tb_Mo_dayLine 121 rfl) ly_290 (fg_lt ly_290 (by decide)) (by omega) ?_
          show fg_wp _ _ _ _ _ _ _ _ _ (fg_u2 ν29 290 0 (nI ((c.2.2.2.2.2 0) + 1)), fg_rho R, 304)
          have hm : rz_RZ (fg_u2 ν29 290 0 (nI ((c.2.2.2.2.2 0) + 1))) b len (rz_dn 16 (rz_dm (pz_K b len) (pz_V b len) (pz_S b len) t.2 16)) := by
            have e9 : rz_dm (pz_K b len) (pz_V b len) (pz_S b len) t.2 16 = (a.1, b9.1, c.1, c.2) := (by
              show rz_dq (pz_K b len) (pz_V b len) (pz_S b len) (rz_nu (pz_K b len) (pz_V b len) (pz_S b len) 0 (4 + 1) t.2) = _
              rw [ha]
              unfold rz_dq
              have h1 : rz_nu (pz_K b len) (pz_V b len) (pz_S b len) 0 5 (rz_dup (pz_K b len) (pz_V b len) (pz_S b len) a.1 a.2) = b9 := hb9
              have h2 : rz_nu (pz_K b len) (pz_V b len) (pz_S b len) 0 10 b9.2 = c := hc9
              rw [h1]
              show (a.1, b9.1, (rz_nu (pz_K b len) (pz_V b len) (pz_S b len) 0 10 b9.2).1, (rz_nu (pz_K b len) (pz_V b len) (pz_S b len) 0 10 b9.2).2) = _
              rw [h2])
            rw [e9]
            show rz_RZ _ b len (rz_pd 5 a.1 b9.1 c.1 c.2)
            unfold rz_pd
            rw [if_neg (by omega)]
            exact (h29).put
          have agm : rz_ag μ (fg_u2 ν29 290 0 (nI ((c.2.2.2.2.2 0) + 1))) := fun a j p q r => (fg_u2ne r).trans (ag29 a j p q r)
          refine fg_aloadn (fg_ft (pc := 202) tb_Mo_dayLine 122 rfl) rfl ?_
          refine fg_callV (fg_ft (pc := 203) tb_Mo_dayLine 123 rfl) cf_Mo_153 (fg_isOf ly_287 rfl (fg_lt ly_287 (by decide))) (as := []) (st := []) rfl rfl (Nat.le_of_ble_eq_true rfl) (Nat.le_refl _) (Nat.le_refl _) (ev_Mo_endsLine hle hb256 hm ?_)
          intro ν30 hg30 h30
          have ag30 := rz_ag_tr agm hg30
          show fg_wp _ _ _ _ _ _ _ _ _ (ν30, fg_rho R, 304)
          exact fg_vret (fg_ft (pc := 206) tb_Mo_dayLine 124 rfl) rfl rfl (hQ _ ag30 h30)
        · refine fg_iconst (fg_ft (pc := 137) tb_Mo_dayLine 77 rfl) ic_1 ?_
          refine fg_iconst (fg_ft (pc := 138) tb_Mo_dayLine 78 rfl) ic_4 ?_
          refine fg_aloadn (fg_ft (pc := 139) tb_Mo_dayLine 79 rfl) rfl ?_
          refine fg_getR (fg_ft (pc := 140) tb_Mo_dayLine 80 rfl) ff_Mo_17 ly_287 rfl (fg_lt ly_287 (by decide)) (rh_287_10 R) ?_
          refine fg_iconst (fg_ft (pc := 143) tb_Mo_dayLine 81 rfl) ic_0 ?_
          refine fg_ialdV (v := (nI (c.2.2.2.2.2 0))) (fg_ft (pc := 144) tb_Mo_dayLine 82 rfl) ly_290 (fg_lt ly_290 (by decide)) (by omega) (h29.2.2.2.2.2.2.1 0 (by omega)) ?_
          refine fg_imulN (fg_ft (pc := 145) tb_Mo_dayLine 83 rfl) ?_
          refine fg_iaddN (fg_ft (pc := 146) tb_Mo_dayLine 84 rfl) ?_
          refine fg_istore (fg_ft (pc := 147) tb_Mo_dayLine 85 rfl) (Nat.le_of_ble_eq_true rfl) ?_
          refine fg_aloadn (fg_ft (pc := 149) tb_Mo_dayLine 86 rfl) rfl ?_
          refine fg_getR (fg_ft (pc := 150) tb_Mo_dayLine 87 rfl) ff_Mo_17 ly_287 rfl (fg_lt ly_287 (by decide)) (rh_287_10 R) ?_
          refine fg_iload (fg_ft (pc := 153) tb_Mo_dayLine 88 rfl) rfl ?_
          refine fg_iloadn (fg_ft (pc := 155) tb_Mo_dayLine 89 rfl) rfl ?_
          refine fg_bipush (fg_ft (pc := 156) tb_Mo_dayLine 90 rfl) ib_11 ?_
          refine fg_isubN (fg_ft (pc := 158) tb_Mo_dayLine 91 rfl) (by omega) ?_
          refine fg_iastN (fg_ft (pc := 159) tb_Mo_dayLine 92 rfl) ly_290 (fg_lt ly_290 (by decide)) (by omega) ?_
          show fg_wp _ _ _ _ _ _ _ _ _ (fg_u2 ν29 290 (1 + (4 * (c.2.2.2.2.2 0))) (nI (16 - 11)), fg_rho R, 304)
          refine fg_aloadn (fg_ft (pc := 160) tb_Mo_dayLine 93 rfl) rfl ?_
          refine fg_getR (fg_ft (pc := 161) tb_Mo_dayLine 94 rfl) ff_Mo_17 ly_287 rfl (fg_lt ly_287 (by decide)) (rh_287_10 R) ?_
          refine fg_iload (fg_ft (pc := 164) tb_Mo_dayLine 95 rfl) rfl ?_
          refine fg_iconst (fg_ft (pc := 166) tb_Mo_dayLine 96 rfl) ic_1 ?_
          refine fg_iaddN (fg_ft (pc := 167) tb_Mo_dayLine 97 rfl) ?_
          refine fg_iloadn (fg_ft (pc := 168) tb_Mo_dayLine 98 rfl) rfl ?_
          refine fg_iastN (fg_ft (pc := 169) tb_Mo_dayLine 99 rfl) ly_290 (fg_lt ly_290 (by decide)) (by omega) ?_
          show fg_wp _ _ _ _ _ _ _ _ _ (fg_u2 (fg_u2 ν29 290 (1 + (4 * (c.2.2.2.2.2 0))) (nI (16 - 11))) 290 ((1 + (4 * (c.2.2.2.2.2 0))) + 1) (nI (a.1)), fg_rho R, 304)
          refine fg_aloadn (fg_ft (pc := 170) tb_Mo_dayLine 100 rfl) rfl ?_
          refine fg_getR (fg_ft (pc := 171) tb_Mo_dayLine 101 rfl) ff_Mo_17 ly_287 rfl (fg_lt ly_287 (by decide)) (rh_287_10 R) ?_
          refine fg_iload (fg_ft (pc := 174) tb_Mo_dayLine 102 rfl) rfl ?_
          refine fg_iconst (fg_ft (pc := 176) tb_Mo_dayLine 103 rfl) ic_2 ?_
          refine fg_iaddN (fg_ft (pc := 177) tb_Mo_dayLine 104 rfl) ?_
          refine fg_iload (fg_ft (pc := 178) tb_Mo_dayLine 105 rfl) rfl ?_
          refine fg_iastN (fg_ft (pc := 180) tb_Mo_dayLine 106 rfl) ly_290 (fg_lt ly_290 (by decide)) (by omega) ?_
          show fg_wp _ _ _ _ _ _ _ _ _ (fg_u2 (fg_u2 (fg_u2 ν29 290 (1 + (4 * (c.2.2.2.2.2 0))) (nI (16 - 11))) 290 ((1 + (4 * (c.2.2.2.2.2 0))) + 1) (nI (a.1))) 290 ((1 + (4 * (c.2.2.2.2.2 0))) + 2) (nI (b9.1)), fg_rho R, 304)
          refine fg_aloadn (fg_ft (pc := 181) tb_Mo_dayLine 107 rfl) rfl ?_
          refine fg_getR (fg_ft (pc := 182) tb_Mo_dayLine 108 rfl) ff_Mo_17 ly_287 rfl (fg_lt ly_287 (by decide)) (rh_287_10 R) ?_
          refine fg_iload (fg_ft (pc := 185) tb_Mo_dayLine 109 rfl) rfl ?_
          refine fg_iconst (fg_ft (pc := 187) tb_Mo_dayLine 110 rfl) ic_3 ?_
          refine fg_iaddN (fg_ft (pc := 188) tb_Mo_dayLine 111 rfl) ?_
          refine fg_iload (fg_ft (pc := 189) tb_Mo_dayLine 112 rfl) rfl ?_
          refine fg_iastN (fg_ft (pc := 191) tb_Mo_dayLine 113 rfl) ly_290 (fg_lt ly_290 (by decide)) (by omega) ?_
          show fg_wp _ _ _ _ _ _ _ _ _ (fg_u2 (fg_u2 (fg_u2 (fg_u2 ν29 290 (1 + (4 * (c.2.2.2.2.2 0))) (nI (16 - 11))) 290 ((1 + (4 * (c.2.2.2.2.2 0))) + 1) (nI (a.1))) 290 ((1 + (4 * (c.2.2.2.2.2 0))) + 2) (nI (b9.1))) 290 ((1 + (4 * (c.2.2.2.2.2 0))) + 3) (nI (c.1)), fg_rho R, 304)
          refine fg_aloadn (fg_ft (pc := 192) tb_Mo_dayLine 114 rfl) rfl ?_
          refine fg_getR (fg_ft (pc := 193) tb_Mo_dayLine 115 rfl) ff_Mo_17 ly_287 rfl (fg_lt ly_287 (by decide)) (rh_287_10 R) ?_
          refine fg_iconst (fg_ft (pc := 196) tb_Mo_dayLine 116 rfl) ic_0 ?_
          refine fg_dup2 (fg_ft (pc := 197) tb_Mo_dayLine 117 rfl) rfl rfl ?_
          refine fg_ialdV (v := (nI (c.2.2.2.2.2 0))) (fg_ft (pc := 198) tb_Mo_dayLine 118 rfl) ly_290 (fg_lt ly_290 (by decide)) (by omega) ((fg_u2ns (f := (fg_u2 (fg_u2 (fg_u2 ν29 290 (1 + (4 * (c.2.2.2.2.2 0))) (nI (16 - 11))) 290 ((1 + (4 * (c.2.2.2.2.2 0))) + 1) (nI (a.1))) 290 ((1 + (4 * (c.2.2.2.2.2 0))) + 2) (nI (b9.1)))) (a := 290) (k := ((1 + (4 * (c.2.2.2.2.2 0))) + 3)) (b := 290) (j := 0) (x := (nI (c.1))) (by omega)).trans ((fg_u2ns (f := (fg_u2 (fg_u2 ν29 290 (1 + (4 * (c.2.2.2.2.2 0))) (nI (16 - 11))) 290 ((1 + (4 * (c.2.2.2.2.2 0))) + 1) (nI (a.1)))) (a := 290) (k := ((1 + (4 * (c.2.2.2.2.2 0))) + 2)) (b := 290) (j := 0) (x := (nI (b9.1))) (by omega)).trans ((fg_u2ns (f := (fg_u2 ν29 290 (1 + (4 * (c.2.2.2.2.2 0))) (nI (16 - 11)))) (a := 290) (k := ((1 + (4 * (c.2.2.2.2.2 0))) + 1)) (b := 290) (j := 0) (x := (nI (a.1))) (by omega)).trans ((fg_u2ns (f := ν29) (a := 290) (k := (1 + (4 * (c.2.2.2.2.2 0)))) (b := 290) (j := 0) (x := (nI (16 - 11))) (by omega)).trans (h29.2.2.2.2.2.2.1 0 (by omega)))))) ?_
          refine fg_iconst (fg_ft (pc := 199) tb_Mo_dayLine 119 rfl) ic_1 ?_
          refine fg_iaddN (fg_ft (pc := 200) tb_Mo_dayLine 120 rfl) ?_
          refine fg_iastN (fg_ft (pc := 201) tb_Mo_dayLine 121 rfl) ly_290 (fg_lt ly_290 (by decide)) (by omega) ?_
          show fg_wp _ _ _ _ _ _ _ _ _ (fg_u2 (fg_u2 (fg_u2 (fg_u2 (fg_u2 ν29 290 (1 + (4 * (c.2.2.2.2.2 0))) (nI (16 - 11))) 290 ((1 + (4 * (c.2.2.2.2.2 0))) + 1) (nI (a.1))) 290 ((1 + (4 * (c.2.2.2.2.2 0))) + 2) (nI (b9.1))) 290 ((1 + (4 * (c.2.2.2.2.2 0))) + 3) (nI (c.1))) 290 0 (nI ((c.2.2.2.2.2 0) + 1)), fg_rho R, 304)
          have hm : rz_RZ (fg_u2 (fg_u2 (fg_u2 (fg_u2 (fg_u2 ν29 290 (1 + (4 * (c.2.2.2.2.2 0))) (nI (16 - 11))) 290 ((1 + (4 * (c.2.2.2.2.2 0))) + 1) (nI (a.1))) 290 ((1 + (4 * (c.2.2.2.2.2 0))) + 2) (nI (b9.1))) 290 ((1 + (4 * (c.2.2.2.2.2 0))) + 3) (nI (c.1))) 290 0 (nI ((c.2.2.2.2.2 0) + 1))) b len (rz_dn 16 (rz_dm (pz_K b len) (pz_V b len) (pz_S b len) t.2 16)) := by
            have e9 : rz_dm (pz_K b len) (pz_V b len) (pz_S b len) t.2 16 = (a.1, b9.1, c.1, c.2) := (by
              show rz_dq (pz_K b len) (pz_V b len) (pz_S b len) (rz_nu (pz_K b len) (pz_V b len) (pz_S b len) 0 (4 + 1) t.2) = _
              rw [ha]
              unfold rz_dq
              have h1 : rz_nu (pz_K b len) (pz_V b len) (pz_S b len) 0 5 (rz_dup (pz_K b len) (pz_V b len) (pz_S b len) a.1 a.2) = b9 := hb9
              have h2 : rz_nu (pz_K b len) (pz_V b len) (pz_S b len) 0 10 b9.2 = c := hc9
              rw [h1]
              show (a.1, b9.1, (rz_nu (pz_K b len) (pz_V b len) (pz_S b len) 0 10 b9.2).1, (rz_nu (pz_K b len) (pz_V b len) (pz_S b len) 0 10 b9.2).2) = _
              rw [h2])
            rw [e9]
            show rz_RZ _ b len (rz_pd 5 a.1 b9.1 c.1 c.2)
            unfold rz_pd
            rw [if_pos (by omega)]
            exact (((((h29).put).put).put).put).put
          have agm : rz_ag μ (fg_u2 (fg_u2 (fg_u2 (fg_u2 (fg_u2 ν29 290 (1 + (4 * (c.2.2.2.2.2 0))) (nI (16 - 11))) 290 ((1 + (4 * (c.2.2.2.2.2 0))) + 1) (nI (a.1))) 290 ((1 + (4 * (c.2.2.2.2.2 0))) + 2) (nI (b9.1))) 290 ((1 + (4 * (c.2.2.2.2.2 0))) + 3) (nI (c.1))) 290 0 (nI ((c.2.2.2.2.2 0) + 1))) := fun a j p q r => (fg_u2ne r).trans ((fg_u2ne r).trans ((fg_u2ne r).trans ((fg_u2ne r).trans ((fg_u2ne r).trans (ag29 a j p q r)))))
          refine fg_aloadn (fg_ft (pc := 202) tb_Mo_dayLine 122 rfl) rfl ?_
          refine fg_callV (fg_ft (pc := 203) tb_Mo_dayLine 123 rfl) cf_Mo_153 (fg_isOf ly_287 rfl (fg_lt ly_287 (by decide))) (as := []) (st := []) rfl rfl (Nat.le_of_ble_eq_true rfl) (Nat.le_refl _) (Nat.le_refl _) (ev_Mo_endsLine hle hb256 hm ?_)
          intro ν31 hg31 h31
          have ag31 := rz_ag_tr agm hg31
          show fg_wp _ _ _ _ _ _ _ _ _ (ν31, fg_rho R, 304)
          exact fg_vret (fg_ft (pc := 206) tb_Mo_dayLine 124 rfl) rfl rfl (hQ _ ag31 h31)
theorem ev_Mo_dayLine_17 {E : fg_E} {d : Nat} {μ : Nat → Nat → Int32} {R : fg_T4} {Q : Option Value → fg_M → Prop} {b : Nat → Nat} {len : Nat} {Z : rz_Z} (hle : len ≤ 600) (hb256 : ∀ j, b j < 256) (h : rz_RZ μ b len Z) (hcnt : Z.2.2.2.2 0 ≤ 700) {t : Nat × rz_Z} (ht : rz_ta (pz_K b len) (pz_V b len) (pz_S b len) 11 17 (rz_c3 0 30 (pz_S b len Z.1) Z) = t) (hk : t.1 = 17) (hQ : ∀ μ' : Nat → Nat → Int32, rz_ag μ μ' → rz_RZ μ' b len (rz_el (pz_K b len) (pz_S b len) (rz_dn 17 (rz_dm (pz_K b len) (pz_V b len) (pz_S b len) t.2 17))) → Q none (μ', fg_rho R, 304)) : fg_Ev E yy_Mo_dayLine (d + 9) [.ref 287] (μ, fg_rho R, 304) 304 Q := by
  refine fg_intro (by decide +kernel) (Nat.le_of_ble_eq_true rfl) (fg_okAs rfl) (Nat.le_refl _) ?_
  refine fg_aloadn (fg_ft (pc := 0) tb_Mo_dayLine 0 rfl) rfl ?_
  refine fg_getV (v := (nI (pz_S b len Z.1))) (fg_ft (pc := 1) tb_Mo_dayLine 1 rfl) ff_Mo_81 ly_287 rfl (fg_lt ly_287 (by decide)) h.2.1.2.1 ?_
  refine fg_istoren (fg_ft (pc := 4) tb_Mo_dayLine 2 rfl) (Nat.le_of_ble_eq_true rfl) ?_
  refine fg_aloadn (fg_ft (pc := 5) tb_Mo_dayLine 3 rfl) rfl ?_
  refine fg_getR (fg_ft (pc := 6) tb_Mo_dayLine 4 rfl) ff_Mo_17 ly_287 rfl (fg_lt ly_287 (by decide)) (rh_287_10 R) ?_
  refine fg_iconst (fg_ft (pc := 9) tb_Mo_dayLine 5 rfl) ic_0 ?_
  refine fg_ialdV (v := (nI (Z.2.2.2.2 0))) (fg_ft (pc := 10) tb_Mo_dayLine 6 rfl) ly_290 (fg_lt ly_290 (by decide)) (by omega) (h.2.2.2.2.2.2.1 0 (by omega)) ?_
  have hb0 := hcnt
  refine fg_bipush (fg_ft (pc := 11) tb_Mo_dayLine 7 rfl) ib_30 ?_
  refine fg_icmp_ltN (tgt := 22) (fg_ft (pc := 13) tb_Mo_dayLine 8 rfl) (by decide) (by omega) (by decide) (fun c13 => ?_) (fun c13 => ?_)
  · have hc : rz_RZ μ b len (rz_c3 0 30 (pz_S b len Z.1) Z) := by
      unfold rz_c3
      rw [if_neg (by omega)]
      exact h
    refine fg_aloadn (fg_ft (pc := 22) tb_Mo_dayLine 13 rfl) rfl ?_
    refine fg_bipush (fg_ft (pc := 23) tb_Mo_dayLine 14 rfl) ib_11 ?_
    refine fg_bipush (fg_ft (pc := 25) tb_Mo_dayLine 15 rfl) ib_17 ?_
    refine fg_callV (fg_ft (pc := 27) tb_Mo_dayLine 16 rfl) cf_Mo_135 (fg_isOf ly_287 rfl (fg_lt ly_287 (by decide))) (as := [.int (nI 11), .int (nI 17)]) (st := []) rfl rfl (Nat.le_of_ble_eq_true rfl) (Nat.le_refl _) (Nat.le_refl _) (ev_Mo_takes (lo := 11) (hi := 17) hle hb256 hc (by decide) (by decide) ?_)
    intro ν1 hg1 h1
    have ag1 := hg1
    rw [ht] at h1 ⊢
    show fg_wp _ _ _ _ _ _ _ _ _ (ν1, fg_rho R, 304)
    have hCt : t.2.2.2.2.2 = Z.2.2.2.2 := by rw [← ht, rz_ta_C, rz_c3_C]
    refine fg_top (y := nI 17) (congrArg nI hk) ?_
    refine fg_istoren (fg_ft (pc := 30) tb_Mo_dayLine 17 rfl) (Nat.le_of_ble_eq_true rfl) ?_
    refine fg_iconst (fg_ft (pc := 31) tb_Mo_dayLine 18 rfl) ic_m1 ?_
    refine fg_top (y := nI 4294967295) (by decide) ?_
    refine fg_istoren (fg_ft (pc := 32) tb_Mo_dayLine 19 rfl) (Nat.le_of_ble_eq_true rfl) ?_
    refine fg_iconst (fg_ft (pc := 33) tb_Mo_dayLine 20 rfl) ic_m1 ?_
    refine fg_top (y := nI 4294967295) (by decide) ?_
    refine fg_istore (fg_ft (pc := 34) tb_Mo_dayLine 21 rfl) (Nat.le_of_ble_eq_true rfl) ?_
    refine fg_iconst (fg_ft (pc := 36) tb_Mo_dayLine 22 rfl) ic_m1 ?_
    refine fg_top (y := nI 4294967295) (by decide) ?_
    refine fg_istore (fg_ft (pc := 37) tb_Mo_dayLine 23 rfl) (Nat.le_of_ble_eq_true rfl) ?_
    refine fg_iloadn (fg_ft (pc := 39) tb_Mo_dayLine 24 rfl) rfl ?_
    refine fg_if_leN (tgt := 56) (fg_ft (pc := 40) tb_Mo_dayLine 25 rfl) (by decide) (by decide) (fun c40 => (absurd c40 (by decide))) (fun c40 => ?_)
    refine fg_iloadn (fg_ft (pc := 43) tb_Mo_dayLine 26 rfl) rfl ?_
    refine fg_bipush (fg_ft (pc := 44) tb_Mo_dayLine 27 rfl) ib_17 ?_
    refine fg_icmp_eqN (tgt := 56) (fg_ft (pc := 46) tb_Mo_dayLine 28 rfl) (by decide) (by decide) (by decide) (fun c46 => ?_) (fun c46 => (absurd c46 (by decide)))
    refine fg_iloadn (fg_ft (pc := 56) tb_Mo_dayLine 34 rfl) rfl ?_
    refine fg_bipush (fg_ft (pc := 57) tb_Mo_dayLine 35 rfl) ib_16 ?_
    refine fg_icmp_neN (tgt := 107) (fg_ft (pc := 59) tb_Mo_dayLine 36 rfl) (by decide) (by decide) (by decide) (fun c59 => ?_) (fun c59 => (absurd c59 (by decide)))
    refine fg_iloadn (fg_ft (pc := 107) tb_Mo_dayLine 61 rfl) rfl ?_
    refine fg_if_leN (tgt := 126) (fg_ft (pc := 108) tb_Mo_dayLine 62 rfl) (by decide) (by decide) (fun c108 => (absurd c108 (by decide))) (fun c108 => ?_)
    refine fg_iloadn (fg_ft (pc := 111) tb_Mo_dayLine 63 rfl) rfl ?_
    refine fg_bipush (fg_ft (pc := 112) tb_Mo_dayLine 64 rfl) ib_17 ?_
    refine fg_icmp_eqN (tgt := 126) (fg_ft (pc := 114) tb_Mo_dayLine 65 rfl) (by decide) (by decide) (by decide) (fun c114 => ?_) (fun c114 => (absurd c114 (by decide)))
    have hCf : t.2.2.2.2.2 = Z.2.2.2.2 := hCt
    have hb1 : t.2.2.2.2.2 0 ≤ 700 := by rw [hCf]; exact hcnt
    refine fg_aloadn (fg_ft (pc := 126) tb_Mo_dayLine 71 rfl) rfl ?_
    refine fg_getR (fg_ft (pc := 127) tb_Mo_dayLine 72 rfl) ff_Mo_17 ly_287 rfl (fg_lt ly_287 (by decide)) (rh_287_10 R) ?_
    refine fg_iconst (fg_ft (pc := 130) tb_Mo_dayLine 73 rfl) ic_0 ?_
    refine fg_ialdV (v := (nI (t.2.2.2.2.2 0))) (fg_ft (pc := 131) tb_Mo_dayLine 74 rfl) ly_290 (fg_lt ly_290 (by decide)) (by omega) (h1.2.2.2.2.2.2.1 0 (by omega)) ?_
    refine fg_bipush (fg_ft (pc := 132) tb_Mo_dayLine 75 rfl) ib_30 ?_
    refine fg_icmp_geN (tgt := 192) (fg_ft (pc := 134) tb_Mo_dayLine 76 rfl) (by decide) (by omega) (by decide) (fun c134 => ?_) (fun c134 => ?_)
    · refine fg_aloadn (fg_ft (pc := 192) tb_Mo_dayLine 114 rfl) rfl ?_
      refine fg_getR (fg_ft (pc := 193) tb_Mo_dayLine 115 rfl) ff_Mo_17 ly_287 rfl (fg_lt ly_287 (by decide)) (rh_287_10 R) ?_
      refine fg_iconst (fg_ft (pc := 196) tb_Mo_dayLine 116 rfl) ic_0 ?_
      refine fg_dup2 (fg_ft (pc := 197) tb_Mo_dayLine 117 rfl) rfl rfl ?_
      refine fg_ialdV (v := (nI (t.2.2.2.2.2 0))) (fg_ft (pc := 198) tb_Mo_dayLine 118 rfl) ly_290 (fg_lt ly_290 (by decide)) (by omega) (h1.2.2.2.2.2.2.1 0 (by omega)) ?_
      refine fg_iconst (fg_ft (pc := 199) tb_Mo_dayLine 119 rfl) ic_1 ?_
      refine fg_iaddN (fg_ft (pc := 200) tb_Mo_dayLine 120 rfl) ?_
      refine fg_iastN (fg_ft (pc := 201) tb_Mo_dayLine 121 rfl) ly_290 (fg_lt ly_290 (by decide)) (by omega) ?_
      show fg_wp _ _ _ _ _ _ _ _ _ (fg_u2 ν1 290 0 (nI ((t.2.2.2.2.2 0) + 1)), fg_rho R, 304)
      have hm : rz_RZ (fg_u2 ν1 290 0 (nI ((t.2.2.2.2.2 0) + 1))) b len (rz_dn 17 (rz_dm (pz_K b len) (pz_V b len) (pz_S b len) t.2 17)) := by
        have e9 : rz_dm (pz_K b len) (pz_V b len) (pz_S b len) t.2 17 = (4294967295, 4294967295, 4294967295, t.2) := rfl
        rw [e9]
        show rz_RZ _ b len (rz_pd 6 4294967295 4294967295 4294967295 t.2)
        unfold rz_pd
        rw [if_neg (by omega)]
        exact (h1).put
      have agm : rz_ag μ (fg_u2 ν1 290 0 (nI ((t.2.2.2.2.2 0) + 1))) := fun a j p q r => (fg_u2ne r).trans (ag1 a j p q r)
      refine fg_aloadn (fg_ft (pc := 202) tb_Mo_dayLine 122 rfl) rfl ?_
      refine fg_callV (fg_ft (pc := 203) tb_Mo_dayLine 123 rfl) cf_Mo_153 (fg_isOf ly_287 rfl (fg_lt ly_287 (by decide))) (as := []) (st := []) rfl rfl (Nat.le_of_ble_eq_true rfl) (Nat.le_refl _) (Nat.le_refl _) (ev_Mo_endsLine hle hb256 hm ?_)
      intro ν2 hg2 h2
      have ag2 := rz_ag_tr agm hg2
      show fg_wp _ _ _ _ _ _ _ _ _ (ν2, fg_rho R, 304)
      exact fg_vret (fg_ft (pc := 206) tb_Mo_dayLine 124 rfl) rfl rfl (hQ _ ag2 h2)
    · refine fg_iconst (fg_ft (pc := 137) tb_Mo_dayLine 77 rfl) ic_1 ?_
      refine fg_iconst (fg_ft (pc := 138) tb_Mo_dayLine 78 rfl) ic_4 ?_
      refine fg_aloadn (fg_ft (pc := 139) tb_Mo_dayLine 79 rfl) rfl ?_
      refine fg_getR (fg_ft (pc := 140) tb_Mo_dayLine 80 rfl) ff_Mo_17 ly_287 rfl (fg_lt ly_287 (by decide)) (rh_287_10 R) ?_
      refine fg_iconst (fg_ft (pc := 143) tb_Mo_dayLine 81 rfl) ic_0 ?_
      refine fg_ialdV (v := (nI (t.2.2.2.2.2 0))) (fg_ft (pc := 144) tb_Mo_dayLine 82 rfl) ly_290 (fg_lt ly_290 (by decide)) (by omega) (h1.2.2.2.2.2.2.1 0 (by omega)) ?_
      refine fg_imulN (fg_ft (pc := 145) tb_Mo_dayLine 83 rfl) ?_
      refine fg_iaddN (fg_ft (pc := 146) tb_Mo_dayLine 84 rfl) ?_
      refine fg_istore (fg_ft (pc := 147) tb_Mo_dayLine 85 rfl) (Nat.le_of_ble_eq_true rfl) ?_
      refine fg_aloadn (fg_ft (pc := 149) tb_Mo_dayLine 86 rfl) rfl ?_
      refine fg_getR (fg_ft (pc := 150) tb_Mo_dayLine 87 rfl) ff_Mo_17 ly_287 rfl (fg_lt ly_287 (by decide)) (rh_287_10 R) ?_
      refine fg_iload (fg_ft (pc := 153) tb_Mo_dayLine 88 rfl) rfl ?_
      refine fg_iloadn (fg_ft (pc := 155) tb_Mo_dayLine 89 rfl) rfl ?_
      refine fg_bipush (fg_ft (pc := 156) tb_Mo_dayLine 90 rfl) ib_11 ?_
      refine fg_isubN (fg_ft (pc := 158) tb_Mo_dayLine 91 rfl) (by omega) ?_
      refine fg_iastN (fg_ft (pc := 159) tb_Mo_dayLine 92 rfl) ly_290 (fg_lt ly_290 (by decide)) (by omega) ?_
      show fg_wp _ _ _ _ _ _ _ _ _ (fg_u2 ν1 290 (1 + (4 * (t.2.2.2.2.2 0))) (nI (17 - 11)), fg_rho R, 304)
      refine fg_aloadn (fg_ft (pc := 160) tb_Mo_dayLine 93 rfl) rfl ?_
      refine fg_getR (fg_ft (pc := 161) tb_Mo_dayLine 94 rfl) ff_Mo_17 ly_287 rfl (fg_lt ly_287 (by decide)) (rh_287_10 R) ?_
      refine fg_iload (fg_ft (pc := 164) tb_Mo_dayLine 95 rfl) rfl ?_
      refine fg_iconst (fg_ft (pc := 166) tb_Mo_dayLine 96 rfl) ic_1 ?_
      refine fg_iaddN (fg_ft (pc := 167) tb_Mo_dayLine 97 rfl) ?_
      refine fg_iloadn (fg_ft (pc := 168) tb_Mo_dayLine 98 rfl) rfl ?_
      refine fg_iastN (fg_ft (pc := 169) tb_Mo_dayLine 99 rfl) ly_290 (fg_lt ly_290 (by decide)) (by omega) ?_
      show fg_wp _ _ _ _ _ _ _ _ _ (fg_u2 (fg_u2 ν1 290 (1 + (4 * (t.2.2.2.2.2 0))) (nI (17 - 11))) 290 ((1 + (4 * (t.2.2.2.2.2 0))) + 1) (nI 4294967295), fg_rho R, 304)
      refine fg_aloadn (fg_ft (pc := 170) tb_Mo_dayLine 100 rfl) rfl ?_
      refine fg_getR (fg_ft (pc := 171) tb_Mo_dayLine 101 rfl) ff_Mo_17 ly_287 rfl (fg_lt ly_287 (by decide)) (rh_287_10 R) ?_
      refine fg_iload (fg_ft (pc := 174) tb_Mo_dayLine 102 rfl) rfl ?_
      refine fg_iconst (fg_ft (pc := 176) tb_Mo_dayLine 103 rfl) ic_2 ?_
      refine fg_iaddN (fg_ft (pc := 177) tb_Mo_dayLine 104 rfl) ?_
      refine fg_iload (fg_ft (pc := 178) tb_Mo_dayLine 105 rfl) rfl ?_
      refine fg_iastN (fg_ft (pc := 180) tb_Mo_dayLine 106 rfl) ly_290 (fg_lt ly_290 (by decide)) (by omega) ?_
      show fg_wp _ _ _ _ _ _ _ _ _ (fg_u2 (fg_u2 (fg_u2 ν1 290 (1 + (4 * (t.2.2.2.2.2 0))) (nI (17 - 11))) 290 ((1 + (4 * (t.2.2.2.2.2 0))) + 1) (nI 4294967295)) 290 ((1 + (4 * (t.2.2.2.2.2 0))) + 2) (nI 4294967295), fg_rho R, 304)
      refine fg_aloadn (fg_ft (pc := 181) tb_Mo_dayLine 107 rfl) rfl ?_
      refine fg_getR (fg_ft (pc := 182) tb_Mo_dayLine 108 rfl) ff_Mo_17 ly_287 rfl (fg_lt ly_287 (by decide)) (rh_287_10 R) ?_
      refine fg_iload (fg_ft (pc := 185) tb_Mo_dayLine 109 rfl) rfl ?_
      refine fg_iconst (fg_ft (pc := 187) tb_Mo_dayLine 110 rfl) ic_3 ?_
      refine fg_iaddN (fg_ft (pc := 188) tb_Mo_dayLine 111 rfl) ?_
      refine fg_iload (fg_ft (pc := 189) tb_Mo_dayLine 112 rfl) rfl ?_
      refine fg_iastN (fg_ft (pc := 191) tb_Mo_dayLine 113 rfl) ly_290 (fg_lt ly_290 (by decide)) (by omega) ?_
      show fg_wp _ _ _ _ _ _ _ _ _ (fg_u2 (fg_u2 (fg_u2 (fg_u2 ν1 290 (1 + (4 * (t.2.2.2.2.2 0))) (nI (17 - 11))) 290 ((1 + (4 * (t.2.2.2.2.2 0))) + 1) (nI 4294967295)) 290 ((1 + (4 * (t.2.2.2.2.2 0))) + 2) (nI 4294967295)) 290 ((1 + (4 * (t.2.2.2.2.2 0))) + 3) (nI 4294967295), fg_rho R, 304)
      refine fg_aloadn (fg_ft (pc := 192) tb_Mo_dayLine 114 rfl) rfl ?_
      refine fg_getR (fg_ft (pc := 193) tb_Mo_dayLine 115 rfl) ff_Mo_17 ly_287 rfl (fg_lt ly_287 (by decide)) (rh_287_10 R) ?_
      refine fg_iconst (fg_ft (pc := 196) tb_Mo_dayLine 116 rfl) ic_0 ?_
      refine fg_dup2 (fg_ft (pc := 197) tb_Mo_dayLine 117 rfl) rfl rfl ?_
      refine fg_ialdV (v := (nI (t.2.2.2.2.2 0))) (fg_ft (pc := 198) tb_Mo_dayLine 118 rfl) ly_290 (fg_lt ly_290 (by decide)) (by omega) ((fg_u2ns (f := (fg_u2 (fg_u2 (fg_u2 ν1 290 (1 + (4 * (t.2.2.2.2.2 0))) (nI (17 - 11))) 290 ((1 + (4 * (t.2.2.2.2.2 0))) + 1) (nI 4294967295)) 290 ((1 + (4 * (t.2.2.2.2.2 0))) + 2) (nI 4294967295))) (a := 290) (k := ((1 + (4 * (t.2.2.2.2.2 0))) + 3)) (b := 290) (j := 0) (x := (nI 4294967295)) (by omega)).trans ((fg_u2ns (f := (fg_u2 (fg_u2 ν1 290 (1 + (4 * (t.2.2.2.2.2 0))) (nI (17 - 11))) 290 ((1 + (4 * (t.2.2.2.2.2 0))) + 1) (nI 4294967295))) (a := 290) (k := ((1 + (4 * (t.2.2.2.2.2 0))) + 2)) (b := 290) (j := 0) (x := (nI 4294967295)) (by omega)).trans ((fg_u2ns (f := (fg_u2 ν1 290 (1 + (4 * (t.2.2.2.2.2 0))) (nI (17 - 11)))) (a := 290) (k := ((1 + (4 * (t.2.2.2.2.2 0))) + 1)) (b := 290) (j := 0) (x := (nI 4294967295)) (by omega)).trans ((fg_u2ns (f := ν1) (a := 290) (k := (1 + (4 * (t.2.2.2.2.2 0)))) (b := 290) (j := 0) (x := (nI (17 - 11))) (by omega)).trans (h1.2.2.2.2.2.2.1 0 (by omega)))))) ?_
      refine fg_iconst (fg_ft (pc := 199) tb_Mo_dayLine 119 rfl) ic_1 ?_
      refine fg_iaddN (fg_ft (pc := 200) tb_Mo_dayLine 120 rfl) ?_
      refine fg_iastN (fg_ft (pc := 201) tb_Mo_dayLine 121 rfl) ly_290 (fg_lt ly_290 (by decide)) (by omega) ?_
      show fg_wp _ _ _ _ _ _ _ _ _ (fg_u2 (fg_u2 (fg_u2 (fg_u2 (fg_u2 ν1 290 (1 + (4 * (t.2.2.2.2.2 0))) (nI (17 - 11))) 290 ((1 + (4 * (t.2.2.2.2.2 0))) + 1) (nI 4294967295)) 290 ((1 + (4 * (t.2.2.2.2.2 0))) + 2) (nI 4294967295)) 290 ((1 + (4 * (t.2.2.2.2.2 0))) + 3) (nI 4294967295)) 290 0 (nI ((t.2.2.2.2.2 0) + 1)), fg_rho R, 304)
      have hm : rz_RZ (fg_u2 (fg_u2 (fg_u2 (fg_u2 (fg_u2 ν1 290 (1 + (4 * (t.2.2.2.2.2 0))) (nI (17 - 11))) 290 ((1 + (4 * (t.2.2.2.2.2 0))) + 1) (nI 4294967295)) 290 ((1 + (4 * (t.2.2.2.2.2 0))) + 2) (nI 4294967295)) 290 ((1 + (4 * (t.2.2.2.2.2 0))) + 3) (nI 4294967295)) 290 0 (nI ((t.2.2.2.2.2 0) + 1))) b len (rz_dn 17 (rz_dm (pz_K b len) (pz_V b len) (pz_S b len) t.2 17)) := by
        have e9 : rz_dm (pz_K b len) (pz_V b len) (pz_S b len) t.2 17 = (4294967295, 4294967295, 4294967295, t.2) := rfl
        rw [e9]
        show rz_RZ _ b len (rz_pd 6 4294967295 4294967295 4294967295 t.2)
        unfold rz_pd
        rw [if_pos (by omega)]
        exact (((((h1).put).put).put).put).put
      have agm : rz_ag μ (fg_u2 (fg_u2 (fg_u2 (fg_u2 (fg_u2 ν1 290 (1 + (4 * (t.2.2.2.2.2 0))) (nI (17 - 11))) 290 ((1 + (4 * (t.2.2.2.2.2 0))) + 1) (nI 4294967295)) 290 ((1 + (4 * (t.2.2.2.2.2 0))) + 2) (nI 4294967295)) 290 ((1 + (4 * (t.2.2.2.2.2 0))) + 3) (nI 4294967295)) 290 0 (nI ((t.2.2.2.2.2 0) + 1))) := fun a j p q r => (fg_u2ne r).trans ((fg_u2ne r).trans ((fg_u2ne r).trans ((fg_u2ne r).trans ((fg_u2ne r).trans (ag1 a j p q r)))))
      refine fg_aloadn (fg_ft (pc := 202) tb_Mo_dayLine 122 rfl) rfl ?_
      refine fg_callV (fg_ft (pc := 203) tb_Mo_dayLine 123 rfl) cf_Mo_153 (fg_isOf ly_287 rfl (fg_lt ly_287 (by decide))) (as := []) (st := []) rfl rfl (Nat.le_of_ble_eq_true rfl) (Nat.le_refl _) (Nat.le_refl _) (ev_Mo_endsLine hle hb256 hm ?_)
      intro ν3 hg3 h3
      have ag3 := rz_ag_tr agm hg3
      show fg_wp _ _ _ _ _ _ _ _ _ (ν3, fg_rho R, 304)
      exact fg_vret (fg_ft (pc := 206) tb_Mo_dayLine 124 rfl) rfl rfl (hQ _ ag3 h3)
  · refine fg_aloadn (fg_ft (pc := 16) tb_Mo_dayLine 9 rfl) rfl ?_
    refine fg_iconst (fg_ft (pc := 17) tb_Mo_dayLine 10 rfl) ic_3 ?_
    refine fg_iloadn (fg_ft (pc := 18) tb_Mo_dayLine 11 rfl) rfl ?_
    refine fg_callV (fg_ft (pc := 19) tb_Mo_dayLine 12 rfl) cf_Mo_114 (fg_isOf ly_287 rfl (fg_lt ly_287 (by decide))) (as := [.int (nI 3), .int (nI (pz_S b len Z.1))]) (st := []) rfl rfl (Nat.le_of_ble_eq_true rfl) (Nat.le_refl _) (Nat.le_refl _) (ev_Mo_also (kd := 3) (at9 := (pz_S b len Z.1)) hle hb256 h (by decide) (by decide) (by decide) (rz_S_le hle) ?_)
    intro ν4 hg4 h4
    have ag4 := hg4
    show fg_wp _ _ _ _ _ _ _ _ _ (ν4, fg_rho R, 304)
    have hc : rz_RZ ν4 b len (rz_c3 0 30 (pz_S b len Z.1) Z) := by
      unfold rz_c3
      rw [if_pos (by omega)]
      exact h4
    refine fg_aloadn (fg_ft (pc := 22) tb_Mo_dayLine 13 rfl) rfl ?_
    refine fg_bipush (fg_ft (pc := 23) tb_Mo_dayLine 14 rfl) ib_11 ?_
    refine fg_bipush (fg_ft (pc := 25) tb_Mo_dayLine 15 rfl) ib_17 ?_
    refine fg_callV (fg_ft (pc := 27) tb_Mo_dayLine 16 rfl) cf_Mo_135 (fg_isOf ly_287 rfl (fg_lt ly_287 (by decide))) (as := [.int (nI 11), .int (nI 17)]) (st := []) rfl rfl (Nat.le_of_ble_eq_true rfl) (Nat.le_refl _) (Nat.le_refl _) (ev_Mo_takes (lo := 11) (hi := 17) hle hb256 hc (by decide) (by decide) ?_)
    intro ν5 hg5 h5
    have ag5 := rz_ag_tr ag4 hg5
    rw [ht] at h5 ⊢
    show fg_wp _ _ _ _ _ _ _ _ _ (ν5, fg_rho R, 304)
    have hCt : t.2.2.2.2.2 = Z.2.2.2.2 := by rw [← ht, rz_ta_C, rz_c3_C]
    refine fg_top (y := nI 17) (congrArg nI hk) ?_
    refine fg_istoren (fg_ft (pc := 30) tb_Mo_dayLine 17 rfl) (Nat.le_of_ble_eq_true rfl) ?_
    refine fg_iconst (fg_ft (pc := 31) tb_Mo_dayLine 18 rfl) ic_m1 ?_
    refine fg_top (y := nI 4294967295) (by decide) ?_
    refine fg_istoren (fg_ft (pc := 32) tb_Mo_dayLine 19 rfl) (Nat.le_of_ble_eq_true rfl) ?_
    refine fg_iconst (fg_ft (pc := 33) tb_Mo_dayLine 20 rfl) ic_m1 ?_
    refine fg_top (y := nI 4294967295) (by decide) ?_
    refine fg_istore (fg_ft (pc := 34) tb_Mo_dayLine 21 rfl) (Nat.le_of_ble_eq_true rfl) ?_
    refine fg_iconst (fg_ft (pc := 36) tb_Mo_dayLine 22 rfl) ic_m1 ?_
    refine fg_top (y := nI 4294967295) (by decide) ?_
    refine fg_istore (fg_ft (pc := 37) tb_Mo_dayLine 23 rfl) (Nat.le_of_ble_eq_true rfl) ?_
    refine fg_iloadn (fg_ft (pc := 39) tb_Mo_dayLine 24 rfl) rfl ?_
    refine fg_if_leN (tgt := 56) (fg_ft (pc := 40) tb_Mo_dayLine 25 rfl) (by decide) (by decide) (fun c40 => (absurd c40 (by decide))) (fun c40 => ?_)
    refine fg_iloadn (fg_ft (pc := 43) tb_Mo_dayLine 26 rfl) rfl ?_
    refine fg_bipush (fg_ft (pc := 44) tb_Mo_dayLine 27 rfl) ib_17 ?_
    refine fg_icmp_eqN (tgt := 56) (fg_ft (pc := 46) tb_Mo_dayLine 28 rfl) (by decide) (by decide) (by decide) (fun c46 => ?_) (fun c46 => (absurd c46 (by decide)))
    refine fg_iloadn (fg_ft (pc := 56) tb_Mo_dayLine 34 rfl) rfl ?_
    refine fg_bipush (fg_ft (pc := 57) tb_Mo_dayLine 35 rfl) ib_16 ?_
    refine fg_icmp_neN (tgt := 107) (fg_ft (pc := 59) tb_Mo_dayLine 36 rfl) (by decide) (by decide) (by decide) (fun c59 => ?_) (fun c59 => (absurd c59 (by decide)))
    refine fg_iloadn (fg_ft (pc := 107) tb_Mo_dayLine 61 rfl) rfl ?_
    refine fg_if_leN (tgt := 126) (fg_ft (pc := 108) tb_Mo_dayLine 62 rfl) (by decide) (by decide) (fun c108 => (absurd c108 (by decide))) (fun c108 => ?_)
    refine fg_iloadn (fg_ft (pc := 111) tb_Mo_dayLine 63 rfl) rfl ?_
    refine fg_bipush (fg_ft (pc := 112) tb_Mo_dayLine 64 rfl) ib_17 ?_
    refine fg_icmp_eqN (tgt := 126) (fg_ft (pc := 114) tb_Mo_dayLine 65 rfl) (by decide) (by decide) (by decide) (fun c114 => ?_) (fun c114 => (absurd c114 (by decide)))
    have hCf : t.2.2.2.2.2 = Z.2.2.2.2 := hCt
    have hb1 : t.2.2.2.2.2 0 ≤ 700 := by rw [hCf]; exact hcnt
    refine fg_aloadn (fg_ft (pc := 126) tb_Mo_dayLine 71 rfl) rfl ?_
    refine fg_getR (fg_ft (pc := 127) tb_Mo_dayLine 72 rfl) ff_Mo_17 ly_287 rfl (fg_lt ly_287 (by decide)) (rh_287_10 R) ?_
    refine fg_iconst (fg_ft (pc := 130) tb_Mo_dayLine 73 rfl) ic_0 ?_
    refine fg_ialdV (v := (nI (t.2.2.2.2.2 0))) (fg_ft (pc := 131) tb_Mo_dayLine 74 rfl) ly_290 (fg_lt ly_290 (by decide)) (by omega) (h5.2.2.2.2.2.2.1 0 (by omega)) ?_
    refine fg_bipush (fg_ft (pc := 132) tb_Mo_dayLine 75 rfl) ib_30 ?_
    refine fg_icmp_geN (tgt := 192) (fg_ft (pc := 134) tb_Mo_dayLine 76 rfl) (by decide) (by omega) (by decide) (fun c134 => ?_) (fun c134 => ?_)
    · refine fg_aloadn (fg_ft (pc := 192) tb_Mo_dayLine 114 rfl) rfl ?_
      refine fg_getR (fg_ft (pc := 193) tb_Mo_dayLine 115 rfl) ff_Mo_17 ly_287 rfl (fg_lt ly_287 (by decide)) (rh_287_10 R) ?_
      refine fg_iconst (fg_ft (pc := 196) tb_Mo_dayLine 116 rfl) ic_0 ?_
      refine fg_dup2 (fg_ft (pc := 197) tb_Mo_dayLine 117 rfl) rfl rfl ?_
      refine fg_ialdV (v := (nI (t.2.2.2.2.2 0))) (fg_ft (pc := 198) tb_Mo_dayLine 118 rfl) ly_290 (fg_lt ly_290 (by decide)) (by omega) (h5.2.2.2.2.2.2.1 0 (by omega)) ?_
      refine fg_iconst (fg_ft (pc := 199) tb_Mo_dayLine 119 rfl) ic_1 ?_
      refine fg_iaddN (fg_ft (pc := 200) tb_Mo_dayLine 120 rfl) ?_
      refine fg_iastN (fg_ft (pc := 201) tb_Mo_dayLine 121 rfl) ly_290 (fg_lt ly_290 (by decide)) (by omega) ?_
      show fg_wp _ _ _ _ _ _ _ _ _ (fg_u2 ν5 290 0 (nI ((t.2.2.2.2.2 0) + 1)), fg_rho R, 304)
      have hm : rz_RZ (fg_u2 ν5 290 0 (nI ((t.2.2.2.2.2 0) + 1))) b len (rz_dn 17 (rz_dm (pz_K b len) (pz_V b len) (pz_S b len) t.2 17)) := by
        have e9 : rz_dm (pz_K b len) (pz_V b len) (pz_S b len) t.2 17 = (4294967295, 4294967295, 4294967295, t.2) := rfl
        rw [e9]
        show rz_RZ _ b len (rz_pd 6 4294967295 4294967295 4294967295 t.2)
        unfold rz_pd
        rw [if_neg (by omega)]
        exact (h5).put
      have agm : rz_ag μ (fg_u2 ν5 290 0 (nI ((t.2.2.2.2.2 0) + 1))) := fun a j p q r => (fg_u2ne r).trans (ag5 a j p q r)
      refine fg_aloadn (fg_ft (pc := 202) tb_Mo_dayLine 122 rfl) rfl ?_
      refine fg_callV (fg_ft (pc := 203) tb_Mo_dayLine 123 rfl) cf_Mo_153 (fg_isOf ly_287 rfl (fg_lt ly_287 (by decide))) (as := []) (st := []) rfl rfl (Nat.le_of_ble_eq_true rfl) (Nat.le_refl _) (Nat.le_refl _) (ev_Mo_endsLine hle hb256 hm ?_)
      intro ν6 hg6 h6
      have ag6 := rz_ag_tr agm hg6
      show fg_wp _ _ _ _ _ _ _ _ _ (ν6, fg_rho R, 304)
      exact fg_vret (fg_ft (pc := 206) tb_Mo_dayLine 124 rfl) rfl rfl (hQ _ ag6 h6)
    · refine fg_iconst (fg_ft (pc := 137) tb_Mo_dayLine 77 rfl) ic_1 ?_
      refine fg_iconst (fg_ft (pc := 138) tb_Mo_dayLine 78 rfl) ic_4 ?_
      refine fg_aloadn (fg_ft (pc := 139) tb_Mo_dayLine 79 rfl) rfl ?_
      refine fg_getR (fg_ft (pc := 140) tb_Mo_dayLine 80 rfl) ff_Mo_17 ly_287 rfl (fg_lt ly_287 (by decide)) (rh_287_10 R) ?_
      refine fg_iconst (fg_ft (pc := 143) tb_Mo_dayLine 81 rfl) ic_0 ?_
      refine fg_ialdV (v := (nI (t.2.2.2.2.2 0))) (fg_ft (pc := 144) tb_Mo_dayLine 82 rfl) ly_290 (fg_lt ly_290 (by decide)) (by omega) (h5.2.2.2.2.2.2.1 0 (by omega)) ?_
      refine fg_imulN (fg_ft (pc := 145) tb_Mo_dayLine 83 rfl) ?_
      refine fg_iaddN (fg_ft (pc := 146) tb_Mo_dayLine 84 rfl) ?_
      refine fg_istore (fg_ft (pc := 147) tb_Mo_dayLine 85 rfl) (Nat.le_of_ble_eq_true rfl) ?_
      refine fg_aloadn (fg_ft (pc := 149) tb_Mo_dayLine 86 rfl) rfl ?_
      refine fg_getR (fg_ft (pc := 150) tb_Mo_dayLine 87 rfl) ff_Mo_17 ly_287 rfl (fg_lt ly_287 (by decide)) (rh_287_10 R) ?_
      refine fg_iload (fg_ft (pc := 153) tb_Mo_dayLine 88 rfl) rfl ?_
      refine fg_iloadn (fg_ft (pc := 155) tb_Mo_dayLine 89 rfl) rfl ?_
      refine fg_bipush (fg_ft (pc := 156) tb_Mo_dayLine 90 rfl) ib_11 ?_
      refine fg_isubN (fg_ft (pc := 158) tb_Mo_dayLine 91 rfl) (by omega) ?_
      refine fg_iastN (fg_ft (pc := 159) tb_Mo_dayLine 92 rfl) ly_290 (fg_lt ly_290 (by decide)) (by omega) ?_
      show fg_wp _ _ _ _ _ _ _ _ _ (fg_u2 ν5 290 (1 + (4 * (t.2.2.2.2.2 0))) (nI (17 - 11)), fg_rho R, 304)
      refine fg_aloadn (fg_ft (pc := 160) tb_Mo_dayLine 93 rfl) rfl ?_
      refine fg_getR (fg_ft (pc := 161) tb_Mo_dayLine 94 rfl) ff_Mo_17 ly_287 rfl (fg_lt ly_287 (by decide)) (rh_287_10 R) ?_
      refine fg_iload (fg_ft (pc := 164) tb_Mo_dayLine 95 rfl) rfl ?_
      refine fg_iconst (fg_ft (pc := 166) tb_Mo_dayLine 96 rfl) ic_1 ?_
      refine fg_iaddN (fg_ft (pc := 167) tb_Mo_dayLine 97 rfl) ?_
      refine fg_iloadn (fg_ft (pc := 168) tb_Mo_dayLine 98 rfl) rfl ?_
      refine fg_iastN (fg_ft (pc := 169) tb_Mo_dayLine 99 rfl) ly_290 (fg_lt ly_290 (by decide)) (by omega) ?_
      show fg_wp _ _ _ _ _ _ _ _ _ (fg_u2 (fg_u2 ν5 290 (1 + (4 * (t.2.2.2.2.2 0))) (nI (17 - 11))) 290 ((1 + (4 * (t.2.2.2.2.2 0))) + 1) (nI 4294967295), fg_rho R, 304)
      refine fg_aloadn (fg_ft (pc := 170) tb_Mo_dayLine 100 rfl) rfl ?_
      refine fg_getR (fg_ft (pc := 171) tb_Mo_dayLine 101 rfl) ff_Mo_17 ly_287 rfl (fg_lt ly_287 (by decide)) (rh_287_10 R) ?_
      refine fg_iload (fg_ft (pc := 174) tb_Mo_dayLine 102 rfl) rfl ?_
      refine fg_iconst (fg_ft (pc := 176) tb_Mo_dayLine 103 rfl) ic_2 ?_
      refine fg_iaddN (fg_ft (pc := 177) tb_Mo_dayLine 104 rfl) ?_
      refine fg_iload (fg_ft (pc := 178) tb_Mo_dayLine 105 rfl) rfl ?_
      refine fg_iastN (fg_ft (pc := 180) tb_Mo_dayLine 106 rfl) ly_290 (fg_lt ly_290 (by decide)) (by omega) ?_
      show fg_wp _ _ _ _ _ _ _ _ _ (fg_u2 (fg_u2 (fg_u2 ν5 290 (1 + (4 * (t.2.2.2.2.2 0))) (nI (17 - 11))) 290 ((1 + (4 * (t.2.2.2.2.2 0))) + 1) (nI 4294967295)) 290 ((1 + (4 * (t.2.2.2.2.2 0))) + 2) (nI 4294967295), fg_rho R, 304)
      refine fg_aloadn (fg_ft (pc := 181) tb_Mo_dayLine 107 rfl) rfl ?_
      refine fg_getR (fg_ft (pc := 182) tb_Mo_dayLine 108 rfl) ff_Mo_17 ly_287 rfl (fg_lt ly_287 (by decide)) (rh_287_10 R) ?_
      refine fg_iload (fg_ft (pc := 185) tb_Mo_dayLine 109 rfl) rfl ?_
      refine fg_iconst (fg_ft (pc := 187) tb_Mo_dayLine 110 rfl) ic_3 ?_
      refine fg_iaddN (fg_ft (pc := 188) tb_Mo_dayLine 111 rfl) ?_
      refine fg_iload (fg_ft (pc := 189) tb_Mo_dayLine 112 rfl) rfl ?_
      refine fg_iastN (fg_ft (pc := 191) tb_Mo_dayLine 113 rfl) ly_290 (fg_lt ly_290 (by decide)) (by omega) ?_
      show fg_wp _ _ _ _ _ _ _ _ _ (fg_u2 (fg_u2 (fg_u2 (fg_u2 ν5 290 (1 + (4 * (t.2.2.2.2.2 0))) (nI (17 - 11))) 290 ((1 + (4 * (t.2.2.2.2.2 0))) + 1) (nI 4294967295)) 290 ((1 + (4 * (t.2.2.2.2.2 0))) + 2) (nI 4294967295)) 290 ((1 + (4 * (t.2.2.2.2.2 0))) + 3) (nI 4294967295), fg_rho R, 304)
      refine fg_aloadn (fg_ft (pc := 192) tb_Mo_dayLine 114 rfl) rfl ?_
      refine fg_getR (fg_ft (pc := 193) tb_Mo_dayLine 115 rfl) ff_Mo_17 ly_287 rfl (fg_lt ly_287 (by decide)) (rh_287_10 R) ?_
      refine fg_iconst (fg_ft (pc := 196) tb_Mo_dayLine 116 rfl) ic_0 ?_
      refine fg_dup2 (fg_ft (pc := 197) tb_Mo_dayLine 117 rfl) rfl rfl ?_
      refine fg_ialdV (v := (nI (t.2.2.2.2.2 0))) (fg_ft (pc := 198) tb_Mo_dayLine 118 rfl) ly_290 (fg_lt ly_290 (by decide)) (by omega) ((fg_u2ns (f := (fg_u2 (fg_u2 (fg_u2 ν5 290 (1 + (4 * (t.2.2.2.2.2 0))) (nI (17 - 11))) 290 ((1 + (4 * (t.2.2.2.2.2 0))) + 1) (nI 4294967295)) 290 ((1 + (4 * (t.2.2.2.2.2 0))) + 2) (nI 4294967295))) (a := 290) (k := ((1 + (4 * (t.2.2.2.2.2 0))) + 3)) (b := 290) (j := 0) (x := (nI 4294967295)) (by omega)).trans ((fg_u2ns (f := (fg_u2 (fg_u2 ν5 290 (1 + (4 * (t.2.2.2.2.2 0))) (nI (17 - 11))) 290 ((1 + (4 * (t.2.2.2.2.2 0))) + 1) (nI 4294967295))) (a := 290) (k := ((1 + (4 * (t.2.2.2.2.2 0))) + 2)) (b := 290) (j := 0) (x := (nI 4294967295)) (by omega)).trans ((fg_u2ns (f := (fg_u2 ν5 290 (1 + (4 * (t.2.2.2.2.2 0))) (nI (17 - 11)))) (a := 290) (k := ((1 + (4 * (t.2.2.2.2.2 0))) + 1)) (b := 290) (j := 0) (x := (nI 4294967295)) (by omega)).trans ((fg_u2ns (f := ν5) (a := 290) (k := (1 + (4 * (t.2.2.2.2.2 0)))) (b := 290) (j := 0) (x := (nI (17 - 11))) (by omega)).trans (h5.2.2.2.2.2.2.1 0 (by omega)))))) ?_
      refine fg_iconst (fg_ft (pc := 199) tb_Mo_dayLine 119 rfl) ic_1 ?_
      refine fg_iaddN (fg_ft (pc := 200) tb_Mo_dayLine 120 rfl) ?_
      refine fg_iastN (fg_ft (pc := 201) tb_Mo_dayLine 121 rfl) ly_290 (fg_lt ly_290 (by decide)) (by omega) ?_
      show fg_wp _ _ _ _ _ _ _ _ _ (fg_u2 (fg_u2 (fg_u2 (fg_u2 (fg_u2 ν5 290 (1 + (4 * (t.2.2.2.2.2 0))) (nI (17 - 11))) 290 ((1 + (4 * (t.2.2.2.2.2 0))) + 1) (nI 4294967295)) 290 ((1 + (4 * (t.2.2.2.2.2 0))) + 2) (nI 4294967295)) 290 ((1 + (4 * (t.2.2.2.2.2 0))) + 3) (nI 4294967295)) 290 0 (nI ((t.2.2.2.2.2 0) + 1)), fg_rho R, 304)
      have hm : rz_RZ (fg_u2 (fg_u2 (fg_u2 (fg_u2 (fg_u2 ν5 290 (1 + (4 * (t.2.2.2.2.2 0))) (nI (17 - 11))) 290 ((1 + (4 * (t.2.2.2.2.2 0))) + 1) (nI 4294967295)) 290 ((1 + (4 * (t.2.2.2.2.2 0))) + 2) (nI 4294967295)) 290 ((1 + (4 * (t.2.2.2.2.2 0))) + 3) (nI 4294967295)) 290 0 (nI ((t.2.2.2.2.2 0) + 1))) b len (rz_dn 17 (rz_dm (pz_K b len) (pz_V b len) (pz_S b len) t.2 17)) := by
        have e9 : rz_dm (pz_K b len) (pz_V b len) (pz_S b len) t.2 17 = (4294967295, 4294967295, 4294967295, t.2) := rfl
        rw [e9]
        show rz_RZ _ b len (rz_pd 6 4294967295 4294967295 4294967295 t.2)
        unfold rz_pd
        rw [if_pos (by omega)]
        exact (((((h5).put).put).put).put).put
      have agm : rz_ag μ (fg_u2 (fg_u2 (fg_u2 (fg_u2 (fg_u2 ν5 290 (1 + (4 * (t.2.2.2.2.2 0))) (nI (17 - 11))) 290 ((1 + (4 * (t.2.2.2.2.2 0))) + 1) (nI 4294967295)) 290 ((1 + (4 * (t.2.2.2.2.2 0))) + 2) (nI 4294967295)) 290 ((1 + (4 * (t.2.2.2.2.2 0))) + 3) (nI 4294967295)) 290 0 (nI ((t.2.2.2.2.2 0) + 1))) := fun a j p q r => (fg_u2ne r).trans ((fg_u2ne r).trans ((fg_u2ne r).trans ((fg_u2ne r).trans ((fg_u2ne r).trans (ag5 a j p q r)))))
      refine fg_aloadn (fg_ft (pc := 202) tb_Mo_dayLine 122 rfl) rfl ?_
      refine fg_callV (fg_ft (pc := 203) tb_Mo_dayLine 123 rfl) cf_Mo_153 (fg_isOf ly_287 rfl (fg_lt ly_287 (by decide))) (as := []) (st := []) rfl rfl (Nat.le_of_ble_eq_true rfl) (Nat.le_refl _) (Nat.le_refl _) (ev_Mo_endsLine hle hb256 hm ?_)
      intro ν7 hg7 h7
      have ag7 := rz_ag_tr agm hg7
      show fg_wp _ _ _ _ _ _ _ _ _ (ν7, fg_rho R, 304)
      exact fg_vret (fg_ft (pc := 206) tb_Mo_dayLine 124 rfl) rfl rfl (hQ _ ag7 h7)
theorem ev_Mo_dayLine {E : fg_E} {d : Nat} {μ : Nat → Nat → Int32} {R : fg_T4} {Q : Option Value → fg_M → Prop} {b : Nat → Nat} {len : Nat} {Z : rz_Z} (hle : len ≤ 600) (hb256 : ∀ j, b j < 256) (h : rz_RZ μ b len Z) (hcnt : Z.2.2.2.2 0 ≤ 700) (hQ : ∀ μ' : Nat → Nat → Int32, rz_ag μ μ' → rz_RZ μ' b len (rz_dl (pz_K b len) (pz_V b len) (pz_S b len) Z) → Q none (μ', fg_rho R, 304)) : fg_Ev E yy_Mo_dayLine (d + 9) [.ref 287] (μ, fg_rho R, 304) 304 Q := by
  have hb := rz_ta_b (K := pz_K b len) (V := pz_V b len) (S := pz_S b len) (a := 11) (b := 17) (Z := rz_c3 0 30 (pz_S b len Z.1) Z)
  unfold rz_dl at hQ
  rcases (show (rz_ta (pz_K b len) (pz_V b len) (pz_S b len) 11 17 (rz_c3 0 30 (pz_S b len Z.1) Z)).1 = 0 ∨ (rz_ta (pz_K b len) (pz_V b len) (pz_S b len) 11 17 (rz_c3 0 30 (pz_S b len Z.1) Z)).1 = 11 ∨ (rz_ta (pz_K b len) (pz_V b len) (pz_S b len) 11 17 (rz_c3 0 30 (pz_S b len Z.1) Z)).1 = 12 ∨ (rz_ta (pz_K b len) (pz_V b len) (pz_S b len) 11 17 (rz_c3 0 30 (pz_S b len Z.1) Z)).1 = 13 ∨ (rz_ta (pz_K b len) (pz_V b len) (pz_S b len) 11 17 (rz_c3 0 30 (pz_S b len Z.1) Z)).1 = 14 ∨ (rz_ta (pz_K b len) (pz_V b len) (pz_S b len) 11 17 (rz_c3 0 30 (pz_S b len Z.1) Z)).1 = 15 ∨ (rz_ta (pz_K b len) (pz_V b len) (pz_S b len) 11 17 (rz_c3 0 30 (pz_S b len Z.1) Z)).1 = 16 ∨ (rz_ta (pz_K b len) (pz_V b len) (pz_S b len) 11 17 (rz_c3 0 30 (pz_S b len Z.1) Z)).1 = 17 by omega) with q | q | q | q | q | q | q | q
  · rw [q] at hQ; exact ev_Mo_dayLine_0 hle hb256 h hcnt rfl q hQ
  · rw [q] at hQ; exact ev_Mo_dayLine_11 hle hb256 h hcnt rfl q hQ
  · rw [q] at hQ; exact ev_Mo_dayLine_12 hle hb256 h hcnt rfl q hQ
  · rw [q] at hQ; exact ev_Mo_dayLine_13 hle hb256 h hcnt rfl q hQ
  · rw [q] at hQ; exact ev_Mo_dayLine_14 hle hb256 h hcnt rfl q hQ
  · rw [q] at hQ; exact ev_Mo_dayLine_15 hle hb256 h hcnt rfl q hQ
  · rw [q] at hQ; exact ev_Mo_dayLine_16 hle hb256 h hcnt rfl q hQ
  · rw [q] at hQ; exact ev_Mo_dayLine_17 hle hb256 h hcnt rfl q hQ
