section WC
variable {E : fg_E} {Y : fg_Y} {d n0 n1 : Nat} {Q : Option Value → fg_M → Prop} {pc : Nat} {L st : List Value} {M : fg_M}
theorem fg_ltW {a b : Nat} (ha : a < 2 ^ 32) (hb : b < 2 ^ 31) : nI a < nI b ↔ (2 ^ 31 ≤ a ∨ a < b) := by
  rw [Int32.lt_iff_toInt_lt, fg_tI hb]
  rcases fg_toIntW ha with e | e
  · rcases Nat.lt_or_ge a (2 ^ 31) with g | g
    · rw [fg_tI g]; omega
    · have := (fg_neg ha).mpr g
      rw [Int32.lt_iff_toInt_lt, e] at this
      have h0 : (0 : Int32).toInt = 0 := rfl
      omega
  · have := e.1; have := e.2; omega
theorem fg_leW {a b : Nat} (ha : a < 2 ^ 32) (hb : b < 2 ^ 31) : nI b ≤ nI a ↔ (a < 2 ^ 31 ∧ b ≤ a) := by
  have h := fg_ltW ha hb
  rw [Int32.lt_iff_toInt_lt] at h
  rw [Int32.le_iff_toInt_le]
  omega
theorem fg_ltV {a b : Nat} (ha : a < 2 ^ 32) (hb : b < 2 ^ 31) : nI b < nI a ↔ (a < 2 ^ 31 ∧ b < a) := by
  rw [Int32.lt_iff_toInt_lt, fg_tI hb]
  rcases fg_toIntW ha with e | e
  · rcases Nat.lt_or_ge a (2 ^ 31) with g | g
    · rw [fg_tI g]; omega
    · have := (fg_neg ha).mpr g
      rw [Int32.lt_iff_toInt_lt, e] at this
      have h0 : (0 : Int32).toInt = 0 := rfl
      omega
  · have := e.1; have := e.2; omega
theorem fg_leV {a b : Nat} (ha : a < 2 ^ 32) (hb : b < 2 ^ 31) : nI a ≤ nI b ↔ (2 ^ 31 ≤ a ∨ a ≤ b) := by
  have h := fg_ltV ha hb
  rw [Int32.lt_iff_toInt_lt] at h
  rw [Int32.le_iff_toInt_le]
  omega
theorem fg_icmp_ltW {a b : Nat} {off : Int} {tgt : Nat} (hd : decode Y.2.1 pc = .ok (.if_icmp .lt off, 3)) (ht : (pc : Int) + off = (tgt : Int)) (ha : a < 2 ^ 32) (hb : b < 2 ^ 31) (kt : (2 ^ 31 ≤ a ∨ a < b) → fg_wp E Y d n0 n1 Q tgt L st M) (kf : (a < 2 ^ 31 ∧ b ≤ a) → fg_wp E Y d n0 n1 Q (pc + 3) L st M) : fg_wp E Y d n0 n1 Q pc L (.int (nI b) :: .int (nI a) :: st) M := fg_icmp_lt hd ht (fun h => kt ((fg_ltW ha hb).mp h)) (fun h => kf (by have := mt (fg_ltW ha hb).mpr h; omega))
theorem fg_icmp_geW {a b : Nat} {off : Int} {tgt : Nat} (hd : decode Y.2.1 pc = .ok (.if_icmp .ge off, 3)) (ht : (pc : Int) + off = (tgt : Int)) (ha : a < 2 ^ 32) (hb : b < 2 ^ 31) (kt : (a < 2 ^ 31 ∧ b ≤ a) → fg_wp E Y d n0 n1 Q tgt L st M) (kf : (2 ^ 31 ≤ a ∨ a < b) → fg_wp E Y d n0 n1 Q (pc + 3) L st M) : fg_wp E Y d n0 n1 Q pc L (.int (nI b) :: .int (nI a) :: st) M := fg_icmp_ge hd ht (fun h => kt ((fg_leW ha hb).mp h)) (fun h => kf (by have := mt (fg_leW ha hb).mpr h; omega))
theorem fg_icmp_gtW {a b : Nat} {off : Int} {tgt : Nat} (hd : decode Y.2.1 pc = .ok (.if_icmp .gt off, 3)) (ht : (pc : Int) + off = (tgt : Int)) (ha : a < 2 ^ 32) (hb : b < 2 ^ 31) (kt : (a < 2 ^ 31 ∧ b < a) → fg_wp E Y d n0 n1 Q tgt L st M) (kf : (2 ^ 31 ≤ a ∨ a ≤ b) → fg_wp E Y d n0 n1 Q (pc + 3) L st M) : fg_wp E Y d n0 n1 Q pc L (.int (nI b) :: .int (nI a) :: st) M := fg_icmp_gt hd ht (fun h => kt ((fg_ltV ha hb).mp h)) (fun h => kf (by have := mt (fg_ltV ha hb).mpr h; omega))
theorem fg_icmp_leW {a b : Nat} {off : Int} {tgt : Nat} (hd : decode Y.2.1 pc = .ok (.if_icmp .le off, 3)) (ht : (pc : Int) + off = (tgt : Int)) (ha : a < 2 ^ 32) (hb : b < 2 ^ 31) (kt : (2 ^ 31 ≤ a ∨ a ≤ b) → fg_wp E Y d n0 n1 Q tgt L st M) (kf : (a < 2 ^ 31 ∧ b < a) → fg_wp E Y d n0 n1 Q (pc + 3) L st M) : fg_wp E Y d n0 n1 Q pc L (.int (nI b) :: .int (nI a) :: st) M := fg_icmp_le hd ht (fun h => kt ((fg_leV ha hb).mp h)) (fun h => kf (by have := mt (fg_leV ha hb).mpr h; omega))
end WC
/-- hours pass until one has a fact, or it is evening -/
noncomputable def fg_cm (T : Nat → Nat) (S : fg_H3) (p k : Nat) : fg_H3 := fg_ch T (none, 0, 0) p k (9 - S.1) (S.1, (S.2.1.1, 0, 0, 0), S.2.2)
theorem fg_cm_ok {T : Nat → Nat} (hok : fg_ok T) {S : fg_H3} (h : fg_zok T S.1 S.2.1 S.2.2) {p k : Nat} : fg_zok T (fg_cm T S p k).1 (fg_cm T S p k).2.1 (fg_cm T S p k).2.2 := fg_ch_ok hok _ _ (fg_zok.news h)
def fg_one (T : Nat → Nat) (S : fg_H3) (lv : Nat → Nat) (what : Nat) : Int32 := if 10 ≤ what ∧ what < 40 then (if what % 10 < T 2 then (if what < 20 then nI (S.2.1.1 (what % 10)) else if what < 30 then nI (S.2.2 (what % 10)) else nI (lv (what % 10))) else -2) else -2
noncomputable def an_evening (A : fg_Tl) (town day n person : Nat) : Int32 := fg_g1 A town day n person (-1) (fun T S _ => nI ((fg_ev T S).2.1.1 person))
noncomputable def an_worth (A : fg_Tl) (town day n person what : Nat) : Int32 := fg_g1 A town day n person (-100000) (fun T S _ => if what = 0 then fg_w T (S.2.1.1 person) else if what = 1 then nI (fg_lS T (S.2.1.1 person)) else if what = 2 then nI (fg_lH T (S.2.1.1 person)) else -100000)
noncomputable def an_again (A : fg_Tl) (town day n person fact : Nat) : Int32 := fg_g1 A town day n person (-1) (fun T S _ => if fact < T 0 then (if ((fg_cm T S person fact).2.1.1 person).testBit fact = true then nI (fg_cm T S person fact).1 else -1) else -1)
noncomputable def an_known (A : fg_Tl) (town day n person fact : Nat) : Int32 := fg_g1 A town day n person (-1) (fun T S _ => if fact < T 0 then (if ((fg_cm T S person fact).2.1.1 person).testBit fact = true then nI (9 - (fg_cm T S person fact).1 + 1) else nI 0) else -1)
noncomputable def an_finds (A : fg_Tl) (town day n person : Nat) : Int32 := fg_g1 A town day n person (-1) (fun T S _ => nI (fg_df ((fg_ev T S).2.1.1 person) (S.2.1.1 person)))
noncomputable def an_spread (A : fg_Tl) (town day n fact : Nat) : Int32 := fg_g0 A town day n (-1) (fun T S _ => if fact < T 0 then nI (fg_whoL (fg_ev T S).2.1.1 fact (T 2)) else -1)
noncomputable def an_whole (A : fg_Tl) (town day n what : Nat) : Int32 := fg_g0 A town day n (-1) (fun T S _ => if what = 0 then nI (fg_df (fg_secL S.2.1.1 (T 2)).1 (fg_secL S.2.1.1 (T 2)).2) else if what = 1 then nI (fg_ev T S).2.1.2.2.1 else if what = 2 then nI (fg_df (2 ^ T 4 - 1) (fg_ev T S).2.1.2.2.2) else -1)
noncomputable def fg_sdd (T : Nat → Nat) (S : fg_H3) (lv : Nat → Nat) (seed : Int32) : fg_SD := fg_sdh T (none, 0, 0) (9 - S.1) (seed, (S.1, (S.2.1.1, 0, 0, 0), S.2.2), lv)
noncomputable def an_days (A : fg_Tl) (town day n : Nat) (seed : Int32) (what : Nat) : Int32 := fg_g0 A town day n (-2) (fun T S lv => if what = 0 then nI (fg_sumL (T 2) (fg_sdd T S lv seed).2.2 5) - nI (fg_sumL (T 2) lv 5) else if what = 1 then nI (fg_andL T (fg_sdd T S lv seed).2.1.2.1.1 (T 2)) else if what = 2 then nI (fg_orL (fg_sdd T S lv seed).2.1.2.1.1 (-1) (T 2)) else if 10 ≤ what ∧ what < 20 then fg_one T (fg_sdd T S lv seed).2.1 (fg_sdd T S lv seed).2.2 what else -2)
noncomputable def an_state (A : fg_Tl) (town day n what : Nat) : Int32 := fg_g0 A town day n (-2) (fun T S lv => if what = 0 then nI S.1 else if what = 1 then nI (fg_sumL (T 2) lv 5) else if what = 2 then nI (fg_sumL (T 2) lv 5 * T 7) else if what = 3 then nI (fg_andL T S.2.1.1 (T 2)) else if what = 4 then nI (fg_orL S.2.1.1 (-1) (T 2)) else if what = 5 then nI (fg_df (fg_frL T (T 2)) (fg_orL S.2.1.1 (-1) (T 2))) else if what = 6 then nI (fg_ev T S).2.1.2.1 else fg_one T S lv what)
noncomputable def an_gone (A : fg_Tl) (town day n person fact kind : Nat) : Int32 := fg_g1 A town day n person (-1) (fun T S _ => if (S.2.1.1 person).testBit fact = true then (if kind < 3 then nI (fg_df (S.2.1.1 person) (fg_fgt T (S.2.1.1 person) fact kind)) else -1) else -1)
noncomputable def an_gain (A : fg_Tl) (town day n person fact kind : Nat) : Int32 := fg_g1 A town day n person (-100000) (fun T S _ => if (S.2.1.1 person).testBit fact = true then (if kind < 3 then fg_w T (fg_fgt T (S.2.1.1 person) fact kind) - fg_w T (S.2.1.1 person) else -100000) else -100000)
noncomputable def an_keeps (A : fg_Tl) (town day n person gone kept : Nat) : Int32 := fg_g1 A town day n person (-1) (fun T S _ => if gone < 2 ^ T 0 then (if kept < 2 ^ T 0 then fg_o (fg_bst T (S.2.1.1 person) gone kept) else -1) else -1)
noncomputable def an_honest (A : fg_Tl) (town day n person facts : Nat) : Int32 := fg_g1 A town day n person (-1) (fun T S _ => if facts < 2 ^ T 0 then nI (fg_df facts (S.2.1.1 person)) else -1)
noncomputable def an_teach (A : fg_Tl) (town day n person other : Nat) : Int32 := fg_g1 A town day n person (-1) (fun T S _ => if other < T 2 then (if person = other then -1 else fg_o (fg_min (fun s => fg_le s (S.2.1.1 person) ∧ fg_few T (S.2.1.1 other) (S.2.1.1 person) 0 s))) else -1)
noncomputable def an_roots (A : fg_Tl) (town day n person what : Nat) : Int32 := fg_g1 A town day n person (-2) (fun T S _ => if what = 0 then fg_o (fg_min (fun s => fg_le s (S.2.1.1 person) ∧ fg_few T 0 (S.2.1.1 person) 0 s)) else if what = 1 then nI (fg_frs T (S.2.1.1 person) (T 0)) else if what = 2 then fg_o (fg_dm T (S.2.1.1 person) (T 0)).2 else -2)
theorem ev_Fb_evening {E : fg_E} {d : Nat} {μ : Nat → Nat → Int32} {R : fg_T4} {Q : Option Value → fg_M → Prop} {A : fg_Tl} (hA : fg_TL μ 101 A) {town day n person : Nat} (htown : town < 2 ^ 32) (hday : day < 2 ^ 32) (hn : n < 2 ^ 32) (hperson : person < 2 ^ 32) (hQ : ∀ (μ' : Nat → Nat → Int32) (R' : fg_T4), fg_agQ μ μ' → Q (some (.int (an_evening A town day n person))) (μ', fg_rho R', 304)) : fg_Ev E yy_Fb_evening (d + 12) [.ref 100, .int (nI town), .int (nI day), .int (nI n), .int (nI person)] (μ, fg_rho R, 304) 304 Q := by
  have ht2 := hA.2.2.2.1.2
  have hd3 := hA.2.2.2.2.1.2
  refine fg_intro (by decide +kernel) (Nat.le_of_ble_eq_true rfl) (fg_okAs rfl) (Nat.le_refl _) ?_
  refine fg_aloadn (fg_ft (pc := 0) tb_Fb_evening 0 rfl) rfl ?_
  refine fg_iloadn (fg_ft (pc := 1) tb_Fb_evening 1 rfl) rfl ?_
  refine fg_iloadn (fg_ft (pc := 2) tb_Fb_evening 2 rfl) rfl ?_
  refine fg_iloadn (fg_ft (pc := 3) tb_Fb_evening 3 rfl) rfl ?_
  refine fg_iload (fg_ft (pc := 4) tb_Fb_evening 4 rfl) rfl ?_
  refine fg_callV (fg_ft (pc := 6) tb_Fb_evening 5 rfl) cf_Fb_221 (fg_isOf ly_100 rfl (fg_lt ly_100 (by decide))) (as := [.int (nI town), .int (nI day), .int (nI n), .int (nI person)]) (st := []) rfl rfl (Nat.le_of_ble_eq_true rfl) (Nat.le_refl _) (Nat.le_refl _) (ev_Fb_findOne hA htown hday hn hperson (fun n4 μ1 R1 ho1 hR1 => ?_) (fun S lv y4 y5 μ1 ho1 hF1 => ?_))
  · refine fg_astoreN (fg_ft (pc := 9) tb_Fb_evening 6 rfl) (Nat.le_of_ble_eq_true rfl) ?_
    refine fg_aloadN (fg_ft (pc := 11) tb_Fb_evening 7 rfl) rfl ?_
    refine fg_ifnonnull_n (fg_ft (pc := 13) tb_Fb_evening 8 rfl) ?_
    refine fg_iconst (fg_ft (pc := 16) tb_Fb_evening 9 rfl) ic_m1 ?_
    refine fg_goto (tgt := 31) (fg_ft (pc := 17) tb_Fb_evening 10 rfl) (by decide) ?_
    exact fg_iret (fg_ft (pc := 31) tb_Fb_evening 16 rfl) rfl rfl (fg_q (hQ _ R1 (fg_agQ_F (Or.inl rfl) ho1)) (by unfold an_evening; rw [fg_g1_none n4] <;> ((repeat (first | rw [if_pos (by assumption)] | rw [if_neg (by assumption)] | rw [if_pos (by omega)] | rw [if_neg (by omega)] | rw [if_pos (by constructor <;> assumption)] | rw [if_neg (by intro hh; exact absurd hh.1 (by assumption))] | rw [if_neg (by intro hh; exact absurd hh.2 (by assumption))])); (try rfl))))
  · have ytc := fg_fnd_t y4
    have hok := (hA.2.2.2.2.2.1 town ytc).2
    have ht : fg_isT (104 + 14 * town) := fg_isT_told (by omega)
    have hT1 := fg_TL.town hA (Or.inl rfl) ytc ho1
    have hz := fg_fnd_ok hA y4
    have hb0 := hok.1
    have hb1 := hok.2.1
    have hp := hok.p
    have hm2 := hz.2.1 person y5
    have hm0 : S.2.1.1 person < 2 ^ A.ts town 0 := hm2.1
    have hmc : fg_clsd (A.ts town) (S.2.1.1 person) := hm2.2
    have hm10 : S.2.1.1 person < 1024 := by omega
    refine fg_astore (fg_ft (pc := 9) tb_Fb_evening 6 rfl) (Nat.le_of_ble_eq_true rfl) ?_
    refine fg_aload (fg_ft (pc := 11) tb_Fb_evening 7 rfl) rfl ?_
    refine fg_ifnonnull (tgt := 20) (fg_ft (pc := 13) tb_Fb_evening 8 rfl) (by decide) ?_
    refine fg_aloadn (fg_ft (pc := 20) tb_Fb_evening 11 rfl) rfl ?_
    refine fg_aload (fg_ft (pc := 21) tb_Fb_evening 12 rfl) rfl ?_
    refine fg_callV (fg_ft (pc := 23) tb_Fb_evening 13 rfl) cf_Fb_204 (fg_isOf ly_100 rfl (fg_lt ly_100 (by decide))) (as := [.ref 273]) (st := []) rfl rfl (Nat.le_of_ble_eq_true rfl) (Nat.le_refl _) (Nat.le_refl _) (ev_Fb_eveningOf (R := (some (104 + 14 * town), R.2.1, R.2.2.1, R.2.2.2)) ht hT1 hok (h := S.1) (Z := S.2.1) (hv := S.2.2) rfl hF1 hz ?_)
    intro μ2 ho2 hF2
    have hT2 := fg_TWp.agF ht (Or.inr rfl) hT1 ho2
    have hF1b := fg_FZ.ag7 hF1 ho2
    have hF2 : fg_FS μ2 277 (A.ts town) (fg_ev (A.ts town) S) lv (none, 0, 0) := hF2
    have hz2 := fg_ev_ok hok hz
    show fg_wp _ _ _ _ _ _ _ _ _ (μ2, fg_rho (some (104 + 14 * town), some (104 + 14 * town), R.2.2.1, R.2.2.2), 304)
    refine fg_iload (fg_ft (pc := 26) tb_Fb_evening 14 rfl) rfl ?_
    refine fg_callV (fg_ft (pc := 28) tb_Fb_evening 15 rfl) cf_Fb_181 (fg_isOf ly_277 rfl (fg_lt ly_277 (by decide))) (as := [.int (nI person)]) (st := []) rfl rfl (Nat.le_of_ble_eq_true rfl) (Nat.le_refl _) (Nat.le_refl _) (ev_Folk_mind ht hT2 hok (Or.inr rfl) rfl hF2 hz2 (p := person) (by omega) ?_)
    exact fg_iret (fg_ft (pc := 31) tb_Fb_evening 16 rfl) rfl rfl (fg_q (hQ _ (some (104 + 14 * town), some (104 + 14 * town), R.2.2.1, R.2.2.2) (fg_agQ_tr (fg_agQ_F (Or.inl rfl) ho1) (fg_agQ_F (Or.inr rfl) ho2))) (by unfold an_evening; rw [fg_g1_some y4 y5] <;> ((repeat (first | rw [if_pos (by assumption)] | rw [if_neg (by assumption)] | rw [if_pos (by omega)] | rw [if_neg (by omega)] | rw [if_pos (by constructor <;> assumption)] | rw [if_neg (by intro hh; exact absurd hh.1 (by assumption))] | rw [if_neg (by intro hh; exact absurd hh.2 (by assumption))])); (try rfl))))
theorem ev_Fb_worth {E : fg_E} {d : Nat} {μ : Nat → Nat → Int32} {R : fg_T4} {Q : Option Value → fg_M → Prop} {A : fg_Tl} (hA : fg_TL μ 101 A) {town day n person what : Nat} (htown : town < 2 ^ 32) (hday : day < 2 ^ 32) (hn : n < 2 ^ 32) (hperson : person < 2 ^ 32) (hwhat : what < 2 ^ 32) (hQ : ∀ (μ' : Nat → Nat → Int32) (R' : fg_T4), fg_agQ μ μ' → Q (some (.int (an_worth A town day n person what))) (μ', fg_rho R', 304)) : fg_Ev E yy_Fb_worth (d + 12) [.ref 100, .int (nI town), .int (nI day), .int (nI n), .int (nI person), .int (nI what)] (μ, fg_rho R, 304) 304 Q := by
  have ht2 := hA.2.2.2.1.2
  have hd3 := hA.2.2.2.2.1.2
  refine fg_intro (by decide +kernel) (Nat.le_of_ble_eq_true rfl) (fg_okAs rfl) (Nat.le_refl _) ?_
  refine fg_aloadn (fg_ft (pc := 0) tb_Fb_worth 0 rfl) rfl ?_
  refine fg_iloadn (fg_ft (pc := 1) tb_Fb_worth 1 rfl) rfl ?_
  refine fg_iloadn (fg_ft (pc := 2) tb_Fb_worth 2 rfl) rfl ?_
  refine fg_iloadn (fg_ft (pc := 3) tb_Fb_worth 3 rfl) rfl ?_
  refine fg_iload (fg_ft (pc := 4) tb_Fb_worth 4 rfl) rfl ?_
  refine fg_callV (fg_ft (pc := 6) tb_Fb_worth 5 rfl) cf_Fb_221 (fg_isOf ly_100 rfl (fg_lt ly_100 (by decide))) (as := [.int (nI town), .int (nI day), .int (nI n), .int (nI person)]) (st := []) rfl rfl (Nat.le_of_ble_eq_true rfl) (Nat.le_refl _) (Nat.le_refl _) (ev_Fb_findOne hA htown hday hn hperson (fun n4 μ1 R1 ho1 hR1 => ?_) (fun S lv y4 y5 μ1 ho1 hF1 => ?_))
  · refine fg_astoreN (fg_ft (pc := 9) tb_Fb_worth 6 rfl) (Nat.le_of_ble_eq_true rfl) ?_
    refine fg_aloadN (fg_ft (pc := 11) tb_Fb_worth 7 rfl) rfl ?_
    refine fg_ifnonnull_n (fg_ft (pc := 13) tb_Fb_worth 8 rfl) ?_
    refine fg_ldc (fg_ft (pc := 16) tb_Fb_worth 9 rfl) fd_Fb_225 ?_
    exact fg_iret (fg_ft (pc := 18) tb_Fb_worth 10 rfl) rfl rfl (fg_q (hQ _ R1 (fg_agQ_F (Or.inl rfl) ho1)) (by unfold an_worth; rw [fg_g1_none n4] <;> ((repeat (first | rw [if_pos (by assumption)] | rw [if_neg (by assumption)] | rw [if_pos (by omega)] | rw [if_neg (by omega)] | rw [if_pos (by constructor <;> assumption)] | rw [if_neg (by intro hh; exact absurd hh.1 (by assumption))] | rw [if_neg (by intro hh; exact absurd hh.2 (by assumption))])); (try rfl))))
  · have ytc := fg_fnd_t y4
    have hok := (hA.2.2.2.2.2.1 town ytc).2
    have ht : fg_isT (104 + 14 * town) := fg_isT_told (by omega)
    have hT1 := fg_TL.town hA (Or.inl rfl) ytc ho1
    have hz := fg_fnd_ok hA y4
    have hb0 := hok.1
    have hb1 := hok.2.1
    have hp := hok.p
    have hm2 := hz.2.1 person y5
    have hm0 : S.2.1.1 person < 2 ^ A.ts town 0 := hm2.1
    have hmc : fg_clsd (A.ts town) (S.2.1.1 person) := hm2.2
    have hm10 : S.2.1.1 person < 1024 := by omega
    refine fg_astore (fg_ft (pc := 9) tb_Fb_worth 6 rfl) (Nat.le_of_ble_eq_true rfl) ?_
    refine fg_aload (fg_ft (pc := 11) tb_Fb_worth 7 rfl) rfl ?_
    refine fg_ifnonnull (tgt := 19) (fg_ft (pc := 13) tb_Fb_worth 8 rfl) (by decide) ?_
    refine fg_aload (fg_ft (pc := 19) tb_Fb_worth 11 rfl) rfl ?_
    refine fg_iload (fg_ft (pc := 21) tb_Fb_worth 12 rfl) rfl ?_
    refine fg_callV (fg_ft (pc := 23) tb_Fb_worth 13 rfl) cf_Fb_181 (fg_isOf ly_273 rfl (fg_lt ly_273 (by decide))) (as := [.int (nI person)]) (st := []) rfl rfl (Nat.le_of_ble_eq_true rfl) (Nat.le_refl _) (Nat.le_refl _) (ev_Folk_mind ht hT1 hok (Or.inl rfl) rfl hF1 hz (p := person) (by omega) ?_)
    refine fg_istore (fg_ft (pc := 26) tb_Fb_worth 14 rfl) (Nat.le_of_ble_eq_true rfl) ?_
    refine fg_iload (fg_ft (pc := 28) tb_Fb_worth 15 rfl) rfl ?_
    by_cases e30_0 : what = 0
    · refine fg_swN (tgt := 56) (fg_ft (pc := 30) tb_Fb_worth 16 rfl) e30_0 (by decide) (by decide) (by decide) rfl (by decide) ?_
      refine fg_aload (fg_ft (pc := 56) tb_Fb_worth 17 rfl) rfl ?_
      refine fg_getR (fg_ft (pc := 58) tb_Fb_worth 18 rfl) ff_Fb_194 ly_273 rfl (fg_lt ly_273 (by decide)) rfl ?_
      refine fg_iload (fg_ft (pc := 61) tb_Fb_worth 19 rfl) rfl ?_
      refine fg_callV (fg_ft (pc := 63) tb_Fb_worth 20 rfl) cf_Fb_226 (fg_isOf (tT_lay ht) rfl (fg_lt (tT_lay ht) (by decide))) (as := [.int (nI (S.2.1.1 person))]) (st := []) rfl rfl (Nat.le_of_ble_eq_true rfl) (Nat.le_refl _) (Nat.le_refl _) (ev_Town_worthOf ht hT1 hok (m := (S.2.1.1 person)) (by omega) ?_)
      exact fg_iret (fg_ft (pc := 66) tb_Fb_worth 21 rfl) rfl rfl (fg_q (hQ _ (some (104 + 14 * town), R.2.1, R.2.2.1, R.2.2.2) (fg_agQ_F (Or.inl rfl) ho1)) (by unfold an_worth; rw [fg_g1_some y4 y5] <;> ((repeat (first | rw [if_pos (by assumption)] | rw [if_neg (by assumption)] | rw [if_pos (by omega)] | rw [if_neg (by omega)] | rw [if_pos (by constructor <;> assumption)] | rw [if_neg (by intro hh; exact absurd hh.1 (by assumption))] | rw [if_neg (by intro hh; exact absurd hh.2 (by assumption))])); (try rfl))))
    by_cases e30_1 : what = 1
    · refine fg_swN (tgt := 67) (fg_ft (pc := 30) tb_Fb_worth 16 rfl) e30_1 (by decide) (by decide) (by decide) rfl (by decide) ?_
      refine fg_aload (fg_ft (pc := 67) tb_Fb_worth 22 rfl) rfl ?_
      refine fg_getR (fg_ft (pc := 69) tb_Fb_worth 23 rfl) ff_Fb_194 ly_273 rfl (fg_lt ly_273 (by decide)) rfl ?_
      refine fg_getR (fg_ft (pc := 72) tb_Fb_worth 24 rfl) ff_Fb_122 (tT_lay ht) rfl (fg_lt (tT_lay ht) (by decide)) (tT_r6 ht) ?_
      refine fg_iload (fg_ft (pc := 75) tb_Fb_worth 25 rfl) rfl ?_
      refine fg_callS (fg_ft (pc := 77) tb_Fb_worth 26 rfl) cf_Fb_229 (as := [.ref ((104 + 14 * town) + 9), .int (nI (S.2.1.1 person))]) (st := []) rfl rfl (Nat.le_of_ble_eq_true rfl) (Nat.le_refl _) (Nat.le_refl _) (ev_Town_lying (g := fun k => A.ts town (128 + 2 * k)) (tT_w6 (R := (some (104 + 14 * town), R.2.1, R.2.2.1, R.2.2.2)) ht) hT1.2.2.2.2.2.1.1 hT1.2.2.2.2.2.1.2.1 (by omega) (by omega) (fun i hi => hT1.skill1 hi) (by omega) (fun i hi => fg_lt10 (hok.2.2.2.2.2.2.1 i hi).2 hok.1.2) ?_)
      exact fg_iret (fg_ft (pc := 80) tb_Fb_worth 27 rfl) rfl rfl (fg_q (hQ _ (some (104 + 14 * town), R.2.1, R.2.2.1, R.2.2.2) (fg_agQ_F (Or.inl rfl) ho1)) (by unfold an_worth; rw [fg_g1_some y4 y5] <;> ((repeat (first | rw [if_pos (by assumption)] | rw [if_neg (by assumption)] | rw [if_pos (by omega)] | rw [if_neg (by omega)] | rw [if_pos (by constructor <;> assumption)] | rw [if_neg (by intro hh; exact absurd hh.1 (by assumption))] | rw [if_neg (by intro hh; exact absurd hh.2 (by assumption))])); (try rfl))))
    by_cases e30_2 : what = 2
    · refine fg_swN (tgt := 81) (fg_ft (pc := 30) tb_Fb_worth 16 rfl) e30_2 (by decide) (by decide) (by decide) rfl (by decide) ?_
      refine fg_aload (fg_ft (pc := 81) tb_Fb_worth 28 rfl) rfl ?_
      refine fg_getR (fg_ft (pc := 83) tb_Fb_worth 29 rfl) ff_Fb_194 ly_273 rfl (fg_lt ly_273 (by decide)) rfl ?_
      refine fg_getR (fg_ft (pc := 86) tb_Fb_worth 30 rfl) ff_Fb_125 (tT_lay ht) rfl (fg_lt (tT_lay ht) (by decide)) (tT_r7 ht) ?_
      refine fg_iload (fg_ft (pc := 89) tb_Fb_worth 31 rfl) rfl ?_
      refine fg_callS (fg_ft (pc := 91) tb_Fb_worth 32 rfl) cf_Fb_229 (as := [.ref ((104 + 14 * town) + 11), .int (nI (S.2.1.1 person))]) (st := []) rfl rfl (Nat.le_of_ble_eq_true rfl) (Nat.le_refl _) (Nat.le_refl _) (ev_Town_lying (g := fun k => A.ts town (140 + 2 * k)) (tT_w7 (R := (some (104 + 14 * town), R.2.1, R.2.2.1, R.2.2.2)) ht) hT1.2.2.2.2.2.2.1.1 hT1.2.2.2.2.2.2.1.2.1 (by omega) (by omega) (fun i hi => hT1.hurt1 hi) (by omega) (fun i hi => fg_lt10 (hok.2.2.2.2.2.2.2 i hi).2 hok.1.2) ?_)
      exact fg_iret (fg_ft (pc := 94) tb_Fb_worth 33 rfl) rfl rfl (fg_q (hQ _ (some (104 + 14 * town), R.2.1, R.2.2.1, R.2.2.2) (fg_agQ_F (Or.inl rfl) ho1)) (by unfold an_worth; rw [fg_g1_some y4 y5] <;> ((repeat (first | rw [if_pos (by assumption)] | rw [if_neg (by assumption)] | rw [if_pos (by omega)] | rw [if_neg (by omega)] | rw [if_pos (by constructor <;> assumption)] | rw [if_neg (by intro hh; exact absurd hh.1 (by assumption))] | rw [if_neg (by intro hh; exact absurd hh.2 (by assumption))])); (try rfl))))
    refine fg_swO (tgt := 95) (fg_ft (pc := 30) tb_Fb_worth 16 rfl) (hwhat) (by decide) (by decide) (fun i h1 h2 he => by omega) (by decide) ?_
    refine fg_ldc (fg_ft (pc := 95) tb_Fb_worth 34 rfl) fd_Fb_225 ?_
    exact fg_iret (fg_ft (pc := 97) tb_Fb_worth 35 rfl) rfl rfl (fg_q (hQ _ (some (104 + 14 * town), R.2.1, R.2.2.1, R.2.2.2) (fg_agQ_F (Or.inl rfl) ho1)) (by unfold an_worth; rw [fg_g1_some y4 y5] <;> ((repeat (first | rw [if_pos (by assumption)] | rw [if_neg (by assumption)] | rw [if_pos (by omega)] | rw [if_neg (by omega)] | rw [if_pos (by constructor <;> assumption)] | rw [if_neg (by intro hh; exact absurd hh.1 (by assumption))] | rw [if_neg (by intro hh; exact absurd hh.2 (by assumption))])); (try rfl))))
theorem ev_Fb_again {E : fg_E} {d : Nat} {μ : Nat → Nat → Int32} {R : fg_T4} {Q : Option Value → fg_M → Prop} {A : fg_Tl} (hA : fg_TL μ 101 A) {town day n person fact : Nat} (htown : town < 2 ^ 32) (hday : day < 2 ^ 32) (hn : n < 2 ^ 32) (hperson : person < 2 ^ 32) (hfact : fact < 2 ^ 32) (hQ : ∀ (μ' : Nat → Nat → Int32) (R' : fg_T4), fg_agQ μ μ' → Q (some (.int (an_again A town day n person fact))) (μ', fg_rho R', 304)) : fg_Ev E yy_Fb_again (d + 12) [.ref 100, .int (nI town), .int (nI day), .int (nI n), .int (nI person), .int (nI fact)] (μ, fg_rho R, 304) 304 Q := by
  have ht2 := hA.2.2.2.1.2
  have hd3 := hA.2.2.2.2.1.2
  refine fg_intro (by decide +kernel) (Nat.le_of_ble_eq_true rfl) (fg_okAs rfl) (Nat.le_refl _) ?_
  refine fg_aloadn (fg_ft (pc := 0) tb_Fb_again 0 rfl) rfl ?_
  refine fg_iloadn (fg_ft (pc := 1) tb_Fb_again 1 rfl) rfl ?_
  refine fg_iloadn (fg_ft (pc := 2) tb_Fb_again 2 rfl) rfl ?_
  refine fg_iloadn (fg_ft (pc := 3) tb_Fb_again 3 rfl) rfl ?_
  refine fg_iload (fg_ft (pc := 4) tb_Fb_again 4 rfl) rfl ?_
  refine fg_callV (fg_ft (pc := 6) tb_Fb_again 5 rfl) cf_Fb_221 (fg_isOf ly_100 rfl (fg_lt ly_100 (by decide))) (as := [.int (nI town), .int (nI day), .int (nI n), .int (nI person)]) (st := []) rfl rfl (Nat.le_of_ble_eq_true rfl) (Nat.le_refl _) (Nat.le_refl _) (ev_Fb_findOne hA htown hday hn hperson (fun n4 μ1 R1 ho1 hR1 => ?_) (fun S lv y4 y5 μ1 ho1 hF1 => ?_))
  · refine fg_astoreN (fg_ft (pc := 9) tb_Fb_again 6 rfl) (Nat.le_of_ble_eq_true rfl) ?_
    refine fg_aloadN (fg_ft (pc := 11) tb_Fb_again 7 rfl) rfl ?_
    refine fg_ifnull (tgt := 29) (fg_ft (pc := 13) tb_Fb_again 8 rfl) (by decide) ?_
    refine fg_iconst (fg_ft (pc := 29) tb_Fb_again 14 rfl) ic_m1 ?_
    exact fg_iret (fg_ft (pc := 30) tb_Fb_again 15 rfl) rfl rfl (fg_q (hQ _ R1 (fg_agQ_F (Or.inl rfl) ho1)) (by unfold an_again; rw [fg_g1_none n4] <;> ((first | (rw [if_pos c26, if_pos (show ((fg_cm (A.ts town) S person fact).2.1.1 person).testBit fact = true from c51.2)]; try rfl) | (rw [if_pos c26, if_neg (show ¬ ((fg_cm (A.ts town) S person fact).2.1.1 person).testBit fact = true from fun hh => c51 ⟨y5, hh⟩)]; try rfl) | rw [if_neg c26]))))
  · have ytc := fg_fnd_t y4
    have hok := (hA.2.2.2.2.2.1 town ytc).2
    have ht : fg_isT (104 + 14 * town) := fg_isT_told (by omega)
    have hT1 := fg_TL.town hA (Or.inl rfl) ytc ho1
    have hz := fg_fnd_ok hA y4
    have hb0 := hok.1
    have hb1 := hok.2.1
    have hp := hok.p
    have hm2 := hz.2.1 person y5
    have hm0 : S.2.1.1 person < 2 ^ A.ts town 0 := hm2.1
    have hmc : fg_clsd (A.ts town) (S.2.1.1 person) := hm2.2
    have hm10 : S.2.1.1 person < 1024 := by omega
    refine fg_astore (fg_ft (pc := 9) tb_Fb_again 6 rfl) (Nat.le_of_ble_eq_true rfl) ?_
    refine fg_aload (fg_ft (pc := 11) tb_Fb_again 7 rfl) rfl ?_
    refine fg_ifnull_r (fg_ft (pc := 13) tb_Fb_again 8 rfl) ?_
    refine fg_aload (fg_ft (pc := 16) tb_Fb_again 9 rfl) rfl ?_
    refine fg_getR (fg_ft (pc := 18) tb_Fb_again 10 rfl) ff_Fb_194 ly_273 rfl (fg_lt ly_273 (by decide)) rfl ?_
    refine fg_iload (fg_ft (pc := 21) tb_Fb_again 11 rfl) rfl ?_
    refine fg_callV (fg_ft (pc := 23) tb_Fb_again 12 rfl) cf_Fb_164 (fg_isOf (tT_lay ht) rfl (fg_lt (tT_lay ht) (by decide))) (as := [.int (nI fact)]) (st := []) rfl rfl (Nat.le_of_ble_eq_true rfl) (Nat.le_refl _) (Nat.le_refl _) (ev_Town_hasFactX ht hT1 hok (k := fact) hfact ?_)
    refine fg_ifB_ne (tgt := 31) (fg_ft (pc := 26) tb_Fb_again 13 rfl) (by decide) (fun c26 => ?_) (fun c26 => ?_)
    · refine fg_aloadn (fg_ft (pc := 31) tb_Fb_again 16 rfl) rfl ?_
      refine fg_getR (fg_ft (pc := 32) tb_Fb_again 17 rfl) ff_Fb_38 ly_100 rfl (fg_lt ly_100 (by decide)) (rh_100_5 (some (104 + 14 * town), R.2.1, R.2.2.1, R.2.2.2)) ?_
      refine fg_aload (fg_ft (pc := 35) tb_Fb_again 18 rfl) rfl ?_
      refine fg_callV (fg_ft (pc := 37) tb_Fb_again 19 rfl) cf_Fb_233 (fg_isOf ly_277 rfl (fg_lt ly_277 (by decide))) (as := [.ref 273]) (st := []) rfl rfl (Nat.le_of_ble_eq_true rfl) (Nat.le_refl _) (Nat.le_refl _) (ev_Folk_copyFrom (R := (some (104 + 14 * town), R.2.1, R.2.2.1, R.2.2.2)) ht hT1 hok (h := S.1) (Z := S.2.1) (hv := S.2.2) rfl hF1 hz ?_)
      intro μ2 ho2 hF2
      have hT2 := fg_TWp.agF ht (Or.inr rfl) hT1 ho2
      have hF1b := fg_FZ.ag7 hF1 ho2
      have hz2 : fg_zok (A.ts town) S.1 (S.2.1.1, 0, 0, 0) S.2.2 := fg_zok.news hz
      show fg_wp _ _ _ _ _ _ _ _ _ (μ2, fg_rho (some (104 + 14 * town), some (104 + 14 * town), R.2.2.1, R.2.2.2), 304)
      refine fg_aloadn (fg_ft (pc := 40) tb_Fb_again 20 rfl) rfl ?_
      refine fg_getR (fg_ft (pc := 41) tb_Fb_again 21 rfl) ff_Fb_38 ly_100 rfl (fg_lt ly_100 (by decide)) (rh_100_5 (some (104 + 14 * town), some (104 + 14 * town), R.2.2.1, R.2.2.2)) ?_
      refine fg_iload (fg_ft (pc := 44) tb_Fb_again 22 rfl) rfl ?_
      refine fg_iload (fg_ft (pc := 46) tb_Fb_again 23 rfl) rfl ?_
      refine fg_callV (fg_ft (pc := 48) tb_Fb_again 24 rfl) cf_Fb_236 (fg_isOf ly_277 rfl (fg_lt ly_277 (by decide))) (as := [.int (nI person), .int (nI fact)]) (st := []) rfl rfl (Nat.le_of_ble_eq_true rfl) (Nat.le_refl _) (Nat.le_refl _) (ev_Folk_comesToHave (R := (some (104 + 14 * town), some (104 + 14 * town), R.2.2.1, R.2.2.2)) ht hT2 hok (f := 277) (Or.inr rfl) rfl hF2 hz2 (p := person) (k := fact) (by omega) (by omega) (by decide) ?_)
      intro μ3 ho3 hF3
      have hT3 := fg_TWp.agF ht (Or.inr rfl) hT2 ho3
      have hF3 : fg_FS μ3 277 (A.ts town) (fg_cm (A.ts town) S person fact) lv (none, 0, 0) := hF3
      have hz3 := fg_cm_ok hok hz (p := person) (k := fact)
      have hh3 := hz3.1
      show fg_wp _ _ _ _ _ _ _ _ _ (μ3, fg_rho (some (104 + 14 * town), some (104 + 14 * town), R.2.2.1, R.2.2.2), 304)
      refine fg_ifB_eq (tgt := 64) (fg_ft (pc := 51) tb_Fb_again 25 rfl) (by decide) (fun c51 => ?_) (fun c51 => ?_)
      · refine fg_iconst (fg_ft (pc := 64) tb_Fb_again 30 rfl) ic_m1 ?_
        exact fg_iret (fg_ft (pc := 65) tb_Fb_again 31 rfl) rfl rfl (fg_q (hQ _ (some (104 + 14 * town), some (104 + 14 * town), R.2.2.1, R.2.2.2) (fg_agQ_tr (fg_agQ_tr (fg_agQ_F (Or.inl rfl) ho1) (fg_agQ_F (Or.inr rfl) ho2)) (fg_agQ_F (Or.inr rfl) ho3))) (by unfold an_again; rw [fg_g1_some y4 y5] <;> ((first | (rw [if_pos c26, if_pos (show ((fg_cm (A.ts town) S person fact).2.1.1 person).testBit fact = true from c51.2)]; try rfl) | (rw [if_pos c26, if_neg (show ¬ ((fg_cm (A.ts town) S person fact).2.1.1 person).testBit fact = true from fun hh => c51 ⟨y5, hh⟩)]; try rfl) | rw [if_neg c26]))))
      · refine fg_aloadn (fg_ft (pc := 54) tb_Fb_again 26 rfl) rfl ?_
        refine fg_getR (fg_ft (pc := 55) tb_Fb_again 27 rfl) ff_Fb_38 ly_100 rfl (fg_lt ly_100 (by decide)) (rh_100_5 (some (104 + 14 * town), some (104 + 14 * town), R.2.2.1, R.2.2.2)) ?_
        refine fg_getV (v := (nI ((fg_cm (A.ts town) S person fact).1))) (fg_ft (pc := 58) tb_Fb_again 28 rfl) ff_Fb_188 ly_277 rfl (fg_lt ly_277 (by decide)) hF3.2.1 ?_
        refine fg_goto (tgt := 65) (fg_ft (pc := 61) tb_Fb_again 29 rfl) (by decide) ?_
        exact fg_iret (fg_ft (pc := 65) tb_Fb_again 31 rfl) rfl rfl (fg_q (hQ _ (some (104 + 14 * town), some (104 + 14 * town), R.2.2.1, R.2.2.2) (fg_agQ_tr (fg_agQ_tr (fg_agQ_F (Or.inl rfl) ho1) (fg_agQ_F (Or.inr rfl) ho2)) (fg_agQ_F (Or.inr rfl) ho3))) (by unfold an_again; rw [fg_g1_some y4 y5] <;> ((first | (rw [if_pos c26, if_pos (show ((fg_cm (A.ts town) S person fact).2.1.1 person).testBit fact = true from c51.2)]; try rfl) | (rw [if_pos c26, if_neg (show ¬ ((fg_cm (A.ts town) S person fact).2.1.1 person).testBit fact = true from fun hh => c51 ⟨y5, hh⟩)]; try rfl) | rw [if_neg c26]))))
    · refine fg_iconst (fg_ft (pc := 29) tb_Fb_again 14 rfl) ic_m1 ?_
      exact fg_iret (fg_ft (pc := 30) tb_Fb_again 15 rfl) rfl rfl (fg_q (hQ _ (some (104 + 14 * town), R.2.1, R.2.2.1, R.2.2.2) (fg_agQ_F (Or.inl rfl) ho1)) (by unfold an_again; rw [fg_g1_some y4 y5] <;> ((first | (rw [if_pos c26, if_pos (show ((fg_cm (A.ts town) S person fact).2.1.1 person).testBit fact = true from c51.2)]; try rfl) | (rw [if_pos c26, if_neg (show ¬ ((fg_cm (A.ts town) S person fact).2.1.1 person).testBit fact = true from fun hh => c51 ⟨y5, hh⟩)]; try rfl) | rw [if_neg c26]))))
theorem ev_Fb_known {E : fg_E} {d : Nat} {μ : Nat → Nat → Int32} {R : fg_T4} {Q : Option Value → fg_M → Prop} {A : fg_Tl} (hA : fg_TL μ 101 A) {town day n person fact : Nat} (htown : town < 2 ^ 32) (hday : day < 2 ^ 32) (hn : n < 2 ^ 32) (hperson : person < 2 ^ 32) (hfact : fact < 2 ^ 32) (hQ : ∀ (μ' : Nat → Nat → Int32) (R' : fg_T4), fg_agQ μ μ' → Q (some (.int (an_known A town day n person fact))) (μ', fg_rho R', 304)) : fg_Ev E yy_Fb_known (d + 12) [.ref 100, .int (nI town), .int (nI day), .int (nI n), .int (nI person), .int (nI fact)] (μ, fg_rho R, 304) 304 Q := by
  have ht2 := hA.2.2.2.1.2
  have hd3 := hA.2.2.2.2.1.2
  refine fg_intro (by decide +kernel) (Nat.le_of_ble_eq_true rfl) (fg_okAs rfl) (Nat.le_refl _) ?_
  refine fg_aloadn (fg_ft (pc := 0) tb_Fb_known 0 rfl) rfl ?_
  refine fg_iloadn (fg_ft (pc := 1) tb_Fb_known 1 rfl) rfl ?_
  refine fg_iloadn (fg_ft (pc := 2) tb_Fb_known 2 rfl) rfl ?_
  refine fg_iloadn (fg_ft (pc := 3) tb_Fb_known 3 rfl) rfl ?_
  refine fg_iload (fg_ft (pc := 4) tb_Fb_known 4 rfl) rfl ?_
  refine fg_callV (fg_ft (pc := 6) tb_Fb_known 5 rfl) cf_Fb_221 (fg_isOf ly_100 rfl (fg_lt ly_100 (by decide))) (as := [.int (nI town), .int (nI day), .int (nI n), .int (nI person)]) (st := []) rfl rfl (Nat.le_of_ble_eq_true rfl) (Nat.le_refl _) (Nat.le_refl _) (ev_Fb_findOne hA htown hday hn hperson (fun n4 μ1 R1 ho1 hR1 => ?_) (fun S lv y4 y5 μ1 ho1 hF1 => ?_))
  · refine fg_astoreN (fg_ft (pc := 9) tb_Fb_known 6 rfl) (Nat.le_of_ble_eq_true rfl) ?_
    refine fg_aloadN (fg_ft (pc := 11) tb_Fb_known 7 rfl) rfl ?_
    refine fg_ifnull (tgt := 29) (fg_ft (pc := 13) tb_Fb_known 8 rfl) (by decide) ?_
    refine fg_iconst (fg_ft (pc := 29) tb_Fb_known 14 rfl) ic_m1 ?_
    exact fg_iret (fg_ft (pc := 30) tb_Fb_known 15 rfl) rfl rfl (fg_q (hQ _ R1 (fg_agQ_F (Or.inl rfl) ho1)) (by unfold an_known; rw [fg_g1_none n4] <;> ((first | (rw [if_pos c26, if_pos (show ((fg_cm (A.ts town) S person fact).2.1.1 person).testBit fact = true from c51.2)]; try rfl) | (rw [if_pos c26, if_neg (show ¬ ((fg_cm (A.ts town) S person fact).2.1.1 person).testBit fact = true from fun hh => c51 ⟨y5, hh⟩)]; try rfl) | rw [if_neg c26]))))
  · have ytc := fg_fnd_t y4
    have hok := (hA.2.2.2.2.2.1 town ytc).2
    have ht : fg_isT (104 + 14 * town) := fg_isT_told (by omega)
    have hT1 := fg_TL.town hA (Or.inl rfl) ytc ho1
    have hz := fg_fnd_ok hA y4
    have hb0 := hok.1
    have hb1 := hok.2.1
    have hp := hok.p
    have hm2 := hz.2.1 person y5
    have hm0 : S.2.1.1 person < 2 ^ A.ts town 0 := hm2.1
    have hmc : fg_clsd (A.ts town) (S.2.1.1 person) := hm2.2
    have hm10 : S.2.1.1 person < 1024 := by omega
    refine fg_astore (fg_ft (pc := 9) tb_Fb_known 6 rfl) (Nat.le_of_ble_eq_true rfl) ?_
    refine fg_aload (fg_ft (pc := 11) tb_Fb_known 7 rfl) rfl ?_
    refine fg_ifnull_r (fg_ft (pc := 13) tb_Fb_known 8 rfl) ?_
    refine fg_aload (fg_ft (pc := 16) tb_Fb_known 9 rfl) rfl ?_
    refine fg_getR (fg_ft (pc := 18) tb_Fb_known 10 rfl) ff_Fb_194 ly_273 rfl (fg_lt ly_273 (by decide)) rfl ?_
    refine fg_iload (fg_ft (pc := 21) tb_Fb_known 11 rfl) rfl ?_
    refine fg_callV (fg_ft (pc := 23) tb_Fb_known 12 rfl) cf_Fb_164 (fg_isOf (tT_lay ht) rfl (fg_lt (tT_lay ht) (by decide))) (as := [.int (nI fact)]) (st := []) rfl rfl (Nat.le_of_ble_eq_true rfl) (Nat.le_refl _) (Nat.le_refl _) (ev_Town_hasFactX ht hT1 hok (k := fact) hfact ?_)
    refine fg_ifB_ne (tgt := 31) (fg_ft (pc := 26) tb_Fb_known 13 rfl) (by decide) (fun c26 => ?_) (fun c26 => ?_)
    · refine fg_aloadn (fg_ft (pc := 31) tb_Fb_known 16 rfl) rfl ?_
      refine fg_getR (fg_ft (pc := 32) tb_Fb_known 17 rfl) ff_Fb_38 ly_100 rfl (fg_lt ly_100 (by decide)) (rh_100_5 (some (104 + 14 * town), R.2.1, R.2.2.1, R.2.2.2)) ?_
      refine fg_aload (fg_ft (pc := 35) tb_Fb_known 18 rfl) rfl ?_
      refine fg_callV (fg_ft (pc := 37) tb_Fb_known 19 rfl) cf_Fb_233 (fg_isOf ly_277 rfl (fg_lt ly_277 (by decide))) (as := [.ref 273]) (st := []) rfl rfl (Nat.le_of_ble_eq_true rfl) (Nat.le_refl _) (Nat.le_refl _) (ev_Folk_copyFrom (R := (some (104 + 14 * town), R.2.1, R.2.2.1, R.2.2.2)) ht hT1 hok (h := S.1) (Z := S.2.1) (hv := S.2.2) rfl hF1 hz ?_)
      intro μ2 ho2 hF2
      have hT2 := fg_TWp.agF ht (Or.inr rfl) hT1 ho2
      have hF1b := fg_FZ.ag7 hF1 ho2
      have hz2 : fg_zok (A.ts town) S.1 (S.2.1.1, 0, 0, 0) S.2.2 := fg_zok.news hz
      show fg_wp _ _ _ _ _ _ _ _ _ (μ2, fg_rho (some (104 + 14 * town), some (104 + 14 * town), R.2.2.1, R.2.2.2), 304)
      refine fg_aloadn (fg_ft (pc := 40) tb_Fb_known 20 rfl) rfl ?_
      refine fg_getR (fg_ft (pc := 41) tb_Fb_known 21 rfl) ff_Fb_38 ly_100 rfl (fg_lt ly_100 (by decide)) (rh_100_5 (some (104 + 14 * town), some (104 + 14 * town), R.2.2.1, R.2.2.2)) ?_
      refine fg_iload (fg_ft (pc := 44) tb_Fb_known 22 rfl) rfl ?_
      refine fg_iload (fg_ft (pc := 46) tb_Fb_known 23 rfl) rfl ?_
      refine fg_callV (fg_ft (pc := 48) tb_Fb_known 24 rfl) cf_Fb_236 (fg_isOf ly_277 rfl (fg_lt ly_277 (by decide))) (as := [.int (nI person), .int (nI fact)]) (st := []) rfl rfl (Nat.le_of_ble_eq_true rfl) (Nat.le_refl _) (Nat.le_refl _) (ev_Folk_comesToHave (R := (some (104 + 14 * town), some (104 + 14 * town), R.2.2.1, R.2.2.2)) ht hT2 hok (f := 277) (Or.inr rfl) rfl hF2 hz2 (p := person) (k := fact) (by omega) (by omega) (by decide) ?_)
      intro μ3 ho3 hF3
      have hT3 := fg_TWp.agF ht (Or.inr rfl) hT2 ho3
      have hF3 : fg_FS μ3 277 (A.ts town) (fg_cm (A.ts town) S person fact) lv (none, 0, 0) := hF3
      have hz3 := fg_cm_ok hok hz (p := person) (k := fact)
      have hh3 := hz3.1
      show fg_wp _ _ _ _ _ _ _ _ _ (μ3, fg_rho (some (104 + 14 * town), some (104 + 14 * town), R.2.2.1, R.2.2.2), 304)
      refine fg_ifB_eq (tgt := 69) (fg_ft (pc := 51) tb_Fb_known 25 rfl) (by decide) (fun c51 => ?_) (fun c51 => ?_)
      · refine fg_iconst (fg_ft (pc := 69) tb_Fb_known 34 rfl) ic_0 ?_
        exact fg_iret (fg_ft (pc := 70) tb_Fb_known 35 rfl) rfl rfl (fg_q (hQ _ (some (104 + 14 * town), some (104 + 14 * town), R.2.2.1, R.2.2.2) (fg_agQ_tr (fg_agQ_tr (fg_agQ_F (Or.inl rfl) ho1) (fg_agQ_F (Or.inr rfl) ho2)) (fg_agQ_F (Or.inr rfl) ho3))) (by unfold an_known; rw [fg_g1_some y4 y5] <;> ((first | (rw [if_pos c26, if_pos (show ((fg_cm (A.ts town) S person fact).2.1.1 person).testBit fact = true from c51.2)]; try rfl) | (rw [if_pos c26, if_neg (show ¬ ((fg_cm (A.ts town) S person fact).2.1.1 person).testBit fact = true from fun hh => c51 ⟨y5, hh⟩)]; try rfl) | rw [if_neg c26]))))
      · refine fg_bipush (fg_ft (pc := 54) tb_Fb_known 26 rfl) ib_9 ?_
        refine fg_aloadn (fg_ft (pc := 56) tb_Fb_known 27 rfl) rfl ?_
        refine fg_getR (fg_ft (pc := 57) tb_Fb_known 28 rfl) ff_Fb_38 ly_100 rfl (fg_lt ly_100 (by decide)) (rh_100_5 (some (104 + 14 * town), some (104 + 14 * town), R.2.2.1, R.2.2.2)) ?_
        refine fg_getV (v := (nI ((fg_cm (A.ts town) S person fact).1))) (fg_ft (pc := 60) tb_Fb_known 29 rfl) ff_Fb_188 ly_277 rfl (fg_lt ly_277 (by decide)) hF3.2.1 ?_
        refine fg_isubN (fg_ft (pc := 63) tb_Fb_known 30 rfl) (by omega) ?_
        refine fg_iconst (fg_ft (pc := 64) tb_Fb_known 31 rfl) ic_1 ?_
        refine fg_iaddN (fg_ft (pc := 65) tb_Fb_known 32 rfl) ?_
        refine fg_goto (tgt := 70) (fg_ft (pc := 66) tb_Fb_known 33 rfl) (by decide) ?_
        exact fg_iret (fg_ft (pc := 70) tb_Fb_known 35 rfl) rfl rfl (fg_q (hQ _ (some (104 + 14 * town), some (104 + 14 * town), R.2.2.1, R.2.2.2) (fg_agQ_tr (fg_agQ_tr (fg_agQ_F (Or.inl rfl) ho1) (fg_agQ_F (Or.inr rfl) ho2)) (fg_agQ_F (Or.inr rfl) ho3))) (by unfold an_known; rw [fg_g1_some y4 y5] <;> ((first | (rw [if_pos c26, if_pos (show ((fg_cm (A.ts town) S person fact).2.1.1 person).testBit fact = true from c51.2)]; try rfl) | (rw [if_pos c26, if_neg (show ¬ ((fg_cm (A.ts town) S person fact).2.1.1 person).testBit fact = true from fun hh => c51 ⟨y5, hh⟩)]; try rfl) | rw [if_neg c26]))))
    · refine fg_iconst (fg_ft (pc := 29) tb_Fb_known 14 rfl) ic_m1 ?_
      exact fg_iret (fg_ft (pc := 30) tb_Fb_known 15 rfl) rfl rfl (fg_q (hQ _ (some (104 + 14 * town), R.2.1, R.2.2.1, R.2.2.2) (fg_agQ_F (Or.inl rfl) ho1)) (by unfold an_known; rw [fg_g1_some y4 y5] <;> ((first | (rw [if_pos c26, if_pos (show ((fg_cm (A.ts town) S person fact).2.1.1 person).testBit fact = true from c51.2)]; try rfl) | (rw [if_pos c26, if_neg (show ¬ ((fg_cm (A.ts town) S person fact).2.1.1 person).testBit fact = true from fun hh => c51 ⟨y5, hh⟩)]; try rfl) | rw [if_neg c26]))))
theorem ev_Fb_finds {E : fg_E} {d : Nat} {μ : Nat → Nat → Int32} {R : fg_T4} {Q : Option Value → fg_M → Prop} {A : fg_Tl} (hA : fg_TL μ 101 A) {town day n person : Nat} (htown : town < 2 ^ 32) (hday : day < 2 ^ 32) (hn : n < 2 ^ 32) (hperson : person < 2 ^ 32) (hQ : ∀ (μ' : Nat → Nat → Int32) (R' : fg_T4), fg_agQ μ μ' → Q (some (.int (an_finds A town day n person))) (μ', fg_rho R', 304)) : fg_Ev E yy_Fb_finds (d + 12) [.ref 100, .int (nI town), .int (nI day), .int (nI n), .int (nI person)] (μ, fg_rho R, 304) 304 Q := by
  have ht2 := hA.2.2.2.1.2
  have hd3 := hA.2.2.2.2.1.2
  refine fg_intro (by decide +kernel) (Nat.le_of_ble_eq_true rfl) (fg_okAs rfl) (Nat.le_refl _) ?_
  refine fg_aloadn (fg_ft (pc := 0) tb_Fb_finds 0 rfl) rfl ?_
  refine fg_iloadn (fg_ft (pc := 1) tb_Fb_finds 1 rfl) rfl ?_
  refine fg_iloadn (fg_ft (pc := 2) tb_Fb_finds 2 rfl) rfl ?_
  refine fg_iloadn (fg_ft (pc := 3) tb_Fb_finds 3 rfl) rfl ?_
  refine fg_iload (fg_ft (pc := 4) tb_Fb_finds 4 rfl) rfl ?_
  refine fg_callV (fg_ft (pc := 6) tb_Fb_finds 5 rfl) cf_Fb_221 (fg_isOf ly_100 rfl (fg_lt ly_100 (by decide))) (as := [.int (nI town), .int (nI day), .int (nI n), .int (nI person)]) (st := []) rfl rfl (Nat.le_of_ble_eq_true rfl) (Nat.le_refl _) (Nat.le_refl _) (ev_Fb_findOne hA htown hday hn hperson (fun n4 μ1 R1 ho1 hR1 => ?_) (fun S lv y4 y5 μ1 ho1 hF1 => ?_))
  · refine fg_astoreN (fg_ft (pc := 9) tb_Fb_finds 6 rfl) (Nat.le_of_ble_eq_true rfl) ?_
    refine fg_aloadN (fg_ft (pc := 11) tb_Fb_finds 7 rfl) rfl ?_
    refine fg_ifnonnull_n (fg_ft (pc := 13) tb_Fb_finds 8 rfl) ?_
    refine fg_iconst (fg_ft (pc := 16) tb_Fb_finds 9 rfl) ic_m1 ?_
    refine fg_goto (tgt := 41) (fg_ft (pc := 17) tb_Fb_finds 10 rfl) (by decide) ?_
    exact fg_iret (fg_ft (pc := 41) tb_Fb_finds 22 rfl) rfl rfl (fg_q (hQ _ R1 (fg_agQ_F (Or.inl rfl) ho1)) (by unfold an_finds; rw [fg_g1_none n4] <;> ((repeat (first | rw [if_pos (by assumption)] | rw [if_neg (by assumption)] | rw [if_pos (by omega)] | rw [if_neg (by omega)] | rw [if_pos (by constructor <;> assumption)] | rw [if_neg (by intro hh; exact absurd hh.1 (by assumption))] | rw [if_neg (by intro hh; exact absurd hh.2 (by assumption))])); (try rfl))))
  · have ytc := fg_fnd_t y4
    have hok := (hA.2.2.2.2.2.1 town ytc).2
    have ht : fg_isT (104 + 14 * town) := fg_isT_told (by omega)
    have hT1 := fg_TL.town hA (Or.inl rfl) ytc ho1
    have hz := fg_fnd_ok hA y4
    have hb0 := hok.1
    have hb1 := hok.2.1
    have hp := hok.p
    have hm2 := hz.2.1 person y5
    have hm0 : S.2.1.1 person < 2 ^ A.ts town 0 := hm2.1
    have hmc : fg_clsd (A.ts town) (S.2.1.1 person) := hm2.2
    have hm10 : S.2.1.1 person < 1024 := by omega
    refine fg_astore (fg_ft (pc := 9) tb_Fb_finds 6 rfl) (Nat.le_of_ble_eq_true rfl) ?_
    refine fg_aload (fg_ft (pc := 11) tb_Fb_finds 7 rfl) rfl ?_
    refine fg_ifnonnull (tgt := 20) (fg_ft (pc := 13) tb_Fb_finds 8 rfl) (by decide) ?_
    refine fg_aloadn (fg_ft (pc := 20) tb_Fb_finds 11 rfl) rfl ?_
    refine fg_aload (fg_ft (pc := 21) tb_Fb_finds 12 rfl) rfl ?_
    refine fg_callV (fg_ft (pc := 23) tb_Fb_finds 13 rfl) cf_Fb_204 (fg_isOf ly_100 rfl (fg_lt ly_100 (by decide))) (as := [.ref 273]) (st := []) rfl rfl (Nat.le_of_ble_eq_true rfl) (Nat.le_refl _) (Nat.le_refl _) (ev_Fb_eveningOf (R := (some (104 + 14 * town), R.2.1, R.2.2.1, R.2.2.2)) ht hT1 hok (h := S.1) (Z := S.2.1) (hv := S.2.2) rfl hF1 hz ?_)
    intro μ2 ho2 hF2
    have hT2 := fg_TWp.agF ht (Or.inr rfl) hT1 ho2
    have hF1b := fg_FZ.ag7 hF1 ho2
    have hF2 : fg_FS μ2 277 (A.ts town) (fg_ev (A.ts town) S) lv (none, 0, 0) := hF2
    have hz2 := fg_ev_ok hok hz
    show fg_wp _ _ _ _ _ _ _ _ _ (μ2, fg_rho (some (104 + 14 * town), some (104 + 14 * town), R.2.2.1, R.2.2.2), 304)
    refine fg_iload (fg_ft (pc := 26) tb_Fb_finds 14 rfl) rfl ?_
    refine fg_callV (fg_ft (pc := 28) tb_Fb_finds 15 rfl) cf_Fb_181 (fg_isOf ly_277 rfl (fg_lt ly_277 (by decide))) (as := [.int (nI person)]) (st := []) rfl rfl (Nat.le_of_ble_eq_true rfl) (Nat.le_refl _) (Nat.le_refl _) (ev_Folk_mind ht hT2 hok (Or.inr rfl) rfl hF2 hz2 (p := person) (by omega) ?_)
    refine fg_aload (fg_ft (pc := 31) tb_Fb_finds 16 rfl) rfl ?_
    refine fg_iload (fg_ft (pc := 33) tb_Fb_finds 17 rfl) rfl ?_
    refine fg_callV (fg_ft (pc := 35) tb_Fb_finds 18 rfl) cf_Fb_181 (fg_isOf ly_273 rfl (fg_lt ly_273 (by decide))) (as := [.int (nI person)]) (st := [.int (nI ((fg_ev (A.ts town) S).2.1.1 person))]) rfl rfl (Nat.le_of_ble_eq_true rfl) (Nat.le_refl _) (Nat.le_refl _) (ev_Folk_mind ht hT2 hok (Or.inl rfl) rfl hF1b hz (p := person) (by omega) ?_)
    refine fg_iconst (fg_ft (pc := 38) tb_Fb_finds 19 rfl) ic_m1 ?_
    refine fg_ixor (fg_ft (pc := 39) tb_Fb_finds 20 rfl) ?_
    refine fg_iandD (fg_ft (pc := 40) tb_Fb_finds 21 rfl) ?_
    exact fg_iret (fg_ft (pc := 41) tb_Fb_finds 22 rfl) rfl rfl (fg_q (hQ _ (some (104 + 14 * town), some (104 + 14 * town), R.2.2.1, R.2.2.2) (fg_agQ_tr (fg_agQ_F (Or.inl rfl) ho1) (fg_agQ_F (Or.inr rfl) ho2))) (by unfold an_finds; rw [fg_g1_some y4 y5] <;> ((repeat (first | rw [if_pos (by assumption)] | rw [if_neg (by assumption)] | rw [if_pos (by omega)] | rw [if_neg (by omega)] | rw [if_pos (by constructor <;> assumption)] | rw [if_neg (by intro hh; exact absurd hh.1 (by assumption))] | rw [if_neg (by intro hh; exact absurd hh.2 (by assumption))])); (try rfl))))
theorem ev_Fb_spread {E : fg_E} {d : Nat} {μ : Nat → Nat → Int32} {R : fg_T4} {Q : Option Value → fg_M → Prop} {A : fg_Tl} (hA : fg_TL μ 101 A) {town day n fact : Nat} (htown : town < 2 ^ 32) (hday : day < 2 ^ 32) (hn : n < 2 ^ 32) (hfact : fact < 2 ^ 32) (hQ : ∀ (μ' : Nat → Nat → Int32) (R' : fg_T4), fg_agQ μ μ' → Q (some (.int (an_spread A town day n fact))) (μ', fg_rho R', 304)) : fg_Ev E yy_Fb_spread (d + 12) [.ref 100, .int (nI town), .int (nI day), .int (nI n), .int (nI fact)] (μ, fg_rho R, 304) 304 Q := by
  have ht2 := hA.2.2.2.1.2
  have hd3 := hA.2.2.2.2.1.2
  refine fg_intro (by decide +kernel) (Nat.le_of_ble_eq_true rfl) (fg_okAs rfl) (Nat.le_refl _) ?_
  refine fg_aloadn (fg_ft (pc := 0) tb_Fb_spread 0 rfl) rfl ?_
  refine fg_iloadn (fg_ft (pc := 1) tb_Fb_spread 1 rfl) rfl ?_
  refine fg_iloadn (fg_ft (pc := 2) tb_Fb_spread 2 rfl) rfl ?_
  refine fg_iloadn (fg_ft (pc := 3) tb_Fb_spread 3 rfl) rfl ?_
  refine fg_callV (fg_ft (pc := 4) tb_Fb_spread 4 rfl) cf_Fb_184 (fg_isOf ly_100 rfl (fg_lt ly_100 (by decide))) (as := [.int (nI town), .int (nI day), .int (nI n)]) (st := []) rfl rfl (Nat.le_of_ble_eq_true rfl) (Nat.le_refl _) (Nat.le_refl _) (ev_Fb_find hA htown hday hn (fun n4 μ1 R1 ho1 hR1 => ?_) (fun S lv y4 μ1 ho1 hF1 => ?_))
  · refine fg_astoreN (fg_ft (pc := 7) tb_Fb_spread 5 rfl) (Nat.le_of_ble_eq_true rfl) ?_
    refine fg_aloadN (fg_ft (pc := 9) tb_Fb_spread 6 rfl) rfl ?_
    refine fg_ifnull (tgt := 27) (fg_ft (pc := 11) tb_Fb_spread 7 rfl) (by decide) ?_
    refine fg_iconst (fg_ft (pc := 27) tb_Fb_spread 13 rfl) ic_m1 ?_
    refine fg_goto (tgt := 42) (fg_ft (pc := 28) tb_Fb_spread 14 rfl) (by decide) ?_
    exact fg_iret (fg_ft (pc := 42) tb_Fb_spread 20 rfl) rfl rfl (fg_q (hQ _ R1 (fg_agQ_F (Or.inl rfl) ho1)) (by unfold an_spread; rw [fg_g0_none n4] <;> ((repeat (first | rw [if_pos (by assumption)] | rw [if_neg (by assumption)] | rw [if_pos (by omega)] | rw [if_neg (by omega)] | rw [if_pos (by constructor <;> assumption)] | rw [if_neg (by intro hh; exact absurd hh.1 (by assumption))] | rw [if_neg (by intro hh; exact absurd hh.2 (by assumption))])); (try rfl))))
  · have ytc := fg_fnd_t y4
    have hok := (hA.2.2.2.2.2.1 town ytc).2
    have ht : fg_isT (104 + 14 * town) := fg_isT_told (by omega)
    have hT1 := fg_TL.town hA (Or.inl rfl) ytc ho1
    have hz := fg_fnd_ok hA y4
    have hb0 := hok.1
    have hb1 := hok.2.1
    have hp := hok.p
    refine fg_astore (fg_ft (pc := 7) tb_Fb_spread 5 rfl) (Nat.le_of_ble_eq_true rfl) ?_
    refine fg_aload (fg_ft (pc := 9) tb_Fb_spread 6 rfl) rfl ?_
    refine fg_ifnull_r (fg_ft (pc := 11) tb_Fb_spread 7 rfl) ?_
    refine fg_aload (fg_ft (pc := 14) tb_Fb_spread 8 rfl) rfl ?_
    refine fg_getR (fg_ft (pc := 16) tb_Fb_spread 9 rfl) ff_Fb_194 ly_273 rfl (fg_lt ly_273 (by decide)) rfl ?_
    refine fg_iload (fg_ft (pc := 19) tb_Fb_spread 10 rfl) rfl ?_
    refine fg_callV (fg_ft (pc := 21) tb_Fb_spread 11 rfl) cf_Fb_164 (fg_isOf (tT_lay ht) rfl (fg_lt (tT_lay ht) (by decide))) (as := [.int (nI fact)]) (st := []) rfl rfl (Nat.le_of_ble_eq_true rfl) (Nat.le_refl _) (Nat.le_refl _) (ev_Town_hasFactX ht hT1 hok (k := fact) hfact ?_)
    refine fg_ifB_ne (tgt := 31) (fg_ft (pc := 24) tb_Fb_spread 12 rfl) (by decide) (fun c24 => ?_) (fun c24 => ?_)
    · refine fg_aloadn (fg_ft (pc := 31) tb_Fb_spread 15 rfl) rfl ?_
      refine fg_aload (fg_ft (pc := 32) tb_Fb_spread 16 rfl) rfl ?_
      refine fg_callV (fg_ft (pc := 34) tb_Fb_spread 17 rfl) cf_Fb_204 (fg_isOf ly_100 rfl (fg_lt ly_100 (by decide))) (as := [.ref 273]) (st := []) rfl rfl (Nat.le_of_ble_eq_true rfl) (Nat.le_refl _) (Nat.le_refl _) (ev_Fb_eveningOf (R := (some (104 + 14 * town), R.2.1, R.2.2.1, R.2.2.2)) ht hT1 hok (h := S.1) (Z := S.2.1) (hv := S.2.2) rfl hF1 hz ?_)
      intro μ2 ho2 hF2
      have hT2 := fg_TWp.agF ht (Or.inr rfl) hT1 ho2
      have hF1b := fg_FZ.ag7 hF1 ho2
      have hF2 : fg_FS μ2 277 (A.ts town) (fg_ev (A.ts town) S) lv (none, 0, 0) := hF2
      have hz2 := fg_ev_ok hok hz
      show fg_wp _ _ _ _ _ _ _ _ _ (μ2, fg_rho (some (104 + 14 * town), some (104 + 14 * town), R.2.2.1, R.2.2.2), 304)
      refine fg_iload (fg_ft (pc := 37) tb_Fb_spread 18 rfl) rfl ?_
      refine fg_callV (fg_ft (pc := 39) tb_Fb_spread 19 rfl) cf_Fb_239 (fg_isOf ly_277 rfl (fg_lt ly_277 (by decide))) (as := [.int (nI fact)]) (st := []) rfl rfl (Nat.le_of_ble_eq_true rfl) (Nat.le_refl _) (Nat.le_refl _) (ev_Folk_whoHas ht hT2 hok (Or.inr rfl) rfl hF2 hz2 (c := fact) (by omega) ?_)
      exact fg_iret (fg_ft (pc := 42) tb_Fb_spread 20 rfl) rfl rfl (fg_q (hQ _ (some (104 + 14 * town), some (104 + 14 * town), R.2.2.1, R.2.2.2) (fg_agQ_tr (fg_agQ_F (Or.inl rfl) ho1) (fg_agQ_F (Or.inr rfl) ho2))) (by unfold an_spread; rw [fg_g0_some y4] <;> ((repeat (first | rw [if_pos (by assumption)] | rw [if_neg (by assumption)] | rw [if_pos (by omega)] | rw [if_neg (by omega)] | rw [if_pos (by constructor <;> assumption)] | rw [if_neg (by intro hh; exact absurd hh.1 (by assumption))] | rw [if_neg (by intro hh; exact absurd hh.2 (by assumption))])); (try rfl))))
    · refine fg_iconst (fg_ft (pc := 27) tb_Fb_spread 13 rfl) ic_m1 ?_
      refine fg_goto (tgt := 42) (fg_ft (pc := 28) tb_Fb_spread 14 rfl) (by decide) ?_
      exact fg_iret (fg_ft (pc := 42) tb_Fb_spread 20 rfl) rfl rfl (fg_q (hQ _ (some (104 + 14 * town), R.2.1, R.2.2.1, R.2.2.2) (fg_agQ_F (Or.inl rfl) ho1)) (by unfold an_spread; rw [fg_g0_some y4] <;> ((repeat (first | rw [if_pos (by assumption)] | rw [if_neg (by assumption)] | rw [if_pos (by omega)] | rw [if_neg (by omega)] | rw [if_pos (by constructor <;> assumption)] | rw [if_neg (by intro hh; exact absurd hh.1 (by assumption))] | rw [if_neg (by intro hh; exact absurd hh.2 (by assumption))])); (try rfl))))
theorem ev_Fb_gone {E : fg_E} {d : Nat} {μ : Nat → Nat → Int32} {R : fg_T4} {Q : Option Value → fg_M → Prop} {A : fg_Tl} (hA : fg_TL μ 101 A) {town day n person fact kind : Nat} (htown : town < 2 ^ 32) (hday : day < 2 ^ 32) (hn : n < 2 ^ 32) (hperson : person < 2 ^ 32) (hfact : fact < 2 ^ 32) (hkind : kind < 2 ^ 32) (hQ : ∀ (μ' : Nat → Nat → Int32) (R' : fg_T4), fg_agQ μ μ' → Q (some (.int (an_gone A town day n person fact kind))) (μ', fg_rho R', 304)) : fg_Ev E yy_Fb_gone (d + 12) [.ref 100, .int (nI town), .int (nI day), .int (nI n), .int (nI person), .int (nI fact), .int (nI kind)] (μ, fg_rho R, 304) 304 Q := by
  have ht2 := hA.2.2.2.1.2
  have hd3 := hA.2.2.2.2.1.2
  refine fg_intro (by decide +kernel) (Nat.le_of_ble_eq_true rfl) (fg_okAs rfl) (Nat.le_refl _) ?_
  refine fg_aloadn (fg_ft (pc := 0) tb_Fb_gone 0 rfl) rfl ?_
  refine fg_iloadn (fg_ft (pc := 1) tb_Fb_gone 1 rfl) rfl ?_
  refine fg_iloadn (fg_ft (pc := 2) tb_Fb_gone 2 rfl) rfl ?_
  refine fg_iloadn (fg_ft (pc := 3) tb_Fb_gone 3 rfl) rfl ?_
  refine fg_iload (fg_ft (pc := 4) tb_Fb_gone 4 rfl) rfl ?_
  refine fg_callV (fg_ft (pc := 6) tb_Fb_gone 5 rfl) cf_Fb_221 (fg_isOf ly_100 rfl (fg_lt ly_100 (by decide))) (as := [.int (nI town), .int (nI day), .int (nI n), .int (nI person)]) (st := []) rfl rfl (Nat.le_of_ble_eq_true rfl) (Nat.le_refl _) (Nat.le_refl _) (ev_Fb_findOne hA htown hday hn hperson (fun n4 μ1 R1 ho1 hR1 => ?_) (fun S lv y4 y5 μ1 ho1 hF1 => ?_))
  · refine fg_astoreN (fg_ft (pc := 9) tb_Fb_gone 6 rfl) (Nat.le_of_ble_eq_true rfl) ?_
    refine fg_aloadN (fg_ft (pc := 11) tb_Fb_gone 7 rfl) rfl ?_
    refine fg_ifnull (tgt := 39) (fg_ft (pc := 13) tb_Fb_gone 8 rfl) (by decide) ?_
    refine fg_iconst (fg_ft (pc := 39) tb_Fb_gone 18 rfl) ic_m1 ?_
    exact fg_iret (fg_ft (pc := 40) tb_Fb_gone 19 rfl) rfl rfl (fg_q (hQ _ R1 (fg_agQ_F (Or.inl rfl) ho1)) (by unfold an_gone; rw [fg_g1_none n4] <;> ((repeat (first | rw [if_pos (by assumption)] | rw [if_neg (by assumption)] | rw [if_pos (by omega)] | rw [if_neg (by omega)] | rw [if_pos (by constructor <;> assumption)] | rw [if_neg (by intro hh; exact absurd hh.1 (by assumption))] | rw [if_neg (by intro hh; exact absurd hh.2 (by assumption))])); (try rfl))))
  · have ytc := fg_fnd_t y4
    have hok := (hA.2.2.2.2.2.1 town ytc).2
    have ht : fg_isT (104 + 14 * town) := fg_isT_told (by omega)
    have hT1 := fg_TL.town hA (Or.inl rfl) ytc ho1
    have hz := fg_fnd_ok hA y4
    have hb0 := hok.1
    have hb1 := hok.2.1
    have hp := hok.p
    have hm2 := hz.2.1 person y5
    have hm0 : S.2.1.1 person < 2 ^ A.ts town 0 := hm2.1
    have hmc : fg_clsd (A.ts town) (S.2.1.1 person) := hm2.2
    have hm10 : S.2.1.1 person < 1024 := by omega
    refine fg_astore (fg_ft (pc := 9) tb_Fb_gone 6 rfl) (Nat.le_of_ble_eq_true rfl) ?_
    refine fg_aload (fg_ft (pc := 11) tb_Fb_gone 7 rfl) rfl ?_
    refine fg_ifnull_r (fg_ft (pc := 13) tb_Fb_gone 8 rfl) ?_
    refine fg_aload (fg_ft (pc := 16) tb_Fb_gone 9 rfl) rfl ?_
    refine fg_iload (fg_ft (pc := 18) tb_Fb_gone 10 rfl) rfl ?_
    refine fg_callV (fg_ft (pc := 20) tb_Fb_gone 11 rfl) cf_Fb_181 (fg_isOf ly_273 rfl (fg_lt ly_273 (by decide))) (as := [.int (nI person)]) (st := []) rfl rfl (Nat.le_of_ble_eq_true rfl) (Nat.le_refl _) (Nat.le_refl _) (ev_Folk_mind ht hT1 hok (Or.inl rfl) rfl hF1 hz (p := person) (by omega) ?_)
    refine fg_iload (fg_ft (pc := 23) tb_Fb_gone 12 rfl) rfl ?_
    refine fg_callS (fg_ft (pc := 25) tb_Fb_gone 13 rfl) cf_Fb_167 (as := [.int (nI (S.2.1.1 person)), .int (nI fact)]) (st := []) rfl rfl (Nat.le_of_ble_eq_true rfl) (Nat.le_refl _) (Nat.le_refl _) (ev_Fb_isInX (s := (S.2.1.1 person)) (k := fact) (by omega) hfact ?_)
    refine fg_ifB_eq (tgt := 39) (fg_ft (pc := 28) tb_Fb_gone 14 rfl) (by decide) (fun c28 => ?_) (fun c28 => ?_)
    · refine fg_iconst (fg_ft (pc := 39) tb_Fb_gone 18 rfl) ic_m1 ?_
      exact fg_iret (fg_ft (pc := 40) tb_Fb_gone 19 rfl) rfl rfl (fg_q (hQ _ (some (104 + 14 * town), R.2.1, R.2.2.1, R.2.2.2) (fg_agQ_F (Or.inl rfl) ho1)) (by unfold an_gone; rw [fg_g1_some y4 y5] <;> ((repeat (first | rw [if_pos (by assumption)] | rw [if_neg (by assumption)] | rw [if_pos (by omega)] | rw [if_neg (by omega)] | rw [if_pos (by constructor <;> assumption)] | rw [if_neg (by intro hh; exact absurd hh.1 (by assumption))] | rw [if_neg (by intro hh; exact absurd hh.2 (by assumption))])); (try rfl))))
    · refine fg_iload (fg_ft (pc := 31) tb_Fb_gone 15 rfl) rfl ?_
      refine fg_callS (fg_ft (pc := 33) tb_Fb_gone 16 rfl) cf_Fb_254 (as := [.int (nI kind)]) (st := []) rfl rfl (Nat.le_of_ble_eq_true rfl) (Nat.le_refl _) (Nat.le_refl _) (ev_Fb_isKind hkind ?_)
      refine fg_ifB_ne (tgt := 41) (fg_ft (pc := 36) tb_Fb_gone 17 rfl) (by decide) (fun c36 => ?_) (fun c36 => ?_)
      · have hfT := fg_bit_lt hm0 c28
        refine fg_aload (fg_ft (pc := 41) tb_Fb_gone 20 rfl) rfl ?_
        refine fg_iload (fg_ft (pc := 43) tb_Fb_gone 21 rfl) rfl ?_
        refine fg_callV (fg_ft (pc := 45) tb_Fb_gone 22 rfl) cf_Fb_181 (fg_isOf ly_273 rfl (fg_lt ly_273 (by decide))) (as := [.int (nI person)]) (st := []) rfl rfl (Nat.le_of_ble_eq_true rfl) (Nat.le_refl _) (Nat.le_refl _) (ev_Folk_mind ht hT1 hok (Or.inl rfl) rfl hF1 hz (p := person) (by omega) ?_)
        refine fg_istore (fg_ft (pc := 48) tb_Fb_gone 23 rfl) (Nat.le_of_ble_eq_true rfl) ?_
        refine fg_iload (fg_ft (pc := 50) tb_Fb_gone 24 rfl) rfl ?_
        refine fg_aload (fg_ft (pc := 52) tb_Fb_gone 25 rfl) rfl ?_
        refine fg_getR (fg_ft (pc := 54) tb_Fb_gone 26 rfl) ff_Fb_194 ly_273 rfl (fg_lt ly_273 (by decide)) rfl ?_
        refine fg_iload (fg_ft (pc := 57) tb_Fb_gone 27 rfl) rfl ?_
        refine fg_iload (fg_ft (pc := 59) tb_Fb_gone 28 rfl) rfl ?_
        refine fg_iload (fg_ft (pc := 61) tb_Fb_gone 29 rfl) rfl ?_
        refine fg_callV (fg_ft (pc := 63) tb_Fb_gone 30 rfl) cf_Fb_257 (fg_isOf (tT_lay ht) rfl (fg_lt (tT_lay ht) (by decide))) (as := [.int (nI (S.2.1.1 person)), .int (nI fact), .int (nI kind)]) (st := [.int (nI (S.2.1.1 person))]) rfl rfl (Nat.le_of_ble_eq_true rfl) (Nat.le_refl _) (Nat.le_refl _) (ev_Town_forget ht hT1 hok (m := (S.2.1.1 person)) (f := fact) (kd := kind) (by assumption) (by omega) (by omega) ?_)
        refine fg_iconst (fg_ft (pc := 66) tb_Fb_gone 31 rfl) ic_m1 ?_
        refine fg_ixor (fg_ft (pc := 67) tb_Fb_gone 32 rfl) ?_
        refine fg_iandD (fg_ft (pc := 68) tb_Fb_gone 33 rfl) ?_
        exact fg_iret (fg_ft (pc := 69) tb_Fb_gone 34 rfl) rfl rfl (fg_q (hQ _ (some (104 + 14 * town), R.2.1, R.2.2.1, R.2.2.2) (fg_agQ_F (Or.inl rfl) ho1)) (by unfold an_gone; rw [fg_g1_some y4 y5] <;> ((repeat (first | rw [if_pos (by assumption)] | rw [if_neg (by assumption)] | rw [if_pos (by omega)] | rw [if_neg (by omega)] | rw [if_pos (by constructor <;> assumption)] | rw [if_neg (by intro hh; exact absurd hh.1 (by assumption))] | rw [if_neg (by intro hh; exact absurd hh.2 (by assumption))])); (try rfl))))
      · refine fg_iconst (fg_ft (pc := 39) tb_Fb_gone 18 rfl) ic_m1 ?_
        exact fg_iret (fg_ft (pc := 40) tb_Fb_gone 19 rfl) rfl rfl (fg_q (hQ _ (some (104 + 14 * town), R.2.1, R.2.2.1, R.2.2.2) (fg_agQ_F (Or.inl rfl) ho1)) (by unfold an_gone; rw [fg_g1_some y4 y5] <;> ((repeat (first | rw [if_pos (by assumption)] | rw [if_neg (by assumption)] | rw [if_pos (by omega)] | rw [if_neg (by omega)] | rw [if_pos (by constructor <;> assumption)] | rw [if_neg (by intro hh; exact absurd hh.1 (by assumption))] | rw [if_neg (by intro hh; exact absurd hh.2 (by assumption))])); (try rfl))))
theorem ev_Fb_gain {E : fg_E} {d : Nat} {μ : Nat → Nat → Int32} {R : fg_T4} {Q : Option Value → fg_M → Prop} {A : fg_Tl} (hA : fg_TL μ 101 A) {town day n person fact kind : Nat} (htown : town < 2 ^ 32) (hday : day < 2 ^ 32) (hn : n < 2 ^ 32) (hperson : person < 2 ^ 32) (hfact : fact < 2 ^ 32) (hkind : kind < 2 ^ 32) (hQ : ∀ (μ' : Nat → Nat → Int32) (R' : fg_T4), fg_agQ μ μ' → Q (some (.int (an_gain A town day n person fact kind))) (μ', fg_rho R', 304)) : fg_Ev E yy_Fb_gain (d + 12) [.ref 100, .int (nI town), .int (nI day), .int (nI n), .int (nI person), .int (nI fact), .int (nI kind)] (μ, fg_rho R, 304) 304 Q := by
  have ht2 := hA.2.2.2.1.2
  have hd3 := hA.2.2.2.2.1.2
  refine fg_intro (by decide +kernel) (Nat.le_of_ble_eq_true rfl) (fg_okAs rfl) (Nat.le_refl _) ?_
  refine fg_aloadn (fg_ft (pc := 0) tb_Fb_gain 0 rfl) rfl ?_
  refine fg_iloadn (fg_ft (pc := 1) tb_Fb_gain 1 rfl) rfl ?_
  refine fg_iloadn (fg_ft (pc := 2) tb_Fb_gain 2 rfl) rfl ?_
  refine fg_iloadn (fg_ft (pc := 3) tb_Fb_gain 3 rfl) rfl ?_
  refine fg_iload (fg_ft (pc := 4) tb_Fb_gain 4 rfl) rfl ?_
  refine fg_callV (fg_ft (pc := 6) tb_Fb_gain 5 rfl) cf_Fb_221 (fg_isOf ly_100 rfl (fg_lt ly_100 (by decide))) (as := [.int (nI town), .int (nI day), .int (nI n), .int (nI person)]) (st := []) rfl rfl (Nat.le_of_ble_eq_true rfl) (Nat.le_refl _) (Nat.le_refl _) (ev_Fb_findOne hA htown hday hn hperson (fun n4 μ1 R1 ho1 hR1 => ?_) (fun S lv y4 y5 μ1 ho1 hF1 => ?_))
  · refine fg_astoreN (fg_ft (pc := 9) tb_Fb_gain 6 rfl) (Nat.le_of_ble_eq_true rfl) ?_
    refine fg_aloadN (fg_ft (pc := 11) tb_Fb_gain 7 rfl) rfl ?_
    refine fg_ifnull (tgt := 39) (fg_ft (pc := 13) tb_Fb_gain 8 rfl) (by decide) ?_
    refine fg_ldc (fg_ft (pc := 39) tb_Fb_gain 18 rfl) fd_Fb_225 ?_
    exact fg_iret (fg_ft (pc := 41) tb_Fb_gain 19 rfl) rfl rfl (fg_q (hQ _ R1 (fg_agQ_F (Or.inl rfl) ho1)) (by unfold an_gain; rw [fg_g1_none n4] <;> ((repeat (first | rw [if_pos (by assumption)] | rw [if_neg (by assumption)] | rw [if_pos (by omega)] | rw [if_neg (by omega)] | rw [if_pos (by constructor <;> assumption)] | rw [if_neg (by intro hh; exact absurd hh.1 (by assumption))] | rw [if_neg (by intro hh; exact absurd hh.2 (by assumption))])); (try rfl))))
  · have ytc := fg_fnd_t y4
    have hok := (hA.2.2.2.2.2.1 town ytc).2
    have ht : fg_isT (104 + 14 * town) := fg_isT_told (by omega)
    have hT1 := fg_TL.town hA (Or.inl rfl) ytc ho1
    have hz := fg_fnd_ok hA y4
    have hb0 := hok.1
    have hb1 := hok.2.1
    have hp := hok.p
    have hm2 := hz.2.1 person y5
    have hm0 : S.2.1.1 person < 2 ^ A.ts town 0 := hm2.1
    have hmc : fg_clsd (A.ts town) (S.2.1.1 person) := hm2.2
    have hm10 : S.2.1.1 person < 1024 := by omega
    refine fg_astore (fg_ft (pc := 9) tb_Fb_gain 6 rfl) (Nat.le_of_ble_eq_true rfl) ?_
    refine fg_aload (fg_ft (pc := 11) tb_Fb_gain 7 rfl) rfl ?_
    refine fg_ifnull_r (fg_ft (pc := 13) tb_Fb_gain 8 rfl) ?_
    refine fg_aload (fg_ft (pc := 16) tb_Fb_gain 9 rfl) rfl ?_
    refine fg_iload (fg_ft (pc := 18) tb_Fb_gain 10 rfl) rfl ?_
    refine fg_callV (fg_ft (pc := 20) tb_Fb_gain 11 rfl) cf_Fb_181 (fg_isOf ly_273 rfl (fg_lt ly_273 (by decide))) (as := [.int (nI person)]) (st := []) rfl rfl (Nat.le_of_ble_eq_true rfl) (Nat.le_refl _) (Nat.le_refl _) (ev_Folk_mind ht hT1 hok (Or.inl rfl) rfl hF1 hz (p := person) (by omega) ?_)
    refine fg_iload (fg_ft (pc := 23) tb_Fb_gain 12 rfl) rfl ?_
    refine fg_callS (fg_ft (pc := 25) tb_Fb_gain 13 rfl) cf_Fb_167 (as := [.int (nI (S.2.1.1 person)), .int (nI fact)]) (st := []) rfl rfl (Nat.le_of_ble_eq_true rfl) (Nat.le_refl _) (Nat.le_refl _) (ev_Fb_isInX (s := (S.2.1.1 person)) (k := fact) (by omega) hfact ?_)
    refine fg_ifB_eq (tgt := 39) (fg_ft (pc := 28) tb_Fb_gain 14 rfl) (by decide) (fun c28 => ?_) (fun c28 => ?_)
    · refine fg_ldc (fg_ft (pc := 39) tb_Fb_gain 18 rfl) fd_Fb_225 ?_
      exact fg_iret (fg_ft (pc := 41) tb_Fb_gain 19 rfl) rfl rfl (fg_q (hQ _ (some (104 + 14 * town), R.2.1, R.2.2.1, R.2.2.2) (fg_agQ_F (Or.inl rfl) ho1)) (by unfold an_gain; rw [fg_g1_some y4 y5] <;> ((repeat (first | rw [if_pos (by assumption)] | rw [if_neg (by assumption)] | rw [if_pos (by omega)] | rw [if_neg (by omega)] | rw [if_pos (by constructor <;> assumption)] | rw [if_neg (by intro hh; exact absurd hh.1 (by assumption))] | rw [if_neg (by intro hh; exact absurd hh.2 (by assumption))])); (try rfl))))
    · refine fg_iload (fg_ft (pc := 31) tb_Fb_gain 15 rfl) rfl ?_
      refine fg_callS (fg_ft (pc := 33) tb_Fb_gain 16 rfl) cf_Fb_254 (as := [.int (nI kind)]) (st := []) rfl rfl (Nat.le_of_ble_eq_true rfl) (Nat.le_refl _) (Nat.le_refl _) (ev_Fb_isKind hkind ?_)
      refine fg_ifB_ne (tgt := 42) (fg_ft (pc := 36) tb_Fb_gain 17 rfl) (by decide) (fun c36 => ?_) (fun c36 => ?_)
      · have hfT := fg_bit_lt hm0 c28
        refine fg_aload (fg_ft (pc := 42) tb_Fb_gain 20 rfl) rfl ?_
        refine fg_getR (fg_ft (pc := 44) tb_Fb_gain 21 rfl) ff_Fb_194 ly_273 rfl (fg_lt ly_273 (by decide)) rfl ?_
        refine fg_aload (fg_ft (pc := 47) tb_Fb_gain 22 rfl) rfl ?_
        refine fg_iload (fg_ft (pc := 49) tb_Fb_gain 23 rfl) rfl ?_
        refine fg_callV (fg_ft (pc := 51) tb_Fb_gain 24 rfl) cf_Fb_181 (fg_isOf ly_273 rfl (fg_lt ly_273 (by decide))) (as := [.int (nI person)]) (st := [.ref (104 + 14 * town)]) rfl rfl (Nat.le_of_ble_eq_true rfl) (Nat.le_refl _) (Nat.le_refl _) (ev_Folk_mind ht hT1 hok (Or.inl rfl) rfl hF1 hz (p := person) (by omega) ?_)
        refine fg_iload (fg_ft (pc := 54) tb_Fb_gain 25 rfl) rfl ?_
        refine fg_iload (fg_ft (pc := 56) tb_Fb_gain 26 rfl) rfl ?_
        refine fg_callV (fg_ft (pc := 58) tb_Fb_gain 27 rfl) cf_Fb_261 (fg_isOf (tT_lay ht) rfl (fg_lt (tT_lay ht) (by decide))) (as := [.int (nI (S.2.1.1 person)), .int (nI fact), .int (nI kind)]) (st := []) rfl rfl (Nat.le_of_ble_eq_true rfl) (Nat.le_refl _) (Nat.le_refl _) (ev_Town_gainOf ht hT1 hok (m := (S.2.1.1 person)) (f := fact) (kd := kind) (by assumption) (by omega) (by omega) ?_)
        exact fg_iret (fg_ft (pc := 61) tb_Fb_gain 28 rfl) rfl rfl (fg_q (hQ _ (some (104 + 14 * town), R.2.1, R.2.2.1, R.2.2.2) (fg_agQ_F (Or.inl rfl) ho1)) (by unfold an_gain; rw [fg_g1_some y4 y5] <;> ((repeat (first | rw [if_pos (by assumption)] | rw [if_neg (by assumption)] | rw [if_pos (by omega)] | rw [if_neg (by omega)] | rw [if_pos (by constructor <;> assumption)] | rw [if_neg (by intro hh; exact absurd hh.1 (by assumption))] | rw [if_neg (by intro hh; exact absurd hh.2 (by assumption))])); (try rfl))))
      · refine fg_ldc (fg_ft (pc := 39) tb_Fb_gain 18 rfl) fd_Fb_225 ?_
        exact fg_iret (fg_ft (pc := 41) tb_Fb_gain 19 rfl) rfl rfl (fg_q (hQ _ (some (104 + 14 * town), R.2.1, R.2.2.1, R.2.2.2) (fg_agQ_F (Or.inl rfl) ho1)) (by unfold an_gain; rw [fg_g1_some y4 y5] <;> ((repeat (first | rw [if_pos (by assumption)] | rw [if_neg (by assumption)] | rw [if_pos (by omega)] | rw [if_neg (by omega)] | rw [if_pos (by constructor <;> assumption)] | rw [if_neg (by intro hh; exact absurd hh.1 (by assumption))] | rw [if_neg (by intro hh; exact absurd hh.2 (by assumption))])); (try rfl))))
theorem ev_Fb_keeps {E : fg_E} {d : Nat} {μ : Nat → Nat → Int32} {R : fg_T4} {Q : Option Value → fg_M → Prop} {A : fg_Tl} (hA : fg_TL μ 101 A) {town day n person gone kept : Nat} (htown : town < 2 ^ 32) (hday : day < 2 ^ 32) (hn : n < 2 ^ 32) (hperson : person < 2 ^ 32) (hgone : gone < 2 ^ 32) (hkept : kept < 2 ^ 32) (hQ : ∀ (μ' : Nat → Nat → Int32) (R' : fg_T4), fg_agQ μ μ' → Q (some (.int (an_keeps A town day n person gone kept))) (μ', fg_rho R', 304)) : fg_Ev E yy_Fb_keeps (d + 12) [.ref 100, .int (nI town), .int (nI day), .int (nI n), .int (nI person), .int (nI gone), .int (nI kept)] (μ, fg_rho R, 304) 304 Q := by
  have ht2 := hA.2.2.2.1.2
  have hd3 := hA.2.2.2.2.1.2
  refine fg_intro (by decide +kernel) (Nat.le_of_ble_eq_true rfl) (fg_okAs rfl) (Nat.le_refl _) ?_
  refine fg_aloadn (fg_ft (pc := 0) tb_Fb_keeps 0 rfl) rfl ?_
  refine fg_iloadn (fg_ft (pc := 1) tb_Fb_keeps 1 rfl) rfl ?_
  refine fg_iloadn (fg_ft (pc := 2) tb_Fb_keeps 2 rfl) rfl ?_
  refine fg_iloadn (fg_ft (pc := 3) tb_Fb_keeps 3 rfl) rfl ?_
  refine fg_iload (fg_ft (pc := 4) tb_Fb_keeps 4 rfl) rfl ?_
  refine fg_callV (fg_ft (pc := 6) tb_Fb_keeps 5 rfl) cf_Fb_221 (fg_isOf ly_100 rfl (fg_lt ly_100 (by decide))) (as := [.int (nI town), .int (nI day), .int (nI n), .int (nI person)]) (st := []) rfl rfl (Nat.le_of_ble_eq_true rfl) (Nat.le_refl _) (Nat.le_refl _) (ev_Fb_findOne hA htown hday hn hperson (fun n4 μ1 R1 ho1 hR1 => ?_) (fun S lv y4 y5 μ1 ho1 hF1 => ?_))
  · refine fg_astoreN (fg_ft (pc := 9) tb_Fb_keeps 6 rfl) (Nat.le_of_ble_eq_true rfl) ?_
    refine fg_aloadN (fg_ft (pc := 11) tb_Fb_keeps 7 rfl) rfl ?_
    refine fg_ifnull (tgt := 42) (fg_ft (pc := 13) tb_Fb_keeps 8 rfl) (by decide) ?_
    refine fg_iconst (fg_ft (pc := 42) tb_Fb_keeps 19 rfl) ic_m1 ?_
    exact fg_iret (fg_ft (pc := 43) tb_Fb_keeps 20 rfl) rfl rfl (fg_q (hQ _ R1 (fg_agQ_F (Or.inl rfl) ho1)) (by unfold an_keeps; rw [fg_g1_none n4] <;> ((repeat (first | rw [if_pos (by assumption)] | rw [if_neg (by assumption)] | rw [if_pos (by omega)] | rw [if_neg (by omega)] | rw [if_pos (by constructor <;> assumption)] | rw [if_neg (by intro hh; exact absurd hh.1 (by assumption))] | rw [if_neg (by intro hh; exact absurd hh.2 (by assumption))])); (try rfl))))
  · have ytc := fg_fnd_t y4
    have hok := (hA.2.2.2.2.2.1 town ytc).2
    have ht : fg_isT (104 + 14 * town) := fg_isT_told (by omega)
    have hT1 := fg_TL.town hA (Or.inl rfl) ytc ho1
    have hz := fg_fnd_ok hA y4
    have hb0 := hok.1
    have hb1 := hok.2.1
    have hp := hok.p
    have hm2 := hz.2.1 person y5
    have hm0 : S.2.1.1 person < 2 ^ A.ts town 0 := hm2.1
    have hmc : fg_clsd (A.ts town) (S.2.1.1 person) := hm2.2
    have hm10 : S.2.1.1 person < 1024 := by omega
    refine fg_astore (fg_ft (pc := 9) tb_Fb_keeps 6 rfl) (Nat.le_of_ble_eq_true rfl) ?_
    refine fg_aload (fg_ft (pc := 11) tb_Fb_keeps 7 rfl) rfl ?_
    refine fg_ifnull_r (fg_ft (pc := 13) tb_Fb_keeps 8 rfl) ?_
    refine fg_aload (fg_ft (pc := 16) tb_Fb_keeps 9 rfl) rfl ?_
    refine fg_getR (fg_ft (pc := 18) tb_Fb_keeps 10 rfl) ff_Fb_194 ly_273 rfl (fg_lt ly_273 (by decide)) rfl ?_
    refine fg_iload (fg_ft (pc := 21) tb_Fb_keeps 11 rfl) rfl ?_
    refine fg_callV (fg_ft (pc := 23) tb_Fb_keeps 12 rfl) cf_Fb_156 (fg_isOf (tT_lay ht) rfl (fg_lt (tT_lay ht) (by decide))) (as := [.int (nI gone)]) (st := []) rfl rfl (Nat.le_of_ble_eq_true rfl) (Nat.le_refl _) (Nat.le_refl _) (ev_Town_hasFactsX ht hT1 hok (k := gone) hgone ?_)
    refine fg_ifB_eq (tgt := 42) (fg_ft (pc := 26) tb_Fb_keeps 13 rfl) (by decide) (fun c26 => ?_) (fun c26 => ?_)
    · refine fg_iconst (fg_ft (pc := 42) tb_Fb_keeps 19 rfl) ic_m1 ?_
      exact fg_iret (fg_ft (pc := 43) tb_Fb_keeps 20 rfl) rfl rfl (fg_q (hQ _ (some (104 + 14 * town), R.2.1, R.2.2.1, R.2.2.2) (fg_agQ_F (Or.inl rfl) ho1)) (by unfold an_keeps; rw [fg_g1_some y4 y5] <;> ((repeat (first | rw [if_pos (by assumption)] | rw [if_neg (by assumption)] | rw [if_pos (by omega)] | rw [if_neg (by omega)] | rw [if_pos (by constructor <;> assumption)] | rw [if_neg (by intro hh; exact absurd hh.1 (by assumption))] | rw [if_neg (by intro hh; exact absurd hh.2 (by assumption))])); (try rfl))))
    · refine fg_aload (fg_ft (pc := 29) tb_Fb_keeps 14 rfl) rfl ?_
      refine fg_getR (fg_ft (pc := 31) tb_Fb_keeps 15 rfl) ff_Fb_194 ly_273 rfl (fg_lt ly_273 (by decide)) rfl ?_
      refine fg_iload (fg_ft (pc := 34) tb_Fb_keeps 16 rfl) rfl ?_
      refine fg_callV (fg_ft (pc := 36) tb_Fb_keeps 17 rfl) cf_Fb_156 (fg_isOf (tT_lay ht) rfl (fg_lt (tT_lay ht) (by decide))) (as := [.int (nI kept)]) (st := []) rfl rfl (Nat.le_of_ble_eq_true rfl) (Nat.le_refl _) (Nat.le_refl _) (ev_Town_hasFactsX ht hT1 hok (k := kept) hkept ?_)
      refine fg_ifB_ne (tgt := 44) (fg_ft (pc := 39) tb_Fb_keeps 18 rfl) (by decide) (fun c39 => ?_) (fun c39 => ?_)
      · refine fg_aload (fg_ft (pc := 44) tb_Fb_keeps 21 rfl) rfl ?_
        refine fg_getR (fg_ft (pc := 46) tb_Fb_keeps 22 rfl) ff_Fb_194 ly_273 rfl (fg_lt ly_273 (by decide)) rfl ?_
        refine fg_aload (fg_ft (pc := 49) tb_Fb_keeps 23 rfl) rfl ?_
        refine fg_iload (fg_ft (pc := 51) tb_Fb_keeps 24 rfl) rfl ?_
        refine fg_callV (fg_ft (pc := 53) tb_Fb_keeps 25 rfl) cf_Fb_181 (fg_isOf ly_273 rfl (fg_lt ly_273 (by decide))) (as := [.int (nI person)]) (st := [.ref (104 + 14 * town)]) rfl rfl (Nat.le_of_ble_eq_true rfl) (Nat.le_refl _) (Nat.le_refl _) (ev_Folk_mind ht hT1 hok (Or.inl rfl) rfl hF1 hz (p := person) (by omega) ?_)
        refine fg_iload (fg_ft (pc := 56) tb_Fb_keeps 26 rfl) rfl ?_
        refine fg_iload (fg_ft (pc := 58) tb_Fb_keeps 27 rfl) rfl ?_
        refine fg_callV (fg_ft (pc := 60) tb_Fb_keeps 28 rfl) cf_Fb_264 (fg_isOf (tT_lay ht) rfl (fg_lt (tT_lay ht) (by decide))) (as := [.int (nI (S.2.1.1 person)), .int (nI gone), .int (nI kept)]) (st := []) rfl rfl (Nat.le_of_ble_eq_true rfl) (Nat.le_refl _) (Nat.le_refl _) (ev_Town_largest ht hT1 hok (mind := (S.2.1.1 person)) (gone := gone) (kept := kept) (by assumption) (by omega) ?_)
        exact fg_iret (fg_ft (pc := 63) tb_Fb_keeps 29 rfl) rfl rfl (fg_q (hQ _ (some (104 + 14 * town), R.2.1, R.2.2.1, R.2.2.2) (fg_agQ_F (Or.inl rfl) ho1)) (by unfold an_keeps; rw [fg_g1_some y4 y5] <;> ((repeat (first | rw [if_pos (by assumption)] | rw [if_neg (by assumption)] | rw [if_pos (by omega)] | rw [if_neg (by omega)] | rw [if_pos (by constructor <;> assumption)] | rw [if_neg (by intro hh; exact absurd hh.1 (by assumption))] | rw [if_neg (by intro hh; exact absurd hh.2 (by assumption))])); (try rfl))))
      · refine fg_iconst (fg_ft (pc := 42) tb_Fb_keeps 19 rfl) ic_m1 ?_
        exact fg_iret (fg_ft (pc := 43) tb_Fb_keeps 20 rfl) rfl rfl (fg_q (hQ _ (some (104 + 14 * town), R.2.1, R.2.2.1, R.2.2.2) (fg_agQ_F (Or.inl rfl) ho1)) (by unfold an_keeps; rw [fg_g1_some y4 y5] <;> ((repeat (first | rw [if_pos (by assumption)] | rw [if_neg (by assumption)] | rw [if_pos (by omega)] | rw [if_neg (by omega)] | rw [if_pos (by constructor <;> assumption)] | rw [if_neg (by intro hh; exact absurd hh.1 (by assumption))] | rw [if_neg (by intro hh; exact absurd hh.2 (by assumption))])); (try rfl))))
theorem ev_Fb_honest {E : fg_E} {d : Nat} {μ : Nat → Nat → Int32} {R : fg_T4} {Q : Option Value → fg_M → Prop} {A : fg_Tl} (hA : fg_TL μ 101 A) {town day n person facts : Nat} (htown : town < 2 ^ 32) (hday : day < 2 ^ 32) (hn : n < 2 ^ 32) (hperson : person < 2 ^ 32) (hfacts : facts < 2 ^ 32) (hQ : ∀ (μ' : Nat → Nat → Int32) (R' : fg_T4), fg_agQ μ μ' → Q (some (.int (an_honest A town day n person facts))) (μ', fg_rho R', 304)) : fg_Ev E yy_Fb_honest (d + 12) [.ref 100, .int (nI town), .int (nI day), .int (nI n), .int (nI person), .int (nI facts)] (μ, fg_rho R, 304) 304 Q := by
  have ht2 := hA.2.2.2.1.2
  have hd3 := hA.2.2.2.2.1.2
  refine fg_intro (by decide +kernel) (Nat.le_of_ble_eq_true rfl) (fg_okAs rfl) (Nat.le_refl _) ?_
  refine fg_aloadn (fg_ft (pc := 0) tb_Fb_honest 0 rfl) rfl ?_
  refine fg_iloadn (fg_ft (pc := 1) tb_Fb_honest 1 rfl) rfl ?_
  refine fg_iloadn (fg_ft (pc := 2) tb_Fb_honest 2 rfl) rfl ?_
  refine fg_iloadn (fg_ft (pc := 3) tb_Fb_honest 3 rfl) rfl ?_
  refine fg_iload (fg_ft (pc := 4) tb_Fb_honest 4 rfl) rfl ?_
  refine fg_callV (fg_ft (pc := 6) tb_Fb_honest 5 rfl) cf_Fb_221 (fg_isOf ly_100 rfl (fg_lt ly_100 (by decide))) (as := [.int (nI town), .int (nI day), .int (nI n), .int (nI person)]) (st := []) rfl rfl (Nat.le_of_ble_eq_true rfl) (Nat.le_refl _) (Nat.le_refl _) (ev_Fb_findOne hA htown hday hn hperson (fun n4 μ1 R1 ho1 hR1 => ?_) (fun S lv y4 y5 μ1 ho1 hF1 => ?_))
  · refine fg_astoreN (fg_ft (pc := 9) tb_Fb_honest 6 rfl) (Nat.le_of_ble_eq_true rfl) ?_
    refine fg_aloadN (fg_ft (pc := 11) tb_Fb_honest 7 rfl) rfl ?_
    refine fg_ifnull (tgt := 29) (fg_ft (pc := 13) tb_Fb_honest 8 rfl) (by decide) ?_
    refine fg_iconst (fg_ft (pc := 29) tb_Fb_honest 14 rfl) ic_m1 ?_
    refine fg_goto (tgt := 45) (fg_ft (pc := 30) tb_Fb_honest 15 rfl) (by decide) ?_
    exact fg_iret (fg_ft (pc := 45) tb_Fb_honest 23 rfl) rfl rfl (fg_q (hQ _ R1 (fg_agQ_F (Or.inl rfl) ho1)) (by unfold an_honest; rw [fg_g1_none n4] <;> ((repeat (first | rw [if_pos (by assumption)] | rw [if_neg (by assumption)] | rw [if_pos (by omega)] | rw [if_neg (by omega)] | rw [if_pos (by constructor <;> assumption)] | rw [if_neg (by intro hh; exact absurd hh.1 (by assumption))] | rw [if_neg (by intro hh; exact absurd hh.2 (by assumption))])); (try rfl))))
  · have ytc := fg_fnd_t y4
    have hok := (hA.2.2.2.2.2.1 town ytc).2
    have ht : fg_isT (104 + 14 * town) := fg_isT_told (by omega)
    have hT1 := fg_TL.town hA (Or.inl rfl) ytc ho1
    have hz := fg_fnd_ok hA y4
    have hb0 := hok.1
    have hb1 := hok.2.1
    have hp := hok.p
    have hm2 := hz.2.1 person y5
    have hm0 : S.2.1.1 person < 2 ^ A.ts town 0 := hm2.1
    have hmc : fg_clsd (A.ts town) (S.2.1.1 person) := hm2.2
    have hm10 : S.2.1.1 person < 1024 := by omega
    refine fg_astore (fg_ft (pc := 9) tb_Fb_honest 6 rfl) (Nat.le_of_ble_eq_true rfl) ?_
    refine fg_aload (fg_ft (pc := 11) tb_Fb_honest 7 rfl) rfl ?_
    refine fg_ifnull_r (fg_ft (pc := 13) tb_Fb_honest 8 rfl) ?_
    refine fg_aload (fg_ft (pc := 16) tb_Fb_honest 9 rfl) rfl ?_
    refine fg_getR (fg_ft (pc := 18) tb_Fb_honest 10 rfl) ff_Fb_194 ly_273 rfl (fg_lt ly_273 (by decide)) rfl ?_
    refine fg_iload (fg_ft (pc := 21) tb_Fb_honest 11 rfl) rfl ?_
    refine fg_callV (fg_ft (pc := 23) tb_Fb_honest 12 rfl) cf_Fb_156 (fg_isOf (tT_lay ht) rfl (fg_lt (tT_lay ht) (by decide))) (as := [.int (nI facts)]) (st := []) rfl rfl (Nat.le_of_ble_eq_true rfl) (Nat.le_refl _) (Nat.le_refl _) (ev_Town_hasFactsX ht hT1 hok (k := facts) hfacts ?_)
    refine fg_ifB_ne (tgt := 33) (fg_ft (pc := 26) tb_Fb_honest 13 rfl) (by decide) (fun c26 => ?_) (fun c26 => ?_)
    · refine fg_iload (fg_ft (pc := 33) tb_Fb_honest 16 rfl) rfl ?_
      refine fg_aload (fg_ft (pc := 35) tb_Fb_honest 17 rfl) rfl ?_
      refine fg_iload (fg_ft (pc := 37) tb_Fb_honest 18 rfl) rfl ?_
      refine fg_callV (fg_ft (pc := 39) tb_Fb_honest 19 rfl) cf_Fb_181 (fg_isOf ly_273 rfl (fg_lt ly_273 (by decide))) (as := [.int (nI person)]) (st := [.int (nI facts)]) rfl rfl (Nat.le_of_ble_eq_true rfl) (Nat.le_refl _) (Nat.le_refl _) (ev_Folk_mind ht hT1 hok (Or.inl rfl) rfl hF1 hz (p := person) (by omega) ?_)
      refine fg_iconst (fg_ft (pc := 42) tb_Fb_honest 20 rfl) ic_m1 ?_
      refine fg_ixor (fg_ft (pc := 43) tb_Fb_honest 21 rfl) ?_
      refine fg_iandD (fg_ft (pc := 44) tb_Fb_honest 22 rfl) ?_
      exact fg_iret (fg_ft (pc := 45) tb_Fb_honest 23 rfl) rfl rfl (fg_q (hQ _ (some (104 + 14 * town), R.2.1, R.2.2.1, R.2.2.2) (fg_agQ_F (Or.inl rfl) ho1)) (by unfold an_honest; rw [fg_g1_some y4 y5] <;> ((repeat (first | rw [if_pos (by assumption)] | rw [if_neg (by assumption)] | rw [if_pos (by omega)] | rw [if_neg (by omega)] | rw [if_pos (by constructor <;> assumption)] | rw [if_neg (by intro hh; exact absurd hh.1 (by assumption))] | rw [if_neg (by intro hh; exact absurd hh.2 (by assumption))])); (try rfl))))
    · refine fg_iconst (fg_ft (pc := 29) tb_Fb_honest 14 rfl) ic_m1 ?_
      refine fg_goto (tgt := 45) (fg_ft (pc := 30) tb_Fb_honest 15 rfl) (by decide) ?_
      exact fg_iret (fg_ft (pc := 45) tb_Fb_honest 23 rfl) rfl rfl (fg_q (hQ _ (some (104 + 14 * town), R.2.1, R.2.2.1, R.2.2.2) (fg_agQ_F (Or.inl rfl) ho1)) (by unfold an_honest; rw [fg_g1_some y4 y5] <;> ((repeat (first | rw [if_pos (by assumption)] | rw [if_neg (by assumption)] | rw [if_pos (by omega)] | rw [if_neg (by omega)] | rw [if_pos (by constructor <;> assumption)] | rw [if_neg (by intro hh; exact absurd hh.1 (by assumption))] | rw [if_neg (by intro hh; exact absurd hh.2 (by assumption))])); (try rfl))))
theorem ev_Fb_teach {E : fg_E} {d : Nat} {μ : Nat → Nat → Int32} {R : fg_T4} {Q : Option Value → fg_M → Prop} {A : fg_Tl} (hA : fg_TL μ 101 A) {town day n person other : Nat} (htown : town < 2 ^ 32) (hday : day < 2 ^ 32) (hn : n < 2 ^ 32) (hperson : person < 2 ^ 32) (hother : other < 2 ^ 32) (hQ : ∀ (μ' : Nat → Nat → Int32) (R' : fg_T4), fg_agQ μ μ' → Q (some (.int (an_teach A town day n person other))) (μ', fg_rho R', 304)) : fg_Ev E yy_Fb_teach (d + 12) [.ref 100, .int (nI town), .int (nI day), .int (nI n), .int (nI person), .int (nI other)] (μ, fg_rho R, 304) 304 Q := by
  have ht2 := hA.2.2.2.1.2
  have hd3 := hA.2.2.2.2.1.2
  refine fg_intro (by decide +kernel) (Nat.le_of_ble_eq_true rfl) (fg_okAs rfl) (Nat.le_refl _) ?_
  refine fg_aloadn (fg_ft (pc := 0) tb_Fb_teach 0 rfl) rfl ?_
  refine fg_iloadn (fg_ft (pc := 1) tb_Fb_teach 1 rfl) rfl ?_
  refine fg_iloadn (fg_ft (pc := 2) tb_Fb_teach 2 rfl) rfl ?_
  refine fg_iloadn (fg_ft (pc := 3) tb_Fb_teach 3 rfl) rfl ?_
  refine fg_iload (fg_ft (pc := 4) tb_Fb_teach 4 rfl) rfl ?_
  refine fg_callV (fg_ft (pc := 6) tb_Fb_teach 5 rfl) cf_Fb_221 (fg_isOf ly_100 rfl (fg_lt ly_100 (by decide))) (as := [.int (nI town), .int (nI day), .int (nI n), .int (nI person)]) (st := []) rfl rfl (Nat.le_of_ble_eq_true rfl) (Nat.le_refl _) (Nat.le_refl _) (ev_Fb_findOne hA htown hday hn hperson (fun n4 μ1 R1 ho1 hR1 => ?_) (fun S lv y4 y5 μ1 ho1 hF1 => ?_))
  · refine fg_astoreN (fg_ft (pc := 9) tb_Fb_teach 6 rfl) (Nat.le_of_ble_eq_true rfl) ?_
    refine fg_aloadN (fg_ft (pc := 11) tb_Fb_teach 7 rfl) rfl ?_
    refine fg_ifnull (tgt := 36) (fg_ft (pc := 13) tb_Fb_teach 8 rfl) (by decide) ?_
    refine fg_iconst (fg_ft (pc := 36) tb_Fb_teach 17 rfl) ic_m1 ?_
    exact fg_iret (fg_ft (pc := 37) tb_Fb_teach 18 rfl) rfl rfl (fg_q (hQ _ R1 (fg_agQ_F (Or.inl rfl) ho1)) (by unfold an_teach; rw [fg_g1_none n4] <;> ((repeat (first | rw [if_pos (by assumption)] | rw [if_neg (by assumption)] | rw [if_pos (by omega)] | rw [if_neg (by omega)] | rw [if_pos (by constructor <;> assumption)] | rw [if_neg (by intro hh; exact absurd hh.1 (by assumption))] | rw [if_neg (by intro hh; exact absurd hh.2 (by assumption))])); (try rfl))))
  · have ytc := fg_fnd_t y4
    have hok := (hA.2.2.2.2.2.1 town ytc).2
    have ht : fg_isT (104 + 14 * town) := fg_isT_told (by omega)
    have hT1 := fg_TL.town hA (Or.inl rfl) ytc ho1
    have hz := fg_fnd_ok hA y4
    have hb0 := hok.1
    have hb1 := hok.2.1
    have hp := hok.p
    have hm2 := hz.2.1 person y5
    have hm0 : S.2.1.1 person < 2 ^ A.ts town 0 := hm2.1
    have hmc : fg_clsd (A.ts town) (S.2.1.1 person) := hm2.2
    have hm10 : S.2.1.1 person < 1024 := by omega
    refine fg_astore (fg_ft (pc := 9) tb_Fb_teach 6 rfl) (Nat.le_of_ble_eq_true rfl) ?_
    refine fg_aload (fg_ft (pc := 11) tb_Fb_teach 7 rfl) rfl ?_
    refine fg_ifnull_r (fg_ft (pc := 13) tb_Fb_teach 8 rfl) ?_
    refine fg_aload (fg_ft (pc := 16) tb_Fb_teach 9 rfl) rfl ?_
    refine fg_getR (fg_ft (pc := 18) tb_Fb_teach 10 rfl) ff_Fb_194 ly_273 rfl (fg_lt ly_273 (by decide)) rfl ?_
    refine fg_iload (fg_ft (pc := 21) tb_Fb_teach 11 rfl) rfl ?_
    refine fg_callV (fg_ft (pc := 23) tb_Fb_teach 12 rfl) cf_Fb_178 (fg_isOf (tT_lay ht) rfl (fg_lt (tT_lay ht) (by decide))) (as := [.int (nI other)]) (st := []) rfl rfl (Nat.le_of_ble_eq_true rfl) (Nat.le_refl _) (Nat.le_refl _) (ev_Town_hasPersonX ht hT1 hok (k := other) hother ?_)
    refine fg_ifB_eq (tgt := 36) (fg_ft (pc := 26) tb_Fb_teach 13 rfl) (by decide) (fun c26 => ?_) (fun c26 => ?_)
    · refine fg_iconst (fg_ft (pc := 36) tb_Fb_teach 17 rfl) ic_m1 ?_
      exact fg_iret (fg_ft (pc := 37) tb_Fb_teach 18 rfl) rfl rfl (fg_q (hQ _ (some (104 + 14 * town), R.2.1, R.2.2.1, R.2.2.2) (fg_agQ_F (Or.inl rfl) ho1)) (by unfold an_teach; rw [fg_g1_some y4 y5] <;> ((repeat (first | rw [if_pos (by assumption)] | rw [if_neg (by assumption)] | rw [if_pos (by omega)] | rw [if_neg (by omega)] | rw [if_pos (by constructor <;> assumption)] | rw [if_neg (by intro hh; exact absurd hh.1 (by assumption))] | rw [if_neg (by intro hh; exact absurd hh.2 (by assumption))])); (try rfl))))
    · refine fg_iload (fg_ft (pc := 29) tb_Fb_teach 14 rfl) rfl ?_
      refine fg_iload (fg_ft (pc := 31) tb_Fb_teach 15 rfl) rfl ?_
      refine fg_icmp_neW (tgt := 38) (fg_ft (pc := 33) tb_Fb_teach 16 rfl) (by decide) (hperson) (hother) (fun c33 => ?_) (fun c33 => ?_)
      · have ho0 : S.2.1.1 other < 2 ^ A.ts town 0 := (hz.2.1 other c26).1
        refine fg_aload (fg_ft (pc := 38) tb_Fb_teach 19 rfl) rfl ?_
        refine fg_iload (fg_ft (pc := 40) tb_Fb_teach 20 rfl) rfl ?_
        refine fg_callV (fg_ft (pc := 42) tb_Fb_teach 21 rfl) cf_Fb_181 (fg_isOf ly_273 rfl (fg_lt ly_273 (by decide))) (as := [.int (nI person)]) (st := []) rfl rfl (Nat.le_of_ble_eq_true rfl) (Nat.le_refl _) (Nat.le_refl _) (ev_Folk_mind ht hT1 hok (Or.inl rfl) rfl hF1 hz (p := person) (by omega) ?_)
        refine fg_istore (fg_ft (pc := 45) tb_Fb_teach 22 rfl) (Nat.le_of_ble_eq_true rfl) ?_
        refine fg_aload (fg_ft (pc := 47) tb_Fb_teach 23 rfl) rfl ?_
        refine fg_getR (fg_ft (pc := 49) tb_Fb_teach 24 rfl) ff_Fb_194 ly_273 rfl (fg_lt ly_273 (by decide)) rfl ?_
        refine fg_iload (fg_ft (pc := 52) tb_Fb_teach 25 rfl) rfl ?_
        refine fg_aload (fg_ft (pc := 54) tb_Fb_teach 26 rfl) rfl ?_
        refine fg_iload (fg_ft (pc := 56) tb_Fb_teach 27 rfl) rfl ?_
        refine fg_callV (fg_ft (pc := 58) tb_Fb_teach 28 rfl) cf_Fb_181 (fg_isOf ly_273 rfl (fg_lt ly_273 (by decide))) (as := [.int (nI other)]) (st := [.int (nI (S.2.1.1 person)), .ref (104 + 14 * town)]) rfl rfl (Nat.le_of_ble_eq_true rfl) (Nat.le_refl _) (Nat.le_refl _) (ev_Folk_mind ht hT1 hok (Or.inl rfl) rfl hF1 hz (p := other) (by omega) ?_)
        refine fg_iload (fg_ft (pc := 61) tb_Fb_teach 29 rfl) rfl ?_
        refine fg_iconst (fg_ft (pc := 63) tb_Fb_teach 30 rfl) ic_0 ?_
        refine fg_callV (fg_ft (pc := 64) tb_Fb_teach 31 rfl) cf_Fb_311 (fg_isOf (tT_lay ht) rfl (fg_lt (tT_lay ht) (by decide))) (as := [.int (nI (S.2.1.1 person)), .int (nI (S.2.1.1 other)), .int (nI (S.2.1.1 person)), .int (nI 0)]) (st := []) rfl rfl (Nat.le_of_ble_eq_true rfl) (Nat.le_refl _) (Nat.le_refl _) (ev_Town_fewest ht hT1 hok (pool := (S.2.1.1 person)) (mind := (S.2.1.1 other)) (need := (S.2.1.1 person)) (nt := 0) (by assumption) (by assumption) (by omega) (by decide) ?_)
        exact fg_iret (fg_ft (pc := 67) tb_Fb_teach 32 rfl) rfl rfl (fg_q (hQ _ (some (104 + 14 * town), R.2.1, R.2.2.1, R.2.2.2) (fg_agQ_F (Or.inl rfl) ho1)) (by unfold an_teach; rw [fg_g1_some y4 y5] <;> ((repeat (first | rw [if_pos (by assumption)] | rw [if_neg (by assumption)] | rw [if_pos (by omega)] | rw [if_neg (by omega)] | rw [if_pos (by constructor <;> assumption)] | rw [if_neg (by intro hh; exact absurd hh.1 (by assumption))] | rw [if_neg (by intro hh; exact absurd hh.2 (by assumption))])); (try rfl))))
      · refine fg_iconst (fg_ft (pc := 36) tb_Fb_teach 17 rfl) ic_m1 ?_
        exact fg_iret (fg_ft (pc := 37) tb_Fb_teach 18 rfl) rfl rfl (fg_q (hQ _ (some (104 + 14 * town), R.2.1, R.2.2.1, R.2.2.2) (fg_agQ_F (Or.inl rfl) ho1)) (by unfold an_teach; rw [fg_g1_some y4 y5] <;> ((repeat (first | rw [if_pos (by assumption)] | rw [if_neg (by assumption)] | rw [if_pos (by omega)] | rw [if_neg (by omega)] | rw [if_pos (by constructor <;> assumption)] | rw [if_neg (by intro hh; exact absurd hh.1 (by assumption))] | rw [if_neg (by intro hh; exact absurd hh.2 (by assumption))])); (try rfl))))
theorem ev_Fb_roots {E : fg_E} {d : Nat} {μ : Nat → Nat → Int32} {R : fg_T4} {Q : Option Value → fg_M → Prop} {A : fg_Tl} (hA : fg_TL μ 101 A) {town day n person what : Nat} (htown : town < 2 ^ 32) (hday : day < 2 ^ 32) (hn : n < 2 ^ 32) (hperson : person < 2 ^ 32) (hwhat : what < 2 ^ 32) (hQ : ∀ (μ' : Nat → Nat → Int32) (R' : fg_T4), fg_agQ μ μ' → Q (some (.int (an_roots A town day n person what))) (μ', fg_rho R', 304)) : fg_Ev E yy_Fb_roots (d + 12) [.ref 100, .int (nI town), .int (nI day), .int (nI n), .int (nI person), .int (nI what)] (μ, fg_rho R, 304) 304 Q := by
  have ht2 := hA.2.2.2.1.2
  have hd3 := hA.2.2.2.2.1.2
  refine fg_intro (by decide +kernel) (Nat.le_of_ble_eq_true rfl) (fg_okAs rfl) (Nat.le_refl _) ?_
  refine fg_aloadn (fg_ft (pc := 0) tb_Fb_roots 0 rfl) rfl ?_
  refine fg_iloadn (fg_ft (pc := 1) tb_Fb_roots 1 rfl) rfl ?_
  refine fg_iloadn (fg_ft (pc := 2) tb_Fb_roots 2 rfl) rfl ?_
  refine fg_iloadn (fg_ft (pc := 3) tb_Fb_roots 3 rfl) rfl ?_
  refine fg_iload (fg_ft (pc := 4) tb_Fb_roots 4 rfl) rfl ?_
  refine fg_callV (fg_ft (pc := 6) tb_Fb_roots 5 rfl) cf_Fb_221 (fg_isOf ly_100 rfl (fg_lt ly_100 (by decide))) (as := [.int (nI town), .int (nI day), .int (nI n), .int (nI person)]) (st := []) rfl rfl (Nat.le_of_ble_eq_true rfl) (Nat.le_refl _) (Nat.le_refl _) (ev_Fb_findOne hA htown hday hn hperson (fun n4 μ1 R1 ho1 hR1 => ?_) (fun S lv y4 y5 μ1 ho1 hF1 => ?_))
  · refine fg_astoreN (fg_ft (pc := 9) tb_Fb_roots 6 rfl) (Nat.le_of_ble_eq_true rfl) ?_
    refine fg_aloadN (fg_ft (pc := 11) tb_Fb_roots 7 rfl) rfl ?_
    refine fg_ifnonnull_n (fg_ft (pc := 13) tb_Fb_roots 8 rfl) ?_
    refine fg_bipush (fg_ft (pc := 16) tb_Fb_roots 9 rfl) ib_m2 ?_
    exact fg_iret (fg_ft (pc := 18) tb_Fb_roots 10 rfl) rfl rfl (fg_q (hQ _ R1 (fg_agQ_F (Or.inl rfl) ho1)) (by unfold an_roots; rw [fg_g1_none n4] <;> ((repeat (first | rw [if_pos (by assumption)] | rw [if_neg (by assumption)] | rw [if_pos (by omega)] | rw [if_neg (by omega)] | rw [if_pos (by constructor <;> assumption)] | rw [if_neg (by intro hh; exact absurd hh.1 (by assumption))] | rw [if_neg (by intro hh; exact absurd hh.2 (by assumption))])); (try rfl))))
  · have ytc := fg_fnd_t y4
    have hok := (hA.2.2.2.2.2.1 town ytc).2
    have ht : fg_isT (104 + 14 * town) := fg_isT_told (by omega)
    have hT1 := fg_TL.town hA (Or.inl rfl) ytc ho1
    have hz := fg_fnd_ok hA y4
    have hb0 := hok.1
    have hb1 := hok.2.1
    have hp := hok.p
    have hm2 := hz.2.1 person y5
    have hm0 : S.2.1.1 person < 2 ^ A.ts town 0 := hm2.1
    have hmc : fg_clsd (A.ts town) (S.2.1.1 person) := hm2.2
    have hm10 : S.2.1.1 person < 1024 := by omega
    refine fg_astore (fg_ft (pc := 9) tb_Fb_roots 6 rfl) (Nat.le_of_ble_eq_true rfl) ?_
    refine fg_aload (fg_ft (pc := 11) tb_Fb_roots 7 rfl) rfl ?_
    refine fg_ifnonnull (tgt := 19) (fg_ft (pc := 13) tb_Fb_roots 8 rfl) (by decide) ?_
    refine fg_aload (fg_ft (pc := 19) tb_Fb_roots 11 rfl) rfl ?_
    refine fg_iload (fg_ft (pc := 21) tb_Fb_roots 12 rfl) rfl ?_
    refine fg_callV (fg_ft (pc := 23) tb_Fb_roots 13 rfl) cf_Fb_181 (fg_isOf ly_273 rfl (fg_lt ly_273 (by decide))) (as := [.int (nI person)]) (st := []) rfl rfl (Nat.le_of_ble_eq_true rfl) (Nat.le_refl _) (Nat.le_refl _) (ev_Folk_mind ht hT1 hok (Or.inl rfl) rfl hF1 hz (p := person) (by omega) ?_)
    refine fg_istore (fg_ft (pc := 26) tb_Fb_roots 14 rfl) (Nat.le_of_ble_eq_true rfl) ?_
    refine fg_iload (fg_ft (pc := 28) tb_Fb_roots 15 rfl) rfl ?_
    by_cases e30_0 : what = 0
    · refine fg_swN (tgt := 56) (fg_ft (pc := 30) tb_Fb_roots 16 rfl) e30_0 (by decide) (by decide) (by decide) rfl (by decide) ?_
      refine fg_aload (fg_ft (pc := 56) tb_Fb_roots 17 rfl) rfl ?_
      refine fg_getR (fg_ft (pc := 58) tb_Fb_roots 18 rfl) ff_Fb_194 ly_273 rfl (fg_lt ly_273 (by decide)) rfl ?_
      refine fg_iload (fg_ft (pc := 61) tb_Fb_roots 19 rfl) rfl ?_
      refine fg_iconst (fg_ft (pc := 63) tb_Fb_roots 20 rfl) ic_0 ?_
      refine fg_iload (fg_ft (pc := 64) tb_Fb_roots 21 rfl) rfl ?_
      refine fg_iconst (fg_ft (pc := 66) tb_Fb_roots 22 rfl) ic_0 ?_
      refine fg_callV (fg_ft (pc := 67) tb_Fb_roots 23 rfl) cf_Fb_311 (fg_isOf (tT_lay ht) rfl (fg_lt (tT_lay ht) (by decide))) (as := [.int (nI (S.2.1.1 person)), .int (nI 0), .int (nI (S.2.1.1 person)), .int (nI 0)]) (st := []) rfl rfl (Nat.le_of_ble_eq_true rfl) (Nat.le_refl _) (Nat.le_refl _) (ev_Town_fewest ht hT1 hok (pool := (S.2.1.1 person)) (mind := 0) (need := (S.2.1.1 person)) (nt := 0) (by assumption) (Nat.two_pow_pos _) (by omega) (by decide) ?_)
      exact fg_iret (fg_ft (pc := 70) tb_Fb_roots 24 rfl) rfl rfl (fg_q (hQ _ (some (104 + 14 * town), R.2.1, R.2.2.1, R.2.2.2) (fg_agQ_F (Or.inl rfl) ho1)) (by unfold an_roots; rw [fg_g1_some y4 y5] <;> ((repeat (first | rw [if_pos (by assumption)] | rw [if_neg (by assumption)] | rw [if_pos (by omega)] | rw [if_neg (by omega)] | rw [if_pos (by constructor <;> assumption)] | rw [if_neg (by intro hh; exact absurd hh.1 (by assumption))] | rw [if_neg (by intro hh; exact absurd hh.2 (by assumption))])); (try rfl))))
    by_cases e30_1 : what = 1
    · refine fg_swN (tgt := 71) (fg_ft (pc := 30) tb_Fb_roots 16 rfl) e30_1 (by decide) (by decide) (by decide) rfl (by decide) ?_
      refine fg_aload (fg_ft (pc := 71) tb_Fb_roots 25 rfl) rfl ?_
      refine fg_getR (fg_ft (pc := 73) tb_Fb_roots 26 rfl) ff_Fb_194 ly_273 rfl (fg_lt ly_273 (by decide)) rfl ?_
      refine fg_iload (fg_ft (pc := 76) tb_Fb_roots 27 rfl) rfl ?_
      refine fg_callV (fg_ft (pc := 78) tb_Fb_roots 28 rfl) cf_Fb_321 (fg_isOf (tT_lay ht) rfl (fg_lt (tT_lay ht) (by decide))) (as := [.int (nI (S.2.1.1 person))]) (st := []) rfl rfl (Nat.le_of_ble_eq_true rfl) (Nat.le_refl _) (Nat.le_refl _) (ev_Town_fresh ht hT1 hok (m := (S.2.1.1 person)) (by assumption) ?_)
      exact fg_iret (fg_ft (pc := 81) tb_Fb_roots 29 rfl) rfl rfl (fg_q (hQ _ (some (104 + 14 * town), R.2.1, R.2.2.1, R.2.2.2) (fg_agQ_F (Or.inl rfl) ho1)) (by unfold an_roots; rw [fg_g1_some y4 y5] <;> ((repeat (first | rw [if_pos (by assumption)] | rw [if_neg (by assumption)] | rw [if_pos (by omega)] | rw [if_neg (by omega)] | rw [if_pos (by constructor <;> assumption)] | rw [if_neg (by intro hh; exact absurd hh.1 (by assumption))] | rw [if_neg (by intro hh; exact absurd hh.2 (by assumption))])); (try rfl))))
    by_cases e30_2 : what = 2
    · refine fg_swN (tgt := 82) (fg_ft (pc := 30) tb_Fb_roots 16 rfl) e30_2 (by decide) (by decide) (by decide) rfl (by decide) ?_
      refine fg_aload (fg_ft (pc := 82) tb_Fb_roots 30 rfl) rfl ?_
      refine fg_getR (fg_ft (pc := 84) tb_Fb_roots 31 rfl) ff_Fb_194 ly_273 rfl (fg_lt ly_273 (by decide)) rfl ?_
      refine fg_iload (fg_ft (pc := 87) tb_Fb_roots 32 rfl) rfl ?_
      refine fg_callV (fg_ft (pc := 89) tb_Fb_roots 33 rfl) cf_Fb_324 (fg_isOf (tT_lay ht) rfl (fg_lt (tT_lay ht) (by decide))) (as := [.int (nI (S.2.1.1 person))]) (st := []) rfl rfl (Nat.le_of_ble_eq_true rfl) (Nat.le_refl _) (Nat.le_refl _) (ev_Town_doom ht hT1 hok (m := (S.2.1.1 person)) (by assumption) ?_)
      exact fg_iret (fg_ft (pc := 92) tb_Fb_roots 34 rfl) rfl rfl (fg_q (hQ _ (some (104 + 14 * town), R.2.1, R.2.2.1, R.2.2.2) (fg_agQ_F (Or.inl rfl) ho1)) (by unfold an_roots; rw [fg_g1_some y4 y5] <;> ((repeat (first | rw [if_pos (by assumption)] | rw [if_neg (by assumption)] | rw [if_pos (by omega)] | rw [if_neg (by omega)] | rw [if_pos (by constructor <;> assumption)] | rw [if_neg (by intro hh; exact absurd hh.1 (by assumption))] | rw [if_neg (by intro hh; exact absurd hh.2 (by assumption))])); (try rfl))))
    refine fg_swO (tgt := 93) (fg_ft (pc := 30) tb_Fb_roots 16 rfl) (hwhat) (by decide) (by decide) (fun i h1 h2 he => by omega) (by decide) ?_
    refine fg_bipush (fg_ft (pc := 93) tb_Fb_roots 35 rfl) ib_m2 ?_
    exact fg_iret (fg_ft (pc := 95) tb_Fb_roots 36 rfl) rfl rfl (fg_q (hQ _ (some (104 + 14 * town), R.2.1, R.2.2.1, R.2.2.2) (fg_agQ_F (Or.inl rfl) ho1)) (by unfold an_roots; rw [fg_g1_some y4 y5] <;> ((repeat (first | rw [if_pos (by assumption)] | rw [if_neg (by assumption)] | rw [if_pos (by omega)] | rw [if_neg (by omega)] | rw [if_pos (by constructor <;> assumption)] | rw [if_neg (by intro hh; exact absurd hh.1 (by assumption))] | rw [if_neg (by intro hh; exact absurd hh.2 (by assumption))])); (try rfl))))
