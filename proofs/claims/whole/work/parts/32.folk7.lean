/-- one, all people, hours of a seeded day -/
abbrev fg_SD : Type := Int32 × fg_H3 × (Nat → Nat)
noncomputable def fg_sd1 (T : Nat → Nat) (n : Nat) (s : fg_SD) : fg_SD :=
  if fg_bl (fg_dr s.1) 100 < T (40 + 3 * n) ∧ s.2.1.2.1.1 n ≠ 0 then
    (fg_dr (fg_dr s.1), (s.2.1.1, (fg_up1 s.2.1.2.1.1 n (fg_fgt T (s.2.1.2.1.1 n) ((fg_fa (s.2.1.2.1.1 n) 10 0 (fg_bl (fg_dr (fg_dr s.1)) (fg_pc (s.2.1.2.1.1 n)))).getD 0) 1), s.2.1.2.1.2), s.2.1.2.2), fg_up1 s.2.2 n (s.2.2 n + 1))
  else (fg_dr s.1, s.2)
noncomputable def fg_sdp (T : Nat → Nat) : Nat → fg_SD → fg_SD
  | 0, s => s
  | n + 1, s => fg_sd1 T n (fg_sdp T n s)
noncomputable def fg_sdh (T : Nat → Nat) (o : Option Nat × Nat × Nat) : Nat → fg_SD → fg_SD
  | 0, s => s
  | n + 1, s => ((fg_sdp T (T 2) (fg_sdh T o n s)).1, fg_ph T o (fg_sdp T (T 2) (fg_sdh T o n s)).2.1, (fg_sdp T (T 2) (fg_sdh T o n s)).2.2)
theorem fg_sd1_ok {T : Nat → Nat} (hok : fg_ok T) {n : Nat} {s : fg_SD} (H : fg_zok T s.2.1.1 s.2.1.2.1 s.2.1.2.2) : fg_zok T (fg_sd1 T n s).2.1.1 (fg_sd1 T n s).2.1.2.1 (fg_sd1 T n s).2.1.2.2 := by
  unfold fg_sd1
  split
  · exact fg_zok.eat hok H
  · exact H
theorem fg_sdp_ok {T : Nat → Nat} (hok : fg_ok T) {s : fg_SD} (H : fg_zok T s.2.1.1 s.2.1.2.1 s.2.1.2.2) : ∀ n, fg_zok T (fg_sdp T n s).2.1.1 (fg_sdp T n s).2.1.2.1 (fg_sdp T n s).2.1.2.2 := by
  intro n
  induction n with
  | zero => exact H
  | succ n ih => exact fg_sd1_ok hok ih
theorem fg_sd1_h {T : Nat → Nat} {n : Nat} {s : fg_SD} : (fg_sd1 T n s).2.1.1 = s.2.1.1 := by
  unfold fg_sd1
  split <;> rfl
theorem fg_sdp_h {T : Nat → Nat} {s : fg_SD} : ∀ n, (fg_sdp T n s).2.1.1 = s.2.1.1 := by
  intro n
  induction n with
  | zero => rfl
  | succ n ih => exact fg_sd1_h.trans ih
theorem fg_sdh_ok {T : Nat → Nat} (hok : fg_ok T) {o : Option Nat × Nat × Nat} {s : fg_SD} (H : fg_zok T s.2.1.1 s.2.1.2.1 s.2.1.2.2) : ∀ n, fg_zok T (fg_sdh T o n s).2.1.1 (fg_sdh T o n s).2.1.2.1 (fg_sdh T o n s).2.1.2.2 := by
  intro n
  induction n with
  | zero => exact H
  | succ n ih => exact fg_zok.ph hok (fg_sdp_ok hok ih (T 2))
theorem fg_pc0 {m : Nat} (hm : m < 1024) (h : fg_pc m = 0) : m = 0 := by
  refine Classical.byContradiction fun hn => ?_
  obtain ⟨i, hi⟩ := fg_bit_ex hn
  have := fg_pc_bit (s := m) (f := i) (by omega) hi
  omega
theorem ev_Folk_passSeeded {E : fg_E} {d : Nat} {μ : Nat → Nat → Int32} {R : fg_T4} {Q : Option Value → fg_M → Prop} {t : Nat} {T : Nat → Nat} (ht : fg_isT t) (hT : fg_TW μ t T) (hok : fg_ok T) {f h : Nat} {Z : fg_Z} {hv lv : Nat → Nat} {o : Option Nat × Nat × Nat} (hf : fg_isF f) (hft : fg_rho R f 0 = some t) (hF : fg_FZ μ f T h Z hv lv o) (hz : fg_zok T h Z hv) {x0 : Int32} (hsh : o.2.2 < 2 ^ 31) (hQ : ∀ μ' : Nat → Nat → Int32, fg_agF f μ μ' → fg_FZ μ' f T (fg_sdh T o (9 - h) (x0, (h, Z, hv), lv)).2.1.1 (fg_sdh T o (9 - h) (x0, (h, Z, hv), lv)).2.1.2.1 (fg_sdh T o (9 - h) (x0, (h, Z, hv), lv)).2.1.2.2 (fg_sdh T o (9 - h) (x0, (h, Z, hv), lv)).2.2 o → Q none (μ', fg_rho R, 304)) : fg_Ev E yy_Folk_passSeeded (d + 6) [.ref f, .int x0] (μ, fg_rho R, 304) 304 Q := by
  have hb0 := hok.1
  have hb1 := hok.2.1
  have hp := hok.p
  have hq := Nat.two_pow_pos (T 0)
  have hfb := fF_b hf
  have hz9 := hz.1
  have inner : ∀ (left : Nat) (s : fg_SD), fg_zok T s.2.1.1 s.2.1.2.1 s.2.1.2.2 → (∀ (ν' : Nat → Nat → Int32) (x : Int32) (v5 v6 : Value), fg_agF f μ ν' → x = (fg_sdp T (T 2) s).1 → fg_FZ ν' f T (fg_sdp T (T 2) s).2.1.1 (fg_sdp T (T 2) s).2.1.2.1 (fg_sdp T (T 2) s).2.1.2.2 (fg_sdp T (T 2) s).2.2 o → fg_wp E yy_Folk_passSeeded (d + 6) 304 304 Q 119 [.ref f, .int x0, .int x, .int (nI left), .int (nI (T 2)), v5, v6] [] (ν', fg_rho R, 304)) → ∀ (m n : Nat) (ν : Nat → Nat → Int32) (x : Int32), T 2 - n < m → n ≤ T 2 → fg_agF f μ ν → x = (fg_sdp T n s).1 → fg_FZ ν f T (fg_sdp T n s).2.1.1 (fg_sdp T n s).2.1.2.1 (fg_sdp T n s).2.1.2.2 (fg_sdp T n s).2.2 o → ∀ v5 v6 : Value, fg_wp E yy_Folk_passSeeded (d + 6) 304 304 Q 17 [.ref f, .int x0, .int x, .int (nI left), .int (nI n), v5, v6] [] (ν, fg_rho R, 304) := by
    intro left s hz0 hcont m
    induction m with
    | zero => intro n ν x h; exact absurd h (Nat.not_lt_zero _)
    | succ m ih =>
      intro n ν x hm hn hag hx hN v5 v6
      have hTn := fg_TWp.agF ht hf hT hag
      have hzn := fg_sdp_ok hok hz0 n
      refine fg_iload (fg_ft (pc := 17) tb_Folk_passSeeded 11 rfl) rfl ?_
      refine fg_aloadn (fg_ft (pc := 19) tb_Folk_passSeeded 12 rfl) rfl ?_
      refine fg_getV (v := (nI (T 2))) (fg_ft (pc := 20) tb_Folk_passSeeded 13 rfl) ff_Folk_46 (fF_lay hf) rfl (fg_lt (fF_lay hf) (by decide)) hN.1 ?_
      refine fg_icmp_geN (tgt := 119) (fg_ft (pc := 23) tb_Folk_passSeeded 14 rfl) (by decide) (by omega) (by omega) (fun c23 => ?_) (fun c23 => ?_)
      · rw [show n = T 2 by omega] at hx hN
        rw [show n = T 2 by omega]
        exact hcont ν x _ _ hag hx hN
      · have hmn := (hzn.2.1 n (by omega)).1
        refine fg_iloadn (fg_ft (pc := 26) tb_Folk_passSeeded 15 rfl) rfl ?_
        refine fg_callS (fg_ft (pc := 27) tb_Folk_passSeeded 16 rfl) cf_Folk_164 (as := [.int x]) (st := []) rfl rfl (Nat.le_of_ble_eq_true rfl) (Nat.le_refl _) (Nat.le_refl _) (ev_Folk_draw (x := x) ?_)
        refine fg_istoren (fg_ft (pc := 30) tb_Folk_passSeeded 17 rfl) (Nat.le_of_ble_eq_true rfl) ?_
        refine fg_iloadn (fg_ft (pc := 31) tb_Folk_passSeeded 18 rfl) rfl ?_
        refine fg_bipush (fg_ft (pc := 32) tb_Folk_passSeeded 19 rfl) ib_100 ?_
        refine fg_callS (fg_ft (pc := 34) tb_Folk_passSeeded 20 rfl) cf_Folk_167 (as := [.int (fg_dr x), .int (nI 100)]) (st := []) rfl rfl (Nat.le_of_ble_eq_true rfl) (Nat.le_refl _) (Nat.le_refl _) (ev_Folk_below (x := (fg_dr x)) (n := 100) (by decide) ?_)
        refine fg_aloadn (fg_ft (pc := 37) tb_Folk_passSeeded 21 rfl) rfl ?_
        refine fg_getR (fg_ft (pc := 38) tb_Folk_passSeeded 22 rfl) ff_Folk_9 (fF_lay hf) rfl (fg_lt (fF_lay hf) (by decide)) hft ?_
        refine fg_getR (fg_ft (pc := 41) tb_Folk_passSeeded 23 rfl) ff_Folk_29 (tT_lay ht) rfl (fg_lt (tT_lay ht) (by decide)) (tT_r3 ht) ?_
        refine fg_iload (fg_ft (pc := 44) tb_Folk_passSeeded 24 rfl) rfl ?_
        refine fg_iconst (fg_ft (pc := 46) tb_Folk_passSeeded 25 rfl) ic_0 ?_
        refine fg_callV (fg_ft (pc := 47) tb_Folk_passSeeded 26 rfl) cf_Folk_84 (fg_isOf ((tT_w3 (R := R) ht).1) rfl (fg_lt ((tT_w3 (R := R) ht).1) (by decide))) (as := [.int (nI n), .int (nI 0)]) (st := [.int (nI (fg_bl (fg_dr x) 100))]) rfl rfl (Nat.le_of_ble_eq_true rfl) (Nat.le_refl _) (Nat.le_refl _) (ev_Rows_cell (tT_w3 (R := R) ht) hTn.2.2.1.1 hTn.2.2.1.2.1 (by have := hok.2.1; omega) (by decide) (by have := hok.2.1; omega) (i := n) (j := 0) (by omega) (by decide) (hTn.person0 (by omega)) ?_)
        refine fg_icmp_geN (tgt := 57) (fg_ft (pc := 50) tb_Folk_passSeeded 27 rfl) (by decide) (fg_bl_lt) (by have h3 := (hok.2.2.2.1 n (by omega)).1; omega) (fun c50 => ?_) (fun c50 => ?_)
        · refine fg_iconst (fg_ft (pc := 57) tb_Folk_passSeeded 30 rfl) ic_0 ?_
          refine fg_istore (fg_ft (pc := 58) tb_Folk_passSeeded 31 rfl) (Nat.le_of_ble_eq_true rfl) ?_
          refine fg_iload (fg_ft (pc := 60) tb_Folk_passSeeded 32 rfl) rfl ?_
          refine fg_if_eq (tgt := 113) (fg_ft (pc := 62) tb_Folk_passSeeded 33 rfl) (by decide) (fun _ => ?_) (fun h => absurd h (by decide))
          refine fg_iincN (fg_ft (pc := 113) tb_Folk_passSeeded 58 rfl) rfl ic_1 rfl ?_
          refine fg_goto (tgt := 17) (fg_ft (pc := 116) tb_Folk_passSeeded 59 rfl) (by decide) ?_
          exact ih (n + 1) ν _ (by omega) (by omega) hag (by show _ = (fg_sd1 T n (fg_sdp T n s)).1; rw [show fg_sd1 T n (fg_sdp T n s) = _ from if_neg (fun hh => by rw [← hx] at hh; first | exact absurd hh.1 (by omega) | exact hh.2 c71)]; rw [← hx]) (by show fg_FZ ν f T (fg_sd1 T n (fg_sdp T n s)).2.1.1 (fg_sd1 T n (fg_sdp T n s)).2.1.2.1 (fg_sd1 T n (fg_sdp T n s)).2.1.2.2 (fg_sd1 T n (fg_sdp T n s)).2.2 o; rw [show fg_sd1 T n (fg_sdp T n s) = _ from if_neg (fun hh => by rw [← hx] at hh; first | exact absurd hh.1 (by omega) | exact hh.2 c71)]; exact hN) _ _
        · refine fg_iconst (fg_ft (pc := 53) tb_Folk_passSeeded 28 rfl) ic_1 ?_
          refine fg_goto (tgt := 58) (fg_ft (pc := 54) tb_Folk_passSeeded 29 rfl) (by decide) ?_
          refine fg_istore (fg_ft (pc := 58) tb_Folk_passSeeded 31 rfl) (Nat.le_of_ble_eq_true rfl) ?_
          refine fg_iload (fg_ft (pc := 60) tb_Folk_passSeeded 32 rfl) rfl ?_
          refine fg_if_eq (tgt := 113) (fg_ft (pc := 62) tb_Folk_passSeeded 33 rfl) (by decide) (fun h => absurd h (by decide)) (fun _ => ?_)
          refine fg_aloadn (fg_ft (pc := 65) tb_Folk_passSeeded 34 rfl) rfl ?_
          refine fg_iload (fg_ft (pc := 66) tb_Folk_passSeeded 35 rfl) rfl ?_
          refine fg_callV (fg_ft (pc := 68) tb_Folk_passSeeded 36 rfl) cf_Folk_101 (fg_isOf (fF_lay hf) rfl (fg_lt (fF_lay hf) (by decide))) (as := [.int (nI n)]) (st := []) rfl rfl (Nat.le_of_ble_eq_true rfl) (Nat.le_refl _) (Nat.le_refl _) (ev_Folk_mind ht hTn hok hf hft hN hzn (p := n) (by omega) ?_)
          refine fg_if_eqN (tgt := 113) (fg_ft (pc := 71) tb_Folk_passSeeded 37 rfl) (by decide) (by omega) (fun c71 => ?_) (fun c71 => ?_)
          · refine fg_iincN (fg_ft (pc := 113) tb_Folk_passSeeded 58 rfl) rfl ic_1 rfl ?_
            refine fg_goto (tgt := 17) (fg_ft (pc := 116) tb_Folk_passSeeded 59 rfl) (by decide) ?_
            exact ih (n + 1) ν _ (by omega) (by omega) hag (by show _ = (fg_sd1 T n (fg_sdp T n s)).1; rw [show fg_sd1 T n (fg_sdp T n s) = _ from if_neg (fun hh => by rw [← hx] at hh; first | exact absurd hh.1 (by omega) | exact hh.2 c71)]; rw [← hx]) (by show fg_FZ ν f T (fg_sd1 T n (fg_sdp T n s)).2.1.1 (fg_sd1 T n (fg_sdp T n s)).2.1.2.1 (fg_sd1 T n (fg_sdp T n s)).2.1.2.2 (fg_sd1 T n (fg_sdp T n s)).2.2 o; rw [show fg_sd1 T n (fg_sdp T n s) = _ from if_neg (fun hh => by rw [← hx] at hh; first | exact absurd hh.1 (by omega) | exact hh.2 c71)]; exact hN) _ _
          · obtain ⟨kk, hkk⟩ := fg_fa_some (m := ((fg_sdp T n s).2.1.2.1.1 n)) (at' := (fg_bl (fg_dr (fg_dr x)) (fg_pc ((fg_sdp T n s).2.1.2.1.1 n)))) (by omega) (by have hp0 : fg_pc ((fg_sdp T n s).2.1.2.1.1 n) ≠ 0 := fun h0 => c71 (fg_pc0 (by omega) h0); unfold fg_bl; rw [if_neg hp0]; exact Nat.mod_lt _ (by omega))
            have hkk10 := (fg_fa_lt _ _ _ _ hkk).1
            refine fg_iloadn (fg_ft (pc := 74) tb_Folk_passSeeded 38 rfl) rfl ?_
            refine fg_callS (fg_ft (pc := 75) tb_Folk_passSeeded 39 rfl) cf_Folk_164 (as := [.int (fg_dr x)]) (st := []) rfl rfl (Nat.le_of_ble_eq_true rfl) (Nat.le_refl _) (Nat.le_refl _) (ev_Folk_draw (x := (fg_dr x)) ?_)
            refine fg_istoren (fg_ft (pc := 78) tb_Folk_passSeeded 40 rfl) (Nat.le_of_ble_eq_true rfl) ?_
            refine fg_iloadn (fg_ft (pc := 79) tb_Folk_passSeeded 41 rfl) rfl ?_
            refine fg_aloadn (fg_ft (pc := 80) tb_Folk_passSeeded 42 rfl) rfl ?_
            refine fg_iload (fg_ft (pc := 81) tb_Folk_passSeeded 43 rfl) rfl ?_
            refine fg_callV (fg_ft (pc := 83) tb_Folk_passSeeded 44 rfl) cf_Folk_101 (fg_isOf (fF_lay hf) rfl (fg_lt (fF_lay hf) (by decide))) (as := [.int (nI n)]) (st := [.int (fg_dr (fg_dr x))]) rfl rfl (Nat.le_of_ble_eq_true rfl) (Nat.le_refl _) (Nat.le_refl _) (ev_Folk_mind ht hTn hok hf hft hN hzn (p := n) (by omega) ?_)
            refine fg_callS (fg_ft (pc := 86) tb_Folk_passSeeded 45 rfl) cf_Folk_170 (as := [.int (nI ((fg_sdp T n s).2.1.2.1.1 n))]) (st := [.int (fg_dr (fg_dr x))]) rfl rfl (Nat.le_of_ble_eq_true rfl) (Nat.le_refl _) (Nat.le_refl _) (ev_Int_bitCount (s := ((fg_sdp T n s).2.1.2.1.1 n)) (by omega) ?_)
            refine fg_callS (fg_ft (pc := 89) tb_Folk_passSeeded 46 rfl) cf_Folk_167 (as := [.int (fg_dr (fg_dr x)), .int (nI (fg_pc ((fg_sdp T n s).2.1.2.1.1 n)))]) (st := []) rfl rfl (Nat.le_of_ble_eq_true rfl) (Nat.le_refl _) (Nat.le_refl _) (ev_Folk_below (x := (fg_dr (fg_dr x))) (n := (fg_pc ((fg_sdp T n s).2.1.2.1.1 n))) (by have := fg_pc_le ((fg_sdp T n s).2.1.2.1.1 n); omega) ?_)
            refine fg_istore (fg_ft (pc := 92) tb_Folk_passSeeded 47 rfl) (Nat.le_of_ble_eq_true rfl) ?_
            refine fg_aloadn (fg_ft (pc := 94) tb_Folk_passSeeded 48 rfl) rfl ?_
            refine fg_iload (fg_ft (pc := 95) tb_Folk_passSeeded 49 rfl) rfl ?_
            refine fg_aloadn (fg_ft (pc := 97) tb_Folk_passSeeded 50 rfl) rfl ?_
            refine fg_iload (fg_ft (pc := 98) tb_Folk_passSeeded 51 rfl) rfl ?_
            refine fg_callV (fg_ft (pc := 100) tb_Folk_passSeeded 52 rfl) cf_Folk_101 (fg_isOf (fF_lay hf) rfl (fg_lt (fF_lay hf) (by decide))) (as := [.int (nI n)]) (st := [.int (nI n), .ref f]) rfl rfl (Nat.le_of_ble_eq_true rfl) (Nat.le_refl _) (Nat.le_refl _) (ev_Folk_mind ht hTn hok hf hft hN hzn (p := n) (by omega) ?_)
            refine fg_iload (fg_ft (pc := 103) tb_Folk_passSeeded 53 rfl) rfl ?_
            refine fg_callS (fg_ft (pc := 105) tb_Folk_passSeeded 54 rfl) cf_Folk_175 (as := [.int (nI ((fg_sdp T n s).2.1.2.1.1 n)), .int (nI (fg_bl (fg_dr (fg_dr x)) (fg_pc ((fg_sdp T n s).2.1.2.1.1 n))))]) (st := [.int (nI n), .ref f]) rfl rfl (Nat.le_of_ble_eq_true rfl) (Nat.le_refl _) (Nat.le_refl _) (ev_Folk_factAt (m := ((fg_sdp T n s).2.1.2.1.1 n)) (at' := (fg_bl (fg_dr (fg_dr x)) (fg_pc ((fg_sdp T n s).2.1.2.1.1 n)))) (r := kk) (by omega) fg_bl_lt hkk ?_)
            refine fg_iconst (fg_ft (pc := 108) tb_Folk_passSeeded 55 rfl) ic_1 ?_
            refine fg_callV (fg_ft (pc := 109) tb_Folk_passSeeded 56 rfl) cf_Folk_144 (fg_isOf (fF_lay hf) rfl (fg_lt (fF_lay hf) (by decide))) (as := [.int (nI n), .int (nI kk), .int (nI 1)]) (st := []) rfl rfl (Nat.le_of_ble_eq_true rfl) (Nat.le_refl _) (Nat.le_refl _) (ev_Folk_eat ht hTn hok hf hft hN hzn (p := n) (k := kk) (kd := 1) (by omega) (by omega) (by decide) ?_)
            intro ν2 ho2 hN2
            show fg_wp _ _ _ _ _ _ _ _ _ (ν2, fg_rho R, 304)
            refine fg_pop (fg_ft (pc := 112) tb_Folk_passSeeded 57 rfl) rfl ?_
            refine fg_iincN (fg_ft (pc := 113) tb_Folk_passSeeded 58 rfl) rfl ic_1 rfl ?_
            refine fg_goto (tgt := 17) (fg_ft (pc := 116) tb_Folk_passSeeded 59 rfl) (by decide) ?_
            exact ih (n + 1) ν2 _ (by omega) (by omega) (fg_agF_tr hag ho2) (by show _ = (fg_sd1 T n (fg_sdp T n s)).1; rw [show fg_sd1 T n (fg_sdp T n s) = _ from if_pos ⟨by rw [← hx]; exact c50, c71⟩]; rw [← hx]) (by show fg_FZ ν2 f T (fg_sd1 T n (fg_sdp T n s)).2.1.1 (fg_sd1 T n (fg_sdp T n s)).2.1.2.1 (fg_sd1 T n (fg_sdp T n s)).2.1.2.2 (fg_sd1 T n (fg_sdp T n s)).2.2 o; rw [show fg_sd1 T n (fg_sdp T n s) = _ from if_pos ⟨by rw [← hx]; exact c50, c71⟩, ← hx, hkk]; exact hN2) _ _
  have loop : ∀ (m n : Nat) (ν : Nat → Nat → Int32) (x : Int32), 9 - h - n < m → n ≤ 9 - h → fg_agF f μ ν → x = (fg_sdh T o n (x0, (h, Z, hv), lv)).1 → fg_FZ ν f T (fg_sdh T o n (x0, (h, Z, hv), lv)).2.1.1 (fg_sdh T o n (x0, (h, Z, hv), lv)).2.1.2.1 (fg_sdh T o n (x0, (h, Z, hv), lv)).2.1.2.2 (fg_sdh T o n (x0, (h, Z, hv), lv)).2.2 o → ∀ v4 v5 v6 : Value, fg_wp E yy_Folk_passSeeded (d + 6) 304 304 Q 10 [.ref f, .int x0, .int x, .int (nI (9 - h - n)), v4, v5, v6] [] (ν, fg_rho R, 304) := by
    intro m
    induction m with
    | zero => intro n ν x h; exact absurd h (Nat.not_lt_zero _)
    | succ m ih =>
      intro n ν x hm hn hag hx hN v4 v5 v6
      have hzn := fg_sdh_ok hok (o := o) (s := (x0, (h, Z, hv), lv)) hz n
      refine fg_iloadn (fg_ft (pc := 10) tb_Folk_passSeeded 7 rfl) rfl ?_
      refine fg_if_leN (tgt := 129) (fg_ft (pc := 11) tb_Folk_passSeeded 8 rfl) (by decide) (by omega) (fun c11 => ?_) (fun c11 => ?_)
      · exact fg_vret (fg_ft (pc := 129) tb_Folk_passSeeded 64 rfl) rfl rfl (hQ ν hag (by rw [show n = 9 - h by omega] at hN; exact hN))
      · refine fg_iconst (fg_ft (pc := 14) tb_Folk_passSeeded 9 rfl) ic_0 ?_
        refine fg_istore (fg_ft (pc := 15) tb_Folk_passSeeded 10 rfl) (Nat.le_of_ble_eq_true rfl) ?_
        refine inner (9 - h - n) (fg_sdh T o n (x0, (h, Z, hv), lv)) hzn ?_ (T 2 + 1) 0 ν x (by omega) (by omega) hag hx hN _ _
        intro ν2 x2 w5 w6 hag2 hx2 hN2
        have hT2 := fg_TWp.agF ht hf hT hag2
        have hz2 := fg_sdp_ok hok hzn (T 2)
        refine fg_aloadn (fg_ft (pc := 119) tb_Folk_passSeeded 60 rfl) rfl ?_
        refine fg_callV (fg_ft (pc := 120) tb_Folk_passSeeded 61 rfl) cf_Folk_129 (fg_isOf (fF_lay hf) rfl (fg_lt (fF_lay hf) (by decide))) (as := []) (st := []) rfl rfl (Nat.le_of_ble_eq_true rfl) (Nat.le_refl _) (Nat.le_refl _) (ev_Folk_passHour ht hT2 hok hf hft hN2 hz2 hsh ?_)
        intro ν3 ho3 hN3
        show fg_wp _ _ _ _ _ _ _ _ _ (ν3, fg_rho R, 304)
        refine fg_iinc (fg_ft (pc := 123) tb_Folk_passSeeded 62 rfl) rfl (v := nI (9 - h - (n + 1))) ((fg_dec (by omega)).trans (congrArg nI (by omega))) ?_
        refine fg_goto (tgt := 10) (fg_ft (pc := 126) tb_Folk_passSeeded 63 rfl) (by decide) ?_
        exact ih (n + 1) ν3 x2 (by omega) (by omega) (fg_agF_tr hag2 ho3) hx2 hN3 _ _ _
  refine fg_intro (by decide +kernel) (Nat.le_of_ble_eq_true rfl) (fg_okAs rfl) (Nat.le_refl _) ?_
  refine fg_iloadn (fg_ft (pc := 0) tb_Folk_passSeeded 0 rfl) rfl ?_
  refine fg_istoren (fg_ft (pc := 1) tb_Folk_passSeeded 1 rfl) (Nat.le_of_ble_eq_true rfl) ?_
  refine fg_bipush (fg_ft (pc := 2) tb_Folk_passSeeded 2 rfl) ib_9 ?_
  refine fg_aloadn (fg_ft (pc := 4) tb_Folk_passSeeded 3 rfl) rfl ?_
  refine fg_getV (v := (nI h)) (fg_ft (pc := 5) tb_Folk_passSeeded 4 rfl) ff_Folk_49 (fF_lay hf) rfl (fg_lt (fF_lay hf) (by decide)) hF.2.1 ?_
  refine fg_isubN (fg_ft (pc := 8) tb_Folk_passSeeded 5 rfl) (by omega) ?_
  refine fg_istoren (fg_ft (pc := 9) tb_Folk_passSeeded 6 rfl) (Nat.le_of_ble_eq_true rfl) ?_
  exact loop (9 - h + 1) 0 μ x0 (by omega) (by omega) (fg_agF_rf f μ) rfl hF _ _ _
