theorem pz_can_lt {sg v n lf fi : Nat} (hs : sg = 102 ∨ sg = 117) (h : pz_can sg v n lf fi) : v < 10 := by
  rcases hs with rfl | rfl
  · exact h
  · exact h.1
theorem pz_ffT {sg i v n lf fi : Nat} (h : pz_can sg v n lf fi) : pz_ff sg i v n lf fi = if sg = 117 ∧ 3 < i then 3 else 0 := fg_ifT h
theorem pz_ffF {sg i v n lf fi : Nat} (h : ¬ pz_can sg v n lf fi) : pz_ff sg i v n lf fi = 2 := fg_ifF h
theorem ev_Reader_testNumber0 {E : fg_E} {d : Nat} {μ : Nat → Nat → Int32} {R : fg_T4} {Q : Option Value → fg_M → Prop} {w i v n lf fi tf s : Nat} (hw : w < 17) (hi : i < 2 ^ 31) (h9 : μ 255 9 = nI s) (h10 : μ 255 10 = nI v) (hv : v ≤ 99) (hn : μ 259 2 = nI n) (hn5 : n ≤ 5)  (hF : μ 255 2 = nI 0) (h3 : μ 255 3 = -1) (h11 : μ 255 11 = nI tf) (h12 : μ 255 12 = nI lf) (hlf : lf < 2 ^ 31) (h13 : μ 255 13 = nI fi) (hfi : fi < 2 ^ 32) (hQ : ∀ μ' : Nat → Nat → Int32, (∀ a j, (a ≠ 255 ∨ (j ≠ 2 ∧ j ≠ 3 ∧ j ≠ 11 ∧ j ≠ 12 ∧ j ≠ 13)) → μ' a j = μ a j) → μ' 255 2 = nI (pz_ff (pz_sg w i) i v n lf fi) → μ' 255 3 = (if pz_ff (pz_sg w i) i v n lf fi = 0 then -1 else nI s) → μ' 255 13 = nI (pz_f1 i v fi) → (pz_ff (pz_sg w i) i v n lf fi = 0 → μ' 255 11 = nI (pz_tf (pz_sg w i) v tf) ∧ μ' 255 12 = nI (pz_tf (pz_sg w i) v lf)) → Q none (μ', fg_rho R, 304)) : fg_Ev E yy_Reader_testNumber (d + 6) [.ref 255, .ref w, .int (nI i)] (μ, fg_rho R, 304) 304 Q := by
  refine fg_intro (by decide +kernel) (Nat.le_of_ble_eq_true rfl) (fg_okAs rfl) (Nat.le_refl _) ?_
  refine fg_aloadn (fg_ft (pc := 0) tb_Reader_testNumber 0 rfl) rfl ?_
  refine fg_iloadn (fg_ft (pc := 1) tb_Reader_testNumber 1 rfl) rfl ?_
  refine fg_callV (fg_ft (pc := 2) tb_Reader_testNumber 2 rfl) cf_Reader_97 (Or.inr (pz_isW hw)) (as := [.int (nI i)]) (st := []) rfl rfl (Nat.le_of_ble_eq_true rfl) (Nat.le_refl _) (Nat.le_refl _) (ev_Word_signAt hw (i := i) (by omega) ?_)
  refine fg_istoren (fg_ft (pc := 5) tb_Reader_testNumber 3 rfl) (Nat.le_of_ble_eq_true rfl) ?_
  refine fg_aloadn (fg_ft (pc := 6) tb_Reader_testNumber 4 rfl) rfl ?_
  refine fg_iloadn (fg_ft (pc := 7) tb_Reader_testNumber 5 rfl) rfl ?_
  refine fg_callV (fg_ft (pc := 8) tb_Reader_testNumber 6 rfl) cf_Reader_203 (fg_isOf ly_255 rfl (fg_lt ly_255 (by decide))) (as := [.int (nI (pz_sg w i))]) (st := []) rfl rfl (Nat.le_of_ble_eq_true rfl) (Nat.le_refl _) (Nat.le_refl _) (ev_Reader_canBe (sg := pz_sg w i) (v := v) (n := n) (lf := lf) (fi := fi) (pz_sg_lt w i hw) h10 (by omega) hn (by omega) h12 hlf h13 hfi ?_)
  refine fg_ifB_ne (tgt := 22) (fg_ft (pc := 11) tb_Reader_testNumber 7 rfl) (by decide) (fun c11 => ?_) (fun c11 => ?_)
  · refine fg_iloadn (fg_ft (pc := 22) tb_Reader_testNumber 12 rfl) rfl ?_
    refine fg_bipush (fg_ft (pc := 23) tb_Reader_testNumber 13 rfl) ib_117 ?_
    refine fg_icmp_neN (tgt := 38) (fg_ft (pc := 25) tb_Reader_testNumber 14 rfl) (by decide) (by have := pz_sg_lt w i hw; omega) (by decide) (fun c25 => ?_) (fun c25 => ?_)
    · refine fg_iloadn (fg_ft (pc := 38) tb_Reader_testNumber 21 rfl) rfl ?_
      refine fg_if_neN (tgt := 50) (fg_ft (pc := 39) tb_Reader_testNumber 22 rfl) (by decide) (by omega) (fun c39 => ?_) (fun c39 => ?_)
      · refine fg_iloadn (fg_ft (pc := 50) tb_Reader_testNumber 27 rfl) rfl ?_
        refine fg_bipush (fg_ft (pc := 51) tb_Reader_testNumber 28 rfl) ib_102 ?_
        refine fg_icmp_eqN (tgt := 62) (fg_ft (pc := 53) tb_Reader_testNumber 29 rfl) (by decide) (by have := pz_sg_lt w i hw; omega) (by decide) (fun c53 => ?_) (fun c53 => ?_)
        · have hv10 : v < 10 := pz_can_lt (by first | exact Or.inl c53 | exact Or.inr c59) c11
          refine fg_aloadn (fg_ft (pc := 62) tb_Reader_testNumber 33 rfl) rfl ?_
          refine fg_dup (fg_ft (pc := 63) tb_Reader_testNumber 34 rfl) rfl ?_
          refine fg_getV (v := (nI tf)) (fg_ft (pc := 64) tb_Reader_testNumber 35 rfl) ff_Reader_60 ly_255 rfl (fg_lt ly_255 (by decide)) h11 ?_
          refine fg_iconst (fg_ft (pc := 67) tb_Reader_testNumber 36 rfl) ic_1 ?_
          refine fg_aloadn (fg_ft (pc := 68) tb_Reader_testNumber 37 rfl) rfl ?_
          refine fg_getV (v := (nI v)) (fg_ft (pc := 69) tb_Reader_testNumber 38 rfl) ff_Reader_207 ly_255 rfl (fg_lt ly_255 (by decide)) h10 ?_
          refine fg_ishl1 (fg_ft (pc := 72) tb_Reader_testNumber 39 rfl) (by omega) ?_
          refine fg_iorN (fg_ft (pc := 73) tb_Reader_testNumber 40 rfl) ?_
          refine fg_putI (fg_ft (pc := 74) tb_Reader_testNumber 41 rfl) ff_Reader_60 ly_255 rfl (fg_lt ly_255 (by decide)) (fg_nokI _) (fun _ _ h => by cases h; rfl) ?_
          show fg_wp _ _ _ _ _ _ _ _ _ (fg_u2 μ 255 11 (nI (tf ||| (2 ^ v))), fg_rho R, 304)
          refine fg_aloadn (fg_ft (pc := 77) tb_Reader_testNumber 42 rfl) rfl ?_
          refine fg_dup (fg_ft (pc := 78) tb_Reader_testNumber 43 rfl) rfl ?_
          refine fg_getV (v := (nI lf)) (fg_ft (pc := 79) tb_Reader_testNumber 44 rfl) ff_Reader_183 ly_255 rfl (fg_lt ly_255 (by decide)) ((fg_u2ns (f := μ) (a := 255) (k := 11) (b := 255) (j := 12) (x := (nI (tf ||| (2 ^ v)))) (by decide)).trans h12) ?_
          refine fg_iconst (fg_ft (pc := 82) tb_Reader_testNumber 45 rfl) ic_1 ?_
          refine fg_aloadn (fg_ft (pc := 83) tb_Reader_testNumber 46 rfl) rfl ?_
          refine fg_getV (v := (nI v)) (fg_ft (pc := 84) tb_Reader_testNumber 47 rfl) ff_Reader_207 ly_255 rfl (fg_lt ly_255 (by decide)) ((fg_u2ns (f := μ) (a := 255) (k := 11) (b := 255) (j := 10) (x := (nI (tf ||| (2 ^ v)))) (by decide)).trans h10) ?_
          refine fg_ishl1 (fg_ft (pc := 87) tb_Reader_testNumber 48 rfl) (by omega) ?_
          refine fg_iorN (fg_ft (pc := 88) tb_Reader_testNumber 49 rfl) ?_
          refine fg_putI (fg_ft (pc := 89) tb_Reader_testNumber 50 rfl) ff_Reader_183 ly_255 rfl (fg_lt ly_255 (by decide)) (fg_nokI _) (fun _ _ h => by cases h; rfl) ?_
          show fg_wp _ _ _ _ _ _ _ _ _ (fg_u2 (fg_u2 μ 255 11 (nI (tf ||| (2 ^ v)))) 255 12 (nI (lf ||| (2 ^ v))), fg_rho R, 304)
          exact fg_vret (fg_ft (pc := 92) tb_Reader_testNumber 51 rfl) rfl rfl (hQ _ (fun a j h => ((fg_u2nx (by omega)).trans ((fg_u2nx (by omega)).trans rfl))) (by rw [((pz_ffT c11).trans (if_neg (by omega)))]; exact ((fg_u2ns (by decide)).trans ((fg_u2ns (by decide)).trans hF))) (by rw [((pz_ffT c11).trans (if_neg (by omega))), if_pos rfl]; exact ((fg_u2ns (by decide)).trans ((fg_u2ns (by decide)).trans h3))) (by have g13 : (fg_u2 (fg_u2 μ 255 11 (nI (tf ||| (2 ^ v)))) 255 12 (nI (lf ||| (2 ^ v)))) 255 13 = _ := ((fg_u2ns (by decide)).trans ((fg_u2ns (by decide)).trans h13)); unfold pz_f1; first | (rw [if_pos (by omega)]; exact g13) | (rw [if_neg (by omega)]; exact g13)) (fun _ => ⟨(by unfold pz_tf; first | (rw [if_pos (by omega)]; exact ((fg_u2ns (by decide)).trans fg_u2eq)) | (rw [if_neg (by omega)]; exact ((fg_u2ns (by decide)).trans fg_u2eq))), (by unfold pz_tf; first | (rw [if_pos (by omega)]; exact fg_u2eq) | (rw [if_neg (by omega)]; exact fg_u2eq))⟩))
        · refine fg_iloadn (fg_ft (pc := 56) tb_Reader_testNumber 30 rfl) rfl ?_
          refine fg_bipush (fg_ft (pc := 57) tb_Reader_testNumber 31 rfl) ib_117 ?_
          refine fg_icmp_neN (tgt := 92) (fg_ft (pc := 59) tb_Reader_testNumber 32 rfl) (by decide) (by have := pz_sg_lt w i hw; omega) (by decide) (fun c59 => ?_) (fun c59 => ?_)
          · exact fg_vret (fg_ft (pc := 92) tb_Reader_testNumber 51 rfl) rfl rfl (hQ _ (fun a j h => rfl) (by rw [((pz_ffT c11).trans (if_neg (by omega)))]; exact hF) (by rw [((pz_ffT c11).trans (if_neg (by omega))), if_pos rfl]; exact h3) (by have g13 : μ 255 13 = _ := h13; unfold pz_f1; first | (rw [if_pos (by omega)]; exact g13) | (rw [if_neg (by omega)]; exact g13)) (fun _ => ⟨(by unfold pz_tf; first | (rw [if_pos (by omega)]; exact h11) | (rw [if_neg (by omega)]; exact h11)), (by unfold pz_tf; first | (rw [if_pos (by omega)]; exact h12) | (rw [if_neg (by omega)]; exact h12))⟩))
          · have hv10 : v < 10 := pz_can_lt (by first | exact Or.inl c53 | exact Or.inr c59) c11
            refine fg_aloadn (fg_ft (pc := 62) tb_Reader_testNumber 33 rfl) rfl ?_
            refine fg_dup (fg_ft (pc := 63) tb_Reader_testNumber 34 rfl) rfl ?_
            refine fg_getV (v := (nI tf)) (fg_ft (pc := 64) tb_Reader_testNumber 35 rfl) ff_Reader_60 ly_255 rfl (fg_lt ly_255 (by decide)) h11 ?_
            refine fg_iconst (fg_ft (pc := 67) tb_Reader_testNumber 36 rfl) ic_1 ?_
            refine fg_aloadn (fg_ft (pc := 68) tb_Reader_testNumber 37 rfl) rfl ?_
            refine fg_getV (v := (nI v)) (fg_ft (pc := 69) tb_Reader_testNumber 38 rfl) ff_Reader_207 ly_255 rfl (fg_lt ly_255 (by decide)) h10 ?_
            refine fg_ishl1 (fg_ft (pc := 72) tb_Reader_testNumber 39 rfl) (by omega) ?_
            refine fg_iorN (fg_ft (pc := 73) tb_Reader_testNumber 40 rfl) ?_
            refine fg_putI (fg_ft (pc := 74) tb_Reader_testNumber 41 rfl) ff_Reader_60 ly_255 rfl (fg_lt ly_255 (by decide)) (fg_nokI _) (fun _ _ h => by cases h; rfl) ?_
            show fg_wp _ _ _ _ _ _ _ _ _ (fg_u2 μ 255 11 (nI (tf ||| (2 ^ v))), fg_rho R, 304)
            refine fg_aloadn (fg_ft (pc := 77) tb_Reader_testNumber 42 rfl) rfl ?_
            refine fg_dup (fg_ft (pc := 78) tb_Reader_testNumber 43 rfl) rfl ?_
            refine fg_getV (v := (nI lf)) (fg_ft (pc := 79) tb_Reader_testNumber 44 rfl) ff_Reader_183 ly_255 rfl (fg_lt ly_255 (by decide)) ((fg_u2ns (f := μ) (a := 255) (k := 11) (b := 255) (j := 12) (x := (nI (tf ||| (2 ^ v)))) (by decide)).trans h12) ?_
            refine fg_iconst (fg_ft (pc := 82) tb_Reader_testNumber 45 rfl) ic_1 ?_
            refine fg_aloadn (fg_ft (pc := 83) tb_Reader_testNumber 46 rfl) rfl ?_
            refine fg_getV (v := (nI v)) (fg_ft (pc := 84) tb_Reader_testNumber 47 rfl) ff_Reader_207 ly_255 rfl (fg_lt ly_255 (by decide)) ((fg_u2ns (f := μ) (a := 255) (k := 11) (b := 255) (j := 10) (x := (nI (tf ||| (2 ^ v)))) (by decide)).trans h10) ?_
            refine fg_ishl1 (fg_ft (pc := 87) tb_Reader_testNumber 48 rfl) (by omega) ?_
            refine fg_iorN (fg_ft (pc := 88) tb_Reader_testNumber 49 rfl) ?_
            refine fg_putI (fg_ft (pc := 89) tb_Reader_testNumber 50 rfl) ff_Reader_183 ly_255 rfl (fg_lt ly_255 (by decide)) (fg_nokI _) (fun _ _ h => by cases h; rfl) ?_
            show fg_wp _ _ _ _ _ _ _ _ _ (fg_u2 (fg_u2 μ 255 11 (nI (tf ||| (2 ^ v)))) 255 12 (nI (lf ||| (2 ^ v))), fg_rho R, 304)
            exact fg_vret (fg_ft (pc := 92) tb_Reader_testNumber 51 rfl) rfl rfl (hQ _ (fun a j h => ((fg_u2nx (by omega)).trans ((fg_u2nx (by omega)).trans rfl))) (by rw [((pz_ffT c11).trans (if_neg (by omega)))]; exact ((fg_u2ns (by decide)).trans ((fg_u2ns (by decide)).trans hF))) (by rw [((pz_ffT c11).trans (if_neg (by omega))), if_pos rfl]; exact ((fg_u2ns (by decide)).trans ((fg_u2ns (by decide)).trans h3))) (by have g13 : (fg_u2 (fg_u2 μ 255 11 (nI (tf ||| (2 ^ v)))) 255 12 (nI (lf ||| (2 ^ v)))) 255 13 = _ := ((fg_u2ns (by decide)).trans ((fg_u2ns (by decide)).trans h13)); unfold pz_f1; first | (rw [if_pos (by omega)]; exact g13) | (rw [if_neg (by omega)]; exact g13)) (fun _ => ⟨(by unfold pz_tf; first | (rw [if_pos (by omega)]; exact ((fg_u2ns (by decide)).trans fg_u2eq)) | (rw [if_neg (by omega)]; exact ((fg_u2ns (by decide)).trans fg_u2eq))), (by unfold pz_tf; first | (rw [if_pos (by omega)]; exact fg_u2eq) | (rw [if_neg (by omega)]; exact fg_u2eq))⟩))
      · refine fg_aloadn (fg_ft (pc := 42) tb_Reader_testNumber 23 rfl) rfl ?_
        refine fg_aloadn (fg_ft (pc := 43) tb_Reader_testNumber 24 rfl) rfl ?_
        refine fg_getV (v := (nI v)) (fg_ft (pc := 44) tb_Reader_testNumber 25 rfl) ff_Reader_207 ly_255 rfl (fg_lt ly_255 (by decide)) h10 ?_
        refine fg_putI (fg_ft (pc := 47) tb_Reader_testNumber 26 rfl) ff_Reader_186 ly_255 rfl (fg_lt ly_255 (by decide)) (fg_nokI _) (fun _ _ h => by cases h; rfl) ?_
        show fg_wp _ _ _ _ _ _ _ _ _ (fg_u2 μ 255 13 (nI v), fg_rho R, 304)
        refine fg_iloadn (fg_ft (pc := 50) tb_Reader_testNumber 27 rfl) rfl ?_
        refine fg_bipush (fg_ft (pc := 51) tb_Reader_testNumber 28 rfl) ib_102 ?_
        refine fg_icmp_eqN (tgt := 62) (fg_ft (pc := 53) tb_Reader_testNumber 29 rfl) (by decide) (by have := pz_sg_lt w i hw; omega) (by decide) (fun c53 => ?_) (fun c53 => ?_)
        · have hv10 : v < 10 := pz_can_lt (by first | exact Or.inl c53 | exact Or.inr c59) c11
          refine fg_aloadn (fg_ft (pc := 62) tb_Reader_testNumber 33 rfl) rfl ?_
          refine fg_dup (fg_ft (pc := 63) tb_Reader_testNumber 34 rfl) rfl ?_
          refine fg_getV (v := (nI tf)) (fg_ft (pc := 64) tb_Reader_testNumber 35 rfl) ff_Reader_60 ly_255 rfl (fg_lt ly_255 (by decide)) ((fg_u2ns (f := μ) (a := 255) (k := 13) (b := 255) (j := 11) (x := (nI v)) (by decide)).trans h11) ?_
          refine fg_iconst (fg_ft (pc := 67) tb_Reader_testNumber 36 rfl) ic_1 ?_
          refine fg_aloadn (fg_ft (pc := 68) tb_Reader_testNumber 37 rfl) rfl ?_
          refine fg_getV (v := (nI v)) (fg_ft (pc := 69) tb_Reader_testNumber 38 rfl) ff_Reader_207 ly_255 rfl (fg_lt ly_255 (by decide)) ((fg_u2ns (f := μ) (a := 255) (k := 13) (b := 255) (j := 10) (x := (nI v)) (by decide)).trans h10) ?_
          refine fg_ishl1 (fg_ft (pc := 72) tb_Reader_testNumber 39 rfl) (by omega) ?_
          refine fg_iorN (fg_ft (pc := 73) tb_Reader_testNumber 40 rfl) ?_
          refine fg_putI (fg_ft (pc := 74) tb_Reader_testNumber 41 rfl) ff_Reader_60 ly_255 rfl (fg_lt ly_255 (by decide)) (fg_nokI _) (fun _ _ h => by cases h; rfl) ?_
          show fg_wp _ _ _ _ _ _ _ _ _ (fg_u2 (fg_u2 μ 255 13 (nI v)) 255 11 (nI (tf ||| (2 ^ v))), fg_rho R, 304)
          refine fg_aloadn (fg_ft (pc := 77) tb_Reader_testNumber 42 rfl) rfl ?_
          refine fg_dup (fg_ft (pc := 78) tb_Reader_testNumber 43 rfl) rfl ?_
          refine fg_getV (v := (nI lf)) (fg_ft (pc := 79) tb_Reader_testNumber 44 rfl) ff_Reader_183 ly_255 rfl (fg_lt ly_255 (by decide)) ((fg_u2ns (f := (fg_u2 μ 255 13 (nI v))) (a := 255) (k := 11) (b := 255) (j := 12) (x := (nI (tf ||| (2 ^ v)))) (by decide)).trans ((fg_u2ns (f := μ) (a := 255) (k := 13) (b := 255) (j := 12) (x := (nI v)) (by decide)).trans h12)) ?_
          refine fg_iconst (fg_ft (pc := 82) tb_Reader_testNumber 45 rfl) ic_1 ?_
          refine fg_aloadn (fg_ft (pc := 83) tb_Reader_testNumber 46 rfl) rfl ?_
          refine fg_getV (v := (nI v)) (fg_ft (pc := 84) tb_Reader_testNumber 47 rfl) ff_Reader_207 ly_255 rfl (fg_lt ly_255 (by decide)) ((fg_u2ns (f := (fg_u2 μ 255 13 (nI v))) (a := 255) (k := 11) (b := 255) (j := 10) (x := (nI (tf ||| (2 ^ v)))) (by decide)).trans ((fg_u2ns (f := μ) (a := 255) (k := 13) (b := 255) (j := 10) (x := (nI v)) (by decide)).trans h10)) ?_
          refine fg_ishl1 (fg_ft (pc := 87) tb_Reader_testNumber 48 rfl) (by omega) ?_
          refine fg_iorN (fg_ft (pc := 88) tb_Reader_testNumber 49 rfl) ?_
          refine fg_putI (fg_ft (pc := 89) tb_Reader_testNumber 50 rfl) ff_Reader_183 ly_255 rfl (fg_lt ly_255 (by decide)) (fg_nokI _) (fun _ _ h => by cases h; rfl) ?_
          show fg_wp _ _ _ _ _ _ _ _ _ (fg_u2 (fg_u2 (fg_u2 μ 255 13 (nI v)) 255 11 (nI (tf ||| (2 ^ v)))) 255 12 (nI (lf ||| (2 ^ v))), fg_rho R, 304)
          exact fg_vret (fg_ft (pc := 92) tb_Reader_testNumber 51 rfl) rfl rfl (hQ _ (fun a j h => ((fg_u2nx (by omega)).trans ((fg_u2nx (by omega)).trans ((fg_u2nx (by omega)).trans rfl)))) (by rw [((pz_ffT c11).trans (if_neg (by omega)))]; exact ((fg_u2ns (by decide)).trans ((fg_u2ns (by decide)).trans ((fg_u2ns (by decide)).trans hF)))) (by rw [((pz_ffT c11).trans (if_neg (by omega))), if_pos rfl]; exact ((fg_u2ns (by decide)).trans ((fg_u2ns (by decide)).trans ((fg_u2ns (by decide)).trans h3)))) (by have g13 : (fg_u2 (fg_u2 (fg_u2 μ 255 13 (nI v)) 255 11 (nI (tf ||| (2 ^ v)))) 255 12 (nI (lf ||| (2 ^ v)))) 255 13 = _ := ((fg_u2ns (by decide)).trans ((fg_u2ns (by decide)).trans fg_u2eq)); unfold pz_f1; first | (rw [if_pos (by omega)]; exact g13) | (rw [if_neg (by omega)]; exact g13)) (fun _ => ⟨(by unfold pz_tf; first | (rw [if_pos (by omega)]; exact ((fg_u2ns (by decide)).trans fg_u2eq)) | (rw [if_neg (by omega)]; exact ((fg_u2ns (by decide)).trans fg_u2eq))), (by unfold pz_tf; first | (rw [if_pos (by omega)]; exact fg_u2eq) | (rw [if_neg (by omega)]; exact fg_u2eq))⟩))
        · refine fg_iloadn (fg_ft (pc := 56) tb_Reader_testNumber 30 rfl) rfl ?_
          refine fg_bipush (fg_ft (pc := 57) tb_Reader_testNumber 31 rfl) ib_117 ?_
          refine fg_icmp_neN (tgt := 92) (fg_ft (pc := 59) tb_Reader_testNumber 32 rfl) (by decide) (by have := pz_sg_lt w i hw; omega) (by decide) (fun c59 => ?_) (fun c59 => ?_)
          · exact fg_vret (fg_ft (pc := 92) tb_Reader_testNumber 51 rfl) rfl rfl (hQ _ (fun a j h => ((fg_u2nx (by omega)).trans rfl)) (by rw [((pz_ffT c11).trans (if_neg (by omega)))]; exact ((fg_u2ns (by decide)).trans hF)) (by rw [((pz_ffT c11).trans (if_neg (by omega))), if_pos rfl]; exact ((fg_u2ns (by decide)).trans h3)) (by have g13 : (fg_u2 μ 255 13 (nI v)) 255 13 = _ := fg_u2eq; unfold pz_f1; first | (rw [if_pos (by omega)]; exact g13) | (rw [if_neg (by omega)]; exact g13)) (fun _ => ⟨(by unfold pz_tf; first | (rw [if_pos (by omega)]; exact ((fg_u2ns (by decide)).trans h11)) | (rw [if_neg (by omega)]; exact ((fg_u2ns (by decide)).trans h11))), (by unfold pz_tf; first | (rw [if_pos (by omega)]; exact ((fg_u2ns (by decide)).trans h12)) | (rw [if_neg (by omega)]; exact ((fg_u2ns (by decide)).trans h12)))⟩))
          · have hv10 : v < 10 := pz_can_lt (by first | exact Or.inl c53 | exact Or.inr c59) c11
            refine fg_aloadn (fg_ft (pc := 62) tb_Reader_testNumber 33 rfl) rfl ?_
            refine fg_dup (fg_ft (pc := 63) tb_Reader_testNumber 34 rfl) rfl ?_
            refine fg_getV (v := (nI tf)) (fg_ft (pc := 64) tb_Reader_testNumber 35 rfl) ff_Reader_60 ly_255 rfl (fg_lt ly_255 (by decide)) ((fg_u2ns (f := μ) (a := 255) (k := 13) (b := 255) (j := 11) (x := (nI v)) (by decide)).trans h11) ?_
            refine fg_iconst (fg_ft (pc := 67) tb_Reader_testNumber 36 rfl) ic_1 ?_
            refine fg_aloadn (fg_ft (pc := 68) tb_Reader_testNumber 37 rfl) rfl ?_
            refine fg_getV (v := (nI v)) (fg_ft (pc := 69) tb_Reader_testNumber 38 rfl) ff_Reader_207 ly_255 rfl (fg_lt ly_255 (by decide)) ((fg_u2ns (f := μ) (a := 255) (k := 13) (b := 255) (j := 10) (x := (nI v)) (by decide)).trans h10) ?_
            refine fg_ishl1 (fg_ft (pc := 72) tb_Reader_testNumber 39 rfl) (by omega) ?_
            refine fg_iorN (fg_ft (pc := 73) tb_Reader_testNumber 40 rfl) ?_
            refine fg_putI (fg_ft (pc := 74) tb_Reader_testNumber 41 rfl) ff_Reader_60 ly_255 rfl (fg_lt ly_255 (by decide)) (fg_nokI _) (fun _ _ h => by cases h; rfl) ?_
            show fg_wp _ _ _ _ _ _ _ _ _ (fg_u2 (fg_u2 μ 255 13 (nI v)) 255 11 (nI (tf ||| (2 ^ v))), fg_rho R, 304)
            refine fg_aloadn (fg_ft (pc := 77) tb_Reader_testNumber 42 rfl) rfl ?_
            refine fg_dup (fg_ft (pc := 78) tb_Reader_testNumber 43 rfl) rfl ?_
            refine fg_getV (v := (nI lf)) (fg_ft (pc := 79) tb_Reader_testNumber 44 rfl) ff_Reader_183 ly_255 rfl (fg_lt ly_255 (by decide)) ((fg_u2ns (f := (fg_u2 μ 255 13 (nI v))) (a := 255) (k := 11) (b := 255) (j := 12) (x := (nI (tf ||| (2 ^ v)))) (by decide)).trans ((fg_u2ns (f := μ) (a := 255) (k := 13) (b := 255) (j := 12) (x := (nI v)) (by decide)).trans h12)) ?_
            refine fg_iconst (fg_ft (pc := 82) tb_Reader_testNumber 45 rfl) ic_1 ?_
            refine fg_aloadn (fg_ft (pc := 83) tb_Reader_testNumber 46 rfl) rfl ?_
            refine fg_getV (v := (nI v)) (fg_ft (pc := 84) tb_Reader_testNumber 47 rfl) ff_Reader_207 ly_255 rfl (fg_lt ly_255 (by decide)) ((fg_u2ns (f := (fg_u2 μ 255 13 (nI v))) (a := 255) (k := 11) (b := 255) (j := 10) (x := (nI (tf ||| (2 ^ v)))) (by decide)).trans ((fg_u2ns (f := μ) (a := 255) (k := 13) (b := 255) (j := 10) (x := (nI v)) (by decide)).trans h10)) ?_
            refine fg_ishl1 (fg_ft (pc := 87) tb_Reader_testNumber 48 rfl) (by omega) ?_
            refine fg_iorN (fg_ft (pc := 88) tb_Reader_testNumber 49 rfl) ?_
            refine fg_putI (fg_ft (pc := 89) tb_Reader_testNumber 50 rfl) ff_Reader_183 ly_255 rfl (fg_lt ly_255 (by decide)) (fg_nokI _) (fun _ _ h => by cases h; rfl) ?_
            show fg_wp _ _ _ _ _ _ _ _ _ (fg_u2 (fg_u2 (fg_u2 μ 255 13 (nI v)) 255 11 (nI (tf ||| (2 ^ v)))) 255 12 (nI (lf ||| (2 ^ v))), fg_rho R, 304)
            exact fg_vret (fg_ft (pc := 92) tb_Reader_testNumber 51 rfl) rfl rfl (hQ _ (fun a j h => ((fg_u2nx (by omega)).trans ((fg_u2nx (by omega)).trans ((fg_u2nx (by omega)).trans rfl)))) (by rw [((pz_ffT c11).trans (if_neg (by omega)))]; exact ((fg_u2ns (by decide)).trans ((fg_u2ns (by decide)).trans ((fg_u2ns (by decide)).trans hF)))) (by rw [((pz_ffT c11).trans (if_neg (by omega))), if_pos rfl]; exact ((fg_u2ns (by decide)).trans ((fg_u2ns (by decide)).trans ((fg_u2ns (by decide)).trans h3)))) (by have g13 : (fg_u2 (fg_u2 (fg_u2 μ 255 13 (nI v)) 255 11 (nI (tf ||| (2 ^ v)))) 255 12 (nI (lf ||| (2 ^ v)))) 255 13 = _ := ((fg_u2ns (by decide)).trans ((fg_u2ns (by decide)).trans fg_u2eq)); unfold pz_f1; first | (rw [if_pos (by omega)]; exact g13) | (rw [if_neg (by omega)]; exact g13)) (fun _ => ⟨(by unfold pz_tf; first | (rw [if_pos (by omega)]; exact ((fg_u2ns (by decide)).trans fg_u2eq)) | (rw [if_neg (by omega)]; exact ((fg_u2ns (by decide)).trans fg_u2eq))), (by unfold pz_tf; first | (rw [if_pos (by omega)]; exact fg_u2eq) | (rw [if_neg (by omega)]; exact fg_u2eq))⟩))
    · refine fg_iloadn (fg_ft (pc := 28) tb_Reader_testNumber 15 rfl) rfl ?_
      refine fg_iconst (fg_ft (pc := 29) tb_Reader_testNumber 16 rfl) ic_3 ?_
      refine fg_icmp_leN (tgt := 38) (fg_ft (pc := 30) tb_Reader_testNumber 17 rfl) (by decide) (by omega) (by decide) (fun c30 => ?_) (fun c30 => ?_)
      · refine fg_iloadn (fg_ft (pc := 38) tb_Reader_testNumber 21 rfl) rfl ?_
        refine fg_if_neN (tgt := 50) (fg_ft (pc := 39) tb_Reader_testNumber 22 rfl) (by decide) (by omega) (fun c39 => ?_) (fun c39 => ?_)
        · refine fg_iloadn (fg_ft (pc := 50) tb_Reader_testNumber 27 rfl) rfl ?_
          refine fg_bipush (fg_ft (pc := 51) tb_Reader_testNumber 28 rfl) ib_102 ?_
          refine fg_icmp_eqN (tgt := 62) (fg_ft (pc := 53) tb_Reader_testNumber 29 rfl) (by decide) (by have := pz_sg_lt w i hw; omega) (by decide) (fun c53 => ?_) (fun c53 => ?_)
          · have hv10 : v < 10 := pz_can_lt (by first | exact Or.inl c53 | exact Or.inr c59) c11
            refine fg_aloadn (fg_ft (pc := 62) tb_Reader_testNumber 33 rfl) rfl ?_
            refine fg_dup (fg_ft (pc := 63) tb_Reader_testNumber 34 rfl) rfl ?_
            refine fg_getV (v := (nI tf)) (fg_ft (pc := 64) tb_Reader_testNumber 35 rfl) ff_Reader_60 ly_255 rfl (fg_lt ly_255 (by decide)) h11 ?_
            refine fg_iconst (fg_ft (pc := 67) tb_Reader_testNumber 36 rfl) ic_1 ?_
            refine fg_aloadn (fg_ft (pc := 68) tb_Reader_testNumber 37 rfl) rfl ?_
            refine fg_getV (v := (nI v)) (fg_ft (pc := 69) tb_Reader_testNumber 38 rfl) ff_Reader_207 ly_255 rfl (fg_lt ly_255 (by decide)) h10 ?_
            refine fg_ishl1 (fg_ft (pc := 72) tb_Reader_testNumber 39 rfl) (by omega) ?_
            refine fg_iorN (fg_ft (pc := 73) tb_Reader_testNumber 40 rfl) ?_
            refine fg_putI (fg_ft (pc := 74) tb_Reader_testNumber 41 rfl) ff_Reader_60 ly_255 rfl (fg_lt ly_255 (by decide)) (fg_nokI _) (fun _ _ h => by cases h; rfl) ?_
            show fg_wp _ _ _ _ _ _ _ _ _ (fg_u2 μ 255 11 (nI (tf ||| (2 ^ v))), fg_rho R, 304)
            refine fg_aloadn (fg_ft (pc := 77) tb_Reader_testNumber 42 rfl) rfl ?_
            refine fg_dup (fg_ft (pc := 78) tb_Reader_testNumber 43 rfl) rfl ?_
            refine fg_getV (v := (nI lf)) (fg_ft (pc := 79) tb_Reader_testNumber 44 rfl) ff_Reader_183 ly_255 rfl (fg_lt ly_255 (by decide)) ((fg_u2ns (f := μ) (a := 255) (k := 11) (b := 255) (j := 12) (x := (nI (tf ||| (2 ^ v)))) (by decide)).trans h12) ?_
            refine fg_iconst (fg_ft (pc := 82) tb_Reader_testNumber 45 rfl) ic_1 ?_
            refine fg_aloadn (fg_ft (pc := 83) tb_Reader_testNumber 46 rfl) rfl ?_
            refine fg_getV (v := (nI v)) (fg_ft (pc := 84) tb_Reader_testNumber 47 rfl) ff_Reader_207 ly_255 rfl (fg_lt ly_255 (by decide)) ((fg_u2ns (f := μ) (a := 255) (k := 11) (b := 255) (j := 10) (x := (nI (tf ||| (2 ^ v)))) (by decide)).trans h10) ?_
            refine fg_ishl1 (fg_ft (pc := 87) tb_Reader_testNumber 48 rfl) (by omega) ?_
            refine fg_iorN (fg_ft (pc := 88) tb_Reader_testNumber 49 rfl) ?_
            refine fg_putI (fg_ft (pc := 89) tb_Reader_testNumber 50 rfl) ff_Reader_183 ly_255 rfl (fg_lt ly_255 (by decide)) (fg_nokI _) (fun _ _ h => by cases h; rfl) ?_
            show fg_wp _ _ _ _ _ _ _ _ _ (fg_u2 (fg_u2 μ 255 11 (nI (tf ||| (2 ^ v)))) 255 12 (nI (lf ||| (2 ^ v))), fg_rho R, 304)
            exact fg_vret (fg_ft (pc := 92) tb_Reader_testNumber 51 rfl) rfl rfl (hQ _ (fun a j h => ((fg_u2nx (by omega)).trans ((fg_u2nx (by omega)).trans rfl))) (by rw [((pz_ffT c11).trans (if_neg (by omega)))]; exact ((fg_u2ns (by decide)).trans ((fg_u2ns (by decide)).trans hF))) (by rw [((pz_ffT c11).trans (if_neg (by omega))), if_pos rfl]; exact ((fg_u2ns (by decide)).trans ((fg_u2ns (by decide)).trans h3))) (by have g13 : (fg_u2 (fg_u2 μ 255 11 (nI (tf ||| (2 ^ v)))) 255 12 (nI (lf ||| (2 ^ v)))) 255 13 = _ := ((fg_u2ns (by decide)).trans ((fg_u2ns (by decide)).trans h13)); unfold pz_f1; first | (rw [if_pos (by omega)]; exact g13) | (rw [if_neg (by omega)]; exact g13)) (fun _ => ⟨(by unfold pz_tf; first | (rw [if_pos (by omega)]; exact ((fg_u2ns (by decide)).trans fg_u2eq)) | (rw [if_neg (by omega)]; exact ((fg_u2ns (by decide)).trans fg_u2eq))), (by unfold pz_tf; first | (rw [if_pos (by omega)]; exact fg_u2eq) | (rw [if_neg (by omega)]; exact fg_u2eq))⟩))
          · refine fg_iloadn (fg_ft (pc := 56) tb_Reader_testNumber 30 rfl) rfl ?_
            refine fg_bipush (fg_ft (pc := 57) tb_Reader_testNumber 31 rfl) ib_117 ?_
            refine fg_icmp_neN (tgt := 92) (fg_ft (pc := 59) tb_Reader_testNumber 32 rfl) (by decide) (by have := pz_sg_lt w i hw; omega) (by decide) (fun c59 => ?_) (fun c59 => ?_)
            · exact fg_vret (fg_ft (pc := 92) tb_Reader_testNumber 51 rfl) rfl rfl (hQ _ (fun a j h => rfl) (by rw [((pz_ffT c11).trans (if_neg (by omega)))]; exact hF) (by rw [((pz_ffT c11).trans (if_neg (by omega))), if_pos rfl]; exact h3) (by have g13 : μ 255 13 = _ := h13; unfold pz_f1; first | (rw [if_pos (by omega)]; exact g13) | (rw [if_neg (by omega)]; exact g13)) (fun _ => ⟨(by unfold pz_tf; first | (rw [if_pos (by omega)]; exact h11) | (rw [if_neg (by omega)]; exact h11)), (by unfold pz_tf; first | (rw [if_pos (by omega)]; exact h12) | (rw [if_neg (by omega)]; exact h12))⟩))
            · have hv10 : v < 10 := pz_can_lt (by first | exact Or.inl c53 | exact Or.inr c59) c11
              refine fg_aloadn (fg_ft (pc := 62) tb_Reader_testNumber 33 rfl) rfl ?_
              refine fg_dup (fg_ft (pc := 63) tb_Reader_testNumber 34 rfl) rfl ?_
              refine fg_getV (v := (nI tf)) (fg_ft (pc := 64) tb_Reader_testNumber 35 rfl) ff_Reader_60 ly_255 rfl (fg_lt ly_255 (by decide)) h11 ?_
              refine fg_iconst (fg_ft (pc := 67) tb_Reader_testNumber 36 rfl) ic_1 ?_
              refine fg_aloadn (fg_ft (pc := 68) tb_Reader_testNumber 37 rfl) rfl ?_
              refine fg_getV (v := (nI v)) (fg_ft (pc := 69) tb_Reader_testNumber 38 rfl) ff_Reader_207 ly_255 rfl (fg_lt ly_255 (by decide)) h10 ?_
              refine fg_ishl1 (fg_ft (pc := 72) tb_Reader_testNumber 39 rfl) (by omega) ?_
              refine fg_iorN (fg_ft (pc := 73) tb_Reader_testNumber 40 rfl) ?_
              refine fg_putI (fg_ft (pc := 74) tb_Reader_testNumber 41 rfl) ff_Reader_60 ly_255 rfl (fg_lt ly_255 (by decide)) (fg_nokI _) (fun _ _ h => by cases h; rfl) ?_
              show fg_wp _ _ _ _ _ _ _ _ _ (fg_u2 μ 255 11 (nI (tf ||| (2 ^ v))), fg_rho R, 304)
              refine fg_aloadn (fg_ft (pc := 77) tb_Reader_testNumber 42 rfl) rfl ?_
              refine fg_dup (fg_ft (pc := 78) tb_Reader_testNumber 43 rfl) rfl ?_
              refine fg_getV (v := (nI lf)) (fg_ft (pc := 79) tb_Reader_testNumber 44 rfl) ff_Reader_183 ly_255 rfl (fg_lt ly_255 (by decide)) ((fg_u2ns (f := μ) (a := 255) (k := 11) (b := 255) (j := 12) (x := (nI (tf ||| (2 ^ v)))) (by decide)).trans h12) ?_
              refine fg_iconst (fg_ft (pc := 82) tb_Reader_testNumber 45 rfl) ic_1 ?_
              refine fg_aloadn (fg_ft (pc := 83) tb_Reader_testNumber 46 rfl) rfl ?_
              refine fg_getV (v := (nI v)) (fg_ft (pc := 84) tb_Reader_testNumber 47 rfl) ff_Reader_207 ly_255 rfl (fg_lt ly_255 (by decide)) ((fg_u2ns (f := μ) (a := 255) (k := 11) (b := 255) (j := 10) (x := (nI (tf ||| (2 ^ v)))) (by decide)).trans h10) ?_
              refine fg_ishl1 (fg_ft (pc := 87) tb_Reader_testNumber 48 rfl) (by omega) ?_
              refine fg_iorN (fg_ft (pc := 88) tb_Reader_testNumber 49 rfl) ?_
              refine fg_putI (fg_ft (pc := 89) tb_Reader_testNumber 50 rfl) ff_Reader_183 ly_255 rfl (fg_lt ly_255 (by decide)) (fg_nokI _) (fun _ _ h => by cases h; rfl) ?_
              show fg_wp _ _ _ _ _ _ _ _ _ (fg_u2 (fg_u2 μ 255 11 (nI (tf ||| (2 ^ v)))) 255 12 (nI (lf ||| (2 ^ v))), fg_rho R, 304)
              exact fg_vret (fg_ft (pc := 92) tb_Reader_testNumber 51 rfl) rfl rfl (hQ _ (fun a j h => ((fg_u2nx (by omega)).trans ((fg_u2nx (by omega)).trans rfl))) (by rw [((pz_ffT c11).trans (if_neg (by omega)))]; exact ((fg_u2ns (by decide)).trans ((fg_u2ns (by decide)).trans hF))) (by rw [((pz_ffT c11).trans (if_neg (by omega))), if_pos rfl]; exact ((fg_u2ns (by decide)).trans ((fg_u2ns (by decide)).trans h3))) (by have g13 : (fg_u2 (fg_u2 μ 255 11 (nI (tf ||| (2 ^ v)))) 255 12 (nI (lf ||| (2 ^ v)))) 255 13 = _ := ((fg_u2ns (by decide)).trans ((fg_u2ns (by decide)).trans h13)); unfold pz_f1; first | (rw [if_pos (by omega)]; exact g13) | (rw [if_neg (by omega)]; exact g13)) (fun _ => ⟨(by unfold pz_tf; first | (rw [if_pos (by omega)]; exact ((fg_u2ns (by decide)).trans fg_u2eq)) | (rw [if_neg (by omega)]; exact ((fg_u2ns (by decide)).trans fg_u2eq))), (by unfold pz_tf; first | (rw [if_pos (by omega)]; exact fg_u2eq) | (rw [if_neg (by omega)]; exact fg_u2eq))⟩))
        · refine fg_aloadn (fg_ft (pc := 42) tb_Reader_testNumber 23 rfl) rfl ?_
          refine fg_aloadn (fg_ft (pc := 43) tb_Reader_testNumber 24 rfl) rfl ?_
          refine fg_getV (v := (nI v)) (fg_ft (pc := 44) tb_Reader_testNumber 25 rfl) ff_Reader_207 ly_255 rfl (fg_lt ly_255 (by decide)) h10 ?_
          refine fg_putI (fg_ft (pc := 47) tb_Reader_testNumber 26 rfl) ff_Reader_186 ly_255 rfl (fg_lt ly_255 (by decide)) (fg_nokI _) (fun _ _ h => by cases h; rfl) ?_
          show fg_wp _ _ _ _ _ _ _ _ _ (fg_u2 μ 255 13 (nI v), fg_rho R, 304)
          refine fg_iloadn (fg_ft (pc := 50) tb_Reader_testNumber 27 rfl) rfl ?_
          refine fg_bipush (fg_ft (pc := 51) tb_Reader_testNumber 28 rfl) ib_102 ?_
          refine fg_icmp_eqN (tgt := 62) (fg_ft (pc := 53) tb_Reader_testNumber 29 rfl) (by decide) (by have := pz_sg_lt w i hw; omega) (by decide) (fun c53 => ?_) (fun c53 => ?_)
          · have hv10 : v < 10 := pz_can_lt (by first | exact Or.inl c53 | exact Or.inr c59) c11
            refine fg_aloadn (fg_ft (pc := 62) tb_Reader_testNumber 33 rfl) rfl ?_
            refine fg_dup (fg_ft (pc := 63) tb_Reader_testNumber 34 rfl) rfl ?_
            refine fg_getV (v := (nI tf)) (fg_ft (pc := 64) tb_Reader_testNumber 35 rfl) ff_Reader_60 ly_255 rfl (fg_lt ly_255 (by decide)) ((fg_u2ns (f := μ) (a := 255) (k := 13) (b := 255) (j := 11) (x := (nI v)) (by decide)).trans h11) ?_
            refine fg_iconst (fg_ft (pc := 67) tb_Reader_testNumber 36 rfl) ic_1 ?_
            refine fg_aloadn (fg_ft (pc := 68) tb_Reader_testNumber 37 rfl) rfl ?_
            refine fg_getV (v := (nI v)) (fg_ft (pc := 69) tb_Reader_testNumber 38 rfl) ff_Reader_207 ly_255 rfl (fg_lt ly_255 (by decide)) ((fg_u2ns (f := μ) (a := 255) (k := 13) (b := 255) (j := 10) (x := (nI v)) (by decide)).trans h10) ?_
            refine fg_ishl1 (fg_ft (pc := 72) tb_Reader_testNumber 39 rfl) (by omega) ?_
            refine fg_iorN (fg_ft (pc := 73) tb_Reader_testNumber 40 rfl) ?_
            refine fg_putI (fg_ft (pc := 74) tb_Reader_testNumber 41 rfl) ff_Reader_60 ly_255 rfl (fg_lt ly_255 (by decide)) (fg_nokI _) (fun _ _ h => by cases h; rfl) ?_
            show fg_wp _ _ _ _ _ _ _ _ _ (fg_u2 (fg_u2 μ 255 13 (nI v)) 255 11 (nI (tf ||| (2 ^ v))), fg_rho R, 304)
            refine fg_aloadn (fg_ft (pc := 77) tb_Reader_testNumber 42 rfl) rfl ?_
            refine fg_dup (fg_ft (pc := 78) tb_Reader_testNumber 43 rfl) rfl ?_
            refine fg_getV (v := (nI lf)) (fg_ft (pc := 79) tb_Reader_testNumber 44 rfl) ff_Reader_183 ly_255 rfl (fg_lt ly_255 (by decide)) ((fg_u2ns (f := (fg_u2 μ 255 13 (nI v))) (a := 255) (k := 11) (b := 255) (j := 12) (x := (nI (tf ||| (2 ^ v)))) (by decide)).trans ((fg_u2ns (f := μ) (a := 255) (k := 13) (b := 255) (j := 12) (x := (nI v)) (by decide)).trans h12)) ?_
            refine fg_iconst (fg_ft (pc := 82) tb_Reader_testNumber 45 rfl) ic_1 ?_
            refine fg_aloadn (fg_ft (pc := 83) tb_Reader_testNumber 46 rfl) rfl ?_
            refine fg_getV (v := (nI v)) (fg_ft (pc := 84) tb_Reader_testNumber 47 rfl) ff_Reader_207 ly_255 rfl (fg_lt ly_255 (by decide)) ((fg_u2ns (f := (fg_u2 μ 255 13 (nI v))) (a := 255) (k := 11) (b := 255) (j := 10) (x := (nI (tf ||| (2 ^ v)))) (by decide)).trans ((fg_u2ns (f := μ) (a := 255) (k := 13) (b := 255) (j := 10) (x := (nI v)) (by decide)).trans h10)) ?_
            refine fg_ishl1 (fg_ft (pc := 87) tb_Reader_testNumber 48 rfl) (by omega) ?_
            refine fg_iorN (fg_ft (pc := 88) tb_Reader_testNumber 49 rfl) ?_
            refine fg_putI (fg_ft (pc := 89) tb_Reader_testNumber 50 rfl) ff_Reader_183 ly_255 rfl (fg_lt ly_255 (by decide)) (fg_nokI _) (fun _ _ h => by cases h; rfl) ?_
            show fg_wp _ _ _ _ _ _ _ _ _ (fg_u2 (fg_u2 (fg_u2 μ 255 13 (nI v)) 255 11 (nI (tf ||| (2 ^ v)))) 255 12 (nI (lf ||| (2 ^ v))), fg_rho R, 304)
            exact fg_vret (fg_ft (pc := 92) tb_Reader_testNumber 51 rfl) rfl rfl (hQ _ (fun a j h => ((fg_u2nx (by omega)).trans ((fg_u2nx (by omega)).trans ((fg_u2nx (by omega)).trans rfl)))) (by rw [((pz_ffT c11).trans (if_neg (by omega)))]; exact ((fg_u2ns (by decide)).trans ((fg_u2ns (by decide)).trans ((fg_u2ns (by decide)).trans hF)))) (by rw [((pz_ffT c11).trans (if_neg (by omega))), if_pos rfl]; exact ((fg_u2ns (by decide)).trans ((fg_u2ns (by decide)).trans ((fg_u2ns (by decide)).trans h3)))) (by have g13 : (fg_u2 (fg_u2 (fg_u2 μ 255 13 (nI v)) 255 11 (nI (tf ||| (2 ^ v)))) 255 12 (nI (lf ||| (2 ^ v)))) 255 13 = _ := ((fg_u2ns (by decide)).trans ((fg_u2ns (by decide)).trans fg_u2eq)); unfold pz_f1; first | (rw [if_pos (by omega)]; exact g13) | (rw [if_neg (by omega)]; exact g13)) (fun _ => ⟨(by unfold pz_tf; first | (rw [if_pos (by omega)]; exact ((fg_u2ns (by decide)).trans fg_u2eq)) | (rw [if_neg (by omega)]; exact ((fg_u2ns (by decide)).trans fg_u2eq))), (by unfold pz_tf; first | (rw [if_pos (by omega)]; exact fg_u2eq) | (rw [if_neg (by omega)]; exact fg_u2eq))⟩))
          · refine fg_iloadn (fg_ft (pc := 56) tb_Reader_testNumber 30 rfl) rfl ?_
            refine fg_bipush (fg_ft (pc := 57) tb_Reader_testNumber 31 rfl) ib_117 ?_
            refine fg_icmp_neN (tgt := 92) (fg_ft (pc := 59) tb_Reader_testNumber 32 rfl) (by decide) (by have := pz_sg_lt w i hw; omega) (by decide) (fun c59 => ?_) (fun c59 => ?_)
            · exact fg_vret (fg_ft (pc := 92) tb_Reader_testNumber 51 rfl) rfl rfl (hQ _ (fun a j h => ((fg_u2nx (by omega)).trans rfl)) (by rw [((pz_ffT c11).trans (if_neg (by omega)))]; exact ((fg_u2ns (by decide)).trans hF)) (by rw [((pz_ffT c11).trans (if_neg (by omega))), if_pos rfl]; exact ((fg_u2ns (by decide)).trans h3)) (by have g13 : (fg_u2 μ 255 13 (nI v)) 255 13 = _ := fg_u2eq; unfold pz_f1; first | (rw [if_pos (by omega)]; exact g13) | (rw [if_neg (by omega)]; exact g13)) (fun _ => ⟨(by unfold pz_tf; first | (rw [if_pos (by omega)]; exact ((fg_u2ns (by decide)).trans h11)) | (rw [if_neg (by omega)]; exact ((fg_u2ns (by decide)).trans h11))), (by unfold pz_tf; first | (rw [if_pos (by omega)]; exact ((fg_u2ns (by decide)).trans h12)) | (rw [if_neg (by omega)]; exact ((fg_u2ns (by decide)).trans h12)))⟩))
            · have hv10 : v < 10 := pz_can_lt (by first | exact Or.inl c53 | exact Or.inr c59) c11
              refine fg_aloadn (fg_ft (pc := 62) tb_Reader_testNumber 33 rfl) rfl ?_
              refine fg_dup (fg_ft (pc := 63) tb_Reader_testNumber 34 rfl) rfl ?_
              refine fg_getV (v := (nI tf)) (fg_ft (pc := 64) tb_Reader_testNumber 35 rfl) ff_Reader_60 ly_255 rfl (fg_lt ly_255 (by decide)) ((fg_u2ns (f := μ) (a := 255) (k := 13) (b := 255) (j := 11) (x := (nI v)) (by decide)).trans h11) ?_
              refine fg_iconst (fg_ft (pc := 67) tb_Reader_testNumber 36 rfl) ic_1 ?_
              refine fg_aloadn (fg_ft (pc := 68) tb_Reader_testNumber 37 rfl) rfl ?_
              refine fg_getV (v := (nI v)) (fg_ft (pc := 69) tb_Reader_testNumber 38 rfl) ff_Reader_207 ly_255 rfl (fg_lt ly_255 (by decide)) ((fg_u2ns (f := μ) (a := 255) (k := 13) (b := 255) (j := 10) (x := (nI v)) (by decide)).trans h10) ?_
              refine fg_ishl1 (fg_ft (pc := 72) tb_Reader_testNumber 39 rfl) (by omega) ?_
              refine fg_iorN (fg_ft (pc := 73) tb_Reader_testNumber 40 rfl) ?_
              refine fg_putI (fg_ft (pc := 74) tb_Reader_testNumber 41 rfl) ff_Reader_60 ly_255 rfl (fg_lt ly_255 (by decide)) (fg_nokI _) (fun _ _ h => by cases h; rfl) ?_
              show fg_wp _ _ _ _ _ _ _ _ _ (fg_u2 (fg_u2 μ 255 13 (nI v)) 255 11 (nI (tf ||| (2 ^ v))), fg_rho R, 304)
              refine fg_aloadn (fg_ft (pc := 77) tb_Reader_testNumber 42 rfl) rfl ?_
              refine fg_dup (fg_ft (pc := 78) tb_Reader_testNumber 43 rfl) rfl ?_
              refine fg_getV (v := (nI lf)) (fg_ft (pc := 79) tb_Reader_testNumber 44 rfl) ff_Reader_183 ly_255 rfl (fg_lt ly_255 (by decide)) ((fg_u2ns (f := (fg_u2 μ 255 13 (nI v))) (a := 255) (k := 11) (b := 255) (j := 12) (x := (nI (tf ||| (2 ^ v)))) (by decide)).trans ((fg_u2ns (f := μ) (a := 255) (k := 13) (b := 255) (j := 12) (x := (nI v)) (by decide)).trans h12)) ?_
              refine fg_iconst (fg_ft (pc := 82) tb_Reader_testNumber 45 rfl) ic_1 ?_
              refine fg_aloadn (fg_ft (pc := 83) tb_Reader_testNumber 46 rfl) rfl ?_
              refine fg_getV (v := (nI v)) (fg_ft (pc := 84) tb_Reader_testNumber 47 rfl) ff_Reader_207 ly_255 rfl (fg_lt ly_255 (by decide)) ((fg_u2ns (f := (fg_u2 μ 255 13 (nI v))) (a := 255) (k := 11) (b := 255) (j := 10) (x := (nI (tf ||| (2 ^ v)))) (by decide)).trans ((fg_u2ns (f := μ) (a := 255) (k := 13) (b := 255) (j := 10) (x := (nI v)) (by decide)).trans h10)) ?_
              refine fg_ishl1 (fg_ft (pc := 87) tb_Reader_testNumber 48 rfl) (by omega) ?_
              refine fg_iorN (fg_ft (pc := 88) tb_Reader_testNumber 49 rfl) ?_
              refine fg_putI (fg_ft (pc := 89) tb_Reader_testNumber 50 rfl) ff_Reader_183 ly_255 rfl (fg_lt ly_255 (by decide)) (fg_nokI _) (fun _ _ h => by cases h; rfl) ?_
              show fg_wp _ _ _ _ _ _ _ _ _ (fg_u2 (fg_u2 (fg_u2 μ 255 13 (nI v)) 255 11 (nI (tf ||| (2 ^ v)))) 255 12 (nI (lf ||| (2 ^ v))), fg_rho R, 304)
              exact fg_vret (fg_ft (pc := 92) tb_Reader_testNumber 51 rfl) rfl rfl (hQ _ (fun a j h => ((fg_u2nx (by omega)).trans ((fg_u2nx (by omega)).trans ((fg_u2nx (by omega)).trans rfl)))) (by rw [((pz_ffT c11).trans (if_neg (by omega)))]; exact ((fg_u2ns (by decide)).trans ((fg_u2ns (by decide)).trans ((fg_u2ns (by decide)).trans hF)))) (by rw [((pz_ffT c11).trans (if_neg (by omega))), if_pos rfl]; exact ((fg_u2ns (by decide)).trans ((fg_u2ns (by decide)).trans ((fg_u2ns (by decide)).trans h3)))) (by have g13 : (fg_u2 (fg_u2 (fg_u2 μ 255 13 (nI v)) 255 11 (nI (tf ||| (2 ^ v)))) 255 12 (nI (lf ||| (2 ^ v)))) 255 13 = _ := ((fg_u2ns (by decide)).trans ((fg_u2ns (by decide)).trans fg_u2eq)); unfold pz_f1; first | (rw [if_pos (by omega)]; exact g13) | (rw [if_neg (by omega)]; exact g13)) (fun _ => ⟨(by unfold pz_tf; first | (rw [if_pos (by omega)]; exact ((fg_u2ns (by decide)).trans fg_u2eq)) | (rw [if_neg (by omega)]; exact ((fg_u2ns (by decide)).trans fg_u2eq))), (by unfold pz_tf; first | (rw [if_pos (by omega)]; exact fg_u2eq) | (rw [if_neg (by omega)]; exact fg_u2eq))⟩))
      · refine fg_aloadn (fg_ft (pc := 33) tb_Reader_testNumber 18 rfl) rfl ?_
        refine fg_iconst (fg_ft (pc := 34) tb_Reader_testNumber 19 rfl) ic_3 ?_
        refine fg_callV (fg_ft (pc := 35) tb_Reader_testNumber 20 rfl) cf_Reader_192 (fg_isOf ly_255 rfl (fg_lt ly_255 (by decide))) (as := [.int (nI 3)]) (st := []) rfl rfl (Nat.le_of_ble_eq_true rfl) (Nat.le_refl _) (Nat.le_refl _) (ev_Reader_noteFault0 (s := s) hF h9 ?_)
        show fg_wp _ _ _ _ _ _ _ _ _ (fg_u2 (fg_u2 μ 255 2 (nI 3)) 255 3 (nI s), fg_rho R, 304)
        refine fg_iloadn (fg_ft (pc := 38) tb_Reader_testNumber 21 rfl) rfl ?_
        refine fg_if_neN (tgt := 50) (fg_ft (pc := 39) tb_Reader_testNumber 22 rfl) (by decide) (by omega) (fun c39 => ?_) (fun c39 => ?_)
        · refine fg_iloadn (fg_ft (pc := 50) tb_Reader_testNumber 27 rfl) rfl ?_
          refine fg_bipush (fg_ft (pc := 51) tb_Reader_testNumber 28 rfl) ib_102 ?_
          refine fg_icmp_eqN (tgt := 62) (fg_ft (pc := 53) tb_Reader_testNumber 29 rfl) (by decide) (by have := pz_sg_lt w i hw; omega) (by decide) (fun c53 => ?_) (fun c53 => ?_)
          · refine fg_aloadn (fg_ft (pc := 62) tb_Reader_testNumber 33 rfl) rfl ?_
            refine fg_dup (fg_ft (pc := 63) tb_Reader_testNumber 34 rfl) rfl ?_
            refine fg_getV (v := (nI tf)) (fg_ft (pc := 64) tb_Reader_testNumber 35 rfl) ff_Reader_60 ly_255 rfl (fg_lt ly_255 (by decide)) ((fg_u2ns (f := (fg_u2 μ 255 2 (nI 3))) (a := 255) (k := 3) (b := 255) (j := 11) (x := (nI s)) (by decide)).trans ((fg_u2ns (f := μ) (a := 255) (k := 2) (b := 255) (j := 11) (x := (nI 3)) (by decide)).trans h11)) ?_
            refine fg_iconst (fg_ft (pc := 67) tb_Reader_testNumber 36 rfl) ic_1 ?_
            refine fg_aloadn (fg_ft (pc := 68) tb_Reader_testNumber 37 rfl) rfl ?_
            refine fg_getV (v := (nI v)) (fg_ft (pc := 69) tb_Reader_testNumber 38 rfl) ff_Reader_207 ly_255 rfl (fg_lt ly_255 (by decide)) ((fg_u2ns (f := (fg_u2 μ 255 2 (nI 3))) (a := 255) (k := 3) (b := 255) (j := 10) (x := (nI s)) (by decide)).trans ((fg_u2ns (f := μ) (a := 255) (k := 2) (b := 255) (j := 10) (x := (nI 3)) (by decide)).trans h10)) ?_
            refine fg_ishl (fg_ft (pc := 72) tb_Reader_testNumber 39 rfl) ?_
            refine fg_ior (fg_ft (pc := 73) tb_Reader_testNumber 40 rfl) ?_
            refine fg_putI (fg_ft (pc := 74) tb_Reader_testNumber 41 rfl) ff_Reader_60 ly_255 rfl (fg_lt ly_255 (by decide)) (fg_nokI _) (fun _ _ h => by cases h; rfl) ?_
            show fg_wp _ _ _ _ _ _ _ _ _ (fg_u2 (fg_u2 (fg_u2 μ 255 2 (nI 3)) 255 3 (nI s)) 255 11 ((nI tf) ||| ((nI 1) <<< ((nI v) &&& 31))), fg_rho R, 304)
            refine fg_aloadn (fg_ft (pc := 77) tb_Reader_testNumber 42 rfl) rfl ?_
            refine fg_dup (fg_ft (pc := 78) tb_Reader_testNumber 43 rfl) rfl ?_
            refine fg_getV (v := (nI lf)) (fg_ft (pc := 79) tb_Reader_testNumber 44 rfl) ff_Reader_183 ly_255 rfl (fg_lt ly_255 (by decide)) ((fg_u2ns (f := (fg_u2 (fg_u2 μ 255 2 (nI 3)) 255 3 (nI s))) (a := 255) (k := 11) (b := 255) (j := 12) (x := ((nI tf) ||| ((nI 1) <<< ((nI v) &&& 31)))) (by decide)).trans ((fg_u2ns (f := (fg_u2 μ 255 2 (nI 3))) (a := 255) (k := 3) (b := 255) (j := 12) (x := (nI s)) (by decide)).trans ((fg_u2ns (f := μ) (a := 255) (k := 2) (b := 255) (j := 12) (x := (nI 3)) (by decide)).trans h12))) ?_
            refine fg_iconst (fg_ft (pc := 82) tb_Reader_testNumber 45 rfl) ic_1 ?_
            refine fg_aloadn (fg_ft (pc := 83) tb_Reader_testNumber 46 rfl) rfl ?_
            refine fg_getV (v := (nI v)) (fg_ft (pc := 84) tb_Reader_testNumber 47 rfl) ff_Reader_207 ly_255 rfl (fg_lt ly_255 (by decide)) ((fg_u2ns (f := (fg_u2 (fg_u2 μ 255 2 (nI 3)) 255 3 (nI s))) (a := 255) (k := 11) (b := 255) (j := 10) (x := ((nI tf) ||| ((nI 1) <<< ((nI v) &&& 31)))) (by decide)).trans ((fg_u2ns (f := (fg_u2 μ 255 2 (nI 3))) (a := 255) (k := 3) (b := 255) (j := 10) (x := (nI s)) (by decide)).trans ((fg_u2ns (f := μ) (a := 255) (k := 2) (b := 255) (j := 10) (x := (nI 3)) (by decide)).trans h10))) ?_
            refine fg_ishl (fg_ft (pc := 87) tb_Reader_testNumber 48 rfl) ?_
            refine fg_ior (fg_ft (pc := 88) tb_Reader_testNumber 49 rfl) ?_
            refine fg_putI (fg_ft (pc := 89) tb_Reader_testNumber 50 rfl) ff_Reader_183 ly_255 rfl (fg_lt ly_255 (by decide)) (fg_nokI _) (fun _ _ h => by cases h; rfl) ?_
            show fg_wp _ _ _ _ _ _ _ _ _ (fg_u2 (fg_u2 (fg_u2 (fg_u2 μ 255 2 (nI 3)) 255 3 (nI s)) 255 11 ((nI tf) ||| ((nI 1) <<< ((nI v) &&& 31)))) 255 12 ((nI lf) ||| ((nI 1) <<< ((nI v) &&& 31))), fg_rho R, 304)
            exact fg_vret (fg_ft (pc := 92) tb_Reader_testNumber 51 rfl) rfl rfl (hQ _ (fun a j h => ((fg_u2nx (by omega)).trans ((fg_u2nx (by omega)).trans ((fg_u2nx (by omega)).trans ((fg_u2nx (by omega)).trans rfl))))) (by rw [((pz_ffT c11).trans (if_pos ⟨c25, by omega⟩))]; exact ((fg_u2ns (by decide)).trans ((fg_u2ns (by decide)).trans ((fg_u2ns (by decide)).trans fg_u2eq)))) (by rw [((pz_ffT c11).trans (if_pos ⟨c25, by omega⟩)), if_neg (by decide)]; exact ((fg_u2ns (by decide)).trans ((fg_u2ns (by decide)).trans fg_u2eq))) (by have g13 : (fg_u2 (fg_u2 (fg_u2 (fg_u2 μ 255 2 (nI 3)) 255 3 (nI s)) 255 11 ((nI tf) ||| ((nI 1) <<< ((nI v) &&& 31)))) 255 12 ((nI lf) ||| ((nI 1) <<< ((nI v) &&& 31)))) 255 13 = _ := ((fg_u2ns (by decide)).trans ((fg_u2ns (by decide)).trans ((fg_u2ns (by decide)).trans ((fg_u2ns (by decide)).trans h13)))); unfold pz_f1; first | (rw [if_pos (by omega)]; exact g13) | (rw [if_neg (by omega)]; exact g13)) (fun hh => absurd (hh.symm.trans ((pz_ffT c11).trans (if_pos ⟨c25, by omega⟩))) (by decide)))
          · refine fg_iloadn (fg_ft (pc := 56) tb_Reader_testNumber 30 rfl) rfl ?_
            refine fg_bipush (fg_ft (pc := 57) tb_Reader_testNumber 31 rfl) ib_117 ?_
            refine fg_icmp_neN (tgt := 92) (fg_ft (pc := 59) tb_Reader_testNumber 32 rfl) (by decide) (by have := pz_sg_lt w i hw; omega) (by decide) (fun c59 => ?_) (fun c59 => ?_)
            · exact fg_vret (fg_ft (pc := 92) tb_Reader_testNumber 51 rfl) rfl rfl (hQ _ (fun a j h => ((fg_u2nx (by omega)).trans ((fg_u2nx (by omega)).trans rfl))) (by rw [((pz_ffT c11).trans (if_pos ⟨c25, by omega⟩))]; exact ((fg_u2ns (by decide)).trans fg_u2eq)) (by rw [((pz_ffT c11).trans (if_pos ⟨c25, by omega⟩)), if_neg (by decide)]; exact fg_u2eq) (by have g13 : (fg_u2 (fg_u2 μ 255 2 (nI 3)) 255 3 (nI s)) 255 13 = _ := ((fg_u2ns (by decide)).trans ((fg_u2ns (by decide)).trans h13)); unfold pz_f1; first | (rw [if_pos (by omega)]; exact g13) | (rw [if_neg (by omega)]; exact g13)) (fun hh => absurd (hh.symm.trans ((pz_ffT c11).trans (if_pos ⟨c25, by omega⟩))) (by decide)))
            · refine fg_aloadn (fg_ft (pc := 62) tb_Reader_testNumber 33 rfl) rfl ?_
              refine fg_dup (fg_ft (pc := 63) tb_Reader_testNumber 34 rfl) rfl ?_
              refine fg_getV (v := (nI tf)) (fg_ft (pc := 64) tb_Reader_testNumber 35 rfl) ff_Reader_60 ly_255 rfl (fg_lt ly_255 (by decide)) ((fg_u2ns (f := (fg_u2 μ 255 2 (nI 3))) (a := 255) (k := 3) (b := 255) (j := 11) (x := (nI s)) (by decide)).trans ((fg_u2ns (f := μ) (a := 255) (k := 2) (b := 255) (j := 11) (x := (nI 3)) (by decide)).trans h11)) ?_
              refine fg_iconst (fg_ft (pc := 67) tb_Reader_testNumber 36 rfl) ic_1 ?_
              refine fg_aloadn (fg_ft (pc := 68) tb_Reader_testNumber 37 rfl) rfl ?_
              refine fg_getV (v := (nI v)) (fg_ft (pc := 69) tb_Reader_testNumber 38 rfl) ff_Reader_207 ly_255 rfl (fg_lt ly_255 (by decide)) ((fg_u2ns (f := (fg_u2 μ 255 2 (nI 3))) (a := 255) (k := 3) (b := 255) (j := 10) (x := (nI s)) (by decide)).trans ((fg_u2ns (f := μ) (a := 255) (k := 2) (b := 255) (j := 10) (x := (nI 3)) (by decide)).trans h10)) ?_
              refine fg_ishl (fg_ft (pc := 72) tb_Reader_testNumber 39 rfl) ?_
              refine fg_ior (fg_ft (pc := 73) tb_Reader_testNumber 40 rfl) ?_
              refine fg_putI (fg_ft (pc := 74) tb_Reader_testNumber 41 rfl) ff_Reader_60 ly_255 rfl (fg_lt ly_255 (by decide)) (fg_nokI _) (fun _ _ h => by cases h; rfl) ?_
              show fg_wp _ _ _ _ _ _ _ _ _ (fg_u2 (fg_u2 (fg_u2 μ 255 2 (nI 3)) 255 3 (nI s)) 255 11 ((nI tf) ||| ((nI 1) <<< ((nI v) &&& 31))), fg_rho R, 304)
              refine fg_aloadn (fg_ft (pc := 77) tb_Reader_testNumber 42 rfl) rfl ?_
              refine fg_dup (fg_ft (pc := 78) tb_Reader_testNumber 43 rfl) rfl ?_
              refine fg_getV (v := (nI lf)) (fg_ft (pc := 79) tb_Reader_testNumber 44 rfl) ff_Reader_183 ly_255 rfl (fg_lt ly_255 (by decide)) ((fg_u2ns (f := (fg_u2 (fg_u2 μ 255 2 (nI 3)) 255 3 (nI s))) (a := 255) (k := 11) (b := 255) (j := 12) (x := ((nI tf) ||| ((nI 1) <<< ((nI v) &&& 31)))) (by decide)).trans ((fg_u2ns (f := (fg_u2 μ 255 2 (nI 3))) (a := 255) (k := 3) (b := 255) (j := 12) (x := (nI s)) (by decide)).trans ((fg_u2ns (f := μ) (a := 255) (k := 2) (b := 255) (j := 12) (x := (nI 3)) (by decide)).trans h12))) ?_
              refine fg_iconst (fg_ft (pc := 82) tb_Reader_testNumber 45 rfl) ic_1 ?_
              refine fg_aloadn (fg_ft (pc := 83) tb_Reader_testNumber 46 rfl) rfl ?_
              refine fg_getV (v := (nI v)) (fg_ft (pc := 84) tb_Reader_testNumber 47 rfl) ff_Reader_207 ly_255 rfl (fg_lt ly_255 (by decide)) ((fg_u2ns (f := (fg_u2 (fg_u2 μ 255 2 (nI 3)) 255 3 (nI s))) (a := 255) (k := 11) (b := 255) (j := 10) (x := ((nI tf) ||| ((nI 1) <<< ((nI v) &&& 31)))) (by decide)).trans ((fg_u2ns (f := (fg_u2 μ 255 2 (nI 3))) (a := 255) (k := 3) (b := 255) (j := 10) (x := (nI s)) (by decide)).trans ((fg_u2ns (f := μ) (a := 255) (k := 2) (b := 255) (j := 10) (x := (nI 3)) (by decide)).trans h10))) ?_
              refine fg_ishl (fg_ft (pc := 87) tb_Reader_testNumber 48 rfl) ?_
              refine fg_ior (fg_ft (pc := 88) tb_Reader_testNumber 49 rfl) ?_
              refine fg_putI (fg_ft (pc := 89) tb_Reader_testNumber 50 rfl) ff_Reader_183 ly_255 rfl (fg_lt ly_255 (by decide)) (fg_nokI _) (fun _ _ h => by cases h; rfl) ?_
              show fg_wp _ _ _ _ _ _ _ _ _ (fg_u2 (fg_u2 (fg_u2 (fg_u2 μ 255 2 (nI 3)) 255 3 (nI s)) 255 11 ((nI tf) ||| ((nI 1) <<< ((nI v) &&& 31)))) 255 12 ((nI lf) ||| ((nI 1) <<< ((nI v) &&& 31))), fg_rho R, 304)
              exact fg_vret (fg_ft (pc := 92) tb_Reader_testNumber 51 rfl) rfl rfl (hQ _ (fun a j h => ((fg_u2nx (by omega)).trans ((fg_u2nx (by omega)).trans ((fg_u2nx (by omega)).trans ((fg_u2nx (by omega)).trans rfl))))) (by rw [((pz_ffT c11).trans (if_pos ⟨c25, by omega⟩))]; exact ((fg_u2ns (by decide)).trans ((fg_u2ns (by decide)).trans ((fg_u2ns (by decide)).trans fg_u2eq)))) (by rw [((pz_ffT c11).trans (if_pos ⟨c25, by omega⟩)), if_neg (by decide)]; exact ((fg_u2ns (by decide)).trans ((fg_u2ns (by decide)).trans fg_u2eq))) (by have g13 : (fg_u2 (fg_u2 (fg_u2 (fg_u2 μ 255 2 (nI 3)) 255 3 (nI s)) 255 11 ((nI tf) ||| ((nI 1) <<< ((nI v) &&& 31)))) 255 12 ((nI lf) ||| ((nI 1) <<< ((nI v) &&& 31)))) 255 13 = _ := ((fg_u2ns (by decide)).trans ((fg_u2ns (by decide)).trans ((fg_u2ns (by decide)).trans ((fg_u2ns (by decide)).trans h13)))); unfold pz_f1; first | (rw [if_pos (by omega)]; exact g13) | (rw [if_neg (by omega)]; exact g13)) (fun hh => absurd (hh.symm.trans ((pz_ffT c11).trans (if_pos ⟨c25, by omega⟩))) (by decide)))
        · refine fg_aloadn (fg_ft (pc := 42) tb_Reader_testNumber 23 rfl) rfl ?_
          refine fg_aloadn (fg_ft (pc := 43) tb_Reader_testNumber 24 rfl) rfl ?_
          refine fg_getV (v := (nI v)) (fg_ft (pc := 44) tb_Reader_testNumber 25 rfl) ff_Reader_207 ly_255 rfl (fg_lt ly_255 (by decide)) ((fg_u2ns (f := (fg_u2 μ 255 2 (nI 3))) (a := 255) (k := 3) (b := 255) (j := 10) (x := (nI s)) (by decide)).trans ((fg_u2ns (f := μ) (a := 255) (k := 2) (b := 255) (j := 10) (x := (nI 3)) (by decide)).trans h10)) ?_
          refine fg_putI (fg_ft (pc := 47) tb_Reader_testNumber 26 rfl) ff_Reader_186 ly_255 rfl (fg_lt ly_255 (by decide)) (fg_nokI _) (fun _ _ h => by cases h; rfl) ?_
          show fg_wp _ _ _ _ _ _ _ _ _ (fg_u2 (fg_u2 (fg_u2 μ 255 2 (nI 3)) 255 3 (nI s)) 255 13 (nI v), fg_rho R, 304)
          refine fg_iloadn (fg_ft (pc := 50) tb_Reader_testNumber 27 rfl) rfl ?_
          refine fg_bipush (fg_ft (pc := 51) tb_Reader_testNumber 28 rfl) ib_102 ?_
          refine fg_icmp_eqN (tgt := 62) (fg_ft (pc := 53) tb_Reader_testNumber 29 rfl) (by decide) (by have := pz_sg_lt w i hw; omega) (by decide) (fun c53 => ?_) (fun c53 => ?_)
          · refine fg_aloadn (fg_ft (pc := 62) tb_Reader_testNumber 33 rfl) rfl ?_
            refine fg_dup (fg_ft (pc := 63) tb_Reader_testNumber 34 rfl) rfl ?_
            refine fg_getV (v := (nI tf)) (fg_ft (pc := 64) tb_Reader_testNumber 35 rfl) ff_Reader_60 ly_255 rfl (fg_lt ly_255 (by decide)) ((fg_u2ns (f := (fg_u2 (fg_u2 μ 255 2 (nI 3)) 255 3 (nI s))) (a := 255) (k := 13) (b := 255) (j := 11) (x := (nI v)) (by decide)).trans ((fg_u2ns (f := (fg_u2 μ 255 2 (nI 3))) (a := 255) (k := 3) (b := 255) (j := 11) (x := (nI s)) (by decide)).trans ((fg_u2ns (f := μ) (a := 255) (k := 2) (b := 255) (j := 11) (x := (nI 3)) (by decide)).trans h11))) ?_
            refine fg_iconst (fg_ft (pc := 67) tb_Reader_testNumber 36 rfl) ic_1 ?_
            refine fg_aloadn (fg_ft (pc := 68) tb_Reader_testNumber 37 rfl) rfl ?_
            refine fg_getV (v := (nI v)) (fg_ft (pc := 69) tb_Reader_testNumber 38 rfl) ff_Reader_207 ly_255 rfl (fg_lt ly_255 (by decide)) ((fg_u2ns (f := (fg_u2 (fg_u2 μ 255 2 (nI 3)) 255 3 (nI s))) (a := 255) (k := 13) (b := 255) (j := 10) (x := (nI v)) (by decide)).trans ((fg_u2ns (f := (fg_u2 μ 255 2 (nI 3))) (a := 255) (k := 3) (b := 255) (j := 10) (x := (nI s)) (by decide)).trans ((fg_u2ns (f := μ) (a := 255) (k := 2) (b := 255) (j := 10) (x := (nI 3)) (by decide)).trans h10))) ?_
            refine fg_ishl (fg_ft (pc := 72) tb_Reader_testNumber 39 rfl) ?_
            refine fg_ior (fg_ft (pc := 73) tb_Reader_testNumber 40 rfl) ?_
            refine fg_putI (fg_ft (pc := 74) tb_Reader_testNumber 41 rfl) ff_Reader_60 ly_255 rfl (fg_lt ly_255 (by decide)) (fg_nokI _) (fun _ _ h => by cases h; rfl) ?_
            show fg_wp _ _ _ _ _ _ _ _ _ (fg_u2 (fg_u2 (fg_u2 (fg_u2 μ 255 2 (nI 3)) 255 3 (nI s)) 255 13 (nI v)) 255 11 ((nI tf) ||| ((nI 1) <<< ((nI v) &&& 31))), fg_rho R, 304)
            refine fg_aloadn (fg_ft (pc := 77) tb_Reader_testNumber 42 rfl) rfl ?_
            refine fg_dup (fg_ft (pc := 78) tb_Reader_testNumber 43 rfl) rfl ?_
            refine fg_getV (v := (nI lf)) (fg_ft (pc := 79) tb_Reader_testNumber 44 rfl) ff_Reader_183 ly_255 rfl (fg_lt ly_255 (by decide)) ((fg_u2ns (f := (fg_u2 (fg_u2 (fg_u2 μ 255 2 (nI 3)) 255 3 (nI s)) 255 13 (nI v))) (a := 255) (k := 11) (b := 255) (j := 12) (x := ((nI tf) ||| ((nI 1) <<< ((nI v) &&& 31)))) (by decide)).trans ((fg_u2ns (f := (fg_u2 (fg_u2 μ 255 2 (nI 3)) 255 3 (nI s))) (a := 255) (k := 13) (b := 255) (j := 12) (x := (nI v)) (by decide)).trans ((fg_u2ns (f := (fg_u2 μ 255 2 (nI 3))) (a := 255) (k := 3) (b := 255) (j := 12) (x := (nI s)) (by decide)).trans ((fg_u2ns (f := μ) (a := 255) (k := 2) (b := 255) (j := 12) (x := (nI 3)) (by decide)).trans h12)))) ?_
            refine fg_iconst (fg_ft (pc := 82) tb_Reader_testNumber 45 rfl) ic_1 ?_
            refine fg_aloadn (fg_ft (pc := 83) tb_Reader_testNumber 46 rfl) rfl ?_
            refine fg_getV (v := (nI v)) (fg_ft (pc := 84) tb_Reader_testNumber 47 rfl) ff_Reader_207 ly_255 rfl (fg_lt ly_255 (by decide)) ((fg_u2ns (f := (fg_u2 (fg_u2 (fg_u2 μ 255 2 (nI 3)) 255 3 (nI s)) 255 13 (nI v))) (a := 255) (k := 11) (b := 255) (j := 10) (x := ((nI tf) ||| ((nI 1) <<< ((nI v) &&& 31)))) (by decide)).trans ((fg_u2ns (f := (fg_u2 (fg_u2 μ 255 2 (nI 3)) 255 3 (nI s))) (a := 255) (k := 13) (b := 255) (j := 10) (x := (nI v)) (by decide)).trans ((fg_u2ns (f := (fg_u2 μ 255 2 (nI 3))) (a := 255) (k := 3) (b := 255) (j := 10) (x := (nI s)) (by decide)).trans ((fg_u2ns (f := μ) (a := 255) (k := 2) (b := 255) (j := 10) (x := (nI 3)) (by decide)).trans h10)))) ?_
            refine fg_ishl (fg_ft (pc := 87) tb_Reader_testNumber 48 rfl) ?_
            refine fg_ior (fg_ft (pc := 88) tb_Reader_testNumber 49 rfl) ?_
            refine fg_putI (fg_ft (pc := 89) tb_Reader_testNumber 50 rfl) ff_Reader_183 ly_255 rfl (fg_lt ly_255 (by decide)) (fg_nokI _) (fun _ _ h => by cases h; rfl) ?_
            show fg_wp _ _ _ _ _ _ _ _ _ (fg_u2 (fg_u2 (fg_u2 (fg_u2 (fg_u2 μ 255 2 (nI 3)) 255 3 (nI s)) 255 13 (nI v)) 255 11 ((nI tf) ||| ((nI 1) <<< ((nI v) &&& 31)))) 255 12 ((nI lf) ||| ((nI 1) <<< ((nI v) &&& 31))), fg_rho R, 304)
            exact fg_vret (fg_ft (pc := 92) tb_Reader_testNumber 51 rfl) rfl rfl (hQ _ (fun a j h => ((fg_u2nx (by omega)).trans ((fg_u2nx (by omega)).trans ((fg_u2nx (by omega)).trans ((fg_u2nx (by omega)).trans ((fg_u2nx (by omega)).trans rfl)))))) (by rw [((pz_ffT c11).trans (if_pos ⟨c25, by omega⟩))]; exact ((fg_u2ns (by decide)).trans ((fg_u2ns (by decide)).trans ((fg_u2ns (by decide)).trans ((fg_u2ns (by decide)).trans fg_u2eq))))) (by rw [((pz_ffT c11).trans (if_pos ⟨c25, by omega⟩)), if_neg (by decide)]; exact ((fg_u2ns (by decide)).trans ((fg_u2ns (by decide)).trans ((fg_u2ns (by decide)).trans fg_u2eq)))) (by have g13 : (fg_u2 (fg_u2 (fg_u2 (fg_u2 (fg_u2 μ 255 2 (nI 3)) 255 3 (nI s)) 255 13 (nI v)) 255 11 ((nI tf) ||| ((nI 1) <<< ((nI v) &&& 31)))) 255 12 ((nI lf) ||| ((nI 1) <<< ((nI v) &&& 31)))) 255 13 = _ := ((fg_u2ns (by decide)).trans ((fg_u2ns (by decide)).trans fg_u2eq)); unfold pz_f1; first | (rw [if_pos (by omega)]; exact g13) | (rw [if_neg (by omega)]; exact g13)) (fun hh => absurd (hh.symm.trans ((pz_ffT c11).trans (if_pos ⟨c25, by omega⟩))) (by decide)))
          · refine fg_iloadn (fg_ft (pc := 56) tb_Reader_testNumber 30 rfl) rfl ?_
            refine fg_bipush (fg_ft (pc := 57) tb_Reader_testNumber 31 rfl) ib_117 ?_
            refine fg_icmp_neN (tgt := 92) (fg_ft (pc := 59) tb_Reader_testNumber 32 rfl) (by decide) (by have := pz_sg_lt w i hw; omega) (by decide) (fun c59 => ?_) (fun c59 => ?_)
            · exact fg_vret (fg_ft (pc := 92) tb_Reader_testNumber 51 rfl) rfl rfl (hQ _ (fun a j h => ((fg_u2nx (by omega)).trans ((fg_u2nx (by omega)).trans ((fg_u2nx (by omega)).trans rfl)))) (by rw [((pz_ffT c11).trans (if_pos ⟨c25, by omega⟩))]; exact ((fg_u2ns (by decide)).trans ((fg_u2ns (by decide)).trans fg_u2eq))) (by rw [((pz_ffT c11).trans (if_pos ⟨c25, by omega⟩)), if_neg (by decide)]; exact ((fg_u2ns (by decide)).trans fg_u2eq)) (by have g13 : (fg_u2 (fg_u2 (fg_u2 μ 255 2 (nI 3)) 255 3 (nI s)) 255 13 (nI v)) 255 13 = _ := fg_u2eq; unfold pz_f1; first | (rw [if_pos (by omega)]; exact g13) | (rw [if_neg (by omega)]; exact g13)) (fun hh => absurd (hh.symm.trans ((pz_ffT c11).trans (if_pos ⟨c25, by omega⟩))) (by decide)))
            · refine fg_aloadn (fg_ft (pc := 62) tb_Reader_testNumber 33 rfl) rfl ?_
              refine fg_dup (fg_ft (pc := 63) tb_Reader_testNumber 34 rfl) rfl ?_
              refine fg_getV (v := (nI tf)) (fg_ft (pc := 64) tb_Reader_testNumber 35 rfl) ff_Reader_60 ly_255 rfl (fg_lt ly_255 (by decide)) ((fg_u2ns (f := (fg_u2 (fg_u2 μ 255 2 (nI 3)) 255 3 (nI s))) (a := 255) (k := 13) (b := 255) (j := 11) (x := (nI v)) (by decide)).trans ((fg_u2ns (f := (fg_u2 μ 255 2 (nI 3))) (a := 255) (k := 3) (b := 255) (j := 11) (x := (nI s)) (by decide)).trans ((fg_u2ns (f := μ) (a := 255) (k := 2) (b := 255) (j := 11) (x := (nI 3)) (by decide)).trans h11))) ?_
              refine fg_iconst (fg_ft (pc := 67) tb_Reader_testNumber 36 rfl) ic_1 ?_
              refine fg_aloadn (fg_ft (pc := 68) tb_Reader_testNumber 37 rfl) rfl ?_
              refine fg_getV (v := (nI v)) (fg_ft (pc := 69) tb_Reader_testNumber 38 rfl) ff_Reader_207 ly_255 rfl (fg_lt ly_255 (by decide)) ((fg_u2ns (f := (fg_u2 (fg_u2 μ 255 2 (nI 3)) 255 3 (nI s))) (a := 255) (k := 13) (b := 255) (j := 10) (x := (nI v)) (by decide)).trans ((fg_u2ns (f := (fg_u2 μ 255 2 (nI 3))) (a := 255) (k := 3) (b := 255) (j := 10) (x := (nI s)) (by decide)).trans ((fg_u2ns (f := μ) (a := 255) (k := 2) (b := 255) (j := 10) (x := (nI 3)) (by decide)).trans h10))) ?_
              refine fg_ishl (fg_ft (pc := 72) tb_Reader_testNumber 39 rfl) ?_
              refine fg_ior (fg_ft (pc := 73) tb_Reader_testNumber 40 rfl) ?_
              refine fg_putI (fg_ft (pc := 74) tb_Reader_testNumber 41 rfl) ff_Reader_60 ly_255 rfl (fg_lt ly_255 (by decide)) (fg_nokI _) (fun _ _ h => by cases h; rfl) ?_
              show fg_wp _ _ _ _ _ _ _ _ _ (fg_u2 (fg_u2 (fg_u2 (fg_u2 μ 255 2 (nI 3)) 255 3 (nI s)) 255 13 (nI v)) 255 11 ((nI tf) ||| ((nI 1) <<< ((nI v) &&& 31))), fg_rho R, 304)
              refine fg_aloadn (fg_ft (pc := 77) tb_Reader_testNumber 42 rfl) rfl ?_
              refine fg_dup (fg_ft (pc := 78) tb_Reader_testNumber 43 rfl) rfl ?_
              refine fg_getV (v := (nI lf)) (fg_ft (pc := 79) tb_Reader_testNumber 44 rfl) ff_Reader_183 ly_255 rfl (fg_lt ly_255 (by decide)) ((fg_u2ns (f := (fg_u2 (fg_u2 (fg_u2 μ 255 2 (nI 3)) 255 3 (nI s)) 255 13 (nI v))) (a := 255) (k := 11) (b := 255) (j := 12) (x := ((nI tf) ||| ((nI 1) <<< ((nI v) &&& 31)))) (by decide)).trans ((fg_u2ns (f := (fg_u2 (fg_u2 μ 255 2 (nI 3)) 255 3 (nI s))) (a := 255) (k := 13) (b := 255) (j := 12) (x := (nI v)) (by decide)).trans ((fg_u2ns (f := (fg_u2 μ 255 2 (nI 3))) (a := 255) (k := 3) (b := 255) (j := 12) (x := (nI s)) (by decide)).trans ((fg_u2ns (f := μ) (a := 255) (k := 2) (b := 255) (j := 12) (x := (nI 3)) (by decide)).trans h12)))) ?_
              refine fg_iconst (fg_ft (pc := 82) tb_Reader_testNumber 45 rfl) ic_1 ?_
              refine fg_aloadn (fg_ft (pc := 83) tb_Reader_testNumber 46 rfl) rfl ?_
              refine fg_getV (v := (nI v)) (fg_ft (pc := 84) tb_Reader_testNumber 47 rfl) ff_Reader_207 ly_255 rfl (fg_lt ly_255 (by decide)) ((fg_u2ns (f := (fg_u2 (fg_u2 (fg_u2 μ 255 2 (nI 3)) 255 3 (nI s)) 255 13 (nI v))) (a := 255) (k := 11) (b := 255) (j := 10) (x := ((nI tf) ||| ((nI 1) <<< ((nI v) &&& 31)))) (by decide)).trans ((fg_u2ns (f := (fg_u2 (fg_u2 μ 255 2 (nI 3)) 255 3 (nI s))) (a := 255) (k := 13) (b := 255) (j := 10) (x := (nI v)) (by decide)).trans ((fg_u2ns (f := (fg_u2 μ 255 2 (nI 3))) (a := 255) (k := 3) (b := 255) (j := 10) (x := (nI s)) (by decide)).trans ((fg_u2ns (f := μ) (a := 255) (k := 2) (b := 255) (j := 10) (x := (nI 3)) (by decide)).trans h10)))) ?_
              refine fg_ishl (fg_ft (pc := 87) tb_Reader_testNumber 48 rfl) ?_
              refine fg_ior (fg_ft (pc := 88) tb_Reader_testNumber 49 rfl) ?_
              refine fg_putI (fg_ft (pc := 89) tb_Reader_testNumber 50 rfl) ff_Reader_183 ly_255 rfl (fg_lt ly_255 (by decide)) (fg_nokI _) (fun _ _ h => by cases h; rfl) ?_
              show fg_wp _ _ _ _ _ _ _ _ _ (fg_u2 (fg_u2 (fg_u2 (fg_u2 (fg_u2 μ 255 2 (nI 3)) 255 3 (nI s)) 255 13 (nI v)) 255 11 ((nI tf) ||| ((nI 1) <<< ((nI v) &&& 31)))) 255 12 ((nI lf) ||| ((nI 1) <<< ((nI v) &&& 31))), fg_rho R, 304)
              exact fg_vret (fg_ft (pc := 92) tb_Reader_testNumber 51 rfl) rfl rfl (hQ _ (fun a j h => ((fg_u2nx (by omega)).trans ((fg_u2nx (by omega)).trans ((fg_u2nx (by omega)).trans ((fg_u2nx (by omega)).trans ((fg_u2nx (by omega)).trans rfl)))))) (by rw [((pz_ffT c11).trans (if_pos ⟨c25, by omega⟩))]; exact ((fg_u2ns (by decide)).trans ((fg_u2ns (by decide)).trans ((fg_u2ns (by decide)).trans ((fg_u2ns (by decide)).trans fg_u2eq))))) (by rw [((pz_ffT c11).trans (if_pos ⟨c25, by omega⟩)), if_neg (by decide)]; exact ((fg_u2ns (by decide)).trans ((fg_u2ns (by decide)).trans ((fg_u2ns (by decide)).trans fg_u2eq)))) (by have g13 : (fg_u2 (fg_u2 (fg_u2 (fg_u2 (fg_u2 μ 255 2 (nI 3)) 255 3 (nI s)) 255 13 (nI v)) 255 11 ((nI tf) ||| ((nI 1) <<< ((nI v) &&& 31)))) 255 12 ((nI lf) ||| ((nI 1) <<< ((nI v) &&& 31)))) 255 13 = _ := ((fg_u2ns (by decide)).trans ((fg_u2ns (by decide)).trans fg_u2eq)); unfold pz_f1; first | (rw [if_pos (by omega)]; exact g13) | (rw [if_neg (by omega)]; exact g13)) (fun hh => absurd (hh.symm.trans ((pz_ffT c11).trans (if_pos ⟨c25, by omega⟩))) (by decide)))
  · refine fg_aloadn (fg_ft (pc := 14) tb_Reader_testNumber 8 rfl) rfl ?_
    refine fg_iconst (fg_ft (pc := 15) tb_Reader_testNumber 9 rfl) ic_2 ?_
    refine fg_callV (fg_ft (pc := 16) tb_Reader_testNumber 10 rfl) cf_Reader_192 (fg_isOf ly_255 rfl (fg_lt ly_255 (by decide))) (as := [.int (nI 2)]) (st := []) rfl rfl (Nat.le_of_ble_eq_true rfl) (Nat.le_refl _) (Nat.le_refl _) (ev_Reader_noteFault0 (s := s) hF h9 ?_)
    show fg_wp _ _ _ _ _ _ _ _ _ (fg_u2 (fg_u2 μ 255 2 (nI 2)) 255 3 (nI s), fg_rho R, 304)
    refine fg_goto (tgt := 38) (fg_ft (pc := 19) tb_Reader_testNumber 11 rfl) (by decide) ?_
    refine fg_iloadn (fg_ft (pc := 38) tb_Reader_testNumber 21 rfl) rfl ?_
    refine fg_if_neN (tgt := 50) (fg_ft (pc := 39) tb_Reader_testNumber 22 rfl) (by decide) (by omega) (fun c39 => ?_) (fun c39 => ?_)
    · refine fg_iloadn (fg_ft (pc := 50) tb_Reader_testNumber 27 rfl) rfl ?_
      refine fg_bipush (fg_ft (pc := 51) tb_Reader_testNumber 28 rfl) ib_102 ?_
      refine fg_icmp_eqN (tgt := 62) (fg_ft (pc := 53) tb_Reader_testNumber 29 rfl) (by decide) (by have := pz_sg_lt w i hw; omega) (by decide) (fun c53 => ?_) (fun c53 => ?_)
      · refine fg_aloadn (fg_ft (pc := 62) tb_Reader_testNumber 33 rfl) rfl ?_
        refine fg_dup (fg_ft (pc := 63) tb_Reader_testNumber 34 rfl) rfl ?_
        refine fg_getV (v := (nI tf)) (fg_ft (pc := 64) tb_Reader_testNumber 35 rfl) ff_Reader_60 ly_255 rfl (fg_lt ly_255 (by decide)) ((fg_u2ns (f := (fg_u2 μ 255 2 (nI 2))) (a := 255) (k := 3) (b := 255) (j := 11) (x := (nI s)) (by decide)).trans ((fg_u2ns (f := μ) (a := 255) (k := 2) (b := 255) (j := 11) (x := (nI 2)) (by decide)).trans h11)) ?_
        refine fg_iconst (fg_ft (pc := 67) tb_Reader_testNumber 36 rfl) ic_1 ?_
        refine fg_aloadn (fg_ft (pc := 68) tb_Reader_testNumber 37 rfl) rfl ?_
        refine fg_getV (v := (nI v)) (fg_ft (pc := 69) tb_Reader_testNumber 38 rfl) ff_Reader_207 ly_255 rfl (fg_lt ly_255 (by decide)) ((fg_u2ns (f := (fg_u2 μ 255 2 (nI 2))) (a := 255) (k := 3) (b := 255) (j := 10) (x := (nI s)) (by decide)).trans ((fg_u2ns (f := μ) (a := 255) (k := 2) (b := 255) (j := 10) (x := (nI 2)) (by decide)).trans h10)) ?_
        refine fg_ishl (fg_ft (pc := 72) tb_Reader_testNumber 39 rfl) ?_
        refine fg_ior (fg_ft (pc := 73) tb_Reader_testNumber 40 rfl) ?_
        refine fg_putI (fg_ft (pc := 74) tb_Reader_testNumber 41 rfl) ff_Reader_60 ly_255 rfl (fg_lt ly_255 (by decide)) (fg_nokI _) (fun _ _ h => by cases h; rfl) ?_
        show fg_wp _ _ _ _ _ _ _ _ _ (fg_u2 (fg_u2 (fg_u2 μ 255 2 (nI 2)) 255 3 (nI s)) 255 11 ((nI tf) ||| ((nI 1) <<< ((nI v) &&& 31))), fg_rho R, 304)
        refine fg_aloadn (fg_ft (pc := 77) tb_Reader_testNumber 42 rfl) rfl ?_
        refine fg_dup (fg_ft (pc := 78) tb_Reader_testNumber 43 rfl) rfl ?_
        refine fg_getV (v := (nI lf)) (fg_ft (pc := 79) tb_Reader_testNumber 44 rfl) ff_Reader_183 ly_255 rfl (fg_lt ly_255 (by decide)) ((fg_u2ns (f := (fg_u2 (fg_u2 μ 255 2 (nI 2)) 255 3 (nI s))) (a := 255) (k := 11) (b := 255) (j := 12) (x := ((nI tf) ||| ((nI 1) <<< ((nI v) &&& 31)))) (by decide)).trans ((fg_u2ns (f := (fg_u2 μ 255 2 (nI 2))) (a := 255) (k := 3) (b := 255) (j := 12) (x := (nI s)) (by decide)).trans ((fg_u2ns (f := μ) (a := 255) (k := 2) (b := 255) (j := 12) (x := (nI 2)) (by decide)).trans h12))) ?_
        refine fg_iconst (fg_ft (pc := 82) tb_Reader_testNumber 45 rfl) ic_1 ?_
        refine fg_aloadn (fg_ft (pc := 83) tb_Reader_testNumber 46 rfl) rfl ?_
        refine fg_getV (v := (nI v)) (fg_ft (pc := 84) tb_Reader_testNumber 47 rfl) ff_Reader_207 ly_255 rfl (fg_lt ly_255 (by decide)) ((fg_u2ns (f := (fg_u2 (fg_u2 μ 255 2 (nI 2)) 255 3 (nI s))) (a := 255) (k := 11) (b := 255) (j := 10) (x := ((nI tf) ||| ((nI 1) <<< ((nI v) &&& 31)))) (by decide)).trans ((fg_u2ns (f := (fg_u2 μ 255 2 (nI 2))) (a := 255) (k := 3) (b := 255) (j := 10) (x := (nI s)) (by decide)).trans ((fg_u2ns (f := μ) (a := 255) (k := 2) (b := 255) (j := 10) (x := (nI 2)) (by decide)).trans h10))) ?_
        refine fg_ishl (fg_ft (pc := 87) tb_Reader_testNumber 48 rfl) ?_
        refine fg_ior (fg_ft (pc := 88) tb_Reader_testNumber 49 rfl) ?_
        refine fg_putI (fg_ft (pc := 89) tb_Reader_testNumber 50 rfl) ff_Reader_183 ly_255 rfl (fg_lt ly_255 (by decide)) (fg_nokI _) (fun _ _ h => by cases h; rfl) ?_
        show fg_wp _ _ _ _ _ _ _ _ _ (fg_u2 (fg_u2 (fg_u2 (fg_u2 μ 255 2 (nI 2)) 255 3 (nI s)) 255 11 ((nI tf) ||| ((nI 1) <<< ((nI v) &&& 31)))) 255 12 ((nI lf) ||| ((nI 1) <<< ((nI v) &&& 31))), fg_rho R, 304)
        exact fg_vret (fg_ft (pc := 92) tb_Reader_testNumber 51 rfl) rfl rfl (hQ _ (fun a j h => ((fg_u2nx (by omega)).trans ((fg_u2nx (by omega)).trans ((fg_u2nx (by omega)).trans ((fg_u2nx (by omega)).trans rfl))))) (by rw [(pz_ffF c11)]; exact ((fg_u2ns (by decide)).trans ((fg_u2ns (by decide)).trans ((fg_u2ns (by decide)).trans fg_u2eq)))) (by rw [(pz_ffF c11), if_neg (by decide)]; exact ((fg_u2ns (by decide)).trans ((fg_u2ns (by decide)).trans fg_u2eq))) (by have g13 : (fg_u2 (fg_u2 (fg_u2 (fg_u2 μ 255 2 (nI 2)) 255 3 (nI s)) 255 11 ((nI tf) ||| ((nI 1) <<< ((nI v) &&& 31)))) 255 12 ((nI lf) ||| ((nI 1) <<< ((nI v) &&& 31)))) 255 13 = _ := ((fg_u2ns (by decide)).trans ((fg_u2ns (by decide)).trans ((fg_u2ns (by decide)).trans ((fg_u2ns (by decide)).trans h13)))); unfold pz_f1; first | (rw [if_pos (by omega)]; exact g13) | (rw [if_neg (by omega)]; exact g13)) (fun hh => absurd (hh.symm.trans (pz_ffF c11)) (by decide)))
      · refine fg_iloadn (fg_ft (pc := 56) tb_Reader_testNumber 30 rfl) rfl ?_
        refine fg_bipush (fg_ft (pc := 57) tb_Reader_testNumber 31 rfl) ib_117 ?_
        refine fg_icmp_neN (tgt := 92) (fg_ft (pc := 59) tb_Reader_testNumber 32 rfl) (by decide) (by have := pz_sg_lt w i hw; omega) (by decide) (fun c59 => ?_) (fun c59 => ?_)
        · exact fg_vret (fg_ft (pc := 92) tb_Reader_testNumber 51 rfl) rfl rfl (hQ _ (fun a j h => ((fg_u2nx (by omega)).trans ((fg_u2nx (by omega)).trans rfl))) (by rw [(pz_ffF c11)]; exact ((fg_u2ns (by decide)).trans fg_u2eq)) (by rw [(pz_ffF c11), if_neg (by decide)]; exact fg_u2eq) (by have g13 : (fg_u2 (fg_u2 μ 255 2 (nI 2)) 255 3 (nI s)) 255 13 = _ := ((fg_u2ns (by decide)).trans ((fg_u2ns (by decide)).trans h13)); unfold pz_f1; first | (rw [if_pos (by omega)]; exact g13) | (rw [if_neg (by omega)]; exact g13)) (fun hh => absurd (hh.symm.trans (pz_ffF c11)) (by decide)))
        · refine fg_aloadn (fg_ft (pc := 62) tb_Reader_testNumber 33 rfl) rfl ?_
          refine fg_dup (fg_ft (pc := 63) tb_Reader_testNumber 34 rfl) rfl ?_
          refine fg_getV (v := (nI tf)) (fg_ft (pc := 64) tb_Reader_testNumber 35 rfl) ff_Reader_60 ly_255 rfl (fg_lt ly_255 (by decide)) ((fg_u2ns (f := (fg_u2 μ 255 2 (nI 2))) (a := 255) (k := 3) (b := 255) (j := 11) (x := (nI s)) (by decide)).trans ((fg_u2ns (f := μ) (a := 255) (k := 2) (b := 255) (j := 11) (x := (nI 2)) (by decide)).trans h11)) ?_
          refine fg_iconst (fg_ft (pc := 67) tb_Reader_testNumber 36 rfl) ic_1 ?_
          refine fg_aloadn (fg_ft (pc := 68) tb_Reader_testNumber 37 rfl) rfl ?_
          refine fg_getV (v := (nI v)) (fg_ft (pc := 69) tb_Reader_testNumber 38 rfl) ff_Reader_207 ly_255 rfl (fg_lt ly_255 (by decide)) ((fg_u2ns (f := (fg_u2 μ 255 2 (nI 2))) (a := 255) (k := 3) (b := 255) (j := 10) (x := (nI s)) (by decide)).trans ((fg_u2ns (f := μ) (a := 255) (k := 2) (b := 255) (j := 10) (x := (nI 2)) (by decide)).trans h10)) ?_
          refine fg_ishl (fg_ft (pc := 72) tb_Reader_testNumber 39 rfl) ?_
          refine fg_ior (fg_ft (pc := 73) tb_Reader_testNumber 40 rfl) ?_
          refine fg_putI (fg_ft (pc := 74) tb_Reader_testNumber 41 rfl) ff_Reader_60 ly_255 rfl (fg_lt ly_255 (by decide)) (fg_nokI _) (fun _ _ h => by cases h; rfl) ?_
          show fg_wp _ _ _ _ _ _ _ _ _ (fg_u2 (fg_u2 (fg_u2 μ 255 2 (nI 2)) 255 3 (nI s)) 255 11 ((nI tf) ||| ((nI 1) <<< ((nI v) &&& 31))), fg_rho R, 304)
          refine fg_aloadn (fg_ft (pc := 77) tb_Reader_testNumber 42 rfl) rfl ?_
          refine fg_dup (fg_ft (pc := 78) tb_Reader_testNumber 43 rfl) rfl ?_
          refine fg_getV (v := (nI lf)) (fg_ft (pc := 79) tb_Reader_testNumber 44 rfl) ff_Reader_183 ly_255 rfl (fg_lt ly_255 (by decide)) ((fg_u2ns (f := (fg_u2 (fg_u2 μ 255 2 (nI 2)) 255 3 (nI s))) (a := 255) (k := 11) (b := 255) (j := 12) (x := ((nI tf) ||| ((nI 1) <<< ((nI v) &&& 31)))) (by decide)).trans ((fg_u2ns (f := (fg_u2 μ 255 2 (nI 2))) (a := 255) (k := 3) (b := 255) (j := 12) (x := (nI s)) (by decide)).trans ((fg_u2ns (f := μ) (a := 255) (k := 2) (b := 255) (j := 12) (x := (nI 2)) (by decide)).trans h12))) ?_
          refine fg_iconst (fg_ft (pc := 82) tb_Reader_testNumber 45 rfl) ic_1 ?_
          refine fg_aloadn (fg_ft (pc := 83) tb_Reader_testNumber 46 rfl) rfl ?_
          refine fg_getV (v := (nI v)) (fg_ft (pc := 84) tb_Reader_testNumber 47 rfl) ff_Reader_207 ly_255 rfl (fg_lt ly_255 (by decide)) ((fg_u2ns (f := (fg_u2 (fg_u2 μ 255 2 (nI 2)) 255 3 (nI s))) (a := 255) (k := 11) (b := 255) (j := 10) (x := ((nI tf) ||| ((nI 1) <<< ((nI v) &&& 31)))) (by decide)).trans ((fg_u2ns (f := (fg_u2 μ 255 2 (nI 2))) (a := 255) (k := 3) (b := 255) (j := 10) (x := (nI s)) (by decide)).trans ((fg_u2ns (f := μ) (a := 255) (k := 2) (b := 255) (j := 10) (x := (nI 2)) (by decide)).trans h10))) ?_
          refine fg_ishl (fg_ft (pc := 87) tb_Reader_testNumber 48 rfl) ?_
          refine fg_ior (fg_ft (pc := 88) tb_Reader_testNumber 49 rfl) ?_
          refine fg_putI (fg_ft (pc := 89) tb_Reader_testNumber 50 rfl) ff_Reader_183 ly_255 rfl (fg_lt ly_255 (by decide)) (fg_nokI _) (fun _ _ h => by cases h; rfl) ?_
          show fg_wp _ _ _ _ _ _ _ _ _ (fg_u2 (fg_u2 (fg_u2 (fg_u2 μ 255 2 (nI 2)) 255 3 (nI s)) 255 11 ((nI tf) ||| ((nI 1) <<< ((nI v) &&& 31)))) 255 12 ((nI lf) ||| ((nI 1) <<< ((nI v) &&& 31))), fg_rho R, 304)
          exact fg_vret (fg_ft (pc := 92) tb_Reader_testNumber 51 rfl) rfl rfl (hQ _ (fun a j h => ((fg_u2nx (by omega)).trans ((fg_u2nx (by omega)).trans ((fg_u2nx (by omega)).trans ((fg_u2nx (by omega)).trans rfl))))) (by rw [(pz_ffF c11)]; exact ((fg_u2ns (by decide)).trans ((fg_u2ns (by decide)).trans ((fg_u2ns (by decide)).trans fg_u2eq)))) (by rw [(pz_ffF c11), if_neg (by decide)]; exact ((fg_u2ns (by decide)).trans ((fg_u2ns (by decide)).trans fg_u2eq))) (by have g13 : (fg_u2 (fg_u2 (fg_u2 (fg_u2 μ 255 2 (nI 2)) 255 3 (nI s)) 255 11 ((nI tf) ||| ((nI 1) <<< ((nI v) &&& 31)))) 255 12 ((nI lf) ||| ((nI 1) <<< ((nI v) &&& 31)))) 255 13 = _ := ((fg_u2ns (by decide)).trans ((fg_u2ns (by decide)).trans ((fg_u2ns (by decide)).trans ((fg_u2ns (by decide)).trans h13)))); unfold pz_f1; first | (rw [if_pos (by omega)]; exact g13) | (rw [if_neg (by omega)]; exact g13)) (fun hh => absurd (hh.symm.trans (pz_ffF c11)) (by decide)))
    · refine fg_aloadn (fg_ft (pc := 42) tb_Reader_testNumber 23 rfl) rfl ?_
      refine fg_aloadn (fg_ft (pc := 43) tb_Reader_testNumber 24 rfl) rfl ?_
      refine fg_getV (v := (nI v)) (fg_ft (pc := 44) tb_Reader_testNumber 25 rfl) ff_Reader_207 ly_255 rfl (fg_lt ly_255 (by decide)) ((fg_u2ns (f := (fg_u2 μ 255 2 (nI 2))) (a := 255) (k := 3) (b := 255) (j := 10) (x := (nI s)) (by decide)).trans ((fg_u2ns (f := μ) (a := 255) (k := 2) (b := 255) (j := 10) (x := (nI 2)) (by decide)).trans h10)) ?_
      refine fg_putI (fg_ft (pc := 47) tb_Reader_testNumber 26 rfl) ff_Reader_186 ly_255 rfl (fg_lt ly_255 (by decide)) (fg_nokI _) (fun _ _ h => by cases h; rfl) ?_
      show fg_wp _ _ _ _ _ _ _ _ _ (fg_u2 (fg_u2 (fg_u2 μ 255 2 (nI 2)) 255 3 (nI s)) 255 13 (nI v), fg_rho R, 304)
      refine fg_iloadn (fg_ft (pc := 50) tb_Reader_testNumber 27 rfl) rfl ?_
      refine fg_bipush (fg_ft (pc := 51) tb_Reader_testNumber 28 rfl) ib_102 ?_
      refine fg_icmp_eqN (tgt := 62) (fg_ft (pc := 53) tb_Reader_testNumber 29 rfl) (by decide) (by have := pz_sg_lt w i hw; omega) (by decide) (fun c53 => ?_) (fun c53 => ?_)
      · refine fg_aloadn (fg_ft (pc := 62) tb_Reader_testNumber 33 rfl) rfl ?_
        refine fg_dup (fg_ft (pc := 63) tb_Reader_testNumber 34 rfl) rfl ?_
        refine fg_getV (v := (nI tf)) (fg_ft (pc := 64) tb_Reader_testNumber 35 rfl) ff_Reader_60 ly_255 rfl (fg_lt ly_255 (by decide)) ((fg_u2ns (f := (fg_u2 (fg_u2 μ 255 2 (nI 2)) 255 3 (nI s))) (a := 255) (k := 13) (b := 255) (j := 11) (x := (nI v)) (by decide)).trans ((fg_u2ns (f := (fg_u2 μ 255 2 (nI 2))) (a := 255) (k := 3) (b := 255) (j := 11) (x := (nI s)) (by decide)).trans ((fg_u2ns (f := μ) (a := 255) (k := 2) (b := 255) (j := 11) (x := (nI 2)) (by decide)).trans h11))) ?_
        refine fg_iconst (fg_ft (pc := 67) tb_Reader_testNumber 36 rfl) ic_1 ?_
        refine fg_aloadn (fg_ft (pc := 68) tb_Reader_testNumber 37 rfl) rfl ?_
        refine fg_getV (v := (nI v)) (fg_ft (pc := 69) tb_Reader_testNumber 38 rfl) ff_Reader_207 ly_255 rfl (fg_lt ly_255 (by decide)) ((fg_u2ns (f := (fg_u2 (fg_u2 μ 255 2 (nI 2)) 255 3 (nI s))) (a := 255) (k := 13) (b := 255) (j := 10) (x := (nI v)) (by decide)).trans ((fg_u2ns (f := (fg_u2 μ 255 2 (nI 2))) (a := 255) (k := 3) (b := 255) (j := 10) (x := (nI s)) (by decide)).trans ((fg_u2ns (f := μ) (a := 255) (k := 2) (b := 255) (j := 10) (x := (nI 2)) (by decide)).trans h10))) ?_
        refine fg_ishl (fg_ft (pc := 72) tb_Reader_testNumber 39 rfl) ?_
        refine fg_ior (fg_ft (pc := 73) tb_Reader_testNumber 40 rfl) ?_
        refine fg_putI (fg_ft (pc := 74) tb_Reader_testNumber 41 rfl) ff_Reader_60 ly_255 rfl (fg_lt ly_255 (by decide)) (fg_nokI _) (fun _ _ h => by cases h; rfl) ?_
        show fg_wp _ _ _ _ _ _ _ _ _ (fg_u2 (fg_u2 (fg_u2 (fg_u2 μ 255 2 (nI 2)) 255 3 (nI s)) 255 13 (nI v)) 255 11 ((nI tf) ||| ((nI 1) <<< ((nI v) &&& 31))), fg_rho R, 304)
        refine fg_aloadn (fg_ft (pc := 77) tb_Reader_testNumber 42 rfl) rfl ?_
        refine fg_dup (fg_ft (pc := 78) tb_Reader_testNumber 43 rfl) rfl ?_
        refine fg_getV (v := (nI lf)) (fg_ft (pc := 79) tb_Reader_testNumber 44 rfl) ff_Reader_183 ly_255 rfl (fg_lt ly_255 (by decide)) ((fg_u2ns (f := (fg_u2 (fg_u2 (fg_u2 μ 255 2 (nI 2)) 255 3 (nI s)) 255 13 (nI v))) (a := 255) (k := 11) (b := 255) (j := 12) (x := ((nI tf) ||| ((nI 1) <<< ((nI v) &&& 31)))) (by decide)).trans ((fg_u2ns (f := (fg_u2 (fg_u2 μ 255 2 (nI 2)) 255 3 (nI s))) (a := 255) (k := 13) (b := 255) (j := 12) (x := (nI v)) (by decide)).trans ((fg_u2ns (f := (fg_u2 μ 255 2 (nI 2))) (a := 255) (k := 3) (b := 255) (j := 12) (x := (nI s)) (by decide)).trans ((fg_u2ns (f := μ) (a := 255) (k := 2) (b := 255) (j := 12) (x := (nI 2)) (by decide)).trans h12)))) ?_
        refine fg_iconst (fg_ft (pc := 82) tb_Reader_testNumber 45 rfl) ic_1 ?_
        refine fg_aloadn (fg_ft (pc := 83) tb_Reader_testNumber 46 rfl) rfl ?_
        refine fg_getV (v := (nI v)) (fg_ft (pc := 84) tb_Reader_testNumber 47 rfl) ff_Reader_207 ly_255 rfl (fg_lt ly_255 (by decide)) ((fg_u2ns (f := (fg_u2 (fg_u2 (fg_u2 μ 255 2 (nI 2)) 255 3 (nI s)) 255 13 (nI v))) (a := 255) (k := 11) (b := 255) (j := 10) (x := ((nI tf) ||| ((nI 1) <<< ((nI v) &&& 31)))) (by decide)).trans ((fg_u2ns (f := (fg_u2 (fg_u2 μ 255 2 (nI 2)) 255 3 (nI s))) (a := 255) (k := 13) (b := 255) (j := 10) (x := (nI v)) (by decide)).trans ((fg_u2ns (f := (fg_u2 μ 255 2 (nI 2))) (a := 255) (k := 3) (b := 255) (j := 10) (x := (nI s)) (by decide)).trans ((fg_u2ns (f := μ) (a := 255) (k := 2) (b := 255) (j := 10) (x := (nI 2)) (by decide)).trans h10)))) ?_
        refine fg_ishl (fg_ft (pc := 87) tb_Reader_testNumber 48 rfl) ?_
        refine fg_ior (fg_ft (pc := 88) tb_Reader_testNumber 49 rfl) ?_
        refine fg_putI (fg_ft (pc := 89) tb_Reader_testNumber 50 rfl) ff_Reader_183 ly_255 rfl (fg_lt ly_255 (by decide)) (fg_nokI _) (fun _ _ h => by cases h; rfl) ?_
        show fg_wp _ _ _ _ _ _ _ _ _ (fg_u2 (fg_u2 (fg_u2 (fg_u2 (fg_u2 μ 255 2 (nI 2)) 255 3 (nI s)) 255 13 (nI v)) 255 11 ((nI tf) ||| ((nI 1) <<< ((nI v) &&& 31)))) 255 12 ((nI lf) ||| ((nI 1) <<< ((nI v) &&& 31))), fg_rho R, 304)
        exact fg_vret (fg_ft (pc := 92) tb_Reader_testNumber 51 rfl) rfl rfl (hQ _ (fun a j h => ((fg_u2nx (by omega)).trans ((fg_u2nx (by omega)).trans ((fg_u2nx (by omega)).trans ((fg_u2nx (by omega)).trans ((fg_u2nx (by omega)).trans rfl)))))) (by rw [(pz_ffF c11)]; exact ((fg_u2ns (by decide)).trans ((fg_u2ns (by decide)).trans ((fg_u2ns (by decide)).trans ((fg_u2ns (by decide)).trans fg_u2eq))))) (by rw [(pz_ffF c11), if_neg (by decide)]; exact ((fg_u2ns (by decide)).trans ((fg_u2ns (by decide)).trans ((fg_u2ns (by decide)).trans fg_u2eq)))) (by have g13 : (fg_u2 (fg_u2 (fg_u2 (fg_u2 (fg_u2 μ 255 2 (nI 2)) 255 3 (nI s)) 255 13 (nI v)) 255 11 ((nI tf) ||| ((nI 1) <<< ((nI v) &&& 31)))) 255 12 ((nI lf) ||| ((nI 1) <<< ((nI v) &&& 31)))) 255 13 = _ := ((fg_u2ns (by decide)).trans ((fg_u2ns (by decide)).trans fg_u2eq)); unfold pz_f1; first | (rw [if_pos (by omega)]; exact g13) | (rw [if_neg (by omega)]; exact g13)) (fun hh => absurd (hh.symm.trans (pz_ffF c11)) (by decide)))
      · refine fg_iloadn (fg_ft (pc := 56) tb_Reader_testNumber 30 rfl) rfl ?_
        refine fg_bipush (fg_ft (pc := 57) tb_Reader_testNumber 31 rfl) ib_117 ?_
        refine fg_icmp_neN (tgt := 92) (fg_ft (pc := 59) tb_Reader_testNumber 32 rfl) (by decide) (by have := pz_sg_lt w i hw; omega) (by decide) (fun c59 => ?_) (fun c59 => ?_)
        · exact fg_vret (fg_ft (pc := 92) tb_Reader_testNumber 51 rfl) rfl rfl (hQ _ (fun a j h => ((fg_u2nx (by omega)).trans ((fg_u2nx (by omega)).trans ((fg_u2nx (by omega)).trans rfl)))) (by rw [(pz_ffF c11)]; exact ((fg_u2ns (by decide)).trans ((fg_u2ns (by decide)).trans fg_u2eq))) (by rw [(pz_ffF c11), if_neg (by decide)]; exact ((fg_u2ns (by decide)).trans fg_u2eq)) (by have g13 : (fg_u2 (fg_u2 (fg_u2 μ 255 2 (nI 2)) 255 3 (nI s)) 255 13 (nI v)) 255 13 = _ := fg_u2eq; unfold pz_f1; first | (rw [if_pos (by omega)]; exact g13) | (rw [if_neg (by omega)]; exact g13)) (fun hh => absurd (hh.symm.trans (pz_ffF c11)) (by decide)))
        · refine fg_aloadn (fg_ft (pc := 62) tb_Reader_testNumber 33 rfl) rfl ?_
          refine fg_dup (fg_ft (pc := 63) tb_Reader_testNumber 34 rfl) rfl ?_
          refine fg_getV (v := (nI tf)) (fg_ft (pc := 64) tb_Reader_testNumber 35 rfl) ff_Reader_60 ly_255 rfl (fg_lt ly_255 (by decide)) ((fg_u2ns (f := (fg_u2 (fg_u2 μ 255 2 (nI 2)) 255 3 (nI s))) (a := 255) (k := 13) (b := 255) (j := 11) (x := (nI v)) (by decide)).trans ((fg_u2ns (f := (fg_u2 μ 255 2 (nI 2))) (a := 255) (k := 3) (b := 255) (j := 11) (x := (nI s)) (by decide)).trans ((fg_u2ns (f := μ) (a := 255) (k := 2) (b := 255) (j := 11) (x := (nI 2)) (by decide)).trans h11))) ?_
          refine fg_iconst (fg_ft (pc := 67) tb_Reader_testNumber 36 rfl) ic_1 ?_
          refine fg_aloadn (fg_ft (pc := 68) tb_Reader_testNumber 37 rfl) rfl ?_
          refine fg_getV (v := (nI v)) (fg_ft (pc := 69) tb_Reader_testNumber 38 rfl) ff_Reader_207 ly_255 rfl (fg_lt ly_255 (by decide)) ((fg_u2ns (f := (fg_u2 (fg_u2 μ 255 2 (nI 2)) 255 3 (nI s))) (a := 255) (k := 13) (b := 255) (j := 10) (x := (nI v)) (by decide)).trans ((fg_u2ns (f := (fg_u2 μ 255 2 (nI 2))) (a := 255) (k := 3) (b := 255) (j := 10) (x := (nI s)) (by decide)).trans ((fg_u2ns (f := μ) (a := 255) (k := 2) (b := 255) (j := 10) (x := (nI 2)) (by decide)).trans h10))) ?_
          refine fg_ishl (fg_ft (pc := 72) tb_Reader_testNumber 39 rfl) ?_
          refine fg_ior (fg_ft (pc := 73) tb_Reader_testNumber 40 rfl) ?_
          refine fg_putI (fg_ft (pc := 74) tb_Reader_testNumber 41 rfl) ff_Reader_60 ly_255 rfl (fg_lt ly_255 (by decide)) (fg_nokI _) (fun _ _ h => by cases h; rfl) ?_
          show fg_wp _ _ _ _ _ _ _ _ _ (fg_u2 (fg_u2 (fg_u2 (fg_u2 μ 255 2 (nI 2)) 255 3 (nI s)) 255 13 (nI v)) 255 11 ((nI tf) ||| ((nI 1) <<< ((nI v) &&& 31))), fg_rho R, 304)
          refine fg_aloadn (fg_ft (pc := 77) tb_Reader_testNumber 42 rfl) rfl ?_
          refine fg_dup (fg_ft (pc := 78) tb_Reader_testNumber 43 rfl) rfl ?_
          refine fg_getV (v := (nI lf)) (fg_ft (pc := 79) tb_Reader_testNumber 44 rfl) ff_Reader_183 ly_255 rfl (fg_lt ly_255 (by decide)) ((fg_u2ns (f := (fg_u2 (fg_u2 (fg_u2 μ 255 2 (nI 2)) 255 3 (nI s)) 255 13 (nI v))) (a := 255) (k := 11) (b := 255) (j := 12) (x := ((nI tf) ||| ((nI 1) <<< ((nI v) &&& 31)))) (by decide)).trans ((fg_u2ns (f := (fg_u2 (fg_u2 μ 255 2 (nI 2)) 255 3 (nI s))) (a := 255) (k := 13) (b := 255) (j := 12) (x := (nI v)) (by decide)).trans ((fg_u2ns (f := (fg_u2 μ 255 2 (nI 2))) (a := 255) (k := 3) (b := 255) (j := 12) (x := (nI s)) (by decide)).trans ((fg_u2ns (f := μ) (a := 255) (k := 2) (b := 255) (j := 12) (x := (nI 2)) (by decide)).trans h12)))) ?_
          refine fg_iconst (fg_ft (pc := 82) tb_Reader_testNumber 45 rfl) ic_1 ?_
          refine fg_aloadn (fg_ft (pc := 83) tb_Reader_testNumber 46 rfl) rfl ?_
          refine fg_getV (v := (nI v)) (fg_ft (pc := 84) tb_Reader_testNumber 47 rfl) ff_Reader_207 ly_255 rfl (fg_lt ly_255 (by decide)) ((fg_u2ns (f := (fg_u2 (fg_u2 (fg_u2 μ 255 2 (nI 2)) 255 3 (nI s)) 255 13 (nI v))) (a := 255) (k := 11) (b := 255) (j := 10) (x := ((nI tf) ||| ((nI 1) <<< ((nI v) &&& 31)))) (by decide)).trans ((fg_u2ns (f := (fg_u2 (fg_u2 μ 255 2 (nI 2)) 255 3 (nI s))) (a := 255) (k := 13) (b := 255) (j := 10) (x := (nI v)) (by decide)).trans ((fg_u2ns (f := (fg_u2 μ 255 2 (nI 2))) (a := 255) (k := 3) (b := 255) (j := 10) (x := (nI s)) (by decide)).trans ((fg_u2ns (f := μ) (a := 255) (k := 2) (b := 255) (j := 10) (x := (nI 2)) (by decide)).trans h10)))) ?_
          refine fg_ishl (fg_ft (pc := 87) tb_Reader_testNumber 48 rfl) ?_
          refine fg_ior (fg_ft (pc := 88) tb_Reader_testNumber 49 rfl) ?_
          refine fg_putI (fg_ft (pc := 89) tb_Reader_testNumber 50 rfl) ff_Reader_183 ly_255 rfl (fg_lt ly_255 (by decide)) (fg_nokI _) (fun _ _ h => by cases h; rfl) ?_
          show fg_wp _ _ _ _ _ _ _ _ _ (fg_u2 (fg_u2 (fg_u2 (fg_u2 (fg_u2 μ 255 2 (nI 2)) 255 3 (nI s)) 255 13 (nI v)) 255 11 ((nI tf) ||| ((nI 1) <<< ((nI v) &&& 31)))) 255 12 ((nI lf) ||| ((nI 1) <<< ((nI v) &&& 31))), fg_rho R, 304)
          exact fg_vret (fg_ft (pc := 92) tb_Reader_testNumber 51 rfl) rfl rfl (hQ _ (fun a j h => ((fg_u2nx (by omega)).trans ((fg_u2nx (by omega)).trans ((fg_u2nx (by omega)).trans ((fg_u2nx (by omega)).trans ((fg_u2nx (by omega)).trans rfl)))))) (by rw [(pz_ffF c11)]; exact ((fg_u2ns (by decide)).trans ((fg_u2ns (by decide)).trans ((fg_u2ns (by decide)).trans ((fg_u2ns (by decide)).trans fg_u2eq))))) (by rw [(pz_ffF c11), if_neg (by decide)]; exact ((fg_u2ns (by decide)).trans ((fg_u2ns (by decide)).trans ((fg_u2ns (by decide)).trans fg_u2eq)))) (by have g13 : (fg_u2 (fg_u2 (fg_u2 (fg_u2 (fg_u2 μ 255 2 (nI 2)) 255 3 (nI s)) 255 13 (nI v)) 255 11 ((nI tf) ||| ((nI 1) <<< ((nI v) &&& 31)))) 255 12 ((nI lf) ||| ((nI 1) <<< ((nI v) &&& 31)))) 255 13 = _ := ((fg_u2ns (by decide)).trans ((fg_u2ns (by decide)).trans fg_u2eq)); unfold pz_f1; first | (rw [if_pos (by omega)]; exact g13) | (rw [if_neg (by omega)]; exact g13)) (fun hh => absurd (hh.symm.trans (pz_ffF c11)) (by decide)))
theorem ev_Reader_testNumber1 {E : fg_E} {d : Nat} {μ : Nat → Nat → Int32} {R : fg_T4} {Q : Option Value → fg_M → Prop} {w i v n s : Nat} (hw : w < 17) (hi : i < 2 ^ 31) (h9 : μ 255 9 = nI s) (h10 : μ 255 10 = nI v) (hv : v ≤ 99) (hn : μ 259 2 = nI n) (hn5 : n ≤ 5)  {F : Nat} (hF : μ 255 2 = nI F) (hF5 : F < 5) (hF0 : ¬ F = 0) (hQ : ∀ μ' : Nat → Nat → Int32, (∀ a j, (a ≠ 255 ∨ (j ≠ 11 ∧ j ≠ 12 ∧ j ≠ 13)) → μ' a j = μ a j) → Q none (μ', fg_rho R, 304)) : fg_Ev E yy_Reader_testNumber (d + 6) [.ref 255, .ref w, .int (nI i)] (μ, fg_rho R, 304) 304 Q := by
  refine fg_intro (by decide +kernel) (Nat.le_of_ble_eq_true rfl) (fg_okAs rfl) (Nat.le_refl _) ?_
  refine fg_aloadn (fg_ft (pc := 0) tb_Reader_testNumber 0 rfl) rfl ?_
  refine fg_iloadn (fg_ft (pc := 1) tb_Reader_testNumber 1 rfl) rfl ?_
  refine fg_callV (fg_ft (pc := 2) tb_Reader_testNumber 2 rfl) cf_Reader_97 (Or.inr (pz_isW hw)) (as := [.int (nI i)]) (st := []) rfl rfl (Nat.le_of_ble_eq_true rfl) (Nat.le_refl _) (Nat.le_refl _) (ev_Word_signAt hw (i := i) (by omega) ?_)
  refine fg_istoren (fg_ft (pc := 5) tb_Reader_testNumber 3 rfl) (Nat.le_of_ble_eq_true rfl) ?_
  refine fg_aloadn (fg_ft (pc := 6) tb_Reader_testNumber 4 rfl) rfl ?_
  refine fg_iloadn (fg_ft (pc := 7) tb_Reader_testNumber 5 rfl) rfl ?_
  refine fg_callV (fg_ft (pc := 8) tb_Reader_testNumber 6 rfl) cf_Reader_203 (fg_isOf ly_255 rfl (fg_lt ly_255 (by decide))) (as := [.int (nI (pz_sg w i))]) (st := []) rfl rfl (Nat.le_of_ble_eq_true rfl) (Nat.le_refl _) (Nat.le_refl _) (ev_Reader_canBeA (sg := pz_sg w i) (v := v) (n := n) (pz_sg_lt w i hw) h10 (by omega) hn (by omega) ?_ ?_)
  · refine fg_if_ne (tgt := 22) (fg_ft (pc := 11) tb_Reader_testNumber 7 rfl) (by decide) (fun h => absurd h (by decide)) (fun _ => ?_)
    refine fg_aloadn (fg_ft (pc := 14) tb_Reader_testNumber 8 rfl) rfl ?_
    refine fg_iconst (fg_ft (pc := 15) tb_Reader_testNumber 9 rfl) ic_2 ?_
    refine fg_callV (fg_ft (pc := 16) tb_Reader_testNumber 10 rfl) cf_Reader_192 (fg_isOf ly_255 rfl (fg_lt ly_255 (by decide))) (as := [.int (nI 2)]) (st := []) rfl rfl (Nat.le_of_ble_eq_true rfl) (Nat.le_refl _) (Nat.le_refl _) (ev_Reader_noteFault1 (F := F) (by first | exact hF | assumption) hF5 hF0 ?_)
    refine fg_goto (tgt := 38) (fg_ft (pc := 19) tb_Reader_testNumber 11 rfl) (by decide) ?_
    refine fg_iloadn (fg_ft (pc := 38) tb_Reader_testNumber 21 rfl) rfl ?_
    refine fg_if_neN (tgt := 50) (fg_ft (pc := 39) tb_Reader_testNumber 22 rfl) (by decide) (by omega) (fun c39 => ?_) (fun c39 => ?_)
    · refine fg_iloadn (fg_ft (pc := 50) tb_Reader_testNumber 27 rfl) rfl ?_
      refine fg_bipush (fg_ft (pc := 51) tb_Reader_testNumber 28 rfl) ib_102 ?_
      refine fg_icmp_eqN (tgt := 62) (fg_ft (pc := 53) tb_Reader_testNumber 29 rfl) (by decide) (by have := pz_sg_lt w i hw; omega) (by decide) (fun c53 => ?_) (fun c53 => ?_)
      · refine fg_aloadn (fg_ft (pc := 62) tb_Reader_testNumber 33 rfl) rfl ?_
        refine fg_dup (fg_ft (pc := 63) tb_Reader_testNumber 34 rfl) rfl ?_
        refine fg_getI (fg_ft (pc := 64) tb_Reader_testNumber 35 rfl) ff_Reader_60 ly_255 rfl (fg_lt ly_255 (by decide)) ?_
        refine fg_iconst (fg_ft (pc := 67) tb_Reader_testNumber 36 rfl) ic_1 ?_
        refine fg_aloadn (fg_ft (pc := 68) tb_Reader_testNumber 37 rfl) rfl ?_
        refine fg_getV (v := (nI v)) (fg_ft (pc := 69) tb_Reader_testNumber 38 rfl) ff_Reader_207 ly_255 rfl (fg_lt ly_255 (by decide)) h10 ?_
        refine fg_ishl (fg_ft (pc := 72) tb_Reader_testNumber 39 rfl) ?_
        refine fg_ior (fg_ft (pc := 73) tb_Reader_testNumber 40 rfl) ?_
        refine fg_putI (fg_ft (pc := 74) tb_Reader_testNumber 41 rfl) ff_Reader_60 ly_255 rfl (fg_lt ly_255 (by decide)) (fg_nokI _) (fun _ _ h => by cases h; rfl) ?_
        show fg_wp _ _ _ _ _ _ _ _ _ (fg_u2 μ 255 11 ((μ 255 11) ||| ((nI 1) <<< ((nI v) &&& 31))), fg_rho R, 304)
        refine fg_aloadn (fg_ft (pc := 77) tb_Reader_testNumber 42 rfl) rfl ?_
        refine fg_dup (fg_ft (pc := 78) tb_Reader_testNumber 43 rfl) rfl ?_
        refine fg_getI (fg_ft (pc := 79) tb_Reader_testNumber 44 rfl) ff_Reader_183 ly_255 rfl (fg_lt ly_255 (by decide)) ?_
        refine fg_iconst (fg_ft (pc := 82) tb_Reader_testNumber 45 rfl) ic_1 ?_
        refine fg_aloadn (fg_ft (pc := 83) tb_Reader_testNumber 46 rfl) rfl ?_
        refine fg_getV (v := (nI v)) (fg_ft (pc := 84) tb_Reader_testNumber 47 rfl) ff_Reader_207 ly_255 rfl (fg_lt ly_255 (by decide)) ((fg_u2ns (f := μ) (a := 255) (k := 11) (b := 255) (j := 10) (x := ((μ 255 11) ||| ((nI 1) <<< ((nI v) &&& 31)))) (by decide)).trans h10) ?_
        refine fg_ishl (fg_ft (pc := 87) tb_Reader_testNumber 48 rfl) ?_
        refine fg_ior (fg_ft (pc := 88) tb_Reader_testNumber 49 rfl) ?_
        refine fg_putI (fg_ft (pc := 89) tb_Reader_testNumber 50 rfl) ff_Reader_183 ly_255 rfl (fg_lt ly_255 (by decide)) (fg_nokI _) (fun _ _ h => by cases h; rfl) ?_
        show fg_wp _ _ _ _ _ _ _ _ _ (fg_u2 (fg_u2 μ 255 11 ((μ 255 11) ||| ((nI 1) <<< ((nI v) &&& 31)))) 255 12 (((fg_u2 μ 255 11 ((μ 255 11) ||| ((nI 1) <<< ((nI v) &&& 31)))) 255 12) ||| ((nI 1) <<< ((nI v) &&& 31))), fg_rho R, 304)
        exact fg_vret (fg_ft (pc := 92) tb_Reader_testNumber 51 rfl) rfl rfl (hQ _ (fun a j h => ((fg_u2nx (by omega)).trans ((fg_u2nx (by omega)).trans rfl))))
      · refine fg_iloadn (fg_ft (pc := 56) tb_Reader_testNumber 30 rfl) rfl ?_
        refine fg_bipush (fg_ft (pc := 57) tb_Reader_testNumber 31 rfl) ib_117 ?_
        refine fg_icmp_neN (tgt := 92) (fg_ft (pc := 59) tb_Reader_testNumber 32 rfl) (by decide) (by have := pz_sg_lt w i hw; omega) (by decide) (fun c59 => ?_) (fun c59 => ?_)
        · exact fg_vret (fg_ft (pc := 92) tb_Reader_testNumber 51 rfl) rfl rfl (hQ _ (fun a j h => rfl))
        · refine fg_aloadn (fg_ft (pc := 62) tb_Reader_testNumber 33 rfl) rfl ?_
          refine fg_dup (fg_ft (pc := 63) tb_Reader_testNumber 34 rfl) rfl ?_
          refine fg_getI (fg_ft (pc := 64) tb_Reader_testNumber 35 rfl) ff_Reader_60 ly_255 rfl (fg_lt ly_255 (by decide)) ?_
          refine fg_iconst (fg_ft (pc := 67) tb_Reader_testNumber 36 rfl) ic_1 ?_
          refine fg_aloadn (fg_ft (pc := 68) tb_Reader_testNumber 37 rfl) rfl ?_
          refine fg_getV (v := (nI v)) (fg_ft (pc := 69) tb_Reader_testNumber 38 rfl) ff_Reader_207 ly_255 rfl (fg_lt ly_255 (by decide)) h10 ?_
          refine fg_ishl (fg_ft (pc := 72) tb_Reader_testNumber 39 rfl) ?_
          refine fg_ior (fg_ft (pc := 73) tb_Reader_testNumber 40 rfl) ?_
          refine fg_putI (fg_ft (pc := 74) tb_Reader_testNumber 41 rfl) ff_Reader_60 ly_255 rfl (fg_lt ly_255 (by decide)) (fg_nokI _) (fun _ _ h => by cases h; rfl) ?_
          show fg_wp _ _ _ _ _ _ _ _ _ (fg_u2 μ 255 11 ((μ 255 11) ||| ((nI 1) <<< ((nI v) &&& 31))), fg_rho R, 304)
          refine fg_aloadn (fg_ft (pc := 77) tb_Reader_testNumber 42 rfl) rfl ?_
          refine fg_dup (fg_ft (pc := 78) tb_Reader_testNumber 43 rfl) rfl ?_
          refine fg_getI (fg_ft (pc := 79) tb_Reader_testNumber 44 rfl) ff_Reader_183 ly_255 rfl (fg_lt ly_255 (by decide)) ?_
          refine fg_iconst (fg_ft (pc := 82) tb_Reader_testNumber 45 rfl) ic_1 ?_
          refine fg_aloadn (fg_ft (pc := 83) tb_Reader_testNumber 46 rfl) rfl ?_
          refine fg_getV (v := (nI v)) (fg_ft (pc := 84) tb_Reader_testNumber 47 rfl) ff_Reader_207 ly_255 rfl (fg_lt ly_255 (by decide)) ((fg_u2ns (f := μ) (a := 255) (k := 11) (b := 255) (j := 10) (x := ((μ 255 11) ||| ((nI 1) <<< ((nI v) &&& 31)))) (by decide)).trans h10) ?_
          refine fg_ishl (fg_ft (pc := 87) tb_Reader_testNumber 48 rfl) ?_
          refine fg_ior (fg_ft (pc := 88) tb_Reader_testNumber 49 rfl) ?_
          refine fg_putI (fg_ft (pc := 89) tb_Reader_testNumber 50 rfl) ff_Reader_183 ly_255 rfl (fg_lt ly_255 (by decide)) (fg_nokI _) (fun _ _ h => by cases h; rfl) ?_
          show fg_wp _ _ _ _ _ _ _ _ _ (fg_u2 (fg_u2 μ 255 11 ((μ 255 11) ||| ((nI 1) <<< ((nI v) &&& 31)))) 255 12 (((fg_u2 μ 255 11 ((μ 255 11) ||| ((nI 1) <<< ((nI v) &&& 31)))) 255 12) ||| ((nI 1) <<< ((nI v) &&& 31))), fg_rho R, 304)
          exact fg_vret (fg_ft (pc := 92) tb_Reader_testNumber 51 rfl) rfl rfl (hQ _ (fun a j h => ((fg_u2nx (by omega)).trans ((fg_u2nx (by omega)).trans rfl))))
    · refine fg_aloadn (fg_ft (pc := 42) tb_Reader_testNumber 23 rfl) rfl ?_
      refine fg_aloadn (fg_ft (pc := 43) tb_Reader_testNumber 24 rfl) rfl ?_
      refine fg_getV (v := (nI v)) (fg_ft (pc := 44) tb_Reader_testNumber 25 rfl) ff_Reader_207 ly_255 rfl (fg_lt ly_255 (by decide)) h10 ?_
      refine fg_putI (fg_ft (pc := 47) tb_Reader_testNumber 26 rfl) ff_Reader_186 ly_255 rfl (fg_lt ly_255 (by decide)) (fg_nokI _) (fun _ _ h => by cases h; rfl) ?_
      show fg_wp _ _ _ _ _ _ _ _ _ (fg_u2 μ 255 13 (nI v), fg_rho R, 304)
      refine fg_iloadn (fg_ft (pc := 50) tb_Reader_testNumber 27 rfl) rfl ?_
      refine fg_bipush (fg_ft (pc := 51) tb_Reader_testNumber 28 rfl) ib_102 ?_
      refine fg_icmp_eqN (tgt := 62) (fg_ft (pc := 53) tb_Reader_testNumber 29 rfl) (by decide) (by have := pz_sg_lt w i hw; omega) (by decide) (fun c53 => ?_) (fun c53 => ?_)
      · refine fg_aloadn (fg_ft (pc := 62) tb_Reader_testNumber 33 rfl) rfl ?_
        refine fg_dup (fg_ft (pc := 63) tb_Reader_testNumber 34 rfl) rfl ?_
        refine fg_getI (fg_ft (pc := 64) tb_Reader_testNumber 35 rfl) ff_Reader_60 ly_255 rfl (fg_lt ly_255 (by decide)) ?_
        refine fg_iconst (fg_ft (pc := 67) tb_Reader_testNumber 36 rfl) ic_1 ?_
        refine fg_aloadn (fg_ft (pc := 68) tb_Reader_testNumber 37 rfl) rfl ?_
        refine fg_getV (v := (nI v)) (fg_ft (pc := 69) tb_Reader_testNumber 38 rfl) ff_Reader_207 ly_255 rfl (fg_lt ly_255 (by decide)) ((fg_u2ns (f := μ) (a := 255) (k := 13) (b := 255) (j := 10) (x := (nI v)) (by decide)).trans h10) ?_
        refine fg_ishl (fg_ft (pc := 72) tb_Reader_testNumber 39 rfl) ?_
        refine fg_ior (fg_ft (pc := 73) tb_Reader_testNumber 40 rfl) ?_
        refine fg_putI (fg_ft (pc := 74) tb_Reader_testNumber 41 rfl) ff_Reader_60 ly_255 rfl (fg_lt ly_255 (by decide)) (fg_nokI _) (fun _ _ h => by cases h; rfl) ?_
        show fg_wp _ _ _ _ _ _ _ _ _ (fg_u2 (fg_u2 μ 255 13 (nI v)) 255 11 (((fg_u2 μ 255 13 (nI v)) 255 11) ||| ((nI 1) <<< ((nI v) &&& 31))), fg_rho R, 304)
        refine fg_aloadn (fg_ft (pc := 77) tb_Reader_testNumber 42 rfl) rfl ?_
        refine fg_dup (fg_ft (pc := 78) tb_Reader_testNumber 43 rfl) rfl ?_
        refine fg_getI (fg_ft (pc := 79) tb_Reader_testNumber 44 rfl) ff_Reader_183 ly_255 rfl (fg_lt ly_255 (by decide)) ?_
        refine fg_iconst (fg_ft (pc := 82) tb_Reader_testNumber 45 rfl) ic_1 ?_
        refine fg_aloadn (fg_ft (pc := 83) tb_Reader_testNumber 46 rfl) rfl ?_
        refine fg_getV (v := (nI v)) (fg_ft (pc := 84) tb_Reader_testNumber 47 rfl) ff_Reader_207 ly_255 rfl (fg_lt ly_255 (by decide)) ((fg_u2ns (f := (fg_u2 μ 255 13 (nI v))) (a := 255) (k := 11) (b := 255) (j := 10) (x := (((fg_u2 μ 255 13 (nI v)) 255 11) ||| ((nI 1) <<< ((nI v) &&& 31)))) (by decide)).trans ((fg_u2ns (f := μ) (a := 255) (k := 13) (b := 255) (j := 10) (x := (nI v)) (by decide)).trans h10)) ?_
        refine fg_ishl (fg_ft (pc := 87) tb_Reader_testNumber 48 rfl) ?_
        refine fg_ior (fg_ft (pc := 88) tb_Reader_testNumber 49 rfl) ?_
        refine fg_putI (fg_ft (pc := 89) tb_Reader_testNumber 50 rfl) ff_Reader_183 ly_255 rfl (fg_lt ly_255 (by decide)) (fg_nokI _) (fun _ _ h => by cases h; rfl) ?_
        show fg_wp _ _ _ _ _ _ _ _ _ (fg_u2 (fg_u2 (fg_u2 μ 255 13 (nI v)) 255 11 (((fg_u2 μ 255 13 (nI v)) 255 11) ||| ((nI 1) <<< ((nI v) &&& 31)))) 255 12 (((fg_u2 (fg_u2 μ 255 13 (nI v)) 255 11 (((fg_u2 μ 255 13 (nI v)) 255 11) ||| ((nI 1) <<< ((nI v) &&& 31)))) 255 12) ||| ((nI 1) <<< ((nI v) &&& 31))), fg_rho R, 304)
        exact fg_vret (fg_ft (pc := 92) tb_Reader_testNumber 51 rfl) rfl rfl (hQ _ (fun a j h => ((fg_u2nx (by omega)).trans ((fg_u2nx (by omega)).trans ((fg_u2nx (by omega)).trans rfl)))))
      · refine fg_iloadn (fg_ft (pc := 56) tb_Reader_testNumber 30 rfl) rfl ?_
        refine fg_bipush (fg_ft (pc := 57) tb_Reader_testNumber 31 rfl) ib_117 ?_
        refine fg_icmp_neN (tgt := 92) (fg_ft (pc := 59) tb_Reader_testNumber 32 rfl) (by decide) (by have := pz_sg_lt w i hw; omega) (by decide) (fun c59 => ?_) (fun c59 => ?_)
        · exact fg_vret (fg_ft (pc := 92) tb_Reader_testNumber 51 rfl) rfl rfl (hQ _ (fun a j h => ((fg_u2nx (by omega)).trans rfl)))
        · refine fg_aloadn (fg_ft (pc := 62) tb_Reader_testNumber 33 rfl) rfl ?_
          refine fg_dup (fg_ft (pc := 63) tb_Reader_testNumber 34 rfl) rfl ?_
          refine fg_getI (fg_ft (pc := 64) tb_Reader_testNumber 35 rfl) ff_Reader_60 ly_255 rfl (fg_lt ly_255 (by decide)) ?_
          refine fg_iconst (fg_ft (pc := 67) tb_Reader_testNumber 36 rfl) ic_1 ?_
          refine fg_aloadn (fg_ft (pc := 68) tb_Reader_testNumber 37 rfl) rfl ?_
          refine fg_getV (v := (nI v)) (fg_ft (pc := 69) tb_Reader_testNumber 38 rfl) ff_Reader_207 ly_255 rfl (fg_lt ly_255 (by decide)) ((fg_u2ns (f := μ) (a := 255) (k := 13) (b := 255) (j := 10) (x := (nI v)) (by decide)).trans h10) ?_
          refine fg_ishl (fg_ft (pc := 72) tb_Reader_testNumber 39 rfl) ?_
          refine fg_ior (fg_ft (pc := 73) tb_Reader_testNumber 40 rfl) ?_
          refine fg_putI (fg_ft (pc := 74) tb_Reader_testNumber 41 rfl) ff_Reader_60 ly_255 rfl (fg_lt ly_255 (by decide)) (fg_nokI _) (fun _ _ h => by cases h; rfl) ?_
          show fg_wp _ _ _ _ _ _ _ _ _ (fg_u2 (fg_u2 μ 255 13 (nI v)) 255 11 (((fg_u2 μ 255 13 (nI v)) 255 11) ||| ((nI 1) <<< ((nI v) &&& 31))), fg_rho R, 304)
          refine fg_aloadn (fg_ft (pc := 77) tb_Reader_testNumber 42 rfl) rfl ?_
          refine fg_dup (fg_ft (pc := 78) tb_Reader_testNumber 43 rfl) rfl ?_
          refine fg_getI (fg_ft (pc := 79) tb_Reader_testNumber 44 rfl) ff_Reader_183 ly_255 rfl (fg_lt ly_255 (by decide)) ?_
          refine fg_iconst (fg_ft (pc := 82) tb_Reader_testNumber 45 rfl) ic_1 ?_
          refine fg_aloadn (fg_ft (pc := 83) tb_Reader_testNumber 46 rfl) rfl ?_
          refine fg_getV (v := (nI v)) (fg_ft (pc := 84) tb_Reader_testNumber 47 rfl) ff_Reader_207 ly_255 rfl (fg_lt ly_255 (by decide)) ((fg_u2ns (f := (fg_u2 μ 255 13 (nI v))) (a := 255) (k := 11) (b := 255) (j := 10) (x := (((fg_u2 μ 255 13 (nI v)) 255 11) ||| ((nI 1) <<< ((nI v) &&& 31)))) (by decide)).trans ((fg_u2ns (f := μ) (a := 255) (k := 13) (b := 255) (j := 10) (x := (nI v)) (by decide)).trans h10)) ?_
          refine fg_ishl (fg_ft (pc := 87) tb_Reader_testNumber 48 rfl) ?_
          refine fg_ior (fg_ft (pc := 88) tb_Reader_testNumber 49 rfl) ?_
          refine fg_putI (fg_ft (pc := 89) tb_Reader_testNumber 50 rfl) ff_Reader_183 ly_255 rfl (fg_lt ly_255 (by decide)) (fg_nokI _) (fun _ _ h => by cases h; rfl) ?_
          show fg_wp _ _ _ _ _ _ _ _ _ (fg_u2 (fg_u2 (fg_u2 μ 255 13 (nI v)) 255 11 (((fg_u2 μ 255 13 (nI v)) 255 11) ||| ((nI 1) <<< ((nI v) &&& 31)))) 255 12 (((fg_u2 (fg_u2 μ 255 13 (nI v)) 255 11 (((fg_u2 μ 255 13 (nI v)) 255 11) ||| ((nI 1) <<< ((nI v) &&& 31)))) 255 12) ||| ((nI 1) <<< ((nI v) &&& 31))), fg_rho R, 304)
          exact fg_vret (fg_ft (pc := 92) tb_Reader_testNumber 51 rfl) rfl rfl (hQ _ (fun a j h => ((fg_u2nx (by omega)).trans ((fg_u2nx (by omega)).trans ((fg_u2nx (by omega)).trans rfl)))))
  · refine fg_if_ne (tgt := 22) (fg_ft (pc := 11) tb_Reader_testNumber 7 rfl) (by decide) (fun _ => ?_) (fun h => absurd h (by decide))
    refine fg_iloadn (fg_ft (pc := 22) tb_Reader_testNumber 12 rfl) rfl ?_
    refine fg_bipush (fg_ft (pc := 23) tb_Reader_testNumber 13 rfl) ib_117 ?_
    refine fg_icmp_neN (tgt := 38) (fg_ft (pc := 25) tb_Reader_testNumber 14 rfl) (by decide) (by have := pz_sg_lt w i hw; omega) (by decide) (fun c25 => ?_) (fun c25 => ?_)
    · refine fg_iloadn (fg_ft (pc := 38) tb_Reader_testNumber 21 rfl) rfl ?_
      refine fg_if_neN (tgt := 50) (fg_ft (pc := 39) tb_Reader_testNumber 22 rfl) (by decide) (by omega) (fun c39 => ?_) (fun c39 => ?_)
      · refine fg_iloadn (fg_ft (pc := 50) tb_Reader_testNumber 27 rfl) rfl ?_
        refine fg_bipush (fg_ft (pc := 51) tb_Reader_testNumber 28 rfl) ib_102 ?_
        refine fg_icmp_eqN (tgt := 62) (fg_ft (pc := 53) tb_Reader_testNumber 29 rfl) (by decide) (by have := pz_sg_lt w i hw; omega) (by decide) (fun c53 => ?_) (fun c53 => ?_)
        · refine fg_aloadn (fg_ft (pc := 62) tb_Reader_testNumber 33 rfl) rfl ?_
          refine fg_dup (fg_ft (pc := 63) tb_Reader_testNumber 34 rfl) rfl ?_
          refine fg_getI (fg_ft (pc := 64) tb_Reader_testNumber 35 rfl) ff_Reader_60 ly_255 rfl (fg_lt ly_255 (by decide)) ?_
          refine fg_iconst (fg_ft (pc := 67) tb_Reader_testNumber 36 rfl) ic_1 ?_
          refine fg_aloadn (fg_ft (pc := 68) tb_Reader_testNumber 37 rfl) rfl ?_
          refine fg_getV (v := (nI v)) (fg_ft (pc := 69) tb_Reader_testNumber 38 rfl) ff_Reader_207 ly_255 rfl (fg_lt ly_255 (by decide)) h10 ?_
          refine fg_ishl (fg_ft (pc := 72) tb_Reader_testNumber 39 rfl) ?_
          refine fg_ior (fg_ft (pc := 73) tb_Reader_testNumber 40 rfl) ?_
          refine fg_putI (fg_ft (pc := 74) tb_Reader_testNumber 41 rfl) ff_Reader_60 ly_255 rfl (fg_lt ly_255 (by decide)) (fg_nokI _) (fun _ _ h => by cases h; rfl) ?_
          show fg_wp _ _ _ _ _ _ _ _ _ (fg_u2 μ 255 11 ((μ 255 11) ||| ((nI 1) <<< ((nI v) &&& 31))), fg_rho R, 304)
          refine fg_aloadn (fg_ft (pc := 77) tb_Reader_testNumber 42 rfl) rfl ?_
          refine fg_dup (fg_ft (pc := 78) tb_Reader_testNumber 43 rfl) rfl ?_
          refine fg_getI (fg_ft (pc := 79) tb_Reader_testNumber 44 rfl) ff_Reader_183 ly_255 rfl (fg_lt ly_255 (by decide)) ?_
          refine fg_iconst (fg_ft (pc := 82) tb_Reader_testNumber 45 rfl) ic_1 ?_
          refine fg_aloadn (fg_ft (pc := 83) tb_Reader_testNumber 46 rfl) rfl ?_
          refine fg_getV (v := (nI v)) (fg_ft (pc := 84) tb_Reader_testNumber 47 rfl) ff_Reader_207 ly_255 rfl (fg_lt ly_255 (by decide)) ((fg_u2ns (f := μ) (a := 255) (k := 11) (b := 255) (j := 10) (x := ((μ 255 11) ||| ((nI 1) <<< ((nI v) &&& 31)))) (by decide)).trans h10) ?_
          refine fg_ishl (fg_ft (pc := 87) tb_Reader_testNumber 48 rfl) ?_
          refine fg_ior (fg_ft (pc := 88) tb_Reader_testNumber 49 rfl) ?_
          refine fg_putI (fg_ft (pc := 89) tb_Reader_testNumber 50 rfl) ff_Reader_183 ly_255 rfl (fg_lt ly_255 (by decide)) (fg_nokI _) (fun _ _ h => by cases h; rfl) ?_
          show fg_wp _ _ _ _ _ _ _ _ _ (fg_u2 (fg_u2 μ 255 11 ((μ 255 11) ||| ((nI 1) <<< ((nI v) &&& 31)))) 255 12 (((fg_u2 μ 255 11 ((μ 255 11) ||| ((nI 1) <<< ((nI v) &&& 31)))) 255 12) ||| ((nI 1) <<< ((nI v) &&& 31))), fg_rho R, 304)
          exact fg_vret (fg_ft (pc := 92) tb_Reader_testNumber 51 rfl) rfl rfl (hQ _ (fun a j h => ((fg_u2nx (by omega)).trans ((fg_u2nx (by omega)).trans rfl))))
        · refine fg_iloadn (fg_ft (pc := 56) tb_Reader_testNumber 30 rfl) rfl ?_
          refine fg_bipush (fg_ft (pc := 57) tb_Reader_testNumber 31 rfl) ib_117 ?_
          refine fg_icmp_neN (tgt := 92) (fg_ft (pc := 59) tb_Reader_testNumber 32 rfl) (by decide) (by have := pz_sg_lt w i hw; omega) (by decide) (fun c59 => ?_) (fun c59 => ?_)
          · exact fg_vret (fg_ft (pc := 92) tb_Reader_testNumber 51 rfl) rfl rfl (hQ _ (fun a j h => rfl))
          · refine fg_aloadn (fg_ft (pc := 62) tb_Reader_testNumber 33 rfl) rfl ?_
            refine fg_dup (fg_ft (pc := 63) tb_Reader_testNumber 34 rfl) rfl ?_
            refine fg_getI (fg_ft (pc := 64) tb_Reader_testNumber 35 rfl) ff_Reader_60 ly_255 rfl (fg_lt ly_255 (by decide)) ?_
            refine fg_iconst (fg_ft (pc := 67) tb_Reader_testNumber 36 rfl) ic_1 ?_
            refine fg_aloadn (fg_ft (pc := 68) tb_Reader_testNumber 37 rfl) rfl ?_
            refine fg_getV (v := (nI v)) (fg_ft (pc := 69) tb_Reader_testNumber 38 rfl) ff_Reader_207 ly_255 rfl (fg_lt ly_255 (by decide)) h10 ?_
            refine fg_ishl (fg_ft (pc := 72) tb_Reader_testNumber 39 rfl) ?_
            refine fg_ior (fg_ft (pc := 73) tb_Reader_testNumber 40 rfl) ?_
            refine fg_putI (fg_ft (pc := 74) tb_Reader_testNumber 41 rfl) ff_Reader_60 ly_255 rfl (fg_lt ly_255 (by decide)) (fg_nokI _) (fun _ _ h => by cases h; rfl) ?_
            show fg_wp _ _ _ _ _ _ _ _ _ (fg_u2 μ 255 11 ((μ 255 11) ||| ((nI 1) <<< ((nI v) &&& 31))), fg_rho R, 304)
            refine fg_aloadn (fg_ft (pc := 77) tb_Reader_testNumber 42 rfl) rfl ?_
            refine fg_dup (fg_ft (pc := 78) tb_Reader_testNumber 43 rfl) rfl ?_
            refine fg_getI (fg_ft (pc := 79) tb_Reader_testNumber 44 rfl) ff_Reader_183 ly_255 rfl (fg_lt ly_255 (by decide)) ?_
            refine fg_iconst (fg_ft (pc := 82) tb_Reader_testNumber 45 rfl) ic_1 ?_
            refine fg_aloadn (fg_ft (pc := 83) tb_Reader_testNumber 46 rfl) rfl ?_
            refine fg_getV (v := (nI v)) (fg_ft (pc := 84) tb_Reader_testNumber 47 rfl) ff_Reader_207 ly_255 rfl (fg_lt ly_255 (by decide)) ((fg_u2ns (f := μ) (a := 255) (k := 11) (b := 255) (j := 10) (x := ((μ 255 11) ||| ((nI 1) <<< ((nI v) &&& 31)))) (by decide)).trans h10) ?_
            refine fg_ishl (fg_ft (pc := 87) tb_Reader_testNumber 48 rfl) ?_
            refine fg_ior (fg_ft (pc := 88) tb_Reader_testNumber 49 rfl) ?_
            refine fg_putI (fg_ft (pc := 89) tb_Reader_testNumber 50 rfl) ff_Reader_183 ly_255 rfl (fg_lt ly_255 (by decide)) (fg_nokI _) (fun _ _ h => by cases h; rfl) ?_
            show fg_wp _ _ _ _ _ _ _ _ _ (fg_u2 (fg_u2 μ 255 11 ((μ 255 11) ||| ((nI 1) <<< ((nI v) &&& 31)))) 255 12 (((fg_u2 μ 255 11 ((μ 255 11) ||| ((nI 1) <<< ((nI v) &&& 31)))) 255 12) ||| ((nI 1) <<< ((nI v) &&& 31))), fg_rho R, 304)
            exact fg_vret (fg_ft (pc := 92) tb_Reader_testNumber 51 rfl) rfl rfl (hQ _ (fun a j h => ((fg_u2nx (by omega)).trans ((fg_u2nx (by omega)).trans rfl))))
      · refine fg_aloadn (fg_ft (pc := 42) tb_Reader_testNumber 23 rfl) rfl ?_
        refine fg_aloadn (fg_ft (pc := 43) tb_Reader_testNumber 24 rfl) rfl ?_
        refine fg_getV (v := (nI v)) (fg_ft (pc := 44) tb_Reader_testNumber 25 rfl) ff_Reader_207 ly_255 rfl (fg_lt ly_255 (by decide)) h10 ?_
        refine fg_putI (fg_ft (pc := 47) tb_Reader_testNumber 26 rfl) ff_Reader_186 ly_255 rfl (fg_lt ly_255 (by decide)) (fg_nokI _) (fun _ _ h => by cases h; rfl) ?_
        show fg_wp _ _ _ _ _ _ _ _ _ (fg_u2 μ 255 13 (nI v), fg_rho R, 304)
        refine fg_iloadn (fg_ft (pc := 50) tb_Reader_testNumber 27 rfl) rfl ?_
        refine fg_bipush (fg_ft (pc := 51) tb_Reader_testNumber 28 rfl) ib_102 ?_
        refine fg_icmp_eqN (tgt := 62) (fg_ft (pc := 53) tb_Reader_testNumber 29 rfl) (by decide) (by have := pz_sg_lt w i hw; omega) (by decide) (fun c53 => ?_) (fun c53 => ?_)
        · refine fg_aloadn (fg_ft (pc := 62) tb_Reader_testNumber 33 rfl) rfl ?_
          refine fg_dup (fg_ft (pc := 63) tb_Reader_testNumber 34 rfl) rfl ?_
          refine fg_getI (fg_ft (pc := 64) tb_Reader_testNumber 35 rfl) ff_Reader_60 ly_255 rfl (fg_lt ly_255 (by decide)) ?_
          refine fg_iconst (fg_ft (pc := 67) tb_Reader_testNumber 36 rfl) ic_1 ?_
          refine fg_aloadn (fg_ft (pc := 68) tb_Reader_testNumber 37 rfl) rfl ?_
          refine fg_getV (v := (nI v)) (fg_ft (pc := 69) tb_Reader_testNumber 38 rfl) ff_Reader_207 ly_255 rfl (fg_lt ly_255 (by decide)) ((fg_u2ns (f := μ) (a := 255) (k := 13) (b := 255) (j := 10) (x := (nI v)) (by decide)).trans h10) ?_
          refine fg_ishl (fg_ft (pc := 72) tb_Reader_testNumber 39 rfl) ?_
          refine fg_ior (fg_ft (pc := 73) tb_Reader_testNumber 40 rfl) ?_
          refine fg_putI (fg_ft (pc := 74) tb_Reader_testNumber 41 rfl) ff_Reader_60 ly_255 rfl (fg_lt ly_255 (by decide)) (fg_nokI _) (fun _ _ h => by cases h; rfl) ?_
          show fg_wp _ _ _ _ _ _ _ _ _ (fg_u2 (fg_u2 μ 255 13 (nI v)) 255 11 (((fg_u2 μ 255 13 (nI v)) 255 11) ||| ((nI 1) <<< ((nI v) &&& 31))), fg_rho R, 304)
          refine fg_aloadn (fg_ft (pc := 77) tb_Reader_testNumber 42 rfl) rfl ?_
          refine fg_dup (fg_ft (pc := 78) tb_Reader_testNumber 43 rfl) rfl ?_
          refine fg_getI (fg_ft (pc := 79) tb_Reader_testNumber 44 rfl) ff_Reader_183 ly_255 rfl (fg_lt ly_255 (by decide)) ?_
          refine fg_iconst (fg_ft (pc := 82) tb_Reader_testNumber 45 rfl) ic_1 ?_
          refine fg_aloadn (fg_ft (pc := 83) tb_Reader_testNumber 46 rfl) rfl ?_
          refine fg_getV (v := (nI v)) (fg_ft (pc := 84) tb_Reader_testNumber 47 rfl) ff_Reader_207 ly_255 rfl (fg_lt ly_255 (by decide)) ((fg_u2ns (f := (fg_u2 μ 255 13 (nI v))) (a := 255) (k := 11) (b := 255) (j := 10) (x := (((fg_u2 μ 255 13 (nI v)) 255 11) ||| ((nI 1) <<< ((nI v) &&& 31)))) (by decide)).trans ((fg_u2ns (f := μ) (a := 255) (k := 13) (b := 255) (j := 10) (x := (nI v)) (by decide)).trans h10)) ?_
          refine fg_ishl (fg_ft (pc := 87) tb_Reader_testNumber 48 rfl) ?_
          refine fg_ior (fg_ft (pc := 88) tb_Reader_testNumber 49 rfl) ?_
          refine fg_putI (fg_ft (pc := 89) tb_Reader_testNumber 50 rfl) ff_Reader_183 ly_255 rfl (fg_lt ly_255 (by decide)) (fg_nokI _) (fun _ _ h => by cases h; rfl) ?_
          show fg_wp _ _ _ _ _ _ _ _ _ (fg_u2 (fg_u2 (fg_u2 μ 255 13 (nI v)) 255 11 (((fg_u2 μ 255 13 (nI v)) 255 11) ||| ((nI 1) <<< ((nI v) &&& 31)))) 255 12 (((fg_u2 (fg_u2 μ 255 13 (nI v)) 255 11 (((fg_u2 μ 255 13 (nI v)) 255 11) ||| ((nI 1) <<< ((nI v) &&& 31)))) 255 12) ||| ((nI 1) <<< ((nI v) &&& 31))), fg_rho R, 304)
          exact fg_vret (fg_ft (pc := 92) tb_Reader_testNumber 51 rfl) rfl rfl (hQ _ (fun a j h => ((fg_u2nx (by omega)).trans ((fg_u2nx (by omega)).trans ((fg_u2nx (by omega)).trans rfl)))))
        · refine fg_iloadn (fg_ft (pc := 56) tb_Reader_testNumber 30 rfl) rfl ?_
          refine fg_bipush (fg_ft (pc := 57) tb_Reader_testNumber 31 rfl) ib_117 ?_
          refine fg_icmp_neN (tgt := 92) (fg_ft (pc := 59) tb_Reader_testNumber 32 rfl) (by decide) (by have := pz_sg_lt w i hw; omega) (by decide) (fun c59 => ?_) (fun c59 => ?_)
          · exact fg_vret (fg_ft (pc := 92) tb_Reader_testNumber 51 rfl) rfl rfl (hQ _ (fun a j h => ((fg_u2nx (by omega)).trans rfl)))
          · refine fg_aloadn (fg_ft (pc := 62) tb_Reader_testNumber 33 rfl) rfl ?_
            refine fg_dup (fg_ft (pc := 63) tb_Reader_testNumber 34 rfl) rfl ?_
            refine fg_getI (fg_ft (pc := 64) tb_Reader_testNumber 35 rfl) ff_Reader_60 ly_255 rfl (fg_lt ly_255 (by decide)) ?_
            refine fg_iconst (fg_ft (pc := 67) tb_Reader_testNumber 36 rfl) ic_1 ?_
            refine fg_aloadn (fg_ft (pc := 68) tb_Reader_testNumber 37 rfl) rfl ?_
            refine fg_getV (v := (nI v)) (fg_ft (pc := 69) tb_Reader_testNumber 38 rfl) ff_Reader_207 ly_255 rfl (fg_lt ly_255 (by decide)) ((fg_u2ns (f := μ) (a := 255) (k := 13) (b := 255) (j := 10) (x := (nI v)) (by decide)).trans h10) ?_
            refine fg_ishl (fg_ft (pc := 72) tb_Reader_testNumber 39 rfl) ?_
            refine fg_ior (fg_ft (pc := 73) tb_Reader_testNumber 40 rfl) ?_
            refine fg_putI (fg_ft (pc := 74) tb_Reader_testNumber 41 rfl) ff_Reader_60 ly_255 rfl (fg_lt ly_255 (by decide)) (fg_nokI _) (fun _ _ h => by cases h; rfl) ?_
            show fg_wp _ _ _ _ _ _ _ _ _ (fg_u2 (fg_u2 μ 255 13 (nI v)) 255 11 (((fg_u2 μ 255 13 (nI v)) 255 11) ||| ((nI 1) <<< ((nI v) &&& 31))), fg_rho R, 304)
            refine fg_aloadn (fg_ft (pc := 77) tb_Reader_testNumber 42 rfl) rfl ?_
            refine fg_dup (fg_ft (pc := 78) tb_Reader_testNumber 43 rfl) rfl ?_
            refine fg_getI (fg_ft (pc := 79) tb_Reader_testNumber 44 rfl) ff_Reader_183 ly_255 rfl (fg_lt ly_255 (by decide)) ?_
            refine fg_iconst (fg_ft (pc := 82) tb_Reader_testNumber 45 rfl) ic_1 ?_
            refine fg_aloadn (fg_ft (pc := 83) tb_Reader_testNumber 46 rfl) rfl ?_
            refine fg_getV (v := (nI v)) (fg_ft (pc := 84) tb_Reader_testNumber 47 rfl) ff_Reader_207 ly_255 rfl (fg_lt ly_255 (by decide)) ((fg_u2ns (f := (fg_u2 μ 255 13 (nI v))) (a := 255) (k := 11) (b := 255) (j := 10) (x := (((fg_u2 μ 255 13 (nI v)) 255 11) ||| ((nI 1) <<< ((nI v) &&& 31)))) (by decide)).trans ((fg_u2ns (f := μ) (a := 255) (k := 13) (b := 255) (j := 10) (x := (nI v)) (by decide)).trans h10)) ?_
            refine fg_ishl (fg_ft (pc := 87) tb_Reader_testNumber 48 rfl) ?_
            refine fg_ior (fg_ft (pc := 88) tb_Reader_testNumber 49 rfl) ?_
            refine fg_putI (fg_ft (pc := 89) tb_Reader_testNumber 50 rfl) ff_Reader_183 ly_255 rfl (fg_lt ly_255 (by decide)) (fg_nokI _) (fun _ _ h => by cases h; rfl) ?_
            show fg_wp _ _ _ _ _ _ _ _ _ (fg_u2 (fg_u2 (fg_u2 μ 255 13 (nI v)) 255 11 (((fg_u2 μ 255 13 (nI v)) 255 11) ||| ((nI 1) <<< ((nI v) &&& 31)))) 255 12 (((fg_u2 (fg_u2 μ 255 13 (nI v)) 255 11 (((fg_u2 μ 255 13 (nI v)) 255 11) ||| ((nI 1) <<< ((nI v) &&& 31)))) 255 12) ||| ((nI 1) <<< ((nI v) &&& 31))), fg_rho R, 304)
            exact fg_vret (fg_ft (pc := 92) tb_Reader_testNumber 51 rfl) rfl rfl (hQ _ (fun a j h => ((fg_u2nx (by omega)).trans ((fg_u2nx (by omega)).trans ((fg_u2nx (by omega)).trans rfl)))))
    · refine fg_iloadn (fg_ft (pc := 28) tb_Reader_testNumber 15 rfl) rfl ?_
      refine fg_iconst (fg_ft (pc := 29) tb_Reader_testNumber 16 rfl) ic_3 ?_
      refine fg_icmp_leN (tgt := 38) (fg_ft (pc := 30) tb_Reader_testNumber 17 rfl) (by decide) (by omega) (by decide) (fun c30 => ?_) (fun c30 => ?_)
      · refine fg_iloadn (fg_ft (pc := 38) tb_Reader_testNumber 21 rfl) rfl ?_
        refine fg_if_neN (tgt := 50) (fg_ft (pc := 39) tb_Reader_testNumber 22 rfl) (by decide) (by omega) (fun c39 => ?_) (fun c39 => ?_)
        · refine fg_iloadn (fg_ft (pc := 50) tb_Reader_testNumber 27 rfl) rfl ?_
          refine fg_bipush (fg_ft (pc := 51) tb_Reader_testNumber 28 rfl) ib_102 ?_
          refine fg_icmp_eqN (tgt := 62) (fg_ft (pc := 53) tb_Reader_testNumber 29 rfl) (by decide) (by have := pz_sg_lt w i hw; omega) (by decide) (fun c53 => ?_) (fun c53 => ?_)
          · refine fg_aloadn (fg_ft (pc := 62) tb_Reader_testNumber 33 rfl) rfl ?_
            refine fg_dup (fg_ft (pc := 63) tb_Reader_testNumber 34 rfl) rfl ?_
            refine fg_getI (fg_ft (pc := 64) tb_Reader_testNumber 35 rfl) ff_Reader_60 ly_255 rfl (fg_lt ly_255 (by decide)) ?_
            refine fg_iconst (fg_ft (pc := 67) tb_Reader_testNumber 36 rfl) ic_1 ?_
            refine fg_aloadn (fg_ft (pc := 68) tb_Reader_testNumber 37 rfl) rfl ?_
            refine fg_getV (v := (nI v)) (fg_ft (pc := 69) tb_Reader_testNumber 38 rfl) ff_Reader_207 ly_255 rfl (fg_lt ly_255 (by decide)) h10 ?_
            refine fg_ishl (fg_ft (pc := 72) tb_Reader_testNumber 39 rfl) ?_
            refine fg_ior (fg_ft (pc := 73) tb_Reader_testNumber 40 rfl) ?_
            refine fg_putI (fg_ft (pc := 74) tb_Reader_testNumber 41 rfl) ff_Reader_60 ly_255 rfl (fg_lt ly_255 (by decide)) (fg_nokI _) (fun _ _ h => by cases h; rfl) ?_
            show fg_wp _ _ _ _ _ _ _ _ _ (fg_u2 μ 255 11 ((μ 255 11) ||| ((nI 1) <<< ((nI v) &&& 31))), fg_rho R, 304)
            refine fg_aloadn (fg_ft (pc := 77) tb_Reader_testNumber 42 rfl) rfl ?_
            refine fg_dup (fg_ft (pc := 78) tb_Reader_testNumber 43 rfl) rfl ?_
            refine fg_getI (fg_ft (pc := 79) tb_Reader_testNumber 44 rfl) ff_Reader_183 ly_255 rfl (fg_lt ly_255 (by decide)) ?_
            refine fg_iconst (fg_ft (pc := 82) tb_Reader_testNumber 45 rfl) ic_1 ?_
            refine fg_aloadn (fg_ft (pc := 83) tb_Reader_testNumber 46 rfl) rfl ?_
            refine fg_getV (v := (nI v)) (fg_ft (pc := 84) tb_Reader_testNumber 47 rfl) ff_Reader_207 ly_255 rfl (fg_lt ly_255 (by decide)) ((fg_u2ns (f := μ) (a := 255) (k := 11) (b := 255) (j := 10) (x := ((μ 255 11) ||| ((nI 1) <<< ((nI v) &&& 31)))) (by decide)).trans h10) ?_
            refine fg_ishl (fg_ft (pc := 87) tb_Reader_testNumber 48 rfl) ?_
            refine fg_ior (fg_ft (pc := 88) tb_Reader_testNumber 49 rfl) ?_
            refine fg_putI (fg_ft (pc := 89) tb_Reader_testNumber 50 rfl) ff_Reader_183 ly_255 rfl (fg_lt ly_255 (by decide)) (fg_nokI _) (fun _ _ h => by cases h; rfl) ?_
            show fg_wp _ _ _ _ _ _ _ _ _ (fg_u2 (fg_u2 μ 255 11 ((μ 255 11) ||| ((nI 1) <<< ((nI v) &&& 31)))) 255 12 (((fg_u2 μ 255 11 ((μ 255 11) ||| ((nI 1) <<< ((nI v) &&& 31)))) 255 12) ||| ((nI 1) <<< ((nI v) &&& 31))), fg_rho R, 304)
            exact fg_vret (fg_ft (pc := 92) tb_Reader_testNumber 51 rfl) rfl rfl (hQ _ (fun a j h => ((fg_u2nx (by omega)).trans ((fg_u2nx (by omega)).trans rfl))))
          · refine fg_iloadn (fg_ft (pc := 56) tb_Reader_testNumber 30 rfl) rfl ?_
            refine fg_bipush (fg_ft (pc := 57) tb_Reader_testNumber 31 rfl) ib_117 ?_
            refine fg_icmp_neN (tgt := 92) (fg_ft (pc := 59) tb_Reader_testNumber 32 rfl) (by decide) (by have := pz_sg_lt w i hw; omega) (by decide) (fun c59 => ?_) (fun c59 => ?_)
            · exact fg_vret (fg_ft (pc := 92) tb_Reader_testNumber 51 rfl) rfl rfl (hQ _ (fun a j h => rfl))
            · refine fg_aloadn (fg_ft (pc := 62) tb_Reader_testNumber 33 rfl) rfl ?_
              refine fg_dup (fg_ft (pc := 63) tb_Reader_testNumber 34 rfl) rfl ?_
              refine fg_getI (fg_ft (pc := 64) tb_Reader_testNumber 35 rfl) ff_Reader_60 ly_255 rfl (fg_lt ly_255 (by decide)) ?_
              refine fg_iconst (fg_ft (pc := 67) tb_Reader_testNumber 36 rfl) ic_1 ?_
              refine fg_aloadn (fg_ft (pc := 68) tb_Reader_testNumber 37 rfl) rfl ?_
              refine fg_getV (v := (nI v)) (fg_ft (pc := 69) tb_Reader_testNumber 38 rfl) ff_Reader_207 ly_255 rfl (fg_lt ly_255 (by decide)) h10 ?_
              refine fg_ishl (fg_ft (pc := 72) tb_Reader_testNumber 39 rfl) ?_
              refine fg_ior (fg_ft (pc := 73) tb_Reader_testNumber 40 rfl) ?_
              refine fg_putI (fg_ft (pc := 74) tb_Reader_testNumber 41 rfl) ff_Reader_60 ly_255 rfl (fg_lt ly_255 (by decide)) (fg_nokI _) (fun _ _ h => by cases h; rfl) ?_
              show fg_wp _ _ _ _ _ _ _ _ _ (fg_u2 μ 255 11 ((μ 255 11) ||| ((nI 1) <<< ((nI v) &&& 31))), fg_rho R, 304)
              refine fg_aloadn (fg_ft (pc := 77) tb_Reader_testNumber 42 rfl) rfl ?_
              refine fg_dup (fg_ft (pc := 78) tb_Reader_testNumber 43 rfl) rfl ?_
              refine fg_getI (fg_ft (pc := 79) tb_Reader_testNumber 44 rfl) ff_Reader_183 ly_255 rfl (fg_lt ly_255 (by decide)) ?_
              refine fg_iconst (fg_ft (pc := 82) tb_Reader_testNumber 45 rfl) ic_1 ?_
              refine fg_aloadn (fg_ft (pc := 83) tb_Reader_testNumber 46 rfl) rfl ?_
              refine fg_getV (v := (nI v)) (fg_ft (pc := 84) tb_Reader_testNumber 47 rfl) ff_Reader_207 ly_255 rfl (fg_lt ly_255 (by decide)) ((fg_u2ns (f := μ) (a := 255) (k := 11) (b := 255) (j := 10) (x := ((μ 255 11) ||| ((nI 1) <<< ((nI v) &&& 31)))) (by decide)).trans h10) ?_
              refine fg_ishl (fg_ft (pc := 87) tb_Reader_testNumber 48 rfl) ?_
              refine fg_ior (fg_ft (pc := 88) tb_Reader_testNumber 49 rfl) ?_
              refine fg_putI (fg_ft (pc := 89) tb_Reader_testNumber 50 rfl) ff_Reader_183 ly_255 rfl (fg_lt ly_255 (by decide)) (fg_nokI _) (fun _ _ h => by cases h; rfl) ?_
              show fg_wp _ _ _ _ _ _ _ _ _ (fg_u2 (fg_u2 μ 255 11 ((μ 255 11) ||| ((nI 1) <<< ((nI v) &&& 31)))) 255 12 (((fg_u2 μ 255 11 ((μ 255 11) ||| ((nI 1) <<< ((nI v) &&& 31)))) 255 12) ||| ((nI 1) <<< ((nI v) &&& 31))), fg_rho R, 304)
              exact fg_vret (fg_ft (pc := 92) tb_Reader_testNumber 51 rfl) rfl rfl (hQ _ (fun a j h => ((fg_u2nx (by omega)).trans ((fg_u2nx (by omega)).trans rfl))))
        · refine fg_aloadn (fg_ft (pc := 42) tb_Reader_testNumber 23 rfl) rfl ?_
          refine fg_aloadn (fg_ft (pc := 43) tb_Reader_testNumber 24 rfl) rfl ?_
          refine fg_getV (v := (nI v)) (fg_ft (pc := 44) tb_Reader_testNumber 25 rfl) ff_Reader_207 ly_255 rfl (fg_lt ly_255 (by decide)) h10 ?_
          refine fg_putI (fg_ft (pc := 47) tb_Reader_testNumber 26 rfl) ff_Reader_186 ly_255 rfl (fg_lt ly_255 (by decide)) (fg_nokI _) (fun _ _ h => by cases h; rfl) ?_
          show fg_wp _ _ _ _ _ _ _ _ _ (fg_u2 μ 255 13 (nI v), fg_rho R, 304)
          refine fg_iloadn (fg_ft (pc := 50) tb_Reader_testNumber 27 rfl) rfl ?_
          refine fg_bipush (fg_ft (pc := 51) tb_Reader_testNumber 28 rfl) ib_102 ?_
          refine fg_icmp_eqN (tgt := 62) (fg_ft (pc := 53) tb_Reader_testNumber 29 rfl) (by decide) (by have := pz_sg_lt w i hw; omega) (by decide) (fun c53 => ?_) (fun c53 => ?_)
          · refine fg_aloadn (fg_ft (pc := 62) tb_Reader_testNumber 33 rfl) rfl ?_
            refine fg_dup (fg_ft (pc := 63) tb_Reader_testNumber 34 rfl) rfl ?_
            refine fg_getI (fg_ft (pc := 64) tb_Reader_testNumber 35 rfl) ff_Reader_60 ly_255 rfl (fg_lt ly_255 (by decide)) ?_
            refine fg_iconst (fg_ft (pc := 67) tb_Reader_testNumber 36 rfl) ic_1 ?_
            refine fg_aloadn (fg_ft (pc := 68) tb_Reader_testNumber 37 rfl) rfl ?_
            refine fg_getV (v := (nI v)) (fg_ft (pc := 69) tb_Reader_testNumber 38 rfl) ff_Reader_207 ly_255 rfl (fg_lt ly_255 (by decide)) ((fg_u2ns (f := μ) (a := 255) (k := 13) (b := 255) (j := 10) (x := (nI v)) (by decide)).trans h10) ?_
            refine fg_ishl (fg_ft (pc := 72) tb_Reader_testNumber 39 rfl) ?_
            refine fg_ior (fg_ft (pc := 73) tb_Reader_testNumber 40 rfl) ?_
            refine fg_putI (fg_ft (pc := 74) tb_Reader_testNumber 41 rfl) ff_Reader_60 ly_255 rfl (fg_lt ly_255 (by decide)) (fg_nokI _) (fun _ _ h => by cases h; rfl) ?_
            show fg_wp _ _ _ _ _ _ _ _ _ (fg_u2 (fg_u2 μ 255 13 (nI v)) 255 11 (((fg_u2 μ 255 13 (nI v)) 255 11) ||| ((nI 1) <<< ((nI v) &&& 31))), fg_rho R, 304)
            refine fg_aloadn (fg_ft (pc := 77) tb_Reader_testNumber 42 rfl) rfl ?_
            refine fg_dup (fg_ft (pc := 78) tb_Reader_testNumber 43 rfl) rfl ?_
            refine fg_getI (fg_ft (pc := 79) tb_Reader_testNumber 44 rfl) ff_Reader_183 ly_255 rfl (fg_lt ly_255 (by decide)) ?_
            refine fg_iconst (fg_ft (pc := 82) tb_Reader_testNumber 45 rfl) ic_1 ?_
            refine fg_aloadn (fg_ft (pc := 83) tb_Reader_testNumber 46 rfl) rfl ?_
            refine fg_getV (v := (nI v)) (fg_ft (pc := 84) tb_Reader_testNumber 47 rfl) ff_Reader_207 ly_255 rfl (fg_lt ly_255 (by decide)) ((fg_u2ns (f := (fg_u2 μ 255 13 (nI v))) (a := 255) (k := 11) (b := 255) (j := 10) (x := (((fg_u2 μ 255 13 (nI v)) 255 11) ||| ((nI 1) <<< ((nI v) &&& 31)))) (by decide)).trans ((fg_u2ns (f := μ) (a := 255) (k := 13) (b := 255) (j := 10) (x := (nI v)) (by decide)).trans h10)) ?_
            refine fg_ishl (fg_ft (pc := 87) tb_Reader_testNumber 48 rfl) ?_
            refine fg_ior (fg_ft (pc := 88) tb_Reader_testNumber 49 rfl) ?_
            refine fg_putI (fg_ft (pc := 89) tb_Reader_testNumber 50 rfl) ff_Reader_183 ly_255 rfl (fg_lt ly_255 (by decide)) (fg_nokI _) (fun _ _ h => by cases h; rfl) ?_
            show fg_wp _ _ _ _ _ _ _ _ _ (fg_u2 (fg_u2 (fg_u2 μ 255 13 (nI v)) 255 11 (((fg_u2 μ 255 13 (nI v)) 255 11) ||| ((nI 1) <<< ((nI v) &&& 31)))) 255 12 (((fg_u2 (fg_u2 μ 255 13 (nI v)) 255 11 (((fg_u2 μ 255 13 (nI v)) 255 11) ||| ((nI 1) <<< ((nI v) &&& 31)))) 255 12) ||| ((nI 1) <<< ((nI v) &&& 31))), fg_rho R, 304)
            exact fg_vret (fg_ft (pc := 92) tb_Reader_testNumber 51 rfl) rfl rfl (hQ _ (fun a j h => ((fg_u2nx (by omega)).trans ((fg_u2nx (by omega)).trans ((fg_u2nx (by omega)).trans rfl)))))
          · refine fg_iloadn (fg_ft (pc := 56) tb_Reader_testNumber 30 rfl) rfl ?_
            refine fg_bipush (fg_ft (pc := 57) tb_Reader_testNumber 31 rfl) ib_117 ?_
            refine fg_icmp_neN (tgt := 92) (fg_ft (pc := 59) tb_Reader_testNumber 32 rfl) (by decide) (by have := pz_sg_lt w i hw; omega) (by decide) (fun c59 => ?_) (fun c59 => ?_)
            · exact fg_vret (fg_ft (pc := 92) tb_Reader_testNumber 51 rfl) rfl rfl (hQ _ (fun a j h => ((fg_u2nx (by omega)).trans rfl)))
            · refine fg_aloadn (fg_ft (pc := 62) tb_Reader_testNumber 33 rfl) rfl ?_
              refine fg_dup (fg_ft (pc := 63) tb_Reader_testNumber 34 rfl) rfl ?_
              refine fg_getI (fg_ft (pc := 64) tb_Reader_testNumber 35 rfl) ff_Reader_60 ly_255 rfl (fg_lt ly_255 (by decide)) ?_
              refine fg_iconst (fg_ft (pc := 67) tb_Reader_testNumber 36 rfl) ic_1 ?_
              refine fg_aloadn (fg_ft (pc := 68) tb_Reader_testNumber 37 rfl) rfl ?_
              refine fg_getV (v := (nI v)) (fg_ft (pc := 69) tb_Reader_testNumber 38 rfl) ff_Reader_207 ly_255 rfl (fg_lt ly_255 (by decide)) ((fg_u2ns (f := μ) (a := 255) (k := 13) (b := 255) (j := 10) (x := (nI v)) (by decide)).trans h10) ?_
              refine fg_ishl (fg_ft (pc := 72) tb_Reader_testNumber 39 rfl) ?_
              refine fg_ior (fg_ft (pc := 73) tb_Reader_testNumber 40 rfl) ?_
              refine fg_putI (fg_ft (pc := 74) tb_Reader_testNumber 41 rfl) ff_Reader_60 ly_255 rfl (fg_lt ly_255 (by decide)) (fg_nokI _) (fun _ _ h => by cases h; rfl) ?_
              show fg_wp _ _ _ _ _ _ _ _ _ (fg_u2 (fg_u2 μ 255 13 (nI v)) 255 11 (((fg_u2 μ 255 13 (nI v)) 255 11) ||| ((nI 1) <<< ((nI v) &&& 31))), fg_rho R, 304)
              refine fg_aloadn (fg_ft (pc := 77) tb_Reader_testNumber 42 rfl) rfl ?_
              refine fg_dup (fg_ft (pc := 78) tb_Reader_testNumber 43 rfl) rfl ?_
              refine fg_getI (fg_ft (pc := 79) tb_Reader_testNumber 44 rfl) ff_Reader_183 ly_255 rfl (fg_lt ly_255 (by decide)) ?_
              refine fg_iconst (fg_ft (pc := 82) tb_Reader_testNumber 45 rfl) ic_1 ?_
              refine fg_aloadn (fg_ft (pc := 83) tb_Reader_testNumber 46 rfl) rfl ?_
              refine fg_getV (v := (nI v)) (fg_ft (pc := 84) tb_Reader_testNumber 47 rfl) ff_Reader_207 ly_255 rfl (fg_lt ly_255 (by decide)) ((fg_u2ns (f := (fg_u2 μ 255 13 (nI v))) (a := 255) (k := 11) (b := 255) (j := 10) (x := (((fg_u2 μ 255 13 (nI v)) 255 11) ||| ((nI 1) <<< ((nI v) &&& 31)))) (by decide)).trans ((fg_u2ns (f := μ) (a := 255) (k := 13) (b := 255) (j := 10) (x := (nI v)) (by decide)).trans h10)) ?_
              refine fg_ishl (fg_ft (pc := 87) tb_Reader_testNumber 48 rfl) ?_
              refine fg_ior (fg_ft (pc := 88) tb_Reader_testNumber 49 rfl) ?_
              refine fg_putI (fg_ft (pc := 89) tb_Reader_testNumber 50 rfl) ff_Reader_183 ly_255 rfl (fg_lt ly_255 (by decide)) (fg_nokI _) (fun _ _ h => by cases h; rfl) ?_
              show fg_wp _ _ _ _ _ _ _ _ _ (fg_u2 (fg_u2 (fg_u2 μ 255 13 (nI v)) 255 11 (((fg_u2 μ 255 13 (nI v)) 255 11) ||| ((nI 1) <<< ((nI v) &&& 31)))) 255 12 (((fg_u2 (fg_u2 μ 255 13 (nI v)) 255 11 (((fg_u2 μ 255 13 (nI v)) 255 11) ||| ((nI 1) <<< ((nI v) &&& 31)))) 255 12) ||| ((nI 1) <<< ((nI v) &&& 31))), fg_rho R, 304)
              exact fg_vret (fg_ft (pc := 92) tb_Reader_testNumber 51 rfl) rfl rfl (hQ _ (fun a j h => ((fg_u2nx (by omega)).trans ((fg_u2nx (by omega)).trans ((fg_u2nx (by omega)).trans rfl)))))
      · refine fg_aloadn (fg_ft (pc := 33) tb_Reader_testNumber 18 rfl) rfl ?_
        refine fg_iconst (fg_ft (pc := 34) tb_Reader_testNumber 19 rfl) ic_3 ?_
        refine fg_callV (fg_ft (pc := 35) tb_Reader_testNumber 20 rfl) cf_Reader_192 (fg_isOf ly_255 rfl (fg_lt ly_255 (by decide))) (as := [.int (nI 3)]) (st := []) rfl rfl (Nat.le_of_ble_eq_true rfl) (Nat.le_refl _) (Nat.le_refl _) (ev_Reader_noteFault1 (F := F) (by first | exact hF | assumption) hF5 hF0 ?_)
        refine fg_iloadn (fg_ft (pc := 38) tb_Reader_testNumber 21 rfl) rfl ?_
        refine fg_if_neN (tgt := 50) (fg_ft (pc := 39) tb_Reader_testNumber 22 rfl) (by decide) (by omega) (fun c39 => ?_) (fun c39 => ?_)
        · refine fg_iloadn (fg_ft (pc := 50) tb_Reader_testNumber 27 rfl) rfl ?_
          refine fg_bipush (fg_ft (pc := 51) tb_Reader_testNumber 28 rfl) ib_102 ?_
          refine fg_icmp_eqN (tgt := 62) (fg_ft (pc := 53) tb_Reader_testNumber 29 rfl) (by decide) (by have := pz_sg_lt w i hw; omega) (by decide) (fun c53 => ?_) (fun c53 => ?_)
          · refine fg_aloadn (fg_ft (pc := 62) tb_Reader_testNumber 33 rfl) rfl ?_
            refine fg_dup (fg_ft (pc := 63) tb_Reader_testNumber 34 rfl) rfl ?_
            refine fg_getI (fg_ft (pc := 64) tb_Reader_testNumber 35 rfl) ff_Reader_60 ly_255 rfl (fg_lt ly_255 (by decide)) ?_
            refine fg_iconst (fg_ft (pc := 67) tb_Reader_testNumber 36 rfl) ic_1 ?_
            refine fg_aloadn (fg_ft (pc := 68) tb_Reader_testNumber 37 rfl) rfl ?_
            refine fg_getV (v := (nI v)) (fg_ft (pc := 69) tb_Reader_testNumber 38 rfl) ff_Reader_207 ly_255 rfl (fg_lt ly_255 (by decide)) h10 ?_
            refine fg_ishl (fg_ft (pc := 72) tb_Reader_testNumber 39 rfl) ?_
            refine fg_ior (fg_ft (pc := 73) tb_Reader_testNumber 40 rfl) ?_
            refine fg_putI (fg_ft (pc := 74) tb_Reader_testNumber 41 rfl) ff_Reader_60 ly_255 rfl (fg_lt ly_255 (by decide)) (fg_nokI _) (fun _ _ h => by cases h; rfl) ?_
            show fg_wp _ _ _ _ _ _ _ _ _ (fg_u2 μ 255 11 ((μ 255 11) ||| ((nI 1) <<< ((nI v) &&& 31))), fg_rho R, 304)
            refine fg_aloadn (fg_ft (pc := 77) tb_Reader_testNumber 42 rfl) rfl ?_
            refine fg_dup (fg_ft (pc := 78) tb_Reader_testNumber 43 rfl) rfl ?_
            refine fg_getI (fg_ft (pc := 79) tb_Reader_testNumber 44 rfl) ff_Reader_183 ly_255 rfl (fg_lt ly_255 (by decide)) ?_
            refine fg_iconst (fg_ft (pc := 82) tb_Reader_testNumber 45 rfl) ic_1 ?_
            refine fg_aloadn (fg_ft (pc := 83) tb_Reader_testNumber 46 rfl) rfl ?_
            refine fg_getV (v := (nI v)) (fg_ft (pc := 84) tb_Reader_testNumber 47 rfl) ff_Reader_207 ly_255 rfl (fg_lt ly_255 (by decide)) ((fg_u2ns (f := μ) (a := 255) (k := 11) (b := 255) (j := 10) (x := ((μ 255 11) ||| ((nI 1) <<< ((nI v) &&& 31)))) (by decide)).trans h10) ?_
            refine fg_ishl (fg_ft (pc := 87) tb_Reader_testNumber 48 rfl) ?_
            refine fg_ior (fg_ft (pc := 88) tb_Reader_testNumber 49 rfl) ?_
            refine fg_putI (fg_ft (pc := 89) tb_Reader_testNumber 50 rfl) ff_Reader_183 ly_255 rfl (fg_lt ly_255 (by decide)) (fg_nokI _) (fun _ _ h => by cases h; rfl) ?_
            show fg_wp _ _ _ _ _ _ _ _ _ (fg_u2 (fg_u2 μ 255 11 ((μ 255 11) ||| ((nI 1) <<< ((nI v) &&& 31)))) 255 12 (((fg_u2 μ 255 11 ((μ 255 11) ||| ((nI 1) <<< ((nI v) &&& 31)))) 255 12) ||| ((nI 1) <<< ((nI v) &&& 31))), fg_rho R, 304)
            exact fg_vret (fg_ft (pc := 92) tb_Reader_testNumber 51 rfl) rfl rfl (hQ _ (fun a j h => ((fg_u2nx (by omega)).trans ((fg_u2nx (by omega)).trans rfl))))
          · refine fg_iloadn (fg_ft (pc := 56) tb_Reader_testNumber 30 rfl) rfl ?_
            refine fg_bipush (fg_ft (pc := 57) tb_Reader_testNumber 31 rfl) ib_117 ?_
            refine fg_icmp_neN (tgt := 92) (fg_ft (pc := 59) tb_Reader_testNumber 32 rfl) (by decide) (by have := pz_sg_lt w i hw; omega) (by decide) (fun c59 => ?_) (fun c59 => ?_)
            · exact fg_vret (fg_ft (pc := 92) tb_Reader_testNumber 51 rfl) rfl rfl (hQ _ (fun a j h => rfl))
            · refine fg_aloadn (fg_ft (pc := 62) tb_Reader_testNumber 33 rfl) rfl ?_
              refine fg_dup (fg_ft (pc := 63) tb_Reader_testNumber 34 rfl) rfl ?_
              refine fg_getI (fg_ft (pc := 64) tb_Reader_testNumber 35 rfl) ff_Reader_60 ly_255 rfl (fg_lt ly_255 (by decide)) ?_
              refine fg_iconst (fg_ft (pc := 67) tb_Reader_testNumber 36 rfl) ic_1 ?_
              refine fg_aloadn (fg_ft (pc := 68) tb_Reader_testNumber 37 rfl) rfl ?_
              refine fg_getV (v := (nI v)) (fg_ft (pc := 69) tb_Reader_testNumber 38 rfl) ff_Reader_207 ly_255 rfl (fg_lt ly_255 (by decide)) h10 ?_
              refine fg_ishl (fg_ft (pc := 72) tb_Reader_testNumber 39 rfl) ?_
              refine fg_ior (fg_ft (pc := 73) tb_Reader_testNumber 40 rfl) ?_
              refine fg_putI (fg_ft (pc := 74) tb_Reader_testNumber 41 rfl) ff_Reader_60 ly_255 rfl (fg_lt ly_255 (by decide)) (fg_nokI _) (fun _ _ h => by cases h; rfl) ?_
              show fg_wp _ _ _ _ _ _ _ _ _ (fg_u2 μ 255 11 ((μ 255 11) ||| ((nI 1) <<< ((nI v) &&& 31))), fg_rho R, 304)
              refine fg_aloadn (fg_ft (pc := 77) tb_Reader_testNumber 42 rfl) rfl ?_
              refine fg_dup (fg_ft (pc := 78) tb_Reader_testNumber 43 rfl) rfl ?_
              refine fg_getI (fg_ft (pc := 79) tb_Reader_testNumber 44 rfl) ff_Reader_183 ly_255 rfl (fg_lt ly_255 (by decide)) ?_
              refine fg_iconst (fg_ft (pc := 82) tb_Reader_testNumber 45 rfl) ic_1 ?_
              refine fg_aloadn (fg_ft (pc := 83) tb_Reader_testNumber 46 rfl) rfl ?_
              refine fg_getV (v := (nI v)) (fg_ft (pc := 84) tb_Reader_testNumber 47 rfl) ff_Reader_207 ly_255 rfl (fg_lt ly_255 (by decide)) ((fg_u2ns (f := μ) (a := 255) (k := 11) (b := 255) (j := 10) (x := ((μ 255 11) ||| ((nI 1) <<< ((nI v) &&& 31)))) (by decide)).trans h10) ?_
              refine fg_ishl (fg_ft (pc := 87) tb_Reader_testNumber 48 rfl) ?_
              refine fg_ior (fg_ft (pc := 88) tb_Reader_testNumber 49 rfl) ?_
              refine fg_putI (fg_ft (pc := 89) tb_Reader_testNumber 50 rfl) ff_Reader_183 ly_255 rfl (fg_lt ly_255 (by decide)) (fg_nokI _) (fun _ _ h => by cases h; rfl) ?_
              show fg_wp _ _ _ _ _ _ _ _ _ (fg_u2 (fg_u2 μ 255 11 ((μ 255 11) ||| ((nI 1) <<< ((nI v) &&& 31)))) 255 12 (((fg_u2 μ 255 11 ((μ 255 11) ||| ((nI 1) <<< ((nI v) &&& 31)))) 255 12) ||| ((nI 1) <<< ((nI v) &&& 31))), fg_rho R, 304)
              exact fg_vret (fg_ft (pc := 92) tb_Reader_testNumber 51 rfl) rfl rfl (hQ _ (fun a j h => ((fg_u2nx (by omega)).trans ((fg_u2nx (by omega)).trans rfl))))
        · refine fg_aloadn (fg_ft (pc := 42) tb_Reader_testNumber 23 rfl) rfl ?_
          refine fg_aloadn (fg_ft (pc := 43) tb_Reader_testNumber 24 rfl) rfl ?_
          refine fg_getV (v := (nI v)) (fg_ft (pc := 44) tb_Reader_testNumber 25 rfl) ff_Reader_207 ly_255 rfl (fg_lt ly_255 (by decide)) h10 ?_
          refine fg_putI (fg_ft (pc := 47) tb_Reader_testNumber 26 rfl) ff_Reader_186 ly_255 rfl (fg_lt ly_255 (by decide)) (fg_nokI _) (fun _ _ h => by cases h; rfl) ?_
          show fg_wp _ _ _ _ _ _ _ _ _ (fg_u2 μ 255 13 (nI v), fg_rho R, 304)
          refine fg_iloadn (fg_ft (pc := 50) tb_Reader_testNumber 27 rfl) rfl ?_
          refine fg_bipush (fg_ft (pc := 51) tb_Reader_testNumber 28 rfl) ib_102 ?_
          refine fg_icmp_eqN (tgt := 62) (fg_ft (pc := 53) tb_Reader_testNumber 29 rfl) (by decide) (by have := pz_sg_lt w i hw; omega) (by decide) (fun c53 => ?_) (fun c53 => ?_)
          · refine fg_aloadn (fg_ft (pc := 62) tb_Reader_testNumber 33 rfl) rfl ?_
            refine fg_dup (fg_ft (pc := 63) tb_Reader_testNumber 34 rfl) rfl ?_
            refine fg_getI (fg_ft (pc := 64) tb_Reader_testNumber 35 rfl) ff_Reader_60 ly_255 rfl (fg_lt ly_255 (by decide)) ?_
            refine fg_iconst (fg_ft (pc := 67) tb_Reader_testNumber 36 rfl) ic_1 ?_
            refine fg_aloadn (fg_ft (pc := 68) tb_Reader_testNumber 37 rfl) rfl ?_
            refine fg_getV (v := (nI v)) (fg_ft (pc := 69) tb_Reader_testNumber 38 rfl) ff_Reader_207 ly_255 rfl (fg_lt ly_255 (by decide)) ((fg_u2ns (f := μ) (a := 255) (k := 13) (b := 255) (j := 10) (x := (nI v)) (by decide)).trans h10) ?_
            refine fg_ishl (fg_ft (pc := 72) tb_Reader_testNumber 39 rfl) ?_
            refine fg_ior (fg_ft (pc := 73) tb_Reader_testNumber 40 rfl) ?_
            refine fg_putI (fg_ft (pc := 74) tb_Reader_testNumber 41 rfl) ff_Reader_60 ly_255 rfl (fg_lt ly_255 (by decide)) (fg_nokI _) (fun _ _ h => by cases h; rfl) ?_
            show fg_wp _ _ _ _ _ _ _ _ _ (fg_u2 (fg_u2 μ 255 13 (nI v)) 255 11 (((fg_u2 μ 255 13 (nI v)) 255 11) ||| ((nI 1) <<< ((nI v) &&& 31))), fg_rho R, 304)
            refine fg_aloadn (fg_ft (pc := 77) tb_Reader_testNumber 42 rfl) rfl ?_
            refine fg_dup (fg_ft (pc := 78) tb_Reader_testNumber 43 rfl) rfl ?_
            refine fg_getI (fg_ft (pc := 79) tb_Reader_testNumber 44 rfl) ff_Reader_183 ly_255 rfl (fg_lt ly_255 (by decide)) ?_
            refine fg_iconst (fg_ft (pc := 82) tb_Reader_testNumber 45 rfl) ic_1 ?_
            refine fg_aloadn (fg_ft (pc := 83) tb_Reader_testNumber 46 rfl) rfl ?_
            refine fg_getV (v := (nI v)) (fg_ft (pc := 84) tb_Reader_testNumber 47 rfl) ff_Reader_207 ly_255 rfl (fg_lt ly_255 (by decide)) ((fg_u2ns (f := (fg_u2 μ 255 13 (nI v))) (a := 255) (k := 11) (b := 255) (j := 10) (x := (((fg_u2 μ 255 13 (nI v)) 255 11) ||| ((nI 1) <<< ((nI v) &&& 31)))) (by decide)).trans ((fg_u2ns (f := μ) (a := 255) (k := 13) (b := 255) (j := 10) (x := (nI v)) (by decide)).trans h10)) ?_
            refine fg_ishl (fg_ft (pc := 87) tb_Reader_testNumber 48 rfl) ?_
            refine fg_ior (fg_ft (pc := 88) tb_Reader_testNumber 49 rfl) ?_
            refine fg_putI (fg_ft (pc := 89) tb_Reader_testNumber 50 rfl) ff_Reader_183 ly_255 rfl (fg_lt ly_255 (by decide)) (fg_nokI _) (fun _ _ h => by cases h; rfl) ?_
            show fg_wp _ _ _ _ _ _ _ _ _ (fg_u2 (fg_u2 (fg_u2 μ 255 13 (nI v)) 255 11 (((fg_u2 μ 255 13 (nI v)) 255 11) ||| ((nI 1) <<< ((nI v) &&& 31)))) 255 12 (((fg_u2 (fg_u2 μ 255 13 (nI v)) 255 11 (((fg_u2 μ 255 13 (nI v)) 255 11) ||| ((nI 1) <<< ((nI v) &&& 31)))) 255 12) ||| ((nI 1) <<< ((nI v) &&& 31))), fg_rho R, 304)
            exact fg_vret (fg_ft (pc := 92) tb_Reader_testNumber 51 rfl) rfl rfl (hQ _ (fun a j h => ((fg_u2nx (by omega)).trans ((fg_u2nx (by omega)).trans ((fg_u2nx (by omega)).trans rfl)))))
          · refine fg_iloadn (fg_ft (pc := 56) tb_Reader_testNumber 30 rfl) rfl ?_
            refine fg_bipush (fg_ft (pc := 57) tb_Reader_testNumber 31 rfl) ib_117 ?_
            refine fg_icmp_neN (tgt := 92) (fg_ft (pc := 59) tb_Reader_testNumber 32 rfl) (by decide) (by have := pz_sg_lt w i hw; omega) (by decide) (fun c59 => ?_) (fun c59 => ?_)
            · exact fg_vret (fg_ft (pc := 92) tb_Reader_testNumber 51 rfl) rfl rfl (hQ _ (fun a j h => ((fg_u2nx (by omega)).trans rfl)))
            · refine fg_aloadn (fg_ft (pc := 62) tb_Reader_testNumber 33 rfl) rfl ?_
              refine fg_dup (fg_ft (pc := 63) tb_Reader_testNumber 34 rfl) rfl ?_
              refine fg_getI (fg_ft (pc := 64) tb_Reader_testNumber 35 rfl) ff_Reader_60 ly_255 rfl (fg_lt ly_255 (by decide)) ?_
              refine fg_iconst (fg_ft (pc := 67) tb_Reader_testNumber 36 rfl) ic_1 ?_
              refine fg_aloadn (fg_ft (pc := 68) tb_Reader_testNumber 37 rfl) rfl ?_
              refine fg_getV (v := (nI v)) (fg_ft (pc := 69) tb_Reader_testNumber 38 rfl) ff_Reader_207 ly_255 rfl (fg_lt ly_255 (by decide)) ((fg_u2ns (f := μ) (a := 255) (k := 13) (b := 255) (j := 10) (x := (nI v)) (by decide)).trans h10) ?_
              refine fg_ishl (fg_ft (pc := 72) tb_Reader_testNumber 39 rfl) ?_
              refine fg_ior (fg_ft (pc := 73) tb_Reader_testNumber 40 rfl) ?_
              refine fg_putI (fg_ft (pc := 74) tb_Reader_testNumber 41 rfl) ff_Reader_60 ly_255 rfl (fg_lt ly_255 (by decide)) (fg_nokI _) (fun _ _ h => by cases h; rfl) ?_
              show fg_wp _ _ _ _ _ _ _ _ _ (fg_u2 (fg_u2 μ 255 13 (nI v)) 255 11 (((fg_u2 μ 255 13 (nI v)) 255 11) ||| ((nI 1) <<< ((nI v) &&& 31))), fg_rho R, 304)
              refine fg_aloadn (fg_ft (pc := 77) tb_Reader_testNumber 42 rfl) rfl ?_
              refine fg_dup (fg_ft (pc := 78) tb_Reader_testNumber 43 rfl) rfl ?_
              refine fg_getI (fg_ft (pc := 79) tb_Reader_testNumber 44 rfl) ff_Reader_183 ly_255 rfl (fg_lt ly_255 (by decide)) ?_
              refine fg_iconst (fg_ft (pc := 82) tb_Reader_testNumber 45 rfl) ic_1 ?_
              refine fg_aloadn (fg_ft (pc := 83) tb_Reader_testNumber 46 rfl) rfl ?_
              refine fg_getV (v := (nI v)) (fg_ft (pc := 84) tb_Reader_testNumber 47 rfl) ff_Reader_207 ly_255 rfl (fg_lt ly_255 (by decide)) ((fg_u2ns (f := (fg_u2 μ 255 13 (nI v))) (a := 255) (k := 11) (b := 255) (j := 10) (x := (((fg_u2 μ 255 13 (nI v)) 255 11) ||| ((nI 1) <<< ((nI v) &&& 31)))) (by decide)).trans ((fg_u2ns (f := μ) (a := 255) (k := 13) (b := 255) (j := 10) (x := (nI v)) (by decide)).trans h10)) ?_
              refine fg_ishl (fg_ft (pc := 87) tb_Reader_testNumber 48 rfl) ?_
              refine fg_ior (fg_ft (pc := 88) tb_Reader_testNumber 49 rfl) ?_
              refine fg_putI (fg_ft (pc := 89) tb_Reader_testNumber 50 rfl) ff_Reader_183 ly_255 rfl (fg_lt ly_255 (by decide)) (fg_nokI _) (fun _ _ h => by cases h; rfl) ?_
              show fg_wp _ _ _ _ _ _ _ _ _ (fg_u2 (fg_u2 (fg_u2 μ 255 13 (nI v)) 255 11 (((fg_u2 μ 255 13 (nI v)) 255 11) ||| ((nI 1) <<< ((nI v) &&& 31)))) 255 12 (((fg_u2 (fg_u2 μ 255 13 (nI v)) 255 11 (((fg_u2 μ 255 13 (nI v)) 255 11) ||| ((nI 1) <<< ((nI v) &&& 31)))) 255 12) ||| ((nI 1) <<< ((nI v) &&& 31))), fg_rho R, 304)
              exact fg_vret (fg_ft (pc := 92) tb_Reader_testNumber 51 rfl) rfl rfl (hQ _ (fun a j h => ((fg_u2nx (by omega)).trans ((fg_u2nx (by omega)).trans ((fg_u2nx (by omega)).trans rfl)))))
