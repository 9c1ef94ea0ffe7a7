/-! the reference's feed -/
def fg_mb (x : Int32) (s : Nat) : Int32 := (x >>> (nI s &&& 31)) &&& nI 255
def fg_X5 (a b c z y : Int32) (g : Nat) : Int32 := if g = 0 then a else if g = 1 then b else if g = 2 then c else if g = 3 then z else y
def fg_fq (m : Nat → Int32) (len : Nat) (X : Nat → Int32) (i : Nat) : Nat → Int32 := fun x => if x = 2 then nI (len + i) else if 10 + len ≤ x ∧ x < 10 + len + i then fg_mb (X ((x - 10 - len) / 4)) (24 - 8 * ((x - 10 - len) % 4)) else m x
theorem fg_fq_s {m : Nat → Int32} {len i x : Nat} {X : Nat → Int32} : (if x = 2 then nI (len + i + 1) else if x = 10 + (len + i) then fg_mb (X (i / 4)) (24 - 8 * (i % 4)) else fg_fq m len X i x) = fg_fq m len X (i + 1) x := by
  unfold fg_fq
  rcases Nat.decEq x 2 with e | e
  · rw [if_neg e, if_neg e, if_neg e]
    rcases Nat.decEq x (10 + (len + i)) with e2 | e2
    · rw [if_neg e2]
      by_cases c : 10 + len ≤ x ∧ x < 10 + len + i
      · rw [if_pos c, if_pos ⟨c.1, by omega⟩]
      · rw [if_neg c, if_neg (fun h => c ⟨h.1, by omega⟩)]
    · rw [if_pos e2, if_pos ⟨by omega, by omega⟩, show x - 10 - len = i by omega]
  · rw [if_pos e, if_pos e]; rfl
theorem fg_u2if' {μ : Nat → Nat → Int32} {a k : Nat} {v : Int32} {x : Nat} : fg_u2 μ a k v a x = if x = k then v else μ a x := by
  rcases Nat.decEq x k with e | e
  · rw [if_neg e]; exact fg_u2ns e
  · rw [if_pos e, e]; exact fg_u2eq
theorem ev_Mo_feed {E : fg_E} {d : Nat} {μ : Nat → Nat → Int32} {R : fg_T4} {Q : Option Value → fg_M → Prop} {len : Nat} {a b c z y : Int32} (hlen : μ 288 2 = nI len) (hle : len ≤ 600) (h0 : ¬ len + 20 ≤ 600 → Q (some (.int (-1))) (μ, fg_rho R, 304)) (h1 : len + 20 ≤ 600 → (∀ μ' : Nat → Nat → Int32, (∀ a, a ≠ 288 → ∀ x, μ' a x = μ a x) → (∀ x, μ' 288 x = fg_fq (μ 288) len (fg_X5 a b c z y) 20 x) → Q (some (.int (nI (len + 20)))) (μ', fg_rho R, 304))) : fg_Ev E yy_Mo_feed (d + 1) [.ref 287, .int a, .int b, .int c, .int z, .int y] (μ, fg_rho R, 304) 304 Q := by
  have loop (hQ1 : (∀ μ' : Nat → Nat → Int32, (∀ a, a ≠ 288 → ∀ x, μ' a x = μ a x) → (∀ x, μ' 288 x = fg_fq (μ 288) len (fg_X5 a b c z y) 20 x) → Q (some (.int (nI (len + 20)))) (μ', fg_rho R, 304))) (hl20 : len + 20 ≤ 600) : ∀ (q i : Nat) (ν : Nat → Nat → Int32) (v7 : Value), 20 - i < q → i ≤ 20 → (∀ a, a ≠ 288 → ∀ x, ν a x = μ a x) → (∀ x, ν 288 x = fg_fq (μ 288) len (fg_X5 a b c z y) i x) → fg_wp E yy_Mo_feed (d + 1) 304 304 Q 20 [.ref 287, .int a, .int b, .int c, .int z, .int y, .int (nI i), v7] [] (ν, fg_rho R, 304) := by
    intro q
    induction q with
    | zero => intro i ν v7 h; exact absurd h (Nat.not_lt_zero _)
    | succ q ih =>
      intro i ν v7 hq hi hag hm
      refine fg_iload (fg_ft (pc := 20) tb_Mo_feed 12 rfl) rfl ?_
      refine fg_bipush (fg_ft (pc := 22) tb_Mo_feed 13 rfl) ib_20 ?_
      refine fg_icmp_geN (tgt := 122) (fg_ft (pc := 24) tb_Mo_feed 14 rfl) (by decide) (by omega) (by decide) (fun c24 => ?_) (fun c24 => ?_)
      · refine fg_aloadn (fg_ft (pc := 122) tb_Mo_feed 67 rfl) rfl ?_
        refine fg_getR (fg_ft (pc := 123) tb_Mo_feed 68 rfl) ff_Mo_7 ly_287 rfl (fg_lt ly_287 (by decide)) (rh_287_0 R) ?_
        refine fg_iconst (fg_ft (pc := 126) tb_Mo_feed 69 rfl) ic_2 ?_
        refine fg_ialdV (v := (nI (len + i))) (fg_ft (pc := 127) tb_Mo_feed 70 rfl) ly_288 (fg_lt ly_288 (by decide)) (by omega) ((hm 2).trans (if_pos rfl)) ?_
        exact fg_iret (fg_ft (pc := 128) tb_Mo_feed 71 rfl) rfl rfl (by
  have q9 := hQ1 ν hag (by rw [show i = 20 by omega] at hm; exact hm)
  rw [show len + 20 = len + i by omega] at q9
  exact q9)
      · refine fg_iload (fg_ft (pc := 27) tb_Mo_feed 15 rfl) rfl ?_
        refine fg_iconst (fg_ft (pc := 29) tb_Mo_feed 16 rfl) ic_4 ?_
        refine fg_icmp_geN (tgt := 37) (fg_ft (pc := 30) tb_Mo_feed 17 rfl) (by decide) (by omega) (by decide) (fun c30 => ?_) (fun c30 => ?_)
        · refine fg_iload (fg_ft (pc := 37) tb_Mo_feed 20 rfl) rfl ?_
          refine fg_bipush (fg_ft (pc := 39) tb_Mo_feed 21 rfl) ib_8 ?_
          refine fg_icmp_geN (tgt := 48) (fg_ft (pc := 41) tb_Mo_feed 22 rfl) (by decide) (by omega) (by decide) (fun c41 => ?_) (fun c41 => ?_)
          · refine fg_iload (fg_ft (pc := 48) tb_Mo_feed 25 rfl) rfl ?_
            refine fg_bipush (fg_ft (pc := 50) tb_Mo_feed 26 rfl) ib_12 ?_
            refine fg_icmp_geN (tgt := 59) (fg_ft (pc := 52) tb_Mo_feed 27 rfl) (by decide) (by omega) (by decide) (fun c52 => ?_) (fun c52 => ?_)
            · refine fg_iload (fg_ft (pc := 59) tb_Mo_feed 30 rfl) rfl ?_
              refine fg_bipush (fg_ft (pc := 61) tb_Mo_feed 31 rfl) ib_16 ?_
              refine fg_icmp_geN (tgt := 71) (fg_ft (pc := 63) tb_Mo_feed 32 rfl) (by decide) (by omega) (by decide) (fun c63 => ?_) (fun c63 => ?_)
              · refine fg_iload (fg_ft (pc := 71) tb_Mo_feed 35 rfl) rfl ?_
                refine fg_top (y := (fg_X5 a b c z y) (i / 4)) (by rw [show i / 4 = 4 by omega]; rfl) ?_
                refine fg_istore (fg_ft (pc := 73) tb_Mo_feed 36 rfl) (Nat.le_of_ble_eq_true rfl) ?_
                refine fg_aloadn (fg_ft (pc := 75) tb_Mo_feed 37 rfl) rfl ?_
                refine fg_getR (fg_ft (pc := 76) tb_Mo_feed 38 rfl) ff_Mo_7 ly_287 rfl (fg_lt ly_287 (by decide)) (rh_287_0 R) ?_
                refine fg_bipush (fg_ft (pc := 79) tb_Mo_feed 39 rfl) ib_10 ?_
                refine fg_aloadn (fg_ft (pc := 81) tb_Mo_feed 40 rfl) rfl ?_
                refine fg_getR (fg_ft (pc := 82) tb_Mo_feed 41 rfl) ff_Mo_7 ly_287 rfl (fg_lt ly_287 (by decide)) (rh_287_0 R) ?_
                refine fg_iconst (fg_ft (pc := 85) tb_Mo_feed 42 rfl) ic_2 ?_
                refine fg_ialdV (v := (nI (len + i))) (fg_ft (pc := 86) tb_Mo_feed 43 rfl) ly_288 (fg_lt ly_288 (by decide)) (by omega) ((hm 2).trans (if_pos rfl)) ?_
                refine fg_iaddN (fg_ft (pc := 87) tb_Mo_feed 44 rfl) ?_
                refine fg_iload (fg_ft (pc := 88) tb_Mo_feed 45 rfl) rfl ?_
                refine fg_bipush (fg_ft (pc := 90) tb_Mo_feed 46 rfl) ib_24 ?_
                refine fg_bipush (fg_ft (pc := 92) tb_Mo_feed 47 rfl) ib_8 ?_
                refine fg_iload (fg_ft (pc := 94) tb_Mo_feed 48 rfl) rfl ?_
                refine fg_iconst (fg_ft (pc := 96) tb_Mo_feed 49 rfl) ic_4 ?_
                refine fg_iremN (fg_ft (pc := 97) tb_Mo_feed 50 rfl) (by omega) (by decide) (nI_ne0 (by decide) (by decide)) ?_
                refine fg_imulN (fg_ft (pc := 98) tb_Mo_feed 51 rfl) ?_
                refine fg_isubN (fg_ft (pc := 99) tb_Mo_feed 52 rfl) (by have := Nat.mod_lt i (show 0 < 4 by decide); omega) ?_
                refine fg_ishr (fg_ft (pc := 100) tb_Mo_feed 53 rfl) ?_
                refine fg_sipush (fg_ft (pc := 101) tb_Mo_feed 54 rfl) is_255 ?_
                refine fg_iand (fg_ft (pc := 104) tb_Mo_feed 55 rfl) ?_
                refine fg_top (y := fg_mb ((fg_X5 a b c z y) (i / 4)) (24 - 8 * (i % 4))) rfl ?_
                refine fg_iastN (fg_ft (pc := 105) tb_Mo_feed 56 rfl) ly_288 (fg_lt ly_288 (by decide)) (by omega) ?_
                show fg_wp _ _ _ _ _ _ _ _ _ (fg_u2 ν 288 (10 + (len + i)) (fg_mb ((fg_X5 a b c z y) (i / 4)) (24 - 8 * (i % 4))), fg_rho R, 304)
                refine fg_aloadn (fg_ft (pc := 106) tb_Mo_feed 57 rfl) rfl ?_
                refine fg_getR (fg_ft (pc := 107) tb_Mo_feed 58 rfl) ff_Mo_7 ly_287 rfl (fg_lt ly_287 (by decide)) (rh_287_0 R) ?_
                refine fg_iconst (fg_ft (pc := 110) tb_Mo_feed 59 rfl) ic_2 ?_
                refine fg_dup2 (fg_ft (pc := 111) tb_Mo_feed 60 rfl) rfl rfl ?_
                refine fg_ialdV (v := (nI (len + i))) (fg_ft (pc := 112) tb_Mo_feed 61 rfl) ly_288 (fg_lt ly_288 (by decide)) (by omega) ((fg_u2ns (f := ν) (a := 288) (k := 10 + (len + i)) (j := 2) (x := (fg_mb ((fg_X5 a b c z y) (i / 4)) (24 - 8 * (i % 4)))) (by omega)).trans ((hm 2).trans (if_pos rfl))) ?_
                refine fg_iconst (fg_ft (pc := 113) tb_Mo_feed 62 rfl) ic_1 ?_
                refine fg_iaddN (fg_ft (pc := 114) tb_Mo_feed 63 rfl) ?_
                refine fg_iastN (fg_ft (pc := 115) tb_Mo_feed 64 rfl) ly_288 (fg_lt ly_288 (by decide)) (by omega) ?_
                show fg_wp _ _ _ _ _ _ _ _ _ (fg_u2 (fg_u2 ν 288 (10 + (len + i)) (fg_mb ((fg_X5 a b c z y) (i / 4)) (24 - 8 * (i % 4)))) 288 2 (nI ((len + i) + 1)), fg_rho R, 304)
                refine fg_iincN (fg_ft (pc := 116) tb_Mo_feed 65 rfl) rfl ic_1 rfl ?_
                refine fg_goto (tgt := 20) (fg_ft (pc := 119) tb_Mo_feed 66 rfl) (by decide) ?_
                refine ih (i + 1) _ _ (by omega) (by omega) (fun a9 a1 x => (fg_u2ne a1).trans ((fg_u2ne a1).trans (hag a9 a1 x))) (fun x => ?_)
                rw [fg_u2if', fg_u2if', hm x]
                exact fg_fq_s
              · refine fg_iload (fg_ft (pc := 66) tb_Mo_feed 33 rfl) rfl ?_
                refine fg_goto (tgt := 73) (fg_ft (pc := 68) tb_Mo_feed 34 rfl) (by decide) ?_
                refine fg_top (y := (fg_X5 a b c z y) (i / 4)) (by rw [show i / 4 = 3 by omega]; rfl) ?_
                refine fg_istore (fg_ft (pc := 73) tb_Mo_feed 36 rfl) (Nat.le_of_ble_eq_true rfl) ?_
                refine fg_aloadn (fg_ft (pc := 75) tb_Mo_feed 37 rfl) rfl ?_
                refine fg_getR (fg_ft (pc := 76) tb_Mo_feed 38 rfl) ff_Mo_7 ly_287 rfl (fg_lt ly_287 (by decide)) (rh_287_0 R) ?_
                refine fg_bipush (fg_ft (pc := 79) tb_Mo_feed 39 rfl) ib_10 ?_
                refine fg_aloadn (fg_ft (pc := 81) tb_Mo_feed 40 rfl) rfl ?_
                refine fg_getR (fg_ft (pc := 82) tb_Mo_feed 41 rfl) ff_Mo_7 ly_287 rfl (fg_lt ly_287 (by decide)) (rh_287_0 R) ?_
                refine fg_iconst (fg_ft (pc := 85) tb_Mo_feed 42 rfl) ic_2 ?_
                refine fg_ialdV (v := (nI (len + i))) (fg_ft (pc := 86) tb_Mo_feed 43 rfl) ly_288 (fg_lt ly_288 (by decide)) (by omega) ((hm 2).trans (if_pos rfl)) ?_
                refine fg_iaddN (fg_ft (pc := 87) tb_Mo_feed 44 rfl) ?_
                refine fg_iload (fg_ft (pc := 88) tb_Mo_feed 45 rfl) rfl ?_
                refine fg_bipush (fg_ft (pc := 90) tb_Mo_feed 46 rfl) ib_24 ?_
                refine fg_bipush (fg_ft (pc := 92) tb_Mo_feed 47 rfl) ib_8 ?_
                refine fg_iload (fg_ft (pc := 94) tb_Mo_feed 48 rfl) rfl ?_
                refine fg_iconst (fg_ft (pc := 96) tb_Mo_feed 49 rfl) ic_4 ?_
                refine fg_iremN (fg_ft (pc := 97) tb_Mo_feed 50 rfl) (by omega) (by decide) (nI_ne0 (by decide) (by decide)) ?_
                refine fg_imulN (fg_ft (pc := 98) tb_Mo_feed 51 rfl) ?_
                refine fg_isubN (fg_ft (pc := 99) tb_Mo_feed 52 rfl) (by have := Nat.mod_lt i (show 0 < 4 by decide); omega) ?_
                refine fg_ishr (fg_ft (pc := 100) tb_Mo_feed 53 rfl) ?_
                refine fg_sipush (fg_ft (pc := 101) tb_Mo_feed 54 rfl) is_255 ?_
                refine fg_iand (fg_ft (pc := 104) tb_Mo_feed 55 rfl) ?_
                refine fg_top (y := fg_mb ((fg_X5 a b c z y) (i / 4)) (24 - 8 * (i % 4))) rfl ?_
                refine fg_iastN (fg_ft (pc := 105) tb_Mo_feed 56 rfl) ly_288 (fg_lt ly_288 (by decide)) (by omega) ?_
                show fg_wp _ _ _ _ _ _ _ _ _ (fg_u2 ν 288 (10 + (len + i)) (fg_mb ((fg_X5 a b c z y) (i / 4)) (24 - 8 * (i % 4))), fg_rho R, 304)
                refine fg_aloadn (fg_ft (pc := 106) tb_Mo_feed 57 rfl) rfl ?_
                refine fg_getR (fg_ft (pc := 107) tb_Mo_feed 58 rfl) ff_Mo_7 ly_287 rfl (fg_lt ly_287 (by decide)) (rh_287_0 R) ?_
                refine fg_iconst (fg_ft (pc := 110) tb_Mo_feed 59 rfl) ic_2 ?_
                refine fg_dup2 (fg_ft (pc := 111) tb_Mo_feed 60 rfl) rfl rfl ?_
                refine fg_ialdV (v := (nI (len + i))) (fg_ft (pc := 112) tb_Mo_feed 61 rfl) ly_288 (fg_lt ly_288 (by decide)) (by omega) ((fg_u2ns (f := ν) (a := 288) (k := 10 + (len + i)) (j := 2) (x := (fg_mb ((fg_X5 a b c z y) (i / 4)) (24 - 8 * (i % 4)))) (by omega)).trans ((hm 2).trans (if_pos rfl))) ?_
                refine fg_iconst (fg_ft (pc := 113) tb_Mo_feed 62 rfl) ic_1 ?_
                refine fg_iaddN (fg_ft (pc := 114) tb_Mo_feed 63 rfl) ?_
                refine fg_iastN (fg_ft (pc := 115) tb_Mo_feed 64 rfl) ly_288 (fg_lt ly_288 (by decide)) (by omega) ?_
                show fg_wp _ _ _ _ _ _ _ _ _ (fg_u2 (fg_u2 ν 288 (10 + (len + i)) (fg_mb ((fg_X5 a b c z y) (i / 4)) (24 - 8 * (i % 4)))) 288 2 (nI ((len + i) + 1)), fg_rho R, 304)
                refine fg_iincN (fg_ft (pc := 116) tb_Mo_feed 65 rfl) rfl ic_1 rfl ?_
                refine fg_goto (tgt := 20) (fg_ft (pc := 119) tb_Mo_feed 66 rfl) (by decide) ?_
                refine ih (i + 1) _ _ (by omega) (by omega) (fun a9 a1 x => (fg_u2ne a1).trans ((fg_u2ne a1).trans (hag a9 a1 x))) (fun x => ?_)
                rw [fg_u2if', fg_u2if', hm x]
                exact fg_fq_s
            · refine fg_iloadn (fg_ft (pc := 55) tb_Mo_feed 28 rfl) rfl ?_
              refine fg_goto (tgt := 73) (fg_ft (pc := 56) tb_Mo_feed 29 rfl) (by decide) ?_
              refine fg_top (y := (fg_X5 a b c z y) (i / 4)) (by rw [show i / 4 = 2 by omega]; rfl) ?_
              refine fg_istore (fg_ft (pc := 73) tb_Mo_feed 36 rfl) (Nat.le_of_ble_eq_true rfl) ?_
              refine fg_aloadn (fg_ft (pc := 75) tb_Mo_feed 37 rfl) rfl ?_
              refine fg_getR (fg_ft (pc := 76) tb_Mo_feed 38 rfl) ff_Mo_7 ly_287 rfl (fg_lt ly_287 (by decide)) (rh_287_0 R) ?_
              refine fg_bipush (fg_ft (pc := 79) tb_Mo_feed 39 rfl) ib_10 ?_
              refine fg_aloadn (fg_ft (pc := 81) tb_Mo_feed 40 rfl) rfl ?_
              refine fg_getR (fg_ft (pc := 82) tb_Mo_feed 41 rfl) ff_Mo_7 ly_287 rfl (fg_lt ly_287 (by decide)) (rh_287_0 R) ?_
              refine fg_iconst (fg_ft (pc := 85) tb_Mo_feed 42 rfl) ic_2 ?_
              refine fg_ialdV (v := (nI (len + i))) (fg_ft (pc := 86) tb_Mo_feed 43 rfl) ly_288 (fg_lt ly_288 (by decide)) (by omega) ((hm 2).trans (if_pos rfl)) ?_
              refine fg_iaddN (fg_ft (pc := 87) tb_Mo_feed 44 rfl) ?_
              refine fg_iload (fg_ft (pc := 88) tb_Mo_feed 45 rfl) rfl ?_
              refine fg_bipush (fg_ft (pc := 90) tb_Mo_feed 46 rfl) ib_24 ?_
              refine fg_bipush (fg_ft (pc := 92) tb_Mo_feed 47 rfl) ib_8 ?_
              refine fg_iload (fg_ft (pc := 94) tb_Mo_feed 48 rfl) rfl ?_
              refine fg_iconst (fg_ft (pc := 96) tb_Mo_feed 49 rfl) ic_4 ?_
              refine fg_iremN (fg_ft (pc := 97) tb_Mo_feed 50 rfl) (by omega) (by decide) (nI_ne0 (by decide) (by decide)) ?_
              refine fg_imulN (fg_ft (pc := 98) tb_Mo_feed 51 rfl) ?_
              refine fg_isubN (fg_ft (pc := 99) tb_Mo_feed 52 rfl) (by have := Nat.mod_lt i (show 0 < 4 by decide); omega) ?_
              refine fg_ishr (fg_ft (pc := 100) tb_Mo_feed 53 rfl) ?_
              refine fg_sipush (fg_ft (pc := 101) tb_Mo_feed 54 rfl) is_255 ?_
              refine fg_iand (fg_ft (pc := 104) tb_Mo_feed 55 rfl) ?_
              refine fg_top (y := fg_mb ((fg_X5 a b c z y) (i / 4)) (24 - 8 * (i % 4))) rfl ?_
              refine fg_iastN (fg_ft (pc := 105) tb_Mo_feed 56 rfl) ly_288 (fg_lt ly_288 (by decide)) (by omega) ?_
              show fg_wp _ _ _ _ _ _ _ _ _ (fg_u2 ν 288 (10 + (len + i)) (fg_mb ((fg_X5 a b c z y) (i / 4)) (24 - 8 * (i % 4))), fg_rho R, 304)
              refine fg_aloadn (fg_ft (pc := 106) tb_Mo_feed 57 rfl) rfl ?_
              refine fg_getR (fg_ft (pc := 107) tb_Mo_feed 58 rfl) ff_Mo_7 ly_287 rfl (fg_lt ly_287 (by decide)) (rh_287_0 R) ?_
              refine fg_iconst (fg_ft (pc := 110) tb_Mo_feed 59 rfl) ic_2 ?_
              refine fg_dup2 (fg_ft (pc := 111) tb_Mo_feed 60 rfl) rfl rfl ?_
              refine fg_ialdV (v := (nI (len + i))) (fg_ft (pc := 112) tb_Mo_feed 61 rfl) ly_288 (fg_lt ly_288 (by decide)) (by omega) ((fg_u2ns (f := ν) (a := 288) (k := 10 + (len + i)) (j := 2) (x := (fg_mb ((fg_X5 a b c z y) (i / 4)) (24 - 8 * (i % 4)))) (by omega)).trans ((hm 2).trans (if_pos rfl))) ?_
              refine fg_iconst (fg_ft (pc := 113) tb_Mo_feed 62 rfl) ic_1 ?_
              refine fg_iaddN (fg_ft (pc := 114) tb_Mo_feed 63 rfl) ?_
              refine fg_iastN (fg_ft (pc := 115) tb_Mo_feed 64 rfl) ly_288 (fg_lt ly_288 (by decide)) (by omega) ?_
              show fg_wp _ _ _ _ _ _ _ _ _ (fg_u2 (fg_u2 ν 288 (10 + (len + i)) (fg_mb ((fg_X5 a b c z y) (i / 4)) (24 - 8 * (i % 4)))) 288 2 (nI ((len + i) + 1)), fg_rho R, 304)
              refine fg_iincN (fg_ft (pc := 116) tb_Mo_feed 65 rfl) rfl ic_1 rfl ?_
              refine fg_goto (tgt := 20) (fg_ft (pc := 119) tb_Mo_feed 66 rfl) (by decide) ?_
              refine ih (i + 1) _ _ (by omega) (by omega) (fun a9 a1 x => (fg_u2ne a1).trans ((fg_u2ne a1).trans (hag a9 a1 x))) (fun x => ?_)
              rw [fg_u2if', fg_u2if', hm x]
              exact fg_fq_s
          · refine fg_iloadn (fg_ft (pc := 44) tb_Mo_feed 23 rfl) rfl ?_
            refine fg_goto (tgt := 73) (fg_ft (pc := 45) tb_Mo_feed 24 rfl) (by decide) ?_
            refine fg_top (y := (fg_X5 a b c z y) (i / 4)) (by rw [show i / 4 = 1 by omega]; rfl) ?_
            refine fg_istore (fg_ft (pc := 73) tb_Mo_feed 36 rfl) (Nat.le_of_ble_eq_true rfl) ?_
            refine fg_aloadn (fg_ft (pc := 75) tb_Mo_feed 37 rfl) rfl ?_
            refine fg_getR (fg_ft (pc := 76) tb_Mo_feed 38 rfl) ff_Mo_7 ly_287 rfl (fg_lt ly_287 (by decide)) (rh_287_0 R) ?_
            refine fg_bipush (fg_ft (pc := 79) tb_Mo_feed 39 rfl) ib_10 ?_
            refine fg_aloadn (fg_ft (pc := 81) tb_Mo_feed 40 rfl) rfl ?_
            refine fg_getR (fg_ft (pc := 82) tb_Mo_feed 41 rfl) ff_Mo_7 ly_287 rfl (fg_lt ly_287 (by decide)) (rh_287_0 R) ?_
            refine fg_iconst (fg_ft (pc := 85) tb_Mo_feed 42 rfl) ic_2 ?_
            refine fg_ialdV (v := (nI (len + i))) (fg_ft (pc := 86) tb_Mo_feed 43 rfl) ly_288 (fg_lt ly_288 (by decide)) (by omega) ((hm 2).trans (if_pos rfl)) ?_
            refine fg_iaddN (fg_ft (pc := 87) tb_Mo_feed 44 rfl) ?_
            refine fg_iload (fg_ft (pc := 88) tb_Mo_feed 45 rfl) rfl ?_
            refine fg_bipush (fg_ft (pc := 90) tb_Mo_feed 46 rfl) ib_24 ?_
            refine fg_bipush (fg_ft (pc := 92) tb_Mo_feed 47 rfl) ib_8 ?_
            refine fg_iload (fg_ft (pc := 94) tb_Mo_feed 48 rfl) rfl ?_
            refine fg_iconst (fg_ft (pc := 96) tb_Mo_feed 49 rfl) ic_4 ?_
            refine fg_iremN (fg_ft (pc := 97) tb_Mo_feed 50 rfl) (by omega) (by decide) (nI_ne0 (by decide) (by decide)) ?_
            refine fg_imulN (fg_ft (pc := 98) tb_Mo_feed 51 rfl) ?_
            refine fg_isubN (fg_ft (pc := 99) tb_Mo_feed 52 rfl) (by have := Nat.mod_lt i (show 0 < 4 by decide); omega) ?_
            refine fg_ishr (fg_ft (pc := 100) tb_Mo_feed 53 rfl) ?_
            refine fg_sipush (fg_ft (pc := 101) tb_Mo_feed 54 rfl) is_255 ?_
            refine fg_iand (fg_ft (pc := 104) tb_Mo_feed 55 rfl) ?_
            refine fg_top (y := fg_mb ((fg_X5 a b c z y) (i / 4)) (24 - 8 * (i % 4))) rfl ?_
            refine fg_iastN (fg_ft (pc := 105) tb_Mo_feed 56 rfl) ly_288 (fg_lt ly_288 (by decide)) (by omega) ?_
            show fg_wp _ _ _ _ _ _ _ _ _ (fg_u2 ν 288 (10 + (len + i)) (fg_mb ((fg_X5 a b c z y) (i / 4)) (24 - 8 * (i % 4))), fg_rho R, 304)
            refine fg_aloadn (fg_ft (pc := 106) tb_Mo_feed 57 rfl) rfl ?_
            refine fg_getR (fg_ft (pc := 107) tb_Mo_feed 58 rfl) ff_Mo_7 ly_287 rfl (fg_lt ly_287 (by decide)) (rh_287_0 R) ?_
            refine fg_iconst (fg_ft (pc := 110) tb_Mo_feed 59 rfl) ic_2 ?_
            refine fg_dup2 (fg_ft (pc := 111) tb_Mo_feed 60 rfl) rfl rfl ?_
            refine fg_ialdV (v := (nI (len + i))) (fg_ft (pc := 112) tb_Mo_feed 61 rfl) ly_288 (fg_lt ly_288 (by decide)) (by omega) ((fg_u2ns (f := ν) (a := 288) (k := 10 + (len + i)) (j := 2) (x := (fg_mb ((fg_X5 a b c z y) (i / 4)) (24 - 8 * (i % 4)))) (by omega)).trans ((hm 2).trans (if_pos rfl))) ?_
            refine fg_iconst (fg_ft (pc := 113) tb_Mo_feed 62 rfl) ic_1 ?_
            refine fg_iaddN (fg_ft (pc := 114) tb_Mo_feed 63 rfl) ?_
            refine fg_iastN (fg_ft (pc := 115) tb_Mo_feed 64 rfl) ly_288 (fg_lt ly_288 (by decide)) (by omega) ?_
            show fg_wp _ _ _ _ _ _ _ _ _ (fg_u2 (fg_u2 ν 288 (10 + (len + i)) (fg_mb ((fg_X5 a b c z y) (i / 4)) (24 - 8 * (i % 4)))) 288 2 (nI ((len + i) + 1)), fg_rho R, 304)
            refine fg_iincN (fg_ft (pc := 116) tb_Mo_feed 65 rfl) rfl ic_1 rfl ?_
            refine fg_goto (tgt := 20) (fg_ft (pc := 119) tb_Mo_feed 66 rfl) (by decide) ?_
            refine ih (i + 1) _ _ (by omega) (by omega) (fun a9 a1 x => (fg_u2ne a1).trans ((fg_u2ne a1).trans (hag a9 a1 x))) (fun x => ?_)
            rw [fg_u2if', fg_u2if', hm x]
            exact fg_fq_s
        · refine fg_iloadn (fg_ft (pc := 33) tb_Mo_feed 18 rfl) rfl ?_
          refine fg_goto (tgt := 73) (fg_ft (pc := 34) tb_Mo_feed 19 rfl) (by decide) ?_
          refine fg_top (y := (fg_X5 a b c z y) (i / 4)) (by rw [show i / 4 = 0 by omega]; rfl) ?_
          refine fg_istore (fg_ft (pc := 73) tb_Mo_feed 36 rfl) (Nat.le_of_ble_eq_true rfl) ?_
          refine fg_aloadn (fg_ft (pc := 75) tb_Mo_feed 37 rfl) rfl ?_
          refine fg_getR (fg_ft (pc := 76) tb_Mo_feed 38 rfl) ff_Mo_7 ly_287 rfl (fg_lt ly_287 (by decide)) (rh_287_0 R) ?_
          refine fg_bipush (fg_ft (pc := 79) tb_Mo_feed 39 rfl) ib_10 ?_
          refine fg_aloadn (fg_ft (pc := 81) tb_Mo_feed 40 rfl) rfl ?_
          refine fg_getR (fg_ft (pc := 82) tb_Mo_feed 41 rfl) ff_Mo_7 ly_287 rfl (fg_lt ly_287 (by decide)) (rh_287_0 R) ?_
          refine fg_iconst (fg_ft (pc := 85) tb_Mo_feed 42 rfl) ic_2 ?_
          refine fg_ialdV (v := (nI (len + i))) (fg_ft (pc := 86) tb_Mo_feed 43 rfl) ly_288 (fg_lt ly_288 (by decide)) (by omega) ((hm 2).trans (if_pos rfl)) ?_
          refine fg_iaddN (fg_ft (pc := 87) tb_Mo_feed 44 rfl) ?_
          refine fg_iload (fg_ft (pc := 88) tb_Mo_feed 45 rfl) rfl ?_
          refine fg_bipush (fg_ft (pc := 90) tb_Mo_feed 46 rfl) ib_24 ?_
          refine fg_bipush (fg_ft (pc := 92) tb_Mo_feed 47 rfl) ib_8 ?_
          refine fg_iload (fg_ft (pc := 94) tb_Mo_feed 48 rfl) rfl ?_
          refine fg_iconst (fg_ft (pc := 96) tb_Mo_feed 49 rfl) ic_4 ?_
          refine fg_iremN (fg_ft (pc := 97) tb_Mo_feed 50 rfl) (by omega) (by decide) (nI_ne0 (by decide) (by decide)) ?_
          refine fg_imulN (fg_ft (pc := 98) tb_Mo_feed 51 rfl) ?_
          refine fg_isubN (fg_ft (pc := 99) tb_Mo_feed 52 rfl) (by have := Nat.mod_lt i (show 0 < 4 by decide); omega) ?_
          refine fg_ishr (fg_ft (pc := 100) tb_Mo_feed 53 rfl) ?_
          refine fg_sipush (fg_ft (pc := 101) tb_Mo_feed 54 rfl) is_255 ?_
          refine fg_iand (fg_ft (pc := 104) tb_Mo_feed 55 rfl) ?_
          refine fg_top (y := fg_mb ((fg_X5 a b c z y) (i / 4)) (24 - 8 * (i % 4))) rfl ?_
          refine fg_iastN (fg_ft (pc := 105) tb_Mo_feed 56 rfl) ly_288 (fg_lt ly_288 (by decide)) (by omega) ?_
          show fg_wp _ _ _ _ _ _ _ _ _ (fg_u2 ν 288 (10 + (len + i)) (fg_mb ((fg_X5 a b c z y) (i / 4)) (24 - 8 * (i % 4))), fg_rho R, 304)
          refine fg_aloadn (fg_ft (pc := 106) tb_Mo_feed 57 rfl) rfl ?_
          refine fg_getR (fg_ft (pc := 107) tb_Mo_feed 58 rfl) ff_Mo_7 ly_287 rfl (fg_lt ly_287 (by decide)) (rh_287_0 R) ?_
          refine fg_iconst (fg_ft (pc := 110) tb_Mo_feed 59 rfl) ic_2 ?_
          refine fg_dup2 (fg_ft (pc := 111) tb_Mo_feed 60 rfl) rfl rfl ?_
          refine fg_ialdV (v := (nI (len + i))) (fg_ft (pc := 112) tb_Mo_feed 61 rfl) ly_288 (fg_lt ly_288 (by decide)) (by omega) ((fg_u2ns (f := ν) (a := 288) (k := 10 + (len + i)) (j := 2) (x := (fg_mb ((fg_X5 a b c z y) (i / 4)) (24 - 8 * (i % 4)))) (by omega)).trans ((hm 2).trans (if_pos rfl))) ?_
          refine fg_iconst (fg_ft (pc := 113) tb_Mo_feed 62 rfl) ic_1 ?_
          refine fg_iaddN (fg_ft (pc := 114) tb_Mo_feed 63 rfl) ?_
          refine fg_iastN (fg_ft (pc := 115) tb_Mo_feed 64 rfl) ly_288 (fg_lt ly_288 (by decide)) (by omega) ?_
          show fg_wp _ _ _ _ _ _ _ _ _ (fg_u2 (fg_u2 ν 288 (10 + (len + i)) (fg_mb ((fg_X5 a b c z y) (i / 4)) (24 - 8 * (i % 4)))) 288 2 (nI ((len + i) + 1)), fg_rho R, 304)
          refine fg_iincN (fg_ft (pc := 116) tb_Mo_feed 65 rfl) rfl ic_1 rfl ?_
          refine fg_goto (tgt := 20) (fg_ft (pc := 119) tb_Mo_feed 66 rfl) (by decide) ?_
          refine ih (i + 1) _ _ (by omega) (by omega) (fun a9 a1 x => (fg_u2ne a1).trans ((fg_u2ne a1).trans (hag a9 a1 x))) (fun x => ?_)
          rw [fg_u2if', fg_u2if', hm x]
          exact fg_fq_s
  refine fg_intro (by decide +kernel) (Nat.le_of_ble_eq_true rfl) (fg_okAs rfl) (Nat.le_refl _) ?_
  refine fg_aloadn (fg_ft (pc := 0) tb_Mo_feed 0 rfl) rfl ?_
  refine fg_getR (fg_ft (pc := 1) tb_Mo_feed 1 rfl) ff_Mo_7 ly_287 rfl (fg_lt ly_287 (by decide)) (rh_287_0 R) ?_
  refine fg_iconst (fg_ft (pc := 4) tb_Mo_feed 2 rfl) ic_2 ?_
  refine fg_ialdV (v := (nI len)) (fg_ft (pc := 5) tb_Mo_feed 3 rfl) ly_288 (fg_lt ly_288 (by decide)) (by omega) hlen ?_
  refine fg_bipush (fg_ft (pc := 6) tb_Mo_feed 4 rfl) ib_20 ?_
  refine fg_iaddN (fg_ft (pc := 8) tb_Mo_feed 5 rfl) ?_
  refine fg_sipush (fg_ft (pc := 9) tb_Mo_feed 6 rfl) is_600 ?_
  refine fg_icmp_leN (tgt := 17) (fg_ft (pc := 12) tb_Mo_feed 7 rfl) (by decide) (by omega) (by decide) (fun c12 => ?_) (fun c12 => ?_)
  · refine fg_iconst (fg_ft (pc := 17) tb_Mo_feed 10 rfl) ic_0 ?_
    refine fg_istore (fg_ft (pc := 18) tb_Mo_feed 11 rfl) (Nat.le_of_ble_eq_true rfl) ?_
    exact loop (h1 (by omega)) (by omega) 21 0 μ _ (by omega) (by omega) (fun _ _ _ => rfl) (fun x => by
      unfold fg_fq
      rcases Nat.decEq x 2 with z9 | z9
      · rw [if_neg z9, if_neg (fun hh => by have := hh.1; omega)]
      · rw [if_pos z9, z9]; exact hlen)
  · refine fg_iconst (fg_ft (pc := 15) tb_Mo_feed 8 rfl) ic_m1 ?_
    exact fg_iret (fg_ft (pc := 16) tb_Mo_feed 9 rfl) rfl rfl (h0 (by omega))
