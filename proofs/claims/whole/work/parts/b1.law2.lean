/-! the law: one call of each kind -/
theorem fg_sldN {E : fg_E} {Y : fg_Y} {d n0 n1 : Nat} {Q : Option Value → fg_M → Prop} {pc : Nat} {L st : List Value} {M : fg_M} {i : Nat} {v : Int32} (hd : decode Y.2.1 pc = .ok (.iaload, 1)) (hi : i < E.2.2.2.2.2.2) (h4 : E.2.2.2.2.2.2 ≤ 4096) (hv : E.2.2.2.2.2.1 i = v) (k : fg_wp E Y d n0 n1 Q (pc + 1) L (.int v :: st) M) : fg_wp E Y d n0 n1 Q pc L (.int (nI i) :: .ref 99 :: st) M := by
  refine fg_sld hd (vp_in_nI hi (by omega)) ?_
  rw [nI_clamp (by omega), hv]
  exact k
theorem vp_nar1 : vp_nar .boolean (nI 1) = nI 1 := by decide
theorem lw_k3 {E : fg_E} {d : Nat} {μ : Nat → Nat → Int32} {R : fg_T4} {Q : Option Value → fg_M → Prop} {A : fg_Tl} {I : Nat → fg_Tl} {i : Nat} {x : Nat → Nat} (hi : i + 8 ≤ E.2.2.2.2.2.2) (h4 : E.2.2.2.2.2.2 ≤ 4096) (hx : ∀ j, x j < 2 ^ 32) (hs : ∀ j, E.2.2.2.2.2.1 (i + j) = nI (x j)) (hJ : lw_J μ A I)  (hK : ∀ (μ' : Nat → Nat → Int32) (R' : fg_T4) (A' : fg_Tl) (I' : Nat → fg_Tl), lw_J μ' A' I' → fg_wp E yy_Law_law (d + 13) 100 304 Q 2988 [.ref 99, .ref 100, .ref 287, .int (nI i)] [] (μ', fg_rho R', 304)) : fg_wp E yy_Law_law (d + 13) 100 304 Q 359 [.ref 99, .ref 100, .ref 287, .int (nI i)] [] (μ, fg_rho R, 304) := by
  refine fg_aloadn (fg_ft (pc := 359) tb_Law_law_2 3 rfl) rfl ?_
  refine fg_aloadn (fg_ft (pc := 360) tb_Law_law_2 4 rfl) rfl ?_
  refine fg_iloadn (fg_ft (pc := 361) tb_Law_law_2 5 rfl) rfl ?_
  refine fg_iconst (fg_ft (pc := 362) tb_Law_law_2 6 rfl) ic_1 ?_
  refine fg_iaddN (fg_ft (pc := 363) tb_Law_law_2 7 rfl) ?_
  refine fg_sldN (fg_ft (pc := 364) tb_Law_law_2 8 rfl) (by omega) h4 (hs 1) ?_
  refine fg_callV (fg_ft (pc := 365) tb_Law_law_2 9 rfl) cf_Law_28 (fg_isOf ly_100 rfl (fg_lt ly_100 (by decide))) (as := [.int (nI (x 1))]) (st := []) rfl rfl (Nat.le_of_ble_eq_true rfl) (Nat.le_refl _) (Nat.le_refl _) (ev_Fb_fault hJ.1.1 (hx 1) ?_)
  intro μ1 R1 ag1
  have hJ1 := hJ.Q ag1
  show fg_wp _ _ _ _ _ _ _ _ _ (μ1, fg_rho R1, 304)
  refine fg_aloadn (fg_ft (pc := 368) tb_Law_law_2 10 rfl) rfl ?_
  refine fg_aloadn (fg_ft (pc := 369) tb_Law_law_2 11 rfl) rfl ?_
  refine fg_iloadn (fg_ft (pc := 370) tb_Law_law_2 12 rfl) rfl ?_
  refine fg_iconst (fg_ft (pc := 371) tb_Law_law_2 13 rfl) ic_1 ?_
  refine fg_iaddN (fg_ft (pc := 372) tb_Law_law_2 14 rfl) ?_
  refine fg_sldN (fg_ft (pc := 373) tb_Law_law_2 15 rfl) (by omega) h4 (hs 1) ?_
  refine fg_callV (fg_ft (pc := 374) tb_Law_law_2 16 rfl) cf_Law_31 (fg_isOf ly_287 rfl (fg_lt ly_287 (by decide))) (as := [.int (nI (x 1))]) (st := [.int _]) rfl rfl (Nat.le_of_ble_eq_true rfl) (Nat.le_refl _) (Nat.le_refl _) (ev_Mo_fault hJ1.1.2.1 hJ1.1.1.wA hJ1.2.2.1.1 hJ1.2.2.1.2 (hx 1) ?_)
  intro μ2 ag2
  show fg_wp _ _ _ _ _ _ _ _ _ (μ2, fg_rho R1, 304)
  refine fg_icmp_eq (tgt := 2988) (fg_ft (pc := 377) tb_Law_law_2 17 rfl) (by decide) (fun c377 => ?_) (fun c377 => (absurd rfl c377))
  exact hK μ2 R1 A I (hJ1.R ag2)
theorem lw_k4 {E : fg_E} {d : Nat} {μ : Nat → Nat → Int32} {R : fg_T4} {Q : Option Value → fg_M → Prop} {A : fg_Tl} {I : Nat → fg_Tl} {i : Nat} {x : Nat → Nat} (hi : i + 8 ≤ E.2.2.2.2.2.2) (h4 : E.2.2.2.2.2.2 ≤ 4096) (hx : ∀ j, x j < 2 ^ 32) (hs : ∀ j, E.2.2.2.2.2.1 (i + j) = nI (x j)) (hJ : lw_J μ A I)  (hK : ∀ (μ' : Nat → Nat → Int32) (R' : fg_T4) (A' : fg_Tl) (I' : Nat → fg_Tl), lw_J μ' A' I' → fg_wp E yy_Law_law (d + 13) 100 304 Q 2988 [.ref 99, .ref 100, .ref 287, .int (nI i)] [] (μ', fg_rho R', 304)) : fg_wp E yy_Law_law (d + 13) 100 304 Q 382 [.ref 99, .ref 100, .ref 287, .int (nI i)] [] (μ, fg_rho R, 304) := by
  refine fg_aloadn (fg_ft (pc := 382) tb_Law_law_2 20 rfl) rfl ?_
  refine fg_aloadn (fg_ft (pc := 383) tb_Law_law_2 21 rfl) rfl ?_
  refine fg_iloadn (fg_ft (pc := 384) tb_Law_law_2 22 rfl) rfl ?_
  refine fg_iconst (fg_ft (pc := 385) tb_Law_law_2 23 rfl) ic_1 ?_
  refine fg_iaddN (fg_ft (pc := 386) tb_Law_law_2 24 rfl) ?_
  refine fg_sldN (fg_ft (pc := 387) tb_Law_law_2 25 rfl) (by omega) h4 (hs 1) ?_
  refine fg_aloadn (fg_ft (pc := 388) tb_Law_law_2 26 rfl) rfl ?_
  refine fg_iloadn (fg_ft (pc := 389) tb_Law_law_2 27 rfl) rfl ?_
  refine fg_iconst (fg_ft (pc := 390) tb_Law_law_2 28 rfl) ic_2 ?_
  refine fg_iaddN (fg_ft (pc := 391) tb_Law_law_2 29 rfl) ?_
  refine fg_sldN (fg_ft (pc := 392) tb_Law_law_2 30 rfl) (by omega) h4 (hs 2) ?_
  refine fg_callV (fg_ft (pc := 393) tb_Law_law_2 31 rfl) cf_Law_32 (fg_isOf ly_100 rfl (fg_lt ly_100 (by decide))) (as := [.int (nI (x 1)), .int (nI (x 2))]) (st := []) rfl rfl (Nat.le_of_ble_eq_true rfl) (Nat.le_refl _) (Nat.le_refl _) (ev_Fb_town hJ.1.1 (hx 1) (hx 2) ?_)
  intro μ1 R1 ag1
  have hJ1 := hJ.Q ag1
  show fg_wp _ _ _ _ _ _ _ _ _ (μ1, fg_rho R1, 304)
  refine fg_aloadn (fg_ft (pc := 396) tb_Law_law_2 32 rfl) rfl ?_
  refine fg_aloadn (fg_ft (pc := 397) tb_Law_law_2 33 rfl) rfl ?_
  refine fg_iloadn (fg_ft (pc := 398) tb_Law_law_2 34 rfl) rfl ?_
  refine fg_iconst (fg_ft (pc := 399) tb_Law_law_2 35 rfl) ic_1 ?_
  refine fg_iaddN (fg_ft (pc := 400) tb_Law_law_2 36 rfl) ?_
  refine fg_sldN (fg_ft (pc := 401) tb_Law_law_2 37 rfl) (by omega) h4 (hs 1) ?_
  refine fg_aloadn (fg_ft (pc := 402) tb_Law_law_2 38 rfl) rfl ?_
  refine fg_iloadn (fg_ft (pc := 403) tb_Law_law_2 39 rfl) rfl ?_
  refine fg_iconst (fg_ft (pc := 404) tb_Law_law_2 40 rfl) ic_2 ?_
  refine fg_iaddN (fg_ft (pc := 405) tb_Law_law_2 41 rfl) ?_
  refine fg_sldN (fg_ft (pc := 406) tb_Law_law_2 42 rfl) (by omega) h4 (hs 2) ?_
  refine fg_callV (fg_ft (pc := 407) tb_Law_law_2 43 rfl) cf_Law_35 (fg_isOf ly_287 rfl (fg_lt ly_287 (by decide))) (as := [.int (nI (x 1)), .int (nI (x 2))]) (st := [.int _]) rfl rfl (Nat.le_of_ble_eq_true rfl) (Nat.le_refl _) (Nat.le_refl _) (ev_Mo_town hJ1.1.2.1 hJ1.1.1.wA hJ1.2.2.1.1 hJ1.2.2.1.2 (hx 1) (hx 2) ?_)
  intro μ2 ag2
  show fg_wp _ _ _ _ _ _ _ _ _ (μ2, fg_rho R1, 304)
  refine fg_icmp_eq (tgt := 2988) (fg_ft (pc := 410) tb_Law_law_2 44 rfl) (by decide) (fun c410 => ?_) (fun c410 => (absurd rfl c410))
  exact hK μ2 R1 A I (hJ1.R ag2)
theorem lw_k5 {E : fg_E} {d : Nat} {μ : Nat → Nat → Int32} {R : fg_T4} {Q : Option Value → fg_M → Prop} {A : fg_Tl} {I : Nat → fg_Tl} {i : Nat} {x : Nat → Nat} (hi : i + 8 ≤ E.2.2.2.2.2.2) (h4 : E.2.2.2.2.2.2 ≤ 4096) (hx : ∀ j, x j < 2 ^ 32) (hs : ∀ j, E.2.2.2.2.2.1 (i + j) = nI (x j)) (hJ : lw_J μ A I)  (hK : ∀ (μ' : Nat → Nat → Int32) (R' : fg_T4) (A' : fg_Tl) (I' : Nat → fg_Tl), lw_J μ' A' I' → fg_wp E yy_Law_law (d + 13) 100 304 Q 2988 [.ref 99, .ref 100, .ref 287, .int (nI i)] [] (μ', fg_rho R', 304)) : fg_wp E yy_Law_law (d + 13) 100 304 Q 415 [.ref 99, .ref 100, .ref 287, .int (nI i)] [] (μ, fg_rho R, 304) := by
  refine fg_aloadn (fg_ft (pc := 415) tb_Law_law_2 47 rfl) rfl ?_
  refine fg_aloadn (fg_ft (pc := 416) tb_Law_law_2 48 rfl) rfl ?_
  refine fg_iloadn (fg_ft (pc := 417) tb_Law_law_2 49 rfl) rfl ?_
  refine fg_iconst (fg_ft (pc := 418) tb_Law_law_2 50 rfl) ic_1 ?_
  refine fg_iaddN (fg_ft (pc := 419) tb_Law_law_2 51 rfl) ?_
  refine fg_sldN (fg_ft (pc := 420) tb_Law_law_2 52 rfl) (by omega) h4 (hs 1) ?_
  refine fg_aloadn (fg_ft (pc := 421) tb_Law_law_2 53 rfl) rfl ?_
  refine fg_iloadn (fg_ft (pc := 422) tb_Law_law_2 54 rfl) rfl ?_
  refine fg_iconst (fg_ft (pc := 423) tb_Law_law_2 55 rfl) ic_2 ?_
  refine fg_iaddN (fg_ft (pc := 424) tb_Law_law_2 56 rfl) ?_
  refine fg_sldN (fg_ft (pc := 425) tb_Law_law_2 57 rfl) (by omega) h4 (hs 2) ?_
  refine fg_aloadn (fg_ft (pc := 426) tb_Law_law_2 58 rfl) rfl ?_
  refine fg_iloadn (fg_ft (pc := 427) tb_Law_law_2 59 rfl) rfl ?_
  refine fg_iconst (fg_ft (pc := 428) tb_Law_law_3 0 rfl) ic_3 ?_
  refine fg_iaddN (fg_ft (pc := 429) tb_Law_law_3 1 rfl) ?_
  refine fg_sldN (fg_ft (pc := 430) tb_Law_law_3 2 rfl) (by omega) h4 (hs 3) ?_
  refine fg_callV (fg_ft (pc := 431) tb_Law_law_3 3 rfl) cf_Law_36 (fg_isOf ly_100 rfl (fg_lt ly_100 (by decide))) (as := [.int (nI (x 1)), .int (nI (x 2)), .int (nI (x 3))]) (st := []) rfl rfl (Nat.le_of_ble_eq_true rfl) (Nat.le_refl _) (Nat.le_refl _) (ev_Fb_rule hJ.1.1 (hx 1) (hx 2) (hx 3) ?_)
  intro μ1 R1 ag1
  have hJ1 := hJ.Q ag1
  show fg_wp _ _ _ _ _ _ _ _ _ (μ1, fg_rho R1, 304)
  refine fg_aloadn (fg_ft (pc := 434) tb_Law_law_3 4 rfl) rfl ?_
  refine fg_aloadn (fg_ft (pc := 435) tb_Law_law_3 5 rfl) rfl ?_
  refine fg_iloadn (fg_ft (pc := 436) tb_Law_law_3 6 rfl) rfl ?_
  refine fg_iconst (fg_ft (pc := 437) tb_Law_law_3 7 rfl) ic_1 ?_
  refine fg_iaddN (fg_ft (pc := 438) tb_Law_law_3 8 rfl) ?_
  refine fg_sldN (fg_ft (pc := 439) tb_Law_law_3 9 rfl) (by omega) h4 (hs 1) ?_
  refine fg_aloadn (fg_ft (pc := 440) tb_Law_law_3 10 rfl) rfl ?_
  refine fg_iloadn (fg_ft (pc := 441) tb_Law_law_3 11 rfl) rfl ?_
  refine fg_iconst (fg_ft (pc := 442) tb_Law_law_3 12 rfl) ic_2 ?_
  refine fg_iaddN (fg_ft (pc := 443) tb_Law_law_3 13 rfl) ?_
  refine fg_sldN (fg_ft (pc := 444) tb_Law_law_3 14 rfl) (by omega) h4 (hs 2) ?_
  refine fg_aloadn (fg_ft (pc := 445) tb_Law_law_3 15 rfl) rfl ?_
  refine fg_iloadn (fg_ft (pc := 446) tb_Law_law_3 16 rfl) rfl ?_
  refine fg_iconst (fg_ft (pc := 447) tb_Law_law_3 17 rfl) ic_3 ?_
  refine fg_iaddN (fg_ft (pc := 448) tb_Law_law_3 18 rfl) ?_
  refine fg_sldN (fg_ft (pc := 449) tb_Law_law_3 19 rfl) (by omega) h4 (hs 3) ?_
  refine fg_callV (fg_ft (pc := 450) tb_Law_law_3 20 rfl) cf_Law_40 (fg_isOf ly_287 rfl (fg_lt ly_287 (by decide))) (as := [.int (nI (x 1)), .int (nI (x 2)), .int (nI (x 3))]) (st := [.int _]) rfl rfl (Nat.le_of_ble_eq_true rfl) (Nat.le_refl _) (Nat.le_refl _) (ev_Mo_rule hJ1.1.2.1 hJ1.1.1.wA hJ1.2.2.1.1 hJ1.2.2.1.2 (hx 1) (hx 2) (hx 3) ?_)
  intro μ2 ag2
  show fg_wp _ _ _ _ _ _ _ _ _ (μ2, fg_rho R1, 304)
  refine fg_icmp_eq (tgt := 2988) (fg_ft (pc := 453) tb_Law_law_3 21 rfl) (by decide) (fun c453 => ?_) (fun c453 => (absurd rfl c453))
  exact hK μ2 R1 A I (hJ1.R ag2)
theorem lw_k6 {E : fg_E} {d : Nat} {μ : Nat → Nat → Int32} {R : fg_T4} {Q : Option Value → fg_M → Prop} {A : fg_Tl} {I : Nat → fg_Tl} {i : Nat} {x : Nat → Nat} (hi : i + 8 ≤ E.2.2.2.2.2.2) (h4 : E.2.2.2.2.2.2 ≤ 4096) (hx : ∀ j, x j < 2 ^ 32) (hs : ∀ j, E.2.2.2.2.2.1 (i + j) = nI (x j)) (hJ : lw_J μ A I)  (hK : ∀ (μ' : Nat → Nat → Int32) (R' : fg_T4) (A' : fg_Tl) (I' : Nat → fg_Tl), lw_J μ' A' I' → fg_wp E yy_Law_law (d + 13) 100 304 Q 2988 [.ref 99, .ref 100, .ref 287, .int (nI i)] [] (μ', fg_rho R', 304)) : fg_wp E yy_Law_law (d + 13) 100 304 Q 458 [.ref 99, .ref 100, .ref 287, .int (nI i)] [] (μ, fg_rho R, 304) := by
  refine fg_aloadn (fg_ft (pc := 458) tb_Law_law_3 24 rfl) rfl ?_
  refine fg_aloadn (fg_ft (pc := 459) tb_Law_law_3 25 rfl) rfl ?_
  refine fg_iloadn (fg_ft (pc := 460) tb_Law_law_3 26 rfl) rfl ?_
  refine fg_iconst (fg_ft (pc := 461) tb_Law_law_3 27 rfl) ic_1 ?_
  refine fg_iaddN (fg_ft (pc := 462) tb_Law_law_3 28 rfl) ?_
  refine fg_sldN (fg_ft (pc := 463) tb_Law_law_3 29 rfl) (by omega) h4 (hs 1) ?_
  refine fg_aloadn (fg_ft (pc := 464) tb_Law_law_3 30 rfl) rfl ?_
  refine fg_iloadn (fg_ft (pc := 465) tb_Law_law_3 31 rfl) rfl ?_
  refine fg_iconst (fg_ft (pc := 466) tb_Law_law_3 32 rfl) ic_2 ?_
  refine fg_iaddN (fg_ft (pc := 467) tb_Law_law_3 33 rfl) ?_
  refine fg_sldN (fg_ft (pc := 468) tb_Law_law_3 34 rfl) (by omega) h4 (hs 2) ?_
  refine fg_aloadn (fg_ft (pc := 469) tb_Law_law_3 35 rfl) rfl ?_
  refine fg_iloadn (fg_ft (pc := 470) tb_Law_law_3 36 rfl) rfl ?_
  refine fg_iconst (fg_ft (pc := 471) tb_Law_law_3 37 rfl) ic_3 ?_
  refine fg_iaddN (fg_ft (pc := 472) tb_Law_law_3 38 rfl) ?_
  refine fg_sldN (fg_ft (pc := 473) tb_Law_law_3 39 rfl) (by omega) h4 (hs 3) ?_
  refine fg_callV (fg_ft (pc := 474) tb_Law_law_3 40 rfl) cf_Law_41 (fg_isOf ly_100 rfl (fg_lt ly_100 (by decide))) (as := [.int (nI (x 1)), .int (nI (x 2)), .int (nI (x 3))]) (st := []) rfl rfl (Nat.le_of_ble_eq_true rfl) (Nat.le_refl _) (Nat.le_refl _) (ev_Fb_person hJ.1.1 (hx 1) (hx 2) (hx 3) ?_)
  intro μ1 R1 ag1
  have hJ1 := hJ.Q ag1
  show fg_wp _ _ _ _ _ _ _ _ _ (μ1, fg_rho R1, 304)
  refine fg_aloadn (fg_ft (pc := 477) tb_Law_law_3 41 rfl) rfl ?_
  refine fg_aloadn (fg_ft (pc := 478) tb_Law_law_3 42 rfl) rfl ?_
  refine fg_iloadn (fg_ft (pc := 479) tb_Law_law_3 43 rfl) rfl ?_
  refine fg_iconst (fg_ft (pc := 480) tb_Law_law_3 44 rfl) ic_1 ?_
  refine fg_iaddN (fg_ft (pc := 481) tb_Law_law_3 45 rfl) ?_
  refine fg_sldN (fg_ft (pc := 482) tb_Law_law_3 46 rfl) (by omega) h4 (hs 1) ?_
  refine fg_aloadn (fg_ft (pc := 483) tb_Law_law_3 47 rfl) rfl ?_
  refine fg_iloadn (fg_ft (pc := 484) tb_Law_law_3 48 rfl) rfl ?_
  refine fg_iconst (fg_ft (pc := 485) tb_Law_law_3 49 rfl) ic_2 ?_
  refine fg_iaddN (fg_ft (pc := 486) tb_Law_law_3 50 rfl) ?_
  refine fg_sldN (fg_ft (pc := 487) tb_Law_law_3 51 rfl) (by omega) h4 (hs 2) ?_
  refine fg_aloadn (fg_ft (pc := 488) tb_Law_law_3 52 rfl) rfl ?_
  refine fg_iloadn (fg_ft (pc := 489) tb_Law_law_3 53 rfl) rfl ?_
  refine fg_iconst (fg_ft (pc := 490) tb_Law_law_3 54 rfl) ic_3 ?_
  refine fg_iaddN (fg_ft (pc := 491) tb_Law_law_3 55 rfl) ?_
  refine fg_sldN (fg_ft (pc := 492) tb_Law_law_3 56 rfl) (by omega) h4 (hs 3) ?_
  refine fg_callV (fg_ft (pc := 493) tb_Law_law_3 57 rfl) cf_Law_44 (fg_isOf ly_287 rfl (fg_lt ly_287 (by decide))) (as := [.int (nI (x 1)), .int (nI (x 2)), .int (nI (x 3))]) (st := [.int _]) rfl rfl (Nat.le_of_ble_eq_true rfl) (Nat.le_refl _) (Nat.le_refl _) (ev_Mo_person hJ1.1.2.1 hJ1.1.1.wA hJ1.2.2.1.1 hJ1.2.2.1.2 (hx 1) (hx 2) (hx 3) ?_)
  intro μ2 ag2
  show fg_wp _ _ _ _ _ _ _ _ _ (μ2, fg_rho R1, 304)
  refine fg_icmp_eq (tgt := 2988) (fg_ft (pc := 496) tb_Law_law_3 58 rfl) (by decide) (fun c496 => ?_) (fun c496 => (absurd rfl c496))
  exact hK μ2 R1 A I (hJ1.R ag2)
theorem lw_k7 {E : fg_E} {d : Nat} {μ : Nat → Nat → Int32} {R : fg_T4} {Q : Option Value → fg_M → Prop} {A : fg_Tl} {I : Nat → fg_Tl} {i : Nat} {x : Nat → Nat} (hi : i + 8 ≤ E.2.2.2.2.2.2) (h4 : E.2.2.2.2.2.2 ≤ 4096) (hx : ∀ j, x j < 2 ^ 32) (hs : ∀ j, E.2.2.2.2.2.1 (i + j) = nI (x j)) (hJ : lw_J μ A I)  (hK : ∀ (μ' : Nat → Nat → Int32) (R' : fg_T4) (A' : fg_Tl) (I' : Nat → fg_Tl), lw_J μ' A' I' → fg_wp E yy_Law_law (d + 13) 100 304 Q 2988 [.ref 99, .ref 100, .ref 287, .int (nI i)] [] (μ', fg_rho R', 304)) : fg_wp E yy_Law_law (d + 13) 100 304 Q 501 [.ref 99, .ref 100, .ref 287, .int (nI i)] [] (μ, fg_rho R, 304) := by
  refine fg_aloadn (fg_ft (pc := 501) tb_Law_law_4 1 rfl) rfl ?_
  refine fg_aloadn (fg_ft (pc := 502) tb_Law_law_4 2 rfl) rfl ?_
  refine fg_iloadn (fg_ft (pc := 503) tb_Law_law_4 3 rfl) rfl ?_
  refine fg_iconst (fg_ft (pc := 504) tb_Law_law_4 4 rfl) ic_1 ?_
  refine fg_iaddN (fg_ft (pc := 505) tb_Law_law_4 5 rfl) ?_
  refine fg_sldN (fg_ft (pc := 506) tb_Law_law_4 6 rfl) (by omega) h4 (hs 1) ?_
  refine fg_aloadn (fg_ft (pc := 507) tb_Law_law_4 7 rfl) rfl ?_
  refine fg_iloadn (fg_ft (pc := 508) tb_Law_law_4 8 rfl) rfl ?_
  refine fg_iconst (fg_ft (pc := 509) tb_Law_law_4 9 rfl) ic_2 ?_
  refine fg_iaddN (fg_ft (pc := 510) tb_Law_law_4 10 rfl) ?_
  refine fg_sldN (fg_ft (pc := 511) tb_Law_law_4 11 rfl) (by omega) h4 (hs 2) ?_
  refine fg_aloadn (fg_ft (pc := 512) tb_Law_law_4 12 rfl) rfl ?_
  refine fg_iloadn (fg_ft (pc := 513) tb_Law_law_4 13 rfl) rfl ?_
  refine fg_iconst (fg_ft (pc := 514) tb_Law_law_4 14 rfl) ic_3 ?_
  refine fg_iaddN (fg_ft (pc := 515) tb_Law_law_4 15 rfl) ?_
  refine fg_sldN (fg_ft (pc := 516) tb_Law_law_4 16 rfl) (by omega) h4 (hs 3) ?_
  refine fg_callV (fg_ft (pc := 517) tb_Law_law_4 17 rfl) cf_Law_45 (fg_isOf ly_100 rfl (fg_lt ly_100 (by decide))) (as := [.int (nI (x 1)), .int (nI (x 2)), .int (nI (x 3))]) (st := []) rfl rfl (Nat.le_of_ble_eq_true rfl) (Nat.le_refl _) (Nat.le_refl _) (ev_Fb_sign hJ.1.1 (hx 1) (hx 2) (hx 3) ?_)
  intro μ1 R1 ag1
  have hJ1 := hJ.Q ag1
  show fg_wp _ _ _ _ _ _ _ _ _ (μ1, fg_rho R1, 304)
  refine fg_aloadn (fg_ft (pc := 520) tb_Law_law_4 18 rfl) rfl ?_
  refine fg_aloadn (fg_ft (pc := 521) tb_Law_law_4 19 rfl) rfl ?_
  refine fg_iloadn (fg_ft (pc := 522) tb_Law_law_4 20 rfl) rfl ?_
  refine fg_iconst (fg_ft (pc := 523) tb_Law_law_4 21 rfl) ic_1 ?_
  refine fg_iaddN (fg_ft (pc := 524) tb_Law_law_4 22 rfl) ?_
  refine fg_sldN (fg_ft (pc := 525) tb_Law_law_4 23 rfl) (by omega) h4 (hs 1) ?_
  refine fg_aloadn (fg_ft (pc := 526) tb_Law_law_4 24 rfl) rfl ?_
  refine fg_iloadn (fg_ft (pc := 527) tb_Law_law_4 25 rfl) rfl ?_
  refine fg_iconst (fg_ft (pc := 528) tb_Law_law_4 26 rfl) ic_2 ?_
  refine fg_iaddN (fg_ft (pc := 529) tb_Law_law_4 27 rfl) ?_
  refine fg_sldN (fg_ft (pc := 530) tb_Law_law_4 28 rfl) (by omega) h4 (hs 2) ?_
  refine fg_aloadn (fg_ft (pc := 531) tb_Law_law_4 29 rfl) rfl ?_
  refine fg_iloadn (fg_ft (pc := 532) tb_Law_law_4 30 rfl) rfl ?_
  refine fg_iconst (fg_ft (pc := 533) tb_Law_law_4 31 rfl) ic_3 ?_
  refine fg_iaddN (fg_ft (pc := 534) tb_Law_law_4 32 rfl) ?_
  refine fg_sldN (fg_ft (pc := 535) tb_Law_law_4 33 rfl) (by omega) h4 (hs 3) ?_
  refine fg_callV (fg_ft (pc := 536) tb_Law_law_4 34 rfl) cf_Law_48 (fg_isOf ly_287 rfl (fg_lt ly_287 (by decide))) (as := [.int (nI (x 1)), .int (nI (x 2)), .int (nI (x 3))]) (st := [.int _]) rfl rfl (Nat.le_of_ble_eq_true rfl) (Nat.le_refl _) (Nat.le_refl _) (ev_Mo_sign hJ1.1.2.1 hJ1.1.1.wA hJ1.2.2.1.1 hJ1.2.2.1.2 (hx 1) (hx 2) (hx 3) ?_)
  intro μ2 ag2
  show fg_wp _ _ _ _ _ _ _ _ _ (μ2, fg_rho R1, 304)
  refine fg_icmp_eq (tgt := 2988) (fg_ft (pc := 539) tb_Law_law_4 35 rfl) (by decide) (fun c539 => ?_) (fun c539 => (absurd rfl c539))
  exact hK μ2 R1 A I (hJ1.R ag2)
theorem lw_k8 {E : fg_E} {d : Nat} {μ : Nat → Nat → Int32} {R : fg_T4} {Q : Option Value → fg_M → Prop} {A : fg_Tl} {I : Nat → fg_Tl} {i : Nat} {x : Nat → Nat} (hi : i + 8 ≤ E.2.2.2.2.2.2) (h4 : E.2.2.2.2.2.2 ≤ 4096) (hx : ∀ j, x j < 2 ^ 32) (hs : ∀ j, E.2.2.2.2.2.1 (i + j) = nI (x j)) (hJ : lw_J μ A I)  (hK : ∀ (μ' : Nat → Nat → Int32) (R' : fg_T4) (A' : fg_Tl) (I' : Nat → fg_Tl), lw_J μ' A' I' → fg_wp E yy_Law_law (d + 13) 100 304 Q 2988 [.ref 99, .ref 100, .ref 287, .int (nI i)] [] (μ', fg_rho R', 304)) : fg_wp E yy_Law_law (d + 13) 100 304 Q 544 [.ref 99, .ref 100, .ref 287, .int (nI i)] [] (μ, fg_rho R, 304) := by
  refine fg_aloadn (fg_ft (pc := 544) tb_Law_law_4 38 rfl) rfl ?_
  refine fg_aloadn (fg_ft (pc := 545) tb_Law_law_4 39 rfl) rfl ?_
  refine fg_iloadn (fg_ft (pc := 546) tb_Law_law_4 40 rfl) rfl ?_
  refine fg_iconst (fg_ft (pc := 547) tb_Law_law_4 41 rfl) ic_1 ?_
  refine fg_iaddN (fg_ft (pc := 548) tb_Law_law_4 42 rfl) ?_
  refine fg_sldN (fg_ft (pc := 549) tb_Law_law_4 43 rfl) (by omega) h4 (hs 1) ?_
  refine fg_aloadn (fg_ft (pc := 550) tb_Law_law_4 44 rfl) rfl ?_
  refine fg_iloadn (fg_ft (pc := 551) tb_Law_law_4 45 rfl) rfl ?_
  refine fg_iconst (fg_ft (pc := 552) tb_Law_law_4 46 rfl) ic_2 ?_
  refine fg_iaddN (fg_ft (pc := 553) tb_Law_law_4 47 rfl) ?_
  refine fg_sldN (fg_ft (pc := 554) tb_Law_law_4 48 rfl) (by omega) h4 (hs 2) ?_
  refine fg_aloadn (fg_ft (pc := 555) tb_Law_law_4 49 rfl) rfl ?_
  refine fg_iloadn (fg_ft (pc := 556) tb_Law_law_4 50 rfl) rfl ?_
  refine fg_iconst (fg_ft (pc := 557) tb_Law_law_4 51 rfl) ic_3 ?_
  refine fg_iaddN (fg_ft (pc := 558) tb_Law_law_4 52 rfl) ?_
  refine fg_sldN (fg_ft (pc := 559) tb_Law_law_4 53 rfl) (by omega) h4 (hs 3) ?_
  refine fg_callV (fg_ft (pc := 560) tb_Law_law_4 54 rfl) cf_Law_49 (fg_isOf ly_100 rfl (fg_lt ly_100 (by decide))) (as := [.int (nI (x 1)), .int (nI (x 2)), .int (nI (x 3))]) (st := []) rfl rfl (Nat.le_of_ble_eq_true rfl) (Nat.le_refl _) (Nat.le_refl _) (ev_Fb_meet hJ.1.1 (hx 1) (hx 2) (hx 3) ?_)
  intro μ1 R1 ag1
  have hJ1 := hJ.Q ag1
  show fg_wp _ _ _ _ _ _ _ _ _ (μ1, fg_rho R1, 304)
  refine fg_aloadn (fg_ft (pc := 563) tb_Law_law_4 55 rfl) rfl ?_
  refine fg_aloadn (fg_ft (pc := 564) tb_Law_law_4 56 rfl) rfl ?_
  refine fg_iloadn (fg_ft (pc := 565) tb_Law_law_4 57 rfl) rfl ?_
  refine fg_iconst (fg_ft (pc := 566) tb_Law_law_4 58 rfl) ic_1 ?_
  refine fg_iaddN (fg_ft (pc := 567) tb_Law_law_4 59 rfl) ?_
  refine fg_sldN (fg_ft (pc := 568) tb_Law_law_5 0 rfl) (by omega) h4 (hs 1) ?_
  refine fg_aloadn (fg_ft (pc := 569) tb_Law_law_5 1 rfl) rfl ?_
  refine fg_iloadn (fg_ft (pc := 570) tb_Law_law_5 2 rfl) rfl ?_
  refine fg_iconst (fg_ft (pc := 571) tb_Law_law_5 3 rfl) ic_2 ?_
  refine fg_iaddN (fg_ft (pc := 572) tb_Law_law_5 4 rfl) ?_
  refine fg_sldN (fg_ft (pc := 573) tb_Law_law_5 5 rfl) (by omega) h4 (hs 2) ?_
  refine fg_aloadn (fg_ft (pc := 574) tb_Law_law_5 6 rfl) rfl ?_
  refine fg_iloadn (fg_ft (pc := 575) tb_Law_law_5 7 rfl) rfl ?_
  refine fg_iconst (fg_ft (pc := 576) tb_Law_law_5 8 rfl) ic_3 ?_
  refine fg_iaddN (fg_ft (pc := 577) tb_Law_law_5 9 rfl) ?_
  refine fg_sldN (fg_ft (pc := 578) tb_Law_law_5 10 rfl) (by omega) h4 (hs 3) ?_
  refine fg_callV (fg_ft (pc := 579) tb_Law_law_5 11 rfl) cf_Law_52 (fg_isOf ly_287 rfl (fg_lt ly_287 (by decide))) (as := [.int (nI (x 1)), .int (nI (x 2)), .int (nI (x 3))]) (st := [.int _]) rfl rfl (Nat.le_of_ble_eq_true rfl) (Nat.le_refl _) (Nat.le_refl _) (ev_Mo_meet hJ1.1.2.1 hJ1.1.1.wA hJ1.2.2.1.1 hJ1.2.2.1.2 (hx 1) (hx 2) (hx 3) ?_)
  intro μ2 ag2
  show fg_wp _ _ _ _ _ _ _ _ _ (μ2, fg_rho R1, 304)
  refine fg_icmp_eq (tgt := 2988) (fg_ft (pc := 582) tb_Law_law_5 12 rfl) (by decide) (fun c582 => ?_) (fun c582 => (absurd rfl c582))
  exact hK μ2 R1 A I (hJ1.R ag2)
theorem lw_k9 {E : fg_E} {d : Nat} {μ : Nat → Nat → Int32} {R : fg_T4} {Q : Option Value → fg_M → Prop} {A : fg_Tl} {I : Nat → fg_Tl} {i : Nat} {x : Nat → Nat} (hi : i + 8 ≤ E.2.2.2.2.2.2) (h4 : E.2.2.2.2.2.2 ≤ 4096) (hx : ∀ j, x j < 2 ^ 32) (hs : ∀ j, E.2.2.2.2.2.1 (i + j) = nI (x j)) (hJ : lw_J μ A I)  (hK : ∀ (μ' : Nat → Nat → Int32) (R' : fg_T4) (A' : fg_Tl) (I' : Nat → fg_Tl), lw_J μ' A' I' → fg_wp E yy_Law_law (d + 13) 100 304 Q 2988 [.ref 99, .ref 100, .ref 287, .int (nI i)] [] (μ', fg_rho R', 304)) : fg_wp E yy_Law_law (d + 13) 100 304 Q 587 [.ref 99, .ref 100, .ref 287, .int (nI i)] [] (μ, fg_rho R, 304) := by
  refine fg_aloadn (fg_ft (pc := 587) tb_Law_law_5 15 rfl) rfl ?_
  refine fg_aloadn (fg_ft (pc := 588) tb_Law_law_5 16 rfl) rfl ?_
  refine fg_iloadn (fg_ft (pc := 589) tb_Law_law_5 17 rfl) rfl ?_
  refine fg_iconst (fg_ft (pc := 590) tb_Law_law_5 18 rfl) ic_1 ?_
  refine fg_iaddN (fg_ft (pc := 591) tb_Law_law_5 19 rfl) ?_
  refine fg_sldN (fg_ft (pc := 592) tb_Law_law_5 20 rfl) (by omega) h4 (hs 1) ?_
  refine fg_aloadn (fg_ft (pc := 593) tb_Law_law_5 21 rfl) rfl ?_
  refine fg_iloadn (fg_ft (pc := 594) tb_Law_law_5 22 rfl) rfl ?_
  refine fg_iconst (fg_ft (pc := 595) tb_Law_law_5 23 rfl) ic_2 ?_
  refine fg_iaddN (fg_ft (pc := 596) tb_Law_law_5 24 rfl) ?_
  refine fg_sldN (fg_ft (pc := 597) tb_Law_law_5 25 rfl) (by omega) h4 (hs 2) ?_
  refine fg_aloadn (fg_ft (pc := 598) tb_Law_law_5 26 rfl) rfl ?_
  refine fg_iloadn (fg_ft (pc := 599) tb_Law_law_5 27 rfl) rfl ?_
  refine fg_iconst (fg_ft (pc := 600) tb_Law_law_5 28 rfl) ic_3 ?_
  refine fg_iaddN (fg_ft (pc := 601) tb_Law_law_5 29 rfl) ?_
  refine fg_sldN (fg_ft (pc := 602) tb_Law_law_5 30 rfl) (by omega) h4 (hs 3) ?_
  refine fg_if_eqW (tgt := 610) (fg_ft (pc := 603) tb_Law_law_5 31 rfl) (by decide) (hx 3) (fun c603 => ?_) (fun c603 => ?_)
  · refine fg_iconst (fg_ft (pc := 610) tb_Law_law_5 34 rfl) ic_0 ?_
    refine fg_aloadn (fg_ft (pc := 611) tb_Law_law_5 35 rfl) rfl ?_
    refine fg_iloadn (fg_ft (pc := 612) tb_Law_law_5 36 rfl) rfl ?_
    refine fg_iconst (fg_ft (pc := 613) tb_Law_law_5 37 rfl) ic_4 ?_
    refine fg_iaddN (fg_ft (pc := 614) tb_Law_law_5 38 rfl) ?_
    refine fg_sldN (fg_ft (pc := 615) tb_Law_law_5 39 rfl) (by omega) h4 (hs 4) ?_
    refine fg_callV (fg_ft (pc := 616) tb_Law_law_5 40 rfl) cf_Law_53 (fg_isOf ly_100 rfl (fg_lt ly_100 (by decide))) (as := [.int (nI (x 1)), .int (nI (x 2)), .int (nI 0), .int (nI (x 4))]) (st := []) rfl rfl (Nat.le_of_ble_eq_true rfl) (Nat.le_refl _) (Nat.le_refl _) (ev_Fb_skill0 hJ.1.1 (hx 1) (hx 2) (hx 4) ?_)
    intro μ1 R1 ag1
    have hJ1 := hJ.Q ag1
    show fg_wp _ _ _ _ _ _ _ _ _ (μ1, fg_rho R1, 304)
    refine fg_aloadn (fg_ft (pc := 619) tb_Law_law_5 41 rfl) rfl ?_
    refine fg_aloadn (fg_ft (pc := 620) tb_Law_law_5 42 rfl) rfl ?_
    refine fg_iloadn (fg_ft (pc := 621) tb_Law_law_5 43 rfl) rfl ?_
    refine fg_iconst (fg_ft (pc := 622) tb_Law_law_5 44 rfl) ic_1 ?_
    refine fg_iaddN (fg_ft (pc := 623) tb_Law_law_5 45 rfl) ?_
    refine fg_sldN (fg_ft (pc := 624) tb_Law_law_5 46 rfl) (by omega) h4 (hs 1) ?_
    refine fg_aloadn (fg_ft (pc := 625) tb_Law_law_5 47 rfl) rfl ?_
    refine fg_iloadn (fg_ft (pc := 626) tb_Law_law_5 48 rfl) rfl ?_
    refine fg_iconst (fg_ft (pc := 627) tb_Law_law_5 49 rfl) ic_2 ?_
    refine fg_iaddN (fg_ft (pc := 628) tb_Law_law_5 50 rfl) ?_
    refine fg_sldN (fg_ft (pc := 629) tb_Law_law_5 51 rfl) (by omega) h4 (hs 2) ?_
    refine fg_aloadn (fg_ft (pc := 630) tb_Law_law_5 52 rfl) rfl ?_
    refine fg_iloadn (fg_ft (pc := 631) tb_Law_law_5 53 rfl) rfl ?_
    refine fg_iconst (fg_ft (pc := 632) tb_Law_law_5 54 rfl) ic_3 ?_
    refine fg_iaddN (fg_ft (pc := 633) tb_Law_law_5 55 rfl) ?_
    refine fg_sldN (fg_ft (pc := 634) tb_Law_law_5 56 rfl) (by omega) h4 (hs 3) ?_
    refine fg_if_eqW (tgt := 642) (fg_ft (pc := 635) tb_Law_law_5 57 rfl) (by decide) (hx 3) (fun c635 => ?_) (fun c635 => (absurd c603 c635))
    refine fg_iconst (fg_ft (pc := 642) tb_Law_law_6 0 rfl) ic_0 ?_
    refine fg_aloadn (fg_ft (pc := 643) tb_Law_law_6 1 rfl) rfl ?_
    refine fg_iloadn (fg_ft (pc := 644) tb_Law_law_6 2 rfl) rfl ?_
    refine fg_iconst (fg_ft (pc := 645) tb_Law_law_6 3 rfl) ic_4 ?_
    refine fg_iaddN (fg_ft (pc := 646) tb_Law_law_6 4 rfl) ?_
    refine fg_sldN (fg_ft (pc := 647) tb_Law_law_6 5 rfl) (by omega) h4 (hs 4) ?_
    refine fg_callV (fg_ft (pc := 648) tb_Law_law_6 6 rfl) cf_Law_57 (fg_isOf ly_287 rfl (fg_lt ly_287 (by decide))) (as := [.int (nI (x 1)), .int (nI (x 2)), .int (nI 0), .int (nI (x 4))]) (st := [.int _]) rfl rfl (Nat.le_of_ble_eq_true rfl) (Nat.le_refl _) (Nat.le_refl _) (ev_Mo_skill0 hJ1.1.2.1 hJ1.1.1.wA hJ1.2.2.1.1 hJ1.2.2.1.2 (hx 1) (hx 2) (hx 4) ?_)
    intro μ2 ag2
    show fg_wp _ _ _ _ _ _ _ _ _ (μ2, fg_rho R1, 304)
    refine fg_icmp_eq (tgt := 2988) (fg_ft (pc := 651) tb_Law_law_6 7 rfl) (by decide) (fun c651 => ?_) (fun c651 => (absurd rfl c651))
    exact hK μ2 R1 A I (hJ1.R ag2)
  · refine fg_iconst (fg_ft (pc := 606) tb_Law_law_5 32 rfl) ic_1 ?_
    refine fg_goto (tgt := 611) (fg_ft (pc := 607) tb_Law_law_5 33 rfl) (by decide) ?_
    refine fg_aloadn (fg_ft (pc := 611) tb_Law_law_5 35 rfl) rfl ?_
    refine fg_iloadn (fg_ft (pc := 612) tb_Law_law_5 36 rfl) rfl ?_
    refine fg_iconst (fg_ft (pc := 613) tb_Law_law_5 37 rfl) ic_4 ?_
    refine fg_iaddN (fg_ft (pc := 614) tb_Law_law_5 38 rfl) ?_
    refine fg_sldN (fg_ft (pc := 615) tb_Law_law_5 39 rfl) (by omega) h4 (hs 4) ?_
    refine fg_callV (fg_ft (pc := 616) tb_Law_law_5 40 rfl) cf_Law_53 (fg_isOf ly_100 rfl (fg_lt ly_100 (by decide))) (as := [.int (nI (x 1)), .int (nI (x 2)), .int (nI 1), .int (nI (x 4))]) (st := []) rfl rfl (Nat.le_of_ble_eq_true rfl) (Nat.le_refl _) (Nat.le_refl _) (ev_Fb_skill1 hJ.1.1 (hx 1) (hx 2) (hx 4) ?_)
    intro μ1 R1 ag1
    have hJ1 := hJ.Q ag1
    show fg_wp _ _ _ _ _ _ _ _ _ (μ1, fg_rho R1, 304)
    refine fg_aloadn (fg_ft (pc := 619) tb_Law_law_5 41 rfl) rfl ?_
    refine fg_aloadn (fg_ft (pc := 620) tb_Law_law_5 42 rfl) rfl ?_
    refine fg_iloadn (fg_ft (pc := 621) tb_Law_law_5 43 rfl) rfl ?_
    refine fg_iconst (fg_ft (pc := 622) tb_Law_law_5 44 rfl) ic_1 ?_
    refine fg_iaddN (fg_ft (pc := 623) tb_Law_law_5 45 rfl) ?_
    refine fg_sldN (fg_ft (pc := 624) tb_Law_law_5 46 rfl) (by omega) h4 (hs 1) ?_
    refine fg_aloadn (fg_ft (pc := 625) tb_Law_law_5 47 rfl) rfl ?_
    refine fg_iloadn (fg_ft (pc := 626) tb_Law_law_5 48 rfl) rfl ?_
    refine fg_iconst (fg_ft (pc := 627) tb_Law_law_5 49 rfl) ic_2 ?_
    refine fg_iaddN (fg_ft (pc := 628) tb_Law_law_5 50 rfl) ?_
    refine fg_sldN (fg_ft (pc := 629) tb_Law_law_5 51 rfl) (by omega) h4 (hs 2) ?_
    refine fg_aloadn (fg_ft (pc := 630) tb_Law_law_5 52 rfl) rfl ?_
    refine fg_iloadn (fg_ft (pc := 631) tb_Law_law_5 53 rfl) rfl ?_
    refine fg_iconst (fg_ft (pc := 632) tb_Law_law_5 54 rfl) ic_3 ?_
    refine fg_iaddN (fg_ft (pc := 633) tb_Law_law_5 55 rfl) ?_
    refine fg_sldN (fg_ft (pc := 634) tb_Law_law_5 56 rfl) (by omega) h4 (hs 3) ?_
    refine fg_if_eqW (tgt := 642) (fg_ft (pc := 635) tb_Law_law_5 57 rfl) (by decide) (hx 3) (fun c635 => (absurd c635 c603)) (fun c635 => ?_)
    refine fg_iconst (fg_ft (pc := 638) tb_Law_law_5 58 rfl) ic_1 ?_
    refine fg_goto (tgt := 643) (fg_ft (pc := 639) tb_Law_law_5 59 rfl) (by decide) ?_
    refine fg_aloadn (fg_ft (pc := 643) tb_Law_law_6 1 rfl) rfl ?_
    refine fg_iloadn (fg_ft (pc := 644) tb_Law_law_6 2 rfl) rfl ?_
    refine fg_iconst (fg_ft (pc := 645) tb_Law_law_6 3 rfl) ic_4 ?_
    refine fg_iaddN (fg_ft (pc := 646) tb_Law_law_6 4 rfl) ?_
    refine fg_sldN (fg_ft (pc := 647) tb_Law_law_6 5 rfl) (by omega) h4 (hs 4) ?_
    refine fg_callV (fg_ft (pc := 648) tb_Law_law_6 6 rfl) cf_Law_57 (fg_isOf ly_287 rfl (fg_lt ly_287 (by decide))) (as := [.int (nI (x 1)), .int (nI (x 2)), .int (nI 1), .int (nI (x 4))]) (st := [.int _]) rfl rfl (Nat.le_of_ble_eq_true rfl) (Nat.le_refl _) (Nat.le_refl _) (ev_Mo_skill1 hJ1.1.2.1 hJ1.1.1.wA hJ1.2.2.1.1 hJ1.2.2.1.2 (hx 1) (hx 2) (hx 4) ?_)
    intro μ2 ag2
    show fg_wp _ _ _ _ _ _ _ _ _ (μ2, fg_rho R1, 304)
    refine fg_icmp_eq (tgt := 2988) (fg_ft (pc := 651) tb_Law_law_6 7 rfl) (by decide) (fun c651 => ?_) (fun c651 => (absurd rfl c651))
    exact hK μ2 R1 A I (hJ1.R ag2)
theorem lw_k10 {E : fg_E} {d : Nat} {μ : Nat → Nat → Int32} {R : fg_T4} {Q : Option Value → fg_M → Prop} {A : fg_Tl} {I : Nat → fg_Tl} {i : Nat} {x : Nat → Nat} (hi : i + 8 ≤ E.2.2.2.2.2.2) (h4 : E.2.2.2.2.2.2 ≤ 4096) (hx : ∀ j, x j < 2 ^ 32) (hs : ∀ j, E.2.2.2.2.2.1 (i + j) = nI (x j)) (hJ : lw_J μ A I)  (hK : ∀ (μ' : Nat → Nat → Int32) (R' : fg_T4) (A' : fg_Tl) (I' : Nat → fg_Tl), lw_J μ' A' I' → fg_wp E yy_Law_law (d + 13) 100 304 Q 2988 [.ref 99, .ref 100, .ref 287, .int (nI i)] [] (μ', fg_rho R', 304)) : fg_wp E yy_Law_law (d + 13) 100 304 Q 656 [.ref 99, .ref 100, .ref 287, .int (nI i)] [] (μ, fg_rho R, 304) := by
  refine fg_aloadn (fg_ft (pc := 656) tb_Law_law_6 10 rfl) rfl ?_
  refine fg_aloadn (fg_ft (pc := 657) tb_Law_law_6 11 rfl) rfl ?_
  refine fg_iloadn (fg_ft (pc := 658) tb_Law_law_6 12 rfl) rfl ?_
  refine fg_iconst (fg_ft (pc := 659) tb_Law_law_6 13 rfl) ic_1 ?_
  refine fg_iaddN (fg_ft (pc := 660) tb_Law_law_6 14 rfl) ?_
  refine fg_sldN (fg_ft (pc := 661) tb_Law_law_6 15 rfl) (by omega) h4 (hs 1) ?_
  refine fg_aloadn (fg_ft (pc := 662) tb_Law_law_6 16 rfl) rfl ?_
  refine fg_iloadn (fg_ft (pc := 663) tb_Law_law_6 17 rfl) rfl ?_
  refine fg_iconst (fg_ft (pc := 664) tb_Law_law_6 18 rfl) ic_2 ?_
  refine fg_iaddN (fg_ft (pc := 665) tb_Law_law_6 19 rfl) ?_
  refine fg_sldN (fg_ft (pc := 666) tb_Law_law_6 20 rfl) (by omega) h4 (hs 2) ?_
  refine fg_aloadn (fg_ft (pc := 667) tb_Law_law_6 21 rfl) rfl ?_
  refine fg_iloadn (fg_ft (pc := 668) tb_Law_law_6 22 rfl) rfl ?_
  refine fg_iconst (fg_ft (pc := 669) tb_Law_law_6 23 rfl) ic_3 ?_
  refine fg_iaddN (fg_ft (pc := 670) tb_Law_law_6 24 rfl) ?_
  refine fg_sldN (fg_ft (pc := 671) tb_Law_law_6 25 rfl) (by omega) h4 (hs 3) ?_
  refine fg_callV (fg_ft (pc := 672) tb_Law_law_6 26 rfl) cf_Law_58 (fg_isOf ly_100 rfl (fg_lt ly_100 (by decide))) (as := [.int (nI (x 1)), .int (nI (x 2)), .int (nI (x 3))]) (st := []) rfl rfl (Nat.le_of_ble_eq_true rfl) (Nat.le_refl _) (Nat.le_refl _) (ev_Fb_act hJ.1.1 (hx 1) (hx 2) (hx 3) ?_)
  intro μ1 R1 ag1
  have hJ1 := hJ.Q ag1
  show fg_wp _ _ _ _ _ _ _ _ _ (μ1, fg_rho R1, 304)
  refine fg_aloadn (fg_ft (pc := 675) tb_Law_law_6 27 rfl) rfl ?_
  refine fg_aloadn (fg_ft (pc := 676) tb_Law_law_6 28 rfl) rfl ?_
  refine fg_iloadn (fg_ft (pc := 677) tb_Law_law_6 29 rfl) rfl ?_
  refine fg_iconst (fg_ft (pc := 678) tb_Law_law_6 30 rfl) ic_1 ?_
  refine fg_iaddN (fg_ft (pc := 679) tb_Law_law_6 31 rfl) ?_
  refine fg_sldN (fg_ft (pc := 680) tb_Law_law_6 32 rfl) (by omega) h4 (hs 1) ?_
  refine fg_aloadn (fg_ft (pc := 681) tb_Law_law_6 33 rfl) rfl ?_
  refine fg_iloadn (fg_ft (pc := 682) tb_Law_law_6 34 rfl) rfl ?_
  refine fg_iconst (fg_ft (pc := 683) tb_Law_law_6 35 rfl) ic_2 ?_
  refine fg_iaddN (fg_ft (pc := 684) tb_Law_law_6 36 rfl) ?_
  refine fg_sldN (fg_ft (pc := 685) tb_Law_law_6 37 rfl) (by omega) h4 (hs 2) ?_
  refine fg_aloadn (fg_ft (pc := 686) tb_Law_law_6 38 rfl) rfl ?_
  refine fg_iloadn (fg_ft (pc := 687) tb_Law_law_6 39 rfl) rfl ?_
  refine fg_iconst (fg_ft (pc := 688) tb_Law_law_6 40 rfl) ic_3 ?_
  refine fg_iaddN (fg_ft (pc := 689) tb_Law_law_6 41 rfl) ?_
  refine fg_sldN (fg_ft (pc := 690) tb_Law_law_6 42 rfl) (by omega) h4 (hs 3) ?_
  refine fg_callV (fg_ft (pc := 691) tb_Law_law_6 43 rfl) cf_Law_61 (fg_isOf ly_287 rfl (fg_lt ly_287 (by decide))) (as := [.int (nI (x 1)), .int (nI (x 2)), .int (nI (x 3))]) (st := [.int _]) rfl rfl (Nat.le_of_ble_eq_true rfl) (Nat.le_refl _) (Nat.le_refl _) (ev_Mo_act hJ1.1.2.1 hJ1.1.1.wA hJ1.2.2.1.1 hJ1.2.2.1.2 (hx 1) (hx 2) (hx 3) ?_)
  intro μ2 ag2
  show fg_wp _ _ _ _ _ _ _ _ _ (μ2, fg_rho R1, 304)
  refine fg_icmp_eq (tgt := 2988) (fg_ft (pc := 694) tb_Law_law_6 44 rfl) (by decide) (fun c694 => ?_) (fun c694 => (absurd rfl c694))
  exact hK μ2 R1 A I (hJ1.R ag2)
theorem lw_k11 {E : fg_E} {d : Nat} {μ : Nat → Nat → Int32} {R : fg_T4} {Q : Option Value → fg_M → Prop} {A : fg_Tl} {I : Nat → fg_Tl} {i : Nat} {x : Nat → Nat} (hi : i + 8 ≤ E.2.2.2.2.2.2) (h4 : E.2.2.2.2.2.2 ≤ 4096) (hx : ∀ j, x j < 2 ^ 32) (hs : ∀ j, E.2.2.2.2.2.1 (i + j) = nI (x j)) (hJ : lw_J μ A I)  (hK : ∀ (μ' : Nat → Nat → Int32) (R' : fg_T4) (A' : fg_Tl) (I' : Nat → fg_Tl), lw_J μ' A' I' → fg_wp E yy_Law_law (d + 13) 100 304 Q 2988 [.ref 99, .ref 100, .ref 287, .int (nI i)] [] (μ', fg_rho R', 304)) : fg_wp E yy_Law_law (d + 13) 100 304 Q 699 [.ref 99, .ref 100, .ref 287, .int (nI i)] [] (μ, fg_rho R, 304) := by
  refine fg_aloadn (fg_ft (pc := 699) tb_Law_law_6 47 rfl) rfl ?_
  refine fg_aloadn (fg_ft (pc := 700) tb_Law_law_6 48 rfl) rfl ?_
  refine fg_iloadn (fg_ft (pc := 701) tb_Law_law_6 49 rfl) rfl ?_
  refine fg_iconst (fg_ft (pc := 702) tb_Law_law_6 50 rfl) ic_1 ?_
  refine fg_iaddN (fg_ft (pc := 703) tb_Law_law_6 51 rfl) ?_
  refine fg_sldN (fg_ft (pc := 704) tb_Law_law_6 52 rfl) (by omega) h4 (hs 1) ?_
  refine fg_aloadn (fg_ft (pc := 705) tb_Law_law_6 53 rfl) rfl ?_
  refine fg_iloadn (fg_ft (pc := 706) tb_Law_law_6 54 rfl) rfl ?_
  refine fg_iconst (fg_ft (pc := 707) tb_Law_law_6 55 rfl) ic_2 ?_
  refine fg_iaddN (fg_ft (pc := 708) tb_Law_law_6 56 rfl) ?_
  refine fg_sldN (fg_ft (pc := 709) tb_Law_law_6 57 rfl) (by omega) h4 (hs 2) ?_
  refine fg_callV (fg_ft (pc := 710) tb_Law_law_6 58 rfl) cf_Law_62 (fg_isOf ly_100 rfl (fg_lt ly_100 (by decide))) (as := [.int (nI (x 1)), .int (nI (x 2))]) (st := []) rfl rfl (Nat.le_of_ble_eq_true rfl) (Nat.le_refl _) (Nat.le_refl _) (ev_Fb_stop hJ.1.1 (hx 1) (hx 2) ?_)
  intro μ1 R1 ag1
  have hJ1 := hJ.Q ag1
  show fg_wp _ _ _ _ _ _ _ _ _ (μ1, fg_rho R1, 304)
  refine fg_aloadn (fg_ft (pc := 713) tb_Law_law_6 59 rfl) rfl ?_
  refine fg_aloadn (fg_ft (pc := 714) tb_Law_law_7 0 rfl) rfl ?_
  refine fg_iloadn (fg_ft (pc := 715) tb_Law_law_7 1 rfl) rfl ?_
  refine fg_iconst (fg_ft (pc := 716) tb_Law_law_7 2 rfl) ic_1 ?_
  refine fg_iaddN (fg_ft (pc := 717) tb_Law_law_7 3 rfl) ?_
  refine fg_sldN (fg_ft (pc := 718) tb_Law_law_7 4 rfl) (by omega) h4 (hs 1) ?_
  refine fg_aloadn (fg_ft (pc := 719) tb_Law_law_7 5 rfl) rfl ?_
  refine fg_iloadn (fg_ft (pc := 720) tb_Law_law_7 6 rfl) rfl ?_
  refine fg_iconst (fg_ft (pc := 721) tb_Law_law_7 7 rfl) ic_2 ?_
  refine fg_iaddN (fg_ft (pc := 722) tb_Law_law_7 8 rfl) ?_
  refine fg_sldN (fg_ft (pc := 723) tb_Law_law_7 9 rfl) (by omega) h4 (hs 2) ?_
  refine fg_callV (fg_ft (pc := 724) tb_Law_law_7 10 rfl) cf_Law_65 (fg_isOf ly_287 rfl (fg_lt ly_287 (by decide))) (as := [.int (nI (x 1)), .int (nI (x 2))]) (st := [.int _]) rfl rfl (Nat.le_of_ble_eq_true rfl) (Nat.le_refl _) (Nat.le_refl _) (ev_Mo_stop hJ1.1.2.1 hJ1.1.1.wA hJ1.2.2.1.1 hJ1.2.2.1.2 (hx 1) (hx 2) ?_)
  intro μ2 ag2
  show fg_wp _ _ _ _ _ _ _ _ _ (μ2, fg_rho R1, 304)
  refine fg_icmp_eq (tgt := 2988) (fg_ft (pc := 727) tb_Law_law_7 11 rfl) (by decide) (fun c727 => ?_) (fun c727 => (absurd rfl c727))
  exact hK μ2 R1 A I (hJ1.R ag2)
theorem lw_k12 {E : fg_E} {d : Nat} {μ : Nat → Nat → Int32} {R : fg_T4} {Q : Option Value → fg_M → Prop} {A : fg_Tl} {I : Nat → fg_Tl} {i : Nat} {x : Nat → Nat} (hi : i + 8 ≤ E.2.2.2.2.2.2) (h4 : E.2.2.2.2.2.2 ≤ 4096) (hx : ∀ j, x j < 2 ^ 32) (hs : ∀ j, E.2.2.2.2.2.1 (i + j) = nI (x j)) (hJ : lw_J μ A I)  (hK : ∀ (μ' : Nat → Nat → Int32) (R' : fg_T4) (A' : fg_Tl) (I' : Nat → fg_Tl), lw_J μ' A' I' → fg_wp E yy_Law_law (d + 13) 100 304 Q 2988 [.ref 99, .ref 100, .ref 287, .int (nI i)] [] (μ', fg_rho R', 304)) : fg_wp E yy_Law_law (d + 13) 100 304 Q 732 [.ref 99, .ref 100, .ref 287, .int (nI i)] [] (μ, fg_rho R, 304) := by
  refine fg_aloadn (fg_ft (pc := 732) tb_Law_law_7 14 rfl) rfl ?_
  refine fg_aloadn (fg_ft (pc := 733) tb_Law_law_7 15 rfl) rfl ?_
  refine fg_iloadn (fg_ft (pc := 734) tb_Law_law_7 16 rfl) rfl ?_
  refine fg_iconst (fg_ft (pc := 735) tb_Law_law_7 17 rfl) ic_1 ?_
  refine fg_iaddN (fg_ft (pc := 736) tb_Law_law_7 18 rfl) ?_
  refine fg_sldN (fg_ft (pc := 737) tb_Law_law_7 19 rfl) (by omega) h4 (hs 1) ?_
  refine fg_aloadn (fg_ft (pc := 738) tb_Law_law_7 20 rfl) rfl ?_
  refine fg_iloadn (fg_ft (pc := 739) tb_Law_law_7 21 rfl) rfl ?_
  refine fg_iconst (fg_ft (pc := 740) tb_Law_law_7 22 rfl) ic_2 ?_
  refine fg_iaddN (fg_ft (pc := 741) tb_Law_law_7 23 rfl) ?_
  refine fg_sldN (fg_ft (pc := 742) tb_Law_law_7 24 rfl) (by omega) h4 (hs 2) ?_
  refine fg_aloadn (fg_ft (pc := 743) tb_Law_law_7 25 rfl) rfl ?_
  refine fg_iloadn (fg_ft (pc := 744) tb_Law_law_7 26 rfl) rfl ?_
  refine fg_iconst (fg_ft (pc := 745) tb_Law_law_7 27 rfl) ic_3 ?_
  refine fg_iaddN (fg_ft (pc := 746) tb_Law_law_7 28 rfl) ?_
  refine fg_sldN (fg_ft (pc := 747) tb_Law_law_7 29 rfl) (by omega) h4 (hs 3) ?_
  refine fg_aloadn (fg_ft (pc := 748) tb_Law_law_7 30 rfl) rfl ?_
  refine fg_iloadn (fg_ft (pc := 749) tb_Law_law_7 31 rfl) rfl ?_
  refine fg_iconst (fg_ft (pc := 750) tb_Law_law_7 32 rfl) ic_4 ?_
  refine fg_iaddN (fg_ft (pc := 751) tb_Law_law_7 33 rfl) ?_
  refine fg_sldN (fg_ft (pc := 752) tb_Law_law_7 34 rfl) (by omega) h4 (hs 4) ?_
  refine fg_callV (fg_ft (pc := 753) tb_Law_law_7 35 rfl) cf_Law_66 (fg_isOf ly_100 rfl (fg_lt ly_100 (by decide))) (as := [.int (nI (x 1)), .int (nI (x 2)), .int (nI (x 3)), .int (nI (x 4))]) (st := []) rfl rfl (Nat.le_of_ble_eq_true rfl) (Nat.le_refl _) (Nat.le_refl _) (ev_Fb_when hJ.1.1 (hx 1) (hx 2) (hx 3) (hx 4) ?_)
  intro μ1 R1 ag1
  have hJ1 := hJ.Q ag1
  show fg_wp _ _ _ _ _ _ _ _ _ (μ1, fg_rho R1, 304)
  refine fg_aloadn (fg_ft (pc := 756) tb_Law_law_7 36 rfl) rfl ?_
  refine fg_aloadn (fg_ft (pc := 757) tb_Law_law_7 37 rfl) rfl ?_
  refine fg_iloadn (fg_ft (pc := 758) tb_Law_law_7 38 rfl) rfl ?_
  refine fg_iconst (fg_ft (pc := 759) tb_Law_law_7 39 rfl) ic_1 ?_
  refine fg_iaddN (fg_ft (pc := 760) tb_Law_law_7 40 rfl) ?_
  refine fg_sldN (fg_ft (pc := 761) tb_Law_law_7 41 rfl) (by omega) h4 (hs 1) ?_
  refine fg_aloadn (fg_ft (pc := 762) tb_Law_law_7 42 rfl) rfl ?_
  refine fg_iloadn (fg_ft (pc := 763) tb_Law_law_7 43 rfl) rfl ?_
  refine fg_iconst (fg_ft (pc := 764) tb_Law_law_7 44 rfl) ic_2 ?_
  refine fg_iaddN (fg_ft (pc := 765) tb_Law_law_7 45 rfl) ?_
  refine fg_sldN (fg_ft (pc := 766) tb_Law_law_7 46 rfl) (by omega) h4 (hs 2) ?_
  refine fg_aloadn (fg_ft (pc := 767) tb_Law_law_7 47 rfl) rfl ?_
  refine fg_iloadn (fg_ft (pc := 768) tb_Law_law_7 48 rfl) rfl ?_
  refine fg_iconst (fg_ft (pc := 769) tb_Law_law_7 49 rfl) ic_3 ?_
  refine fg_iaddN (fg_ft (pc := 770) tb_Law_law_7 50 rfl) ?_
  refine fg_sldN (fg_ft (pc := 771) tb_Law_law_7 51 rfl) (by omega) h4 (hs 3) ?_
  refine fg_aloadn (fg_ft (pc := 772) tb_Law_law_7 52 rfl) rfl ?_
  refine fg_iloadn (fg_ft (pc := 773) tb_Law_law_7 53 rfl) rfl ?_
  refine fg_iconst (fg_ft (pc := 774) tb_Law_law_7 54 rfl) ic_4 ?_
  refine fg_iaddN (fg_ft (pc := 775) tb_Law_law_7 55 rfl) ?_
  refine fg_sldN (fg_ft (pc := 776) tb_Law_law_7 56 rfl) (by omega) h4 (hs 4) ?_
  refine fg_callV (fg_ft (pc := 777) tb_Law_law_7 57 rfl) cf_Law_70 (fg_isOf ly_287 rfl (fg_lt ly_287 (by decide))) (as := [.int (nI (x 1)), .int (nI (x 2)), .int (nI (x 3)), .int (nI (x 4))]) (st := [.int _]) rfl rfl (Nat.le_of_ble_eq_true rfl) (Nat.le_refl _) (Nat.le_refl _) (ev_Mo_when hJ1.1.2.1 hJ1.1.1.wA hJ1.2.2.1.1 hJ1.2.2.1.2 (hx 1) (hx 2) (hx 3) (hx 4) ?_)
  intro μ2 ag2
  show fg_wp _ _ _ _ _ _ _ _ _ (μ2, fg_rho R1, 304)
  refine fg_icmp_eq (tgt := 2988) (fg_ft (pc := 780) tb_Law_law_7 58 rfl) (by decide) (fun c780 => ?_) (fun c780 => (absurd rfl c780))
  exact hK μ2 R1 A I (hJ1.R ag2)
theorem lw_k13 {E : fg_E} {d : Nat} {μ : Nat → Nat → Int32} {R : fg_T4} {Q : Option Value → fg_M → Prop} {A : fg_Tl} {I : Nat → fg_Tl} {i : Nat} {x : Nat → Nat} (hi : i + 8 ≤ E.2.2.2.2.2.2) (h4 : E.2.2.2.2.2.2 ≤ 4096) (hx : ∀ j, x j < 2 ^ 32) (hs : ∀ j, E.2.2.2.2.2.1 (i + j) = nI (x j)) (hJ : lw_J μ A I)  (hK : ∀ (μ' : Nat → Nat → Int32) (R' : fg_T4) (A' : fg_Tl) (I' : Nat → fg_Tl), lw_J μ' A' I' → fg_wp E yy_Law_law (d + 13) 100 304 Q 2988 [.ref 99, .ref 100, .ref 287, .int (nI i)] [] (μ', fg_rho R', 304)) : fg_wp E yy_Law_law (d + 13) 100 304 Q 785 [.ref 99, .ref 100, .ref 287, .int (nI i)] [] (μ, fg_rho R, 304) := by
  refine fg_aloadn (fg_ft (pc := 785) tb_Law_law_8 1 rfl) rfl ?_
  refine fg_aloadn (fg_ft (pc := 786) tb_Law_law_8 2 rfl) rfl ?_
  refine fg_iloadn (fg_ft (pc := 787) tb_Law_law_8 3 rfl) rfl ?_
  refine fg_iconst (fg_ft (pc := 788) tb_Law_law_8 4 rfl) ic_1 ?_
  refine fg_iaddN (fg_ft (pc := 789) tb_Law_law_8 5 rfl) ?_
  refine fg_sldN (fg_ft (pc := 790) tb_Law_law_8 6 rfl) (by omega) h4 (hs 1) ?_
  refine fg_aloadn (fg_ft (pc := 791) tb_Law_law_8 7 rfl) rfl ?_
  refine fg_iloadn (fg_ft (pc := 792) tb_Law_law_8 8 rfl) rfl ?_
  refine fg_iconst (fg_ft (pc := 793) tb_Law_law_8 9 rfl) ic_2 ?_
  refine fg_iaddN (fg_ft (pc := 794) tb_Law_law_8 10 rfl) ?_
  refine fg_sldN (fg_ft (pc := 795) tb_Law_law_8 11 rfl) (by omega) h4 (hs 2) ?_
  refine fg_aloadn (fg_ft (pc := 796) tb_Law_law_8 12 rfl) rfl ?_
  refine fg_iloadn (fg_ft (pc := 797) tb_Law_law_8 13 rfl) rfl ?_
  refine fg_iconst (fg_ft (pc := 798) tb_Law_law_8 14 rfl) ic_3 ?_
  refine fg_iaddN (fg_ft (pc := 799) tb_Law_law_8 15 rfl) ?_
  refine fg_sldN (fg_ft (pc := 800) tb_Law_law_8 16 rfl) (by omega) h4 (hs 3) ?_
  refine fg_aloadn (fg_ft (pc := 801) tb_Law_law_8 17 rfl) rfl ?_
  refine fg_iloadn (fg_ft (pc := 802) tb_Law_law_8 18 rfl) rfl ?_
  refine fg_iconst (fg_ft (pc := 803) tb_Law_law_8 19 rfl) ic_4 ?_
  refine fg_iaddN (fg_ft (pc := 804) tb_Law_law_8 20 rfl) ?_
  refine fg_sldN (fg_ft (pc := 805) tb_Law_law_8 21 rfl) (by omega) h4 (hs 4) ?_
  refine fg_callV (fg_ft (pc := 806) tb_Law_law_8 22 rfl) cf_Law_71 (fg_isOf ly_100 rfl (fg_lt ly_100 (by decide))) (as := [.int (nI (x 1)), .int (nI (x 2)), .int (nI (x 3)), .int (nI (x 4))]) (st := []) rfl rfl (Nat.le_of_ble_eq_true rfl) (Nat.le_refl _) (Nat.le_refl _) (ev_Fb_state hJ.1.1 (hx 1) (hx 2) (hx 3) (hx 4) ?_)
  intro μ1 R1 ag1
  have hJ1 := hJ.Q ag1
  show fg_wp _ _ _ _ _ _ _ _ _ (μ1, fg_rho R1, 304)
  refine fg_aloadn (fg_ft (pc := 809) tb_Law_law_8 23 rfl) rfl ?_
  refine fg_aloadn (fg_ft (pc := 810) tb_Law_law_8 24 rfl) rfl ?_
  refine fg_iloadn (fg_ft (pc := 811) tb_Law_law_8 25 rfl) rfl ?_
  refine fg_iconst (fg_ft (pc := 812) tb_Law_law_8 26 rfl) ic_1 ?_
  refine fg_iaddN (fg_ft (pc := 813) tb_Law_law_8 27 rfl) ?_
  refine fg_sldN (fg_ft (pc := 814) tb_Law_law_8 28 rfl) (by omega) h4 (hs 1) ?_
  refine fg_aloadn (fg_ft (pc := 815) tb_Law_law_8 29 rfl) rfl ?_
  refine fg_iloadn (fg_ft (pc := 816) tb_Law_law_8 30 rfl) rfl ?_
  refine fg_iconst (fg_ft (pc := 817) tb_Law_law_8 31 rfl) ic_2 ?_
  refine fg_iaddN (fg_ft (pc := 818) tb_Law_law_8 32 rfl) ?_
  refine fg_sldN (fg_ft (pc := 819) tb_Law_law_8 33 rfl) (by omega) h4 (hs 2) ?_
  refine fg_aloadn (fg_ft (pc := 820) tb_Law_law_8 34 rfl) rfl ?_
  refine fg_iloadn (fg_ft (pc := 821) tb_Law_law_8 35 rfl) rfl ?_
  refine fg_iconst (fg_ft (pc := 822) tb_Law_law_8 36 rfl) ic_3 ?_
  refine fg_iaddN (fg_ft (pc := 823) tb_Law_law_8 37 rfl) ?_
  refine fg_sldN (fg_ft (pc := 824) tb_Law_law_8 38 rfl) (by omega) h4 (hs 3) ?_
  refine fg_aloadn (fg_ft (pc := 825) tb_Law_law_8 39 rfl) rfl ?_
  refine fg_iloadn (fg_ft (pc := 826) tb_Law_law_8 40 rfl) rfl ?_
  refine fg_iconst (fg_ft (pc := 827) tb_Law_law_8 41 rfl) ic_4 ?_
  refine fg_iaddN (fg_ft (pc := 828) tb_Law_law_8 42 rfl) ?_
  refine fg_sldN (fg_ft (pc := 829) tb_Law_law_8 43 rfl) (by omega) h4 (hs 4) ?_
  refine fg_callV (fg_ft (pc := 830) tb_Law_law_8 44 rfl) cf_Law_74 (fg_isOf ly_287 rfl (fg_lt ly_287 (by decide))) (as := [.int (nI (x 1)), .int (nI (x 2)), .int (nI (x 3)), .int (nI (x 4))]) (st := [.int _]) rfl rfl (Nat.le_of_ble_eq_true rfl) (Nat.le_refl _) (Nat.le_refl _) (ev_Mo_state hJ1.1.2.1 hJ1.1.1.wA hJ1.2.2.1.1 hJ1.2.2.1.2 (hx 1) (hx 2) (hx 3) (hx 4) ?_)
  intro μ2 ag2
  show fg_wp _ _ _ _ _ _ _ _ _ (μ2, fg_rho R1, 304)
  refine fg_icmp_eq (tgt := 2988) (fg_ft (pc := 833) tb_Law_law_8 45 rfl) (by decide) (fun c833 => ?_) (fun c833 => (absurd rfl c833))
  exact hK μ2 R1 A I (hJ1.R ag2)
theorem lw_k14 {E : fg_E} {d : Nat} {μ : Nat → Nat → Int32} {R : fg_T4} {Q : Option Value → fg_M → Prop} {A : fg_Tl} {I : Nat → fg_Tl} {i : Nat} {x : Nat → Nat} (hi : i + 8 ≤ E.2.2.2.2.2.2) (h4 : E.2.2.2.2.2.2 ≤ 4096) (hx : ∀ j, x j < 2 ^ 32) (hs : ∀ j, E.2.2.2.2.2.1 (i + j) = nI (x j)) (hJ : lw_J μ A I)  (hK : ∀ (μ' : Nat → Nat → Int32) (R' : fg_T4) (A' : fg_Tl) (I' : Nat → fg_Tl), lw_J μ' A' I' → fg_wp E yy_Law_law (d + 13) 100 304 Q 2988 [.ref 99, .ref 100, .ref 287, .int (nI i)] [] (μ', fg_rho R', 304)) : fg_wp E yy_Law_law (d + 13) 100 304 Q 838 [.ref 99, .ref 100, .ref 287, .int (nI i)] [] (μ, fg_rho R, 304) := by
  refine fg_aloadn (fg_ft (pc := 838) tb_Law_law_8 48 rfl) rfl ?_
  refine fg_aloadn (fg_ft (pc := 839) tb_Law_law_8 49 rfl) rfl ?_
  refine fg_iloadn (fg_ft (pc := 840) tb_Law_law_8 50 rfl) rfl ?_
  refine fg_iconst (fg_ft (pc := 841) tb_Law_law_8 51 rfl) ic_1 ?_
  refine fg_iaddN (fg_ft (pc := 842) tb_Law_law_8 52 rfl) ?_
  refine fg_sldN (fg_ft (pc := 843) tb_Law_law_8 53 rfl) (by omega) h4 (hs 1) ?_
  refine fg_aloadn (fg_ft (pc := 844) tb_Law_law_8 54 rfl) rfl ?_
  refine fg_iloadn (fg_ft (pc := 845) tb_Law_law_8 55 rfl) rfl ?_
  refine fg_iconst (fg_ft (pc := 846) tb_Law_law_8 56 rfl) ic_2 ?_
  refine fg_iaddN (fg_ft (pc := 847) tb_Law_law_8 57 rfl) ?_
  refine fg_sldN (fg_ft (pc := 848) tb_Law_law_8 58 rfl) (by omega) h4 (hs 2) ?_
  refine fg_aloadn (fg_ft (pc := 849) tb_Law_law_8 59 rfl) rfl ?_
  refine fg_iloadn (fg_ft (pc := 850) tb_Law_law_9 0 rfl) rfl ?_
  refine fg_iconst (fg_ft (pc := 851) tb_Law_law_9 1 rfl) ic_3 ?_
  refine fg_iaddN (fg_ft (pc := 852) tb_Law_law_9 2 rfl) ?_
  refine fg_sldN (fg_ft (pc := 853) tb_Law_law_9 3 rfl) (by omega) h4 (hs 3) ?_
  refine fg_aloadn (fg_ft (pc := 854) tb_Law_law_9 4 rfl) rfl ?_
  refine fg_iloadn (fg_ft (pc := 855) tb_Law_law_9 5 rfl) rfl ?_
  refine fg_iconst (fg_ft (pc := 856) tb_Law_law_9 6 rfl) ic_4 ?_
  refine fg_iaddN (fg_ft (pc := 857) tb_Law_law_9 7 rfl) ?_
  refine fg_sldN (fg_ft (pc := 858) tb_Law_law_9 8 rfl) (by omega) h4 (hs 4) ?_
  refine fg_callV (fg_ft (pc := 859) tb_Law_law_9 9 rfl) cf_Law_75 (fg_isOf ly_100 rfl (fg_lt ly_100 (by decide))) (as := [.int (nI (x 1)), .int (nI (x 2)), .int (nI (x 3)), .int (nI (x 4))]) (st := []) rfl rfl (Nat.le_of_ble_eq_true rfl) (Nat.le_refl _) (Nat.le_refl _) (ev_Fb_evening hJ.1.1 (hx 1) (hx 2) (hx 3) (hx 4) ?_)
  intro μ1 R1 ag1
  have hJ1 := hJ.Q ag1
  show fg_wp _ _ _ _ _ _ _ _ _ (μ1, fg_rho R1, 304)
  refine fg_aloadn (fg_ft (pc := 862) tb_Law_law_9 10 rfl) rfl ?_
  refine fg_aloadn (fg_ft (pc := 863) tb_Law_law_9 11 rfl) rfl ?_
  refine fg_iloadn (fg_ft (pc := 864) tb_Law_law_9 12 rfl) rfl ?_
  refine fg_iconst (fg_ft (pc := 865) tb_Law_law_9 13 rfl) ic_1 ?_
  refine fg_iaddN (fg_ft (pc := 866) tb_Law_law_9 14 rfl) ?_
  refine fg_sldN (fg_ft (pc := 867) tb_Law_law_9 15 rfl) (by omega) h4 (hs 1) ?_
  refine fg_aloadn (fg_ft (pc := 868) tb_Law_law_9 16 rfl) rfl ?_
  refine fg_iloadn (fg_ft (pc := 869) tb_Law_law_9 17 rfl) rfl ?_
  refine fg_iconst (fg_ft (pc := 870) tb_Law_law_9 18 rfl) ic_2 ?_
  refine fg_iaddN (fg_ft (pc := 871) tb_Law_law_9 19 rfl) ?_
  refine fg_sldN (fg_ft (pc := 872) tb_Law_law_9 20 rfl) (by omega) h4 (hs 2) ?_
  refine fg_aloadn (fg_ft (pc := 873) tb_Law_law_9 21 rfl) rfl ?_
  refine fg_iloadn (fg_ft (pc := 874) tb_Law_law_9 22 rfl) rfl ?_
  refine fg_iconst (fg_ft (pc := 875) tb_Law_law_9 23 rfl) ic_3 ?_
  refine fg_iaddN (fg_ft (pc := 876) tb_Law_law_9 24 rfl) ?_
  refine fg_sldN (fg_ft (pc := 877) tb_Law_law_9 25 rfl) (by omega) h4 (hs 3) ?_
  refine fg_aloadn (fg_ft (pc := 878) tb_Law_law_9 26 rfl) rfl ?_
  refine fg_iloadn (fg_ft (pc := 879) tb_Law_law_9 27 rfl) rfl ?_
  refine fg_iconst (fg_ft (pc := 880) tb_Law_law_9 28 rfl) ic_4 ?_
  refine fg_iaddN (fg_ft (pc := 881) tb_Law_law_9 29 rfl) ?_
  refine fg_sldN (fg_ft (pc := 882) tb_Law_law_9 30 rfl) (by omega) h4 (hs 4) ?_
  refine fg_callV (fg_ft (pc := 883) tb_Law_law_9 31 rfl) cf_Law_78 (fg_isOf ly_287 rfl (fg_lt ly_287 (by decide))) (as := [.int (nI (x 1)), .int (nI (x 2)), .int (nI (x 3)), .int (nI (x 4))]) (st := [.int _]) rfl rfl (Nat.le_of_ble_eq_true rfl) (Nat.le_refl _) (Nat.le_refl _) (ev_Mo_evening hJ1.1.2.1 hJ1.1.1.wA hJ1.2.2.1.1 hJ1.2.2.1.2 (hx 1) (hx 2) (hx 3) (hx 4) ?_)
  intro μ2 ag2
  show fg_wp _ _ _ _ _ _ _ _ _ (μ2, fg_rho R1, 304)
  refine fg_icmp_eq (tgt := 2988) (fg_ft (pc := 886) tb_Law_law_9 32 rfl) (by decide) (fun c886 => ?_) (fun c886 => (absurd rfl c886))
  exact hK μ2 R1 A I (hJ1.R ag2)
theorem lw_k15 {E : fg_E} {d : Nat} {μ : Nat → Nat → Int32} {R : fg_T4} {Q : Option Value → fg_M → Prop} {A : fg_Tl} {I : Nat → fg_Tl} {i : Nat} {x : Nat → Nat} (hi : i + 8 ≤ E.2.2.2.2.2.2) (h4 : E.2.2.2.2.2.2 ≤ 4096) (hx : ∀ j, x j < 2 ^ 32) (hs : ∀ j, E.2.2.2.2.2.1 (i + j) = nI (x j)) (hJ : lw_J μ A I)  (hK : ∀ (μ' : Nat → Nat → Int32) (R' : fg_T4) (A' : fg_Tl) (I' : Nat → fg_Tl), lw_J μ' A' I' → fg_wp E yy_Law_law (d + 13) 100 304 Q 2988 [.ref 99, .ref 100, .ref 287, .int (nI i)] [] (μ', fg_rho R', 304)) : fg_wp E yy_Law_law (d + 13) 100 304 Q 891 [.ref 99, .ref 100, .ref 287, .int (nI i)] [] (μ, fg_rho R, 304) := by
  refine fg_aloadn (fg_ft (pc := 891) tb_Law_law_9 35 rfl) rfl ?_
  refine fg_aloadn (fg_ft (pc := 892) tb_Law_law_9 36 rfl) rfl ?_
  refine fg_iloadn (fg_ft (pc := 893) tb_Law_law_9 37 rfl) rfl ?_
  refine fg_iconst (fg_ft (pc := 894) tb_Law_law_9 38 rfl) ic_1 ?_
  refine fg_iaddN (fg_ft (pc := 895) tb_Law_law_9 39 rfl) ?_
  refine fg_sldN (fg_ft (pc := 896) tb_Law_law_9 40 rfl) (by omega) h4 (hs 1) ?_
  refine fg_aloadn (fg_ft (pc := 897) tb_Law_law_9 41 rfl) rfl ?_
  refine fg_iloadn (fg_ft (pc := 898) tb_Law_law_9 42 rfl) rfl ?_
  refine fg_iconst (fg_ft (pc := 899) tb_Law_law_9 43 rfl) ic_2 ?_
  refine fg_iaddN (fg_ft (pc := 900) tb_Law_law_9 44 rfl) ?_
  refine fg_sldN (fg_ft (pc := 901) tb_Law_law_9 45 rfl) (by omega) h4 (hs 2) ?_
  refine fg_aloadn (fg_ft (pc := 902) tb_Law_law_9 46 rfl) rfl ?_
  refine fg_iloadn (fg_ft (pc := 903) tb_Law_law_9 47 rfl) rfl ?_
  refine fg_iconst (fg_ft (pc := 904) tb_Law_law_9 48 rfl) ic_3 ?_
  refine fg_iaddN (fg_ft (pc := 905) tb_Law_law_9 49 rfl) ?_
  refine fg_sldN (fg_ft (pc := 906) tb_Law_law_9 50 rfl) (by omega) h4 (hs 3) ?_
  refine fg_aloadn (fg_ft (pc := 907) tb_Law_law_9 51 rfl) rfl ?_
  refine fg_iloadn (fg_ft (pc := 908) tb_Law_law_9 52 rfl) rfl ?_
  refine fg_iconst (fg_ft (pc := 909) tb_Law_law_9 53 rfl) ic_4 ?_
  refine fg_iaddN (fg_ft (pc := 910) tb_Law_law_9 54 rfl) ?_
  refine fg_sldN (fg_ft (pc := 911) tb_Law_law_9 55 rfl) (by omega) h4 (hs 4) ?_
  refine fg_aloadn (fg_ft (pc := 912) tb_Law_law_9 56 rfl) rfl ?_
  refine fg_iloadn (fg_ft (pc := 913) tb_Law_law_9 57 rfl) rfl ?_
  refine fg_iconst (fg_ft (pc := 914) tb_Law_law_9 58 rfl) ic_5 ?_
  refine fg_iaddN (fg_ft (pc := 915) tb_Law_law_9 59 rfl) ?_
  refine fg_sldN (fg_ft (pc := 916) tb_Law_law_10 0 rfl) (by omega) h4 (hs 5) ?_
  refine fg_callV (fg_ft (pc := 917) tb_Law_law_10 1 rfl) cf_Law_79 (fg_isOf ly_100 rfl (fg_lt ly_100 (by decide))) (as := [.int (nI (x 1)), .int (nI (x 2)), .int (nI (x 3)), .int (nI (x 4)), .int (nI (x 5))]) (st := []) rfl rfl (Nat.le_of_ble_eq_true rfl) (Nat.le_refl _) (Nat.le_refl _) (ev_Fb_worth hJ.1.1 (hx 1) (hx 2) (hx 3) (hx 4) (hx 5) ?_)
  intro μ1 R1 ag1
  have hJ1 := hJ.Q ag1
  show fg_wp _ _ _ _ _ _ _ _ _ (μ1, fg_rho R1, 304)
  refine fg_aloadn (fg_ft (pc := 920) tb_Law_law_10 2 rfl) rfl ?_
  refine fg_aloadn (fg_ft (pc := 921) tb_Law_law_10 3 rfl) rfl ?_
  refine fg_iloadn (fg_ft (pc := 922) tb_Law_law_10 4 rfl) rfl ?_
  refine fg_iconst (fg_ft (pc := 923) tb_Law_law_10 5 rfl) ic_1 ?_
  refine fg_iaddN (fg_ft (pc := 924) tb_Law_law_10 6 rfl) ?_
  refine fg_sldN (fg_ft (pc := 925) tb_Law_law_10 7 rfl) (by omega) h4 (hs 1) ?_
  refine fg_aloadn (fg_ft (pc := 926) tb_Law_law_10 8 rfl) rfl ?_
  refine fg_iloadn (fg_ft (pc := 927) tb_Law_law_10 9 rfl) rfl ?_
  refine fg_iconst (fg_ft (pc := 928) tb_Law_law_10 10 rfl) ic_2 ?_
  refine fg_iaddN (fg_ft (pc := 929) tb_Law_law_10 11 rfl) ?_
  refine fg_sldN (fg_ft (pc := 930) tb_Law_law_10 12 rfl) (by omega) h4 (hs 2) ?_
  refine fg_aloadn (fg_ft (pc := 931) tb_Law_law_10 13 rfl) rfl ?_
  refine fg_iloadn (fg_ft (pc := 932) tb_Law_law_10 14 rfl) rfl ?_
  refine fg_iconst (fg_ft (pc := 933) tb_Law_law_10 15 rfl) ic_3 ?_
  refine fg_iaddN (fg_ft (pc := 934) tb_Law_law_10 16 rfl) ?_
  refine fg_sldN (fg_ft (pc := 935) tb_Law_law_10 17 rfl) (by omega) h4 (hs 3) ?_
  refine fg_aloadn (fg_ft (pc := 936) tb_Law_law_10 18 rfl) rfl ?_
  refine fg_iloadn (fg_ft (pc := 937) tb_Law_law_10 19 rfl) rfl ?_
  refine fg_iconst (fg_ft (pc := 938) tb_Law_law_10 20 rfl) ic_4 ?_
  refine fg_iaddN (fg_ft (pc := 939) tb_Law_law_10 21 rfl) ?_
  refine fg_sldN (fg_ft (pc := 940) tb_Law_law_10 22 rfl) (by omega) h4 (hs 4) ?_
  refine fg_aloadn (fg_ft (pc := 941) tb_Law_law_10 23 rfl) rfl ?_
  refine fg_iloadn (fg_ft (pc := 942) tb_Law_law_10 24 rfl) rfl ?_
  refine fg_iconst (fg_ft (pc := 943) tb_Law_law_10 25 rfl) ic_5 ?_
  refine fg_iaddN (fg_ft (pc := 944) tb_Law_law_10 26 rfl) ?_
  refine fg_sldN (fg_ft (pc := 945) tb_Law_law_10 27 rfl) (by omega) h4 (hs 5) ?_
  refine fg_callV (fg_ft (pc := 946) tb_Law_law_10 28 rfl) cf_Law_82 (fg_isOf ly_287 rfl (fg_lt ly_287 (by decide))) (as := [.int (nI (x 1)), .int (nI (x 2)), .int (nI (x 3)), .int (nI (x 4)), .int (nI (x 5))]) (st := [.int _]) rfl rfl (Nat.le_of_ble_eq_true rfl) (Nat.le_refl _) (Nat.le_refl _) (ev_Mo_worth hJ1.1.2.1 hJ1.1.1.wA hJ1.2.2.1.1 hJ1.2.2.1.2 (hx 1) (hx 2) (hx 3) (hx 4) (hx 5) ?_)
  intro μ2 ag2
  show fg_wp _ _ _ _ _ _ _ _ _ (μ2, fg_rho R1, 304)
  refine fg_icmp_eq (tgt := 2988) (fg_ft (pc := 949) tb_Law_law_10 29 rfl) (by decide) (fun c949 => ?_) (fun c949 => (absurd rfl c949))
  exact hK μ2 R1 A I (hJ1.R ag2)
theorem lw_k16 {E : fg_E} {d : Nat} {μ : Nat → Nat → Int32} {R : fg_T4} {Q : Option Value → fg_M → Prop} {A : fg_Tl} {I : Nat → fg_Tl} {i : Nat} {x : Nat → Nat} (hi : i + 8 ≤ E.2.2.2.2.2.2) (h4 : E.2.2.2.2.2.2 ≤ 4096) (hx : ∀ j, x j < 2 ^ 32) (hs : ∀ j, E.2.2.2.2.2.1 (i + j) = nI (x j)) (hJ : lw_J μ A I)  (hK : ∀ (μ' : Nat → Nat → Int32) (R' : fg_T4) (A' : fg_Tl) (I' : Nat → fg_Tl), lw_J μ' A' I' → fg_wp E yy_Law_law (d + 13) 100 304 Q 2988 [.ref 99, .ref 100, .ref 287, .int (nI i)] [] (μ', fg_rho R', 304)) : fg_wp E yy_Law_law (d + 13) 100 304 Q 954 [.ref 99, .ref 100, .ref 287, .int (nI i)] [] (μ, fg_rho R, 304) := by
  refine fg_aloadn (fg_ft (pc := 954) tb_Law_law_10 32 rfl) rfl ?_
  refine fg_aloadn (fg_ft (pc := 955) tb_Law_law_10 33 rfl) rfl ?_
  refine fg_iloadn (fg_ft (pc := 956) tb_Law_law_10 34 rfl) rfl ?_
  refine fg_iconst (fg_ft (pc := 957) tb_Law_law_10 35 rfl) ic_1 ?_
  refine fg_iaddN (fg_ft (pc := 958) tb_Law_law_10 36 rfl) ?_
  refine fg_sldN (fg_ft (pc := 959) tb_Law_law_10 37 rfl) (by omega) h4 (hs 1) ?_
  refine fg_aloadn (fg_ft (pc := 960) tb_Law_law_10 38 rfl) rfl ?_
  refine fg_iloadn (fg_ft (pc := 961) tb_Law_law_10 39 rfl) rfl ?_
  refine fg_iconst (fg_ft (pc := 962) tb_Law_law_10 40 rfl) ic_2 ?_
  refine fg_iaddN (fg_ft (pc := 963) tb_Law_law_10 41 rfl) ?_
  refine fg_sldN (fg_ft (pc := 964) tb_Law_law_10 42 rfl) (by omega) h4 (hs 2) ?_
  refine fg_aloadn (fg_ft (pc := 965) tb_Law_law_10 43 rfl) rfl ?_
  refine fg_iloadn (fg_ft (pc := 966) tb_Law_law_10 44 rfl) rfl ?_
  refine fg_iconst (fg_ft (pc := 967) tb_Law_law_10 45 rfl) ic_3 ?_
  refine fg_iaddN (fg_ft (pc := 968) tb_Law_law_10 46 rfl) ?_
  refine fg_sldN (fg_ft (pc := 969) tb_Law_law_10 47 rfl) (by omega) h4 (hs 3) ?_
  refine fg_aloadn (fg_ft (pc := 970) tb_Law_law_10 48 rfl) rfl ?_
  refine fg_iloadn (fg_ft (pc := 971) tb_Law_law_10 49 rfl) rfl ?_
  refine fg_iconst (fg_ft (pc := 972) tb_Law_law_10 50 rfl) ic_4 ?_
  refine fg_iaddN (fg_ft (pc := 973) tb_Law_law_10 51 rfl) ?_
  refine fg_sldN (fg_ft (pc := 974) tb_Law_law_10 52 rfl) (by omega) h4 (hs 4) ?_
  refine fg_aloadn (fg_ft (pc := 975) tb_Law_law_10 53 rfl) rfl ?_
  refine fg_iloadn (fg_ft (pc := 976) tb_Law_law_10 54 rfl) rfl ?_
  refine fg_iconst (fg_ft (pc := 977) tb_Law_law_10 55 rfl) ic_5 ?_
  refine fg_iaddN (fg_ft (pc := 978) tb_Law_law_10 56 rfl) ?_
  refine fg_sldN (fg_ft (pc := 979) tb_Law_law_10 57 rfl) (by omega) h4 (hs 5) ?_
  refine fg_aloadn (fg_ft (pc := 980) tb_Law_law_10 58 rfl) rfl ?_
  refine fg_iloadn (fg_ft (pc := 981) tb_Law_law_10 59 rfl) rfl ?_
  refine fg_bipush (fg_ft (pc := 982) tb_Law_law_11 0 rfl) ib_6 ?_
  refine fg_iaddN (fg_ft (pc := 984) tb_Law_law_11 1 rfl) ?_
  refine fg_sldN (fg_ft (pc := 985) tb_Law_law_11 2 rfl) (by omega) h4 (hs 6) ?_
  refine fg_callV (fg_ft (pc := 986) tb_Law_law_11 3 rfl) cf_Law_83 (fg_isOf ly_100 rfl (fg_lt ly_100 (by decide))) (as := [.int (nI (x 1)), .int (nI (x 2)), .int (nI (x 3)), .int (nI (x 4)), .int (nI (x 5)), .int (nI (x 6))]) (st := []) rfl rfl (Nat.le_of_ble_eq_true rfl) (Nat.le_refl _) (Nat.le_refl _) (ev_Fb_gone hJ.1.1 (hx 1) (hx 2) (hx 3) (hx 4) (hx 5) (hx 6) ?_)
  intro μ1 R1 ag1
  have hJ1 := hJ.Q ag1
  show fg_wp _ _ _ _ _ _ _ _ _ (μ1, fg_rho R1, 304)
  refine fg_aloadn (fg_ft (pc := 989) tb_Law_law_11 4 rfl) rfl ?_
  refine fg_aloadn (fg_ft (pc := 990) tb_Law_law_11 5 rfl) rfl ?_
  refine fg_iloadn (fg_ft (pc := 991) tb_Law_law_11 6 rfl) rfl ?_
  refine fg_iconst (fg_ft (pc := 992) tb_Law_law_11 7 rfl) ic_1 ?_
  refine fg_iaddN (fg_ft (pc := 993) tb_Law_law_11 8 rfl) ?_
  refine fg_sldN (fg_ft (pc := 994) tb_Law_law_11 9 rfl) (by omega) h4 (hs 1) ?_
  refine fg_aloadn (fg_ft (pc := 995) tb_Law_law_11 10 rfl) rfl ?_
  refine fg_iloadn (fg_ft (pc := 996) tb_Law_law_11 11 rfl) rfl ?_
  refine fg_iconst (fg_ft (pc := 997) tb_Law_law_11 12 rfl) ic_2 ?_
  refine fg_iaddN (fg_ft (pc := 998) tb_Law_law_11 13 rfl) ?_
  refine fg_sldN (fg_ft (pc := 999) tb_Law_law_11 14 rfl) (by omega) h4 (hs 2) ?_
  refine fg_aloadn (fg_ft (pc := 1000) tb_Law_law_11 15 rfl) rfl ?_
  refine fg_iloadn (fg_ft (pc := 1001) tb_Law_law_11 16 rfl) rfl ?_
  refine fg_iconst (fg_ft (pc := 1002) tb_Law_law_11 17 rfl) ic_3 ?_
  refine fg_iaddN (fg_ft (pc := 1003) tb_Law_law_11 18 rfl) ?_
  refine fg_sldN (fg_ft (pc := 1004) tb_Law_law_11 19 rfl) (by omega) h4 (hs 3) ?_
  refine fg_aloadn (fg_ft (pc := 1005) tb_Law_law_11 20 rfl) rfl ?_
  refine fg_iloadn (fg_ft (pc := 1006) tb_Law_law_11 21 rfl) rfl ?_
  refine fg_iconst (fg_ft (pc := 1007) tb_Law_law_11 22 rfl) ic_4 ?_
  refine fg_iaddN (fg_ft (pc := 1008) tb_Law_law_11 23 rfl) ?_
  refine fg_sldN (fg_ft (pc := 1009) tb_Law_law_11 24 rfl) (by omega) h4 (hs 4) ?_
  refine fg_aloadn (fg_ft (pc := 1010) tb_Law_law_11 25 rfl) rfl ?_
  refine fg_iloadn (fg_ft (pc := 1011) tb_Law_law_11 26 rfl) rfl ?_
  refine fg_iconst (fg_ft (pc := 1012) tb_Law_law_11 27 rfl) ic_5 ?_
  refine fg_iaddN (fg_ft (pc := 1013) tb_Law_law_11 28 rfl) ?_
  refine fg_sldN (fg_ft (pc := 1014) tb_Law_law_11 29 rfl) (by omega) h4 (hs 5) ?_
  refine fg_aloadn (fg_ft (pc := 1015) tb_Law_law_11 30 rfl) rfl ?_
  refine fg_iloadn (fg_ft (pc := 1016) tb_Law_law_11 31 rfl) rfl ?_
  refine fg_bipush (fg_ft (pc := 1017) tb_Law_law_11 32 rfl) ib_6 ?_
  refine fg_iaddN (fg_ft (pc := 1019) tb_Law_law_11 33 rfl) ?_
  refine fg_sldN (fg_ft (pc := 1020) tb_Law_law_11 34 rfl) (by omega) h4 (hs 6) ?_
  refine fg_callV (fg_ft (pc := 1021) tb_Law_law_11 35 rfl) cf_Law_87 (fg_isOf ly_287 rfl (fg_lt ly_287 (by decide))) (as := [.int (nI (x 1)), .int (nI (x 2)), .int (nI (x 3)), .int (nI (x 4)), .int (nI (x 5)), .int (nI (x 6))]) (st := [.int _]) rfl rfl (Nat.le_of_ble_eq_true rfl) (Nat.le_refl _) (Nat.le_refl _) (ev_Mo_gone hJ1.1.2.1 hJ1.1.1.wA hJ1.2.2.1.1 hJ1.2.2.1.2 (hx 1) (hx 2) (hx 3) (hx 4) (hx 5) (hx 6) ?_)
  intro μ2 ag2
  show fg_wp _ _ _ _ _ _ _ _ _ (μ2, fg_rho R1, 304)
  refine fg_icmp_eq (tgt := 2988) (fg_ft (pc := 1024) tb_Law_law_11 36 rfl) (by decide) (fun c1024 => ?_) (fun c1024 => (absurd rfl c1024))
  exact hK μ2 R1 A I (hJ1.R ag2)
theorem lw_k17 {E : fg_E} {d : Nat} {μ : Nat → Nat → Int32} {R : fg_T4} {Q : Option Value → fg_M → Prop} {A : fg_Tl} {I : Nat → fg_Tl} {i : Nat} {x : Nat → Nat} (hi : i + 8 ≤ E.2.2.2.2.2.2) (h4 : E.2.2.2.2.2.2 ≤ 4096) (hx : ∀ j, x j < 2 ^ 32) (hs : ∀ j, E.2.2.2.2.2.1 (i + j) = nI (x j)) (hJ : lw_J μ A I)  (hK : ∀ (μ' : Nat → Nat → Int32) (R' : fg_T4) (A' : fg_Tl) (I' : Nat → fg_Tl), lw_J μ' A' I' → fg_wp E yy_Law_law (d + 13) 100 304 Q 2988 [.ref 99, .ref 100, .ref 287, .int (nI i)] [] (μ', fg_rho R', 304)) : fg_wp E yy_Law_law (d + 13) 100 304 Q 1029 [.ref 99, .ref 100, .ref 287, .int (nI i)] [] (μ, fg_rho R, 304) := by
  refine fg_aloadn (fg_ft (pc := 1029) tb_Law_law_11 39 rfl) rfl ?_
  refine fg_aloadn (fg_ft (pc := 1030) tb_Law_law_11 40 rfl) rfl ?_
  refine fg_iloadn (fg_ft (pc := 1031) tb_Law_law_11 41 rfl) rfl ?_
  refine fg_iconst (fg_ft (pc := 1032) tb_Law_law_11 42 rfl) ic_1 ?_
  refine fg_iaddN (fg_ft (pc := 1033) tb_Law_law_11 43 rfl) ?_
  refine fg_sldN (fg_ft (pc := 1034) tb_Law_law_11 44 rfl) (by omega) h4 (hs 1) ?_
  refine fg_aloadn (fg_ft (pc := 1035) tb_Law_law_11 45 rfl) rfl ?_
  refine fg_iloadn (fg_ft (pc := 1036) tb_Law_law_11 46 rfl) rfl ?_
  refine fg_iconst (fg_ft (pc := 1037) tb_Law_law_11 47 rfl) ic_2 ?_
  refine fg_iaddN (fg_ft (pc := 1038) tb_Law_law_11 48 rfl) ?_
  refine fg_sldN (fg_ft (pc := 1039) tb_Law_law_11 49 rfl) (by omega) h4 (hs 2) ?_
  refine fg_aloadn (fg_ft (pc := 1040) tb_Law_law_11 50 rfl) rfl ?_
  refine fg_iloadn (fg_ft (pc := 1041) tb_Law_law_11 51 rfl) rfl ?_
  refine fg_iconst (fg_ft (pc := 1042) tb_Law_law_11 52 rfl) ic_3 ?_
  refine fg_iaddN (fg_ft (pc := 1043) tb_Law_law_11 53 rfl) ?_
  refine fg_sldN (fg_ft (pc := 1044) tb_Law_law_11 54 rfl) (by omega) h4 (hs 3) ?_
  refine fg_aloadn (fg_ft (pc := 1045) tb_Law_law_11 55 rfl) rfl ?_
  refine fg_iloadn (fg_ft (pc := 1046) tb_Law_law_11 56 rfl) rfl ?_
  refine fg_iconst (fg_ft (pc := 1047) tb_Law_law_11 57 rfl) ic_4 ?_
  refine fg_iaddN (fg_ft (pc := 1048) tb_Law_law_11 58 rfl) ?_
  refine fg_sldN (fg_ft (pc := 1049) tb_Law_law_11 59 rfl) (by omega) h4 (hs 4) ?_
  refine fg_aloadn (fg_ft (pc := 1050) tb_Law_law_12 0 rfl) rfl ?_
  refine fg_iloadn (fg_ft (pc := 1051) tb_Law_law_12 1 rfl) rfl ?_
  refine fg_iconst (fg_ft (pc := 1052) tb_Law_law_12 2 rfl) ic_5 ?_
  refine fg_iaddN (fg_ft (pc := 1053) tb_Law_law_12 3 rfl) ?_
  refine fg_sldN (fg_ft (pc := 1054) tb_Law_law_12 4 rfl) (by omega) h4 (hs 5) ?_
  refine fg_aloadn (fg_ft (pc := 1055) tb_Law_law_12 5 rfl) rfl ?_
  refine fg_iloadn (fg_ft (pc := 1056) tb_Law_law_12 6 rfl) rfl ?_
  refine fg_bipush (fg_ft (pc := 1057) tb_Law_law_12 7 rfl) ib_6 ?_
  refine fg_iaddN (fg_ft (pc := 1059) tb_Law_law_12 8 rfl) ?_
  refine fg_sldN (fg_ft (pc := 1060) tb_Law_law_12 9 rfl) (by omega) h4 (hs 6) ?_
  refine fg_callV (fg_ft (pc := 1061) tb_Law_law_12 10 rfl) cf_Law_88 (fg_isOf ly_100 rfl (fg_lt ly_100 (by decide))) (as := [.int (nI (x 1)), .int (nI (x 2)), .int (nI (x 3)), .int (nI (x 4)), .int (nI (x 5)), .int (nI (x 6))]) (st := []) rfl rfl (Nat.le_of_ble_eq_true rfl) (Nat.le_refl _) (Nat.le_refl _) (ev_Fb_keeps hJ.1.1 (hx 1) (hx 2) (hx 3) (hx 4) (hx 5) (hx 6) ?_)
  intro μ1 R1 ag1
  have hJ1 := hJ.Q ag1
  show fg_wp _ _ _ _ _ _ _ _ _ (μ1, fg_rho R1, 304)
  refine fg_aloadn (fg_ft (pc := 1064) tb_Law_law_12 11 rfl) rfl ?_
  refine fg_aloadn (fg_ft (pc := 1065) tb_Law_law_12 12 rfl) rfl ?_
  refine fg_iloadn (fg_ft (pc := 1066) tb_Law_law_12 13 rfl) rfl ?_
  refine fg_iconst (fg_ft (pc := 1067) tb_Law_law_12 14 rfl) ic_1 ?_
  refine fg_iaddN (fg_ft (pc := 1068) tb_Law_law_12 15 rfl) ?_
  refine fg_sldN (fg_ft (pc := 1069) tb_Law_law_12 16 rfl) (by omega) h4 (hs 1) ?_
  refine fg_aloadn (fg_ft (pc := 1070) tb_Law_law_12 17 rfl) rfl ?_
  refine fg_iloadn (fg_ft (pc := 1071) tb_Law_law_12 18 rfl) rfl ?_
  refine fg_iconst (fg_ft (pc := 1072) tb_Law_law_12 19 rfl) ic_2 ?_
  refine fg_iaddN (fg_ft (pc := 1073) tb_Law_law_12 20 rfl) ?_
  refine fg_sldN (fg_ft (pc := 1074) tb_Law_law_12 21 rfl) (by omega) h4 (hs 2) ?_
  refine fg_aloadn (fg_ft (pc := 1075) tb_Law_law_12 22 rfl) rfl ?_
  refine fg_iloadn (fg_ft (pc := 1076) tb_Law_law_12 23 rfl) rfl ?_
  refine fg_iconst (fg_ft (pc := 1077) tb_Law_law_12 24 rfl) ic_3 ?_
  refine fg_iaddN (fg_ft (pc := 1078) tb_Law_law_12 25 rfl) ?_
  refine fg_sldN (fg_ft (pc := 1079) tb_Law_law_12 26 rfl) (by omega) h4 (hs 3) ?_
  refine fg_aloadn (fg_ft (pc := 1080) tb_Law_law_12 27 rfl) rfl ?_
  refine fg_iloadn (fg_ft (pc := 1081) tb_Law_law_12 28 rfl) rfl ?_
  refine fg_iconst (fg_ft (pc := 1082) tb_Law_law_12 29 rfl) ic_4 ?_
  refine fg_iaddN (fg_ft (pc := 1083) tb_Law_law_12 30 rfl) ?_
  refine fg_sldN (fg_ft (pc := 1084) tb_Law_law_12 31 rfl) (by omega) h4 (hs 4) ?_
  refine fg_aloadn (fg_ft (pc := 1085) tb_Law_law_12 32 rfl) rfl ?_
  refine fg_iloadn (fg_ft (pc := 1086) tb_Law_law_12 33 rfl) rfl ?_
  refine fg_iconst (fg_ft (pc := 1087) tb_Law_law_12 34 rfl) ic_5 ?_
  refine fg_iaddN (fg_ft (pc := 1088) tb_Law_law_12 35 rfl) ?_
  refine fg_sldN (fg_ft (pc := 1089) tb_Law_law_12 36 rfl) (by omega) h4 (hs 5) ?_
  refine fg_aloadn (fg_ft (pc := 1090) tb_Law_law_12 37 rfl) rfl ?_
  refine fg_iloadn (fg_ft (pc := 1091) tb_Law_law_12 38 rfl) rfl ?_
  refine fg_bipush (fg_ft (pc := 1092) tb_Law_law_12 39 rfl) ib_6 ?_
  refine fg_iaddN (fg_ft (pc := 1094) tb_Law_law_12 40 rfl) ?_
  refine fg_sldN (fg_ft (pc := 1095) tb_Law_law_12 41 rfl) (by omega) h4 (hs 6) ?_
  refine fg_callV (fg_ft (pc := 1096) tb_Law_law_12 42 rfl) cf_Law_91 (fg_isOf ly_287 rfl (fg_lt ly_287 (by decide))) (as := [.int (nI (x 1)), .int (nI (x 2)), .int (nI (x 3)), .int (nI (x 4)), .int (nI (x 5)), .int (nI (x 6))]) (st := [.int _]) rfl rfl (Nat.le_of_ble_eq_true rfl) (Nat.le_refl _) (Nat.le_refl _) (ev_Mo_keeps hJ1.1.2.1 hJ1.1.1.wA hJ1.2.2.1.1 hJ1.2.2.1.2 (hx 1) (hx 2) (hx 3) (hx 4) (hx 5) (hx 6) ?_)
  intro μ2 ag2
  show fg_wp _ _ _ _ _ _ _ _ _ (μ2, fg_rho R1, 304)
  refine fg_icmp_eq (tgt := 2988) (fg_ft (pc := 1099) tb_Law_law_12 43 rfl) (by decide) (fun c1099 => ?_) (fun c1099 => (absurd rfl c1099))
  exact hK μ2 R1 A I (hJ1.R ag2)
theorem lw_k18 {E : fg_E} {d : Nat} {μ : Nat → Nat → Int32} {R : fg_T4} {Q : Option Value → fg_M → Prop} {A : fg_Tl} {I : Nat → fg_Tl} {i : Nat} {x : Nat → Nat} (hi : i + 8 ≤ E.2.2.2.2.2.2) (h4 : E.2.2.2.2.2.2 ≤ 4096) (hx : ∀ j, x j < 2 ^ 32) (hs : ∀ j, E.2.2.2.2.2.1 (i + j) = nI (x j)) (hJ : lw_J μ A I)  (hK : ∀ (μ' : Nat → Nat → Int32) (R' : fg_T4) (A' : fg_Tl) (I' : Nat → fg_Tl), lw_J μ' A' I' → fg_wp E yy_Law_law (d + 13) 100 304 Q 2988 [.ref 99, .ref 100, .ref 287, .int (nI i)] [] (μ', fg_rho R', 304)) : fg_wp E yy_Law_law (d + 13) 100 304 Q 1104 [.ref 99, .ref 100, .ref 287, .int (nI i)] [] (μ, fg_rho R, 304) := by
  refine fg_aloadn (fg_ft (pc := 1104) tb_Law_law_12 46 rfl) rfl ?_
  refine fg_aloadn (fg_ft (pc := 1105) tb_Law_law_12 47 rfl) rfl ?_
  refine fg_iloadn (fg_ft (pc := 1106) tb_Law_law_12 48 rfl) rfl ?_
  refine fg_iconst (fg_ft (pc := 1107) tb_Law_law_12 49 rfl) ic_1 ?_
  refine fg_iaddN (fg_ft (pc := 1108) tb_Law_law_12 50 rfl) ?_
  refine fg_sldN (fg_ft (pc := 1109) tb_Law_law_12 51 rfl) (by omega) h4 (hs 1) ?_
  refine fg_aloadn (fg_ft (pc := 1110) tb_Law_law_12 52 rfl) rfl ?_
  refine fg_iloadn (fg_ft (pc := 1111) tb_Law_law_12 53 rfl) rfl ?_
  refine fg_iconst (fg_ft (pc := 1112) tb_Law_law_12 54 rfl) ic_2 ?_
  refine fg_iaddN (fg_ft (pc := 1113) tb_Law_law_12 55 rfl) ?_
  refine fg_sldN (fg_ft (pc := 1114) tb_Law_law_12 56 rfl) (by omega) h4 (hs 2) ?_
  refine fg_aloadn (fg_ft (pc := 1115) tb_Law_law_12 57 rfl) rfl ?_
  refine fg_iloadn (fg_ft (pc := 1116) tb_Law_law_12 58 rfl) rfl ?_
  refine fg_iconst (fg_ft (pc := 1117) tb_Law_law_12 59 rfl) ic_3 ?_
  refine fg_iaddN (fg_ft (pc := 1118) tb_Law_law_13 0 rfl) ?_
  refine fg_sldN (fg_ft (pc := 1119) tb_Law_law_13 1 rfl) (by omega) h4 (hs 3) ?_
  refine fg_aloadn (fg_ft (pc := 1120) tb_Law_law_13 2 rfl) rfl ?_
  refine fg_iloadn (fg_ft (pc := 1121) tb_Law_law_13 3 rfl) rfl ?_
  refine fg_iconst (fg_ft (pc := 1122) tb_Law_law_13 4 rfl) ic_4 ?_
  refine fg_iaddN (fg_ft (pc := 1123) tb_Law_law_13 5 rfl) ?_
  refine fg_sldN (fg_ft (pc := 1124) tb_Law_law_13 6 rfl) (by omega) h4 (hs 4) ?_
  refine fg_aloadn (fg_ft (pc := 1125) tb_Law_law_13 7 rfl) rfl ?_
  refine fg_iloadn (fg_ft (pc := 1126) tb_Law_law_13 8 rfl) rfl ?_
  refine fg_iconst (fg_ft (pc := 1127) tb_Law_law_13 9 rfl) ic_5 ?_
  refine fg_iaddN (fg_ft (pc := 1128) tb_Law_law_13 10 rfl) ?_
  refine fg_sldN (fg_ft (pc := 1129) tb_Law_law_13 11 rfl) (by omega) h4 (hs 5) ?_
  refine fg_aloadn (fg_ft (pc := 1130) tb_Law_law_13 12 rfl) rfl ?_
  refine fg_iloadn (fg_ft (pc := 1131) tb_Law_law_13 13 rfl) rfl ?_
  refine fg_bipush (fg_ft (pc := 1132) tb_Law_law_13 14 rfl) ib_6 ?_
  refine fg_iaddN (fg_ft (pc := 1134) tb_Law_law_13 15 rfl) ?_
  refine fg_sldN (fg_ft (pc := 1135) tb_Law_law_13 16 rfl) (by omega) h4 (hs 6) ?_
  refine fg_aloadn (fg_ft (pc := 1136) tb_Law_law_13 17 rfl) rfl ?_
  refine fg_iloadn (fg_ft (pc := 1137) tb_Law_law_13 18 rfl) rfl ?_
  refine fg_bipush (fg_ft (pc := 1138) tb_Law_law_13 19 rfl) ib_7 ?_
  refine fg_iaddN (fg_ft (pc := 1140) tb_Law_law_13 20 rfl) ?_
  refine fg_sldN (fg_ft (pc := 1141) tb_Law_law_13 21 rfl) (by omega) h4 (hs 7) ?_
  refine fg_callV (fg_ft (pc := 1142) tb_Law_law_13 22 rfl) cf_Law_92 (fg_isOf ly_100 rfl (fg_lt ly_100 (by decide))) (as := [.int (nI (x 1)), .int (nI (x 2)), .int (nI (x 3)), .int (nI (x 4)), .int (nI (x 5)), .int (nI (x 6)), .int (nI (x 7))]) (st := []) rfl rfl (Nat.le_of_ble_eq_true rfl) (Nat.le_refl _) (Nat.le_refl _) (ev_Fb_row hJ.1.1 (hx 1) (hx 2) (hx 3) (hx 4) (hx 5) (hx 6) ?_)
  intro μ1 R1 ag1
  have hJ1 := hJ.Q ag1
  show fg_wp _ _ _ _ _ _ _ _ _ (μ1, fg_rho R1, 304)
  refine fg_aloadn (fg_ft (pc := 1145) tb_Law_law_13 23 rfl) rfl ?_
  refine fg_aloadn (fg_ft (pc := 1146) tb_Law_law_13 24 rfl) rfl ?_
  refine fg_iloadn (fg_ft (pc := 1147) tb_Law_law_13 25 rfl) rfl ?_
  refine fg_iconst (fg_ft (pc := 1148) tb_Law_law_13 26 rfl) ic_1 ?_
  refine fg_iaddN (fg_ft (pc := 1149) tb_Law_law_13 27 rfl) ?_
  refine fg_sldN (fg_ft (pc := 1150) tb_Law_law_13 28 rfl) (by omega) h4 (hs 1) ?_
  refine fg_aloadn (fg_ft (pc := 1151) tb_Law_law_13 29 rfl) rfl ?_
  refine fg_iloadn (fg_ft (pc := 1152) tb_Law_law_13 30 rfl) rfl ?_
  refine fg_iconst (fg_ft (pc := 1153) tb_Law_law_13 31 rfl) ic_2 ?_
  refine fg_iaddN (fg_ft (pc := 1154) tb_Law_law_13 32 rfl) ?_
  refine fg_sldN (fg_ft (pc := 1155) tb_Law_law_13 33 rfl) (by omega) h4 (hs 2) ?_
  refine fg_aloadn (fg_ft (pc := 1156) tb_Law_law_13 34 rfl) rfl ?_
  refine fg_iloadn (fg_ft (pc := 1157) tb_Law_law_13 35 rfl) rfl ?_
  refine fg_iconst (fg_ft (pc := 1158) tb_Law_law_13 36 rfl) ic_3 ?_
  refine fg_iaddN (fg_ft (pc := 1159) tb_Law_law_13 37 rfl) ?_
  refine fg_sldN (fg_ft (pc := 1160) tb_Law_law_13 38 rfl) (by omega) h4 (hs 3) ?_
  refine fg_aloadn (fg_ft (pc := 1161) tb_Law_law_13 39 rfl) rfl ?_
  refine fg_iloadn (fg_ft (pc := 1162) tb_Law_law_13 40 rfl) rfl ?_
  refine fg_iconst (fg_ft (pc := 1163) tb_Law_law_13 41 rfl) ic_4 ?_
  refine fg_iaddN (fg_ft (pc := 1164) tb_Law_law_13 42 rfl) ?_
  refine fg_sldN (fg_ft (pc := 1165) tb_Law_law_13 43 rfl) (by omega) h4 (hs 4) ?_
  refine fg_aloadn (fg_ft (pc := 1166) tb_Law_law_13 44 rfl) rfl ?_
  refine fg_iloadn (fg_ft (pc := 1167) tb_Law_law_13 45 rfl) rfl ?_
  refine fg_iconst (fg_ft (pc := 1168) tb_Law_law_13 46 rfl) ic_5 ?_
  refine fg_iaddN (fg_ft (pc := 1169) tb_Law_law_13 47 rfl) ?_
  refine fg_sldN (fg_ft (pc := 1170) tb_Law_law_13 48 rfl) (by omega) h4 (hs 5) ?_
  refine fg_aloadn (fg_ft (pc := 1171) tb_Law_law_13 49 rfl) rfl ?_
  refine fg_iloadn (fg_ft (pc := 1172) tb_Law_law_13 50 rfl) rfl ?_
  refine fg_bipush (fg_ft (pc := 1173) tb_Law_law_13 51 rfl) ib_6 ?_
  refine fg_iaddN (fg_ft (pc := 1175) tb_Law_law_13 52 rfl) ?_
  refine fg_sldN (fg_ft (pc := 1176) tb_Law_law_13 53 rfl) (by omega) h4 (hs 6) ?_
  refine fg_aloadn (fg_ft (pc := 1177) tb_Law_law_13 54 rfl) rfl ?_
  refine fg_iloadn (fg_ft (pc := 1178) tb_Law_law_13 55 rfl) rfl ?_
  refine fg_bipush (fg_ft (pc := 1179) tb_Law_law_13 56 rfl) ib_7 ?_
  refine fg_iaddN (fg_ft (pc := 1181) tb_Law_law_13 57 rfl) ?_
  refine fg_sldN (fg_ft (pc := 1182) tb_Law_law_13 58 rfl) (by omega) h4 (hs 7) ?_
  refine fg_callV (fg_ft (pc := 1183) tb_Law_law_13 59 rfl) cf_Law_96 (fg_isOf ly_287 rfl (fg_lt ly_287 (by decide))) (as := [.int (nI (x 1)), .int (nI (x 2)), .int (nI (x 3)), .int (nI (x 4)), .int (nI (x 5)), .int (nI (x 6)), .int (nI (x 7))]) (st := [.int _]) rfl rfl (Nat.le_of_ble_eq_true rfl) (Nat.le_refl _) (Nat.le_refl _) (ev_Mo_row hJ1.1.2.1 hJ1.1.1.wA hJ1.2.2.1.1 hJ1.2.2.1.2 (hx 1) (hx 2) (hx 3) (hx 4) (hx 5) (hx 6) ?_)
  intro μ2 ag2
  show fg_wp _ _ _ _ _ _ _ _ _ (μ2, fg_rho R1, 304)
  refine fg_icmp_eq (tgt := 2988) (fg_ft (pc := 1186) tb_Law_law_14 0 rfl) (by decide) (fun c1186 => ?_) (fun c1186 => (absurd rfl c1186))
  exact hK μ2 R1 A I (hJ1.R ag2)
theorem lw_k19 {E : fg_E} {d : Nat} {μ : Nat → Nat → Int32} {R : fg_T4} {Q : Option Value → fg_M → Prop} {A : fg_Tl} {I : Nat → fg_Tl} {i : Nat} {x : Nat → Nat} (hi : i + 8 ≤ E.2.2.2.2.2.2) (h4 : E.2.2.2.2.2.2 ≤ 4096) (hx : ∀ j, x j < 2 ^ 32) (hs : ∀ j, E.2.2.2.2.2.1 (i + j) = nI (x j)) (hJ : lw_J μ A I)  (hK : ∀ (μ' : Nat → Nat → Int32) (R' : fg_T4) (A' : fg_Tl) (I' : Nat → fg_Tl), lw_J μ' A' I' → fg_wp E yy_Law_law (d + 13) 100 304 Q 2988 [.ref 99, .ref 100, .ref 287, .int (nI i)] [] (μ', fg_rho R', 304)) : fg_wp E yy_Law_law (d + 13) 100 304 Q 1191 [.ref 99, .ref 100, .ref 287, .int (nI i)] [] (μ, fg_rho R, 304) := by
  refine fg_aloadn (fg_ft (pc := 1191) tb_Law_law_14 3 rfl) rfl ?_
  refine fg_aloadn (fg_ft (pc := 1192) tb_Law_law_14 4 rfl) rfl ?_
  refine fg_iloadn (fg_ft (pc := 1193) tb_Law_law_14 5 rfl) rfl ?_
  refine fg_iconst (fg_ft (pc := 1194) tb_Law_law_14 6 rfl) ic_1 ?_
  refine fg_iaddN (fg_ft (pc := 1195) tb_Law_law_14 7 rfl) ?_
  refine fg_sldN (fg_ft (pc := 1196) tb_Law_law_14 8 rfl) (by omega) h4 (hs 1) ?_
  refine fg_aloadn (fg_ft (pc := 1197) tb_Law_law_14 9 rfl) rfl ?_
  refine fg_iloadn (fg_ft (pc := 1198) tb_Law_law_14 10 rfl) rfl ?_
  refine fg_iconst (fg_ft (pc := 1199) tb_Law_law_14 11 rfl) ic_2 ?_
  refine fg_iaddN (fg_ft (pc := 1200) tb_Law_law_14 12 rfl) ?_
  refine fg_sldN (fg_ft (pc := 1201) tb_Law_law_14 13 rfl) (by omega) h4 (hs 2) ?_
  refine fg_aloadn (fg_ft (pc := 1202) tb_Law_law_14 14 rfl) rfl ?_
  refine fg_iloadn (fg_ft (pc := 1203) tb_Law_law_14 15 rfl) rfl ?_
  refine fg_iconst (fg_ft (pc := 1204) tb_Law_law_14 16 rfl) ic_3 ?_
  refine fg_iaddN (fg_ft (pc := 1205) tb_Law_law_14 17 rfl) ?_
  refine fg_sldN (fg_ft (pc := 1206) tb_Law_law_14 18 rfl) (by omega) h4 (hs 3) ?_
  refine fg_aloadn (fg_ft (pc := 1207) tb_Law_law_14 19 rfl) rfl ?_
  refine fg_iloadn (fg_ft (pc := 1208) tb_Law_law_14 20 rfl) rfl ?_
  refine fg_iconst (fg_ft (pc := 1209) tb_Law_law_14 21 rfl) ic_4 ?_
  refine fg_iaddN (fg_ft (pc := 1210) tb_Law_law_14 22 rfl) ?_
  refine fg_sldN (fg_ft (pc := 1211) tb_Law_law_14 23 rfl) (by omega) h4 (hs 4) ?_
  refine fg_aloadn (fg_ft (pc := 1212) tb_Law_law_14 24 rfl) rfl ?_
  refine fg_iloadn (fg_ft (pc := 1213) tb_Law_law_14 25 rfl) rfl ?_
  refine fg_iconst (fg_ft (pc := 1214) tb_Law_law_14 26 rfl) ic_5 ?_
  refine fg_iaddN (fg_ft (pc := 1215) tb_Law_law_14 27 rfl) ?_
  refine fg_sldN (fg_ft (pc := 1216) tb_Law_law_14 28 rfl) (by omega) h4 (hs 5) ?_
  refine fg_aloadn (fg_ft (pc := 1217) tb_Law_law_14 29 rfl) rfl ?_
  refine fg_iloadn (fg_ft (pc := 1218) tb_Law_law_14 30 rfl) rfl ?_
  refine fg_bipush (fg_ft (pc := 1219) tb_Law_law_14 31 rfl) ib_6 ?_
  refine fg_iaddN (fg_ft (pc := 1221) tb_Law_law_14 32 rfl) ?_
  refine fg_sldN (fg_ft (pc := 1222) tb_Law_law_14 33 rfl) (by omega) h4 (hs 6) ?_
  refine fg_callV (fg_ft (pc := 1223) tb_Law_law_14 34 rfl) cf_Law_97 (fg_isOf ly_100 rfl (fg_lt ly_100 (by decide))) (as := [.int (nI (x 1)), .int (nI (x 2)), .int (nI (x 3)), .int (nI (x 4)), .int (nI (x 5)), .int (nI (x 6))]) (st := []) rfl rfl (Nat.le_of_ble_eq_true rfl) (Nat.le_refl _) (Nat.le_refl _) (ev_Fb_safe hJ.1.1 (hx 1) (hx 2) (hx 3) (hx 4) (hx 5) ?_)
  intro μ1 R1 ag1
  have hJ1 := hJ.Q ag1
  show fg_wp _ _ _ _ _ _ _ _ _ (μ1, fg_rho R1, 304)
  refine fg_aloadn (fg_ft (pc := 1226) tb_Law_law_14 35 rfl) rfl ?_
  refine fg_aloadn (fg_ft (pc := 1227) tb_Law_law_14 36 rfl) rfl ?_
  refine fg_iloadn (fg_ft (pc := 1228) tb_Law_law_14 37 rfl) rfl ?_
  refine fg_iconst (fg_ft (pc := 1229) tb_Law_law_14 38 rfl) ic_1 ?_
  refine fg_iaddN (fg_ft (pc := 1230) tb_Law_law_14 39 rfl) ?_
  refine fg_sldN (fg_ft (pc := 1231) tb_Law_law_14 40 rfl) (by omega) h4 (hs 1) ?_
  refine fg_aloadn (fg_ft (pc := 1232) tb_Law_law_14 41 rfl) rfl ?_
  refine fg_iloadn (fg_ft (pc := 1233) tb_Law_law_14 42 rfl) rfl ?_
  refine fg_iconst (fg_ft (pc := 1234) tb_Law_law_14 43 rfl) ic_2 ?_
  refine fg_iaddN (fg_ft (pc := 1235) tb_Law_law_14 44 rfl) ?_
  refine fg_sldN (fg_ft (pc := 1236) tb_Law_law_14 45 rfl) (by omega) h4 (hs 2) ?_
  refine fg_aloadn (fg_ft (pc := 1237) tb_Law_law_14 46 rfl) rfl ?_
  refine fg_iloadn (fg_ft (pc := 1238) tb_Law_law_14 47 rfl) rfl ?_
  refine fg_iconst (fg_ft (pc := 1239) tb_Law_law_14 48 rfl) ic_3 ?_
  refine fg_iaddN (fg_ft (pc := 1240) tb_Law_law_14 49 rfl) ?_
  refine fg_sldN (fg_ft (pc := 1241) tb_Law_law_14 50 rfl) (by omega) h4 (hs 3) ?_
  refine fg_aloadn (fg_ft (pc := 1242) tb_Law_law_14 51 rfl) rfl ?_
  refine fg_iloadn (fg_ft (pc := 1243) tb_Law_law_14 52 rfl) rfl ?_
  refine fg_iconst (fg_ft (pc := 1244) tb_Law_law_14 53 rfl) ic_4 ?_
  refine fg_iaddN (fg_ft (pc := 1245) tb_Law_law_14 54 rfl) ?_
  refine fg_sldN (fg_ft (pc := 1246) tb_Law_law_14 55 rfl) (by omega) h4 (hs 4) ?_
  refine fg_aloadn (fg_ft (pc := 1247) tb_Law_law_14 56 rfl) rfl ?_
  refine fg_iloadn (fg_ft (pc := 1248) tb_Law_law_14 57 rfl) rfl ?_
  refine fg_iconst (fg_ft (pc := 1249) tb_Law_law_14 58 rfl) ic_5 ?_
  refine fg_iaddN (fg_ft (pc := 1250) tb_Law_law_14 59 rfl) ?_
  refine fg_sldN (fg_ft (pc := 1251) tb_Law_law_15 0 rfl) (by omega) h4 (hs 5) ?_
  refine fg_aloadn (fg_ft (pc := 1252) tb_Law_law_15 1 rfl) rfl ?_
  refine fg_iloadn (fg_ft (pc := 1253) tb_Law_law_15 2 rfl) rfl ?_
  refine fg_bipush (fg_ft (pc := 1254) tb_Law_law_15 3 rfl) ib_6 ?_
  refine fg_iaddN (fg_ft (pc := 1256) tb_Law_law_15 4 rfl) ?_
  refine fg_sldN (fg_ft (pc := 1257) tb_Law_law_15 5 rfl) (by omega) h4 (hs 6) ?_
  refine fg_callV (fg_ft (pc := 1258) tb_Law_law_15 6 rfl) cf_Law_100 (fg_isOf ly_287 rfl (fg_lt ly_287 (by decide))) (as := [.int (nI (x 1)), .int (nI (x 2)), .int (nI (x 3)), .int (nI (x 4)), .int (nI (x 5)), .int (nI (x 6))]) (st := [.int _]) rfl rfl (Nat.le_of_ble_eq_true rfl) (Nat.le_refl _) (Nat.le_refl _) (ev_Mo_safe hJ1.1.2.1 hJ1.1.1.wA hJ1.2.2.1.1 hJ1.2.2.1.2 (hx 1) (hx 2) (hx 3) (hx 4) (hx 5) ?_)
  intro μ2 ag2
  show fg_wp _ _ _ _ _ _ _ _ _ (μ2, fg_rho R1, 304)
  refine fg_icmp_eq (tgt := 2988) (fg_ft (pc := 1261) tb_Law_law_15 7 rfl) (by decide) (fun c1261 => ?_) (fun c1261 => (absurd rfl c1261))
  exact hK μ2 R1 A I (hJ1.R ag2)
theorem lw_k20 {E : fg_E} {d : Nat} {μ : Nat → Nat → Int32} {R : fg_T4} {Q : Option Value → fg_M → Prop} {A : fg_Tl} {I : Nat → fg_Tl} {i : Nat} {x : Nat → Nat} (hi : i + 8 ≤ E.2.2.2.2.2.2) (h4 : E.2.2.2.2.2.2 ≤ 4096) (hx : ∀ j, x j < 2 ^ 32) (hs : ∀ j, E.2.2.2.2.2.1 (i + j) = nI (x j)) (hJ : lw_J μ A I)  (hK : ∀ (μ' : Nat → Nat → Int32) (R' : fg_T4) (A' : fg_Tl) (I' : Nat → fg_Tl), lw_J μ' A' I' → fg_wp E yy_Law_law (d + 13) 100 304 Q 2988 [.ref 99, .ref 100, .ref 287, .int (nI i)] [] (μ', fg_rho R', 304)) : fg_wp E yy_Law_law (d + 13) 100 304 Q 1266 [.ref 99, .ref 100, .ref 287, .int (nI i)] [] (μ, fg_rho R, 304) := by
  refine fg_aloadn (fg_ft (pc := 1266) tb_Law_law_15 10 rfl) rfl ?_
  refine fg_aloadn (fg_ft (pc := 1267) tb_Law_law_15 11 rfl) rfl ?_
  refine fg_iloadn (fg_ft (pc := 1268) tb_Law_law_15 12 rfl) rfl ?_
  refine fg_iconst (fg_ft (pc := 1269) tb_Law_law_15 13 rfl) ic_1 ?_
  refine fg_iaddN (fg_ft (pc := 1270) tb_Law_law_15 14 rfl) ?_
  refine fg_sldN (fg_ft (pc := 1271) tb_Law_law_15 15 rfl) (by omega) h4 (hs 1) ?_
  refine fg_aloadn (fg_ft (pc := 1272) tb_Law_law_15 16 rfl) rfl ?_
  refine fg_iloadn (fg_ft (pc := 1273) tb_Law_law_15 17 rfl) rfl ?_
  refine fg_iconst (fg_ft (pc := 1274) tb_Law_law_15 18 rfl) ic_2 ?_
  refine fg_iaddN (fg_ft (pc := 1275) tb_Law_law_15 19 rfl) ?_
  refine fg_sldN (fg_ft (pc := 1276) tb_Law_law_15 20 rfl) (by omega) h4 (hs 2) ?_
  refine fg_aloadn (fg_ft (pc := 1277) tb_Law_law_15 21 rfl) rfl ?_
  refine fg_iloadn (fg_ft (pc := 1278) tb_Law_law_15 22 rfl) rfl ?_
  refine fg_iconst (fg_ft (pc := 1279) tb_Law_law_15 23 rfl) ic_3 ?_
  refine fg_iaddN (fg_ft (pc := 1280) tb_Law_law_15 24 rfl) ?_
  refine fg_sldN (fg_ft (pc := 1281) tb_Law_law_15 25 rfl) (by omega) h4 (hs 3) ?_
  refine fg_aloadn (fg_ft (pc := 1282) tb_Law_law_15 26 rfl) rfl ?_
  refine fg_iloadn (fg_ft (pc := 1283) tb_Law_law_15 27 rfl) rfl ?_
  refine fg_iconst (fg_ft (pc := 1284) tb_Law_law_15 28 rfl) ic_4 ?_
  refine fg_iaddN (fg_ft (pc := 1285) tb_Law_law_15 29 rfl) ?_
  refine fg_sldN (fg_ft (pc := 1286) tb_Law_law_15 30 rfl) (by omega) h4 (hs 4) ?_
  refine fg_aloadn (fg_ft (pc := 1287) tb_Law_law_15 31 rfl) rfl ?_
  refine fg_iloadn (fg_ft (pc := 1288) tb_Law_law_15 32 rfl) rfl ?_
  refine fg_iconst (fg_ft (pc := 1289) tb_Law_law_15 33 rfl) ic_5 ?_
  refine fg_iaddN (fg_ft (pc := 1290) tb_Law_law_15 34 rfl) ?_
  refine fg_sldN (fg_ft (pc := 1291) tb_Law_law_15 35 rfl) (by omega) h4 (hs 5) ?_
  refine fg_callV (fg_ft (pc := 1292) tb_Law_law_15 36 rfl) cf_Law_101 (fg_isOf ly_100 rfl (fg_lt ly_100 (by decide))) (as := [.int (nI (x 1)), .int (nI (x 2)), .int (nI (x 3)), .int (nI (x 4)), .int (nI (x 5))]) (st := []) rfl rfl (Nat.le_of_ble_eq_true rfl) (Nat.le_refl _) (Nat.le_refl _) (ev_Fb_again hJ.1.1 (hx 1) (hx 2) (hx 3) (hx 4) (hx 5) ?_)
  intro μ1 R1 ag1
  have hJ1 := hJ.Q ag1
  show fg_wp _ _ _ _ _ _ _ _ _ (μ1, fg_rho R1, 304)
  refine fg_aloadn (fg_ft (pc := 1295) tb_Law_law_15 37 rfl) rfl ?_
  refine fg_aloadn (fg_ft (pc := 1296) tb_Law_law_15 38 rfl) rfl ?_
  refine fg_iloadn (fg_ft (pc := 1297) tb_Law_law_15 39 rfl) rfl ?_
  refine fg_iconst (fg_ft (pc := 1298) tb_Law_law_15 40 rfl) ic_1 ?_
  refine fg_iaddN (fg_ft (pc := 1299) tb_Law_law_15 41 rfl) ?_
  refine fg_sldN (fg_ft (pc := 1300) tb_Law_law_15 42 rfl) (by omega) h4 (hs 1) ?_
  refine fg_aloadn (fg_ft (pc := 1301) tb_Law_law_15 43 rfl) rfl ?_
  refine fg_iloadn (fg_ft (pc := 1302) tb_Law_law_15 44 rfl) rfl ?_
  refine fg_iconst (fg_ft (pc := 1303) tb_Law_law_15 45 rfl) ic_2 ?_
  refine fg_iaddN (fg_ft (pc := 1304) tb_Law_law_15 46 rfl) ?_
  refine fg_sldN (fg_ft (pc := 1305) tb_Law_law_15 47 rfl) (by omega) h4 (hs 2) ?_
  refine fg_aloadn (fg_ft (pc := 1306) tb_Law_law_15 48 rfl) rfl ?_
  refine fg_iloadn (fg_ft (pc := 1307) tb_Law_law_15 49 rfl) rfl ?_
  refine fg_iconst (fg_ft (pc := 1308) tb_Law_law_15 50 rfl) ic_3 ?_
  refine fg_iaddN (fg_ft (pc := 1309) tb_Law_law_15 51 rfl) ?_
  refine fg_sldN (fg_ft (pc := 1310) tb_Law_law_15 52 rfl) (by omega) h4 (hs 3) ?_
  refine fg_aloadn (fg_ft (pc := 1311) tb_Law_law_15 53 rfl) rfl ?_
  refine fg_iloadn (fg_ft (pc := 1312) tb_Law_law_15 54 rfl) rfl ?_
  refine fg_iconst (fg_ft (pc := 1313) tb_Law_law_15 55 rfl) ic_4 ?_
  refine fg_iaddN (fg_ft (pc := 1314) tb_Law_law_15 56 rfl) ?_
  refine fg_sldN (fg_ft (pc := 1315) tb_Law_law_15 57 rfl) (by omega) h4 (hs 4) ?_
  refine fg_aloadn (fg_ft (pc := 1316) tb_Law_law_15 58 rfl) rfl ?_
  refine fg_iloadn (fg_ft (pc := 1317) tb_Law_law_15 59 rfl) rfl ?_
  refine fg_iconst (fg_ft (pc := 1318) tb_Law_law_16 0 rfl) ic_5 ?_
  refine fg_iaddN (fg_ft (pc := 1319) tb_Law_law_16 1 rfl) ?_
  refine fg_sldN (fg_ft (pc := 1320) tb_Law_law_16 2 rfl) (by omega) h4 (hs 5) ?_
  refine fg_callV (fg_ft (pc := 1321) tb_Law_law_16 3 rfl) cf_Law_104 (fg_isOf ly_287 rfl (fg_lt ly_287 (by decide))) (as := [.int (nI (x 1)), .int (nI (x 2)), .int (nI (x 3)), .int (nI (x 4)), .int (nI (x 5))]) (st := [.int _]) rfl rfl (Nat.le_of_ble_eq_true rfl) (Nat.le_refl _) (Nat.le_refl _) (ev_Mo_again hJ1.1.2.1 hJ1.1.1.wA hJ1.2.2.1.1 hJ1.2.2.1.2 (hx 1) (hx 2) (hx 3) (hx 4) (hx 5) ?_)
  intro μ2 ag2
  show fg_wp _ _ _ _ _ _ _ _ _ (μ2, fg_rho R1, 304)
  refine fg_icmp_eq (tgt := 2988) (fg_ft (pc := 1324) tb_Law_law_16 4 rfl) (by decide) (fun c1324 => ?_) (fun c1324 => (absurd rfl c1324))
  exact hK μ2 R1 A I (hJ1.R ag2)
theorem lw_k21 {E : fg_E} {d : Nat} {μ : Nat → Nat → Int32} {R : fg_T4} {Q : Option Value → fg_M → Prop} {A : fg_Tl} {I : Nat → fg_Tl} {i : Nat} {x : Nat → Nat} (hi : i + 8 ≤ E.2.2.2.2.2.2) (h4 : E.2.2.2.2.2.2 ≤ 4096) (hx : ∀ j, x j < 2 ^ 32) (hs : ∀ j, E.2.2.2.2.2.1 (i + j) = nI (x j)) (hJ : lw_J μ A I)  (hK : ∀ (μ' : Nat → Nat → Int32) (R' : fg_T4) (A' : fg_Tl) (I' : Nat → fg_Tl), lw_J μ' A' I' → fg_wp E yy_Law_law (d + 13) 100 304 Q 2988 [.ref 99, .ref 100, .ref 287, .int (nI i)] [] (μ', fg_rho R', 304)) : fg_wp E yy_Law_law (d + 13) 100 304 Q 1329 [.ref 99, .ref 100, .ref 287, .int (nI i)] [] (μ, fg_rho R, 304) := by
  refine fg_aloadn (fg_ft (pc := 1329) tb_Law_law_16 7 rfl) rfl ?_
  refine fg_aloadn (fg_ft (pc := 1330) tb_Law_law_16 8 rfl) rfl ?_
  refine fg_iloadn (fg_ft (pc := 1331) tb_Law_law_16 9 rfl) rfl ?_
  refine fg_iconst (fg_ft (pc := 1332) tb_Law_law_16 10 rfl) ic_1 ?_
  refine fg_iaddN (fg_ft (pc := 1333) tb_Law_law_16 11 rfl) ?_
  refine fg_sldN (fg_ft (pc := 1334) tb_Law_law_16 12 rfl) (by omega) h4 (hs 1) ?_
  refine fg_aloadn (fg_ft (pc := 1335) tb_Law_law_16 13 rfl) rfl ?_
  refine fg_iloadn (fg_ft (pc := 1336) tb_Law_law_16 14 rfl) rfl ?_
  refine fg_iconst (fg_ft (pc := 1337) tb_Law_law_16 15 rfl) ic_2 ?_
  refine fg_iaddN (fg_ft (pc := 1338) tb_Law_law_16 16 rfl) ?_
  refine fg_sldN (fg_ft (pc := 1339) tb_Law_law_16 17 rfl) (by omega) h4 (hs 2) ?_
  refine fg_aloadn (fg_ft (pc := 1340) tb_Law_law_16 18 rfl) rfl ?_
  refine fg_iloadn (fg_ft (pc := 1341) tb_Law_law_16 19 rfl) rfl ?_
  refine fg_iconst (fg_ft (pc := 1342) tb_Law_law_16 20 rfl) ic_3 ?_
  refine fg_iaddN (fg_ft (pc := 1343) tb_Law_law_16 21 rfl) ?_
  refine fg_sldN (fg_ft (pc := 1344) tb_Law_law_16 22 rfl) (by omega) h4 (hs 3) ?_
  refine fg_aloadn (fg_ft (pc := 1345) tb_Law_law_16 23 rfl) rfl ?_
  refine fg_iloadn (fg_ft (pc := 1346) tb_Law_law_16 24 rfl) rfl ?_
  refine fg_iconst (fg_ft (pc := 1347) tb_Law_law_16 25 rfl) ic_4 ?_
  refine fg_iaddN (fg_ft (pc := 1348) tb_Law_law_16 26 rfl) ?_
  refine fg_sldN (fg_ft (pc := 1349) tb_Law_law_16 27 rfl) (by omega) h4 (hs 4) ?_
  refine fg_callV (fg_ft (pc := 1350) tb_Law_law_16 28 rfl) cf_Law_105 (fg_isOf ly_100 rfl (fg_lt ly_100 (by decide))) (as := [.int (nI (x 1)), .int (nI (x 2)), .int (nI (x 3)), .int (nI (x 4))]) (st := []) rfl rfl (Nat.le_of_ble_eq_true rfl) (Nat.le_refl _) (Nat.le_refl _) (ev_Fb_finds hJ.1.1 (hx 1) (hx 2) (hx 3) (hx 4) ?_)
  intro μ1 R1 ag1
  have hJ1 := hJ.Q ag1
  show fg_wp _ _ _ _ _ _ _ _ _ (μ1, fg_rho R1, 304)
  refine fg_aloadn (fg_ft (pc := 1353) tb_Law_law_16 29 rfl) rfl ?_
  refine fg_aloadn (fg_ft (pc := 1354) tb_Law_law_16 30 rfl) rfl ?_
  refine fg_iloadn (fg_ft (pc := 1355) tb_Law_law_16 31 rfl) rfl ?_
  refine fg_iconst (fg_ft (pc := 1356) tb_Law_law_16 32 rfl) ic_1 ?_
  refine fg_iaddN (fg_ft (pc := 1357) tb_Law_law_16 33 rfl) ?_
  refine fg_sldN (fg_ft (pc := 1358) tb_Law_law_16 34 rfl) (by omega) h4 (hs 1) ?_
  refine fg_aloadn (fg_ft (pc := 1359) tb_Law_law_16 35 rfl) rfl ?_
  refine fg_iloadn (fg_ft (pc := 1360) tb_Law_law_16 36 rfl) rfl ?_
  refine fg_iconst (fg_ft (pc := 1361) tb_Law_law_16 37 rfl) ic_2 ?_
  refine fg_iaddN (fg_ft (pc := 1362) tb_Law_law_16 38 rfl) ?_
  refine fg_sldN (fg_ft (pc := 1363) tb_Law_law_16 39 rfl) (by omega) h4 (hs 2) ?_
  refine fg_aloadn (fg_ft (pc := 1364) tb_Law_law_16 40 rfl) rfl ?_
  refine fg_iloadn (fg_ft (pc := 1365) tb_Law_law_16 41 rfl) rfl ?_
  refine fg_iconst (fg_ft (pc := 1366) tb_Law_law_16 42 rfl) ic_3 ?_
  refine fg_iaddN (fg_ft (pc := 1367) tb_Law_law_16 43 rfl) ?_
  refine fg_sldN (fg_ft (pc := 1368) tb_Law_law_16 44 rfl) (by omega) h4 (hs 3) ?_
  refine fg_aloadn (fg_ft (pc := 1369) tb_Law_law_16 45 rfl) rfl ?_
  refine fg_iloadn (fg_ft (pc := 1370) tb_Law_law_16 46 rfl) rfl ?_
  refine fg_iconst (fg_ft (pc := 1371) tb_Law_law_16 47 rfl) ic_4 ?_
  refine fg_iaddN (fg_ft (pc := 1372) tb_Law_law_16 48 rfl) ?_
  refine fg_sldN (fg_ft (pc := 1373) tb_Law_law_16 49 rfl) (by omega) h4 (hs 4) ?_
  refine fg_callV (fg_ft (pc := 1374) tb_Law_law_16 50 rfl) cf_Law_108 (fg_isOf ly_287 rfl (fg_lt ly_287 (by decide))) (as := [.int (nI (x 1)), .int (nI (x 2)), .int (nI (x 3)), .int (nI (x 4))]) (st := [.int _]) rfl rfl (Nat.le_of_ble_eq_true rfl) (Nat.le_refl _) (Nat.le_refl _) (ev_Mo_finds hJ1.1.2.1 hJ1.1.1.wA hJ1.2.2.1.1 hJ1.2.2.1.2 (hx 1) (hx 2) (hx 3) (hx 4) ?_)
  intro μ2 ag2
  show fg_wp _ _ _ _ _ _ _ _ _ (μ2, fg_rho R1, 304)
  refine fg_icmp_eq (tgt := 2988) (fg_ft (pc := 1377) tb_Law_law_16 51 rfl) (by decide) (fun c1377 => ?_) (fun c1377 => (absurd rfl c1377))
  exact hK μ2 R1 A I (hJ1.R ag2)
theorem lw_k22 {E : fg_E} {d : Nat} {μ : Nat → Nat → Int32} {R : fg_T4} {Q : Option Value → fg_M → Prop} {A : fg_Tl} {I : Nat → fg_Tl} {i : Nat} {x : Nat → Nat} (hi : i + 8 ≤ E.2.2.2.2.2.2) (h4 : E.2.2.2.2.2.2 ≤ 4096) (hx : ∀ j, x j < 2 ^ 32) (hs : ∀ j, E.2.2.2.2.2.1 (i + j) = nI (x j)) (hJ : lw_J μ A I)  (hK : ∀ (μ' : Nat → Nat → Int32) (R' : fg_T4) (A' : fg_Tl) (I' : Nat → fg_Tl), lw_J μ' A' I' → fg_wp E yy_Law_law (d + 13) 100 304 Q 2988 [.ref 99, .ref 100, .ref 287, .int (nI i)] [] (μ', fg_rho R', 304)) : fg_wp E yy_Law_law (d + 13) 100 304 Q 1382 [.ref 99, .ref 100, .ref 287, .int (nI i)] [] (μ, fg_rho R, 304) := by
  refine fg_aloadn (fg_ft (pc := 1382) tb_Law_law_16 54 rfl) rfl ?_
  refine fg_aloadn (fg_ft (pc := 1383) tb_Law_law_16 55 rfl) rfl ?_
  refine fg_iloadn (fg_ft (pc := 1384) tb_Law_law_16 56 rfl) rfl ?_
  refine fg_iconst (fg_ft (pc := 1385) tb_Law_law_16 57 rfl) ic_1 ?_
  refine fg_iaddN (fg_ft (pc := 1386) tb_Law_law_16 58 rfl) ?_
  refine fg_sldN (fg_ft (pc := 1387) tb_Law_law_16 59 rfl) (by omega) h4 (hs 1) ?_
  refine fg_aloadn (fg_ft (pc := 1388) tb_Law_law_17 0 rfl) rfl ?_
  refine fg_iloadn (fg_ft (pc := 1389) tb_Law_law_17 1 rfl) rfl ?_
  refine fg_iconst (fg_ft (pc := 1390) tb_Law_law_17 2 rfl) ic_2 ?_
  refine fg_iaddN (fg_ft (pc := 1391) tb_Law_law_17 3 rfl) ?_
  refine fg_sldN (fg_ft (pc := 1392) tb_Law_law_17 4 rfl) (by omega) h4 (hs 2) ?_
  refine fg_aloadn (fg_ft (pc := 1393) tb_Law_law_17 5 rfl) rfl ?_
  refine fg_iloadn (fg_ft (pc := 1394) tb_Law_law_17 6 rfl) rfl ?_
  refine fg_iconst (fg_ft (pc := 1395) tb_Law_law_17 7 rfl) ic_3 ?_
  refine fg_iaddN (fg_ft (pc := 1396) tb_Law_law_17 8 rfl) ?_
  refine fg_sldN (fg_ft (pc := 1397) tb_Law_law_17 9 rfl) (by omega) h4 (hs 3) ?_
  refine fg_aloadn (fg_ft (pc := 1398) tb_Law_law_17 10 rfl) rfl ?_
  refine fg_iloadn (fg_ft (pc := 1399) tb_Law_law_17 11 rfl) rfl ?_
  refine fg_iconst (fg_ft (pc := 1400) tb_Law_law_17 12 rfl) ic_4 ?_
  refine fg_iaddN (fg_ft (pc := 1401) tb_Law_law_17 13 rfl) ?_
  refine fg_sldN (fg_ft (pc := 1402) tb_Law_law_17 14 rfl) (by omega) h4 (hs 4) ?_
  refine fg_aloadn (fg_ft (pc := 1403) tb_Law_law_17 15 rfl) rfl ?_
  refine fg_iloadn (fg_ft (pc := 1404) tb_Law_law_17 16 rfl) rfl ?_
  refine fg_iconst (fg_ft (pc := 1405) tb_Law_law_17 17 rfl) ic_5 ?_
  refine fg_iaddN (fg_ft (pc := 1406) tb_Law_law_17 18 rfl) ?_
  refine fg_sldN (fg_ft (pc := 1407) tb_Law_law_17 19 rfl) (by omega) h4 (hs 5) ?_
  refine fg_aloadn (fg_ft (pc := 1408) tb_Law_law_17 20 rfl) rfl ?_
  refine fg_iloadn (fg_ft (pc := 1409) tb_Law_law_17 21 rfl) rfl ?_
  refine fg_bipush (fg_ft (pc := 1410) tb_Law_law_17 22 rfl) ib_6 ?_
  refine fg_iaddN (fg_ft (pc := 1412) tb_Law_law_17 23 rfl) ?_
  refine fg_sldN (fg_ft (pc := 1413) tb_Law_law_17 24 rfl) (by omega) h4 (hs 6) ?_
  refine fg_callV (fg_ft (pc := 1414) tb_Law_law_17 25 rfl) cf_Law_109 (fg_isOf ly_100 rfl (fg_lt ly_100 (by decide))) (as := [.int (nI (x 1)), .int (nI (x 2)), .int (nI (x 3)), .int (nI (x 4)), .int (nI (x 5)), .int (nI (x 6))]) (st := []) rfl rfl (Nat.le_of_ble_eq_true rfl) (Nat.le_refl _) (Nat.le_refl _) (ev_Fb_best hJ.1.1 (hx 1) (hx 2) (hx 3) (hx 4) (hx 5) ?_)
  intro μ1 R1 ag1
  have hJ1 := hJ.Q ag1
  show fg_wp _ _ _ _ _ _ _ _ _ (μ1, fg_rho R1, 304)
  refine fg_aloadn (fg_ft (pc := 1417) tb_Law_law_17 26 rfl) rfl ?_
  refine fg_aloadn (fg_ft (pc := 1418) tb_Law_law_17 27 rfl) rfl ?_
  refine fg_iloadn (fg_ft (pc := 1419) tb_Law_law_17 28 rfl) rfl ?_
  refine fg_iconst (fg_ft (pc := 1420) tb_Law_law_17 29 rfl) ic_1 ?_
  refine fg_iaddN (fg_ft (pc := 1421) tb_Law_law_17 30 rfl) ?_
  refine fg_sldN (fg_ft (pc := 1422) tb_Law_law_17 31 rfl) (by omega) h4 (hs 1) ?_
  refine fg_aloadn (fg_ft (pc := 1423) tb_Law_law_17 32 rfl) rfl ?_
  refine fg_iloadn (fg_ft (pc := 1424) tb_Law_law_17 33 rfl) rfl ?_
  refine fg_iconst (fg_ft (pc := 1425) tb_Law_law_17 34 rfl) ic_2 ?_
  refine fg_iaddN (fg_ft (pc := 1426) tb_Law_law_17 35 rfl) ?_
  refine fg_sldN (fg_ft (pc := 1427) tb_Law_law_17 36 rfl) (by omega) h4 (hs 2) ?_
  refine fg_aloadn (fg_ft (pc := 1428) tb_Law_law_17 37 rfl) rfl ?_
  refine fg_iloadn (fg_ft (pc := 1429) tb_Law_law_17 38 rfl) rfl ?_
  refine fg_iconst (fg_ft (pc := 1430) tb_Law_law_17 39 rfl) ic_3 ?_
  refine fg_iaddN (fg_ft (pc := 1431) tb_Law_law_17 40 rfl) ?_
  refine fg_sldN (fg_ft (pc := 1432) tb_Law_law_17 41 rfl) (by omega) h4 (hs 3) ?_
  refine fg_aloadn (fg_ft (pc := 1433) tb_Law_law_17 42 rfl) rfl ?_
  refine fg_iloadn (fg_ft (pc := 1434) tb_Law_law_17 43 rfl) rfl ?_
  refine fg_iconst (fg_ft (pc := 1435) tb_Law_law_17 44 rfl) ic_4 ?_
  refine fg_iaddN (fg_ft (pc := 1436) tb_Law_law_17 45 rfl) ?_
  refine fg_sldN (fg_ft (pc := 1437) tb_Law_law_17 46 rfl) (by omega) h4 (hs 4) ?_
  refine fg_aloadn (fg_ft (pc := 1438) tb_Law_law_17 47 rfl) rfl ?_
  refine fg_iloadn (fg_ft (pc := 1439) tb_Law_law_17 48 rfl) rfl ?_
  refine fg_iconst (fg_ft (pc := 1440) tb_Law_law_17 49 rfl) ic_5 ?_
  refine fg_iaddN (fg_ft (pc := 1441) tb_Law_law_17 50 rfl) ?_
  refine fg_sldN (fg_ft (pc := 1442) tb_Law_law_17 51 rfl) (by omega) h4 (hs 5) ?_
  refine fg_aloadn (fg_ft (pc := 1443) tb_Law_law_17 52 rfl) rfl ?_
  refine fg_iloadn (fg_ft (pc := 1444) tb_Law_law_17 53 rfl) rfl ?_
  refine fg_bipush (fg_ft (pc := 1445) tb_Law_law_17 54 rfl) ib_6 ?_
  refine fg_iaddN (fg_ft (pc := 1447) tb_Law_law_17 55 rfl) ?_
  refine fg_sldN (fg_ft (pc := 1448) tb_Law_law_17 56 rfl) (by omega) h4 (hs 6) ?_
  refine fg_callV (fg_ft (pc := 1449) tb_Law_law_17 57 rfl) cf_Law_112 (fg_isOf ly_287 rfl (fg_lt ly_287 (by decide))) (as := [.int (nI (x 1)), .int (nI (x 2)), .int (nI (x 3)), .int (nI (x 4)), .int (nI (x 5)), .int (nI (x 6))]) (st := [.int _]) rfl rfl (Nat.le_of_ble_eq_true rfl) (Nat.le_refl _) (Nat.le_refl _) (ev_Mo_best hJ1.1.2.1 hJ1.1.1.wA hJ1.2.2.1.1 hJ1.2.2.1.2 (hx 1) (hx 2) (hx 3) (hx 4) (hx 5) ?_)
  intro μ2 ag2
  show fg_wp _ _ _ _ _ _ _ _ _ (μ2, fg_rho R1, 304)
  refine fg_icmp_eq (tgt := 2988) (fg_ft (pc := 1452) tb_Law_law_17 58 rfl) (by decide) (fun c1452 => ?_) (fun c1452 => (absurd rfl c1452))
  exact hK μ2 R1 A I (hJ1.R ag2)
theorem lw_k23 {E : fg_E} {d : Nat} {μ : Nat → Nat → Int32} {R : fg_T4} {Q : Option Value → fg_M → Prop} {A : fg_Tl} {I : Nat → fg_Tl} {i : Nat} {x : Nat → Nat} (hi : i + 8 ≤ E.2.2.2.2.2.2) (h4 : E.2.2.2.2.2.2 ≤ 4096) (hx : ∀ j, x j < 2 ^ 32) (hs : ∀ j, E.2.2.2.2.2.1 (i + j) = nI (x j)) (hJ : lw_J μ A I)  (hK : ∀ (μ' : Nat → Nat → Int32) (R' : fg_T4) (A' : fg_Tl) (I' : Nat → fg_Tl), lw_J μ' A' I' → fg_wp E yy_Law_law (d + 13) 100 304 Q 2988 [.ref 99, .ref 100, .ref 287, .int (nI i)] [] (μ', fg_rho R', 304)) : fg_wp E yy_Law_law (d + 13) 100 304 Q 1457 [.ref 99, .ref 100, .ref 287, .int (nI i)] [] (μ, fg_rho R, 304) := by
  refine fg_aloadn (fg_ft (pc := 1457) tb_Law_law_18 1 rfl) rfl ?_
  refine fg_aloadn (fg_ft (pc := 1458) tb_Law_law_18 2 rfl) rfl ?_
  refine fg_iloadn (fg_ft (pc := 1459) tb_Law_law_18 3 rfl) rfl ?_
  refine fg_iconst (fg_ft (pc := 1460) tb_Law_law_18 4 rfl) ic_1 ?_
  refine fg_iaddN (fg_ft (pc := 1461) tb_Law_law_18 5 rfl) ?_
  refine fg_sldN (fg_ft (pc := 1462) tb_Law_law_18 6 rfl) (by omega) h4 (hs 1) ?_
  refine fg_aloadn (fg_ft (pc := 1463) tb_Law_law_18 7 rfl) rfl ?_
  refine fg_iloadn (fg_ft (pc := 1464) tb_Law_law_18 8 rfl) rfl ?_
  refine fg_iconst (fg_ft (pc := 1465) tb_Law_law_18 9 rfl) ic_2 ?_
  refine fg_iaddN (fg_ft (pc := 1466) tb_Law_law_18 10 rfl) ?_
  refine fg_sldN (fg_ft (pc := 1467) tb_Law_law_18 11 rfl) (by omega) h4 (hs 2) ?_
  refine fg_aloadn (fg_ft (pc := 1468) tb_Law_law_18 12 rfl) rfl ?_
  refine fg_iloadn (fg_ft (pc := 1469) tb_Law_law_18 13 rfl) rfl ?_
  refine fg_iconst (fg_ft (pc := 1470) tb_Law_law_18 14 rfl) ic_3 ?_
  refine fg_iaddN (fg_ft (pc := 1471) tb_Law_law_18 15 rfl) ?_
  refine fg_sldN (fg_ft (pc := 1472) tb_Law_law_18 16 rfl) (by omega) h4 (hs 3) ?_
  refine fg_aloadn (fg_ft (pc := 1473) tb_Law_law_18 17 rfl) rfl ?_
  refine fg_iloadn (fg_ft (pc := 1474) tb_Law_law_18 18 rfl) rfl ?_
  refine fg_iconst (fg_ft (pc := 1475) tb_Law_law_18 19 rfl) ic_4 ?_
  refine fg_iaddN (fg_ft (pc := 1476) tb_Law_law_18 20 rfl) ?_
  refine fg_sldN (fg_ft (pc := 1477) tb_Law_law_18 21 rfl) (by omega) h4 (hs 4) ?_
  refine fg_aloadn (fg_ft (pc := 1478) tb_Law_law_18 22 rfl) rfl ?_
  refine fg_iloadn (fg_ft (pc := 1479) tb_Law_law_18 23 rfl) rfl ?_
  refine fg_iconst (fg_ft (pc := 1480) tb_Law_law_18 24 rfl) ic_5 ?_
  refine fg_iaddN (fg_ft (pc := 1481) tb_Law_law_18 25 rfl) ?_
  refine fg_sldN (fg_ft (pc := 1482) tb_Law_law_18 26 rfl) (by omega) h4 (hs 5) ?_
  refine fg_callV (fg_ft (pc := 1483) tb_Law_law_18 27 rfl) cf_Law_113 (fg_isOf ly_100 rfl (fg_lt ly_100 (by decide))) (as := [.int (nI (x 1)), .int (nI (x 2)), .int (nI (x 3)), .int (nI (x 4)), .int (nI (x 5))]) (st := []) rfl rfl (Nat.le_of_ble_eq_true rfl) (Nat.le_refl _) (Nat.le_refl _) (ev_Fb_gap hJ.1.1 (hx 1) (hx 2) (hx 3) (hx 4) (hx 5) ?_)
  intro μ1 R1 ag1
  have hJ1 := hJ.Q ag1
  show fg_wp _ _ _ _ _ _ _ _ _ (μ1, fg_rho R1, 304)
  refine fg_aloadn (fg_ft (pc := 1486) tb_Law_law_18 28 rfl) rfl ?_
  refine fg_aloadn (fg_ft (pc := 1487) tb_Law_law_18 29 rfl) rfl ?_
  refine fg_iloadn (fg_ft (pc := 1488) tb_Law_law_18 30 rfl) rfl ?_
  refine fg_iconst (fg_ft (pc := 1489) tb_Law_law_18 31 rfl) ic_1 ?_
  refine fg_iaddN (fg_ft (pc := 1490) tb_Law_law_18 32 rfl) ?_
  refine fg_sldN (fg_ft (pc := 1491) tb_Law_law_18 33 rfl) (by omega) h4 (hs 1) ?_
  refine fg_aloadn (fg_ft (pc := 1492) tb_Law_law_18 34 rfl) rfl ?_
  refine fg_iloadn (fg_ft (pc := 1493) tb_Law_law_18 35 rfl) rfl ?_
  refine fg_iconst (fg_ft (pc := 1494) tb_Law_law_18 36 rfl) ic_2 ?_
  refine fg_iaddN (fg_ft (pc := 1495) tb_Law_law_18 37 rfl) ?_
  refine fg_sldN (fg_ft (pc := 1496) tb_Law_law_18 38 rfl) (by omega) h4 (hs 2) ?_
  refine fg_aloadn (fg_ft (pc := 1497) tb_Law_law_18 39 rfl) rfl ?_
  refine fg_iloadn (fg_ft (pc := 1498) tb_Law_law_18 40 rfl) rfl ?_
  refine fg_iconst (fg_ft (pc := 1499) tb_Law_law_18 41 rfl) ic_3 ?_
  refine fg_iaddN (fg_ft (pc := 1500) tb_Law_law_18 42 rfl) ?_
  refine fg_sldN (fg_ft (pc := 1501) tb_Law_law_18 43 rfl) (by omega) h4 (hs 3) ?_
  refine fg_aloadn (fg_ft (pc := 1502) tb_Law_law_18 44 rfl) rfl ?_
  refine fg_iloadn (fg_ft (pc := 1503) tb_Law_law_18 45 rfl) rfl ?_
  refine fg_iconst (fg_ft (pc := 1504) tb_Law_law_18 46 rfl) ic_4 ?_
  refine fg_iaddN (fg_ft (pc := 1505) tb_Law_law_18 47 rfl) ?_
  refine fg_sldN (fg_ft (pc := 1506) tb_Law_law_18 48 rfl) (by omega) h4 (hs 4) ?_
  refine fg_aloadn (fg_ft (pc := 1507) tb_Law_law_18 49 rfl) rfl ?_
  refine fg_iloadn (fg_ft (pc := 1508) tb_Law_law_18 50 rfl) rfl ?_
  refine fg_iconst (fg_ft (pc := 1509) tb_Law_law_18 51 rfl) ic_5 ?_
  refine fg_iaddN (fg_ft (pc := 1510) tb_Law_law_18 52 rfl) ?_
  refine fg_sldN (fg_ft (pc := 1511) tb_Law_law_18 53 rfl) (by omega) h4 (hs 5) ?_
  refine fg_callV (fg_ft (pc := 1512) tb_Law_law_18 54 rfl) cf_Law_116 (fg_isOf ly_287 rfl (fg_lt ly_287 (by decide))) (as := [.int (nI (x 1)), .int (nI (x 2)), .int (nI (x 3)), .int (nI (x 4)), .int (nI (x 5))]) (st := [.int _]) rfl rfl (Nat.le_of_ble_eq_true rfl) (Nat.le_refl _) (Nat.le_refl _) (ev_Mo_gap hJ1.1.2.1 hJ1.1.1.wA hJ1.2.2.1.1 hJ1.2.2.1.2 (hx 1) (hx 2) (hx 3) (hx 4) (hx 5) ?_)
  intro μ2 ag2
  show fg_wp _ _ _ _ _ _ _ _ _ (μ2, fg_rho R1, 304)
  refine fg_icmp_eq (tgt := 2988) (fg_ft (pc := 1515) tb_Law_law_18 55 rfl) (by decide) (fun c1515 => ?_) (fun c1515 => (absurd rfl c1515))
  exact hK μ2 R1 A I (hJ1.R ag2)
theorem lw_k24 {E : fg_E} {d : Nat} {μ : Nat → Nat → Int32} {R : fg_T4} {Q : Option Value → fg_M → Prop} {A : fg_Tl} {I : Nat → fg_Tl} {i : Nat} {x : Nat → Nat} (hi : i + 8 ≤ E.2.2.2.2.2.2) (h4 : E.2.2.2.2.2.2 ≤ 4096) (hx : ∀ j, x j < 2 ^ 32) (hs : ∀ j, E.2.2.2.2.2.1 (i + j) = nI (x j)) (hJ : lw_J μ A I)  (hK : ∀ (μ' : Nat → Nat → Int32) (R' : fg_T4) (A' : fg_Tl) (I' : Nat → fg_Tl), lw_J μ' A' I' → fg_wp E yy_Law_law (d + 13) 100 304 Q 2988 [.ref 99, .ref 100, .ref 287, .int (nI i)] [] (μ', fg_rho R', 304)) : fg_wp E yy_Law_law (d + 13) 100 304 Q 1520 [.ref 99, .ref 100, .ref 287, .int (nI i)] [] (μ, fg_rho R, 304) := by
  refine fg_aloadn (fg_ft (pc := 1520) tb_Law_law_18 58 rfl) rfl ?_
  refine fg_aloadn (fg_ft (pc := 1521) tb_Law_law_18 59 rfl) rfl ?_
  refine fg_iloadn (fg_ft (pc := 1522) tb_Law_law_19 0 rfl) rfl ?_
  refine fg_iconst (fg_ft (pc := 1523) tb_Law_law_19 1 rfl) ic_1 ?_
  refine fg_iaddN (fg_ft (pc := 1524) tb_Law_law_19 2 rfl) ?_
  refine fg_sldN (fg_ft (pc := 1525) tb_Law_law_19 3 rfl) (by omega) h4 (hs 1) ?_
  refine fg_aloadn (fg_ft (pc := 1526) tb_Law_law_19 4 rfl) rfl ?_
  refine fg_iloadn (fg_ft (pc := 1527) tb_Law_law_19 5 rfl) rfl ?_
  refine fg_iconst (fg_ft (pc := 1528) tb_Law_law_19 6 rfl) ic_2 ?_
  refine fg_iaddN (fg_ft (pc := 1529) tb_Law_law_19 7 rfl) ?_
  refine fg_sldN (fg_ft (pc := 1530) tb_Law_law_19 8 rfl) (by omega) h4 (hs 2) ?_
  refine fg_aloadn (fg_ft (pc := 1531) tb_Law_law_19 9 rfl) rfl ?_
  refine fg_iloadn (fg_ft (pc := 1532) tb_Law_law_19 10 rfl) rfl ?_
  refine fg_iconst (fg_ft (pc := 1533) tb_Law_law_19 11 rfl) ic_3 ?_
  refine fg_iaddN (fg_ft (pc := 1534) tb_Law_law_19 12 rfl) ?_
  refine fg_sldN (fg_ft (pc := 1535) tb_Law_law_19 13 rfl) (by omega) h4 (hs 3) ?_
  refine fg_aloadn (fg_ft (pc := 1536) tb_Law_law_19 14 rfl) rfl ?_
  refine fg_iloadn (fg_ft (pc := 1537) tb_Law_law_19 15 rfl) rfl ?_
  refine fg_iconst (fg_ft (pc := 1538) tb_Law_law_19 16 rfl) ic_4 ?_
  refine fg_iaddN (fg_ft (pc := 1539) tb_Law_law_19 17 rfl) ?_
  refine fg_sldN (fg_ft (pc := 1540) tb_Law_law_19 18 rfl) (by omega) h4 (hs 4) ?_
  refine fg_aloadn (fg_ft (pc := 1541) tb_Law_law_19 19 rfl) rfl ?_
  refine fg_iloadn (fg_ft (pc := 1542) tb_Law_law_19 20 rfl) rfl ?_
  refine fg_iconst (fg_ft (pc := 1543) tb_Law_law_19 21 rfl) ic_5 ?_
  refine fg_iaddN (fg_ft (pc := 1544) tb_Law_law_19 22 rfl) ?_
  refine fg_sldN (fg_ft (pc := 1545) tb_Law_law_19 23 rfl) (by omega) h4 (hs 5) ?_
  refine fg_callV (fg_ft (pc := 1546) tb_Law_law_19 24 rfl) cf_Law_117 (fg_isOf ly_100 rfl (fg_lt ly_100 (by decide))) (as := [.int (nI (x 1)), .int (nI (x 2)), .int (nI (x 3)), .int (nI (x 4)), .int (nI (x 5))]) (st := []) rfl rfl (Nat.le_of_ble_eq_true rfl) (Nat.le_refl _) (Nat.le_refl _) (ev_Fb_pact hJ.1.1 (hx 1) (hx 2) (hx 3) (hx 4) (hx 5) ?_)
  intro μ1 R1 ag1
  have hJ1 := hJ.Q ag1
  show fg_wp _ _ _ _ _ _ _ _ _ (μ1, fg_rho R1, 304)
  refine fg_aloadn (fg_ft (pc := 1549) tb_Law_law_19 25 rfl) rfl ?_
  refine fg_aloadn (fg_ft (pc := 1550) tb_Law_law_19 26 rfl) rfl ?_
  refine fg_iloadn (fg_ft (pc := 1551) tb_Law_law_19 27 rfl) rfl ?_
  refine fg_iconst (fg_ft (pc := 1552) tb_Law_law_19 28 rfl) ic_1 ?_
  refine fg_iaddN (fg_ft (pc := 1553) tb_Law_law_19 29 rfl) ?_
  refine fg_sldN (fg_ft (pc := 1554) tb_Law_law_19 30 rfl) (by omega) h4 (hs 1) ?_
  refine fg_aloadn (fg_ft (pc := 1555) tb_Law_law_19 31 rfl) rfl ?_
  refine fg_iloadn (fg_ft (pc := 1556) tb_Law_law_19 32 rfl) rfl ?_
  refine fg_iconst (fg_ft (pc := 1557) tb_Law_law_19 33 rfl) ic_2 ?_
  refine fg_iaddN (fg_ft (pc := 1558) tb_Law_law_19 34 rfl) ?_
  refine fg_sldN (fg_ft (pc := 1559) tb_Law_law_19 35 rfl) (by omega) h4 (hs 2) ?_
  refine fg_aloadn (fg_ft (pc := 1560) tb_Law_law_19 36 rfl) rfl ?_
  refine fg_iloadn (fg_ft (pc := 1561) tb_Law_law_19 37 rfl) rfl ?_
  refine fg_iconst (fg_ft (pc := 1562) tb_Law_law_19 38 rfl) ic_3 ?_
  refine fg_iaddN (fg_ft (pc := 1563) tb_Law_law_19 39 rfl) ?_
  refine fg_sldN (fg_ft (pc := 1564) tb_Law_law_19 40 rfl) (by omega) h4 (hs 3) ?_
  refine fg_aloadn (fg_ft (pc := 1565) tb_Law_law_19 41 rfl) rfl ?_
  refine fg_iloadn (fg_ft (pc := 1566) tb_Law_law_19 42 rfl) rfl ?_
  refine fg_iconst (fg_ft (pc := 1567) tb_Law_law_19 43 rfl) ic_4 ?_
  refine fg_iaddN (fg_ft (pc := 1568) tb_Law_law_19 44 rfl) ?_
  refine fg_sldN (fg_ft (pc := 1569) tb_Law_law_19 45 rfl) (by omega) h4 (hs 4) ?_
  refine fg_aloadn (fg_ft (pc := 1570) tb_Law_law_19 46 rfl) rfl ?_
  refine fg_iloadn (fg_ft (pc := 1571) tb_Law_law_19 47 rfl) rfl ?_
  refine fg_iconst (fg_ft (pc := 1572) tb_Law_law_19 48 rfl) ic_5 ?_
  refine fg_iaddN (fg_ft (pc := 1573) tb_Law_law_19 49 rfl) ?_
  refine fg_sldN (fg_ft (pc := 1574) tb_Law_law_19 50 rfl) (by omega) h4 (hs 5) ?_
  refine fg_callV (fg_ft (pc := 1575) tb_Law_law_19 51 rfl) cf_Law_120 (fg_isOf ly_287 rfl (fg_lt ly_287 (by decide))) (as := [.int (nI (x 1)), .int (nI (x 2)), .int (nI (x 3)), .int (nI (x 4)), .int (nI (x 5))]) (st := [.int _]) rfl rfl (Nat.le_of_ble_eq_true rfl) (Nat.le_refl _) (Nat.le_refl _) (ev_Mo_pact hJ1.1.2.1 hJ1.1.1.wA hJ1.2.2.1.1 hJ1.2.2.1.2 (hx 1) (hx 2) (hx 3) (hx 4) (hx 5) ?_)
  intro μ2 ag2
  show fg_wp _ _ _ _ _ _ _ _ _ (μ2, fg_rho R1, 304)
  refine fg_icmp_eq (tgt := 2988) (fg_ft (pc := 1578) tb_Law_law_19 52 rfl) (by decide) (fun c1578 => ?_) (fun c1578 => (absurd rfl c1578))
  exact hK μ2 R1 A I (hJ1.R ag2)
theorem lw_k25 {E : fg_E} {d : Nat} {μ : Nat → Nat → Int32} {R : fg_T4} {Q : Option Value → fg_M → Prop} {A : fg_Tl} {I : Nat → fg_Tl} {i : Nat} {x : Nat → Nat} (hi : i + 8 ≤ E.2.2.2.2.2.2) (h4 : E.2.2.2.2.2.2 ≤ 4096) (hx : ∀ j, x j < 2 ^ 32) (hs : ∀ j, E.2.2.2.2.2.1 (i + j) = nI (x j)) (hJ : lw_J μ A I)  (hK : ∀ (μ' : Nat → Nat → Int32) (R' : fg_T4) (A' : fg_Tl) (I' : Nat → fg_Tl), lw_J μ' A' I' → fg_wp E yy_Law_law (d + 13) 100 304 Q 2988 [.ref 99, .ref 100, .ref 287, .int (nI i)] [] (μ', fg_rho R', 304)) : fg_wp E yy_Law_law (d + 13) 100 304 Q 1583 [.ref 99, .ref 100, .ref 287, .int (nI i)] [] (μ, fg_rho R, 304) := by
  refine fg_aloadn (fg_ft (pc := 1583) tb_Law_law_19 55 rfl) rfl ?_
  refine fg_aloadn (fg_ft (pc := 1584) tb_Law_law_19 56 rfl) rfl ?_
  refine fg_iloadn (fg_ft (pc := 1585) tb_Law_law_19 57 rfl) rfl ?_
  refine fg_iconst (fg_ft (pc := 1586) tb_Law_law_19 58 rfl) ic_1 ?_
  refine fg_iaddN (fg_ft (pc := 1587) tb_Law_law_19 59 rfl) ?_
  refine fg_sldN (fg_ft (pc := 1588) tb_Law_law_20 0 rfl) (by omega) h4 (hs 1) ?_
  refine fg_aloadn (fg_ft (pc := 1589) tb_Law_law_20 1 rfl) rfl ?_
  refine fg_iloadn (fg_ft (pc := 1590) tb_Law_law_20 2 rfl) rfl ?_
  refine fg_iconst (fg_ft (pc := 1591) tb_Law_law_20 3 rfl) ic_2 ?_
  refine fg_iaddN (fg_ft (pc := 1592) tb_Law_law_20 4 rfl) ?_
  refine fg_sldN (fg_ft (pc := 1593) tb_Law_law_20 5 rfl) (by omega) h4 (hs 2) ?_
  refine fg_aloadn (fg_ft (pc := 1594) tb_Law_law_20 6 rfl) rfl ?_
  refine fg_iloadn (fg_ft (pc := 1595) tb_Law_law_20 7 rfl) rfl ?_
  refine fg_iconst (fg_ft (pc := 1596) tb_Law_law_20 8 rfl) ic_3 ?_
  refine fg_iaddN (fg_ft (pc := 1597) tb_Law_law_20 9 rfl) ?_
  refine fg_sldN (fg_ft (pc := 1598) tb_Law_law_20 10 rfl) (by omega) h4 (hs 3) ?_
  refine fg_aloadn (fg_ft (pc := 1599) tb_Law_law_20 11 rfl) rfl ?_
  refine fg_iloadn (fg_ft (pc := 1600) tb_Law_law_20 12 rfl) rfl ?_
  refine fg_iconst (fg_ft (pc := 1601) tb_Law_law_20 13 rfl) ic_4 ?_
  refine fg_iaddN (fg_ft (pc := 1602) tb_Law_law_20 14 rfl) ?_
  refine fg_sldN (fg_ft (pc := 1603) tb_Law_law_20 15 rfl) (by omega) h4 (hs 4) ?_
  refine fg_aloadn (fg_ft (pc := 1604) tb_Law_law_20 16 rfl) rfl ?_
  refine fg_iloadn (fg_ft (pc := 1605) tb_Law_law_20 17 rfl) rfl ?_
  refine fg_iconst (fg_ft (pc := 1606) tb_Law_law_20 18 rfl) ic_5 ?_
  refine fg_iaddN (fg_ft (pc := 1607) tb_Law_law_20 19 rfl) ?_
  refine fg_sldN (fg_ft (pc := 1608) tb_Law_law_20 20 rfl) (by omega) h4 (hs 5) ?_
  refine fg_aloadn (fg_ft (pc := 1609) tb_Law_law_20 21 rfl) rfl ?_
  refine fg_iloadn (fg_ft (pc := 1610) tb_Law_law_20 22 rfl) rfl ?_
  refine fg_bipush (fg_ft (pc := 1611) tb_Law_law_20 23 rfl) ib_6 ?_
  refine fg_iaddN (fg_ft (pc := 1613) tb_Law_law_20 24 rfl) ?_
  refine fg_sldN (fg_ft (pc := 1614) tb_Law_law_20 25 rfl) (by omega) h4 (hs 6) ?_
  refine fg_aloadn (fg_ft (pc := 1615) tb_Law_law_20 26 rfl) rfl ?_
  refine fg_iloadn (fg_ft (pc := 1616) tb_Law_law_20 27 rfl) rfl ?_
  refine fg_bipush (fg_ft (pc := 1617) tb_Law_law_20 28 rfl) ib_7 ?_
  refine fg_iaddN (fg_ft (pc := 1619) tb_Law_law_20 29 rfl) ?_
  refine fg_sldN (fg_ft (pc := 1620) tb_Law_law_20 30 rfl) (by omega) h4 (hs 7) ?_
  refine fg_callV (fg_ft (pc := 1621) tb_Law_law_20 31 rfl) cf_Law_121 (fg_isOf ly_100 rfl (fg_lt ly_100 (by decide))) (as := [.int (nI (x 1)), .int (nI (x 2)), .int (nI (x 3)), .int (nI (x 4)), .int (nI (x 5)), .int (nI (x 6)), .int (nI (x 7))]) (st := []) rfl rfl (Nat.le_of_ble_eq_true rfl) (Nat.le_refl _) (Nat.le_refl _) (ev_Fb_guess hJ.1.1 (hx 1) (hx 2) (hx 3) (hx 4) (hx 5) (hx 6) (hx 7) ?_)
  intro μ1 R1 ag1
  have hJ1 := hJ.Q ag1
  show fg_wp _ _ _ _ _ _ _ _ _ (μ1, fg_rho R1, 304)
  refine fg_aloadn (fg_ft (pc := 1624) tb_Law_law_20 32 rfl) rfl ?_
  refine fg_aloadn (fg_ft (pc := 1625) tb_Law_law_20 33 rfl) rfl ?_
  refine fg_iloadn (fg_ft (pc := 1626) tb_Law_law_20 34 rfl) rfl ?_
  refine fg_iconst (fg_ft (pc := 1627) tb_Law_law_20 35 rfl) ic_1 ?_
  refine fg_iaddN (fg_ft (pc := 1628) tb_Law_law_20 36 rfl) ?_
  refine fg_sldN (fg_ft (pc := 1629) tb_Law_law_20 37 rfl) (by omega) h4 (hs 1) ?_
  refine fg_aloadn (fg_ft (pc := 1630) tb_Law_law_20 38 rfl) rfl ?_
  refine fg_iloadn (fg_ft (pc := 1631) tb_Law_law_20 39 rfl) rfl ?_
  refine fg_iconst (fg_ft (pc := 1632) tb_Law_law_20 40 rfl) ic_2 ?_
  refine fg_iaddN (fg_ft (pc := 1633) tb_Law_law_20 41 rfl) ?_
  refine fg_sldN (fg_ft (pc := 1634) tb_Law_law_20 42 rfl) (by omega) h4 (hs 2) ?_
  refine fg_aloadn (fg_ft (pc := 1635) tb_Law_law_20 43 rfl) rfl ?_
  refine fg_iloadn (fg_ft (pc := 1636) tb_Law_law_20 44 rfl) rfl ?_
  refine fg_iconst (fg_ft (pc := 1637) tb_Law_law_20 45 rfl) ic_3 ?_
  refine fg_iaddN (fg_ft (pc := 1638) tb_Law_law_20 46 rfl) ?_
  refine fg_sldN (fg_ft (pc := 1639) tb_Law_law_20 47 rfl) (by omega) h4 (hs 3) ?_
  refine fg_aloadn (fg_ft (pc := 1640) tb_Law_law_20 48 rfl) rfl ?_
  refine fg_iloadn (fg_ft (pc := 1641) tb_Law_law_20 49 rfl) rfl ?_
  refine fg_iconst (fg_ft (pc := 1642) tb_Law_law_20 50 rfl) ic_4 ?_
  refine fg_iaddN (fg_ft (pc := 1643) tb_Law_law_20 51 rfl) ?_
  refine fg_sldN (fg_ft (pc := 1644) tb_Law_law_20 52 rfl) (by omega) h4 (hs 4) ?_
  refine fg_aloadn (fg_ft (pc := 1645) tb_Law_law_20 53 rfl) rfl ?_
  refine fg_iloadn (fg_ft (pc := 1646) tb_Law_law_20 54 rfl) rfl ?_
  refine fg_iconst (fg_ft (pc := 1647) tb_Law_law_20 55 rfl) ic_5 ?_
  refine fg_iaddN (fg_ft (pc := 1648) tb_Law_law_20 56 rfl) ?_
  refine fg_sldN (fg_ft (pc := 1649) tb_Law_law_20 57 rfl) (by omega) h4 (hs 5) ?_
  refine fg_aloadn (fg_ft (pc := 1650) tb_Law_law_20 58 rfl) rfl ?_
  refine fg_iloadn (fg_ft (pc := 1651) tb_Law_law_20 59 rfl) rfl ?_
  refine fg_bipush (fg_ft (pc := 1652) tb_Law_law_21 0 rfl) ib_6 ?_
  refine fg_iaddN (fg_ft (pc := 1654) tb_Law_law_21 1 rfl) ?_
  refine fg_sldN (fg_ft (pc := 1655) tb_Law_law_21 2 rfl) (by omega) h4 (hs 6) ?_
  refine fg_aloadn (fg_ft (pc := 1656) tb_Law_law_21 3 rfl) rfl ?_
  refine fg_iloadn (fg_ft (pc := 1657) tb_Law_law_21 4 rfl) rfl ?_
  refine fg_bipush (fg_ft (pc := 1658) tb_Law_law_21 5 rfl) ib_7 ?_
  refine fg_iaddN (fg_ft (pc := 1660) tb_Law_law_21 6 rfl) ?_
  refine fg_sldN (fg_ft (pc := 1661) tb_Law_law_21 7 rfl) (by omega) h4 (hs 7) ?_
  refine fg_callV (fg_ft (pc := 1662) tb_Law_law_21 8 rfl) cf_Law_124 (fg_isOf ly_287 rfl (fg_lt ly_287 (by decide))) (as := [.int (nI (x 1)), .int (nI (x 2)), .int (nI (x 3)), .int (nI (x 4)), .int (nI (x 5)), .int (nI (x 6)), .int (nI (x 7))]) (st := [.int _]) rfl rfl (Nat.le_of_ble_eq_true rfl) (Nat.le_refl _) (Nat.le_refl _) (ev_Mo_guess hJ1.1.2.1 hJ1.1.1.wA hJ1.2.2.1.1 hJ1.2.2.1.2 (hx 1) (hx 2) (hx 3) (hx 4) (hx 5) (hx 6) (hx 7) ?_)
  intro μ2 ag2
  show fg_wp _ _ _ _ _ _ _ _ _ (μ2, fg_rho R1, 304)
  refine fg_icmp_eq (tgt := 2988) (fg_ft (pc := 1665) tb_Law_law_21 9 rfl) (by decide) (fun c1665 => ?_) (fun c1665 => (absurd rfl c1665))
  exact hK μ2 R1 A I (hJ1.R ag2)
theorem lw_k26 {E : fg_E} {d : Nat} {μ : Nat → Nat → Int32} {R : fg_T4} {Q : Option Value → fg_M → Prop} {A : fg_Tl} {I : Nat → fg_Tl} {i : Nat} {x : Nat → Nat} (hi : i + 8 ≤ E.2.2.2.2.2.2) (h4 : E.2.2.2.2.2.2 ≤ 4096) (hx : ∀ j, x j < 2 ^ 32) (hs : ∀ j, E.2.2.2.2.2.1 (i + j) = nI (x j)) (hJ : lw_J μ A I)  (hK : ∀ (μ' : Nat → Nat → Int32) (R' : fg_T4) (A' : fg_Tl) (I' : Nat → fg_Tl), lw_J μ' A' I' → fg_wp E yy_Law_law (d + 13) 100 304 Q 2988 [.ref 99, .ref 100, .ref 287, .int (nI i)] [] (μ', fg_rho R', 304)) : fg_wp E yy_Law_law (d + 13) 100 304 Q 1670 [.ref 99, .ref 100, .ref 287, .int (nI i)] [] (μ, fg_rho R, 304) := by
  refine fg_aloadn (fg_ft (pc := 1670) tb_Law_law_21 12 rfl) rfl ?_
  refine fg_aloadn (fg_ft (pc := 1671) tb_Law_law_21 13 rfl) rfl ?_
  refine fg_iloadn (fg_ft (pc := 1672) tb_Law_law_21 14 rfl) rfl ?_
  refine fg_iconst (fg_ft (pc := 1673) tb_Law_law_21 15 rfl) ic_1 ?_
  refine fg_iaddN (fg_ft (pc := 1674) tb_Law_law_21 16 rfl) ?_
  refine fg_sldN (fg_ft (pc := 1675) tb_Law_law_21 17 rfl) (by omega) h4 (hs 1) ?_
  refine fg_aloadn (fg_ft (pc := 1676) tb_Law_law_21 18 rfl) rfl ?_
  refine fg_iloadn (fg_ft (pc := 1677) tb_Law_law_21 19 rfl) rfl ?_
  refine fg_iconst (fg_ft (pc := 1678) tb_Law_law_21 20 rfl) ic_2 ?_
  refine fg_iaddN (fg_ft (pc := 1679) tb_Law_law_21 21 rfl) ?_
  refine fg_sldN (fg_ft (pc := 1680) tb_Law_law_21 22 rfl) (by omega) h4 (hs 2) ?_
  refine fg_aloadn (fg_ft (pc := 1681) tb_Law_law_21 23 rfl) rfl ?_
  refine fg_iloadn (fg_ft (pc := 1682) tb_Law_law_21 24 rfl) rfl ?_
  refine fg_iconst (fg_ft (pc := 1683) tb_Law_law_21 25 rfl) ic_3 ?_
  refine fg_iaddN (fg_ft (pc := 1684) tb_Law_law_21 26 rfl) ?_
  refine fg_sldN (fg_ft (pc := 1685) tb_Law_law_21 27 rfl) (by omega) h4 (hs 3) ?_
  refine fg_aloadn (fg_ft (pc := 1686) tb_Law_law_21 28 rfl) rfl ?_
  refine fg_iloadn (fg_ft (pc := 1687) tb_Law_law_21 29 rfl) rfl ?_
  refine fg_iconst (fg_ft (pc := 1688) tb_Law_law_21 30 rfl) ic_4 ?_
  refine fg_iaddN (fg_ft (pc := 1689) tb_Law_law_21 31 rfl) ?_
  refine fg_sldN (fg_ft (pc := 1690) tb_Law_law_21 32 rfl) (by omega) h4 (hs 4) ?_
  refine fg_aloadn (fg_ft (pc := 1691) tb_Law_law_21 33 rfl) rfl ?_
  refine fg_iloadn (fg_ft (pc := 1692) tb_Law_law_21 34 rfl) rfl ?_
  refine fg_iconst (fg_ft (pc := 1693) tb_Law_law_21 35 rfl) ic_5 ?_
  refine fg_iaddN (fg_ft (pc := 1694) tb_Law_law_21 36 rfl) ?_
  refine fg_sldN (fg_ft (pc := 1695) tb_Law_law_21 37 rfl) (by omega) h4 (hs 5) ?_
  refine fg_aloadn (fg_ft (pc := 1696) tb_Law_law_21 38 rfl) rfl ?_
  refine fg_iloadn (fg_ft (pc := 1697) tb_Law_law_21 39 rfl) rfl ?_
  refine fg_bipush (fg_ft (pc := 1698) tb_Law_law_21 40 rfl) ib_6 ?_
  refine fg_iaddN (fg_ft (pc := 1700) tb_Law_law_21 41 rfl) ?_
  refine fg_sldN (fg_ft (pc := 1701) tb_Law_law_21 42 rfl) (by omega) h4 (hs 6) ?_
  refine fg_if_eqW (tgt := 1709) (fg_ft (pc := 1702) tb_Law_law_21 43 rfl) (by decide) (hx 6) (fun c1702 => ?_) (fun c1702 => ?_)
  · refine fg_iconst (fg_ft (pc := 1709) tb_Law_law_21 46 rfl) ic_0 ?_
    refine fg_callV (fg_ft (pc := 1710) tb_Law_law_21 47 rfl) cf_Law_125 (fg_isOf ly_100 rfl (fg_lt ly_100 (by decide))) (as := [.int (nI (x 1)), .int (nI (x 2)), .int (nI (x 3)), .int (nI (x 4)), .int (nI (x 5)), .int (nI 0)]) (st := []) rfl rfl (Nat.le_of_ble_eq_true rfl) (Nat.le_refl _) (Nat.le_refl _) (ev_Fb_ask0 hJ.1.1 (hx 1) (hx 2) (hx 3) (hx 4) (hx 5) ?_)
    intro μ1 R1 ag1
    have hJ1 := hJ.Q ag1
    show fg_wp _ _ _ _ _ _ _ _ _ (μ1, fg_rho R1, 304)
    refine fg_aloadn (fg_ft (pc := 1713) tb_Law_law_21 48 rfl) rfl ?_
    refine fg_aloadn (fg_ft (pc := 1714) tb_Law_law_21 49 rfl) rfl ?_
    refine fg_iloadn (fg_ft (pc := 1715) tb_Law_law_21 50 rfl) rfl ?_
    refine fg_iconst (fg_ft (pc := 1716) tb_Law_law_21 51 rfl) ic_1 ?_
    refine fg_iaddN (fg_ft (pc := 1717) tb_Law_law_21 52 rfl) ?_
    refine fg_sldN (fg_ft (pc := 1718) tb_Law_law_21 53 rfl) (by omega) h4 (hs 1) ?_
    refine fg_aloadn (fg_ft (pc := 1719) tb_Law_law_21 54 rfl) rfl ?_
    refine fg_iloadn (fg_ft (pc := 1720) tb_Law_law_21 55 rfl) rfl ?_
    refine fg_iconst (fg_ft (pc := 1721) tb_Law_law_21 56 rfl) ic_2 ?_
    refine fg_iaddN (fg_ft (pc := 1722) tb_Law_law_21 57 rfl) ?_
    refine fg_sldN (fg_ft (pc := 1723) tb_Law_law_21 58 rfl) (by omega) h4 (hs 2) ?_
    refine fg_aloadn (fg_ft (pc := 1724) tb_Law_law_21 59 rfl) rfl ?_
    refine fg_iloadn (fg_ft (pc := 1725) tb_Law_law_22 0 rfl) rfl ?_
    refine fg_iconst (fg_ft (pc := 1726) tb_Law_law_22 1 rfl) ic_3 ?_
    refine fg_iaddN (fg_ft (pc := 1727) tb_Law_law_22 2 rfl) ?_
    refine fg_sldN (fg_ft (pc := 1728) tb_Law_law_22 3 rfl) (by omega) h4 (hs 3) ?_
    refine fg_aloadn (fg_ft (pc := 1729) tb_Law_law_22 4 rfl) rfl ?_
    refine fg_iloadn (fg_ft (pc := 1730) tb_Law_law_22 5 rfl) rfl ?_
    refine fg_iconst (fg_ft (pc := 1731) tb_Law_law_22 6 rfl) ic_4 ?_
    refine fg_iaddN (fg_ft (pc := 1732) tb_Law_law_22 7 rfl) ?_
    refine fg_sldN (fg_ft (pc := 1733) tb_Law_law_22 8 rfl) (by omega) h4 (hs 4) ?_
    refine fg_aloadn (fg_ft (pc := 1734) tb_Law_law_22 9 rfl) rfl ?_
    refine fg_iloadn (fg_ft (pc := 1735) tb_Law_law_22 10 rfl) rfl ?_
    refine fg_iconst (fg_ft (pc := 1736) tb_Law_law_22 11 rfl) ic_5 ?_
    refine fg_iaddN (fg_ft (pc := 1737) tb_Law_law_22 12 rfl) ?_
    refine fg_sldN (fg_ft (pc := 1738) tb_Law_law_22 13 rfl) (by omega) h4 (hs 5) ?_
    refine fg_aloadn (fg_ft (pc := 1739) tb_Law_law_22 14 rfl) rfl ?_
    refine fg_iloadn (fg_ft (pc := 1740) tb_Law_law_22 15 rfl) rfl ?_
    refine fg_bipush (fg_ft (pc := 1741) tb_Law_law_22 16 rfl) ib_6 ?_
    refine fg_iaddN (fg_ft (pc := 1743) tb_Law_law_22 17 rfl) ?_
    refine fg_sldN (fg_ft (pc := 1744) tb_Law_law_22 18 rfl) (by omega) h4 (hs 6) ?_
    refine fg_if_eqW (tgt := 1752) (fg_ft (pc := 1745) tb_Law_law_22 19 rfl) (by decide) (hx 6) (fun c1745 => ?_) (fun c1745 => (absurd c1702 c1745))
    refine fg_iconst (fg_ft (pc := 1752) tb_Law_law_22 22 rfl) ic_0 ?_
    refine fg_callV (fg_ft (pc := 1753) tb_Law_law_22 23 rfl) cf_Law_129 (fg_isOf ly_287 rfl (fg_lt ly_287 (by decide))) (as := [.int (nI (x 1)), .int (nI (x 2)), .int (nI (x 3)), .int (nI (x 4)), .int (nI (x 5)), .int (nI 0)]) (st := [.int _]) rfl rfl (Nat.le_of_ble_eq_true rfl) (Nat.le_refl _) (Nat.le_refl _) (ev_Mo_ask0 hJ1.1.2.1 hJ1.1.1.wA hJ1.2.2.1.1 hJ1.2.2.1.2 (hx 1) (hx 2) (hx 3) (hx 4) (hx 5) ?_)
    intro μ2 ag2
    show fg_wp _ _ _ _ _ _ _ _ _ (μ2, fg_rho R1, 304)
    refine fg_icmp_eq (tgt := 2988) (fg_ft (pc := 1756) tb_Law_law_22 24 rfl) (by decide) (fun c1756 => ?_) (fun c1756 => (absurd rfl c1756))
    exact hK μ2 R1 A I (hJ1.R ag2)
  · refine fg_iconst (fg_ft (pc := 1705) tb_Law_law_21 44 rfl) ic_1 ?_
    refine fg_goto (tgt := 1710) (fg_ft (pc := 1706) tb_Law_law_21 45 rfl) (by decide) ?_
    refine fg_callV (fg_ft (pc := 1710) tb_Law_law_21 47 rfl) cf_Law_125 (fg_isOf ly_100 rfl (fg_lt ly_100 (by decide))) (as := [.int (nI (x 1)), .int (nI (x 2)), .int (nI (x 3)), .int (nI (x 4)), .int (nI (x 5)), .int (nI 1)]) (st := []) rfl rfl (Nat.le_of_ble_eq_true rfl) (Nat.le_refl _) (Nat.le_refl _) (ev_Fb_ask1 hJ.1.1 (hx 1) (hx 2) (hx 3) (hx 4) (hx 5) ?_)
    intro μ1 R1 ag1
    have hJ1 := hJ.Q ag1
    show fg_wp _ _ _ _ _ _ _ _ _ (μ1, fg_rho R1, 304)
    refine fg_aloadn (fg_ft (pc := 1713) tb_Law_law_21 48 rfl) rfl ?_
    refine fg_aloadn (fg_ft (pc := 1714) tb_Law_law_21 49 rfl) rfl ?_
    refine fg_iloadn (fg_ft (pc := 1715) tb_Law_law_21 50 rfl) rfl ?_
    refine fg_iconst (fg_ft (pc := 1716) tb_Law_law_21 51 rfl) ic_1 ?_
    refine fg_iaddN (fg_ft (pc := 1717) tb_Law_law_21 52 rfl) ?_
    refine fg_sldN (fg_ft (pc := 1718) tb_Law_law_21 53 rfl) (by omega) h4 (hs 1) ?_
    refine fg_aloadn (fg_ft (pc := 1719) tb_Law_law_21 54 rfl) rfl ?_
    refine fg_iloadn (fg_ft (pc := 1720) tb_Law_law_21 55 rfl) rfl ?_
    refine fg_iconst (fg_ft (pc := 1721) tb_Law_law_21 56 rfl) ic_2 ?_
    refine fg_iaddN (fg_ft (pc := 1722) tb_Law_law_21 57 rfl) ?_
    refine fg_sldN (fg_ft (pc := 1723) tb_Law_law_21 58 rfl) (by omega) h4 (hs 2) ?_
    refine fg_aloadn (fg_ft (pc := 1724) tb_Law_law_21 59 rfl) rfl ?_
    refine fg_iloadn (fg_ft (pc := 1725) tb_Law_law_22 0 rfl) rfl ?_
    refine fg_iconst (fg_ft (pc := 1726) tb_Law_law_22 1 rfl) ic_3 ?_
    refine fg_iaddN (fg_ft (pc := 1727) tb_Law_law_22 2 rfl) ?_
    refine fg_sldN (fg_ft (pc := 1728) tb_Law_law_22 3 rfl) (by omega) h4 (hs 3) ?_
    refine fg_aloadn (fg_ft (pc := 1729) tb_Law_law_22 4 rfl) rfl ?_
    refine fg_iloadn (fg_ft (pc := 1730) tb_Law_law_22 5 rfl) rfl ?_
    refine fg_iconst (fg_ft (pc := 1731) tb_Law_law_22 6 rfl) ic_4 ?_
    refine fg_iaddN (fg_ft (pc := 1732) tb_Law_law_22 7 rfl) ?_
    refine fg_sldN (fg_ft (pc := 1733) tb_Law_law_22 8 rfl) (by omega) h4 (hs 4) ?_
    refine fg_aloadn (fg_ft (pc := 1734) tb_Law_law_22 9 rfl) rfl ?_
    refine fg_iloadn (fg_ft (pc := 1735) tb_Law_law_22 10 rfl) rfl ?_
    refine fg_iconst (fg_ft (pc := 1736) tb_Law_law_22 11 rfl) ic_5 ?_
    refine fg_iaddN (fg_ft (pc := 1737) tb_Law_law_22 12 rfl) ?_
    refine fg_sldN (fg_ft (pc := 1738) tb_Law_law_22 13 rfl) (by omega) h4 (hs 5) ?_
    refine fg_aloadn (fg_ft (pc := 1739) tb_Law_law_22 14 rfl) rfl ?_
    refine fg_iloadn (fg_ft (pc := 1740) tb_Law_law_22 15 rfl) rfl ?_
    refine fg_bipush (fg_ft (pc := 1741) tb_Law_law_22 16 rfl) ib_6 ?_
    refine fg_iaddN (fg_ft (pc := 1743) tb_Law_law_22 17 rfl) ?_
    refine fg_sldN (fg_ft (pc := 1744) tb_Law_law_22 18 rfl) (by omega) h4 (hs 6) ?_
    refine fg_if_eqW (tgt := 1752) (fg_ft (pc := 1745) tb_Law_law_22 19 rfl) (by decide) (hx 6) (fun c1745 => (absurd c1745 c1702)) (fun c1745 => ?_)
    refine fg_iconst (fg_ft (pc := 1748) tb_Law_law_22 20 rfl) ic_1 ?_
    refine fg_goto (tgt := 1753) (fg_ft (pc := 1749) tb_Law_law_22 21 rfl) (by decide) ?_
    refine fg_callV (fg_ft (pc := 1753) tb_Law_law_22 23 rfl) cf_Law_129 (fg_isOf ly_287 rfl (fg_lt ly_287 (by decide))) (as := [.int (nI (x 1)), .int (nI (x 2)), .int (nI (x 3)), .int (nI (x 4)), .int (nI (x 5)), .int (nI 1)]) (st := [.int _]) rfl rfl (Nat.le_of_ble_eq_true rfl) (Nat.le_refl _) (Nat.le_refl _) (ev_Mo_ask1 hJ1.1.2.1 hJ1.1.1.wA hJ1.2.2.1.1 hJ1.2.2.1.2 (hx 1) (hx 2) (hx 3) (hx 4) (hx 5) ?_)
    intro μ2 ag2
    show fg_wp _ _ _ _ _ _ _ _ _ (μ2, fg_rho R1, 304)
    refine fg_icmp_eq (tgt := 2988) (fg_ft (pc := 1756) tb_Law_law_22 24 rfl) (by decide) (fun c1756 => ?_) (fun c1756 => (absurd rfl c1756))
    exact hK μ2 R1 A I (hJ1.R ag2)
theorem lw_k27 {E : fg_E} {d : Nat} {μ : Nat → Nat → Int32} {R : fg_T4} {Q : Option Value → fg_M → Prop} {A : fg_Tl} {I : Nat → fg_Tl} {i : Nat} {x : Nat → Nat} (hi : i + 8 ≤ E.2.2.2.2.2.2) (h4 : E.2.2.2.2.2.2 ≤ 4096) (hx : ∀ j, x j < 2 ^ 32) (hs : ∀ j, E.2.2.2.2.2.1 (i + j) = nI (x j)) (hJ : lw_J μ A I)  (hK : ∀ (μ' : Nat → Nat → Int32) (R' : fg_T4) (A' : fg_Tl) (I' : Nat → fg_Tl), lw_J μ' A' I' → fg_wp E yy_Law_law (d + 13) 100 304 Q 2988 [.ref 99, .ref 100, .ref 287, .int (nI i)] [] (μ', fg_rho R', 304)) : fg_wp E yy_Law_law (d + 13) 100 304 Q 1761 [.ref 99, .ref 100, .ref 287, .int (nI i)] [] (μ, fg_rho R, 304) := by
  refine fg_aloadn (fg_ft (pc := 1761) tb_Law_law_22 27 rfl) rfl ?_
  refine fg_aloadn (fg_ft (pc := 1762) tb_Law_law_22 28 rfl) rfl ?_
  refine fg_iloadn (fg_ft (pc := 1763) tb_Law_law_22 29 rfl) rfl ?_
  refine fg_iconst (fg_ft (pc := 1764) tb_Law_law_22 30 rfl) ic_1 ?_
  refine fg_iaddN (fg_ft (pc := 1765) tb_Law_law_22 31 rfl) ?_
  refine fg_sldN (fg_ft (pc := 1766) tb_Law_law_22 32 rfl) (by omega) h4 (hs 1) ?_
  refine fg_aloadn (fg_ft (pc := 1767) tb_Law_law_22 33 rfl) rfl ?_
  refine fg_iloadn (fg_ft (pc := 1768) tb_Law_law_22 34 rfl) rfl ?_
  refine fg_iconst (fg_ft (pc := 1769) tb_Law_law_22 35 rfl) ic_2 ?_
  refine fg_iaddN (fg_ft (pc := 1770) tb_Law_law_22 36 rfl) ?_
  refine fg_sldN (fg_ft (pc := 1771) tb_Law_law_22 37 rfl) (by omega) h4 (hs 2) ?_
  refine fg_aloadn (fg_ft (pc := 1772) tb_Law_law_22 38 rfl) rfl ?_
  refine fg_iloadn (fg_ft (pc := 1773) tb_Law_law_22 39 rfl) rfl ?_
  refine fg_iconst (fg_ft (pc := 1774) tb_Law_law_22 40 rfl) ic_3 ?_
  refine fg_iaddN (fg_ft (pc := 1775) tb_Law_law_22 41 rfl) ?_
  refine fg_sldN (fg_ft (pc := 1776) tb_Law_law_22 42 rfl) (by omega) h4 (hs 3) ?_
  refine fg_aloadn (fg_ft (pc := 1777) tb_Law_law_22 43 rfl) rfl ?_
  refine fg_iloadn (fg_ft (pc := 1778) tb_Law_law_22 44 rfl) rfl ?_
  refine fg_iconst (fg_ft (pc := 1779) tb_Law_law_22 45 rfl) ic_4 ?_
  refine fg_iaddN (fg_ft (pc := 1780) tb_Law_law_22 46 rfl) ?_
  refine fg_sldN (fg_ft (pc := 1781) tb_Law_law_22 47 rfl) (by omega) h4 (hs 4) ?_
  refine fg_aloadn (fg_ft (pc := 1782) tb_Law_law_22 48 rfl) rfl ?_
  refine fg_iloadn (fg_ft (pc := 1783) tb_Law_law_22 49 rfl) rfl ?_
  refine fg_iconst (fg_ft (pc := 1784) tb_Law_law_22 50 rfl) ic_5 ?_
  refine fg_iaddN (fg_ft (pc := 1785) tb_Law_law_22 51 rfl) ?_
  refine fg_sldN (fg_ft (pc := 1786) tb_Law_law_22 52 rfl) (by omega) h4 (hs 5) ?_
  refine fg_aloadn (fg_ft (pc := 1787) tb_Law_law_22 53 rfl) rfl ?_
  refine fg_iloadn (fg_ft (pc := 1788) tb_Law_law_22 54 rfl) rfl ?_
  refine fg_bipush (fg_ft (pc := 1789) tb_Law_law_22 55 rfl) ib_6 ?_
  refine fg_iaddN (fg_ft (pc := 1791) tb_Law_law_22 56 rfl) ?_
  refine fg_sldN (fg_ft (pc := 1792) tb_Law_law_22 57 rfl) (by omega) h4 (hs 6) ?_
  refine fg_callV (fg_ft (pc := 1793) tb_Law_law_22 58 rfl) cf_Law_130 (fg_isOf ly_100 rfl (fg_lt ly_100 (by decide))) (as := [.int (nI (x 1)), .int (nI (x 2)), .int (nI (x 3)), .int (nI (x 4)), .int (nI (x 5)), .int (nI (x 6))]) (st := []) rfl rfl (Nat.le_of_ble_eq_true rfl) (Nat.le_refl _) (Nat.le_refl _) (ev_Fb_note hJ.1.1 (hx 1) (hx 2) (hx 3) (hx 4) (hx 5) (hx 6) ?_)
  intro μ1 R1 ag1
  have hJ1 := hJ.Q ag1
  show fg_wp _ _ _ _ _ _ _ _ _ (μ1, fg_rho R1, 304)
  refine fg_aloadn (fg_ft (pc := 1796) tb_Law_law_22 59 rfl) rfl ?_
  refine fg_aloadn (fg_ft (pc := 1797) tb_Law_law_23 0 rfl) rfl ?_
  refine fg_iloadn (fg_ft (pc := 1798) tb_Law_law_23 1 rfl) rfl ?_
  refine fg_iconst (fg_ft (pc := 1799) tb_Law_law_23 2 rfl) ic_1 ?_
  refine fg_iaddN (fg_ft (pc := 1800) tb_Law_law_23 3 rfl) ?_
  refine fg_sldN (fg_ft (pc := 1801) tb_Law_law_23 4 rfl) (by omega) h4 (hs 1) ?_
  refine fg_aloadn (fg_ft (pc := 1802) tb_Law_law_23 5 rfl) rfl ?_
  refine fg_iloadn (fg_ft (pc := 1803) tb_Law_law_23 6 rfl) rfl ?_
  refine fg_iconst (fg_ft (pc := 1804) tb_Law_law_23 7 rfl) ic_2 ?_
  refine fg_iaddN (fg_ft (pc := 1805) tb_Law_law_23 8 rfl) ?_
  refine fg_sldN (fg_ft (pc := 1806) tb_Law_law_23 9 rfl) (by omega) h4 (hs 2) ?_
  refine fg_aloadn (fg_ft (pc := 1807) tb_Law_law_23 10 rfl) rfl ?_
  refine fg_iloadn (fg_ft (pc := 1808) tb_Law_law_23 11 rfl) rfl ?_
  refine fg_iconst (fg_ft (pc := 1809) tb_Law_law_23 12 rfl) ic_3 ?_
  refine fg_iaddN (fg_ft (pc := 1810) tb_Law_law_23 13 rfl) ?_
  refine fg_sldN (fg_ft (pc := 1811) tb_Law_law_23 14 rfl) (by omega) h4 (hs 3) ?_
  refine fg_aloadn (fg_ft (pc := 1812) tb_Law_law_23 15 rfl) rfl ?_
  refine fg_iloadn (fg_ft (pc := 1813) tb_Law_law_23 16 rfl) rfl ?_
  refine fg_iconst (fg_ft (pc := 1814) tb_Law_law_23 17 rfl) ic_4 ?_
  refine fg_iaddN (fg_ft (pc := 1815) tb_Law_law_23 18 rfl) ?_
  refine fg_sldN (fg_ft (pc := 1816) tb_Law_law_23 19 rfl) (by omega) h4 (hs 4) ?_
  refine fg_aloadn (fg_ft (pc := 1817) tb_Law_law_23 20 rfl) rfl ?_
  refine fg_iloadn (fg_ft (pc := 1818) tb_Law_law_23 21 rfl) rfl ?_
  refine fg_iconst (fg_ft (pc := 1819) tb_Law_law_23 22 rfl) ic_5 ?_
  refine fg_iaddN (fg_ft (pc := 1820) tb_Law_law_23 23 rfl) ?_
  refine fg_sldN (fg_ft (pc := 1821) tb_Law_law_23 24 rfl) (by omega) h4 (hs 5) ?_
  refine fg_aloadn (fg_ft (pc := 1822) tb_Law_law_23 25 rfl) rfl ?_
  refine fg_iloadn (fg_ft (pc := 1823) tb_Law_law_23 26 rfl) rfl ?_
  refine fg_bipush (fg_ft (pc := 1824) tb_Law_law_23 27 rfl) ib_6 ?_
  refine fg_iaddN (fg_ft (pc := 1826) tb_Law_law_23 28 rfl) ?_
  refine fg_sldN (fg_ft (pc := 1827) tb_Law_law_23 29 rfl) (by omega) h4 (hs 6) ?_
  refine fg_callV (fg_ft (pc := 1828) tb_Law_law_23 30 rfl) cf_Law_133 (fg_isOf ly_287 rfl (fg_lt ly_287 (by decide))) (as := [.int (nI (x 1)), .int (nI (x 2)), .int (nI (x 3)), .int (nI (x 4)), .int (nI (x 5)), .int (nI (x 6))]) (st := [.int _]) rfl rfl (Nat.le_of_ble_eq_true rfl) (Nat.le_refl _) (Nat.le_refl _) (ev_Mo_note hJ1.1.2.1 hJ1.1.1.wA hJ1.2.2.1.1 hJ1.2.2.1.2 (hx 1) (hx 2) (hx 3) (hx 4) (hx 5) (hx 6) ?_)
  intro μ2 ag2
  show fg_wp _ _ _ _ _ _ _ _ _ (μ2, fg_rho R1, 304)
  refine fg_icmp_eq (tgt := 2988) (fg_ft (pc := 1831) tb_Law_law_23 31 rfl) (by decide) (fun c1831 => ?_) (fun c1831 => (absurd rfl c1831))
  exact hK μ2 R1 A I (hJ1.R ag2)
theorem lw_k28 {E : fg_E} {d : Nat} {μ : Nat → Nat → Int32} {R : fg_T4} {Q : Option Value → fg_M → Prop} {A : fg_Tl} {I : Nat → fg_Tl} {i : Nat} {x : Nat → Nat} (hi : i + 8 ≤ E.2.2.2.2.2.2) (h4 : E.2.2.2.2.2.2 ≤ 4096) (hx : ∀ j, x j < 2 ^ 32) (hs : ∀ j, E.2.2.2.2.2.1 (i + j) = nI (x j)) (hJ : lw_J μ A I)  (hK : ∀ (μ' : Nat → Nat → Int32) (R' : fg_T4) (A' : fg_Tl) (I' : Nat → fg_Tl), lw_J μ' A' I' → fg_wp E yy_Law_law (d + 13) 100 304 Q 2988 [.ref 99, .ref 100, .ref 287, .int (nI i)] [] (μ', fg_rho R', 304)) : fg_wp E yy_Law_law (d + 13) 100 304 Q 1836 [.ref 99, .ref 100, .ref 287, .int (nI i)] [] (μ, fg_rho R, 304) := by
  refine fg_aloadn (fg_ft (pc := 1836) tb_Law_law_23 34 rfl) rfl ?_
  refine fg_aloadn (fg_ft (pc := 1837) tb_Law_law_23 35 rfl) rfl ?_
  refine fg_iloadn (fg_ft (pc := 1838) tb_Law_law_23 36 rfl) rfl ?_
  refine fg_iconst (fg_ft (pc := 1839) tb_Law_law_23 37 rfl) ic_1 ?_
  refine fg_iaddN (fg_ft (pc := 1840) tb_Law_law_23 38 rfl) ?_
  refine fg_sldN (fg_ft (pc := 1841) tb_Law_law_23 39 rfl) (by omega) h4 (hs 1) ?_
  refine fg_aloadn (fg_ft (pc := 1842) tb_Law_law_23 40 rfl) rfl ?_
  refine fg_iloadn (fg_ft (pc := 1843) tb_Law_law_23 41 rfl) rfl ?_
  refine fg_iconst (fg_ft (pc := 1844) tb_Law_law_23 42 rfl) ic_2 ?_
  refine fg_iaddN (fg_ft (pc := 1845) tb_Law_law_23 43 rfl) ?_
  refine fg_sldN (fg_ft (pc := 1846) tb_Law_law_23 44 rfl) (by omega) h4 (hs 2) ?_
  refine fg_aloadn (fg_ft (pc := 1847) tb_Law_law_23 45 rfl) rfl ?_
  refine fg_iloadn (fg_ft (pc := 1848) tb_Law_law_23 46 rfl) rfl ?_
  refine fg_iconst (fg_ft (pc := 1849) tb_Law_law_23 47 rfl) ic_3 ?_
  refine fg_iaddN (fg_ft (pc := 1850) tb_Law_law_23 48 rfl) ?_
  refine fg_sldN (fg_ft (pc := 1851) tb_Law_law_23 49 rfl) (by omega) h4 (hs 3) ?_
  refine fg_aloadn (fg_ft (pc := 1852) tb_Law_law_23 50 rfl) rfl ?_
  refine fg_iloadn (fg_ft (pc := 1853) tb_Law_law_23 51 rfl) rfl ?_
  refine fg_iconst (fg_ft (pc := 1854) tb_Law_law_23 52 rfl) ic_4 ?_
  refine fg_iaddN (fg_ft (pc := 1855) tb_Law_law_23 53 rfl) ?_
  refine fg_sldN (fg_ft (pc := 1856) tb_Law_law_23 54 rfl) (by omega) h4 (hs 4) ?_
  refine fg_aloadn (fg_ft (pc := 1857) tb_Law_law_23 55 rfl) rfl ?_
  refine fg_iloadn (fg_ft (pc := 1858) tb_Law_law_23 56 rfl) rfl ?_
  refine fg_iconst (fg_ft (pc := 1859) tb_Law_law_23 57 rfl) ic_5 ?_
  refine fg_iaddN (fg_ft (pc := 1860) tb_Law_law_23 58 rfl) ?_
  refine fg_sldN (fg_ft (pc := 1861) tb_Law_law_23 59 rfl) (by omega) h4 (hs 5) ?_
  refine fg_callV (fg_ft (pc := 1862) tb_Law_law_24 0 rfl) cf_Law_134 (fg_isOf ly_100 rfl (fg_lt ly_100 (by decide))) (as := [.int (nI (x 1)), .int (nI (x 2)), .int (nI (x 3)), .int (nI (x 4)), .int (nI (x 5))]) (st := []) rfl rfl (Nat.le_of_ble_eq_true rfl) (Nat.le_refl _) (Nat.le_refl _) (ev_Fb_honest hJ.1.1 (hx 1) (hx 2) (hx 3) (hx 4) (hx 5) ?_)
  intro μ1 R1 ag1
  have hJ1 := hJ.Q ag1
  show fg_wp _ _ _ _ _ _ _ _ _ (μ1, fg_rho R1, 304)
  refine fg_aloadn (fg_ft (pc := 1865) tb_Law_law_24 1 rfl) rfl ?_
  refine fg_aloadn (fg_ft (pc := 1866) tb_Law_law_24 2 rfl) rfl ?_
  refine fg_iloadn (fg_ft (pc := 1867) tb_Law_law_24 3 rfl) rfl ?_
  refine fg_iconst (fg_ft (pc := 1868) tb_Law_law_24 4 rfl) ic_1 ?_
  refine fg_iaddN (fg_ft (pc := 1869) tb_Law_law_24 5 rfl) ?_
  refine fg_sldN (fg_ft (pc := 1870) tb_Law_law_24 6 rfl) (by omega) h4 (hs 1) ?_
  refine fg_aloadn (fg_ft (pc := 1871) tb_Law_law_24 7 rfl) rfl ?_
  refine fg_iloadn (fg_ft (pc := 1872) tb_Law_law_24 8 rfl) rfl ?_
  refine fg_iconst (fg_ft (pc := 1873) tb_Law_law_24 9 rfl) ic_2 ?_
  refine fg_iaddN (fg_ft (pc := 1874) tb_Law_law_24 10 rfl) ?_
  refine fg_sldN (fg_ft (pc := 1875) tb_Law_law_24 11 rfl) (by omega) h4 (hs 2) ?_
  refine fg_aloadn (fg_ft (pc := 1876) tb_Law_law_24 12 rfl) rfl ?_
  refine fg_iloadn (fg_ft (pc := 1877) tb_Law_law_24 13 rfl) rfl ?_
  refine fg_iconst (fg_ft (pc := 1878) tb_Law_law_24 14 rfl) ic_3 ?_
  refine fg_iaddN (fg_ft (pc := 1879) tb_Law_law_24 15 rfl) ?_
  refine fg_sldN (fg_ft (pc := 1880) tb_Law_law_24 16 rfl) (by omega) h4 (hs 3) ?_
  refine fg_aloadn (fg_ft (pc := 1881) tb_Law_law_24 17 rfl) rfl ?_
  refine fg_iloadn (fg_ft (pc := 1882) tb_Law_law_24 18 rfl) rfl ?_
  refine fg_iconst (fg_ft (pc := 1883) tb_Law_law_24 19 rfl) ic_4 ?_
  refine fg_iaddN (fg_ft (pc := 1884) tb_Law_law_24 20 rfl) ?_
  refine fg_sldN (fg_ft (pc := 1885) tb_Law_law_24 21 rfl) (by omega) h4 (hs 4) ?_
  refine fg_aloadn (fg_ft (pc := 1886) tb_Law_law_24 22 rfl) rfl ?_
  refine fg_iloadn (fg_ft (pc := 1887) tb_Law_law_24 23 rfl) rfl ?_
  refine fg_iconst (fg_ft (pc := 1888) tb_Law_law_24 24 rfl) ic_5 ?_
  refine fg_iaddN (fg_ft (pc := 1889) tb_Law_law_24 25 rfl) ?_
  refine fg_sldN (fg_ft (pc := 1890) tb_Law_law_24 26 rfl) (by omega) h4 (hs 5) ?_
  refine fg_callV (fg_ft (pc := 1891) tb_Law_law_24 27 rfl) cf_Law_137 (fg_isOf ly_287 rfl (fg_lt ly_287 (by decide))) (as := [.int (nI (x 1)), .int (nI (x 2)), .int (nI (x 3)), .int (nI (x 4)), .int (nI (x 5))]) (st := [.int _]) rfl rfl (Nat.le_of_ble_eq_true rfl) (Nat.le_refl _) (Nat.le_refl _) (ev_Mo_honest hJ1.1.2.1 hJ1.1.1.wA hJ1.2.2.1.1 hJ1.2.2.1.2 (hx 1) (hx 2) (hx 3) (hx 4) (hx 5) ?_)
  intro μ2 ag2
  show fg_wp _ _ _ _ _ _ _ _ _ (μ2, fg_rho R1, 304)
  refine fg_icmp_eq (tgt := 2988) (fg_ft (pc := 1894) tb_Law_law_24 28 rfl) (by decide) (fun c1894 => ?_) (fun c1894 => (absurd rfl c1894))
  exact hK μ2 R1 A I (hJ1.R ag2)
theorem lw_k29 {E : fg_E} {d : Nat} {μ : Nat → Nat → Int32} {R : fg_T4} {Q : Option Value → fg_M → Prop} {A : fg_Tl} {I : Nat → fg_Tl} {i : Nat} {x : Nat → Nat} (hi : i + 8 ≤ E.2.2.2.2.2.2) (h4 : E.2.2.2.2.2.2 ≤ 4096) (hx : ∀ j, x j < 2 ^ 32) (hs : ∀ j, E.2.2.2.2.2.1 (i + j) = nI (x j)) (hJ : lw_J μ A I)  (hK : ∀ (μ' : Nat → Nat → Int32) (R' : fg_T4) (A' : fg_Tl) (I' : Nat → fg_Tl), lw_J μ' A' I' → fg_wp E yy_Law_law (d + 13) 100 304 Q 2988 [.ref 99, .ref 100, .ref 287, .int (nI i)] [] (μ', fg_rho R', 304)) : fg_wp E yy_Law_law (d + 13) 100 304 Q 1899 [.ref 99, .ref 100, .ref 287, .int (nI i)] [] (μ, fg_rho R, 304) := by
  refine fg_aloadn (fg_ft (pc := 1899) tb_Law_law_24 31 rfl) rfl ?_
  refine fg_aloadn (fg_ft (pc := 1900) tb_Law_law_24 32 rfl) rfl ?_
  refine fg_iloadn (fg_ft (pc := 1901) tb_Law_law_24 33 rfl) rfl ?_
  refine fg_iconst (fg_ft (pc := 1902) tb_Law_law_24 34 rfl) ic_1 ?_
  refine fg_iaddN (fg_ft (pc := 1903) tb_Law_law_24 35 rfl) ?_
  refine fg_sldN (fg_ft (pc := 1904) tb_Law_law_24 36 rfl) (by omega) h4 (hs 1) ?_
  refine fg_aloadn (fg_ft (pc := 1905) tb_Law_law_24 37 rfl) rfl ?_
  refine fg_iloadn (fg_ft (pc := 1906) tb_Law_law_24 38 rfl) rfl ?_
  refine fg_iconst (fg_ft (pc := 1907) tb_Law_law_24 39 rfl) ic_2 ?_
  refine fg_iaddN (fg_ft (pc := 1908) tb_Law_law_24 40 rfl) ?_
  refine fg_sldN (fg_ft (pc := 1909) tb_Law_law_24 41 rfl) (by omega) h4 (hs 2) ?_
  refine fg_aloadn (fg_ft (pc := 1910) tb_Law_law_24 42 rfl) rfl ?_
  refine fg_iloadn (fg_ft (pc := 1911) tb_Law_law_24 43 rfl) rfl ?_
  refine fg_iconst (fg_ft (pc := 1912) tb_Law_law_24 44 rfl) ic_3 ?_
  refine fg_iaddN (fg_ft (pc := 1913) tb_Law_law_24 45 rfl) ?_
  refine fg_sldN (fg_ft (pc := 1914) tb_Law_law_24 46 rfl) (by omega) h4 (hs 3) ?_
  refine fg_aloadn (fg_ft (pc := 1915) tb_Law_law_24 47 rfl) rfl ?_
  refine fg_iloadn (fg_ft (pc := 1916) tb_Law_law_24 48 rfl) rfl ?_
  refine fg_iconst (fg_ft (pc := 1917) tb_Law_law_24 49 rfl) ic_4 ?_
  refine fg_iaddN (fg_ft (pc := 1918) tb_Law_law_24 50 rfl) ?_
  refine fg_sldN (fg_ft (pc := 1919) tb_Law_law_24 51 rfl) (by omega) h4 (hs 4) ?_
  refine fg_aloadn (fg_ft (pc := 1920) tb_Law_law_24 52 rfl) rfl ?_
  refine fg_iloadn (fg_ft (pc := 1921) tb_Law_law_24 53 rfl) rfl ?_
  refine fg_iconst (fg_ft (pc := 1922) tb_Law_law_24 54 rfl) ic_5 ?_
  refine fg_iaddN (fg_ft (pc := 1923) tb_Law_law_24 55 rfl) ?_
  refine fg_sldN (fg_ft (pc := 1924) tb_Law_law_24 56 rfl) (by omega) h4 (hs 5) ?_
  refine fg_aloadn (fg_ft (pc := 1925) tb_Law_law_24 57 rfl) rfl ?_
  refine fg_iloadn (fg_ft (pc := 1926) tb_Law_law_24 58 rfl) rfl ?_
  refine fg_bipush (fg_ft (pc := 1927) tb_Law_law_24 59 rfl) ib_6 ?_
  refine fg_iaddN (fg_ft (pc := 1929) tb_Law_law_25 0 rfl) ?_
  refine fg_sldN (fg_ft (pc := 1930) tb_Law_law_25 1 rfl) (by omega) h4 (hs 6) ?_
  refine fg_callV (fg_ft (pc := 1931) tb_Law_law_25 2 rfl) cf_Law_138 (fg_isOf ly_100 rfl (fg_lt ly_100 (by decide))) (as := [.int (nI (x 1)), .int (nI (x 2)), .int (nI (x 3)), .int (nI (x 4)), .int (nI (x 5)), .int (nI (x 6))]) (st := []) rfl rfl (Nat.le_of_ble_eq_true rfl) (Nat.le_refl _) (Nat.le_refl _) (ev_Fb_trial hJ.1.1 (hx 1) (hx 2) (hx 3) (hx 4) (hx 5) (hx 6) ?_)
  intro μ1 R1 ag1
  have hJ1 := hJ.Q ag1
  show fg_wp _ _ _ _ _ _ _ _ _ (μ1, fg_rho R1, 304)
  refine fg_aloadn (fg_ft (pc := 1934) tb_Law_law_25 3 rfl) rfl ?_
  refine fg_aloadn (fg_ft (pc := 1935) tb_Law_law_25 4 rfl) rfl ?_
  refine fg_iloadn (fg_ft (pc := 1936) tb_Law_law_25 5 rfl) rfl ?_
  refine fg_iconst (fg_ft (pc := 1937) tb_Law_law_25 6 rfl) ic_1 ?_
  refine fg_iaddN (fg_ft (pc := 1938) tb_Law_law_25 7 rfl) ?_
  refine fg_sldN (fg_ft (pc := 1939) tb_Law_law_25 8 rfl) (by omega) h4 (hs 1) ?_
  refine fg_aloadn (fg_ft (pc := 1940) tb_Law_law_25 9 rfl) rfl ?_
  refine fg_iloadn (fg_ft (pc := 1941) tb_Law_law_25 10 rfl) rfl ?_
  refine fg_iconst (fg_ft (pc := 1942) tb_Law_law_25 11 rfl) ic_2 ?_
  refine fg_iaddN (fg_ft (pc := 1943) tb_Law_law_25 12 rfl) ?_
  refine fg_sldN (fg_ft (pc := 1944) tb_Law_law_25 13 rfl) (by omega) h4 (hs 2) ?_
  refine fg_aloadn (fg_ft (pc := 1945) tb_Law_law_25 14 rfl) rfl ?_
  refine fg_iloadn (fg_ft (pc := 1946) tb_Law_law_25 15 rfl) rfl ?_
  refine fg_iconst (fg_ft (pc := 1947) tb_Law_law_25 16 rfl) ic_3 ?_
  refine fg_iaddN (fg_ft (pc := 1948) tb_Law_law_25 17 rfl) ?_
  refine fg_sldN (fg_ft (pc := 1949) tb_Law_law_25 18 rfl) (by omega) h4 (hs 3) ?_
  refine fg_aloadn (fg_ft (pc := 1950) tb_Law_law_25 19 rfl) rfl ?_
  refine fg_iloadn (fg_ft (pc := 1951) tb_Law_law_25 20 rfl) rfl ?_
  refine fg_iconst (fg_ft (pc := 1952) tb_Law_law_25 21 rfl) ic_4 ?_
  refine fg_iaddN (fg_ft (pc := 1953) tb_Law_law_25 22 rfl) ?_
  refine fg_sldN (fg_ft (pc := 1954) tb_Law_law_25 23 rfl) (by omega) h4 (hs 4) ?_
  refine fg_aloadn (fg_ft (pc := 1955) tb_Law_law_25 24 rfl) rfl ?_
  refine fg_iloadn (fg_ft (pc := 1956) tb_Law_law_25 25 rfl) rfl ?_
  refine fg_iconst (fg_ft (pc := 1957) tb_Law_law_25 26 rfl) ic_5 ?_
  refine fg_iaddN (fg_ft (pc := 1958) tb_Law_law_25 27 rfl) ?_
  refine fg_sldN (fg_ft (pc := 1959) tb_Law_law_25 28 rfl) (by omega) h4 (hs 5) ?_
  refine fg_aloadn (fg_ft (pc := 1960) tb_Law_law_25 29 rfl) rfl ?_
  refine fg_iloadn (fg_ft (pc := 1961) tb_Law_law_25 30 rfl) rfl ?_
  refine fg_bipush (fg_ft (pc := 1962) tb_Law_law_25 31 rfl) ib_6 ?_
  refine fg_iaddN (fg_ft (pc := 1964) tb_Law_law_25 32 rfl) ?_
  refine fg_sldN (fg_ft (pc := 1965) tb_Law_law_25 33 rfl) (by omega) h4 (hs 6) ?_
  refine fg_callV (fg_ft (pc := 1966) tb_Law_law_25 34 rfl) cf_Law_141 (fg_isOf ly_287 rfl (fg_lt ly_287 (by decide))) (as := [.int (nI (x 1)), .int (nI (x 2)), .int (nI (x 3)), .int (nI (x 4)), .int (nI (x 5)), .int (nI (x 6))]) (st := [.int _]) rfl rfl (Nat.le_of_ble_eq_true rfl) (Nat.le_refl _) (Nat.le_refl _) (ev_Mo_trial hJ1.1.2.1 hJ1.1.1.wA hJ1.2.2.1.1 hJ1.2.2.1.2 (hx 1) (hx 2) (hx 3) (hx 4) (hx 5) (hx 6) ?_)
  intro μ2 ag2
  show fg_wp _ _ _ _ _ _ _ _ _ (μ2, fg_rho R1, 304)
  refine fg_icmp_eq (tgt := 2988) (fg_ft (pc := 1969) tb_Law_law_25 35 rfl) (by decide) (fun c1969 => ?_) (fun c1969 => (absurd rfl c1969))
  exact hK μ2 R1 A I (hJ1.R ag2)
theorem lw_k30 {E : fg_E} {d : Nat} {μ : Nat → Nat → Int32} {R : fg_T4} {Q : Option Value → fg_M → Prop} {A : fg_Tl} {I : Nat → fg_Tl} {i : Nat} {x : Nat → Nat} (hi : i + 8 ≤ E.2.2.2.2.2.2) (h4 : E.2.2.2.2.2.2 ≤ 4096) (hx : ∀ j, x j < 2 ^ 32) (hs : ∀ j, E.2.2.2.2.2.1 (i + j) = nI (x j)) (hJ : lw_J μ A I)  (hK : ∀ (μ' : Nat → Nat → Int32) (R' : fg_T4) (A' : fg_Tl) (I' : Nat → fg_Tl), lw_J μ' A' I' → fg_wp E yy_Law_law (d + 13) 100 304 Q 2988 [.ref 99, .ref 100, .ref 287, .int (nI i)] [] (μ', fg_rho R', 304)) : fg_wp E yy_Law_law (d + 13) 100 304 Q 1974 [.ref 99, .ref 100, .ref 287, .int (nI i)] [] (μ, fg_rho R, 304) := by
  refine fg_aloadn (fg_ft (pc := 1974) tb_Law_law_25 38 rfl) rfl ?_
  refine fg_aloadn (fg_ft (pc := 1975) tb_Law_law_25 39 rfl) rfl ?_
  refine fg_iloadn (fg_ft (pc := 1976) tb_Law_law_25 40 rfl) rfl ?_
  refine fg_iconst (fg_ft (pc := 1977) tb_Law_law_25 41 rfl) ic_1 ?_
  refine fg_iaddN (fg_ft (pc := 1978) tb_Law_law_25 42 rfl) ?_
  refine fg_sldN (fg_ft (pc := 1979) tb_Law_law_25 43 rfl) (by omega) h4 (hs 1) ?_
  refine fg_aloadn (fg_ft (pc := 1980) tb_Law_law_25 44 rfl) rfl ?_
  refine fg_iloadn (fg_ft (pc := 1981) tb_Law_law_25 45 rfl) rfl ?_
  refine fg_iconst (fg_ft (pc := 1982) tb_Law_law_25 46 rfl) ic_2 ?_
  refine fg_iaddN (fg_ft (pc := 1983) tb_Law_law_25 47 rfl) ?_
  refine fg_sldN (fg_ft (pc := 1984) tb_Law_law_25 48 rfl) (by omega) h4 (hs 2) ?_
  refine fg_aloadn (fg_ft (pc := 1985) tb_Law_law_25 49 rfl) rfl ?_
  refine fg_iloadn (fg_ft (pc := 1986) tb_Law_law_25 50 rfl) rfl ?_
  refine fg_iconst (fg_ft (pc := 1987) tb_Law_law_25 51 rfl) ic_3 ?_
  refine fg_iaddN (fg_ft (pc := 1988) tb_Law_law_25 52 rfl) ?_
  refine fg_sldN (fg_ft (pc := 1989) tb_Law_law_25 53 rfl) (by omega) h4 (hs 3) ?_
  refine fg_aloadn (fg_ft (pc := 1990) tb_Law_law_25 54 rfl) rfl ?_
  refine fg_iloadn (fg_ft (pc := 1991) tb_Law_law_25 55 rfl) rfl ?_
  refine fg_iconst (fg_ft (pc := 1992) tb_Law_law_25 56 rfl) ic_4 ?_
  refine fg_iaddN (fg_ft (pc := 1993) tb_Law_law_25 57 rfl) ?_
  refine fg_sldN (fg_ft (pc := 1994) tb_Law_law_25 58 rfl) (by omega) h4 (hs 4) ?_
  refine fg_aloadn (fg_ft (pc := 1995) tb_Law_law_25 59 rfl) rfl ?_
  refine fg_iloadn (fg_ft (pc := 1996) tb_Law_law_26 0 rfl) rfl ?_
  refine fg_iconst (fg_ft (pc := 1997) tb_Law_law_26 1 rfl) ic_5 ?_
  refine fg_iaddN (fg_ft (pc := 1998) tb_Law_law_26 2 rfl) ?_
  refine fg_sldN (fg_ft (pc := 1999) tb_Law_law_26 3 rfl) (by omega) h4 (hs 5) ?_
  refine fg_aloadn (fg_ft (pc := 2000) tb_Law_law_26 4 rfl) rfl ?_
  refine fg_iloadn (fg_ft (pc := 2001) tb_Law_law_26 5 rfl) rfl ?_
  refine fg_bipush (fg_ft (pc := 2002) tb_Law_law_26 6 rfl) ib_6 ?_
  refine fg_iaddN (fg_ft (pc := 2004) tb_Law_law_26 7 rfl) ?_
  refine fg_sldN (fg_ft (pc := 2005) tb_Law_law_26 8 rfl) (by omega) h4 (hs 6) ?_
  refine fg_aloadn (fg_ft (pc := 2006) tb_Law_law_26 9 rfl) rfl ?_
  refine fg_iloadn (fg_ft (pc := 2007) tb_Law_law_26 10 rfl) rfl ?_
  refine fg_bipush (fg_ft (pc := 2008) tb_Law_law_26 11 rfl) ib_7 ?_
  refine fg_iaddN (fg_ft (pc := 2010) tb_Law_law_26 12 rfl) ?_
  refine fg_sldN (fg_ft (pc := 2011) tb_Law_law_26 13 rfl) (by omega) h4 (hs 7) ?_
  refine fg_callV (fg_ft (pc := 2012) tb_Law_law_26 14 rfl) cf_Law_142 (fg_isOf ly_100 rfl (fg_lt ly_100 (by decide))) (as := [.int (nI (x 1)), .int (nI (x 2)), .int (nI (x 3)), .int (nI (x 4)), .int (nI (x 5)), .int (nI (x 6)), .int (nI (x 7))]) (st := []) rfl rfl (Nat.le_of_ble_eq_true rfl) (Nat.le_refl _) (Nat.le_refl _) (ev_Fb_order hJ.1.1 (hx 1) (hx 2) (hx 3) (hx 4) (hx 5) (hx 6) (hx 7) ?_)
  intro μ1 R1 ag1
  have hJ1 := hJ.Q ag1
  show fg_wp _ _ _ _ _ _ _ _ _ (μ1, fg_rho R1, 304)
  refine fg_aloadn (fg_ft (pc := 2015) tb_Law_law_26 15 rfl) rfl ?_
  refine fg_aloadn (fg_ft (pc := 2016) tb_Law_law_26 16 rfl) rfl ?_
  refine fg_iloadn (fg_ft (pc := 2017) tb_Law_law_26 17 rfl) rfl ?_
  refine fg_iconst (fg_ft (pc := 2018) tb_Law_law_26 18 rfl) ic_1 ?_
  refine fg_iaddN (fg_ft (pc := 2019) tb_Law_law_26 19 rfl) ?_
  refine fg_sldN (fg_ft (pc := 2020) tb_Law_law_26 20 rfl) (by omega) h4 (hs 1) ?_
  refine fg_aloadn (fg_ft (pc := 2021) tb_Law_law_26 21 rfl) rfl ?_
  refine fg_iloadn (fg_ft (pc := 2022) tb_Law_law_26 22 rfl) rfl ?_
  refine fg_iconst (fg_ft (pc := 2023) tb_Law_law_26 23 rfl) ic_2 ?_
  refine fg_iaddN (fg_ft (pc := 2024) tb_Law_law_26 24 rfl) ?_
  refine fg_sldN (fg_ft (pc := 2025) tb_Law_law_26 25 rfl) (by omega) h4 (hs 2) ?_
  refine fg_aloadn (fg_ft (pc := 2026) tb_Law_law_26 26 rfl) rfl ?_
  refine fg_iloadn (fg_ft (pc := 2027) tb_Law_law_26 27 rfl) rfl ?_
  refine fg_iconst (fg_ft (pc := 2028) tb_Law_law_26 28 rfl) ic_3 ?_
  refine fg_iaddN (fg_ft (pc := 2029) tb_Law_law_26 29 rfl) ?_
  refine fg_sldN (fg_ft (pc := 2030) tb_Law_law_26 30 rfl) (by omega) h4 (hs 3) ?_
  refine fg_aloadn (fg_ft (pc := 2031) tb_Law_law_26 31 rfl) rfl ?_
  refine fg_iloadn (fg_ft (pc := 2032) tb_Law_law_26 32 rfl) rfl ?_
  refine fg_iconst (fg_ft (pc := 2033) tb_Law_law_26 33 rfl) ic_4 ?_
  refine fg_iaddN (fg_ft (pc := 2034) tb_Law_law_26 34 rfl) ?_
  refine fg_sldN (fg_ft (pc := 2035) tb_Law_law_26 35 rfl) (by omega) h4 (hs 4) ?_
  refine fg_aloadn (fg_ft (pc := 2036) tb_Law_law_26 36 rfl) rfl ?_
  refine fg_iloadn (fg_ft (pc := 2037) tb_Law_law_26 37 rfl) rfl ?_
  refine fg_iconst (fg_ft (pc := 2038) tb_Law_law_26 38 rfl) ic_5 ?_
  refine fg_iaddN (fg_ft (pc := 2039) tb_Law_law_26 39 rfl) ?_
  refine fg_sldN (fg_ft (pc := 2040) tb_Law_law_26 40 rfl) (by omega) h4 (hs 5) ?_
  refine fg_aloadn (fg_ft (pc := 2041) tb_Law_law_26 41 rfl) rfl ?_
  refine fg_iloadn (fg_ft (pc := 2042) tb_Law_law_26 42 rfl) rfl ?_
  refine fg_bipush (fg_ft (pc := 2043) tb_Law_law_26 43 rfl) ib_6 ?_
  refine fg_iaddN (fg_ft (pc := 2045) tb_Law_law_26 44 rfl) ?_
  refine fg_sldN (fg_ft (pc := 2046) tb_Law_law_26 45 rfl) (by omega) h4 (hs 6) ?_
  refine fg_aloadn (fg_ft (pc := 2047) tb_Law_law_26 46 rfl) rfl ?_
  refine fg_iloadn (fg_ft (pc := 2048) tb_Law_law_26 47 rfl) rfl ?_
  refine fg_bipush (fg_ft (pc := 2049) tb_Law_law_26 48 rfl) ib_7 ?_
  refine fg_iaddN (fg_ft (pc := 2051) tb_Law_law_26 49 rfl) ?_
  refine fg_sldN (fg_ft (pc := 2052) tb_Law_law_26 50 rfl) (by omega) h4 (hs 7) ?_
  refine fg_callV (fg_ft (pc := 2053) tb_Law_law_26 51 rfl) cf_Law_145 (fg_isOf ly_287 rfl (fg_lt ly_287 (by decide))) (as := [.int (nI (x 1)), .int (nI (x 2)), .int (nI (x 3)), .int (nI (x 4)), .int (nI (x 5)), .int (nI (x 6)), .int (nI (x 7))]) (st := [.int _]) rfl rfl (Nat.le_of_ble_eq_true rfl) (Nat.le_refl _) (Nat.le_refl _) (ev_Mo_order hJ1.1.2.1 hJ1.1.1.wA hJ1.2.2.1.1 hJ1.2.2.1.2 (hx 1) (hx 2) (hx 3) (hx 4) (hx 5) (hx 6) (hx 7) ?_)
  intro μ2 ag2
  show fg_wp _ _ _ _ _ _ _ _ _ (μ2, fg_rho R1, 304)
  refine fg_icmp_eq (tgt := 2988) (fg_ft (pc := 2056) tb_Law_law_26 52 rfl) (by decide) (fun c2056 => ?_) (fun c2056 => (absurd rfl c2056))
  exact hK μ2 R1 A I (hJ1.R ag2)
theorem lw_k31 {E : fg_E} {d : Nat} {μ : Nat → Nat → Int32} {R : fg_T4} {Q : Option Value → fg_M → Prop} {A : fg_Tl} {I : Nat → fg_Tl} {i : Nat} {x : Nat → Nat} (hi : i + 8 ≤ E.2.2.2.2.2.2) (h4 : E.2.2.2.2.2.2 ≤ 4096) (hx : ∀ j, x j < 2 ^ 32) (hs : ∀ j, E.2.2.2.2.2.1 (i + j) = nI (x j)) (hJ : lw_J μ A I)  (hK : ∀ (μ' : Nat → Nat → Int32) (R' : fg_T4) (A' : fg_Tl) (I' : Nat → fg_Tl), lw_J μ' A' I' → fg_wp E yy_Law_law (d + 13) 100 304 Q 2988 [.ref 99, .ref 100, .ref 287, .int (nI i)] [] (μ', fg_rho R', 304)) : fg_wp E yy_Law_law (d + 13) 100 304 Q 2061 [.ref 99, .ref 100, .ref 287, .int (nI i)] [] (μ, fg_rho R, 304) := by
  refine fg_aloadn (fg_ft (pc := 2061) tb_Law_law_26 55 rfl) rfl ?_
  refine fg_aloadn (fg_ft (pc := 2062) tb_Law_law_26 56 rfl) rfl ?_
  refine fg_iloadn (fg_ft (pc := 2063) tb_Law_law_26 57 rfl) rfl ?_
  refine fg_iconst (fg_ft (pc := 2064) tb_Law_law_26 58 rfl) ic_1 ?_
  refine fg_iaddN (fg_ft (pc := 2065) tb_Law_law_26 59 rfl) ?_
  refine fg_sldN (fg_ft (pc := 2066) tb_Law_law_27 0 rfl) (by omega) h4 (hs 1) ?_
  refine fg_aloadn (fg_ft (pc := 2067) tb_Law_law_27 1 rfl) rfl ?_
  refine fg_iloadn (fg_ft (pc := 2068) tb_Law_law_27 2 rfl) rfl ?_
  refine fg_iconst (fg_ft (pc := 2069) tb_Law_law_27 3 rfl) ic_2 ?_
  refine fg_iaddN (fg_ft (pc := 2070) tb_Law_law_27 4 rfl) ?_
  refine fg_sldN (fg_ft (pc := 2071) tb_Law_law_27 5 rfl) (by omega) h4 (hs 2) ?_
  refine fg_aloadn (fg_ft (pc := 2072) tb_Law_law_27 6 rfl) rfl ?_
  refine fg_iloadn (fg_ft (pc := 2073) tb_Law_law_27 7 rfl) rfl ?_
  refine fg_iconst (fg_ft (pc := 2074) tb_Law_law_27 8 rfl) ic_3 ?_
  refine fg_iaddN (fg_ft (pc := 2075) tb_Law_law_27 9 rfl) ?_
  refine fg_sldN (fg_ft (pc := 2076) tb_Law_law_27 10 rfl) (by omega) h4 (hs 3) ?_
  refine fg_aloadn (fg_ft (pc := 2077) tb_Law_law_27 11 rfl) rfl ?_
  refine fg_iloadn (fg_ft (pc := 2078) tb_Law_law_27 12 rfl) rfl ?_
  refine fg_iconst (fg_ft (pc := 2079) tb_Law_law_27 13 rfl) ic_4 ?_
  refine fg_iaddN (fg_ft (pc := 2080) tb_Law_law_27 14 rfl) ?_
  refine fg_sldN (fg_ft (pc := 2081) tb_Law_law_27 15 rfl) (by omega) h4 (hs 4) ?_
  refine fg_aloadn (fg_ft (pc := 2082) tb_Law_law_27 16 rfl) rfl ?_
  refine fg_iloadn (fg_ft (pc := 2083) tb_Law_law_27 17 rfl) rfl ?_
  refine fg_iconst (fg_ft (pc := 2084) tb_Law_law_27 18 rfl) ic_5 ?_
  refine fg_iaddN (fg_ft (pc := 2085) tb_Law_law_27 19 rfl) ?_
  refine fg_sldN (fg_ft (pc := 2086) tb_Law_law_27 20 rfl) (by omega) h4 (hs 5) ?_
  refine fg_callV (fg_ft (pc := 2087) tb_Law_law_27 21 rfl) cf_Law_146 (fg_isOf ly_100 rfl (fg_lt ly_100 (by decide))) (as := [.int (nI (x 1)), .int (nI (x 2)), .int (nI (x 3)), .int (nI (x 4)), .int (nI (x 5))]) (st := []) rfl rfl (Nat.le_of_ble_eq_true rfl) (Nat.le_refl _) (Nat.le_refl _) (ev_Fb_ways hJ.1.1 (hx 1) (hx 2) (hx 3) (hx 4) (hx 5) ?_)
  intro μ1 R1 ag1
  have hJ1 := hJ.Q ag1
  show fg_wp _ _ _ _ _ _ _ _ _ (μ1, fg_rho R1, 304)
  refine fg_aloadn (fg_ft (pc := 2090) tb_Law_law_27 22 rfl) rfl ?_
  refine fg_aloadn (fg_ft (pc := 2091) tb_Law_law_27 23 rfl) rfl ?_
  refine fg_iloadn (fg_ft (pc := 2092) tb_Law_law_27 24 rfl) rfl ?_
  refine fg_iconst (fg_ft (pc := 2093) tb_Law_law_27 25 rfl) ic_1 ?_
  refine fg_iaddN (fg_ft (pc := 2094) tb_Law_law_27 26 rfl) ?_
  refine fg_sldN (fg_ft (pc := 2095) tb_Law_law_27 27 rfl) (by omega) h4 (hs 1) ?_
  refine fg_aloadn (fg_ft (pc := 2096) tb_Law_law_27 28 rfl) rfl ?_
  refine fg_iloadn (fg_ft (pc := 2097) tb_Law_law_27 29 rfl) rfl ?_
  refine fg_iconst (fg_ft (pc := 2098) tb_Law_law_27 30 rfl) ic_2 ?_
  refine fg_iaddN (fg_ft (pc := 2099) tb_Law_law_27 31 rfl) ?_
  refine fg_sldN (fg_ft (pc := 2100) tb_Law_law_27 32 rfl) (by omega) h4 (hs 2) ?_
  refine fg_aloadn (fg_ft (pc := 2101) tb_Law_law_27 33 rfl) rfl ?_
  refine fg_iloadn (fg_ft (pc := 2102) tb_Law_law_27 34 rfl) rfl ?_
  refine fg_iconst (fg_ft (pc := 2103) tb_Law_law_27 35 rfl) ic_3 ?_
  refine fg_iaddN (fg_ft (pc := 2104) tb_Law_law_27 36 rfl) ?_
  refine fg_sldN (fg_ft (pc := 2105) tb_Law_law_27 37 rfl) (by omega) h4 (hs 3) ?_
  refine fg_aloadn (fg_ft (pc := 2106) tb_Law_law_27 38 rfl) rfl ?_
  refine fg_iloadn (fg_ft (pc := 2107) tb_Law_law_27 39 rfl) rfl ?_
  refine fg_iconst (fg_ft (pc := 2108) tb_Law_law_27 40 rfl) ic_4 ?_
  refine fg_iaddN (fg_ft (pc := 2109) tb_Law_law_27 41 rfl) ?_
  refine fg_sldN (fg_ft (pc := 2110) tb_Law_law_27 42 rfl) (by omega) h4 (hs 4) ?_
  refine fg_aloadn (fg_ft (pc := 2111) tb_Law_law_27 43 rfl) rfl ?_
  refine fg_iloadn (fg_ft (pc := 2112) tb_Law_law_27 44 rfl) rfl ?_
  refine fg_iconst (fg_ft (pc := 2113) tb_Law_law_27 45 rfl) ic_5 ?_
  refine fg_iaddN (fg_ft (pc := 2114) tb_Law_law_27 46 rfl) ?_
  refine fg_sldN (fg_ft (pc := 2115) tb_Law_law_27 47 rfl) (by omega) h4 (hs 5) ?_
  refine fg_callV (fg_ft (pc := 2116) tb_Law_law_27 48 rfl) cf_Law_149 (fg_isOf ly_287 rfl (fg_lt ly_287 (by decide))) (as := [.int (nI (x 1)), .int (nI (x 2)), .int (nI (x 3)), .int (nI (x 4)), .int (nI (x 5))]) (st := [.int _]) rfl rfl (Nat.le_of_ble_eq_true rfl) (Nat.le_refl _) (Nat.le_refl _) (ev_Mo_ways hJ1.1.2.1 hJ1.1.1.wA hJ1.2.2.1.1 hJ1.2.2.1.2 (hx 1) (hx 2) (hx 3) (hx 4) (hx 5) ?_)
  intro μ2 ag2
  show fg_wp _ _ _ _ _ _ _ _ _ (μ2, fg_rho R1, 304)
  refine fg_icmp_eq (tgt := 2988) (fg_ft (pc := 2119) tb_Law_law_27 49 rfl) (by decide) (fun c2119 => ?_) (fun c2119 => (absurd rfl c2119))
  exact hK μ2 R1 A I (hJ1.R ag2)
theorem lw_k32 {E : fg_E} {d : Nat} {μ : Nat → Nat → Int32} {R : fg_T4} {Q : Option Value → fg_M → Prop} {A : fg_Tl} {I : Nat → fg_Tl} {i : Nat} {x : Nat → Nat} (hi : i + 8 ≤ E.2.2.2.2.2.2) (h4 : E.2.2.2.2.2.2 ≤ 4096) (hx : ∀ j, x j < 2 ^ 32) (hs : ∀ j, E.2.2.2.2.2.1 (i + j) = nI (x j)) (hJ : lw_J μ A I)  (hK : ∀ (μ' : Nat → Nat → Int32) (R' : fg_T4) (A' : fg_Tl) (I' : Nat → fg_Tl), lw_J μ' A' I' → fg_wp E yy_Law_law (d + 13) 100 304 Q 2988 [.ref 99, .ref 100, .ref 287, .int (nI i)] [] (μ', fg_rho R', 304)) : fg_wp E yy_Law_law (d + 13) 100 304 Q 2124 [.ref 99, .ref 100, .ref 287, .int (nI i)] [] (μ, fg_rho R, 304) := by
  refine fg_aloadn (fg_ft (pc := 2124) tb_Law_law_27 52 rfl) rfl ?_
  refine fg_aloadn (fg_ft (pc := 2125) tb_Law_law_27 53 rfl) rfl ?_
  refine fg_iloadn (fg_ft (pc := 2126) tb_Law_law_27 54 rfl) rfl ?_
  refine fg_iconst (fg_ft (pc := 2127) tb_Law_law_27 55 rfl) ic_1 ?_
  refine fg_iaddN (fg_ft (pc := 2128) tb_Law_law_27 56 rfl) ?_
  refine fg_sldN (fg_ft (pc := 2129) tb_Law_law_27 57 rfl) (by omega) h4 (hs 1) ?_
  refine fg_aloadn (fg_ft (pc := 2130) tb_Law_law_27 58 rfl) rfl ?_
  refine fg_iloadn (fg_ft (pc := 2131) tb_Law_law_27 59 rfl) rfl ?_
  refine fg_iconst (fg_ft (pc := 2132) tb_Law_law_28 0 rfl) ic_2 ?_
  refine fg_iaddN (fg_ft (pc := 2133) tb_Law_law_28 1 rfl) ?_
  refine fg_sldN (fg_ft (pc := 2134) tb_Law_law_28 2 rfl) (by omega) h4 (hs 2) ?_
  refine fg_aloadn (fg_ft (pc := 2135) tb_Law_law_28 3 rfl) rfl ?_
  refine fg_iloadn (fg_ft (pc := 2136) tb_Law_law_28 4 rfl) rfl ?_
  refine fg_iconst (fg_ft (pc := 2137) tb_Law_law_28 5 rfl) ic_3 ?_
  refine fg_iaddN (fg_ft (pc := 2138) tb_Law_law_28 6 rfl) ?_
  refine fg_sldN (fg_ft (pc := 2139) tb_Law_law_28 7 rfl) (by omega) h4 (hs 3) ?_
  refine fg_aloadn (fg_ft (pc := 2140) tb_Law_law_28 8 rfl) rfl ?_
  refine fg_iloadn (fg_ft (pc := 2141) tb_Law_law_28 9 rfl) rfl ?_
  refine fg_iconst (fg_ft (pc := 2142) tb_Law_law_28 10 rfl) ic_4 ?_
  refine fg_iaddN (fg_ft (pc := 2143) tb_Law_law_28 11 rfl) ?_
  refine fg_sldN (fg_ft (pc := 2144) tb_Law_law_28 12 rfl) (by omega) h4 (hs 4) ?_
  refine fg_aloadn (fg_ft (pc := 2145) tb_Law_law_28 13 rfl) rfl ?_
  refine fg_iloadn (fg_ft (pc := 2146) tb_Law_law_28 14 rfl) rfl ?_
  refine fg_iconst (fg_ft (pc := 2147) tb_Law_law_28 15 rfl) ic_5 ?_
  refine fg_iaddN (fg_ft (pc := 2148) tb_Law_law_28 16 rfl) ?_
  refine fg_sldN (fg_ft (pc := 2149) tb_Law_law_28 17 rfl) (by omega) h4 (hs 5) ?_
  refine fg_aloadn (fg_ft (pc := 2150) tb_Law_law_28 18 rfl) rfl ?_
  refine fg_iloadn (fg_ft (pc := 2151) tb_Law_law_28 19 rfl) rfl ?_
  refine fg_bipush (fg_ft (pc := 2152) tb_Law_law_28 20 rfl) ib_6 ?_
  refine fg_iaddN (fg_ft (pc := 2154) tb_Law_law_28 21 rfl) ?_
  refine fg_sldN (fg_ft (pc := 2155) tb_Law_law_28 22 rfl) (by omega) h4 (hs 6) ?_
  refine fg_if_eqW (tgt := 2163) (fg_ft (pc := 2156) tb_Law_law_28 23 rfl) (by decide) (hx 6) (fun c2156 => ?_) (fun c2156 => ?_)
  · refine fg_iconst (fg_ft (pc := 2163) tb_Law_law_28 26 rfl) ic_0 ?_
    refine fg_callV (fg_ft (pc := 2164) tb_Law_law_28 27 rfl) cf_Law_150 (fg_isOf ly_100 rfl (fg_lt ly_100 (by decide))) (as := [.int (nI (x 1)), .int (nI (x 2)), .int (nI (x 3)), .int (nI (x 4)), .int (nI (x 5)), .int (nI 0)]) (st := []) rfl rfl (Nat.le_of_ble_eq_true rfl) (Nat.le_refl _) (Nat.le_refl _) (ev_Fb_leans0 hJ.1.1 (hx 1) (hx 2) (hx 3) (hx 4) (hx 5) ?_)
    intro μ1 R1 ag1
    have hJ1 := hJ.Q ag1
    show fg_wp _ _ _ _ _ _ _ _ _ (μ1, fg_rho R1, 304)
    refine fg_aloadn (fg_ft (pc := 2167) tb_Law_law_28 28 rfl) rfl ?_
    refine fg_aloadn (fg_ft (pc := 2168) tb_Law_law_28 29 rfl) rfl ?_
    refine fg_iloadn (fg_ft (pc := 2169) tb_Law_law_28 30 rfl) rfl ?_
    refine fg_iconst (fg_ft (pc := 2170) tb_Law_law_28 31 rfl) ic_1 ?_
    refine fg_iaddN (fg_ft (pc := 2171) tb_Law_law_28 32 rfl) ?_
    refine fg_sldN (fg_ft (pc := 2172) tb_Law_law_28 33 rfl) (by omega) h4 (hs 1) ?_
    refine fg_aloadn (fg_ft (pc := 2173) tb_Law_law_28 34 rfl) rfl ?_
    refine fg_iloadn (fg_ft (pc := 2174) tb_Law_law_28 35 rfl) rfl ?_
    refine fg_iconst (fg_ft (pc := 2175) tb_Law_law_28 36 rfl) ic_2 ?_
    refine fg_iaddN (fg_ft (pc := 2176) tb_Law_law_28 37 rfl) ?_
    refine fg_sldN (fg_ft (pc := 2177) tb_Law_law_28 38 rfl) (by omega) h4 (hs 2) ?_
    refine fg_aloadn (fg_ft (pc := 2178) tb_Law_law_28 39 rfl) rfl ?_
    refine fg_iloadn (fg_ft (pc := 2179) tb_Law_law_28 40 rfl) rfl ?_
    refine fg_iconst (fg_ft (pc := 2180) tb_Law_law_28 41 rfl) ic_3 ?_
    refine fg_iaddN (fg_ft (pc := 2181) tb_Law_law_28 42 rfl) ?_
    refine fg_sldN (fg_ft (pc := 2182) tb_Law_law_28 43 rfl) (by omega) h4 (hs 3) ?_
    refine fg_aloadn (fg_ft (pc := 2183) tb_Law_law_28 44 rfl) rfl ?_
    refine fg_iloadn (fg_ft (pc := 2184) tb_Law_law_28 45 rfl) rfl ?_
    refine fg_iconst (fg_ft (pc := 2185) tb_Law_law_28 46 rfl) ic_4 ?_
    refine fg_iaddN (fg_ft (pc := 2186) tb_Law_law_28 47 rfl) ?_
    refine fg_sldN (fg_ft (pc := 2187) tb_Law_law_28 48 rfl) (by omega) h4 (hs 4) ?_
    refine fg_aloadn (fg_ft (pc := 2188) tb_Law_law_28 49 rfl) rfl ?_
    refine fg_iloadn (fg_ft (pc := 2189) tb_Law_law_28 50 rfl) rfl ?_
    refine fg_iconst (fg_ft (pc := 2190) tb_Law_law_28 51 rfl) ic_5 ?_
    refine fg_iaddN (fg_ft (pc := 2191) tb_Law_law_28 52 rfl) ?_
    refine fg_sldN (fg_ft (pc := 2192) tb_Law_law_28 53 rfl) (by omega) h4 (hs 5) ?_
    refine fg_aloadn (fg_ft (pc := 2193) tb_Law_law_28 54 rfl) rfl ?_
    refine fg_iloadn (fg_ft (pc := 2194) tb_Law_law_28 55 rfl) rfl ?_
    refine fg_bipush (fg_ft (pc := 2195) tb_Law_law_28 56 rfl) ib_6 ?_
    refine fg_iaddN (fg_ft (pc := 2197) tb_Law_law_28 57 rfl) ?_
    refine fg_sldN (fg_ft (pc := 2198) tb_Law_law_28 58 rfl) (by omega) h4 (hs 6) ?_
    refine fg_if_eqW (tgt := 2206) (fg_ft (pc := 2199) tb_Law_law_28 59 rfl) (by decide) (hx 6) (fun c2199 => ?_) (fun c2199 => (absurd c2156 c2199))
    refine fg_iconst (fg_ft (pc := 2206) tb_Law_law_29 2 rfl) ic_0 ?_
    refine fg_callV (fg_ft (pc := 2207) tb_Law_law_29 3 rfl) cf_Law_153 (fg_isOf ly_287 rfl (fg_lt ly_287 (by decide))) (as := [.int (nI (x 1)), .int (nI (x 2)), .int (nI (x 3)), .int (nI (x 4)), .int (nI (x 5)), .int (nI 0)]) (st := [.int _]) rfl rfl (Nat.le_of_ble_eq_true rfl) (Nat.le_refl _) (Nat.le_refl _) (ev_Mo_leans0 hJ1.1.2.1 hJ1.1.1.wA hJ1.2.2.1.1 hJ1.2.2.1.2 (hx 1) (hx 2) (hx 3) (hx 4) (hx 5) ?_)
    intro μ2 ag2
    show fg_wp _ _ _ _ _ _ _ _ _ (μ2, fg_rho R1, 304)
    refine fg_icmp_eq (tgt := 2988) (fg_ft (pc := 2210) tb_Law_law_29 4 rfl) (by decide) (fun c2210 => ?_) (fun c2210 => (absurd rfl c2210))
    exact hK μ2 R1 A I (hJ1.R ag2)
  · refine fg_iconst (fg_ft (pc := 2159) tb_Law_law_28 24 rfl) ic_1 ?_
    refine fg_goto (tgt := 2164) (fg_ft (pc := 2160) tb_Law_law_28 25 rfl) (by decide) ?_
    refine fg_callV (fg_ft (pc := 2164) tb_Law_law_28 27 rfl) cf_Law_150 (fg_isOf ly_100 rfl (fg_lt ly_100 (by decide))) (as := [.int (nI (x 1)), .int (nI (x 2)), .int (nI (x 3)), .int (nI (x 4)), .int (nI (x 5)), .int (nI 1)]) (st := []) rfl rfl (Nat.le_of_ble_eq_true rfl) (Nat.le_refl _) (Nat.le_refl _) (ev_Fb_leans1 hJ.1.1 (hx 1) (hx 2) (hx 3) (hx 4) (hx 5) ?_)
    intro μ1 R1 ag1
    have hJ1 := hJ.Q ag1
    show fg_wp _ _ _ _ _ _ _ _ _ (μ1, fg_rho R1, 304)
    refine fg_aloadn (fg_ft (pc := 2167) tb_Law_law_28 28 rfl) rfl ?_
    refine fg_aloadn (fg_ft (pc := 2168) tb_Law_law_28 29 rfl) rfl ?_
    refine fg_iloadn (fg_ft (pc := 2169) tb_Law_law_28 30 rfl) rfl ?_
    refine fg_iconst (fg_ft (pc := 2170) tb_Law_law_28 31 rfl) ic_1 ?_
    refine fg_iaddN (fg_ft (pc := 2171) tb_Law_law_28 32 rfl) ?_
    refine fg_sldN (fg_ft (pc := 2172) tb_Law_law_28 33 rfl) (by omega) h4 (hs 1) ?_
    refine fg_aloadn (fg_ft (pc := 2173) tb_Law_law_28 34 rfl) rfl ?_
    refine fg_iloadn (fg_ft (pc := 2174) tb_Law_law_28 35 rfl) rfl ?_
    refine fg_iconst (fg_ft (pc := 2175) tb_Law_law_28 36 rfl) ic_2 ?_
    refine fg_iaddN (fg_ft (pc := 2176) tb_Law_law_28 37 rfl) ?_
    refine fg_sldN (fg_ft (pc := 2177) tb_Law_law_28 38 rfl) (by omega) h4 (hs 2) ?_
    refine fg_aloadn (fg_ft (pc := 2178) tb_Law_law_28 39 rfl) rfl ?_
    refine fg_iloadn (fg_ft (pc := 2179) tb_Law_law_28 40 rfl) rfl ?_
    refine fg_iconst (fg_ft (pc := 2180) tb_Law_law_28 41 rfl) ic_3 ?_
    refine fg_iaddN (fg_ft (pc := 2181) tb_Law_law_28 42 rfl) ?_
    refine fg_sldN (fg_ft (pc := 2182) tb_Law_law_28 43 rfl) (by omega) h4 (hs 3) ?_
    refine fg_aloadn (fg_ft (pc := 2183) tb_Law_law_28 44 rfl) rfl ?_
    refine fg_iloadn (fg_ft (pc := 2184) tb_Law_law_28 45 rfl) rfl ?_
    refine fg_iconst (fg_ft (pc := 2185) tb_Law_law_28 46 rfl) ic_4 ?_
    refine fg_iaddN (fg_ft (pc := 2186) tb_Law_law_28 47 rfl) ?_
    refine fg_sldN (fg_ft (pc := 2187) tb_Law_law_28 48 rfl) (by omega) h4 (hs 4) ?_
    refine fg_aloadn (fg_ft (pc := 2188) tb_Law_law_28 49 rfl) rfl ?_
    refine fg_iloadn (fg_ft (pc := 2189) tb_Law_law_28 50 rfl) rfl ?_
    refine fg_iconst (fg_ft (pc := 2190) tb_Law_law_28 51 rfl) ic_5 ?_
    refine fg_iaddN (fg_ft (pc := 2191) tb_Law_law_28 52 rfl) ?_
    refine fg_sldN (fg_ft (pc := 2192) tb_Law_law_28 53 rfl) (by omega) h4 (hs 5) ?_
    refine fg_aloadn (fg_ft (pc := 2193) tb_Law_law_28 54 rfl) rfl ?_
    refine fg_iloadn (fg_ft (pc := 2194) tb_Law_law_28 55 rfl) rfl ?_
    refine fg_bipush (fg_ft (pc := 2195) tb_Law_law_28 56 rfl) ib_6 ?_
    refine fg_iaddN (fg_ft (pc := 2197) tb_Law_law_28 57 rfl) ?_
    refine fg_sldN (fg_ft (pc := 2198) tb_Law_law_28 58 rfl) (by omega) h4 (hs 6) ?_
    refine fg_if_eqW (tgt := 2206) (fg_ft (pc := 2199) tb_Law_law_28 59 rfl) (by decide) (hx 6) (fun c2199 => (absurd c2199 c2156)) (fun c2199 => ?_)
    refine fg_iconst (fg_ft (pc := 2202) tb_Law_law_29 0 rfl) ic_1 ?_
    refine fg_goto (tgt := 2207) (fg_ft (pc := 2203) tb_Law_law_29 1 rfl) (by decide) ?_
    refine fg_callV (fg_ft (pc := 2207) tb_Law_law_29 3 rfl) cf_Law_153 (fg_isOf ly_287 rfl (fg_lt ly_287 (by decide))) (as := [.int (nI (x 1)), .int (nI (x 2)), .int (nI (x 3)), .int (nI (x 4)), .int (nI (x 5)), .int (nI 1)]) (st := [.int _]) rfl rfl (Nat.le_of_ble_eq_true rfl) (Nat.le_refl _) (Nat.le_refl _) (ev_Mo_leans1 hJ1.1.2.1 hJ1.1.1.wA hJ1.2.2.1.1 hJ1.2.2.1.2 (hx 1) (hx 2) (hx 3) (hx 4) (hx 5) ?_)
    intro μ2 ag2
    show fg_wp _ _ _ _ _ _ _ _ _ (μ2, fg_rho R1, 304)
    refine fg_icmp_eq (tgt := 2988) (fg_ft (pc := 2210) tb_Law_law_29 4 rfl) (by decide) (fun c2210 => ?_) (fun c2210 => (absurd rfl c2210))
    exact hK μ2 R1 A I (hJ1.R ag2)
theorem lw_k33 {E : fg_E} {d : Nat} {μ : Nat → Nat → Int32} {R : fg_T4} {Q : Option Value → fg_M → Prop} {A : fg_Tl} {I : Nat → fg_Tl} {i : Nat} {x : Nat → Nat} (hi : i + 8 ≤ E.2.2.2.2.2.2) (h4 : E.2.2.2.2.2.2 ≤ 4096) (hx : ∀ j, x j < 2 ^ 32) (hs : ∀ j, E.2.2.2.2.2.1 (i + j) = nI (x j)) (hJ : lw_J μ A I)  (hK : ∀ (μ' : Nat → Nat → Int32) (R' : fg_T4) (A' : fg_Tl) (I' : Nat → fg_Tl), lw_J μ' A' I' → fg_wp E yy_Law_law (d + 13) 100 304 Q 2988 [.ref 99, .ref 100, .ref 287, .int (nI i)] [] (μ', fg_rho R', 304)) : fg_wp E yy_Law_law (d + 13) 100 304 Q 2215 [.ref 99, .ref 100, .ref 287, .int (nI i)] [] (μ, fg_rho R, 304) := by
  refine fg_aloadn (fg_ft (pc := 2215) tb_Law_law_29 7 rfl) rfl ?_
  refine fg_aloadn (fg_ft (pc := 2216) tb_Law_law_29 8 rfl) rfl ?_
  refine fg_iloadn (fg_ft (pc := 2217) tb_Law_law_29 9 rfl) rfl ?_
  refine fg_iconst (fg_ft (pc := 2218) tb_Law_law_29 10 rfl) ic_1 ?_
  refine fg_iaddN (fg_ft (pc := 2219) tb_Law_law_29 11 rfl) ?_
  refine fg_sldN (fg_ft (pc := 2220) tb_Law_law_29 12 rfl) (by omega) h4 (hs 1) ?_
  refine fg_aloadn (fg_ft (pc := 2221) tb_Law_law_29 13 rfl) rfl ?_
  refine fg_iloadn (fg_ft (pc := 2222) tb_Law_law_29 14 rfl) rfl ?_
  refine fg_iconst (fg_ft (pc := 2223) tb_Law_law_29 15 rfl) ic_2 ?_
  refine fg_iaddN (fg_ft (pc := 2224) tb_Law_law_29 16 rfl) ?_
  refine fg_sldN (fg_ft (pc := 2225) tb_Law_law_29 17 rfl) (by omega) h4 (hs 2) ?_
  refine fg_aloadn (fg_ft (pc := 2226) tb_Law_law_29 18 rfl) rfl ?_
  refine fg_iloadn (fg_ft (pc := 2227) tb_Law_law_29 19 rfl) rfl ?_
  refine fg_iconst (fg_ft (pc := 2228) tb_Law_law_29 20 rfl) ic_3 ?_
  refine fg_iaddN (fg_ft (pc := 2229) tb_Law_law_29 21 rfl) ?_
  refine fg_sldN (fg_ft (pc := 2230) tb_Law_law_29 22 rfl) (by omega) h4 (hs 3) ?_
  refine fg_aloadn (fg_ft (pc := 2231) tb_Law_law_29 23 rfl) rfl ?_
  refine fg_iloadn (fg_ft (pc := 2232) tb_Law_law_29 24 rfl) rfl ?_
  refine fg_iconst (fg_ft (pc := 2233) tb_Law_law_29 25 rfl) ic_4 ?_
  refine fg_iaddN (fg_ft (pc := 2234) tb_Law_law_29 26 rfl) ?_
  refine fg_sldN (fg_ft (pc := 2235) tb_Law_law_29 27 rfl) (by omega) h4 (hs 4) ?_
  refine fg_callV (fg_ft (pc := 2236) tb_Law_law_29 28 rfl) cf_Law_154 (fg_isOf ly_100 rfl (fg_lt ly_100 (by decide))) (as := [.int (nI (x 1)), .int (nI (x 2)), .int (nI (x 3)), .int (nI (x 4))]) (st := []) rfl rfl (Nat.le_of_ble_eq_true rfl) (Nat.le_refl _) (Nat.le_refl _) (ev_Fb_spread hJ.1.1 (hx 1) (hx 2) (hx 3) (hx 4) ?_)
  intro μ1 R1 ag1
  have hJ1 := hJ.Q ag1
  show fg_wp _ _ _ _ _ _ _ _ _ (μ1, fg_rho R1, 304)
  refine fg_aloadn (fg_ft (pc := 2239) tb_Law_law_29 29 rfl) rfl ?_
  refine fg_aloadn (fg_ft (pc := 2240) tb_Law_law_29 30 rfl) rfl ?_
  refine fg_iloadn (fg_ft (pc := 2241) tb_Law_law_29 31 rfl) rfl ?_
  refine fg_iconst (fg_ft (pc := 2242) tb_Law_law_29 32 rfl) ic_1 ?_
  refine fg_iaddN (fg_ft (pc := 2243) tb_Law_law_29 33 rfl) ?_
  refine fg_sldN (fg_ft (pc := 2244) tb_Law_law_29 34 rfl) (by omega) h4 (hs 1) ?_
  refine fg_aloadn (fg_ft (pc := 2245) tb_Law_law_29 35 rfl) rfl ?_
  refine fg_iloadn (fg_ft (pc := 2246) tb_Law_law_29 36 rfl) rfl ?_
  refine fg_iconst (fg_ft (pc := 2247) tb_Law_law_29 37 rfl) ic_2 ?_
  refine fg_iaddN (fg_ft (pc := 2248) tb_Law_law_29 38 rfl) ?_
  refine fg_sldN (fg_ft (pc := 2249) tb_Law_law_29 39 rfl) (by omega) h4 (hs 2) ?_
  refine fg_aloadn (fg_ft (pc := 2250) tb_Law_law_29 40 rfl) rfl ?_
  refine fg_iloadn (fg_ft (pc := 2251) tb_Law_law_29 41 rfl) rfl ?_
  refine fg_iconst (fg_ft (pc := 2252) tb_Law_law_29 42 rfl) ic_3 ?_
  refine fg_iaddN (fg_ft (pc := 2253) tb_Law_law_29 43 rfl) ?_
  refine fg_sldN (fg_ft (pc := 2254) tb_Law_law_29 44 rfl) (by omega) h4 (hs 3) ?_
  refine fg_aloadn (fg_ft (pc := 2255) tb_Law_law_29 45 rfl) rfl ?_
  refine fg_iloadn (fg_ft (pc := 2256) tb_Law_law_29 46 rfl) rfl ?_
  refine fg_iconst (fg_ft (pc := 2257) tb_Law_law_29 47 rfl) ic_4 ?_
  refine fg_iaddN (fg_ft (pc := 2258) tb_Law_law_29 48 rfl) ?_
  refine fg_sldN (fg_ft (pc := 2259) tb_Law_law_29 49 rfl) (by omega) h4 (hs 4) ?_
  refine fg_callV (fg_ft (pc := 2260) tb_Law_law_29 50 rfl) cf_Law_157 (fg_isOf ly_287 rfl (fg_lt ly_287 (by decide))) (as := [.int (nI (x 1)), .int (nI (x 2)), .int (nI (x 3)), .int (nI (x 4))]) (st := [.int _]) rfl rfl (Nat.le_of_ble_eq_true rfl) (Nat.le_refl _) (Nat.le_refl _) (ev_Mo_spread hJ1.1.2.1 hJ1.1.1.wA hJ1.2.2.1.1 hJ1.2.2.1.2 (hx 1) (hx 2) (hx 3) (hx 4) ?_)
  intro μ2 ag2
  show fg_wp _ _ _ _ _ _ _ _ _ (μ2, fg_rho R1, 304)
  refine fg_icmp_eq (tgt := 2988) (fg_ft (pc := 2263) tb_Law_law_29 51 rfl) (by decide) (fun c2263 => ?_) (fun c2263 => (absurd rfl c2263))
  exact hK μ2 R1 A I (hJ1.R ag2)
theorem lw_k34 {E : fg_E} {d : Nat} {μ : Nat → Nat → Int32} {R : fg_T4} {Q : Option Value → fg_M → Prop} {A : fg_Tl} {I : Nat → fg_Tl} {i : Nat} {x : Nat → Nat} (hi : i + 8 ≤ E.2.2.2.2.2.2) (h4 : E.2.2.2.2.2.2 ≤ 4096) (hx : ∀ j, x j < 2 ^ 32) (hs : ∀ j, E.2.2.2.2.2.1 (i + j) = nI (x j)) (hJ : lw_J μ A I)  (hK : ∀ (μ' : Nat → Nat → Int32) (R' : fg_T4) (A' : fg_Tl) (I' : Nat → fg_Tl), lw_J μ' A' I' → fg_wp E yy_Law_law (d + 13) 100 304 Q 2988 [.ref 99, .ref 100, .ref 287, .int (nI i)] [] (μ', fg_rho R', 304)) : fg_wp E yy_Law_law (d + 13) 100 304 Q 2268 [.ref 99, .ref 100, .ref 287, .int (nI i)] [] (μ, fg_rho R, 304) := by
  refine fg_aloadn (fg_ft (pc := 2268) tb_Law_law_29 54 rfl) rfl ?_
  refine fg_aloadn (fg_ft (pc := 2269) tb_Law_law_29 55 rfl) rfl ?_
  refine fg_iloadn (fg_ft (pc := 2270) tb_Law_law_29 56 rfl) rfl ?_
  refine fg_iconst (fg_ft (pc := 2271) tb_Law_law_29 57 rfl) ic_1 ?_
  refine fg_iaddN (fg_ft (pc := 2272) tb_Law_law_29 58 rfl) ?_
  refine fg_sldN (fg_ft (pc := 2273) tb_Law_law_29 59 rfl) (by omega) h4 (hs 1) ?_
  refine fg_aloadn (fg_ft (pc := 2274) tb_Law_law_30 0 rfl) rfl ?_
  refine fg_iloadn (fg_ft (pc := 2275) tb_Law_law_30 1 rfl) rfl ?_
  refine fg_iconst (fg_ft (pc := 2276) tb_Law_law_30 2 rfl) ic_2 ?_
  refine fg_iaddN (fg_ft (pc := 2277) tb_Law_law_30 3 rfl) ?_
  refine fg_sldN (fg_ft (pc := 2278) tb_Law_law_30 4 rfl) (by omega) h4 (hs 2) ?_
  refine fg_aloadn (fg_ft (pc := 2279) tb_Law_law_30 5 rfl) rfl ?_
  refine fg_iloadn (fg_ft (pc := 2280) tb_Law_law_30 6 rfl) rfl ?_
  refine fg_iconst (fg_ft (pc := 2281) tb_Law_law_30 7 rfl) ic_3 ?_
  refine fg_iaddN (fg_ft (pc := 2282) tb_Law_law_30 8 rfl) ?_
  refine fg_sldN (fg_ft (pc := 2283) tb_Law_law_30 9 rfl) (by omega) h4 (hs 3) ?_
  refine fg_aloadn (fg_ft (pc := 2284) tb_Law_law_30 10 rfl) rfl ?_
  refine fg_iloadn (fg_ft (pc := 2285) tb_Law_law_30 11 rfl) rfl ?_
  refine fg_iconst (fg_ft (pc := 2286) tb_Law_law_30 12 rfl) ic_4 ?_
  refine fg_iaddN (fg_ft (pc := 2287) tb_Law_law_30 13 rfl) ?_
  refine fg_sldN (fg_ft (pc := 2288) tb_Law_law_30 14 rfl) (by omega) h4 (hs 4) ?_
  refine fg_aloadn (fg_ft (pc := 2289) tb_Law_law_30 15 rfl) rfl ?_
  refine fg_iloadn (fg_ft (pc := 2290) tb_Law_law_30 16 rfl) rfl ?_
  refine fg_iconst (fg_ft (pc := 2291) tb_Law_law_30 17 rfl) ic_5 ?_
  refine fg_iaddN (fg_ft (pc := 2292) tb_Law_law_30 18 rfl) ?_
  refine fg_sldN (fg_ft (pc := 2293) tb_Law_law_30 19 rfl) (by omega) h4 (hs 5) ?_
  refine fg_aloadn (fg_ft (pc := 2294) tb_Law_law_30 20 rfl) rfl ?_
  refine fg_iloadn (fg_ft (pc := 2295) tb_Law_law_30 21 rfl) rfl ?_
  refine fg_bipush (fg_ft (pc := 2296) tb_Law_law_30 22 rfl) ib_6 ?_
  refine fg_iaddN (fg_ft (pc := 2298) tb_Law_law_30 23 rfl) ?_
  refine fg_sldN (fg_ft (pc := 2299) tb_Law_law_30 24 rfl) (by omega) h4 (hs 6) ?_
  refine fg_callV (fg_ft (pc := 2300) tb_Law_law_30 25 rfl) cf_Law_158 (fg_isOf ly_100 rfl (fg_lt ly_100 (by decide))) (as := [.int (nI (x 1)), .int (nI (x 2)), .int (nI (x 3)), .int (nI (x 4)), .int (nI (x 5)), .int (nI (x 6))]) (st := []) rfl rfl (Nat.le_of_ble_eq_true rfl) (Nat.le_refl _) (Nat.le_refl _) (ev_Fb_gain hJ.1.1 (hx 1) (hx 2) (hx 3) (hx 4) (hx 5) (hx 6) ?_)
  intro μ1 R1 ag1
  have hJ1 := hJ.Q ag1
  show fg_wp _ _ _ _ _ _ _ _ _ (μ1, fg_rho R1, 304)
  refine fg_aloadn (fg_ft (pc := 2303) tb_Law_law_30 26 rfl) rfl ?_
  refine fg_aloadn (fg_ft (pc := 2304) tb_Law_law_30 27 rfl) rfl ?_
  refine fg_iloadn (fg_ft (pc := 2305) tb_Law_law_30 28 rfl) rfl ?_
  refine fg_iconst (fg_ft (pc := 2306) tb_Law_law_30 29 rfl) ic_1 ?_
  refine fg_iaddN (fg_ft (pc := 2307) tb_Law_law_30 30 rfl) ?_
  refine fg_sldN (fg_ft (pc := 2308) tb_Law_law_30 31 rfl) (by omega) h4 (hs 1) ?_
  refine fg_aloadn (fg_ft (pc := 2309) tb_Law_law_30 32 rfl) rfl ?_
  refine fg_iloadn (fg_ft (pc := 2310) tb_Law_law_30 33 rfl) rfl ?_
  refine fg_iconst (fg_ft (pc := 2311) tb_Law_law_30 34 rfl) ic_2 ?_
  refine fg_iaddN (fg_ft (pc := 2312) tb_Law_law_30 35 rfl) ?_
  refine fg_sldN (fg_ft (pc := 2313) tb_Law_law_30 36 rfl) (by omega) h4 (hs 2) ?_
  refine fg_aloadn (fg_ft (pc := 2314) tb_Law_law_30 37 rfl) rfl ?_
  refine fg_iloadn (fg_ft (pc := 2315) tb_Law_law_30 38 rfl) rfl ?_
  refine fg_iconst (fg_ft (pc := 2316) tb_Law_law_30 39 rfl) ic_3 ?_
  refine fg_iaddN (fg_ft (pc := 2317) tb_Law_law_30 40 rfl) ?_
  refine fg_sldN (fg_ft (pc := 2318) tb_Law_law_30 41 rfl) (by omega) h4 (hs 3) ?_
  refine fg_aloadn (fg_ft (pc := 2319) tb_Law_law_30 42 rfl) rfl ?_
  refine fg_iloadn (fg_ft (pc := 2320) tb_Law_law_30 43 rfl) rfl ?_
  refine fg_iconst (fg_ft (pc := 2321) tb_Law_law_30 44 rfl) ic_4 ?_
  refine fg_iaddN (fg_ft (pc := 2322) tb_Law_law_30 45 rfl) ?_
  refine fg_sldN (fg_ft (pc := 2323) tb_Law_law_30 46 rfl) (by omega) h4 (hs 4) ?_
  refine fg_aloadn (fg_ft (pc := 2324) tb_Law_law_30 47 rfl) rfl ?_
  refine fg_iloadn (fg_ft (pc := 2325) tb_Law_law_30 48 rfl) rfl ?_
  refine fg_iconst (fg_ft (pc := 2326) tb_Law_law_30 49 rfl) ic_5 ?_
  refine fg_iaddN (fg_ft (pc := 2327) tb_Law_law_30 50 rfl) ?_
  refine fg_sldN (fg_ft (pc := 2328) tb_Law_law_30 51 rfl) (by omega) h4 (hs 5) ?_
  refine fg_aloadn (fg_ft (pc := 2329) tb_Law_law_30 52 rfl) rfl ?_
  refine fg_iloadn (fg_ft (pc := 2330) tb_Law_law_30 53 rfl) rfl ?_
  refine fg_bipush (fg_ft (pc := 2331) tb_Law_law_30 54 rfl) ib_6 ?_
  refine fg_iaddN (fg_ft (pc := 2333) tb_Law_law_30 55 rfl) ?_
  refine fg_sldN (fg_ft (pc := 2334) tb_Law_law_30 56 rfl) (by omega) h4 (hs 6) ?_
  refine fg_callV (fg_ft (pc := 2335) tb_Law_law_30 57 rfl) cf_Law_161 (fg_isOf ly_287 rfl (fg_lt ly_287 (by decide))) (as := [.int (nI (x 1)), .int (nI (x 2)), .int (nI (x 3)), .int (nI (x 4)), .int (nI (x 5)), .int (nI (x 6))]) (st := [.int _]) rfl rfl (Nat.le_of_ble_eq_true rfl) (Nat.le_refl _) (Nat.le_refl _) (ev_Mo_gain hJ1.1.2.1 hJ1.1.1.wA hJ1.2.2.1.1 hJ1.2.2.1.2 (hx 1) (hx 2) (hx 3) (hx 4) (hx 5) (hx 6) ?_)
  intro μ2 ag2
  show fg_wp _ _ _ _ _ _ _ _ _ (μ2, fg_rho R1, 304)
  refine fg_icmp_eq (tgt := 2988) (fg_ft (pc := 2338) tb_Law_law_30 58 rfl) (by decide) (fun c2338 => ?_) (fun c2338 => (absurd rfl c2338))
  exact hK μ2 R1 A I (hJ1.R ag2)
theorem lw_k35 {E : fg_E} {d : Nat} {μ : Nat → Nat → Int32} {R : fg_T4} {Q : Option Value → fg_M → Prop} {A : fg_Tl} {I : Nat → fg_Tl} {i : Nat} {x : Nat → Nat} (hi : i + 8 ≤ E.2.2.2.2.2.2) (h4 : E.2.2.2.2.2.2 ≤ 4096) (hx : ∀ j, x j < 2 ^ 32) (hs : ∀ j, E.2.2.2.2.2.1 (i + j) = nI (x j)) (hJ : lw_J μ A I)  (hK : ∀ (μ' : Nat → Nat → Int32) (R' : fg_T4) (A' : fg_Tl) (I' : Nat → fg_Tl), lw_J μ' A' I' → fg_wp E yy_Law_law (d + 13) 100 304 Q 2988 [.ref 99, .ref 100, .ref 287, .int (nI i)] [] (μ', fg_rho R', 304)) : fg_wp E yy_Law_law (d + 13) 100 304 Q 2343 [.ref 99, .ref 100, .ref 287, .int (nI i)] [] (μ, fg_rho R, 304) := by
  refine fg_aloadn (fg_ft (pc := 2343) tb_Law_law_31 1 rfl) rfl ?_
  refine fg_aloadn (fg_ft (pc := 2344) tb_Law_law_31 2 rfl) rfl ?_
  refine fg_iloadn (fg_ft (pc := 2345) tb_Law_law_31 3 rfl) rfl ?_
  refine fg_iconst (fg_ft (pc := 2346) tb_Law_law_31 4 rfl) ic_1 ?_
  refine fg_iaddN (fg_ft (pc := 2347) tb_Law_law_31 5 rfl) ?_
  refine fg_sldN (fg_ft (pc := 2348) tb_Law_law_31 6 rfl) (by omega) h4 (hs 1) ?_
  refine fg_aloadn (fg_ft (pc := 2349) tb_Law_law_31 7 rfl) rfl ?_
  refine fg_iloadn (fg_ft (pc := 2350) tb_Law_law_31 8 rfl) rfl ?_
  refine fg_iconst (fg_ft (pc := 2351) tb_Law_law_31 9 rfl) ic_2 ?_
  refine fg_iaddN (fg_ft (pc := 2352) tb_Law_law_31 10 rfl) ?_
  refine fg_sldN (fg_ft (pc := 2353) tb_Law_law_31 11 rfl) (by omega) h4 (hs 2) ?_
  refine fg_aloadn (fg_ft (pc := 2354) tb_Law_law_31 12 rfl) rfl ?_
  refine fg_iloadn (fg_ft (pc := 2355) tb_Law_law_31 13 rfl) rfl ?_
  refine fg_iconst (fg_ft (pc := 2356) tb_Law_law_31 14 rfl) ic_3 ?_
  refine fg_iaddN (fg_ft (pc := 2357) tb_Law_law_31 15 rfl) ?_
  refine fg_sldN (fg_ft (pc := 2358) tb_Law_law_31 16 rfl) (by omega) h4 (hs 3) ?_
  refine fg_aloadn (fg_ft (pc := 2359) tb_Law_law_31 17 rfl) rfl ?_
  refine fg_iloadn (fg_ft (pc := 2360) tb_Law_law_31 18 rfl) rfl ?_
  refine fg_iconst (fg_ft (pc := 2361) tb_Law_law_31 19 rfl) ic_4 ?_
  refine fg_iaddN (fg_ft (pc := 2362) tb_Law_law_31 20 rfl) ?_
  refine fg_sldN (fg_ft (pc := 2363) tb_Law_law_31 21 rfl) (by omega) h4 (hs 4) ?_
  refine fg_aloadn (fg_ft (pc := 2364) tb_Law_law_31 22 rfl) rfl ?_
  refine fg_iloadn (fg_ft (pc := 2365) tb_Law_law_31 23 rfl) rfl ?_
  refine fg_iconst (fg_ft (pc := 2366) tb_Law_law_31 24 rfl) ic_5 ?_
  refine fg_iaddN (fg_ft (pc := 2367) tb_Law_law_31 25 rfl) ?_
  refine fg_sldN (fg_ft (pc := 2368) tb_Law_law_31 26 rfl) (by omega) h4 (hs 5) ?_
  refine fg_if_eqW (tgt := 2376) (fg_ft (pc := 2369) tb_Law_law_31 27 rfl) (by decide) (hx 5) (fun c2369 => ?_) (fun c2369 => ?_)
  · refine fg_iconst (fg_ft (pc := 2376) tb_Law_law_31 30 rfl) ic_0 ?_
    refine fg_callV (fg_ft (pc := 2377) tb_Law_law_31 31 rfl) cf_Law_162 (fg_isOf ly_100 rfl (fg_lt ly_100 (by decide))) (as := [.int (nI (x 1)), .int (nI (x 2)), .int (nI (x 3)), .int (nI (x 4)), .int (nI 0)]) (st := []) rfl rfl (Nat.le_of_ble_eq_true rfl) (Nat.le_refl _) (Nat.le_refl _) (ev_Fb_relief0 hJ.1.1 (hx 1) (hx 2) (hx 3) (hx 4) ?_)
    intro μ1 R1 ag1
    have hJ1 := hJ.Q ag1
    show fg_wp _ _ _ _ _ _ _ _ _ (μ1, fg_rho R1, 304)
    refine fg_aloadn (fg_ft (pc := 2380) tb_Law_law_31 32 rfl) rfl ?_
    refine fg_aloadn (fg_ft (pc := 2381) tb_Law_law_31 33 rfl) rfl ?_
    refine fg_iloadn (fg_ft (pc := 2382) tb_Law_law_31 34 rfl) rfl ?_
    refine fg_iconst (fg_ft (pc := 2383) tb_Law_law_31 35 rfl) ic_1 ?_
    refine fg_iaddN (fg_ft (pc := 2384) tb_Law_law_31 36 rfl) ?_
    refine fg_sldN (fg_ft (pc := 2385) tb_Law_law_31 37 rfl) (by omega) h4 (hs 1) ?_
    refine fg_aloadn (fg_ft (pc := 2386) tb_Law_law_31 38 rfl) rfl ?_
    refine fg_iloadn (fg_ft (pc := 2387) tb_Law_law_31 39 rfl) rfl ?_
    refine fg_iconst (fg_ft (pc := 2388) tb_Law_law_31 40 rfl) ic_2 ?_
    refine fg_iaddN (fg_ft (pc := 2389) tb_Law_law_31 41 rfl) ?_
    refine fg_sldN (fg_ft (pc := 2390) tb_Law_law_31 42 rfl) (by omega) h4 (hs 2) ?_
    refine fg_aloadn (fg_ft (pc := 2391) tb_Law_law_31 43 rfl) rfl ?_
    refine fg_iloadn (fg_ft (pc := 2392) tb_Law_law_31 44 rfl) rfl ?_
    refine fg_iconst (fg_ft (pc := 2393) tb_Law_law_31 45 rfl) ic_3 ?_
    refine fg_iaddN (fg_ft (pc := 2394) tb_Law_law_31 46 rfl) ?_
    refine fg_sldN (fg_ft (pc := 2395) tb_Law_law_31 47 rfl) (by omega) h4 (hs 3) ?_
    refine fg_aloadn (fg_ft (pc := 2396) tb_Law_law_31 48 rfl) rfl ?_
    refine fg_iloadn (fg_ft (pc := 2397) tb_Law_law_31 49 rfl) rfl ?_
    refine fg_iconst (fg_ft (pc := 2398) tb_Law_law_31 50 rfl) ic_4 ?_
    refine fg_iaddN (fg_ft (pc := 2399) tb_Law_law_31 51 rfl) ?_
    refine fg_sldN (fg_ft (pc := 2400) tb_Law_law_31 52 rfl) (by omega) h4 (hs 4) ?_
    refine fg_aloadn (fg_ft (pc := 2401) tb_Law_law_31 53 rfl) rfl ?_
    refine fg_iloadn (fg_ft (pc := 2402) tb_Law_law_31 54 rfl) rfl ?_
    refine fg_iconst (fg_ft (pc := 2403) tb_Law_law_31 55 rfl) ic_5 ?_
    refine fg_iaddN (fg_ft (pc := 2404) tb_Law_law_31 56 rfl) ?_
    refine fg_sldN (fg_ft (pc := 2405) tb_Law_law_31 57 rfl) (by omega) h4 (hs 5) ?_
    refine fg_if_eqW (tgt := 2413) (fg_ft (pc := 2406) tb_Law_law_31 58 rfl) (by decide) (hx 5) (fun c2406 => ?_) (fun c2406 => (absurd c2369 c2406))
    refine fg_iconst (fg_ft (pc := 2413) tb_Law_law_32 1 rfl) ic_0 ?_
    refine fg_callV (fg_ft (pc := 2414) tb_Law_law_32 2 rfl) cf_Law_166 (fg_isOf ly_287 rfl (fg_lt ly_287 (by decide))) (as := [.int (nI (x 1)), .int (nI (x 2)), .int (nI (x 3)), .int (nI (x 4)), .int (nI 0)]) (st := [.int _]) rfl rfl (Nat.le_of_ble_eq_true rfl) (Nat.le_refl _) (Nat.le_refl _) (ev_Mo_relief0 hJ1.1.2.1 hJ1.1.1.wA hJ1.2.2.1.1 hJ1.2.2.1.2 (hx 1) (hx 2) (hx 3) (hx 4) ?_)
    intro μ2 ag2
    show fg_wp _ _ _ _ _ _ _ _ _ (μ2, fg_rho R1, 304)
    refine fg_icmp_eq (tgt := 2988) (fg_ft (pc := 2417) tb_Law_law_32 3 rfl) (by decide) (fun c2417 => ?_) (fun c2417 => (absurd rfl c2417))
    exact hK μ2 R1 A I (hJ1.R ag2)
  · refine fg_iconst (fg_ft (pc := 2372) tb_Law_law_31 28 rfl) ic_1 ?_
    refine fg_goto (tgt := 2377) (fg_ft (pc := 2373) tb_Law_law_31 29 rfl) (by decide) ?_
    refine fg_callV (fg_ft (pc := 2377) tb_Law_law_31 31 rfl) cf_Law_162 (fg_isOf ly_100 rfl (fg_lt ly_100 (by decide))) (as := [.int (nI (x 1)), .int (nI (x 2)), .int (nI (x 3)), .int (nI (x 4)), .int (nI 1)]) (st := []) rfl rfl (Nat.le_of_ble_eq_true rfl) (Nat.le_refl _) (Nat.le_refl _) (ev_Fb_relief1 hJ.1.1 (hx 1) (hx 2) (hx 3) (hx 4) ?_)
    intro μ1 R1 ag1
    have hJ1 := hJ.Q ag1
    show fg_wp _ _ _ _ _ _ _ _ _ (μ1, fg_rho R1, 304)
    refine fg_aloadn (fg_ft (pc := 2380) tb_Law_law_31 32 rfl) rfl ?_
    refine fg_aloadn (fg_ft (pc := 2381) tb_Law_law_31 33 rfl) rfl ?_
    refine fg_iloadn (fg_ft (pc := 2382) tb_Law_law_31 34 rfl) rfl ?_
    refine fg_iconst (fg_ft (pc := 2383) tb_Law_law_31 35 rfl) ic_1 ?_
    refine fg_iaddN (fg_ft (pc := 2384) tb_Law_law_31 36 rfl) ?_
    refine fg_sldN (fg_ft (pc := 2385) tb_Law_law_31 37 rfl) (by omega) h4 (hs 1) ?_
    refine fg_aloadn (fg_ft (pc := 2386) tb_Law_law_31 38 rfl) rfl ?_
    refine fg_iloadn (fg_ft (pc := 2387) tb_Law_law_31 39 rfl) rfl ?_
    refine fg_iconst (fg_ft (pc := 2388) tb_Law_law_31 40 rfl) ic_2 ?_
    refine fg_iaddN (fg_ft (pc := 2389) tb_Law_law_31 41 rfl) ?_
    refine fg_sldN (fg_ft (pc := 2390) tb_Law_law_31 42 rfl) (by omega) h4 (hs 2) ?_
    refine fg_aloadn (fg_ft (pc := 2391) tb_Law_law_31 43 rfl) rfl ?_
    refine fg_iloadn (fg_ft (pc := 2392) tb_Law_law_31 44 rfl) rfl ?_
    refine fg_iconst (fg_ft (pc := 2393) tb_Law_law_31 45 rfl) ic_3 ?_
    refine fg_iaddN (fg_ft (pc := 2394) tb_Law_law_31 46 rfl) ?_
    refine fg_sldN (fg_ft (pc := 2395) tb_Law_law_31 47 rfl) (by omega) h4 (hs 3) ?_
    refine fg_aloadn (fg_ft (pc := 2396) tb_Law_law_31 48 rfl) rfl ?_
    refine fg_iloadn (fg_ft (pc := 2397) tb_Law_law_31 49 rfl) rfl ?_
    refine fg_iconst (fg_ft (pc := 2398) tb_Law_law_31 50 rfl) ic_4 ?_
    refine fg_iaddN (fg_ft (pc := 2399) tb_Law_law_31 51 rfl) ?_
    refine fg_sldN (fg_ft (pc := 2400) tb_Law_law_31 52 rfl) (by omega) h4 (hs 4) ?_
    refine fg_aloadn (fg_ft (pc := 2401) tb_Law_law_31 53 rfl) rfl ?_
    refine fg_iloadn (fg_ft (pc := 2402) tb_Law_law_31 54 rfl) rfl ?_
    refine fg_iconst (fg_ft (pc := 2403) tb_Law_law_31 55 rfl) ic_5 ?_
    refine fg_iaddN (fg_ft (pc := 2404) tb_Law_law_31 56 rfl) ?_
    refine fg_sldN (fg_ft (pc := 2405) tb_Law_law_31 57 rfl) (by omega) h4 (hs 5) ?_
    refine fg_if_eqW (tgt := 2413) (fg_ft (pc := 2406) tb_Law_law_31 58 rfl) (by decide) (hx 5) (fun c2406 => (absurd c2406 c2369)) (fun c2406 => ?_)
    refine fg_iconst (fg_ft (pc := 2409) tb_Law_law_31 59 rfl) ic_1 ?_
    refine fg_goto (tgt := 2414) (fg_ft (pc := 2410) tb_Law_law_32 0 rfl) (by decide) ?_
    refine fg_callV (fg_ft (pc := 2414) tb_Law_law_32 2 rfl) cf_Law_166 (fg_isOf ly_287 rfl (fg_lt ly_287 (by decide))) (as := [.int (nI (x 1)), .int (nI (x 2)), .int (nI (x 3)), .int (nI (x 4)), .int (nI 1)]) (st := [.int _]) rfl rfl (Nat.le_of_ble_eq_true rfl) (Nat.le_refl _) (Nat.le_refl _) (ev_Mo_relief1 hJ1.1.2.1 hJ1.1.1.wA hJ1.2.2.1.1 hJ1.2.2.1.2 (hx 1) (hx 2) (hx 3) (hx 4) ?_)
    intro μ2 ag2
    show fg_wp _ _ _ _ _ _ _ _ _ (μ2, fg_rho R1, 304)
    refine fg_icmp_eq (tgt := 2988) (fg_ft (pc := 2417) tb_Law_law_32 3 rfl) (by decide) (fun c2417 => ?_) (fun c2417 => (absurd rfl c2417))
    exact hK μ2 R1 A I (hJ1.R ag2)
theorem lw_k36 {E : fg_E} {d : Nat} {μ : Nat → Nat → Int32} {R : fg_T4} {Q : Option Value → fg_M → Prop} {A : fg_Tl} {I : Nat → fg_Tl} {i : Nat} {x : Nat → Nat} (hi : i + 8 ≤ E.2.2.2.2.2.2) (h4 : E.2.2.2.2.2.2 ≤ 4096) (hx : ∀ j, x j < 2 ^ 32) (hs : ∀ j, E.2.2.2.2.2.1 (i + j) = nI (x j)) (hJ : lw_J μ A I)  (hK : ∀ (μ' : Nat → Nat → Int32) (R' : fg_T4) (A' : fg_Tl) (I' : Nat → fg_Tl), lw_J μ' A' I' → fg_wp E yy_Law_law (d + 13) 100 304 Q 2988 [.ref 99, .ref 100, .ref 287, .int (nI i)] [] (μ', fg_rho R', 304)) : fg_wp E yy_Law_law (d + 13) 100 304 Q 2422 [.ref 99, .ref 100, .ref 287, .int (nI i)] [] (μ, fg_rho R, 304) := by
  refine fg_aloadn (fg_ft (pc := 2422) tb_Law_law_32 6 rfl) rfl ?_
  refine fg_aloadn (fg_ft (pc := 2423) tb_Law_law_32 7 rfl) rfl ?_
  refine fg_iloadn (fg_ft (pc := 2424) tb_Law_law_32 8 rfl) rfl ?_
  refine fg_iconst (fg_ft (pc := 2425) tb_Law_law_32 9 rfl) ic_1 ?_
  refine fg_iaddN (fg_ft (pc := 2426) tb_Law_law_32 10 rfl) ?_
  refine fg_sldN (fg_ft (pc := 2427) tb_Law_law_32 11 rfl) (by omega) h4 (hs 1) ?_
  refine fg_aloadn (fg_ft (pc := 2428) tb_Law_law_32 12 rfl) rfl ?_
  refine fg_iloadn (fg_ft (pc := 2429) tb_Law_law_32 13 rfl) rfl ?_
  refine fg_iconst (fg_ft (pc := 2430) tb_Law_law_32 14 rfl) ic_2 ?_
  refine fg_iaddN (fg_ft (pc := 2431) tb_Law_law_32 15 rfl) ?_
  refine fg_sldN (fg_ft (pc := 2432) tb_Law_law_32 16 rfl) (by omega) h4 (hs 2) ?_
  refine fg_aloadn (fg_ft (pc := 2433) tb_Law_law_32 17 rfl) rfl ?_
  refine fg_iloadn (fg_ft (pc := 2434) tb_Law_law_32 18 rfl) rfl ?_
  refine fg_iconst (fg_ft (pc := 2435) tb_Law_law_32 19 rfl) ic_3 ?_
  refine fg_iaddN (fg_ft (pc := 2436) tb_Law_law_32 20 rfl) ?_
  refine fg_sldN (fg_ft (pc := 2437) tb_Law_law_32 21 rfl) (by omega) h4 (hs 3) ?_
  refine fg_aloadn (fg_ft (pc := 2438) tb_Law_law_32 22 rfl) rfl ?_
  refine fg_iloadn (fg_ft (pc := 2439) tb_Law_law_32 23 rfl) rfl ?_
  refine fg_iconst (fg_ft (pc := 2440) tb_Law_law_32 24 rfl) ic_4 ?_
  refine fg_iaddN (fg_ft (pc := 2441) tb_Law_law_32 25 rfl) ?_
  refine fg_sldN (fg_ft (pc := 2442) tb_Law_law_32 26 rfl) (by omega) h4 (hs 4) ?_
  refine fg_aloadn (fg_ft (pc := 2443) tb_Law_law_32 27 rfl) rfl ?_
  refine fg_iloadn (fg_ft (pc := 2444) tb_Law_law_32 28 rfl) rfl ?_
  refine fg_iconst (fg_ft (pc := 2445) tb_Law_law_32 29 rfl) ic_5 ?_
  refine fg_iaddN (fg_ft (pc := 2446) tb_Law_law_32 30 rfl) ?_
  refine fg_sldN (fg_ft (pc := 2447) tb_Law_law_32 31 rfl) (by omega) h4 (hs 5) ?_
  refine fg_callV (fg_ft (pc := 2448) tb_Law_law_32 32 rfl) cf_Law_167 (fg_isOf ly_100 rfl (fg_lt ly_100 (by decide))) (as := [.int (nI (x 1)), .int (nI (x 2)), .int (nI (x 3)), .int (nI (x 4)), .int (nI (x 5))]) (st := []) rfl rfl (Nat.le_of_ble_eq_true rfl) (Nat.le_refl _) (Nat.le_refl _) (ev_Fb_days hJ.1.1 (hx 1) (hx 2) (hx 3) (hx 5) ?_)
  intro μ1 R1 ag1
  have hJ1 := hJ.Q ag1
  show fg_wp _ _ _ _ _ _ _ _ _ (μ1, fg_rho R1, 304)
  refine fg_aloadn (fg_ft (pc := 2451) tb_Law_law_32 33 rfl) rfl ?_
  refine fg_aloadn (fg_ft (pc := 2452) tb_Law_law_32 34 rfl) rfl ?_
  refine fg_iloadn (fg_ft (pc := 2453) tb_Law_law_32 35 rfl) rfl ?_
  refine fg_iconst (fg_ft (pc := 2454) tb_Law_law_32 36 rfl) ic_1 ?_
  refine fg_iaddN (fg_ft (pc := 2455) tb_Law_law_32 37 rfl) ?_
  refine fg_sldN (fg_ft (pc := 2456) tb_Law_law_32 38 rfl) (by omega) h4 (hs 1) ?_
  refine fg_aloadn (fg_ft (pc := 2457) tb_Law_law_32 39 rfl) rfl ?_
  refine fg_iloadn (fg_ft (pc := 2458) tb_Law_law_32 40 rfl) rfl ?_
  refine fg_iconst (fg_ft (pc := 2459) tb_Law_law_32 41 rfl) ic_2 ?_
  refine fg_iaddN (fg_ft (pc := 2460) tb_Law_law_32 42 rfl) ?_
  refine fg_sldN (fg_ft (pc := 2461) tb_Law_law_32 43 rfl) (by omega) h4 (hs 2) ?_
  refine fg_aloadn (fg_ft (pc := 2462) tb_Law_law_32 44 rfl) rfl ?_
  refine fg_iloadn (fg_ft (pc := 2463) tb_Law_law_32 45 rfl) rfl ?_
  refine fg_iconst (fg_ft (pc := 2464) tb_Law_law_32 46 rfl) ic_3 ?_
  refine fg_iaddN (fg_ft (pc := 2465) tb_Law_law_32 47 rfl) ?_
  refine fg_sldN (fg_ft (pc := 2466) tb_Law_law_32 48 rfl) (by omega) h4 (hs 3) ?_
  refine fg_aloadn (fg_ft (pc := 2467) tb_Law_law_32 49 rfl) rfl ?_
  refine fg_iloadn (fg_ft (pc := 2468) tb_Law_law_32 50 rfl) rfl ?_
  refine fg_iconst (fg_ft (pc := 2469) tb_Law_law_32 51 rfl) ic_4 ?_
  refine fg_iaddN (fg_ft (pc := 2470) tb_Law_law_32 52 rfl) ?_
  refine fg_sldN (fg_ft (pc := 2471) tb_Law_law_32 53 rfl) (by omega) h4 (hs 4) ?_
  refine fg_aloadn (fg_ft (pc := 2472) tb_Law_law_32 54 rfl) rfl ?_
  refine fg_iloadn (fg_ft (pc := 2473) tb_Law_law_32 55 rfl) rfl ?_
  refine fg_iconst (fg_ft (pc := 2474) tb_Law_law_32 56 rfl) ic_5 ?_
  refine fg_iaddN (fg_ft (pc := 2475) tb_Law_law_32 57 rfl) ?_
  refine fg_sldN (fg_ft (pc := 2476) tb_Law_law_32 58 rfl) (by omega) h4 (hs 5) ?_
  refine fg_callV (fg_ft (pc := 2477) tb_Law_law_32 59 rfl) cf_Law_170 (fg_isOf ly_287 rfl (fg_lt ly_287 (by decide))) (as := [.int (nI (x 1)), .int (nI (x 2)), .int (nI (x 3)), .int (nI (x 4)), .int (nI (x 5))]) (st := [.int _]) rfl rfl (Nat.le_of_ble_eq_true rfl) (Nat.le_refl _) (Nat.le_refl _) (ev_Mo_days hJ1.1.2.1 hJ1.1.1.wA hJ1.2.2.1.1 hJ1.2.2.1.2 (hx 1) (hx 2) (hx 3) (hx 5) ?_)
  intro μ2 ag2
  show fg_wp _ _ _ _ _ _ _ _ _ (μ2, fg_rho R1, 304)
  refine fg_icmp_eq (tgt := 2988) (fg_ft (pc := 2480) tb_Law_law_33 0 rfl) (by decide) (fun c2480 => ?_) (fun c2480 => (absurd rfl c2480))
  exact hK μ2 R1 A I (hJ1.R ag2)
theorem lw_k37 {E : fg_E} {d : Nat} {μ : Nat → Nat → Int32} {R : fg_T4} {Q : Option Value → fg_M → Prop} {A : fg_Tl} {I : Nat → fg_Tl} {i : Nat} {x : Nat → Nat} (hi : i + 8 ≤ E.2.2.2.2.2.2) (h4 : E.2.2.2.2.2.2 ≤ 4096) (hx : ∀ j, x j < 2 ^ 32) (hs : ∀ j, E.2.2.2.2.2.1 (i + j) = nI (x j)) (hJ : lw_J μ A I)  (hK : ∀ (μ' : Nat → Nat → Int32) (R' : fg_T4) (A' : fg_Tl) (I' : Nat → fg_Tl), lw_J μ' A' I' → fg_wp E yy_Law_law (d + 13) 100 304 Q 2988 [.ref 99, .ref 100, .ref 287, .int (nI i)] [] (μ', fg_rho R', 304)) : fg_wp E yy_Law_law (d + 13) 100 304 Q 2485 [.ref 99, .ref 100, .ref 287, .int (nI i)] [] (μ, fg_rho R, 304) := by
  refine fg_aloadn (fg_ft (pc := 2485) tb_Law_law_33 3 rfl) rfl ?_
  refine fg_aloadn (fg_ft (pc := 2486) tb_Law_law_33 4 rfl) rfl ?_
  refine fg_iloadn (fg_ft (pc := 2487) tb_Law_law_33 5 rfl) rfl ?_
  refine fg_iconst (fg_ft (pc := 2488) tb_Law_law_33 6 rfl) ic_1 ?_
  refine fg_iaddN (fg_ft (pc := 2489) tb_Law_law_33 7 rfl) ?_
  refine fg_sldN (fg_ft (pc := 2490) tb_Law_law_33 8 rfl) (by omega) h4 (hs 1) ?_
  refine fg_aloadn (fg_ft (pc := 2491) tb_Law_law_33 9 rfl) rfl ?_
  refine fg_iloadn (fg_ft (pc := 2492) tb_Law_law_33 10 rfl) rfl ?_
  refine fg_iconst (fg_ft (pc := 2493) tb_Law_law_33 11 rfl) ic_2 ?_
  refine fg_iaddN (fg_ft (pc := 2494) tb_Law_law_33 12 rfl) ?_
  refine fg_sldN (fg_ft (pc := 2495) tb_Law_law_33 13 rfl) (by omega) h4 (hs 2) ?_
  refine fg_callV (fg_ft (pc := 2496) tb_Law_law_33 14 rfl) cf_Law_171 (fg_isOf ly_100 rfl (fg_lt ly_100 (by decide))) (as := [.int (nI (x 1)), .int (nI (x 2))]) (st := []) rfl rfl (Nat.le_of_ble_eq_true rfl) (Nat.le_refl _) (Nat.le_refl _) (ev_Fb_reach hJ.1.1 (hx 1) (hx 2) ?_)
  intro μ1 R1 ag1
  have hJ1 := hJ.Q ag1
  show fg_wp _ _ _ _ _ _ _ _ _ (μ1, fg_rho R1, 304)
  refine fg_aloadn (fg_ft (pc := 2499) tb_Law_law_33 15 rfl) rfl ?_
  refine fg_aloadn (fg_ft (pc := 2500) tb_Law_law_33 16 rfl) rfl ?_
  refine fg_iloadn (fg_ft (pc := 2501) tb_Law_law_33 17 rfl) rfl ?_
  refine fg_iconst (fg_ft (pc := 2502) tb_Law_law_33 18 rfl) ic_1 ?_
  refine fg_iaddN (fg_ft (pc := 2503) tb_Law_law_33 19 rfl) ?_
  refine fg_sldN (fg_ft (pc := 2504) tb_Law_law_33 20 rfl) (by omega) h4 (hs 1) ?_
  refine fg_aloadn (fg_ft (pc := 2505) tb_Law_law_33 21 rfl) rfl ?_
  refine fg_iloadn (fg_ft (pc := 2506) tb_Law_law_33 22 rfl) rfl ?_
  refine fg_iconst (fg_ft (pc := 2507) tb_Law_law_33 23 rfl) ic_2 ?_
  refine fg_iaddN (fg_ft (pc := 2508) tb_Law_law_33 24 rfl) ?_
  refine fg_sldN (fg_ft (pc := 2509) tb_Law_law_33 25 rfl) (by omega) h4 (hs 2) ?_
  refine fg_callV (fg_ft (pc := 2510) tb_Law_law_33 26 rfl) cf_Law_174 (fg_isOf ly_287 rfl (fg_lt ly_287 (by decide))) (as := [.int (nI (x 1)), .int (nI (x 2))]) (st := [.int _]) rfl rfl (Nat.le_of_ble_eq_true rfl) (Nat.le_refl _) (Nat.le_refl _) (ev_Mo_reach hJ1.1.2.1 hJ1.1.1.wA hJ1.2.2.1.1 hJ1.2.2.1.2 (hx 1) (hx 2) ?_)
  intro μ2 ag2
  show fg_wp _ _ _ _ _ _ _ _ _ (μ2, fg_rho R1, 304)
  refine fg_icmp_eq (tgt := 2988) (fg_ft (pc := 2513) tb_Law_law_33 27 rfl) (by decide) (fun c2513 => ?_) (fun c2513 => (absurd rfl c2513))
  exact hK μ2 R1 A I (hJ1.R ag2)
theorem lw_k38 {E : fg_E} {d : Nat} {μ : Nat → Nat → Int32} {R : fg_T4} {Q : Option Value → fg_M → Prop} {A : fg_Tl} {I : Nat → fg_Tl} {i : Nat} {x : Nat → Nat} (hi : i + 8 ≤ E.2.2.2.2.2.2) (h4 : E.2.2.2.2.2.2 ≤ 4096) (hx : ∀ j, x j < 2 ^ 32) (hs : ∀ j, E.2.2.2.2.2.1 (i + j) = nI (x j)) (hJ : lw_J μ A I)  (hK : ∀ (μ' : Nat → Nat → Int32) (R' : fg_T4) (A' : fg_Tl) (I' : Nat → fg_Tl), lw_J μ' A' I' → fg_wp E yy_Law_law (d + 13) 100 304 Q 2988 [.ref 99, .ref 100, .ref 287, .int (nI i)] [] (μ', fg_rho R', 304)) : fg_wp E yy_Law_law (d + 13) 100 304 Q 2518 [.ref 99, .ref 100, .ref 287, .int (nI i)] [] (μ, fg_rho R, 304) := by
  refine fg_aloadn (fg_ft (pc := 2518) tb_Law_law_33 30 rfl) rfl ?_
  refine fg_aloadn (fg_ft (pc := 2519) tb_Law_law_33 31 rfl) rfl ?_
  refine fg_iloadn (fg_ft (pc := 2520) tb_Law_law_33 32 rfl) rfl ?_
  refine fg_iconst (fg_ft (pc := 2521) tb_Law_law_33 33 rfl) ic_1 ?_
  refine fg_iaddN (fg_ft (pc := 2522) tb_Law_law_33 34 rfl) ?_
  refine fg_sldN (fg_ft (pc := 2523) tb_Law_law_33 35 rfl) (by omega) h4 (hs 1) ?_
  refine fg_aloadn (fg_ft (pc := 2524) tb_Law_law_33 36 rfl) rfl ?_
  refine fg_iloadn (fg_ft (pc := 2525) tb_Law_law_33 37 rfl) rfl ?_
  refine fg_iconst (fg_ft (pc := 2526) tb_Law_law_33 38 rfl) ic_2 ?_
  refine fg_iaddN (fg_ft (pc := 2527) tb_Law_law_33 39 rfl) ?_
  refine fg_sldN (fg_ft (pc := 2528) tb_Law_law_33 40 rfl) (by omega) h4 (hs 2) ?_
  refine fg_callV (fg_ft (pc := 2529) tb_Law_law_33 41 rfl) cf_Law_175 (fg_isOf ly_100 rfl (fg_lt ly_100 (by decide))) (as := [.int (nI (x 1)), .int (nI (x 2))]) (st := []) rfl rfl (Nat.le_of_ble_eq_true rfl) (Nat.le_refl _) (Nat.le_refl _) (ev_Fb_twins hJ.1.1 (hx 1) (hx 2) ?_)
  intro μ1 R1 ag1
  have hJ1 := hJ.Q ag1
  show fg_wp _ _ _ _ _ _ _ _ _ (μ1, fg_rho R1, 304)
  refine fg_aloadn (fg_ft (pc := 2532) tb_Law_law_33 42 rfl) rfl ?_
  refine fg_aloadn (fg_ft (pc := 2533) tb_Law_law_33 43 rfl) rfl ?_
  refine fg_iloadn (fg_ft (pc := 2534) tb_Law_law_33 44 rfl) rfl ?_
  refine fg_iconst (fg_ft (pc := 2535) tb_Law_law_33 45 rfl) ic_1 ?_
  refine fg_iaddN (fg_ft (pc := 2536) tb_Law_law_33 46 rfl) ?_
  refine fg_sldN (fg_ft (pc := 2537) tb_Law_law_33 47 rfl) (by omega) h4 (hs 1) ?_
  refine fg_aloadn (fg_ft (pc := 2538) tb_Law_law_33 48 rfl) rfl ?_
  refine fg_iloadn (fg_ft (pc := 2539) tb_Law_law_33 49 rfl) rfl ?_
  refine fg_iconst (fg_ft (pc := 2540) tb_Law_law_33 50 rfl) ic_2 ?_
  refine fg_iaddN (fg_ft (pc := 2541) tb_Law_law_33 51 rfl) ?_
  refine fg_sldN (fg_ft (pc := 2542) tb_Law_law_33 52 rfl) (by omega) h4 (hs 2) ?_
  refine fg_callV (fg_ft (pc := 2543) tb_Law_law_33 53 rfl) cf_Law_178 (fg_isOf ly_287 rfl (fg_lt ly_287 (by decide))) (as := [.int (nI (x 1)), .int (nI (x 2))]) (st := [.int _]) rfl rfl (Nat.le_of_ble_eq_true rfl) (Nat.le_refl _) (Nat.le_refl _) (ev_Mo_twins hJ1.1.2.1 hJ1.1.1.wA hJ1.2.2.1.1 hJ1.2.2.1.2 (hx 1) (hx 2) ?_)
  intro μ2 ag2
  show fg_wp _ _ _ _ _ _ _ _ _ (μ2, fg_rho R1, 304)
  refine fg_icmp_eq (tgt := 2988) (fg_ft (pc := 2546) tb_Law_law_33 54 rfl) (by decide) (fun c2546 => ?_) (fun c2546 => (absurd rfl c2546))
  exact hK μ2 R1 A I (hJ1.R ag2)
theorem lw_k39 {E : fg_E} {d : Nat} {μ : Nat → Nat → Int32} {R : fg_T4} {Q : Option Value → fg_M → Prop} {A : fg_Tl} {I : Nat → fg_Tl} {i : Nat} {x : Nat → Nat} (hi : i + 8 ≤ E.2.2.2.2.2.2) (h4 : E.2.2.2.2.2.2 ≤ 4096) (hx : ∀ j, x j < 2 ^ 32) (hs : ∀ j, E.2.2.2.2.2.1 (i + j) = nI (x j)) (hJ : lw_J μ A I)  (hK : ∀ (μ' : Nat → Nat → Int32) (R' : fg_T4) (A' : fg_Tl) (I' : Nat → fg_Tl), lw_J μ' A' I' → fg_wp E yy_Law_law (d + 13) 100 304 Q 2988 [.ref 99, .ref 100, .ref 287, .int (nI i)] [] (μ', fg_rho R', 304)) : fg_wp E yy_Law_law (d + 13) 100 304 Q 2551 [.ref 99, .ref 100, .ref 287, .int (nI i)] [] (μ, fg_rho R, 304) := by
  refine fg_aloadn (fg_ft (pc := 2551) tb_Law_law_33 57 rfl) rfl ?_
  refine fg_aloadn (fg_ft (pc := 2552) tb_Law_law_33 58 rfl) rfl ?_
  refine fg_iloadn (fg_ft (pc := 2553) tb_Law_law_33 59 rfl) rfl ?_
  refine fg_iconst (fg_ft (pc := 2554) tb_Law_law_34 0 rfl) ic_1 ?_
  refine fg_iaddN (fg_ft (pc := 2555) tb_Law_law_34 1 rfl) ?_
  refine fg_sldN (fg_ft (pc := 2556) tb_Law_law_34 2 rfl) (by omega) h4 (hs 1) ?_
  refine fg_aloadn (fg_ft (pc := 2557) tb_Law_law_34 3 rfl) rfl ?_
  refine fg_iloadn (fg_ft (pc := 2558) tb_Law_law_34 4 rfl) rfl ?_
  refine fg_iconst (fg_ft (pc := 2559) tb_Law_law_34 5 rfl) ic_2 ?_
  refine fg_iaddN (fg_ft (pc := 2560) tb_Law_law_34 6 rfl) ?_
  refine fg_sldN (fg_ft (pc := 2561) tb_Law_law_34 7 rfl) (by omega) h4 (hs 2) ?_
  refine fg_aloadn (fg_ft (pc := 2562) tb_Law_law_34 8 rfl) rfl ?_
  refine fg_iloadn (fg_ft (pc := 2563) tb_Law_law_34 9 rfl) rfl ?_
  refine fg_iconst (fg_ft (pc := 2564) tb_Law_law_34 10 rfl) ic_3 ?_
  refine fg_iaddN (fg_ft (pc := 2565) tb_Law_law_34 11 rfl) ?_
  refine fg_sldN (fg_ft (pc := 2566) tb_Law_law_34 12 rfl) (by omega) h4 (hs 3) ?_
  refine fg_aloadn (fg_ft (pc := 2567) tb_Law_law_34 13 rfl) rfl ?_
  refine fg_iloadn (fg_ft (pc := 2568) tb_Law_law_34 14 rfl) rfl ?_
  refine fg_iconst (fg_ft (pc := 2569) tb_Law_law_34 15 rfl) ic_4 ?_
  refine fg_iaddN (fg_ft (pc := 2570) tb_Law_law_34 16 rfl) ?_
  refine fg_sldN (fg_ft (pc := 2571) tb_Law_law_34 17 rfl) (by omega) h4 (hs 4) ?_
  refine fg_aloadn (fg_ft (pc := 2572) tb_Law_law_34 18 rfl) rfl ?_
  refine fg_iloadn (fg_ft (pc := 2573) tb_Law_law_34 19 rfl) rfl ?_
  refine fg_iconst (fg_ft (pc := 2574) tb_Law_law_34 20 rfl) ic_5 ?_
  refine fg_iaddN (fg_ft (pc := 2575) tb_Law_law_34 21 rfl) ?_
  refine fg_sldN (fg_ft (pc := 2576) tb_Law_law_34 22 rfl) (by omega) h4 (hs 5) ?_
  refine fg_callV (fg_ft (pc := 2577) tb_Law_law_34 23 rfl) cf_Law_179 (fg_isOf ly_100 rfl (fg_lt ly_100 (by decide))) (as := [.int (nI (x 1)), .int (nI (x 2)), .int (nI (x 3)), .int (nI (x 4)), .int (nI (x 5))]) (st := []) rfl rfl (Nat.le_of_ble_eq_true rfl) (Nat.le_refl _) (Nat.le_refl _) (ev_Fb_roots hJ.1.1 (hx 1) (hx 2) (hx 3) (hx 4) (hx 5) ?_)
  intro μ1 R1 ag1
  have hJ1 := hJ.Q ag1
  show fg_wp _ _ _ _ _ _ _ _ _ (μ1, fg_rho R1, 304)
  refine fg_aloadn (fg_ft (pc := 2580) tb_Law_law_34 24 rfl) rfl ?_
  refine fg_aloadn (fg_ft (pc := 2581) tb_Law_law_34 25 rfl) rfl ?_
  refine fg_iloadn (fg_ft (pc := 2582) tb_Law_law_34 26 rfl) rfl ?_
  refine fg_iconst (fg_ft (pc := 2583) tb_Law_law_34 27 rfl) ic_1 ?_
  refine fg_iaddN (fg_ft (pc := 2584) tb_Law_law_34 28 rfl) ?_
  refine fg_sldN (fg_ft (pc := 2585) tb_Law_law_34 29 rfl) (by omega) h4 (hs 1) ?_
  refine fg_aloadn (fg_ft (pc := 2586) tb_Law_law_34 30 rfl) rfl ?_
  refine fg_iloadn (fg_ft (pc := 2587) tb_Law_law_34 31 rfl) rfl ?_
  refine fg_iconst (fg_ft (pc := 2588) tb_Law_law_34 32 rfl) ic_2 ?_
  refine fg_iaddN (fg_ft (pc := 2589) tb_Law_law_34 33 rfl) ?_
  refine fg_sldN (fg_ft (pc := 2590) tb_Law_law_34 34 rfl) (by omega) h4 (hs 2) ?_
  refine fg_aloadn (fg_ft (pc := 2591) tb_Law_law_34 35 rfl) rfl ?_
  refine fg_iloadn (fg_ft (pc := 2592) tb_Law_law_34 36 rfl) rfl ?_
  refine fg_iconst (fg_ft (pc := 2593) tb_Law_law_34 37 rfl) ic_3 ?_
  refine fg_iaddN (fg_ft (pc := 2594) tb_Law_law_34 38 rfl) ?_
  refine fg_sldN (fg_ft (pc := 2595) tb_Law_law_34 39 rfl) (by omega) h4 (hs 3) ?_
  refine fg_aloadn (fg_ft (pc := 2596) tb_Law_law_34 40 rfl) rfl ?_
  refine fg_iloadn (fg_ft (pc := 2597) tb_Law_law_34 41 rfl) rfl ?_
  refine fg_iconst (fg_ft (pc := 2598) tb_Law_law_34 42 rfl) ic_4 ?_
  refine fg_iaddN (fg_ft (pc := 2599) tb_Law_law_34 43 rfl) ?_
  refine fg_sldN (fg_ft (pc := 2600) tb_Law_law_34 44 rfl) (by omega) h4 (hs 4) ?_
  refine fg_aloadn (fg_ft (pc := 2601) tb_Law_law_34 45 rfl) rfl ?_
  refine fg_iloadn (fg_ft (pc := 2602) tb_Law_law_34 46 rfl) rfl ?_
  refine fg_iconst (fg_ft (pc := 2603) tb_Law_law_34 47 rfl) ic_5 ?_
  refine fg_iaddN (fg_ft (pc := 2604) tb_Law_law_34 48 rfl) ?_
  refine fg_sldN (fg_ft (pc := 2605) tb_Law_law_34 49 rfl) (by omega) h4 (hs 5) ?_
  refine fg_callV (fg_ft (pc := 2606) tb_Law_law_34 50 rfl) cf_Law_182 (fg_isOf ly_287 rfl (fg_lt ly_287 (by decide))) (as := [.int (nI (x 1)), .int (nI (x 2)), .int (nI (x 3)), .int (nI (x 4)), .int (nI (x 5))]) (st := [.int _]) rfl rfl (Nat.le_of_ble_eq_true rfl) (Nat.le_refl _) (Nat.le_refl _) (ev_Mo_roots hJ1.1.2.1 hJ1.1.1.wA hJ1.2.2.1.1 hJ1.2.2.1.2 (hx 1) (hx 2) (hx 3) (hx 4) (hx 5) ?_)
  intro μ2 ag2
  show fg_wp _ _ _ _ _ _ _ _ _ (μ2, fg_rho R1, 304)
  refine fg_icmp_eq (tgt := 2988) (fg_ft (pc := 2609) tb_Law_law_34 51 rfl) (by decide) (fun c2609 => ?_) (fun c2609 => (absurd rfl c2609))
  exact hK μ2 R1 A I (hJ1.R ag2)
theorem lw_k40 {E : fg_E} {d : Nat} {μ : Nat → Nat → Int32} {R : fg_T4} {Q : Option Value → fg_M → Prop} {A : fg_Tl} {I : Nat → fg_Tl} {i : Nat} {x : Nat → Nat} (hi : i + 8 ≤ E.2.2.2.2.2.2) (h4 : E.2.2.2.2.2.2 ≤ 4096) (hx : ∀ j, x j < 2 ^ 32) (hs : ∀ j, E.2.2.2.2.2.1 (i + j) = nI (x j)) (hJ : lw_J μ A I)  (hK : ∀ (μ' : Nat → Nat → Int32) (R' : fg_T4) (A' : fg_Tl) (I' : Nat → fg_Tl), lw_J μ' A' I' → fg_wp E yy_Law_law (d + 13) 100 304 Q 2988 [.ref 99, .ref 100, .ref 287, .int (nI i)] [] (μ', fg_rho R', 304)) : fg_wp E yy_Law_law (d + 13) 100 304 Q 2614 [.ref 99, .ref 100, .ref 287, .int (nI i)] [] (μ, fg_rho R, 304) := by
  refine fg_aloadn (fg_ft (pc := 2614) tb_Law_law_34 54 rfl) rfl ?_
  refine fg_aloadn (fg_ft (pc := 2615) tb_Law_law_34 55 rfl) rfl ?_
  refine fg_iloadn (fg_ft (pc := 2616) tb_Law_law_34 56 rfl) rfl ?_
  refine fg_iconst (fg_ft (pc := 2617) tb_Law_law_34 57 rfl) ic_1 ?_
  refine fg_iaddN (fg_ft (pc := 2618) tb_Law_law_34 58 rfl) ?_
  refine fg_sldN (fg_ft (pc := 2619) tb_Law_law_34 59 rfl) (by omega) h4 (hs 1) ?_
  refine fg_aloadn (fg_ft (pc := 2620) tb_Law_law_35 0 rfl) rfl ?_
  refine fg_iloadn (fg_ft (pc := 2621) tb_Law_law_35 1 rfl) rfl ?_
  refine fg_iconst (fg_ft (pc := 2622) tb_Law_law_35 2 rfl) ic_2 ?_
  refine fg_iaddN (fg_ft (pc := 2623) tb_Law_law_35 3 rfl) ?_
  refine fg_sldN (fg_ft (pc := 2624) tb_Law_law_35 4 rfl) (by omega) h4 (hs 2) ?_
  refine fg_aloadn (fg_ft (pc := 2625) tb_Law_law_35 5 rfl) rfl ?_
  refine fg_iloadn (fg_ft (pc := 2626) tb_Law_law_35 6 rfl) rfl ?_
  refine fg_iconst (fg_ft (pc := 2627) tb_Law_law_35 7 rfl) ic_3 ?_
  refine fg_iaddN (fg_ft (pc := 2628) tb_Law_law_35 8 rfl) ?_
  refine fg_sldN (fg_ft (pc := 2629) tb_Law_law_35 9 rfl) (by omega) h4 (hs 3) ?_
  refine fg_aloadn (fg_ft (pc := 2630) tb_Law_law_35 10 rfl) rfl ?_
  refine fg_iloadn (fg_ft (pc := 2631) tb_Law_law_35 11 rfl) rfl ?_
  refine fg_iconst (fg_ft (pc := 2632) tb_Law_law_35 12 rfl) ic_4 ?_
  refine fg_iaddN (fg_ft (pc := 2633) tb_Law_law_35 13 rfl) ?_
  refine fg_sldN (fg_ft (pc := 2634) tb_Law_law_35 14 rfl) (by omega) h4 (hs 4) ?_
  refine fg_aloadn (fg_ft (pc := 2635) tb_Law_law_35 15 rfl) rfl ?_
  refine fg_iloadn (fg_ft (pc := 2636) tb_Law_law_35 16 rfl) rfl ?_
  refine fg_iconst (fg_ft (pc := 2637) tb_Law_law_35 17 rfl) ic_5 ?_
  refine fg_iaddN (fg_ft (pc := 2638) tb_Law_law_35 18 rfl) ?_
  refine fg_sldN (fg_ft (pc := 2639) tb_Law_law_35 19 rfl) (by omega) h4 (hs 5) ?_
  refine fg_callV (fg_ft (pc := 2640) tb_Law_law_35 20 rfl) cf_Law_183 (fg_isOf ly_100 rfl (fg_lt ly_100 (by decide))) (as := [.int (nI (x 1)), .int (nI (x 2)), .int (nI (x 3)), .int (nI (x 4)), .int (nI (x 5))]) (st := []) rfl rfl (Nat.le_of_ble_eq_true rfl) (Nat.le_refl _) (Nat.le_refl _) (ev_Fb_teach hJ.1.1 (hx 1) (hx 2) (hx 3) (hx 4) (hx 5) ?_)
  intro μ1 R1 ag1
  have hJ1 := hJ.Q ag1
  show fg_wp _ _ _ _ _ _ _ _ _ (μ1, fg_rho R1, 304)
  refine fg_aloadn (fg_ft (pc := 2643) tb_Law_law_35 21 rfl) rfl ?_
  refine fg_aloadn (fg_ft (pc := 2644) tb_Law_law_35 22 rfl) rfl ?_
  refine fg_iloadn (fg_ft (pc := 2645) tb_Law_law_35 23 rfl) rfl ?_
  refine fg_iconst (fg_ft (pc := 2646) tb_Law_law_35 24 rfl) ic_1 ?_
  refine fg_iaddN (fg_ft (pc := 2647) tb_Law_law_35 25 rfl) ?_
  refine fg_sldN (fg_ft (pc := 2648) tb_Law_law_35 26 rfl) (by omega) h4 (hs 1) ?_
  refine fg_aloadn (fg_ft (pc := 2649) tb_Law_law_35 27 rfl) rfl ?_
  refine fg_iloadn (fg_ft (pc := 2650) tb_Law_law_35 28 rfl) rfl ?_
  refine fg_iconst (fg_ft (pc := 2651) tb_Law_law_35 29 rfl) ic_2 ?_
  refine fg_iaddN (fg_ft (pc := 2652) tb_Law_law_35 30 rfl) ?_
  refine fg_sldN (fg_ft (pc := 2653) tb_Law_law_35 31 rfl) (by omega) h4 (hs 2) ?_
  refine fg_aloadn (fg_ft (pc := 2654) tb_Law_law_35 32 rfl) rfl ?_
  refine fg_iloadn (fg_ft (pc := 2655) tb_Law_law_35 33 rfl) rfl ?_
  refine fg_iconst (fg_ft (pc := 2656) tb_Law_law_35 34 rfl) ic_3 ?_
  refine fg_iaddN (fg_ft (pc := 2657) tb_Law_law_35 35 rfl) ?_
  refine fg_sldN (fg_ft (pc := 2658) tb_Law_law_35 36 rfl) (by omega) h4 (hs 3) ?_
  refine fg_aloadn (fg_ft (pc := 2659) tb_Law_law_35 37 rfl) rfl ?_
  refine fg_iloadn (fg_ft (pc := 2660) tb_Law_law_35 38 rfl) rfl ?_
  refine fg_iconst (fg_ft (pc := 2661) tb_Law_law_35 39 rfl) ic_4 ?_
  refine fg_iaddN (fg_ft (pc := 2662) tb_Law_law_35 40 rfl) ?_
  refine fg_sldN (fg_ft (pc := 2663) tb_Law_law_35 41 rfl) (by omega) h4 (hs 4) ?_
  refine fg_aloadn (fg_ft (pc := 2664) tb_Law_law_35 42 rfl) rfl ?_
  refine fg_iloadn (fg_ft (pc := 2665) tb_Law_law_35 43 rfl) rfl ?_
  refine fg_iconst (fg_ft (pc := 2666) tb_Law_law_35 44 rfl) ic_5 ?_
  refine fg_iaddN (fg_ft (pc := 2667) tb_Law_law_35 45 rfl) ?_
  refine fg_sldN (fg_ft (pc := 2668) tb_Law_law_35 46 rfl) (by omega) h4 (hs 5) ?_
  refine fg_callV (fg_ft (pc := 2669) tb_Law_law_35 47 rfl) cf_Law_186 (fg_isOf ly_287 rfl (fg_lt ly_287 (by decide))) (as := [.int (nI (x 1)), .int (nI (x 2)), .int (nI (x 3)), .int (nI (x 4)), .int (nI (x 5))]) (st := [.int _]) rfl rfl (Nat.le_of_ble_eq_true rfl) (Nat.le_refl _) (Nat.le_refl _) (ev_Mo_teach hJ1.1.2.1 hJ1.1.1.wA hJ1.2.2.1.1 hJ1.2.2.1.2 (hx 1) (hx 2) (hx 3) (hx 4) (hx 5) ?_)
  intro μ2 ag2
  show fg_wp _ _ _ _ _ _ _ _ _ (μ2, fg_rho R1, 304)
  refine fg_icmp_eq (tgt := 2988) (fg_ft (pc := 2672) tb_Law_law_35 48 rfl) (by decide) (fun c2672 => ?_) (fun c2672 => (absurd rfl c2672))
  exact hK μ2 R1 A I (hJ1.R ag2)
theorem lw_k41 {E : fg_E} {d : Nat} {μ : Nat → Nat → Int32} {R : fg_T4} {Q : Option Value → fg_M → Prop} {A : fg_Tl} {I : Nat → fg_Tl} {i : Nat} {x : Nat → Nat} (hi : i + 8 ≤ E.2.2.2.2.2.2) (h4 : E.2.2.2.2.2.2 ≤ 4096) (hx : ∀ j, x j < 2 ^ 32) (hs : ∀ j, E.2.2.2.2.2.1 (i + j) = nI (x j)) (hJ : lw_J μ A I)  (hK : ∀ (μ' : Nat → Nat → Int32) (R' : fg_T4) (A' : fg_Tl) (I' : Nat → fg_Tl), lw_J μ' A' I' → fg_wp E yy_Law_law (d + 13) 100 304 Q 2988 [.ref 99, .ref 100, .ref 287, .int (nI i)] [] (μ', fg_rho R', 304)) : fg_wp E yy_Law_law (d + 13) 100 304 Q 2677 [.ref 99, .ref 100, .ref 287, .int (nI i)] [] (μ, fg_rho R, 304) := by
  refine fg_aloadn (fg_ft (pc := 2677) tb_Law_law_35 51 rfl) rfl ?_
  refine fg_aloadn (fg_ft (pc := 2678) tb_Law_law_35 52 rfl) rfl ?_
  refine fg_iloadn (fg_ft (pc := 2679) tb_Law_law_35 53 rfl) rfl ?_
  refine fg_iconst (fg_ft (pc := 2680) tb_Law_law_35 54 rfl) ic_1 ?_
  refine fg_iaddN (fg_ft (pc := 2681) tb_Law_law_35 55 rfl) ?_
  refine fg_sldN (fg_ft (pc := 2682) tb_Law_law_35 56 rfl) (by omega) h4 (hs 1) ?_
  refine fg_aloadn (fg_ft (pc := 2683) tb_Law_law_35 57 rfl) rfl ?_
  refine fg_iloadn (fg_ft (pc := 2684) tb_Law_law_35 58 rfl) rfl ?_
  refine fg_iconst (fg_ft (pc := 2685) tb_Law_law_35 59 rfl) ic_2 ?_
  refine fg_iaddN (fg_ft (pc := 2686) tb_Law_law_36 0 rfl) ?_
  refine fg_sldN (fg_ft (pc := 2687) tb_Law_law_36 1 rfl) (by omega) h4 (hs 2) ?_
  refine fg_aloadn (fg_ft (pc := 2688) tb_Law_law_36 2 rfl) rfl ?_
  refine fg_iloadn (fg_ft (pc := 2689) tb_Law_law_36 3 rfl) rfl ?_
  refine fg_iconst (fg_ft (pc := 2690) tb_Law_law_36 4 rfl) ic_3 ?_
  refine fg_iaddN (fg_ft (pc := 2691) tb_Law_law_36 5 rfl) ?_
  refine fg_sldN (fg_ft (pc := 2692) tb_Law_law_36 6 rfl) (by omega) h4 (hs 3) ?_
  refine fg_aloadn (fg_ft (pc := 2693) tb_Law_law_36 7 rfl) rfl ?_
  refine fg_iloadn (fg_ft (pc := 2694) tb_Law_law_36 8 rfl) rfl ?_
  refine fg_iconst (fg_ft (pc := 2695) tb_Law_law_36 9 rfl) ic_4 ?_
  refine fg_iaddN (fg_ft (pc := 2696) tb_Law_law_36 10 rfl) ?_
  refine fg_sldN (fg_ft (pc := 2697) tb_Law_law_36 11 rfl) (by omega) h4 (hs 4) ?_
  refine fg_callV (fg_ft (pc := 2698) tb_Law_law_36 12 rfl) cf_Law_187 (fg_isOf ly_100 rfl (fg_lt ly_100 (by decide))) (as := [.int (nI (x 1)), .int (nI (x 2)), .int (nI (x 3)), .int (nI (x 4))]) (st := []) rfl rfl (Nat.le_of_ble_eq_true rfl) (Nat.le_refl _) (Nat.le_refl _) (ev_Fb_whole hJ.1.1 (hx 1) (hx 2) (hx 3) (hx 4) ?_)
  intro μ1 R1 ag1
  have hJ1 := hJ.Q ag1
  show fg_wp _ _ _ _ _ _ _ _ _ (μ1, fg_rho R1, 304)
  refine fg_aloadn (fg_ft (pc := 2701) tb_Law_law_36 13 rfl) rfl ?_
  refine fg_aloadn (fg_ft (pc := 2702) tb_Law_law_36 14 rfl) rfl ?_
  refine fg_iloadn (fg_ft (pc := 2703) tb_Law_law_36 15 rfl) rfl ?_
  refine fg_iconst (fg_ft (pc := 2704) tb_Law_law_36 16 rfl) ic_1 ?_
  refine fg_iaddN (fg_ft (pc := 2705) tb_Law_law_36 17 rfl) ?_
  refine fg_sldN (fg_ft (pc := 2706) tb_Law_law_36 18 rfl) (by omega) h4 (hs 1) ?_
  refine fg_aloadn (fg_ft (pc := 2707) tb_Law_law_36 19 rfl) rfl ?_
  refine fg_iloadn (fg_ft (pc := 2708) tb_Law_law_36 20 rfl) rfl ?_
  refine fg_iconst (fg_ft (pc := 2709) tb_Law_law_36 21 rfl) ic_2 ?_
  refine fg_iaddN (fg_ft (pc := 2710) tb_Law_law_36 22 rfl) ?_
  refine fg_sldN (fg_ft (pc := 2711) tb_Law_law_36 23 rfl) (by omega) h4 (hs 2) ?_
  refine fg_aloadn (fg_ft (pc := 2712) tb_Law_law_36 24 rfl) rfl ?_
  refine fg_iloadn (fg_ft (pc := 2713) tb_Law_law_36 25 rfl) rfl ?_
  refine fg_iconst (fg_ft (pc := 2714) tb_Law_law_36 26 rfl) ic_3 ?_
  refine fg_iaddN (fg_ft (pc := 2715) tb_Law_law_36 27 rfl) ?_
  refine fg_sldN (fg_ft (pc := 2716) tb_Law_law_36 28 rfl) (by omega) h4 (hs 3) ?_
  refine fg_aloadn (fg_ft (pc := 2717) tb_Law_law_36 29 rfl) rfl ?_
  refine fg_iloadn (fg_ft (pc := 2718) tb_Law_law_36 30 rfl) rfl ?_
  refine fg_iconst (fg_ft (pc := 2719) tb_Law_law_36 31 rfl) ic_4 ?_
  refine fg_iaddN (fg_ft (pc := 2720) tb_Law_law_36 32 rfl) ?_
  refine fg_sldN (fg_ft (pc := 2721) tb_Law_law_36 33 rfl) (by omega) h4 (hs 4) ?_
  refine fg_callV (fg_ft (pc := 2722) tb_Law_law_36 34 rfl) cf_Law_190 (fg_isOf ly_287 rfl (fg_lt ly_287 (by decide))) (as := [.int (nI (x 1)), .int (nI (x 2)), .int (nI (x 3)), .int (nI (x 4))]) (st := [.int _]) rfl rfl (Nat.le_of_ble_eq_true rfl) (Nat.le_refl _) (Nat.le_refl _) (ev_Mo_whole hJ1.1.2.1 hJ1.1.1.wA hJ1.2.2.1.1 hJ1.2.2.1.2 (hx 1) (hx 2) (hx 3) (hx 4) ?_)
  intro μ2 ag2
  show fg_wp _ _ _ _ _ _ _ _ _ (μ2, fg_rho R1, 304)
  refine fg_icmp_eq (tgt := 2988) (fg_ft (pc := 2725) tb_Law_law_36 35 rfl) (by decide) (fun c2725 => ?_) (fun c2725 => (absurd rfl c2725))
  exact hK μ2 R1 A I (hJ1.R ag2)
theorem lw_k42 {E : fg_E} {d : Nat} {μ : Nat → Nat → Int32} {R : fg_T4} {Q : Option Value → fg_M → Prop} {A : fg_Tl} {I : Nat → fg_Tl} {i : Nat} {x : Nat → Nat} (hi : i + 8 ≤ E.2.2.2.2.2.2) (h4 : E.2.2.2.2.2.2 ≤ 4096) (hx : ∀ j, x j < 2 ^ 32) (hs : ∀ j, E.2.2.2.2.2.1 (i + j) = nI (x j)) (hJ : lw_J μ A I)  (hK : ∀ (μ' : Nat → Nat → Int32) (R' : fg_T4) (A' : fg_Tl) (I' : Nat → fg_Tl), lw_J μ' A' I' → fg_wp E yy_Law_law (d + 13) 100 304 Q 2988 [.ref 99, .ref 100, .ref 287, .int (nI i)] [] (μ', fg_rho R', 304)) : fg_wp E yy_Law_law (d + 13) 100 304 Q 2730 [.ref 99, .ref 100, .ref 287, .int (nI i)] [] (μ, fg_rho R, 304) := by
  refine fg_aloadn (fg_ft (pc := 2730) tb_Law_law_36 38 rfl) rfl ?_
  refine fg_aloadn (fg_ft (pc := 2731) tb_Law_law_36 39 rfl) rfl ?_
  refine fg_iloadn (fg_ft (pc := 2732) tb_Law_law_36 40 rfl) rfl ?_
  refine fg_iconst (fg_ft (pc := 2733) tb_Law_law_36 41 rfl) ic_1 ?_
  refine fg_iaddN (fg_ft (pc := 2734) tb_Law_law_36 42 rfl) ?_
  refine fg_sldN (fg_ft (pc := 2735) tb_Law_law_36 43 rfl) (by omega) h4 (hs 1) ?_
  refine fg_aloadn (fg_ft (pc := 2736) tb_Law_law_36 44 rfl) rfl ?_
  refine fg_iloadn (fg_ft (pc := 2737) tb_Law_law_36 45 rfl) rfl ?_
  refine fg_iconst (fg_ft (pc := 2738) tb_Law_law_36 46 rfl) ic_2 ?_
  refine fg_iaddN (fg_ft (pc := 2739) tb_Law_law_36 47 rfl) ?_
  refine fg_sldN (fg_ft (pc := 2740) tb_Law_law_36 48 rfl) (by omega) h4 (hs 2) ?_
  refine fg_aloadn (fg_ft (pc := 2741) tb_Law_law_36 49 rfl) rfl ?_
  refine fg_iloadn (fg_ft (pc := 2742) tb_Law_law_36 50 rfl) rfl ?_
  refine fg_iconst (fg_ft (pc := 2743) tb_Law_law_36 51 rfl) ic_3 ?_
  refine fg_iaddN (fg_ft (pc := 2744) tb_Law_law_36 52 rfl) ?_
  refine fg_sldN (fg_ft (pc := 2745) tb_Law_law_36 53 rfl) (by omega) h4 (hs 3) ?_
  refine fg_aloadn (fg_ft (pc := 2746) tb_Law_law_36 54 rfl) rfl ?_
  refine fg_iloadn (fg_ft (pc := 2747) tb_Law_law_36 55 rfl) rfl ?_
  refine fg_iconst (fg_ft (pc := 2748) tb_Law_law_36 56 rfl) ic_4 ?_
  refine fg_iaddN (fg_ft (pc := 2749) tb_Law_law_36 57 rfl) ?_
  refine fg_sldN (fg_ft (pc := 2750) tb_Law_law_36 58 rfl) (by omega) h4 (hs 4) ?_
  refine fg_aloadn (fg_ft (pc := 2751) tb_Law_law_36 59 rfl) rfl ?_
  refine fg_iloadn (fg_ft (pc := 2752) tb_Law_law_37 0 rfl) rfl ?_
  refine fg_iconst (fg_ft (pc := 2753) tb_Law_law_37 1 rfl) ic_5 ?_
  refine fg_iaddN (fg_ft (pc := 2754) tb_Law_law_37 2 rfl) ?_
  refine fg_sldN (fg_ft (pc := 2755) tb_Law_law_37 3 rfl) (by omega) h4 (hs 5) ?_
  refine fg_callV (fg_ft (pc := 2756) tb_Law_law_37 4 rfl) cf_Law_191 (fg_isOf ly_100 rfl (fg_lt ly_100 (by decide))) (as := [.int (nI (x 1)), .int (nI (x 2)), .int (nI (x 3)), .int (nI (x 4)), .int (nI (x 5))]) (st := []) rfl rfl (Nat.le_of_ble_eq_true rfl) (Nat.le_refl _) (Nat.le_refl _) (ev_Fb_stay hJ.1.1 (hx 1) (hx 2) (hx 3) (hx 4) (hx 5) ?_)
  intro μ1 R1 ag1
  have hJ1 := hJ.Q ag1
  show fg_wp _ _ _ _ _ _ _ _ _ (μ1, fg_rho R1, 304)
  refine fg_aloadn (fg_ft (pc := 2759) tb_Law_law_37 5 rfl) rfl ?_
  refine fg_aloadn (fg_ft (pc := 2760) tb_Law_law_37 6 rfl) rfl ?_
  refine fg_iloadn (fg_ft (pc := 2761) tb_Law_law_37 7 rfl) rfl ?_
  refine fg_iconst (fg_ft (pc := 2762) tb_Law_law_37 8 rfl) ic_1 ?_
  refine fg_iaddN (fg_ft (pc := 2763) tb_Law_law_37 9 rfl) ?_
  refine fg_sldN (fg_ft (pc := 2764) tb_Law_law_37 10 rfl) (by omega) h4 (hs 1) ?_
  refine fg_aloadn (fg_ft (pc := 2765) tb_Law_law_37 11 rfl) rfl ?_
  refine fg_iloadn (fg_ft (pc := 2766) tb_Law_law_37 12 rfl) rfl ?_
  refine fg_iconst (fg_ft (pc := 2767) tb_Law_law_37 13 rfl) ic_2 ?_
  refine fg_iaddN (fg_ft (pc := 2768) tb_Law_law_37 14 rfl) ?_
  refine fg_sldN (fg_ft (pc := 2769) tb_Law_law_37 15 rfl) (by omega) h4 (hs 2) ?_
  refine fg_aloadn (fg_ft (pc := 2770) tb_Law_law_37 16 rfl) rfl ?_
  refine fg_iloadn (fg_ft (pc := 2771) tb_Law_law_37 17 rfl) rfl ?_
  refine fg_iconst (fg_ft (pc := 2772) tb_Law_law_37 18 rfl) ic_3 ?_
  refine fg_iaddN (fg_ft (pc := 2773) tb_Law_law_37 19 rfl) ?_
  refine fg_sldN (fg_ft (pc := 2774) tb_Law_law_37 20 rfl) (by omega) h4 (hs 3) ?_
  refine fg_aloadn (fg_ft (pc := 2775) tb_Law_law_37 21 rfl) rfl ?_
  refine fg_iloadn (fg_ft (pc := 2776) tb_Law_law_37 22 rfl) rfl ?_
  refine fg_iconst (fg_ft (pc := 2777) tb_Law_law_37 23 rfl) ic_4 ?_
  refine fg_iaddN (fg_ft (pc := 2778) tb_Law_law_37 24 rfl) ?_
  refine fg_sldN (fg_ft (pc := 2779) tb_Law_law_37 25 rfl) (by omega) h4 (hs 4) ?_
  refine fg_aloadn (fg_ft (pc := 2780) tb_Law_law_37 26 rfl) rfl ?_
  refine fg_iloadn (fg_ft (pc := 2781) tb_Law_law_37 27 rfl) rfl ?_
  refine fg_iconst (fg_ft (pc := 2782) tb_Law_law_37 28 rfl) ic_5 ?_
  refine fg_iaddN (fg_ft (pc := 2783) tb_Law_law_37 29 rfl) ?_
  refine fg_sldN (fg_ft (pc := 2784) tb_Law_law_37 30 rfl) (by omega) h4 (hs 5) ?_
  refine fg_callV (fg_ft (pc := 2785) tb_Law_law_37 31 rfl) cf_Law_194 (fg_isOf ly_287 rfl (fg_lt ly_287 (by decide))) (as := [.int (nI (x 1)), .int (nI (x 2)), .int (nI (x 3)), .int (nI (x 4)), .int (nI (x 5))]) (st := [.int _]) rfl rfl (Nat.le_of_ble_eq_true rfl) (Nat.le_refl _) (Nat.le_refl _) (ev_Mo_stay hJ1.1.2.1 hJ1.1.1.wA hJ1.2.2.1.1 hJ1.2.2.1.2 (hx 1) (hx 2) (hx 3) (hx 4) (hx 5) ?_)
  intro μ2 ag2
  show fg_wp _ _ _ _ _ _ _ _ _ (μ2, fg_rho R1, 304)
  refine fg_icmp_eq (tgt := 2988) (fg_ft (pc := 2788) tb_Law_law_37 32 rfl) (by decide) (fun c2788 => ?_) (fun c2788 => (absurd rfl c2788))
  exact hK μ2 R1 A I (hJ1.R ag2)
theorem lw_k43 {E : fg_E} {d : Nat} {μ : Nat → Nat → Int32} {R : fg_T4} {Q : Option Value → fg_M → Prop} {A : fg_Tl} {I : Nat → fg_Tl} {i : Nat} {x : Nat → Nat} (hi : i + 8 ≤ E.2.2.2.2.2.2) (h4 : E.2.2.2.2.2.2 ≤ 4096) (hx : ∀ j, x j < 2 ^ 32) (hs : ∀ j, E.2.2.2.2.2.1 (i + j) = nI (x j)) (hJ : lw_J μ A I)  (hK : ∀ (μ' : Nat → Nat → Int32) (R' : fg_T4) (A' : fg_Tl) (I' : Nat → fg_Tl), lw_J μ' A' I' → fg_wp E yy_Law_law (d + 13) 100 304 Q 2988 [.ref 99, .ref 100, .ref 287, .int (nI i)] [] (μ', fg_rho R', 304)) : fg_wp E yy_Law_law (d + 13) 100 304 Q 2793 [.ref 99, .ref 100, .ref 287, .int (nI i)] [] (μ, fg_rho R, 304) := by
  refine fg_aloadn (fg_ft (pc := 2793) tb_Law_law_37 35 rfl) rfl ?_
  refine fg_aloadn (fg_ft (pc := 2794) tb_Law_law_37 36 rfl) rfl ?_
  refine fg_iloadn (fg_ft (pc := 2795) tb_Law_law_37 37 rfl) rfl ?_
  refine fg_iconst (fg_ft (pc := 2796) tb_Law_law_37 38 rfl) ic_1 ?_
  refine fg_iaddN (fg_ft (pc := 2797) tb_Law_law_37 39 rfl) ?_
  refine fg_sldN (fg_ft (pc := 2798) tb_Law_law_37 40 rfl) (by omega) h4 (hs 1) ?_
  refine fg_aloadn (fg_ft (pc := 2799) tb_Law_law_37 41 rfl) rfl ?_
  refine fg_iloadn (fg_ft (pc := 2800) tb_Law_law_37 42 rfl) rfl ?_
  refine fg_iconst (fg_ft (pc := 2801) tb_Law_law_37 43 rfl) ic_2 ?_
  refine fg_iaddN (fg_ft (pc := 2802) tb_Law_law_37 44 rfl) ?_
  refine fg_sldN (fg_ft (pc := 2803) tb_Law_law_37 45 rfl) (by omega) h4 (hs 2) ?_
  refine fg_aloadn (fg_ft (pc := 2804) tb_Law_law_37 46 rfl) rfl ?_
  refine fg_iloadn (fg_ft (pc := 2805) tb_Law_law_37 47 rfl) rfl ?_
  refine fg_iconst (fg_ft (pc := 2806) tb_Law_law_37 48 rfl) ic_3 ?_
  refine fg_iaddN (fg_ft (pc := 2807) tb_Law_law_37 49 rfl) ?_
  refine fg_sldN (fg_ft (pc := 2808) tb_Law_law_37 50 rfl) (by omega) h4 (hs 3) ?_
  refine fg_aloadn (fg_ft (pc := 2809) tb_Law_law_37 51 rfl) rfl ?_
  refine fg_iloadn (fg_ft (pc := 2810) tb_Law_law_37 52 rfl) rfl ?_
  refine fg_iconst (fg_ft (pc := 2811) tb_Law_law_37 53 rfl) ic_4 ?_
  refine fg_iaddN (fg_ft (pc := 2812) tb_Law_law_37 54 rfl) ?_
  refine fg_sldN (fg_ft (pc := 2813) tb_Law_law_37 55 rfl) (by omega) h4 (hs 4) ?_
  refine fg_aloadn (fg_ft (pc := 2814) tb_Law_law_37 56 rfl) rfl ?_
  refine fg_iloadn (fg_ft (pc := 2815) tb_Law_law_37 57 rfl) rfl ?_
  refine fg_iconst (fg_ft (pc := 2816) tb_Law_law_37 58 rfl) ic_5 ?_
  refine fg_iaddN (fg_ft (pc := 2817) tb_Law_law_37 59 rfl) ?_
  refine fg_sldN (fg_ft (pc := 2818) tb_Law_law_38 0 rfl) (by omega) h4 (hs 5) ?_
  refine fg_callV (fg_ft (pc := 2819) tb_Law_law_38 1 rfl) cf_Law_195 (fg_isOf ly_100 rfl (fg_lt ly_100 (by decide))) (as := [.int (nI (x 1)), .int (nI (x 2)), .int (nI (x 3)), .int (nI (x 4)), .int (nI (x 5))]) (st := []) rfl rfl (Nat.le_of_ble_eq_true rfl) (Nat.le_refl _) (Nat.le_refl _) (ev_Fb_shut hJ.1.1 (hx 1) (hx 2) (hx 3) (hx 4) (hx 5) ?_)
  intro μ1 R1 ag1
  have hJ1 := hJ.Q ag1
  show fg_wp _ _ _ _ _ _ _ _ _ (μ1, fg_rho R1, 304)
  refine fg_aloadn (fg_ft (pc := 2822) tb_Law_law_38 2 rfl) rfl ?_
  refine fg_aloadn (fg_ft (pc := 2823) tb_Law_law_38 3 rfl) rfl ?_
  refine fg_iloadn (fg_ft (pc := 2824) tb_Law_law_38 4 rfl) rfl ?_
  refine fg_iconst (fg_ft (pc := 2825) tb_Law_law_38 5 rfl) ic_1 ?_
  refine fg_iaddN (fg_ft (pc := 2826) tb_Law_law_38 6 rfl) ?_
  refine fg_sldN (fg_ft (pc := 2827) tb_Law_law_38 7 rfl) (by omega) h4 (hs 1) ?_
  refine fg_aloadn (fg_ft (pc := 2828) tb_Law_law_38 8 rfl) rfl ?_
  refine fg_iloadn (fg_ft (pc := 2829) tb_Law_law_38 9 rfl) rfl ?_
  refine fg_iconst (fg_ft (pc := 2830) tb_Law_law_38 10 rfl) ic_2 ?_
  refine fg_iaddN (fg_ft (pc := 2831) tb_Law_law_38 11 rfl) ?_
  refine fg_sldN (fg_ft (pc := 2832) tb_Law_law_38 12 rfl) (by omega) h4 (hs 2) ?_
  refine fg_aloadn (fg_ft (pc := 2833) tb_Law_law_38 13 rfl) rfl ?_
  refine fg_iloadn (fg_ft (pc := 2834) tb_Law_law_38 14 rfl) rfl ?_
  refine fg_iconst (fg_ft (pc := 2835) tb_Law_law_38 15 rfl) ic_3 ?_
  refine fg_iaddN (fg_ft (pc := 2836) tb_Law_law_38 16 rfl) ?_
  refine fg_sldN (fg_ft (pc := 2837) tb_Law_law_38 17 rfl) (by omega) h4 (hs 3) ?_
  refine fg_aloadn (fg_ft (pc := 2838) tb_Law_law_38 18 rfl) rfl ?_
  refine fg_iloadn (fg_ft (pc := 2839) tb_Law_law_38 19 rfl) rfl ?_
  refine fg_iconst (fg_ft (pc := 2840) tb_Law_law_38 20 rfl) ic_4 ?_
  refine fg_iaddN (fg_ft (pc := 2841) tb_Law_law_38 21 rfl) ?_
  refine fg_sldN (fg_ft (pc := 2842) tb_Law_law_38 22 rfl) (by omega) h4 (hs 4) ?_
  refine fg_aloadn (fg_ft (pc := 2843) tb_Law_law_38 23 rfl) rfl ?_
  refine fg_iloadn (fg_ft (pc := 2844) tb_Law_law_38 24 rfl) rfl ?_
  refine fg_iconst (fg_ft (pc := 2845) tb_Law_law_38 25 rfl) ic_5 ?_
  refine fg_iaddN (fg_ft (pc := 2846) tb_Law_law_38 26 rfl) ?_
  refine fg_sldN (fg_ft (pc := 2847) tb_Law_law_38 27 rfl) (by omega) h4 (hs 5) ?_
  refine fg_callV (fg_ft (pc := 2848) tb_Law_law_38 28 rfl) cf_Law_198 (fg_isOf ly_287 rfl (fg_lt ly_287 (by decide))) (as := [.int (nI (x 1)), .int (nI (x 2)), .int (nI (x 3)), .int (nI (x 4)), .int (nI (x 5))]) (st := [.int _]) rfl rfl (Nat.le_of_ble_eq_true rfl) (Nat.le_refl _) (Nat.le_refl _) (ev_Mo_shut hJ1.1.2.1 hJ1.1.1.wA hJ1.2.2.1.1 hJ1.2.2.1.2 (hx 1) (hx 2) (hx 3) (hx 4) (hx 5) ?_)
  intro μ2 ag2
  show fg_wp _ _ _ _ _ _ _ _ _ (μ2, fg_rho R1, 304)
  refine fg_icmp_eq (tgt := 2988) (fg_ft (pc := 2851) tb_Law_law_38 29 rfl) (by decide) (fun c2851 => ?_) (fun c2851 => (absurd rfl c2851))
  exact hK μ2 R1 A I (hJ1.R ag2)
theorem lw_k44 {E : fg_E} {d : Nat} {μ : Nat → Nat → Int32} {R : fg_T4} {Q : Option Value → fg_M → Prop} {A : fg_Tl} {I : Nat → fg_Tl} {i : Nat} {x : Nat → Nat} (hi : i + 8 ≤ E.2.2.2.2.2.2) (h4 : E.2.2.2.2.2.2 ≤ 4096) (hx : ∀ j, x j < 2 ^ 32) (hs : ∀ j, E.2.2.2.2.2.1 (i + j) = nI (x j)) (hJ : lw_J μ A I)  (hK : ∀ (μ' : Nat → Nat → Int32) (R' : fg_T4) (A' : fg_Tl) (I' : Nat → fg_Tl), lw_J μ' A' I' → fg_wp E yy_Law_law (d + 13) 100 304 Q 2988 [.ref 99, .ref 100, .ref 287, .int (nI i)] [] (μ', fg_rho R', 304)) : fg_wp E yy_Law_law (d + 13) 100 304 Q 2856 [.ref 99, .ref 100, .ref 287, .int (nI i)] [] (μ, fg_rho R, 304) := by
  refine fg_aloadn (fg_ft (pc := 2856) tb_Law_law_38 32 rfl) rfl ?_
  refine fg_aloadn (fg_ft (pc := 2857) tb_Law_law_38 33 rfl) rfl ?_
  refine fg_iloadn (fg_ft (pc := 2858) tb_Law_law_38 34 rfl) rfl ?_
  refine fg_iconst (fg_ft (pc := 2859) tb_Law_law_38 35 rfl) ic_1 ?_
  refine fg_iaddN (fg_ft (pc := 2860) tb_Law_law_38 36 rfl) ?_
  refine fg_sldN (fg_ft (pc := 2861) tb_Law_law_38 37 rfl) (by omega) h4 (hs 1) ?_
  refine fg_aloadn (fg_ft (pc := 2862) tb_Law_law_38 38 rfl) rfl ?_
  refine fg_iloadn (fg_ft (pc := 2863) tb_Law_law_38 39 rfl) rfl ?_
  refine fg_iconst (fg_ft (pc := 2864) tb_Law_law_38 40 rfl) ic_2 ?_
  refine fg_iaddN (fg_ft (pc := 2865) tb_Law_law_38 41 rfl) ?_
  refine fg_sldN (fg_ft (pc := 2866) tb_Law_law_38 42 rfl) (by omega) h4 (hs 2) ?_
  refine fg_aloadn (fg_ft (pc := 2867) tb_Law_law_38 43 rfl) rfl ?_
  refine fg_iloadn (fg_ft (pc := 2868) tb_Law_law_38 44 rfl) rfl ?_
  refine fg_iconst (fg_ft (pc := 2869) tb_Law_law_38 45 rfl) ic_3 ?_
  refine fg_iaddN (fg_ft (pc := 2870) tb_Law_law_38 46 rfl) ?_
  refine fg_sldN (fg_ft (pc := 2871) tb_Law_law_38 47 rfl) (by omega) h4 (hs 3) ?_
  refine fg_aloadn (fg_ft (pc := 2872) tb_Law_law_38 48 rfl) rfl ?_
  refine fg_iloadn (fg_ft (pc := 2873) tb_Law_law_38 49 rfl) rfl ?_
  refine fg_iconst (fg_ft (pc := 2874) tb_Law_law_38 50 rfl) ic_4 ?_
  refine fg_iaddN (fg_ft (pc := 2875) tb_Law_law_38 51 rfl) ?_
  refine fg_sldN (fg_ft (pc := 2876) tb_Law_law_38 52 rfl) (by omega) h4 (hs 4) ?_
  refine fg_aloadn (fg_ft (pc := 2877) tb_Law_law_38 53 rfl) rfl ?_
  refine fg_iloadn (fg_ft (pc := 2878) tb_Law_law_38 54 rfl) rfl ?_
  refine fg_iconst (fg_ft (pc := 2879) tb_Law_law_38 55 rfl) ic_5 ?_
  refine fg_iaddN (fg_ft (pc := 2880) tb_Law_law_38 56 rfl) ?_
  refine fg_sldN (fg_ft (pc := 2881) tb_Law_law_38 57 rfl) (by omega) h4 (hs 5) ?_
  refine fg_callV (fg_ft (pc := 2882) tb_Law_law_38 58 rfl) cf_Law_199 (fg_isOf ly_100 rfl (fg_lt ly_100 (by decide))) (as := [.int (nI (x 1)), .int (nI (x 2)), .int (nI (x 3)), .int (nI (x 4)), .int (nI (x 5))]) (st := []) rfl rfl (Nat.le_of_ble_eq_true rfl) (Nat.le_refl _) (Nat.le_refl _) (ev_Fb_known hJ.1.1 (hx 1) (hx 2) (hx 3) (hx 4) (hx 5) ?_)
  intro μ1 R1 ag1
  have hJ1 := hJ.Q ag1
  show fg_wp _ _ _ _ _ _ _ _ _ (μ1, fg_rho R1, 304)
  refine fg_aloadn (fg_ft (pc := 2885) tb_Law_law_38 59 rfl) rfl ?_
  refine fg_aloadn (fg_ft (pc := 2886) tb_Law_law_39 0 rfl) rfl ?_
  refine fg_iloadn (fg_ft (pc := 2887) tb_Law_law_39 1 rfl) rfl ?_
  refine fg_iconst (fg_ft (pc := 2888) tb_Law_law_39 2 rfl) ic_1 ?_
  refine fg_iaddN (fg_ft (pc := 2889) tb_Law_law_39 3 rfl) ?_
  refine fg_sldN (fg_ft (pc := 2890) tb_Law_law_39 4 rfl) (by omega) h4 (hs 1) ?_
  refine fg_aloadn (fg_ft (pc := 2891) tb_Law_law_39 5 rfl) rfl ?_
  refine fg_iloadn (fg_ft (pc := 2892) tb_Law_law_39 6 rfl) rfl ?_
  refine fg_iconst (fg_ft (pc := 2893) tb_Law_law_39 7 rfl) ic_2 ?_
  refine fg_iaddN (fg_ft (pc := 2894) tb_Law_law_39 8 rfl) ?_
  refine fg_sldN (fg_ft (pc := 2895) tb_Law_law_39 9 rfl) (by omega) h4 (hs 2) ?_
  refine fg_aloadn (fg_ft (pc := 2896) tb_Law_law_39 10 rfl) rfl ?_
  refine fg_iloadn (fg_ft (pc := 2897) tb_Law_law_39 11 rfl) rfl ?_
  refine fg_iconst (fg_ft (pc := 2898) tb_Law_law_39 12 rfl) ic_3 ?_
  refine fg_iaddN (fg_ft (pc := 2899) tb_Law_law_39 13 rfl) ?_
  refine fg_sldN (fg_ft (pc := 2900) tb_Law_law_39 14 rfl) (by omega) h4 (hs 3) ?_
  refine fg_aloadn (fg_ft (pc := 2901) tb_Law_law_39 15 rfl) rfl ?_
  refine fg_iloadn (fg_ft (pc := 2902) tb_Law_law_39 16 rfl) rfl ?_
  refine fg_iconst (fg_ft (pc := 2903) tb_Law_law_39 17 rfl) ic_4 ?_
  refine fg_iaddN (fg_ft (pc := 2904) tb_Law_law_39 18 rfl) ?_
  refine fg_sldN (fg_ft (pc := 2905) tb_Law_law_39 19 rfl) (by omega) h4 (hs 4) ?_
  refine fg_aloadn (fg_ft (pc := 2906) tb_Law_law_39 20 rfl) rfl ?_
  refine fg_iloadn (fg_ft (pc := 2907) tb_Law_law_39 21 rfl) rfl ?_
  refine fg_iconst (fg_ft (pc := 2908) tb_Law_law_39 22 rfl) ic_5 ?_
  refine fg_iaddN (fg_ft (pc := 2909) tb_Law_law_39 23 rfl) ?_
  refine fg_sldN (fg_ft (pc := 2910) tb_Law_law_39 24 rfl) (by omega) h4 (hs 5) ?_
  refine fg_callV (fg_ft (pc := 2911) tb_Law_law_39 25 rfl) cf_Law_202 (fg_isOf ly_287 rfl (fg_lt ly_287 (by decide))) (as := [.int (nI (x 1)), .int (nI (x 2)), .int (nI (x 3)), .int (nI (x 4)), .int (nI (x 5))]) (st := [.int _]) rfl rfl (Nat.le_of_ble_eq_true rfl) (Nat.le_refl _) (Nat.le_refl _) (ev_Mo_known hJ1.1.2.1 hJ1.1.1.wA hJ1.2.2.1.1 hJ1.2.2.1.2 (hx 1) (hx 2) (hx 3) (hx 4) (hx 5) ?_)
  intro μ2 ag2
  show fg_wp _ _ _ _ _ _ _ _ _ (μ2, fg_rho R1, 304)
  refine fg_icmp_eq (tgt := 2988) (fg_ft (pc := 2914) tb_Law_law_39 26 rfl) (by decide) (fun c2914 => ?_) (fun c2914 => (absurd rfl c2914))
  exact hK μ2 R1 A I (hJ1.R ag2)
theorem lw_k45 {E : fg_E} {d : Nat} {μ : Nat → Nat → Int32} {R : fg_T4} {Q : Option Value → fg_M → Prop} {A : fg_Tl} {I : Nat → fg_Tl} {i : Nat} {x : Nat → Nat} (hi : i + 8 ≤ E.2.2.2.2.2.2) (h4 : E.2.2.2.2.2.2 ≤ 4096) (hx : ∀ j, x j < 2 ^ 32) (hs : ∀ j, E.2.2.2.2.2.1 (i + j) = nI (x j)) (hJ : lw_J μ A I)  (hK : ∀ (μ' : Nat → Nat → Int32) (R' : fg_T4) (A' : fg_Tl) (I' : Nat → fg_Tl), lw_J μ' A' I' → fg_wp E yy_Law_law (d + 13) 100 304 Q 2988 [.ref 99, .ref 100, .ref 287, .int (nI i)] [] (μ', fg_rho R', 304)) : fg_wp E yy_Law_law (d + 13) 100 304 Q 2919 [.ref 99, .ref 100, .ref 287, .int (nI i)] [] (μ, fg_rho R, 304) := by
  refine fg_aloadn (fg_ft (pc := 2919) tb_Law_law_39 29 rfl) rfl ?_
  refine fg_aloadn (fg_ft (pc := 2920) tb_Law_law_39 30 rfl) rfl ?_
  refine fg_iloadn (fg_ft (pc := 2921) tb_Law_law_39 31 rfl) rfl ?_
  refine fg_iconst (fg_ft (pc := 2922) tb_Law_law_39 32 rfl) ic_1 ?_
  refine fg_iaddN (fg_ft (pc := 2923) tb_Law_law_39 33 rfl) ?_
  refine fg_sldN (fg_ft (pc := 2924) tb_Law_law_39 34 rfl) (by omega) h4 (hs 1) ?_
  refine fg_callV (fg_ft (pc := 2925) tb_Law_law_39 35 rfl) cf_Law_203 (fg_isOf ly_100 rfl (fg_lt ly_100 (by decide))) (as := [.int (nI (x 1))]) (st := []) rfl rfl (Nat.le_of_ble_eq_true rfl) (Nat.le_refl _) (Nat.le_refl _) (ev_Fb_count hJ.1.1 (hx 1) ?_)
  intro μ1 R1 ag1
  have hJ1 := hJ.Q ag1
  show fg_wp _ _ _ _ _ _ _ _ _ (μ1, fg_rho R1, 304)
  refine fg_aloadn (fg_ft (pc := 2928) tb_Law_law_39 36 rfl) rfl ?_
  refine fg_aloadn (fg_ft (pc := 2929) tb_Law_law_39 37 rfl) rfl ?_
  refine fg_iloadn (fg_ft (pc := 2930) tb_Law_law_39 38 rfl) rfl ?_
  refine fg_iconst (fg_ft (pc := 2931) tb_Law_law_39 39 rfl) ic_1 ?_
  refine fg_iaddN (fg_ft (pc := 2932) tb_Law_law_39 40 rfl) ?_
  refine fg_sldN (fg_ft (pc := 2933) tb_Law_law_39 41 rfl) (by omega) h4 (hs 1) ?_
  refine fg_callV (fg_ft (pc := 2934) tb_Law_law_39 42 rfl) cf_Law_206 (fg_isOf ly_287 rfl (fg_lt ly_287 (by decide))) (as := [.int (nI (x 1))]) (st := [.int _]) rfl rfl (Nat.le_of_ble_eq_true rfl) (Nat.le_refl _) (Nat.le_refl _) (ev_Mo_count hJ1.1.2.1 hJ1.1.1.wA hJ1.2.2.1.1 hJ1.2.2.1.2 (hx 1) ?_)
  intro μ2 ag2
  show fg_wp _ _ _ _ _ _ _ _ _ (μ2, fg_rho R1, 304)
  refine fg_icmp_eq (tgt := 2988) (fg_ft (pc := 2937) tb_Law_law_39 43 rfl) (by decide) (fun c2937 => ?_) (fun c2937 => (absurd rfl c2937))
  exact hK μ2 R1 A I (hJ1.R ag2)
theorem lw_k0 {E : fg_E} {d : Nat} {μ : Nat → Nat → Int32} {R : fg_T4} {Q : Option Value → fg_M → Prop} {A : fg_Tl} {I : Nat → fg_Tl} {i : Nat} {x : Nat → Nat} (hi : i + 8 ≤ E.2.2.2.2.2.2) (h4 : E.2.2.2.2.2.2 ≤ 4096) (hx : ∀ j, x j < 2 ^ 32) (hs : ∀ j, E.2.2.2.2.2.1 (i + j) = nI (x j)) (hJ : lw_J μ A I)  (hK : ∀ (μ' : Nat → Nat → Int32) (R' : fg_T4) (A' : fg_Tl) (I' : Nat → fg_Tl), lw_J μ' A' I' → fg_wp E yy_Law_law (d + 13) 100 304 Q 2988 [.ref 99, .ref 100, .ref 287, .int (nI i)] [] (μ', fg_rho R', 304)) : fg_wp E yy_Law_law (d + 13) 100 304 Q 240 [.ref 99, .ref 100, .ref 287, .int (nI i)] [] (μ, fg_rho R, 304) := by
  refine fg_aloadn (fg_ft (pc := 240) tb_Law_law_0 22 rfl) rfl ?_
  refine fg_aloadn (fg_ft (pc := 241) tb_Law_law_0 23 rfl) rfl ?_
  refine fg_iloadn (fg_ft (pc := 242) tb_Law_law_0 24 rfl) rfl ?_
  refine fg_iconst (fg_ft (pc := 243) tb_Law_law_0 25 rfl) ic_1 ?_
  refine fg_iaddN (fg_ft (pc := 244) tb_Law_law_0 26 rfl) ?_
  refine fg_sldN (fg_ft (pc := 245) tb_Law_law_0 27 rfl) (by omega) h4 (hs 1) ?_
  refine fg_aloadn (fg_ft (pc := 246) tb_Law_law_0 28 rfl) rfl ?_
  refine fg_iloadn (fg_ft (pc := 247) tb_Law_law_0 29 rfl) rfl ?_
  refine fg_iconst (fg_ft (pc := 248) tb_Law_law_0 30 rfl) ic_2 ?_
  refine fg_iaddN (fg_ft (pc := 249) tb_Law_law_0 31 rfl) ?_
  refine fg_sldN (fg_ft (pc := 250) tb_Law_law_0 32 rfl) (by omega) h4 (hs 2) ?_
  refine fg_aloadn (fg_ft (pc := 251) tb_Law_law_0 33 rfl) rfl ?_
  refine fg_iloadn (fg_ft (pc := 252) tb_Law_law_0 34 rfl) rfl ?_
  refine fg_iconst (fg_ft (pc := 253) tb_Law_law_0 35 rfl) ic_3 ?_
  refine fg_iaddN (fg_ft (pc := 254) tb_Law_law_0 36 rfl) ?_
  refine fg_sldN (fg_ft (pc := 255) tb_Law_law_0 37 rfl) (by omega) h4 (hs 3) ?_
  refine fg_aloadn (fg_ft (pc := 256) tb_Law_law_0 38 rfl) rfl ?_
  refine fg_iloadn (fg_ft (pc := 257) tb_Law_law_0 39 rfl) rfl ?_
  refine fg_iconst (fg_ft (pc := 258) tb_Law_law_0 40 rfl) ic_4 ?_
  refine fg_iaddN (fg_ft (pc := 259) tb_Law_law_0 41 rfl) ?_
  refine fg_sldN (fg_ft (pc := 260) tb_Law_law_0 42 rfl) (by omega) h4 (hs 4) ?_
  refine fg_aloadn (fg_ft (pc := 261) tb_Law_law_0 43 rfl) rfl ?_
  refine fg_iloadn (fg_ft (pc := 262) tb_Law_law_0 44 rfl) rfl ?_
  refine fg_iconst (fg_ft (pc := 263) tb_Law_law_0 45 rfl) ic_5 ?_
  refine fg_iaddN (fg_ft (pc := 264) tb_Law_law_0 46 rfl) ?_
  refine fg_sldN (fg_ft (pc := 265) tb_Law_law_0 47 rfl) (by omega) h4 (hs 5) ?_
  refine fg_callV (fg_ft (pc := 266) tb_Law_law_0 48 rfl) cf_Law_13 (fg_isOf ly_100 rfl (fg_lt ly_100 (by decide))) (as := [.int (nI (x 1)), .int (nI (x 2)), .int (nI (x 3)), .int (nI (x 4)), .int (nI (x 5))]) (st := []) rfl rfl (Nat.le_of_ble_eq_true rfl) (Nat.le_refl _) (Nat.le_refl _) (ev_Fb_feed hJ.1.1.1.1 hJ.1.1.1.2 ?_ ?_)
  · intro hn
    refine fg_aloadn (fg_ft (pc := 269) tb_Law_law_0 49 rfl) rfl ?_
    refine fg_aloadn (fg_ft (pc := 270) tb_Law_law_0 50 rfl) rfl ?_
    refine fg_iloadn (fg_ft (pc := 271) tb_Law_law_0 51 rfl) rfl ?_
    refine fg_iconst (fg_ft (pc := 272) tb_Law_law_0 52 rfl) ic_1 ?_
    refine fg_iaddN (fg_ft (pc := 273) tb_Law_law_0 53 rfl) ?_
    refine fg_sldN (fg_ft (pc := 274) tb_Law_law_0 54 rfl) (by omega) h4 (hs 1) ?_
    refine fg_aloadn (fg_ft (pc := 275) tb_Law_law_0 55 rfl) rfl ?_
    refine fg_iloadn (fg_ft (pc := 276) tb_Law_law_0 56 rfl) rfl ?_
    refine fg_iconst (fg_ft (pc := 277) tb_Law_law_0 57 rfl) ic_2 ?_
    refine fg_iaddN (fg_ft (pc := 278) tb_Law_law_0 58 rfl) ?_
    refine fg_sldN (fg_ft (pc := 279) tb_Law_law_0 59 rfl) (by omega) h4 (hs 2) ?_
    refine fg_aloadn (fg_ft (pc := 280) tb_Law_law_1 0 rfl) rfl ?_
    refine fg_iloadn (fg_ft (pc := 281) tb_Law_law_1 1 rfl) rfl ?_
    refine fg_iconst (fg_ft (pc := 282) tb_Law_law_1 2 rfl) ic_3 ?_
    refine fg_iaddN (fg_ft (pc := 283) tb_Law_law_1 3 rfl) ?_
    refine fg_sldN (fg_ft (pc := 284) tb_Law_law_1 4 rfl) (by omega) h4 (hs 3) ?_
    refine fg_aloadn (fg_ft (pc := 285) tb_Law_law_1 5 rfl) rfl ?_
    refine fg_iloadn (fg_ft (pc := 286) tb_Law_law_1 6 rfl) rfl ?_
    refine fg_iconst (fg_ft (pc := 287) tb_Law_law_1 7 rfl) ic_4 ?_
    refine fg_iaddN (fg_ft (pc := 288) tb_Law_law_1 8 rfl) ?_
    refine fg_sldN (fg_ft (pc := 289) tb_Law_law_1 9 rfl) (by omega) h4 (hs 4) ?_
    refine fg_aloadn (fg_ft (pc := 290) tb_Law_law_1 10 rfl) rfl ?_
    refine fg_iloadn (fg_ft (pc := 291) tb_Law_law_1 11 rfl) rfl ?_
    refine fg_iconst (fg_ft (pc := 292) tb_Law_law_1 12 rfl) ic_5 ?_
    refine fg_iaddN (fg_ft (pc := 293) tb_Law_law_1 13 rfl) ?_
    refine fg_sldN (fg_ft (pc := 294) tb_Law_law_1 14 rfl) (by omega) h4 (hs 5) ?_
    refine fg_callV (fg_ft (pc := 295) tb_Law_law_1 15 rfl) cf_Law_17 (fg_isOf ly_287 rfl (fg_lt ly_287 (by decide))) (as := [.int (nI (x 1)), .int (nI (x 2)), .int (nI (x 3)), .int (nI (x 4)), .int (nI (x 5))]) (st := [.int (-1)]) rfl rfl (Nat.le_of_ble_eq_true rfl) (Nat.le_refl _) (Nat.le_refl _) (ev_Mo_feed (len := A.len) hJ.1.2.1.1.2.2.1 hJ.1.1.1.2 (fun _ => ?_) (fun hl2 => absurd hl2 hn))
    · skip
      refine fg_icmp_eq (tgt := 2988) (fg_ft (pc := 298) tb_Law_law_1 16 rfl) (by decide) (fun c298 => ?_) (fun c298 => (absurd rfl c298))
      exact hK μ R A I hJ
  · intro hl μ1 f1 f2 f3 f4
    refine fg_aloadn (fg_ft (pc := 269) tb_Law_law_0 49 rfl) rfl ?_
    refine fg_aloadn (fg_ft (pc := 270) tb_Law_law_0 50 rfl) rfl ?_
    refine fg_iloadn (fg_ft (pc := 271) tb_Law_law_0 51 rfl) rfl ?_
    refine fg_iconst (fg_ft (pc := 272) tb_Law_law_0 52 rfl) ic_1 ?_
    refine fg_iaddN (fg_ft (pc := 273) tb_Law_law_0 53 rfl) ?_
    refine fg_sldN (fg_ft (pc := 274) tb_Law_law_0 54 rfl) (by omega) h4 (hs 1) ?_
    refine fg_aloadn (fg_ft (pc := 275) tb_Law_law_0 55 rfl) rfl ?_
    refine fg_iloadn (fg_ft (pc := 276) tb_Law_law_0 56 rfl) rfl ?_
    refine fg_iconst (fg_ft (pc := 277) tb_Law_law_0 57 rfl) ic_2 ?_
    refine fg_iaddN (fg_ft (pc := 278) tb_Law_law_0 58 rfl) ?_
    refine fg_sldN (fg_ft (pc := 279) tb_Law_law_0 59 rfl) (by omega) h4 (hs 2) ?_
    refine fg_aloadn (fg_ft (pc := 280) tb_Law_law_1 0 rfl) rfl ?_
    refine fg_iloadn (fg_ft (pc := 281) tb_Law_law_1 1 rfl) rfl ?_
    refine fg_iconst (fg_ft (pc := 282) tb_Law_law_1 2 rfl) ic_3 ?_
    refine fg_iaddN (fg_ft (pc := 283) tb_Law_law_1 3 rfl) ?_
    refine fg_sldN (fg_ft (pc := 284) tb_Law_law_1 4 rfl) (by omega) h4 (hs 3) ?_
    refine fg_aloadn (fg_ft (pc := 285) tb_Law_law_1 5 rfl) rfl ?_
    refine fg_iloadn (fg_ft (pc := 286) tb_Law_law_1 6 rfl) rfl ?_
    refine fg_iconst (fg_ft (pc := 287) tb_Law_law_1 7 rfl) ic_4 ?_
    refine fg_iaddN (fg_ft (pc := 288) tb_Law_law_1 8 rfl) ?_
    refine fg_sldN (fg_ft (pc := 289) tb_Law_law_1 9 rfl) (by omega) h4 (hs 4) ?_
    refine fg_aloadn (fg_ft (pc := 290) tb_Law_law_1 10 rfl) rfl ?_
    refine fg_iloadn (fg_ft (pc := 291) tb_Law_law_1 11 rfl) rfl ?_
    refine fg_iconst (fg_ft (pc := 292) tb_Law_law_1 12 rfl) ic_5 ?_
    refine fg_iaddN (fg_ft (pc := 293) tb_Law_law_1 13 rfl) ?_
    refine fg_sldN (fg_ft (pc := 294) tb_Law_law_1 14 rfl) (by omega) h4 (hs 5) ?_
    refine fg_callV (fg_ft (pc := 295) tb_Law_law_1 15 rfl) cf_Law_17 (fg_isOf ly_287 rfl (fg_lt ly_287 (by decide))) (as := [.int (nI (x 1)), .int (nI (x 2)), .int (nI (x 3)), .int (nI (x 4)), .int (nI (x 5))]) (st := [.int (nI (A.len + 20))]) rfl rfl (Nat.le_of_ble_eq_true rfl) (Nat.le_refl _) (Nat.le_refl _) (ev_Mo_feed (len := A.len) ((f1 288 2 (by decide) (by decide)).trans hJ.1.2.1.1.2.2.1) hJ.1.1.1.2 (fun hn2 => absurd hl hn2) (fun _ => ?_))
    · intro μ2 g1 g2
      refine fg_icmp_eq (tgt := 2988) (fg_ft (pc := 298) tb_Law_law_1 16 rfl) (by decide) (fun c298 => ?_) (fun c298 => (absurd rfl c298))
      exact hK μ2 R _ I (hJ.feed hl f1 f2 f3 f4 g1 g2)
theorem lw_k1 {E : fg_E} {d : Nat} {μ : Nat → Nat → Int32} {R : fg_T4} {Q : Option Value → fg_M → Prop} {A : fg_Tl} {I : Nat → fg_Tl} {i : Nat} {x : Nat → Nat} (hi : i + 8 ≤ E.2.2.2.2.2.2) (h4 : E.2.2.2.2.2.2 ≤ 4096) (hx : ∀ j, x j < 2 ^ 32) (hs : ∀ j, E.2.2.2.2.2.1 (i + j) = nI (x j)) (hJ : lw_J μ A I)  (hK : ∀ (μ' : Nat → Nat → Int32) (R' : fg_T4) (A' : fg_Tl) (I' : Nat → fg_Tl), lw_J μ' A' I' → fg_wp E yy_Law_law (d + 13) 100 304 Q 2988 [.ref 99, .ref 100, .ref 287, .int (nI i)] [] (μ', fg_rho R', 304)) : fg_wp E yy_Law_law (d + 13) 100 304 Q 303 [.ref 99, .ref 100, .ref 287, .int (nI i)] [] (μ, fg_rho R, 304) := by
  refine fg_aloadn (fg_ft (pc := 303) tb_Law_law_1 19 rfl) rfl ?_
  refine fg_aloadn (fg_ft (pc := 304) tb_Law_law_1 20 rfl) rfl ?_
  refine fg_iloadn (fg_ft (pc := 305) tb_Law_law_1 21 rfl) rfl ?_
  refine fg_iconst (fg_ft (pc := 306) tb_Law_law_1 22 rfl) ic_1 ?_
  refine fg_iaddN (fg_ft (pc := 307) tb_Law_law_1 23 rfl) ?_
  refine fg_sldN (fg_ft (pc := 308) tb_Law_law_1 24 rfl) (by omega) h4 (hs 1) ?_
  refine fg_callV (fg_ft (pc := 309) tb_Law_law_1 25 rfl) cf_Law_18 (fg_isOf ly_100 rfl (fg_lt ly_100 (by decide))) (as := [.int (nI (x 1))]) (st := []) rfl rfl (Nat.le_of_ble_eq_true rfl) (Nat.le_refl _) (Nat.le_refl _) (ev_Fb_end (hx 1) hJ.1.1.1.1 hJ.1.1.1.2 ?_ ?_)
  · intro hn
    refine fg_aloadn (fg_ft (pc := 312) tb_Law_law_1 26 rfl) rfl ?_
    refine fg_aloadn (fg_ft (pc := 313) tb_Law_law_1 27 rfl) rfl ?_
    refine fg_iloadn (fg_ft (pc := 314) tb_Law_law_1 28 rfl) rfl ?_
    refine fg_iconst (fg_ft (pc := 315) tb_Law_law_1 29 rfl) ic_1 ?_
    refine fg_iaddN (fg_ft (pc := 316) tb_Law_law_1 30 rfl) ?_
    refine fg_sldN (fg_ft (pc := 317) tb_Law_law_1 31 rfl) (by omega) h4 (hs 1) ?_
    refine fg_callV (fg_ft (pc := 318) tb_Law_law_1 32 rfl) cf_Law_22 (fg_isOf ly_287 rfl (fg_lt ly_287 (by decide))) (as := [.int (nI (x 1))]) (st := [.int (-1)]) rfl rfl (Nat.le_of_ble_eq_true rfl) (Nat.le_refl _) (Nat.le_refl _) (ev_Mo_end (len := A.len) (hx 1) hJ.1.2.1.1.2.2.1 hJ.1.1.1.2 (fun _ => ?_) (fun hl2 => absurd hl2 hn))
    · skip
      refine fg_icmp_eq (tgt := 2988) (fg_ft (pc := 321) tb_Law_law_1 33 rfl) (by decide) (fun c321 => ?_) (fun c321 => (absurd rfl c321))
      exact hK μ R A I hJ
  · intro hl
    refine fg_aloadn (fg_ft (pc := 312) tb_Law_law_1 26 rfl) rfl ?_
    refine fg_aloadn (fg_ft (pc := 313) tb_Law_law_1 27 rfl) rfl ?_
    refine fg_iloadn (fg_ft (pc := 314) tb_Law_law_1 28 rfl) rfl ?_
    refine fg_iconst (fg_ft (pc := 315) tb_Law_law_1 29 rfl) ic_1 ?_
    refine fg_iaddN (fg_ft (pc := 316) tb_Law_law_1 30 rfl) ?_
    refine fg_sldN (fg_ft (pc := 317) tb_Law_law_1 31 rfl) (by omega) h4 (hs 1) ?_
    refine fg_callV (fg_ft (pc := 318) tb_Law_law_1 32 rfl) cf_Law_22 (fg_isOf ly_287 rfl (fg_lt ly_287 (by decide))) (as := [.int (nI (x 1))]) (st := [.int (nI (x 1))]) rfl rfl (Nat.le_of_ble_eq_true rfl) (Nat.le_refl _) (Nat.le_refl _) (ev_Mo_end (len := A.len) (hx 1) ((fg_u2ne (by decide)).trans hJ.1.2.1.1.2.2.1) hJ.1.1.1.2 (fun hn2 => absurd hl hn2) (fun _ => ?_))
    · skip
      refine fg_icmp_eqW (tgt := 2988) (fg_ft (pc := 321) tb_Law_law_1 33 rfl) (by decide) (hx 1) (hx 1) (fun c321 => ?_) (fun c321 => (absurd rfl c321))
      exact hK _ R _ I (hJ.len hl)
theorem lw_k2 {E : fg_E} {d : Nat} {μ : Nat → Nat → Int32} {R : fg_T4} {Q : Option Value → fg_M → Prop} {A : fg_Tl} {I : Nat → fg_Tl} {i : Nat} {x : Nat → Nat} (hi : i + 8 ≤ E.2.2.2.2.2.2) (h4 : E.2.2.2.2.2.2 ≤ 4096) (hx : ∀ j, x j < 2 ^ 32) (hs : ∀ j, E.2.2.2.2.2.1 (i + j) = nI (x j)) (hJ : lw_J μ A I)  (hK : ∀ (μ' : Nat → Nat → Int32) (R' : fg_T4) (A' : fg_Tl) (I' : Nat → fg_Tl), lw_J μ' A' I' → fg_wp E yy_Law_law (d + 13) 100 304 Q 2988 [.ref 99, .ref 100, .ref 287, .int (nI i)] [] (μ', fg_rho R', 304)) : fg_wp E yy_Law_law (d + 13) 100 304 Q 326 [.ref 99, .ref 100, .ref 287, .int (nI i)] [] (μ, fg_rho R, 304) := by
  refine fg_aloadn (fg_ft (pc := 326) tb_Law_law_1 36 rfl) rfl ?_
  refine fg_aloadn (fg_ft (pc := 327) tb_Law_law_1 37 rfl) rfl ?_
  refine fg_iloadn (fg_ft (pc := 328) tb_Law_law_1 38 rfl) rfl ?_
  refine fg_iconst (fg_ft (pc := 329) tb_Law_law_1 39 rfl) ic_1 ?_
  refine fg_iaddN (fg_ft (pc := 330) tb_Law_law_1 40 rfl) ?_
  refine fg_sldN (fg_ft (pc := 331) tb_Law_law_1 41 rfl) (by omega) h4 (hs 1) ?_
  refine fg_aloadn (fg_ft (pc := 332) tb_Law_law_1 42 rfl) rfl ?_
  refine fg_iloadn (fg_ft (pc := 333) tb_Law_law_1 43 rfl) rfl ?_
  refine fg_iconst (fg_ft (pc := 334) tb_Law_law_1 44 rfl) ic_2 ?_
  refine fg_iaddN (fg_ft (pc := 335) tb_Law_law_1 45 rfl) ?_
  refine fg_sldN (fg_ft (pc := 336) tb_Law_law_1 46 rfl) (by omega) h4 (hs 2) ?_
  refine fg_callV (fg_ft (pc := 337) tb_Law_law_1 47 rfl) cf_Law_23 (fg_isOf ly_100 rfl (fg_lt ly_100 (by decide))) (as := [.int (nI (x 1)), .int (nI (x 2))]) (st := []) rfl rfl (Nat.le_of_ble_eq_true rfl) (Nat.le_refl _) (Nat.le_refl _) (ev_Fb_text hJ.1.1 (hx 1) (hx 2) hJ.1.2.2 hJ.2.1.1 hJ.2.1.2 ?_)
  intro μ1 R1 g1 g2 g3 g4
  show fg_wp _ _ _ _ _ _ _ _ _ (μ1, fg_rho R1, 304)
  refine fg_aloadn (fg_ft (pc := 340) tb_Law_law_1 48 rfl) rfl ?_
  refine fg_aloadn (fg_ft (pc := 341) tb_Law_law_1 49 rfl) rfl ?_
  refine fg_iloadn (fg_ft (pc := 342) tb_Law_law_1 50 rfl) rfl ?_
  refine fg_iconst (fg_ft (pc := 343) tb_Law_law_1 51 rfl) ic_1 ?_
  refine fg_iaddN (fg_ft (pc := 344) tb_Law_law_1 52 rfl) ?_
  refine fg_sldN (fg_ft (pc := 345) tb_Law_law_1 53 rfl) (by omega) h4 (hs 1) ?_
  refine fg_aloadn (fg_ft (pc := 346) tb_Law_law_1 54 rfl) rfl ?_
  refine fg_iloadn (fg_ft (pc := 347) tb_Law_law_1 55 rfl) rfl ?_
  refine fg_iconst (fg_ft (pc := 348) tb_Law_law_1 56 rfl) ic_2 ?_
  refine fg_iaddN (fg_ft (pc := 349) tb_Law_law_1 57 rfl) ?_
  refine fg_sldN (fg_ft (pc := 350) tb_Law_law_1 58 rfl) (by omega) h4 (hs 2) ?_
  refine fg_callV (fg_ft (pc := 351) tb_Law_law_1 59 rfl) cf_Law_27 (fg_isOf ly_287 rfl (fg_lt ly_287 (by decide))) (as := [.int (nI (x 1)), .int (nI (x 2))]) (st := [.int _]) rfl rfl (Nat.le_of_ble_eq_true rfl) (Nat.le_refl _) (Nat.le_refl _) (ev_Mo_text (A := A) (fg_ML.ag hJ.1.2.1 (fun j => g1 288 (by omega) j)) hJ.1.1.wA (hx 1) (hx 2) ?_)
  intro μ2 g5 g6
  show fg_wp _ _ _ _ _ _ _ _ _ (μ2, fg_rho R1, 304)
  refine fg_icmp_eq (tgt := 2988) (fg_ft (pc := 354) tb_Law_law_2 0 rfl) (by decide) (fun c354 => ?_) (fun c354 => (absurd rfl c354))
  exact hK μ2 R1 _ I (hJ.text g1 g2 g3 g4 g5 g6 (an_text_tape A (x 1) (x 2)))
theorem lw_k46_0 {E : fg_E} {d : Nat} {μ : Nat → Nat → Int32} {R : fg_T4} {Q : Option Value → fg_M → Prop} {A : fg_Tl} {I : Nat → fg_Tl} {i : Nat} {x : Nat → Nat} (hi : i + 8 ≤ E.2.2.2.2.2.2) (h4 : E.2.2.2.2.2.2 ≤ 4096) (hx : ∀ j, x j < 2 ^ 32) (hs : ∀ j, E.2.2.2.2.2.1 (i + j) = nI (x j)) (hJ : lw_J μ A I) (hv : x 1 = 0) (hK : ∀ (μ' : Nat → Nat → Int32) (R' : fg_T4) (A' : fg_Tl) (I' : Nat → fg_Tl), lw_J μ' A' I' → fg_wp E yy_Law_law (d + 13) 100 304 Q 2988 [.ref 99, .ref 100, .ref 287, .int (nI i)] [] (μ', fg_rho R', 304)) : fg_wp E yy_Law_law (d + 13) 100 304 Q 2942 [.ref 99, .ref 100, .ref 287, .int (nI i)] [] (μ, fg_rho R, 304) := by
  refine fg_aloadn (fg_ft (pc := 2942) tb_Law_law_39 46 rfl) rfl ?_
  refine fg_aloadn (fg_ft (pc := 2943) tb_Law_law_39 47 rfl) rfl ?_
  refine fg_iloadn (fg_ft (pc := 2944) tb_Law_law_39 48 rfl) rfl ?_
  refine fg_iconst (fg_ft (pc := 2945) tb_Law_law_39 49 rfl) ic_1 ?_
  refine fg_iaddN (fg_ft (pc := 2946) tb_Law_law_39 50 rfl) ?_
  refine fg_sldN (fg_ft (pc := 2947) tb_Law_law_39 51 rfl) (by omega) h4 ((hs 1).trans (by rw [hv])) ?_
  refine fg_callV (fg_ft (pc := 2948) tb_Law_law_39 52 rfl) cf_Law_207 (fg_isOf ly_100 rfl (fg_lt ly_100 (by decide))) (as := [.int (nI 0)]) (st := []) rfl rfl (Nat.le_of_ble_eq_true rfl) (Nat.le_refl _) (Nat.le_refl _) (ev_Fb_image1_0 hJ.hfit ?_)
  intro μ1 g1
  show fg_wp _ _ _ _ _ _ _ _ _ (fg_u2 μ1 254 0 (vp_nar .boolean (nI 1)), fg_rho R, 304)
  refine fg_aloadn (fg_ft (pc := 2951) tb_Law_law_39 53 rfl) rfl ?_
  refine fg_aloadn (fg_ft (pc := 2952) tb_Law_law_39 54 rfl) rfl ?_
  refine fg_iloadn (fg_ft (pc := 2953) tb_Law_law_39 55 rfl) rfl ?_
  refine fg_iconst (fg_ft (pc := 2954) tb_Law_law_39 56 rfl) ic_1 ?_
  refine fg_iaddN (fg_ft (pc := 2955) tb_Law_law_39 57 rfl) ?_
  refine fg_sldN (fg_ft (pc := 2956) tb_Law_law_39 58 rfl) (by omega) h4 ((hs 1).trans (by rw [hv])) ?_
  refine fg_callV (fg_ft (pc := 2957) tb_Law_law_39 59 rfl) cf_Law_211 (fg_isOf ly_287 rfl (fg_lt ly_287 (by decide))) (as := [.int (nI 0)]) (st := [.int (nI 1)]) rfl rfl (Nat.le_of_ble_eq_true rfl) (Nat.le_refl _) (Nat.le_refl _) (ev_Mo_image1 (i := 0) (by decide) ?_)
  intro μ2 g2 g3
  show fg_wp _ _ _ _ _ _ _ _ _ (μ2, fg_rho R, 304)
  refine fg_icmp_eqN (tgt := 2988) (fg_ft (pc := 2960) tb_Law_law_40 0 rfl) (by decide) (by decide) (by decide) (fun c2960 => ?_) (fun c2960 => (absurd rfl c2960))
  exact hK μ2 R A _ (hJ.image (i := 0) (by decide) g1 (fun a ha y => (g2 a ha y).trans (by rw [vp_nar1])) (fun y => (g3 y).trans (by unfold fg_imF; split <;> exact fg_u2ne (by decide))))
theorem lw_k47_0 {E : fg_E} {d : Nat} {μ : Nat → Nat → Int32} {R : fg_T4} {Q : Option Value → fg_M → Prop} {A : fg_Tl} {I : Nat → fg_Tl} {i : Nat} {x : Nat → Nat} (hi : i + 8 ≤ E.2.2.2.2.2.2) (h4 : E.2.2.2.2.2.2 ≤ 4096) (hx : ∀ j, x j < 2 ^ 32) (hs : ∀ j, E.2.2.2.2.2.1 (i + j) = nI (x j)) (hJ : lw_J μ A I) (hv : x 1 = 0) (hm : ¬ μ 254 0 = 0) (hK : ∀ (μ' : Nat → Nat → Int32) (R' : fg_T4) (A' : fg_Tl) (I' : Nat → fg_Tl), lw_J μ' A' I' → fg_wp E yy_Law_law (d + 13) 100 304 Q 2988 [.ref 99, .ref 100, .ref 287, .int (nI i)] [] (μ', fg_rho R', 304)) : fg_wp E yy_Law_law (d + 13) 100 304 Q 2965 [.ref 99, .ref 100, .ref 287, .int (nI i)] [] (μ, fg_rho R, 304) := by
  refine fg_aloadn (fg_ft (pc := 2965) tb_Law_law_40 3 rfl) rfl ?_
  refine fg_aloadn (fg_ft (pc := 2966) tb_Law_law_40 4 rfl) rfl ?_
  refine fg_iloadn (fg_ft (pc := 2967) tb_Law_law_40 5 rfl) rfl ?_
  refine fg_iconst (fg_ft (pc := 2968) tb_Law_law_40 6 rfl) ic_1 ?_
  refine fg_iaddN (fg_ft (pc := 2969) tb_Law_law_40 7 rfl) ?_
  refine fg_sldN (fg_ft (pc := 2970) tb_Law_law_40 8 rfl) (by omega) h4 ((hs 1).trans (by rw [hv])) ?_
  refine fg_callV (fg_ft (pc := 2971) tb_Law_law_40 9 rfl) cf_Law_212 (fg_isOf ly_100 rfl (fg_lt ly_100 (by decide))) (as := [.int (nI 0)]) (st := []) rfl rfl (Nat.le_of_ble_eq_true rfl) (Nat.le_refl _) (Nat.le_refl _) (ev_Fb_back1_0 (fun j hj => by rw [((hJ.2.2.2 0 (by decide)).2.2.2 hm).1.2.1 j hj]; exact ((hJ.2.2.2 0 (by decide)).2.2.2 hm).2.2 j hj) hm ?_)
  intro μ1 g1
  show fg_wp _ _ _ _ _ _ _ _ _ (μ1, fg_rho R, 304)
  refine fg_aloadn (fg_ft (pc := 2974) tb_Law_law_40 10 rfl) rfl ?_
  refine fg_aloadn (fg_ft (pc := 2975) tb_Law_law_40 11 rfl) rfl ?_
  refine fg_iloadn (fg_ft (pc := 2976) tb_Law_law_40 12 rfl) rfl ?_
  refine fg_iconst (fg_ft (pc := 2977) tb_Law_law_40 13 rfl) ic_1 ?_
  refine fg_iaddN (fg_ft (pc := 2978) tb_Law_law_40 14 rfl) ?_
  refine fg_sldN (fg_ft (pc := 2979) tb_Law_law_40 15 rfl) (by omega) h4 ((hs 1).trans (by rw [hv])) ?_
  refine fg_callV (fg_ft (pc := 2980) tb_Law_law_40 16 rfl) cf_Law_215 (fg_isOf ly_287 rfl (fg_lt ly_287 (by decide))) (as := [.int (nI 0)]) (st := [.int (nI 1)]) rfl rfl (Nat.le_of_ble_eq_true rfl) (Nat.le_refl _) (Nat.le_refl _) (ev_Mo_back1 (i := 0) (by decide) (fun hz => hm ((g1.2.2.2.2 289 (by omega) 0).symm.trans hz |> fun q => (hJ.2.2.2 0 (by decide)).2.2.1.symm.trans q)) ?_)
  intro μ2 g2 g3
  show fg_wp _ _ _ _ _ _ _ _ _ (μ2, fg_rho R, 304)
  refine fg_icmp_eqN (tgt := 2988) (fg_ft (pc := 2983) tb_Law_law_40 17 rfl) (by decide) (by decide) (by decide) (fun c2983 => ?_) (fun c2983 => (absurd rfl c2983))
  exact hK μ2 R _ I (hJ.back (i := 0) (by decide) hm g1 g2 g3)
theorem lw_k47_N0 {E : fg_E} {d : Nat} {μ : Nat → Nat → Int32} {R : fg_T4} {Q : Option Value → fg_M → Prop} {A : fg_Tl} {I : Nat → fg_Tl} {i : Nat} {x : Nat → Nat} (hi : i + 8 ≤ E.2.2.2.2.2.2) (h4 : E.2.2.2.2.2.2 ≤ 4096) (hx : ∀ j, x j < 2 ^ 32) (hs : ∀ j, E.2.2.2.2.2.1 (i + j) = nI (x j)) (hJ : lw_J μ A I) (hv : x 1 = 0) (hm : μ 254 0 = 0) (hK : ∀ (μ' : Nat → Nat → Int32) (R' : fg_T4) (A' : fg_Tl) (I' : Nat → fg_Tl), lw_J μ' A' I' → fg_wp E yy_Law_law (d + 13) 100 304 Q 2988 [.ref 99, .ref 100, .ref 287, .int (nI i)] [] (μ', fg_rho R', 304)) : fg_wp E yy_Law_law (d + 13) 100 304 Q 2965 [.ref 99, .ref 100, .ref 287, .int (nI i)] [] (μ, fg_rho R, 304) := by
  refine fg_aloadn (fg_ft (pc := 2965) tb_Law_law_40 3 rfl) rfl ?_
  refine fg_aloadn (fg_ft (pc := 2966) tb_Law_law_40 4 rfl) rfl ?_
  refine fg_iloadn (fg_ft (pc := 2967) tb_Law_law_40 5 rfl) rfl ?_
  refine fg_iconst (fg_ft (pc := 2968) tb_Law_law_40 6 rfl) ic_1 ?_
  refine fg_iaddN (fg_ft (pc := 2969) tb_Law_law_40 7 rfl) ?_
  refine fg_sldN (fg_ft (pc := 2970) tb_Law_law_40 8 rfl) (by omega) h4 ((hs 1).trans (by rw [hv])) ?_
  refine fg_callV (fg_ft (pc := 2971) tb_Law_law_40 9 rfl) cf_Law_212 (fg_isOf ly_100 rfl (fg_lt ly_100 (by decide))) (as := [.int (nI 0)]) (st := []) rfl rfl (Nat.le_of_ble_eq_true rfl) (Nat.le_refl _) (Nat.le_refl _) (ev_Fb_backN_0 hm ?_)
  refine fg_aloadn (fg_ft (pc := 2974) tb_Law_law_40 10 rfl) rfl ?_
  refine fg_aloadn (fg_ft (pc := 2975) tb_Law_law_40 11 rfl) rfl ?_
  refine fg_iloadn (fg_ft (pc := 2976) tb_Law_law_40 12 rfl) rfl ?_
  refine fg_iconst (fg_ft (pc := 2977) tb_Law_law_40 13 rfl) ic_1 ?_
  refine fg_iaddN (fg_ft (pc := 2978) tb_Law_law_40 14 rfl) ?_
  refine fg_sldN (fg_ft (pc := 2979) tb_Law_law_40 15 rfl) (by omega) h4 ((hs 1).trans (by rw [hv])) ?_
  refine fg_callV (fg_ft (pc := 2980) tb_Law_law_40 16 rfl) cf_Law_215 (fg_isOf ly_287 rfl (fg_lt ly_287 (by decide))) (as := [.int (nI 0)]) (st := [.int (nI 0)]) rfl rfl (Nat.le_of_ble_eq_true rfl) (Nat.le_refl _) (Nat.le_refl _) (ev_Mo_back0 (i := 0) (by decide) (Or.inr ((hJ.2.2.2 0 (by decide)).2.2.1.trans hm)) ?_)
  refine fg_icmp_eqN (tgt := 2988) (fg_ft (pc := 2983) tb_Law_law_40 17 rfl) (by decide) (by decide) (by decide) (fun c2983 => ?_) (fun c2983 => (absurd rfl c2983))
  exact hK μ R A I hJ
theorem lw_k46_1 {E : fg_E} {d : Nat} {μ : Nat → Nat → Int32} {R : fg_T4} {Q : Option Value → fg_M → Prop} {A : fg_Tl} {I : Nat → fg_Tl} {i : Nat} {x : Nat → Nat} (hi : i + 8 ≤ E.2.2.2.2.2.2) (h4 : E.2.2.2.2.2.2 ≤ 4096) (hx : ∀ j, x j < 2 ^ 32) (hs : ∀ j, E.2.2.2.2.2.1 (i + j) = nI (x j)) (hJ : lw_J μ A I) (hv : x 1 = 1) (hK : ∀ (μ' : Nat → Nat → Int32) (R' : fg_T4) (A' : fg_Tl) (I' : Nat → fg_Tl), lw_J μ' A' I' → fg_wp E yy_Law_law (d + 13) 100 304 Q 2988 [.ref 99, .ref 100, .ref 287, .int (nI i)] [] (μ', fg_rho R', 304)) : fg_wp E yy_Law_law (d + 13) 100 304 Q 2942 [.ref 99, .ref 100, .ref 287, .int (nI i)] [] (μ, fg_rho R, 304) := by
  refine fg_aloadn (fg_ft (pc := 2942) tb_Law_law_39 46 rfl) rfl ?_
  refine fg_aloadn (fg_ft (pc := 2943) tb_Law_law_39 47 rfl) rfl ?_
  refine fg_iloadn (fg_ft (pc := 2944) tb_Law_law_39 48 rfl) rfl ?_
  refine fg_iconst (fg_ft (pc := 2945) tb_Law_law_39 49 rfl) ic_1 ?_
  refine fg_iaddN (fg_ft (pc := 2946) tb_Law_law_39 50 rfl) ?_
  refine fg_sldN (fg_ft (pc := 2947) tb_Law_law_39 51 rfl) (by omega) h4 ((hs 1).trans (by rw [hv])) ?_
  refine fg_callV (fg_ft (pc := 2948) tb_Law_law_39 52 rfl) cf_Law_207 (fg_isOf ly_100 rfl (fg_lt ly_100 (by decide))) (as := [.int (nI 1)]) (st := []) rfl rfl (Nat.le_of_ble_eq_true rfl) (Nat.le_refl _) (Nat.le_refl _) (ev_Fb_image1_1 hJ.hfit ?_)
  intro μ1 g1
  show fg_wp _ _ _ _ _ _ _ _ _ (fg_u2 μ1 254 1 (vp_nar .boolean (nI 1)), fg_rho R, 304)
  refine fg_aloadn (fg_ft (pc := 2951) tb_Law_law_39 53 rfl) rfl ?_
  refine fg_aloadn (fg_ft (pc := 2952) tb_Law_law_39 54 rfl) rfl ?_
  refine fg_iloadn (fg_ft (pc := 2953) tb_Law_law_39 55 rfl) rfl ?_
  refine fg_iconst (fg_ft (pc := 2954) tb_Law_law_39 56 rfl) ic_1 ?_
  refine fg_iaddN (fg_ft (pc := 2955) tb_Law_law_39 57 rfl) ?_
  refine fg_sldN (fg_ft (pc := 2956) tb_Law_law_39 58 rfl) (by omega) h4 ((hs 1).trans (by rw [hv])) ?_
  refine fg_callV (fg_ft (pc := 2957) tb_Law_law_39 59 rfl) cf_Law_211 (fg_isOf ly_287 rfl (fg_lt ly_287 (by decide))) (as := [.int (nI 1)]) (st := [.int (nI 1)]) rfl rfl (Nat.le_of_ble_eq_true rfl) (Nat.le_refl _) (Nat.le_refl _) (ev_Mo_image1 (i := 1) (by decide) ?_)
  intro μ2 g2 g3
  show fg_wp _ _ _ _ _ _ _ _ _ (μ2, fg_rho R, 304)
  refine fg_icmp_eqN (tgt := 2988) (fg_ft (pc := 2960) tb_Law_law_40 0 rfl) (by decide) (by decide) (by decide) (fun c2960 => ?_) (fun c2960 => (absurd rfl c2960))
  exact hK μ2 R A _ (hJ.image (i := 1) (by decide) g1 (fun a ha y => (g2 a ha y).trans (by rw [vp_nar1])) (fun y => (g3 y).trans (by unfold fg_imF; split <;> exact fg_u2ne (by decide))))
theorem lw_k47_1 {E : fg_E} {d : Nat} {μ : Nat → Nat → Int32} {R : fg_T4} {Q : Option Value → fg_M → Prop} {A : fg_Tl} {I : Nat → fg_Tl} {i : Nat} {x : Nat → Nat} (hi : i + 8 ≤ E.2.2.2.2.2.2) (h4 : E.2.2.2.2.2.2 ≤ 4096) (hx : ∀ j, x j < 2 ^ 32) (hs : ∀ j, E.2.2.2.2.2.1 (i + j) = nI (x j)) (hJ : lw_J μ A I) (hv : x 1 = 1) (hm : ¬ μ 254 1 = 0) (hK : ∀ (μ' : Nat → Nat → Int32) (R' : fg_T4) (A' : fg_Tl) (I' : Nat → fg_Tl), lw_J μ' A' I' → fg_wp E yy_Law_law (d + 13) 100 304 Q 2988 [.ref 99, .ref 100, .ref 287, .int (nI i)] [] (μ', fg_rho R', 304)) : fg_wp E yy_Law_law (d + 13) 100 304 Q 2965 [.ref 99, .ref 100, .ref 287, .int (nI i)] [] (μ, fg_rho R, 304) := by
  refine fg_aloadn (fg_ft (pc := 2965) tb_Law_law_40 3 rfl) rfl ?_
  refine fg_aloadn (fg_ft (pc := 2966) tb_Law_law_40 4 rfl) rfl ?_
  refine fg_iloadn (fg_ft (pc := 2967) tb_Law_law_40 5 rfl) rfl ?_
  refine fg_iconst (fg_ft (pc := 2968) tb_Law_law_40 6 rfl) ic_1 ?_
  refine fg_iaddN (fg_ft (pc := 2969) tb_Law_law_40 7 rfl) ?_
  refine fg_sldN (fg_ft (pc := 2970) tb_Law_law_40 8 rfl) (by omega) h4 ((hs 1).trans (by rw [hv])) ?_
  refine fg_callV (fg_ft (pc := 2971) tb_Law_law_40 9 rfl) cf_Law_212 (fg_isOf ly_100 rfl (fg_lt ly_100 (by decide))) (as := [.int (nI 1)]) (st := []) rfl rfl (Nat.le_of_ble_eq_true rfl) (Nat.le_refl _) (Nat.le_refl _) (ev_Fb_back1_1 (fun j hj => by rw [((hJ.2.2.2 1 (by decide)).2.2.2 hm).1.2.1 j hj]; exact ((hJ.2.2.2 1 (by decide)).2.2.2 hm).2.2 j hj) hm ?_)
  intro μ1 g1
  show fg_wp _ _ _ _ _ _ _ _ _ (μ1, fg_rho R, 304)
  refine fg_aloadn (fg_ft (pc := 2974) tb_Law_law_40 10 rfl) rfl ?_
  refine fg_aloadn (fg_ft (pc := 2975) tb_Law_law_40 11 rfl) rfl ?_
  refine fg_iloadn (fg_ft (pc := 2976) tb_Law_law_40 12 rfl) rfl ?_
  refine fg_iconst (fg_ft (pc := 2977) tb_Law_law_40 13 rfl) ic_1 ?_
  refine fg_iaddN (fg_ft (pc := 2978) tb_Law_law_40 14 rfl) ?_
  refine fg_sldN (fg_ft (pc := 2979) tb_Law_law_40 15 rfl) (by omega) h4 ((hs 1).trans (by rw [hv])) ?_
  refine fg_callV (fg_ft (pc := 2980) tb_Law_law_40 16 rfl) cf_Law_215 (fg_isOf ly_287 rfl (fg_lt ly_287 (by decide))) (as := [.int (nI 1)]) (st := [.int (nI 1)]) rfl rfl (Nat.le_of_ble_eq_true rfl) (Nat.le_refl _) (Nat.le_refl _) (ev_Mo_back1 (i := 1) (by decide) (fun hz => hm ((g1.2.2.2.2 289 (by omega) 1).symm.trans hz |> fun q => (hJ.2.2.2 1 (by decide)).2.2.1.symm.trans q)) ?_)
  intro μ2 g2 g3
  show fg_wp _ _ _ _ _ _ _ _ _ (μ2, fg_rho R, 304)
  refine fg_icmp_eqN (tgt := 2988) (fg_ft (pc := 2983) tb_Law_law_40 17 rfl) (by decide) (by decide) (by decide) (fun c2983 => ?_) (fun c2983 => (absurd rfl c2983))
  exact hK μ2 R _ I (hJ.back (i := 1) (by decide) hm g1 g2 g3)
theorem lw_k47_N1 {E : fg_E} {d : Nat} {μ : Nat → Nat → Int32} {R : fg_T4} {Q : Option Value → fg_M → Prop} {A : fg_Tl} {I : Nat → fg_Tl} {i : Nat} {x : Nat → Nat} (hi : i + 8 ≤ E.2.2.2.2.2.2) (h4 : E.2.2.2.2.2.2 ≤ 4096) (hx : ∀ j, x j < 2 ^ 32) (hs : ∀ j, E.2.2.2.2.2.1 (i + j) = nI (x j)) (hJ : lw_J μ A I) (hv : x 1 = 1) (hm : μ 254 1 = 0) (hK : ∀ (μ' : Nat → Nat → Int32) (R' : fg_T4) (A' : fg_Tl) (I' : Nat → fg_Tl), lw_J μ' A' I' → fg_wp E yy_Law_law (d + 13) 100 304 Q 2988 [.ref 99, .ref 100, .ref 287, .int (nI i)] [] (μ', fg_rho R', 304)) : fg_wp E yy_Law_law (d + 13) 100 304 Q 2965 [.ref 99, .ref 100, .ref 287, .int (nI i)] [] (μ, fg_rho R, 304) := by
  refine fg_aloadn (fg_ft (pc := 2965) tb_Law_law_40 3 rfl) rfl ?_
  refine fg_aloadn (fg_ft (pc := 2966) tb_Law_law_40 4 rfl) rfl ?_
  refine fg_iloadn (fg_ft (pc := 2967) tb_Law_law_40 5 rfl) rfl ?_
  refine fg_iconst (fg_ft (pc := 2968) tb_Law_law_40 6 rfl) ic_1 ?_
  refine fg_iaddN (fg_ft (pc := 2969) tb_Law_law_40 7 rfl) ?_
  refine fg_sldN (fg_ft (pc := 2970) tb_Law_law_40 8 rfl) (by omega) h4 ((hs 1).trans (by rw [hv])) ?_
  refine fg_callV (fg_ft (pc := 2971) tb_Law_law_40 9 rfl) cf_Law_212 (fg_isOf ly_100 rfl (fg_lt ly_100 (by decide))) (as := [.int (nI 1)]) (st := []) rfl rfl (Nat.le_of_ble_eq_true rfl) (Nat.le_refl _) (Nat.le_refl _) (ev_Fb_backN_1 hm ?_)
  refine fg_aloadn (fg_ft (pc := 2974) tb_Law_law_40 10 rfl) rfl ?_
  refine fg_aloadn (fg_ft (pc := 2975) tb_Law_law_40 11 rfl) rfl ?_
  refine fg_iloadn (fg_ft (pc := 2976) tb_Law_law_40 12 rfl) rfl ?_
  refine fg_iconst (fg_ft (pc := 2977) tb_Law_law_40 13 rfl) ic_1 ?_
  refine fg_iaddN (fg_ft (pc := 2978) tb_Law_law_40 14 rfl) ?_
  refine fg_sldN (fg_ft (pc := 2979) tb_Law_law_40 15 rfl) (by omega) h4 ((hs 1).trans (by rw [hv])) ?_
  refine fg_callV (fg_ft (pc := 2980) tb_Law_law_40 16 rfl) cf_Law_215 (fg_isOf ly_287 rfl (fg_lt ly_287 (by decide))) (as := [.int (nI 1)]) (st := [.int (nI 0)]) rfl rfl (Nat.le_of_ble_eq_true rfl) (Nat.le_refl _) (Nat.le_refl _) (ev_Mo_back0 (i := 1) (by decide) (Or.inr ((hJ.2.2.2 1 (by decide)).2.2.1.trans hm)) ?_)
  refine fg_icmp_eqN (tgt := 2988) (fg_ft (pc := 2983) tb_Law_law_40 17 rfl) (by decide) (by decide) (by decide) (fun c2983 => ?_) (fun c2983 => (absurd rfl c2983))
  exact hK μ R A I hJ
theorem lw_k46_2 {E : fg_E} {d : Nat} {μ : Nat → Nat → Int32} {R : fg_T4} {Q : Option Value → fg_M → Prop} {A : fg_Tl} {I : Nat → fg_Tl} {i : Nat} {x : Nat → Nat} (hi : i + 8 ≤ E.2.2.2.2.2.2) (h4 : E.2.2.2.2.2.2 ≤ 4096) (hx : ∀ j, x j < 2 ^ 32) (hs : ∀ j, E.2.2.2.2.2.1 (i + j) = nI (x j)) (hJ : lw_J μ A I) (hv : x 1 = 2) (hK : ∀ (μ' : Nat → Nat → Int32) (R' : fg_T4) (A' : fg_Tl) (I' : Nat → fg_Tl), lw_J μ' A' I' → fg_wp E yy_Law_law (d + 13) 100 304 Q 2988 [.ref 99, .ref 100, .ref 287, .int (nI i)] [] (μ', fg_rho R', 304)) : fg_wp E yy_Law_law (d + 13) 100 304 Q 2942 [.ref 99, .ref 100, .ref 287, .int (nI i)] [] (μ, fg_rho R, 304) := by
  refine fg_aloadn (fg_ft (pc := 2942) tb_Law_law_39 46 rfl) rfl ?_
  refine fg_aloadn (fg_ft (pc := 2943) tb_Law_law_39 47 rfl) rfl ?_
  refine fg_iloadn (fg_ft (pc := 2944) tb_Law_law_39 48 rfl) rfl ?_
  refine fg_iconst (fg_ft (pc := 2945) tb_Law_law_39 49 rfl) ic_1 ?_
  refine fg_iaddN (fg_ft (pc := 2946) tb_Law_law_39 50 rfl) ?_
  refine fg_sldN (fg_ft (pc := 2947) tb_Law_law_39 51 rfl) (by omega) h4 ((hs 1).trans (by rw [hv])) ?_
  refine fg_callV (fg_ft (pc := 2948) tb_Law_law_39 52 rfl) cf_Law_207 (fg_isOf ly_100 rfl (fg_lt ly_100 (by decide))) (as := [.int (nI 2)]) (st := []) rfl rfl (Nat.le_of_ble_eq_true rfl) (Nat.le_refl _) (Nat.le_refl _) (ev_Fb_image1_2 hJ.hfit ?_)
  intro μ1 g1
  show fg_wp _ _ _ _ _ _ _ _ _ (fg_u2 μ1 254 2 (vp_nar .boolean (nI 1)), fg_rho R, 304)
  refine fg_aloadn (fg_ft (pc := 2951) tb_Law_law_39 53 rfl) rfl ?_
  refine fg_aloadn (fg_ft (pc := 2952) tb_Law_law_39 54 rfl) rfl ?_
  refine fg_iloadn (fg_ft (pc := 2953) tb_Law_law_39 55 rfl) rfl ?_
  refine fg_iconst (fg_ft (pc := 2954) tb_Law_law_39 56 rfl) ic_1 ?_
  refine fg_iaddN (fg_ft (pc := 2955) tb_Law_law_39 57 rfl) ?_
  refine fg_sldN (fg_ft (pc := 2956) tb_Law_law_39 58 rfl) (by omega) h4 ((hs 1).trans (by rw [hv])) ?_
  refine fg_callV (fg_ft (pc := 2957) tb_Law_law_39 59 rfl) cf_Law_211 (fg_isOf ly_287 rfl (fg_lt ly_287 (by decide))) (as := [.int (nI 2)]) (st := [.int (nI 1)]) rfl rfl (Nat.le_of_ble_eq_true rfl) (Nat.le_refl _) (Nat.le_refl _) (ev_Mo_image1 (i := 2) (by decide) ?_)
  intro μ2 g2 g3
  show fg_wp _ _ _ _ _ _ _ _ _ (μ2, fg_rho R, 304)
  refine fg_icmp_eqN (tgt := 2988) (fg_ft (pc := 2960) tb_Law_law_40 0 rfl) (by decide) (by decide) (by decide) (fun c2960 => ?_) (fun c2960 => (absurd rfl c2960))
  exact hK μ2 R A _ (hJ.image (i := 2) (by decide) g1 (fun a ha y => (g2 a ha y).trans (by rw [vp_nar1])) (fun y => (g3 y).trans (by unfold fg_imF; split <;> exact fg_u2ne (by decide))))
theorem lw_k47_2 {E : fg_E} {d : Nat} {μ : Nat → Nat → Int32} {R : fg_T4} {Q : Option Value → fg_M → Prop} {A : fg_Tl} {I : Nat → fg_Tl} {i : Nat} {x : Nat → Nat} (hi : i + 8 ≤ E.2.2.2.2.2.2) (h4 : E.2.2.2.2.2.2 ≤ 4096) (hx : ∀ j, x j < 2 ^ 32) (hs : ∀ j, E.2.2.2.2.2.1 (i + j) = nI (x j)) (hJ : lw_J μ A I) (hv : x 1 = 2) (hm : ¬ μ 254 2 = 0) (hK : ∀ (μ' : Nat → Nat → Int32) (R' : fg_T4) (A' : fg_Tl) (I' : Nat → fg_Tl), lw_J μ' A' I' → fg_wp E yy_Law_law (d + 13) 100 304 Q 2988 [.ref 99, .ref 100, .ref 287, .int (nI i)] [] (μ', fg_rho R', 304)) : fg_wp E yy_Law_law (d + 13) 100 304 Q 2965 [.ref 99, .ref 100, .ref 287, .int (nI i)] [] (μ, fg_rho R, 304) := by
  refine fg_aloadn (fg_ft (pc := 2965) tb_Law_law_40 3 rfl) rfl ?_
  refine fg_aloadn (fg_ft (pc := 2966) tb_Law_law_40 4 rfl) rfl ?_
  refine fg_iloadn (fg_ft (pc := 2967) tb_Law_law_40 5 rfl) rfl ?_
  refine fg_iconst (fg_ft (pc := 2968) tb_Law_law_40 6 rfl) ic_1 ?_
  refine fg_iaddN (fg_ft (pc := 2969) tb_Law_law_40 7 rfl) ?_
  refine fg_sldN (fg_ft (pc := 2970) tb_Law_law_40 8 rfl) (by omega) h4 ((hs 1).trans (by rw [hv])) ?_
  refine fg_callV (fg_ft (pc := 2971) tb_Law_law_40 9 rfl) cf_Law_212 (fg_isOf ly_100 rfl (fg_lt ly_100 (by decide))) (as := [.int (nI 2)]) (st := []) rfl rfl (Nat.le_of_ble_eq_true rfl) (Nat.le_refl _) (Nat.le_refl _) (ev_Fb_back1_2 (fun j hj => by rw [((hJ.2.2.2 2 (by decide)).2.2.2 hm).1.2.1 j hj]; exact ((hJ.2.2.2 2 (by decide)).2.2.2 hm).2.2 j hj) hm ?_)
  intro μ1 g1
  show fg_wp _ _ _ _ _ _ _ _ _ (μ1, fg_rho R, 304)
  refine fg_aloadn (fg_ft (pc := 2974) tb_Law_law_40 10 rfl) rfl ?_
  refine fg_aloadn (fg_ft (pc := 2975) tb_Law_law_40 11 rfl) rfl ?_
  refine fg_iloadn (fg_ft (pc := 2976) tb_Law_law_40 12 rfl) rfl ?_
  refine fg_iconst (fg_ft (pc := 2977) tb_Law_law_40 13 rfl) ic_1 ?_
  refine fg_iaddN (fg_ft (pc := 2978) tb_Law_law_40 14 rfl) ?_
  refine fg_sldN (fg_ft (pc := 2979) tb_Law_law_40 15 rfl) (by omega) h4 ((hs 1).trans (by rw [hv])) ?_
  refine fg_callV (fg_ft (pc := 2980) tb_Law_law_40 16 rfl) cf_Law_215 (fg_isOf ly_287 rfl (fg_lt ly_287 (by decide))) (as := [.int (nI 2)]) (st := [.int (nI 1)]) rfl rfl (Nat.le_of_ble_eq_true rfl) (Nat.le_refl _) (Nat.le_refl _) (ev_Mo_back1 (i := 2) (by decide) (fun hz => hm ((g1.2.2.2.2 289 (by omega) 2).symm.trans hz |> fun q => (hJ.2.2.2 2 (by decide)).2.2.1.symm.trans q)) ?_)
  intro μ2 g2 g3
  show fg_wp _ _ _ _ _ _ _ _ _ (μ2, fg_rho R, 304)
  refine fg_icmp_eqN (tgt := 2988) (fg_ft (pc := 2983) tb_Law_law_40 17 rfl) (by decide) (by decide) (by decide) (fun c2983 => ?_) (fun c2983 => (absurd rfl c2983))
  exact hK μ2 R _ I (hJ.back (i := 2) (by decide) hm g1 g2 g3)
theorem lw_k47_N2 {E : fg_E} {d : Nat} {μ : Nat → Nat → Int32} {R : fg_T4} {Q : Option Value → fg_M → Prop} {A : fg_Tl} {I : Nat → fg_Tl} {i : Nat} {x : Nat → Nat} (hi : i + 8 ≤ E.2.2.2.2.2.2) (h4 : E.2.2.2.2.2.2 ≤ 4096) (hx : ∀ j, x j < 2 ^ 32) (hs : ∀ j, E.2.2.2.2.2.1 (i + j) = nI (x j)) (hJ : lw_J μ A I) (hv : x 1 = 2) (hm : μ 254 2 = 0) (hK : ∀ (μ' : Nat → Nat → Int32) (R' : fg_T4) (A' : fg_Tl) (I' : Nat → fg_Tl), lw_J μ' A' I' → fg_wp E yy_Law_law (d + 13) 100 304 Q 2988 [.ref 99, .ref 100, .ref 287, .int (nI i)] [] (μ', fg_rho R', 304)) : fg_wp E yy_Law_law (d + 13) 100 304 Q 2965 [.ref 99, .ref 100, .ref 287, .int (nI i)] [] (μ, fg_rho R, 304) := by
  refine fg_aloadn (fg_ft (pc := 2965) tb_Law_law_40 3 rfl) rfl ?_
  refine fg_aloadn (fg_ft (pc := 2966) tb_Law_law_40 4 rfl) rfl ?_
  refine fg_iloadn (fg_ft (pc := 2967) tb_Law_law_40 5 rfl) rfl ?_
  refine fg_iconst (fg_ft (pc := 2968) tb_Law_law_40 6 rfl) ic_1 ?_
  refine fg_iaddN (fg_ft (pc := 2969) tb_Law_law_40 7 rfl) ?_
  refine fg_sldN (fg_ft (pc := 2970) tb_Law_law_40 8 rfl) (by omega) h4 ((hs 1).trans (by rw [hv])) ?_
  refine fg_callV (fg_ft (pc := 2971) tb_Law_law_40 9 rfl) cf_Law_212 (fg_isOf ly_100 rfl (fg_lt ly_100 (by decide))) (as := [.int (nI 2)]) (st := []) rfl rfl (Nat.le_of_ble_eq_true rfl) (Nat.le_refl _) (Nat.le_refl _) (ev_Fb_backN_2 hm ?_)
  refine fg_aloadn (fg_ft (pc := 2974) tb_Law_law_40 10 rfl) rfl ?_
  refine fg_aloadn (fg_ft (pc := 2975) tb_Law_law_40 11 rfl) rfl ?_
  refine fg_iloadn (fg_ft (pc := 2976) tb_Law_law_40 12 rfl) rfl ?_
  refine fg_iconst (fg_ft (pc := 2977) tb_Law_law_40 13 rfl) ic_1 ?_
  refine fg_iaddN (fg_ft (pc := 2978) tb_Law_law_40 14 rfl) ?_
  refine fg_sldN (fg_ft (pc := 2979) tb_Law_law_40 15 rfl) (by omega) h4 ((hs 1).trans (by rw [hv])) ?_
  refine fg_callV (fg_ft (pc := 2980) tb_Law_law_40 16 rfl) cf_Law_215 (fg_isOf ly_287 rfl (fg_lt ly_287 (by decide))) (as := [.int (nI 2)]) (st := [.int (nI 0)]) rfl rfl (Nat.le_of_ble_eq_true rfl) (Nat.le_refl _) (Nat.le_refl _) (ev_Mo_back0 (i := 2) (by decide) (Or.inr ((hJ.2.2.2 2 (by decide)).2.2.1.trans hm)) ?_)
  refine fg_icmp_eqN (tgt := 2988) (fg_ft (pc := 2983) tb_Law_law_40 17 rfl) (by decide) (by decide) (by decide) (fun c2983 => ?_) (fun c2983 => (absurd rfl c2983))
  exact hK μ R A I hJ
theorem lw_k46_N {E : fg_E} {d : Nat} {μ : Nat → Nat → Int32} {R : fg_T4} {Q : Option Value → fg_M → Prop} {A : fg_Tl} {I : Nat → fg_Tl} {i : Nat} {x : Nat → Nat} (hi : i + 8 ≤ E.2.2.2.2.2.2) (h4 : E.2.2.2.2.2.2 ≤ 4096) (hx : ∀ j, x j < 2 ^ 32) (hs : ∀ j, E.2.2.2.2.2.1 (i + j) = nI (x j)) (hJ : lw_J μ A I) (hv : 3 ≤ x 1) (hK : ∀ (μ' : Nat → Nat → Int32) (R' : fg_T4) (A' : fg_Tl) (I' : Nat → fg_Tl), lw_J μ' A' I' → fg_wp E yy_Law_law (d + 13) 100 304 Q 2988 [.ref 99, .ref 100, .ref 287, .int (nI i)] [] (μ', fg_rho R', 304)) : fg_wp E yy_Law_law (d + 13) 100 304 Q 2942 [.ref 99, .ref 100, .ref 287, .int (nI i)] [] (μ, fg_rho R, 304) := by
  refine fg_aloadn (fg_ft (pc := 2942) tb_Law_law_39 46 rfl) rfl ?_
  refine fg_aloadn (fg_ft (pc := 2943) tb_Law_law_39 47 rfl) rfl ?_
  refine fg_iloadn (fg_ft (pc := 2944) tb_Law_law_39 48 rfl) rfl ?_
  refine fg_iconst (fg_ft (pc := 2945) tb_Law_law_39 49 rfl) ic_1 ?_
  refine fg_iaddN (fg_ft (pc := 2946) tb_Law_law_39 50 rfl) ?_
  refine fg_sldN (fg_ft (pc := 2947) tb_Law_law_39 51 rfl) (by omega) h4 (hs 1) ?_
  refine fg_callV (fg_ft (pc := 2948) tb_Law_law_39 52 rfl) cf_Law_207 (fg_isOf ly_100 rfl (fg_lt ly_100 (by decide))) (as := [.int (nI (x 1))]) (st := []) rfl rfl (Nat.le_of_ble_eq_true rfl) (Nat.le_refl _) (Nat.le_refl _) (ev_Fb_image0 (hx 1) hv ?_)
  refine fg_aloadn (fg_ft (pc := 2951) tb_Law_law_39 53 rfl) rfl ?_
  refine fg_aloadn (fg_ft (pc := 2952) tb_Law_law_39 54 rfl) rfl ?_
  refine fg_iloadn (fg_ft (pc := 2953) tb_Law_law_39 55 rfl) rfl ?_
  refine fg_iconst (fg_ft (pc := 2954) tb_Law_law_39 56 rfl) ic_1 ?_
  refine fg_iaddN (fg_ft (pc := 2955) tb_Law_law_39 57 rfl) ?_
  refine fg_sldN (fg_ft (pc := 2956) tb_Law_law_39 58 rfl) (by omega) h4 (hs 1) ?_
  refine fg_callV (fg_ft (pc := 2957) tb_Law_law_39 59 rfl) cf_Law_211 (fg_isOf ly_287 rfl (fg_lt ly_287 (by decide))) (as := [.int (nI (x 1))]) (st := [.int (nI 0)]) rfl rfl (Nat.le_of_ble_eq_true rfl) (Nat.le_refl _) (Nat.le_refl _) (ev_Mo_image0 (hx 1) hv ?_)
  refine fg_icmp_eqN (tgt := 2988) (fg_ft (pc := 2960) tb_Law_law_40 0 rfl) (by decide) (by decide) (by decide) (fun c2960 => ?_) (fun c2960 => (absurd rfl c2960))
  exact hK μ R A I hJ
theorem lw_k47_N {E : fg_E} {d : Nat} {μ : Nat → Nat → Int32} {R : fg_T4} {Q : Option Value → fg_M → Prop} {A : fg_Tl} {I : Nat → fg_Tl} {i : Nat} {x : Nat → Nat} (hi : i + 8 ≤ E.2.2.2.2.2.2) (h4 : E.2.2.2.2.2.2 ≤ 4096) (hx : ∀ j, x j < 2 ^ 32) (hs : ∀ j, E.2.2.2.2.2.1 (i + j) = nI (x j)) (hJ : lw_J μ A I) (hv : 3 ≤ x 1) (hK : ∀ (μ' : Nat → Nat → Int32) (R' : fg_T4) (A' : fg_Tl) (I' : Nat → fg_Tl), lw_J μ' A' I' → fg_wp E yy_Law_law (d + 13) 100 304 Q 2988 [.ref 99, .ref 100, .ref 287, .int (nI i)] [] (μ', fg_rho R', 304)) : fg_wp E yy_Law_law (d + 13) 100 304 Q 2965 [.ref 99, .ref 100, .ref 287, .int (nI i)] [] (μ, fg_rho R, 304) := by
  refine fg_aloadn (fg_ft (pc := 2965) tb_Law_law_40 3 rfl) rfl ?_
  refine fg_aloadn (fg_ft (pc := 2966) tb_Law_law_40 4 rfl) rfl ?_
  refine fg_iloadn (fg_ft (pc := 2967) tb_Law_law_40 5 rfl) rfl ?_
  refine fg_iconst (fg_ft (pc := 2968) tb_Law_law_40 6 rfl) ic_1 ?_
  refine fg_iaddN (fg_ft (pc := 2969) tb_Law_law_40 7 rfl) ?_
  refine fg_sldN (fg_ft (pc := 2970) tb_Law_law_40 8 rfl) (by omega) h4 (hs 1) ?_
  refine fg_callV (fg_ft (pc := 2971) tb_Law_law_40 9 rfl) cf_Law_212 (fg_isOf ly_100 rfl (fg_lt ly_100 (by decide))) (as := [.int (nI (x 1))]) (st := []) rfl rfl (Nat.le_of_ble_eq_true rfl) (Nat.le_refl _) (Nat.le_refl _) (ev_Fb_back0 (hx 1) hv ?_)
  refine fg_aloadn (fg_ft (pc := 2974) tb_Law_law_40 10 rfl) rfl ?_
  refine fg_aloadn (fg_ft (pc := 2975) tb_Law_law_40 11 rfl) rfl ?_
  refine fg_iloadn (fg_ft (pc := 2976) tb_Law_law_40 12 rfl) rfl ?_
  refine fg_iconst (fg_ft (pc := 2977) tb_Law_law_40 13 rfl) ic_1 ?_
  refine fg_iaddN (fg_ft (pc := 2978) tb_Law_law_40 14 rfl) ?_
  refine fg_sldN (fg_ft (pc := 2979) tb_Law_law_40 15 rfl) (by omega) h4 (hs 1) ?_
  refine fg_callV (fg_ft (pc := 2980) tb_Law_law_40 16 rfl) cf_Law_215 (fg_isOf ly_287 rfl (fg_lt ly_287 (by decide))) (as := [.int (nI (x 1))]) (st := [.int (nI 0)]) rfl rfl (Nat.le_of_ble_eq_true rfl) (Nat.le_refl _) (Nat.le_refl _) (ev_Mo_back0 (hx 1) (Or.inl hv) ?_)
  refine fg_icmp_eqN (tgt := 2988) (fg_ft (pc := 2983) tb_Law_law_40 17 rfl) (by decide) (by decide) (by decide) (fun c2983 => ?_) (fun c2983 => (absurd rfl c2983))
  exact hK μ R A I hJ
