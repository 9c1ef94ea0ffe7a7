/-! the class's reader: words -/
def pz_isn (b : Nat → Nat) (s e : Nat) (l : List Nat) : Prop := e - s = l.length ∧ ∀ i, i < l.length → b (s + i) = l.getD i 0
theorem pz_sp_inj : ∀ w, w < 17 → ∀ w', w' < 17 → pz_sp w = pz_sp w' → w = w' := by decide
theorem pz_isw_inj {b : Nat → Nat} {s e w w' : Nat} (hw : w < 17) (hw' : w' < 17) (h : pz_isw b s e w) (h' : pz_isw b s e w') : w = w' := by
  refine pz_sp_inj w hw w' hw' (List.ext_getElem (h.1.symm.trans h'.1) (fun i h1 h2 => ?_))
  have e1 := h.2 i h1
  have e2 := h'.2 i h2
  rw [e1, List.getD_eq_getElem?_getD, List.getD_eq_getElem?_getD, List.getElem?_eq_getElem h1, List.getElem?_eq_getElem h2] at e2
  exact e2
theorem pz_wd_some {b : Nat → Nat} {s e w : Nat} (hw : w < 17) (h : pz_isw b s e w) : pz_wd b s e = some w := fg_fst_some h 17 (fun w' h1 h2 => absurd (pz_isw_inj hw (by omega) h h2) (by omega)) hw
theorem pz_wd_sp {b : Nat → Nat} {s e w : Nat} (h : pz_wd b s e = some w) : w < 17 ∧ pz_isw b s e w := ⟨(fg_fst_spec 17 w h).1, (fg_fst_spec 17 w h).2.1⟩
theorem ev_Reader_isSpelled {E : fg_E} {d : Nat} {μ : Nat → Nat → Int32} {R : fg_T4} {Q : Option Value → fg_M → Prop} {c : Nat → Int32} {len : Nat} (hr5 : fg_rho R 255 5 = some 102) (hc : ∀ j, j < 600 → μ 102 j = c j) (hl6 : μ 255 6 = nI len) (hle : len ≤ 600) (hf : pz_fit c) {s e a v : Nat} {l : List Nat} (h7 : μ 255 7 = nI e) (h9 : μ 255 9 = nI s) (hse : s ≤ e) (hel : e ≤ len) (hs : pz_str a v l) (hQ : Q (some (.int (fg_bI (pz_isn (pz_b c) s e l)))) (μ, fg_rho R, 304)) : fg_Ev E yy_Reader_isSpelled (d + 5) [.ref 255, .ref a] (μ, fg_rho R, 304) 304 Q := by
  have hl16 := hs.2.2.2.2.1
  have loop (heq : e - s = l.length) : ∀ (m i : Nat), l.length - i < m → i ≤ l.length → (∀ k, k < i → pz_b c (s + k) = l.getD k 0) → fg_wp E yy_Reader_isSpelled (d + 5) 304 304 Q 20 [.ref 255, .ref a, .int (nI i)] [] (μ, fg_rho R, 304) := by
    intro m
    induction m with
    | zero => intro i h; exact absurd h (Nat.not_lt_zero _)
    | succ m ih =>
      intro i hm hil hall
      refine fg_iloadn (fg_ft (pc := 20) tb_Reader_isSpelled 12 rfl) rfl ?_
      refine fg_aloadn (fg_ft (pc := 21) tb_Reader_isSpelled 13 rfl) rfl ?_
      refine fg_callV (fg_ft (pc := 22) tb_Reader_isSpelled 14 rfl) cf_Reader_112 (Or.inr hs.2.2.2.1) (as := []) (st := [.int (nI i)]) rfl rfl (Nat.le_of_ble_eq_true rfl) (Nat.le_refl _) (Nat.le_refl _) (ev_Str_length hs ?_)
      refine fg_icmp_geN (tgt := 54) (fg_ft (pc := 25) tb_Reader_isSpelled 15 rfl) (by decide) (by have := hs.2.2.2.2.1; omega) (by have := hs.2.2.2.2.1; omega) (fun c25 => ?_) (fun c25 => ?_)
      · refine fg_iconst (fg_ft (pc := 54) tb_Reader_isSpelled 30 rfl) ic_1 ?_
        exact fg_zret (fg_ft (pc := 55) tb_Reader_isSpelled 31 rfl) rfl (by decide) rfl (fg_q hQ (fg_bT ⟨heq, fun k hk => hall k (by omega)⟩))
      · have hi : i < l.length := by omega
        refine fg_aloadn (fg_ft (pc := 28) tb_Reader_isSpelled 16 rfl) rfl ?_
        refine fg_aloadn (fg_ft (pc := 29) tb_Reader_isSpelled 17 rfl) rfl ?_
        refine fg_getV (v := (nI s)) (fg_ft (pc := 30) tb_Reader_isSpelled 18 rfl) ff_Reader_80 ly_255 rfl (fg_lt ly_255 (by decide)) h9 ?_
        refine fg_iloadn (fg_ft (pc := 33) tb_Reader_isSpelled 19 rfl) rfl ?_
        refine fg_iaddN (fg_ft (pc := 34) tb_Reader_isSpelled 20 rfl) ?_
        refine fg_callV (fg_ft (pc := 35) tb_Reader_isSpelled 21 rfl) cf_Reader_127 (fg_isOf ly_255 rfl (fg_lt ly_255 (by decide))) (as := [.int (nI (s + i))]) (st := []) rfl rfl (Nat.le_of_ble_eq_true rfl) (Nat.le_refl _) (Nat.le_refl _) (ev_Reader_signAt (k := (s + i)) hr5 hc hl6 hle (by omega) ?_)
        refine fg_aloadn (fg_ft (pc := 38) tb_Reader_isSpelled 22 rfl) rfl ?_
        refine fg_iloadn (fg_ft (pc := 39) tb_Reader_isSpelled 23 rfl) rfl ?_
        refine fg_callV (fg_ft (pc := 40) tb_Reader_isSpelled 24 rfl) cf_Reader_130 (Or.inr hs.2.2.2.1) (as := [.int (nI i)]) (st := [.int (pz_c c len (s + i))]) rfl rfl (Nat.le_of_ble_eq_true rfl) (Nat.le_refl _) (Nat.le_refl _) (ev_Str_charAt hs (i := i) hi ?_)
        refine fg_icmp_eq (tgt := 48) (fg_ft (pc := 43) tb_Reader_isSpelled 25 rfl) (by decide) (fun c43 => ?_) (fun c43 => ?_)
        · refine fg_iincN (fg_ft (pc := 48) tb_Reader_isSpelled 28 rfl) rfl ic_1 rfl ?_
          refine fg_goto (tgt := 20) (fg_ft (pc := 51) tb_Reader_isSpelled 29 rfl) (by decide) ?_
          exact ih (i + 1) (by omega) (by omega) (fun k hk => by
            rcases Nat.lt_or_ge k i with q | q
            · exact hall k q
            · rw [show k = i by omega]; exact ((pz_ceq hf hle (hs.2.2.2.2.2 i hi).1 (hs.2.2.2.2.2 i hi).2).mp c43).2)
        · refine fg_iconst (fg_ft (pc := 46) tb_Reader_isSpelled 26 rfl) ic_0 ?_
          exact fg_zret (fg_ft (pc := 47) tb_Reader_isSpelled 27 rfl) rfl (by decide) rfl (fg_q hQ (fg_bF (fun hh => c43 ((pz_ceq hf hle (hs.2.2.2.2.2 i hi).1 (hs.2.2.2.2.2 i hi).2).mpr ⟨by omega, hh.2 i hi⟩))))
  refine fg_intro (by decide +kernel) (Nat.le_of_ble_eq_true rfl) (fg_okAs rfl) (Nat.le_refl _) ?_
  refine fg_aloadn (fg_ft (pc := 0) tb_Reader_isSpelled 0 rfl) rfl ?_
  refine fg_getV (v := (nI e)) (fg_ft (pc := 1) tb_Reader_isSpelled 1 rfl) ff_Reader_51 ly_255 rfl (fg_lt ly_255 (by decide)) h7 ?_
  refine fg_aloadn (fg_ft (pc := 4) tb_Reader_isSpelled 2 rfl) rfl ?_
  refine fg_getV (v := (nI s)) (fg_ft (pc := 5) tb_Reader_isSpelled 3 rfl) ff_Reader_80 ly_255 rfl (fg_lt ly_255 (by decide)) h9 ?_
  refine fg_isubN (fg_ft (pc := 8) tb_Reader_isSpelled 4 rfl) (by omega) ?_
  refine fg_aloadn (fg_ft (pc := 9) tb_Reader_isSpelled 5 rfl) rfl ?_
  refine fg_callV (fg_ft (pc := 10) tb_Reader_isSpelled 6 rfl) cf_Reader_112 (Or.inr hs.2.2.2.1) (as := []) (st := [.int (nI (e - s))]) rfl rfl (Nat.le_of_ble_eq_true rfl) (Nat.le_refl _) (Nat.le_refl _) (ev_Str_length hs ?_)
  refine fg_icmp_eqN (tgt := 18) (fg_ft (pc := 13) tb_Reader_isSpelled 7 rfl) (by decide) (by omega) (by have := hs.2.2.2.2.1; omega) (fun c13 => ?_) (fun c13 => ?_)
  · refine fg_iconst (fg_ft (pc := 18) tb_Reader_isSpelled 10 rfl) ic_0 ?_
    refine fg_istoren (fg_ft (pc := 19) tb_Reader_isSpelled 11 rfl) (Nat.le_of_ble_eq_true rfl) ?_
    exact loop c13 (l.length + 1) 0 (by omega) (Nat.zero_le _) (fun k hk => absurd hk (Nat.not_lt_zero _))
  · refine fg_iconst (fg_ft (pc := 16) tb_Reader_isSpelled 8 rfl) ic_0 ?_
    exact fg_zret (fg_ft (pc := 17) tb_Reader_isSpelled 9 rfl) rfl (by decide) rfl (fg_q hQ (fg_bF (fun hh => c13 hh.1)))
theorem pz_272 {R : fg_T4} {i : Nat} (h : i < 17) : fg_rho R 272 i = some i := by
  rcases (show i = 0 ∨ i = 1 ∨ i = 2 ∨ i = 3 ∨ i = 4 ∨ i = 5 ∨ i = 6 ∨ i = 7 ∨ i = 8 ∨ i = 9 ∨ i = 10 ∨ i = 11 ∨ i = 12 ∨ i = 13 ∨ i = 14 ∨ i = 15 ∨ i = 16 by omega) with rfl | rfl | rfl | rfl | rfl | rfl | rfl | rfl | rfl | rfl | rfl | rfl | rfl | rfl | rfl | rfl | rfl <;> rfl
theorem ev_Reader_wordAtToken {E : fg_E} {d : Nat} {μ : Nat → Nat → Int32} {R : fg_T4} {Q : Option Value → fg_M → Prop} {c : Nat → Int32} {len : Nat} (hr5 : fg_rho R 255 5 = some 102) (hc : ∀ j, j < 600 → μ 102 j = c j) (hl6 : μ 255 6 = nI len) (hle : len ≤ 600) (hf : pz_fit c) {sort s e tc : Nat} (hso : sort < 2) (h7 : μ 255 7 = nI e) (h8 : μ 255 8 = nI tc) (h9 : μ 255 9 = nI s) (htc : tc < 128) (hse : s ≤ e) (hel : e ≤ len) (hN : (tc = 119 → ∀ w, w < 17 → pz_so w = sort → ¬ pz_isn (pz_b c) s e (pz_sp w)) → Q (some .null) (μ, fg_rho R, 304)) (hY : ∀ w, w < 17 → tc = 119 → pz_so w = sort → pz_isn (pz_b c) s e (pz_sp w) → Q (some (.ref w)) (μ, fg_rho R, 304)) : fg_Ev E yy_Reader_wordAtToken (d + 6) [.ref 255, .int (nI sort)] (μ, fg_rho R, 304) 304 Q := by
  have loop : ∀ (m i : Nat) (vx : Value), 17 - i < m → i ≤ 17 → (∀ w, w < i → pz_so w = sort → ¬ pz_isn (pz_b c) s e (pz_sp w)) → fg_wp E yy_Reader_wordAtToken (d + 6) 304 304 Q 2 [.ref 255, .int (nI sort), .int (nI i), vx] [] (μ, fg_rho R, 304) := by
    intro m
    induction m with
    | zero => intro i vx h; exact absurd h (Nat.not_lt_zero _)
    | succ m ih =>
      intro i vx hm hil hall
      refine fg_aloadn (fg_ft (pc := 2) tb_Reader_wordAtToken 2 rfl) rfl ?_
      refine fg_getV (v := (nI tc)) (fg_ft (pc := 3) tb_Reader_wordAtToken 3 rfl) ff_Reader_72 ly_255 rfl (fg_lt ly_255 (by decide)) h8 ?_
      refine fg_bipush (fg_ft (pc := 6) tb_Reader_wordAtToken 4 rfl) ib_119 ?_
      refine fg_icmp_neN (tgt := 58) (fg_ft (pc := 8) tb_Reader_wordAtToken 5 rfl) (by decide) (by omega) (by decide) (fun c8 => ?_) (fun c8 => ?_)
      · refine fg_null (fg_ft (pc := 58) tb_Reader_wordAtToken 31 rfl) ?_
        exact fg_nret (fg_ft (pc := 59) tb_Reader_wordAtToken 32 rfl) rfl (by first | exact Or.inl ⟨_, rfl⟩ | exact Or.inr ⟨_, rfl⟩) rfl (hN (fun ht w hw h1 h2 => by first | exact absurd ht c8 | exact hall w (by omega) h1 h2))
      · refine fg_iloadn (fg_ft (pc := 11) tb_Reader_wordAtToken 6 rfl) rfl ?_
        refine fg_aloadn (fg_ft (pc := 12) tb_Reader_wordAtToken 7 rfl) rfl ?_
        refine fg_getR (fg_ft (pc := 13) tb_Reader_wordAtToken 8 rfl) ff_Reader_33 ly_255 rfl (fg_lt ly_255 (by decide)) (rh_255_4 R) ?_
        refine fg_alen (fg_ft (pc := 16) tb_Reader_wordAtToken 9 rfl) ly_272 (by decide) (fg_lt ly_272 (by decide)) ?_
        refine fg_icmp_geN (tgt := 58) (fg_ft (pc := 17) tb_Reader_wordAtToken 10 rfl) (by decide) (by omega) (by decide) (fun c17 => ?_) (fun c17 => ?_)
        · refine fg_null (fg_ft (pc := 58) tb_Reader_wordAtToken 31 rfl) ?_
          exact fg_nret (fg_ft (pc := 59) tb_Reader_wordAtToken 32 rfl) rfl (by first | exact Or.inl ⟨_, rfl⟩ | exact Or.inr ⟨_, rfl⟩) rfl (hN (fun ht w hw h1 h2 => by first | exact absurd ht c8 | exact hall w (by omega) h1 h2))
        · refine fg_aloadn (fg_ft (pc := 20) tb_Reader_wordAtToken 11 rfl) rfl ?_
          refine fg_getR (fg_ft (pc := 21) tb_Reader_wordAtToken 12 rfl) ff_Reader_33 ly_255 rfl (fg_lt ly_255 (by decide)) (rh_255_4 R) ?_
          refine fg_iloadn (fg_ft (pc := 24) tb_Reader_wordAtToken 13 rfl) rfl ?_
          refine fg_aaldN (fg_ft (pc := 25) tb_Reader_wordAtToken 14 rfl) ly_272 (by decide) (fg_lt ly_272 (by decide)) (by omega) (pz_272 (R := R) (by omega)) ?_
          refine fg_astoren (fg_ft (pc := 26) tb_Reader_wordAtToken 15 rfl) (Nat.le_of_ble_eq_true rfl) ?_
          refine fg_aloadn (fg_ft (pc := 27) tb_Reader_wordAtToken 16 rfl) rfl ?_
          refine fg_ifnull_r (fg_ft (pc := 28) tb_Reader_wordAtToken 17 rfl) ?_
          refine fg_aloadn (fg_ft (pc := 31) tb_Reader_wordAtToken 18 rfl) rfl ?_
          refine fg_callV (fg_ft (pc := 32) tb_Reader_wordAtToken 19 rfl) cf_Reader_117 (Or.inr (pz_isW (w := i) (by omega))) (as := []) (st := []) rfl rfl (Nat.le_of_ble_eq_true rfl) (Nat.le_refl _) (Nat.le_refl _) (ev_Word_sort (w := i) (by omega) ?_)
          refine fg_iloadn (fg_ft (pc := 35) tb_Reader_wordAtToken 20 rfl) rfl ?_
          refine fg_icmp_neN (tgt := 52) (fg_ft (pc := 36) tb_Reader_wordAtToken 21 rfl) (by decide) (by unfold pz_so; split <;> omega) (by omega) (fun c36 => ?_) (fun c36 => ?_)
          · refine fg_iincN (fg_ft (pc := 52) tb_Reader_wordAtToken 29 rfl) rfl ic_1 rfl ?_
            refine fg_goto (tgt := 2) (fg_ft (pc := 55) tb_Reader_wordAtToken 30 rfl) (by decide) ?_
            exact ih (i + 1) _ (by omega) (by omega) (fun w hw h1 h2 => by
              rcases Nat.lt_or_ge w i with q | q
              · exact hall w q h1 h2
              · rw [show w = i by omega] at h1 h2
                first
                | exact c36 h1
                | exact c47 h2)
          · refine fg_aloadn (fg_ft (pc := 39) tb_Reader_wordAtToken 22 rfl) rfl ?_
            refine fg_aloadn (fg_ft (pc := 40) tb_Reader_wordAtToken 23 rfl) rfl ?_
            refine fg_getK (fg_ft (pc := 41) tb_Reader_wordAtToken 24 rfl) (pz_kspelled (w := i) (by omega)) ?_
            refine fg_callV (fg_ft (pc := 44) tb_Reader_wordAtToken 25 rfl) cf_Reader_123 (fg_isOf ly_255 rfl (fg_lt ly_255 (by decide))) (as := [.ref (20 + i)]) (st := []) rfl rfl (Nat.le_of_ble_eq_true rfl) (Nat.le_refl _) (Nat.le_refl _) (ev_Reader_isSpelled hr5 hc hl6 hle hf h7 h9 hse hel (pz_strS (w := i) (by omega)) ?_)
            refine fg_ifB_eq (tgt := 52) (fg_ft (pc := 47) tb_Reader_wordAtToken 26 rfl) (by decide) (fun c47 => ?_) (fun c47 => ?_)
            · refine fg_iincN (fg_ft (pc := 52) tb_Reader_wordAtToken 29 rfl) rfl ic_1 rfl ?_
              refine fg_goto (tgt := 2) (fg_ft (pc := 55) tb_Reader_wordAtToken 30 rfl) (by decide) ?_
              exact ih (i + 1) _ (by omega) (by omega) (fun w hw h1 h2 => by
                rcases Nat.lt_or_ge w i with q | q
                · exact hall w q h1 h2
                · rw [show w = i by omega] at h1 h2
                  first
                  | exact c36 h1
                  | exact c47 h2)
            · refine fg_aloadn (fg_ft (pc := 50) tb_Reader_wordAtToken 27 rfl) rfl ?_
              exact fg_aret (fg_ft (pc := 51) tb_Reader_wordAtToken 28 rfl) rfl (by first | exact Or.inl ⟨_, rfl⟩ | exact Or.inr ⟨_, rfl⟩) rfl (hY i (by omega) (by omega) (by omega) c47)
  refine fg_intro (by decide +kernel) (Nat.le_of_ble_eq_true rfl) (fg_okAs rfl) (Nat.le_refl _) ?_
  refine fg_iconst (fg_ft (pc := 0) tb_Reader_wordAtToken 0 rfl) ic_0 ?_
  refine fg_istoren (fg_ft (pc := 1) tb_Reader_wordAtToken 1 rfl) (Nat.le_of_ble_eq_true rfl) ?_
  exact loop 18 0 _ (by omega) (by omega) (fun w hw => absurd hw (Nat.not_lt_zero _))
