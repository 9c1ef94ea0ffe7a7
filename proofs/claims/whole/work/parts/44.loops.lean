noncomputable def fg_ifP {α : Type} (p : Prop) (a b : α) : α := @ite _ p (Classical.propDecidable p) a b
theorem fg_ifT {α : Type} {p : Prop} {a b : α} (h : p) : fg_ifP p a b = a := @if_pos _ (Classical.propDecidable p) h _ _ _
theorem fg_ifF {α : Type} {p : Prop} {a b : α} (h : ¬ p) : fg_ifP p a b = b := @if_neg _ (Classical.propDecidable p) h _ _ _
/-- from n - 1 down to 0 -/
def fg_db {σ : Type} (F : Nat → σ → σ) : Nat → σ → σ
  | 0, s => s
  | q + 1, s => fg_db F q (F q s)
theorem fg_db_id {σ : Type} {F : Nat → σ → σ} {a : Nat} : ∀ k s, (∀ q, a ≤ q → q < a + k → ∀ s, F q s = s) → fg_db F (a + k) s = fg_db F a s := by
  intro k
  induction k with
  | zero => intro s _; rfl
  | succ k ih =>
    intro s h
    show fg_db F (a + k) (F (a + k) s) = _
    rw [h (a + k) (by omega) (by omega)]
    exact ih s (fun q h1 h2 => h q h1 (by omega))
/-- a fold over the parts of a set -/
def fg_sf {σ : Type} (free : Nat) (g : Nat → σ → σ) : Nat → σ → σ := fun q s => if fg_df q free = 0 then g q s else s
theorem fg_descF {σ : Type} {free : Nat} (hfree : free < 4096) (W : Nat → Nat → σ → Prop) (g : Nat → σ → σ) {r : σ} (hx : ∀ part, W 0 part r)
    (hs : ∀ left part s, left < 4096 → fg_le part free → W left (fg_nx part free) (g part s) → W (left + 1) part s) {s : σ} (h : fg_db (fg_sf free g) (free + 1) s = r) : W (2 ^ fg_pc free) free s := by
  refine fg_descLoop hfree W (fun S s => ∃ lo, (∀ q, S q ↔ (fg_le q free ∧ lo ≤ q)) ∧ fg_db (fg_sf free g) lo s = r) ?_ ?_ s ⟨free + 1, fun q => ⟨fun h => h.elim, fun h => by have := fg_le_le h.1; have := h.2; omega⟩, h⟩
  · rintro part s ⟨lo, h1, h2⟩
    have h0 := ((h1 0).mp (fun i hi => by rw [Nat.zero_testBit] at hi; cases hi)).2
    obtain rfl : lo = 0 := by omega
    have h2 : s = r := h2
    rw [h2]
    exact hx part
  · rintro left part s hl hp ⟨lo, h1, h2⟩ hk
    have hlo : part + 1 ≤ lo := by
      rcases Nat.lt_or_ge part lo with q | q
      · exact q
      · exact absurd ((h1 part).mpr ⟨hp, q⟩).2 (Nat.lt_irrefl _)
    have e : fg_db (fg_sf free g) lo s = fg_db (fg_sf free g) (part + 1) s := by
      have := fg_db_id (F := fg_sf free g) (a := part + 1) (lo - (part + 1)) s (fun q h3 h4 s => by
        unfold fg_sf
        refine if_neg (fun h5 => ?_)
        have := (h1 q).mp ⟨fg_df0.mp h5, by omega⟩
        omega)
      rw [show part + 1 + (lo - (part + 1)) = lo by omega] at this
      exact this
    rw [e] at h2
    refine hs left part s hl hp (hk (g part s) ⟨part, fun q => Iff.rfl, ?_⟩)
    have e2 : fg_sf free g part s = g part s := by unfold fg_sf; exact if_pos (fg_df0.mpr hp)
    have h2 : fg_db (fg_sf free g) part (fg_sf free g part s) = r := h2
    rw [e2] at h2
    exact h2
/-- the least below n of which it is so -/
noncomputable def fg_fst (P : Nat → Prop) : Nat → Option Nat
  | 0 => none
  | n + 1 => match fg_fst P n with
    | some a => some a
    | none => fg_ifP (P n) (some n) none
theorem fg_fst_some {P : Nat → Prop} {a : Nat} (h : P a) : ∀ n, (∀ b, b < a → ¬ P b) → a < n → fg_fst P n = some a := by
  intro n
  induction n with
  | zero => intro _ h; exact absurd h (Nat.not_lt_zero _)
  | succ n ih =>
    intro hb ha
    unfold fg_fst
    rcases Nat.lt_or_ge a n with q | q
    · rw [ih hb q]
    · obtain rfl : a = n := by omega
      have : ∀ m, m ≤ a → fg_fst P m = none := by
        intro m
        induction m with
        | zero => intro _; rfl
        | succ m im =>
          intro hm
          unfold fg_fst
          rw [im (by omega)]
          exact fg_ifF (hb m (by omega))
      rw [this a (Nat.le_refl _)]
      exact fg_ifT h
theorem fg_fst_none {P : Nat → Prop} : ∀ n, (∀ b, b < n → ¬ P b) → fg_fst P n = none := by
  intro n
  induction n with
  | zero => intro _; rfl
  | succ n ih =>
    intro h
    unfold fg_fst
    rw [ih (fun b hb => h b (by omega))]
    exact fg_ifF (h n (by omega))
noncomputable def fg_tw (T : Nat → Nat) (fact : Nat) : Nat → Nat
  | 0 => 0
  | n + 1 => fg_tw T fact n ||| (if n ≠ fact ∧ (fg_clo T (2 ^ fact)).testBit n = true ∧ (fg_clo T (2 ^ n)).testBit fact = true then 2 ^ n else 0)
noncomputable def an_twins (A : fg_Tl) (town fact : Nat) : Int32 := if town < A.tc then (if fact < A.ts town 0 then nI (fg_tw (A.ts town) fact (A.ts town 0)) else -1) else -1
/-- how many acts can be -/
noncomputable def fg_stp (T : Nat → Nat) (D : Nat → Int32) : Nat → Nat
  | 0 => 0
  | n + 1 => match fg_runs T D (n + 1) with
    | some _ => n + 1
    | none => fg_stp T D n
noncomputable def an_stop (A : fg_Tl) (town day : Nat) : Int32 := if town < A.tc then (if day < A.dc then nI (fg_stp (A.ts town) (A.ds day) (A.nd day)) else -1) else -1
def fg_whP (T : Nat → Nat) (D : Nat → Int32) (p k a : Nat) : Prop := ∃ S lv S' lv', fg_runs T D a = some (S, lv) ∧ fg_runs T D (a + 1) = some (S', lv') ∧ (S.2.1.1 p).testBit k = true ∧ ¬ (S'.2.1.1 p).testBit k = true
noncomputable def an_when (A : fg_Tl) (town day p k : Nat) : Int32 := if town < A.tc then (if day < A.dc then (if p < A.ts town 2 then (if k < A.ts town 0 then fg_o (fg_fst (fg_whP (A.ts town) (A.ds day) p k) (A.nd day)) else -1) else -1) else -1) else -1
noncomputable def fg_rl (T : Nat → Nat) (m : Nat) : Nat → Int32 × Option (Nat × Nat)
  | 0 => (nI 0, none)
  | k + 1 => if m.testBit (k / 3) = true ∧ (fg_rl T m k).1 < fg_w T (fg_fgt T m (k / 3) (k % 3)) - fg_w T m then (fg_w T (fg_fgt T m (k / 3) (k % 3)) - fg_w T m, some (k / 3, k % 3)) else fg_rl T m k
def fg_rlA (kind : Nat) (r : Option (Nat × Nat)) : Int32 := match r with
  | none => -1
  | some q => if kind = 0 then nI q.1 else nI q.2
noncomputable def an_relief (A : fg_Tl) (town day n person kind : Nat) : Int32 := fg_g1 A town day n person (-1) (fun T S _ => fg_rlA kind (fg_rl T (S.2.1.1 person) (3 * T 0)).2)
theorem fg_rl_skip {T : Nat → Nat} {m f : Nat} (h : ¬ m.testBit f = true) : fg_rl T m (3 * (f + 1)) = fg_rl T m (3 * f) := by
  have e : ∀ j, j < 3 → fg_rl T m (3 * f + j + 1) = fg_rl T m (3 * f + j) := fun j hj => by
    show (if m.testBit ((3 * f + j) / 3) = true ∧ _ then _ else _) = _
    rw [if_neg (fun hh => h (by rw [show (3 * f + j) / 3 = f by omega] at hh; exact hh.1))]
  rw [show 3 * (f + 1) = 3 * f + 2 + 1 by omega, e 2 (by decide)]
  show fg_rl T m (3 * f + 1 + 1) = _
  rw [e 1 (by decide)]
  exact e 0 (by decide)
noncomputable def fg_tr (T : Nat → Nat) (facts fact m : Nat) : Nat → Nat × Nat
  | 0 => (m, 0)
  | n + 1 => if (fg_tr T facts fact m n).1.testBit fact = true then fg_tr T facts fact m n else if facts.testBit n = true then (fg_clo T ((fg_tr T facts fact m n).1 ||| 2 ^ n), (fg_tr T facts fact m n).2 + 1) else fg_tr T facts fact m n
theorem fg_tr_keep {T : Nat → Nat} {facts fact m n : Nat} (h : (fg_tr T facts fact m n).1.testBit fact = true) : ∀ k, fg_tr T facts fact m (n + k) = fg_tr T facts fact m n := by
  intro k
  induction k with
  | zero => rfl
  | succ k ih =>
    show (if (fg_tr T facts fact m (n + k)).1.testBit fact = true then fg_tr T facts fact m (n + k) else _) = _
    rw [if_pos (by rw [ih]; exact h)]
    exact ih
theorem fg_tr_lt {T : Nat → Nat} (hok : fg_ok T) {facts fact m : Nat} (hm : m < 2 ^ T 0) : ∀ n, n ≤ T 0 → (fg_tr T facts fact m n).1 < 2 ^ T 0 := by
  intro n
  induction n with
  | zero => intro _; exact hm
  | succ n ih =>
    intro hn
    unfold fg_tr
    split
    · exact ih (by omega)
    · split
      · exact fg_clo_lt hok (fg_or_lt (ih (by omega)) (Nat.pow_lt_pow_right (by decide) (by omega)))
      · exact ih (by omega)
noncomputable def an_trial (A : fg_Tl) (town day n person facts fact : Nat) : Int32 := fg_g1 A town day n person (-1) (fun T S _ => if facts < 2 ^ T 0 then (if fact < T 0 then (if (fg_tr T facts fact (S.2.1.1 person) (T 0)).1.testBit fact = true then nI (fg_tr T facts fact (S.2.1.1 person) (T 0)).2 else -1) else -1) else -1)
noncomputable def fg_wyg (T : Nat → Nat) (fact q : Nat) (s : Nat × Nat × Nat) : Nat × Nat × Nat := fg_ifP (fg_way T q fact) (s.1 + 1, s.2.1 ||| q, s.2.2 &&& q) s
noncomputable def fg_wy (T : Nat → Nat) (m fact : Nat) : Nat × Nat × Nat := fg_db (fg_sf (fg_df m (2 ^ fact)) (fg_wyg T fact)) (fg_df m (2 ^ fact) + 1) (0, 0, fg_df m (2 ^ fact))
noncomputable def an_ways (A : fg_Tl) (town day n person fact : Nat) : Int32 := fg_g1 A town day n person (-1) (fun T S _ => if (S.2.1.1 person).testBit fact = true then nI (fg_wy T (S.2.1.1 person) fact).1 else -1)
noncomputable def an_leans (A : fg_Tl) (town day n person fact needs : Nat) : Int32 := fg_g1 A town day n person (-1) (fun T S _ => if (S.2.1.1 person).testBit fact = true then (if (fg_wy T (S.2.1.1 person) fact).2.1 = 0 ∨ needs = 0 then nI (fg_wy T (S.2.1.1 person) fact).2.1 else nI (fg_wy T (S.2.1.1 person) fact).2.2) else -1)
theorem ev_Fb_twins {E : fg_E} {d : Nat} {μ : Nat → Nat → Int32} {R : fg_T4} {Q : Option Value → fg_M → Prop} {A : fg_Tl} (hA : fg_TL μ 101 A) {town fact : Nat} (htown : town < 2 ^ 32) (hfact : fact < 2 ^ 32) (hQ : ∀ (μ' : Nat → Nat → Int32) (R' : fg_T4), fg_agQ μ μ' → Q (some (.int (an_twins A town fact))) (μ', fg_rho R', 304)) : fg_Ev E yy_Fb_twins (d + 12) [.ref 100, .int (nI town), .int (nI fact)] (μ, fg_rho R, 304) 304 Q := by
  have ht2 := hA.2.2.2.1.2
  have hd3 := hA.2.2.2.2.1.2
  have loop : town < A.tc → fact < A.ts town 0 → ∀ (n k a : Nat) (v6 : Value), A.ts town 0 - k < n → k ≤ A.ts town 0 → a = fg_tw (A.ts town) fact k → fg_wp E yy_Fb_twins (d + 12) 304 304 Q 29 [.ref 100, .int (nI town), .int (nI fact), .ref (104 + 14 * town), .int (nI a), .int (nI k), v6] [] (μ, fg_rho R, 304) := by
    intro y5 hfT n
    have hok := (hA.2.2.2.2.2.1 town y5).2
    have hT := (hA.2.2.2.2.2.1 town y5).1
    have ht : fg_isT (104 + 14 * town) := fg_isT_told (by omega)
    have hb0 := hok.1
    have hp := hok.p
    have hfp : 2 ^ fact < 2 ^ A.ts town 0 := Nat.pow_lt_pow_right (by decide) hfT
    induction n with
    | zero => intro k a v6 h; exact absurd h (Nat.not_lt_zero _)
    | succ n ih =>
      intro k a v6 hn hk ha
      refine fg_iload (fg_ft (pc := 29) tb_Fb_twins 17 rfl) rfl ?_
      refine fg_aloadn (fg_ft (pc := 31) tb_Fb_twins 18 rfl) rfl ?_
      refine fg_getV (v := (nI ((A.ts town) 0))) (fg_ft (pc := 32) tb_Fb_twins 19 rfl) ff_Fb_100 (tT_lay ht) rfl (fg_lt (tT_lay ht) (by decide)) hT.1.1 ?_
      refine fg_icmp_geN (tgt := 93) (fg_ft (pc := 35) tb_Fb_twins 20 rfl) (by decide) (by omega) (by omega) (fun c35 => ?_) (fun c35 => ?_)
      · refine fg_iload (fg_ft (pc := 93) tb_Fb_twins 50 rfl) rfl ?_
        exact fg_iret (fg_ft (pc := 95) tb_Fb_twins 51 rfl) rfl rfl (fg_q (hQ _ R (fg_agQ_rf μ)) (by unfold an_twins; rw [if_pos y5, if_pos hfT, ha, show k = A.ts town 0 by omega]))
      · have hkp : 2 ^ k < 2 ^ A.ts town 0 := Nat.pow_lt_pow_right (by decide) (by omega)
        refine fg_aloadn (fg_ft (pc := 38) tb_Fb_twins 21 rfl) rfl ?_
        refine fg_iconst (fg_ft (pc := 39) tb_Fb_twins 22 rfl) ic_1 ?_
        refine fg_iloadn (fg_ft (pc := 40) tb_Fb_twins 23 rfl) rfl ?_
        refine fg_ishl1 (fg_ft (pc := 41) tb_Fb_twins 24 rfl) (by omega) ?_
        refine fg_callV (fg_ft (pc := 42) tb_Fb_twins 25 rfl) cf_Fb_160 (fg_isOf (tT_lay ht) rfl (fg_lt (tT_lay ht) (by decide))) (as := [.int (nI (2 ^ fact))]) (st := []) rfl rfl (Nat.le_of_ble_eq_true rfl) (Nat.le_refl _) (Nat.le_refl _) (ev_Town_close ht hT hok (s := (2 ^ fact)) (hfp) ?_)
        refine fg_iload (fg_ft (pc := 45) tb_Fb_twins 26 rfl) rfl ?_
        refine fg_callS (fg_ft (pc := 47) tb_Fb_twins 27 rfl) cf_Fb_167 (as := [.int (nI (fg_clo (A.ts town) (2 ^ fact))), .int (nI k)]) (st := []) rfl rfl (Nat.le_of_ble_eq_true rfl) (Nat.le_refl _) (Nat.le_refl _) (ev_Fb_isIn (s := (fg_clo (A.ts town) (2 ^ fact))) (k := k) (by have := fg_clo_lt hok hfp; omega) (by omega) ?_)
        refine fg_istore (fg_ft (pc := 50) tb_Fb_twins 28 rfl) (Nat.le_of_ble_eq_true rfl) ?_
        refine fg_iload (fg_ft (pc := 52) tb_Fb_twins 29 rfl) rfl ?_
        refine fg_iloadn (fg_ft (pc := 54) tb_Fb_twins 30 rfl) rfl ?_
        refine fg_icmp_eqN (tgt := 87) (fg_ft (pc := 55) tb_Fb_twins 31 rfl) (by decide) (by omega) (by omega) (fun c55 => ?_) (fun c55 => ?_)
        · refine fg_iincN (fg_ft (pc := 87) tb_Fb_twins 48 rfl) rfl ic_1 rfl ?_
          refine fg_goto (tgt := 29) (fg_ft (pc := 90) tb_Fb_twins 49 rfl) (by decide) ?_
          exact ih (k + 1) _ _ (by omega) (by omega) (by rw [ha]; show _ = fg_tw (A.ts town) fact k ||| _; rw [if_neg (fun hh => by first | exact hh.1 c55 | exact c60 hh.2.1 | exact c75 hh.2.2), Nat.or_zero])
        · refine fg_iload (fg_ft (pc := 58) tb_Fb_twins 32 rfl) rfl ?_
          refine fg_ifB_eq (tgt := 87) (fg_ft (pc := 60) tb_Fb_twins 33 rfl) (by decide) (fun c60 => ?_) (fun c60 => ?_)
          · refine fg_iincN (fg_ft (pc := 87) tb_Fb_twins 48 rfl) rfl ic_1 rfl ?_
            refine fg_goto (tgt := 29) (fg_ft (pc := 90) tb_Fb_twins 49 rfl) (by decide) ?_
            exact ih (k + 1) _ _ (by omega) (by omega) (by rw [ha]; show _ = fg_tw (A.ts town) fact k ||| _; rw [if_neg (fun hh => by first | exact hh.1 c55 | exact c60 hh.2.1 | exact c75 hh.2.2), Nat.or_zero])
          · refine fg_aloadn (fg_ft (pc := 63) tb_Fb_twins 34 rfl) rfl ?_
            refine fg_iconst (fg_ft (pc := 64) tb_Fb_twins 35 rfl) ic_1 ?_
            refine fg_iload (fg_ft (pc := 65) tb_Fb_twins 36 rfl) rfl ?_
            refine fg_ishl1 (fg_ft (pc := 67) tb_Fb_twins 37 rfl) (by omega) ?_
            refine fg_callV (fg_ft (pc := 68) tb_Fb_twins 38 rfl) cf_Fb_160 (fg_isOf (tT_lay ht) rfl (fg_lt (tT_lay ht) (by decide))) (as := [.int (nI (2 ^ k))]) (st := []) rfl rfl (Nat.le_of_ble_eq_true rfl) (Nat.le_refl _) (Nat.le_refl _) (ev_Town_close ht hT hok (s := (2 ^ k)) (hkp) ?_)
            refine fg_iloadn (fg_ft (pc := 71) tb_Fb_twins 39 rfl) rfl ?_
            refine fg_callS (fg_ft (pc := 72) tb_Fb_twins 40 rfl) cf_Fb_167 (as := [.int (nI (fg_clo (A.ts town) (2 ^ k))), .int (nI fact)]) (st := []) rfl rfl (Nat.le_of_ble_eq_true rfl) (Nat.le_refl _) (Nat.le_refl _) (ev_Fb_isIn (s := (fg_clo (A.ts town) (2 ^ k))) (k := fact) (by have := fg_clo_lt hok hkp; omega) (by omega) ?_)
            refine fg_ifB_eq (tgt := 87) (fg_ft (pc := 75) tb_Fb_twins 41 rfl) (by decide) (fun c75 => ?_) (fun c75 => ?_)
            · refine fg_iincN (fg_ft (pc := 87) tb_Fb_twins 48 rfl) rfl ic_1 rfl ?_
              refine fg_goto (tgt := 29) (fg_ft (pc := 90) tb_Fb_twins 49 rfl) (by decide) ?_
              exact ih (k + 1) _ _ (by omega) (by omega) (by rw [ha]; show _ = fg_tw (A.ts town) fact k ||| _; rw [if_neg (fun hh => by first | exact hh.1 c55 | exact c60 hh.2.1 | exact c75 hh.2.2), Nat.or_zero])
            · refine fg_iload (fg_ft (pc := 78) tb_Fb_twins 42 rfl) rfl ?_
              refine fg_iconst (fg_ft (pc := 80) tb_Fb_twins 43 rfl) ic_1 ?_
              refine fg_iload (fg_ft (pc := 81) tb_Fb_twins 44 rfl) rfl ?_
              refine fg_ishl1 (fg_ft (pc := 83) tb_Fb_twins 45 rfl) (by omega) ?_
              refine fg_iorN (fg_ft (pc := 84) tb_Fb_twins 46 rfl) ?_
              refine fg_istore (fg_ft (pc := 85) tb_Fb_twins 47 rfl) (Nat.le_of_ble_eq_true rfl) ?_
              refine fg_iincN (fg_ft (pc := 87) tb_Fb_twins 48 rfl) rfl ic_1 rfl ?_
              refine fg_goto (tgt := 29) (fg_ft (pc := 90) tb_Fb_twins 49 rfl) (by decide) ?_
              exact ih (k + 1) _ _ (by omega) (by omega) (by rw [ha]; show _ = fg_tw (A.ts town) fact k ||| _; rw [if_pos ⟨c55, c60, c75⟩])
  refine fg_intro (by decide +kernel) (Nat.le_of_ble_eq_true rfl) (fg_okAs rfl) (Nat.le_refl _) ?_
  refine fg_aloadn (fg_ft (pc := 0) tb_Fb_twins 0 rfl) rfl ?_
  refine fg_getR (fg_ft (pc := 1) tb_Fb_twins 1 rfl) ff_Fb_12 ly_100 rfl (fg_lt ly_100 (by decide)) (rh_100_0 R) ?_
  refine fg_iloadn (fg_ft (pc := 4) tb_Fb_twins 2 rfl) rfl ?_
  refine fg_callV (fg_ft (pc := 5) tb_Fb_twins 3 rfl) cf_Fb_96 (fg_isOf ly_101 rfl (fg_lt ly_101 (by decide))) (as := [.int (nI town)]) (st := []) rfl rfl (Nat.le_of_ble_eq_true rfl) (Nat.le_refl _) (Nat.le_refl _) (ev_Told_townAt hA (i := town) htown (fun n5 => ?_) (fun y5 => ?_))
  · refine fg_astorenN (fg_ft (pc := 8) tb_Fb_twins 4 rfl) (Nat.le_of_ble_eq_true rfl) ?_
    refine fg_aloadnN (fg_ft (pc := 9) tb_Fb_twins 5 rfl) rfl ?_
    refine fg_ifnull (tgt := 21) (fg_ft (pc := 10) tb_Fb_twins 6 rfl) (by decide) ?_
    refine fg_iconst (fg_ft (pc := 21) tb_Fb_twins 11 rfl) ic_m1 ?_
    exact fg_iret (fg_ft (pc := 22) tb_Fb_twins 12 rfl) rfl rfl (fg_q (hQ _ R (fg_agQ_rf μ)) (by unfold an_twins; ((repeat (first | rw [if_pos (by assumption)] | rw [if_neg (by assumption)] | rw [if_pos (by omega)] | rw [if_neg (by omega)] | rw [if_pos (by constructor <;> assumption)] | rw [if_neg (by intro hh; exact absurd hh.1 (by assumption))] | rw [if_neg (by intro hh; exact absurd hh.2 (by assumption))])); (try rfl))))
  · have hok := (hA.2.2.2.2.2.1 town y5).2
    have hT := (hA.2.2.2.2.2.1 town y5).1
    have ht : fg_isT (104 + 14 * town) := fg_isT_told (by omega)
    have hb0 := hok.1
    have hb1 := hok.2.1
    have hp := hok.p
    refine fg_astoren (fg_ft (pc := 8) tb_Fb_twins 4 rfl) (Nat.le_of_ble_eq_true rfl) ?_
    refine fg_aloadn (fg_ft (pc := 9) tb_Fb_twins 5 rfl) rfl ?_
    refine fg_ifnull_r (fg_ft (pc := 10) tb_Fb_twins 6 rfl) ?_
    refine fg_aloadn (fg_ft (pc := 13) tb_Fb_twins 7 rfl) rfl ?_
    refine fg_iloadn (fg_ft (pc := 14) tb_Fb_twins 8 rfl) rfl ?_
    refine fg_callV (fg_ft (pc := 15) tb_Fb_twins 9 rfl) cf_Fb_164 (fg_isOf (tT_lay ht) rfl (fg_lt (tT_lay ht) (by decide))) (as := [.int (nI fact)]) (st := []) rfl rfl (Nat.le_of_ble_eq_true rfl) (Nat.le_refl _) (Nat.le_refl _) (ev_Town_hasFactX ht hT hok (k := fact) hfact ?_)
    refine fg_ifB_ne (tgt := 23) (fg_ft (pc := 18) tb_Fb_twins 10 rfl) (by decide) (fun c18 => ?_) (fun c18 => ?_)
    · refine fg_iconst (fg_ft (pc := 23) tb_Fb_twins 13 rfl) ic_0 ?_
      refine fg_istore (fg_ft (pc := 24) tb_Fb_twins 14 rfl) (Nat.le_of_ble_eq_true rfl) ?_
      refine fg_iconst (fg_ft (pc := 26) tb_Fb_twins 15 rfl) ic_0 ?_
      refine fg_istore (fg_ft (pc := 27) tb_Fb_twins 16 rfl) (Nat.le_of_ble_eq_true rfl) ?_
      exact loop y5 c18 (A.ts town 0 + 1) 0 0 _ (by omega) (by omega) rfl
    · refine fg_iconst (fg_ft (pc := 21) tb_Fb_twins 11 rfl) ic_m1 ?_
      exact fg_iret (fg_ft (pc := 22) tb_Fb_twins 12 rfl) rfl rfl (fg_q (hQ _ R (fg_agQ_rf μ)) (by unfold an_twins; ((repeat (first | rw [if_pos (by assumption)] | rw [if_neg (by assumption)] | rw [if_pos (by omega)] | rw [if_neg (by omega)] | rw [if_pos (by constructor <;> assumption)] | rw [if_neg (by intro hh; exact absurd hh.1 (by assumption))] | rw [if_neg (by intro hh; exact absurd hh.2 (by assumption))])); (try rfl))))
