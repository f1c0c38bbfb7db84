/-! ===== pure: weights (both answer) ===== -/
section WEI
variable {K : Nat → Nat} {S T : FS} {za zb zc zd ze : Int32}
def EW (S S' : FS) : Prop := (∀ k : Nat, k ≠ 34 → k ≠ 104 → k ≠ 107 → k ≠ 108 → k ≠ 109 → k ≠ 110 → S'.1 k = S.1 k) ∧ ∀ a : Nat, a ≠ 30 → a ≠ 33 → a ≠ 35 → S'.2 a = S.2 a
theorem EW.rf : EW S S := ⟨fun _ _ _ _ _ _ _ => rfl, fun _ _ _ _ => rfl⟩
theorem EW.tr {A B C : FS} (h : EW A B) (g : EW B C) : EW A C := ⟨fun k h1 h2 h3 h4 h5 h6 => (g.1 k h1 h2 h3 h4 h5 h6).trans (h.1 k h1 h2 h3 h4 h5 h6), fun a h1 h2 h3 => (g.2 a h1 h2 h3).trans (h.2 a h1 h2 h3)⟩
theorem EW.ec {A B : FS} (h : EC A B) : EW A B := ⟨fun k _ h2 _ _ _ _ => h.1 k h2, fun a h1 _ _ => h.2 a h1⟩
theorem EW.wI {k : Nat} {v : Int32} (h : k = 34 ∨ k = 107 ∨ k = 108 ∨ k = 109 ∨ k = 110) : EW S (wI S k v) := ⟨fun j h1 _ h3 h4 h5 h6 => wI_n (by omega), fun _ _ _ _ => rfl⟩
theorem EW.wA {a j : Nat} {v : Int32} (h : a = 33 ∨ a = 35) : EW S (wA S a j v) := ⟨fun _ _ _ _ _ _ _ => rfl, fun b _ h2 h3 => wA_n (by omega)⟩
theorem EW.ce {A B : FS} (h : EW A B) : CE A B := by
  refine ⟨⟨⟨h.2 _ (by decide) (by decide) (by decide), h.2 _ (by decide) (by decide) (by decide), h.2 _ (by decide) (by decide) (by decide), h.2 _ (by decide) (by decide) (by decide)⟩, h.1 _ (by decide) (by decide) (by decide) (by decide) (by decide) (by decide), h.1 _ (by decide) (by decide) (by decide) (by decide) (by decide) (by decide)⟩, fun k hk => h.1 k ?_ ?_ ?_ ?_ ?_ ?_, fun a ha => h.2 a ?_ ?_ ?_⟩
  all_goals (intro q; subst q; first | (revert hk; decide) | (revert ha; decide))
theorem wt_l (h : RelR K S (T.2 55)) {p : Nat} : ∀ (m i : Nat) (x : Int32), i ≤ K 3 → K 3 - i < m → ∃ v : Int32, ∀ k, l_X0_weightOf_43 (nI p) (nI (K 3)) k m S x (nI i) = k S v (nI (K 3)) := by
  have c3 := (h.ct 8 3 20 (by decide)).2.2
  intro m
  induction m with
  | zero => intro i x _ hm; exact absurd hm (Nat.not_lt_zero _)
  | succ m ih =>
    intro i x hi hm
    by_cases c : i < K 3
    · have kk : q_X7_isOfKind S (nI i) 1 = some (p_X12_isUnder T (T.2 55 (6 * i + 390)) 1) := h.kind c (z := 1) (by decide)
      obtain ⟨v0, r0⟩ := ih (i + 1) x (by omega) (by omega)
      obtain ⟨v1, r1⟩ := ih (i + 1) (x + 1) (by omega) (by omega)
      by_cases a : fG 8 20 6 S (nI i) 2 = nI p
      · by_cases b : p_X12_isUnder T (T.2 55 (6 * i + 390)) 1 = 0
        · refine ⟨v0, fun k => ?_⟩
          rw [l_X0_weightOf_43]
          simp only [nI_lt c (show K 3 < 2 ^ 31 by omega), a, kk, fb_s, b, nI_1, ↓reduceIte]; exact r0 k
        · refine ⟨v1, fun k => ?_⟩
          rw [l_X0_weightOf_43]
          simp only [nI_lt c (show K 3 < 2 ^ 31 by omega), a, kk, fb_s, b, nI_1, ↓reduceIte]; exact r1 k
      · refine ⟨v0, fun k => ?_⟩
        rw [l_X0_weightOf_43]
        simp only [nI_lt c (show K 3 < 2 ^ 31 by omega), a, nI_1, ↓reduceIte]; exact r0 k
    · obtain rfl : i = K 3 := by omega
      refine ⟨x, fun k => ?_⟩
      rw [l_X0_weightOf_43, if_neg (nI_nlt (Nat.le_refl _) (by omega))]
theorem RelR.wtC (h : RelR K S (T.2 55)) {p : Nat} {lw : Int32} (hp : p < K 2) (hl : lw = -1 ∨ ∃ l : Nat, l < K 4 ∧ lw = nI l) : ∃ (v : Int32) (S' : FS), EC S S' ∧ f_X0_weightOf S (nI p) lw = some (v, S') := by
  have c4 := (h.ct 10 4 12 (by decide)).2.2
  have c3 := (h.ct 8 3 20 (by decide))
  have jn : ∀ S1 : FS, EC S S1 → ∃ v : Int32, j_X0_weightOf_26 (nI p) S1 = some (v, S1) := fun S1 e => by
    have h1 : RelR K S1 (T.2 55) := h.ce e.ce
    obtain ⟨v, r⟩ := wt_l (p := p) h1 FU 0 1 (Nat.zero_le _) (FU_lt (by omega))
    refine ⟨v, ?_⟩
    unfold j_X0_weightOf_26
    rw [fv_s, (h1.ct 8 3 20 (by decide)).1]; exact r _
  unfold f_X0_weightOf
  rcases hl with rfl | ⟨l, hl, rfl⟩
  · rw [if_pos (by decide)]
    obtain ⟨v, r⟩ := jn S EC.rf
    exact ⟨v, S, EC.rf, r⟩
  · rw [if_neg (nI_pos (by omega))]
    obtain ⟨v, x, S', T', r1, r2, r3, r4, -⟩ := h.comes (zb := nI p) (zc := -1) (zd := S.1 102) hl (Or.inr ⟨p, hp, rfl⟩) (Or.inl rfl)
    rw [r1, fb_s]
    by_cases z : v = 0
    · rw [if_pos z]; exact ⟨0, S', r3, rfl⟩
    · rw [if_neg z]
      obtain ⟨y, r⟩ := jn S' r3
      exact ⟨y, S', r3, r⟩
theorem pf_l {p : Nat} {x : Int32} (c7 : K 7 ≤ 30) : ∀ (m i : Nat), i ≤ K 7 → K 7 - i < m → ∃ v : Int32, l_X0_isPromisedFor_11 (nI p) x S (nI (K 7)) (fun x8_4 => some 0) m (nI i) = some v := by
  intro m
  induction m with
  | zero => intro i _ hm; exact absurd hm (Nat.not_lt_zero _)
  | succ m ih =>
    intro i hi hm
    rw [l_X0_isPromisedFor_11]
    by_cases c : i < K 7
    · rw [if_pos (nI_lt c (by omega)), nI_1]
      have r := ih (i + 1) (by omega) (by omega)
      split
      · split
        · split
          · split
            · exact r
            · exact ⟨1, rfl⟩
          · exact r
        · exact r
      · exact r
    · obtain rfl : i = K 7 := by omega
      rw [if_neg (nI_nlt (Nat.le_refl _) (by omega))]; exact ⟨0, rfl⟩
theorem RelR.oneC (h : RelR K S (T.2 55)) {p u : Nat} {x y : Int32} (hp : p < K 2) (hu : u ≤ 9) (eu : S.1 34 = nI u) : ∃ (S' : FS), EW S S' ∧ f_X0_weighOne S (nI p) x y = some (0, S') ∧ ∃ u' : Nat, u' ≤ 9 ∧ S'.1 34 = nI u' := by
  have c2 := (h.ct 6 2 20 (by decide)).2.2
  obtain ⟨k1, k2, c7⟩ := h.ct 18 7 30 (by decide)
  unfold f_X0_weighOne
  rw [fl_s, fl_s, s32_0 (show p < 20 by omega)]
  have e0 : EW S (wI (wA S 33 p y) 108 ((wA S 33 p y).1 108 + y)) := (EW.wA (Or.inl rfl)).tr (EW.wI (by omega))
  generalize hS2 : wI (wA S 33 p y) 108 ((wA S 33 p y).1 108 + y) = S2 at e0
  have e34 : S2.1 34 = nI u := by rw [← hS2]; exact eu
  have e18 : S2.1 18 = nI (K 7) := by rw [e0.1 18 (by decide) (by decide) (by decide) (by decide) (by decide) (by decide)]; exact k1
  obtain ⟨v, r⟩ := pf_l (K := K) (S := S2) (p := p) (x := x) c7 FU 0 (Nat.zero_le _) (FU_lt (by omega))
  have pf : q_X0_isPromisedFor S2 (nI p) x = some v := by
    unfold q_X0_isPromisedFor; rw [fv_s, e18]; exact r
  rw [pf, fb_s]
  by_cases z : v = 0
  · rw [if_pos z]
    unfold fApp
    rw [e34, iN_nI (by decide) hu, fb_s]
    by_cases y : u = 9
    · rw [if_pos y, fb_s]; exact ⟨S2, e0, rfl, u, hu, e34⟩
    · rw [if_neg y, fb_s]
      refine ⟨_, e0.tr ⟨fun k h1 _ _ _ _ _ => ui_ne h1, fun a _ _ h3 => ua_ne h3⟩, rfl, u + 1, by omega, (ui_eq : ui S2.1 34 (nI (u + 1)) 34 = nI (u + 1))⟩
  · rw [if_neg z, fl_s]
    exact ⟨_, e0.tr (EW.wI (by omega)), rfl, u, hu, e34⟩
theorem weiC_l {x lw : Int32} (hl : lw = -1 ∨ ∃ l : Nat, l < K 4 ∧ lw = nI l) : ∀ (m i u : Nat) (S : FS), i ≤ K 2 → K 2 - i < m → RelR K S (T.2 55) → u ≤ 9 → S.1 34 = nI u → ∃ S' : FS, EW S S' ∧ (∃ u' : Nat, u' ≤ 9 ∧ S'.1 34 = nI u') ∧ ∀ k, l_X0_weigh_36 x lw (nI (K 2)) k m S (nI i) = k S' (nI (K 2)) := by
  intro m
  induction m with
  | zero => intro i u S _ hm; exact absurd hm (Nat.not_lt_zero _)
  | succ m ih =>
    intro i u S hi hm h hu eu
    have c2 := (h.ct 6 2 20 (by decide)).2.2
    by_cases c : i < K 2
    · have lt := nI_lt c (show K 2 < 2 ^ 31 by omega)
      by_cases a : fG 6 20 14 S (nI i) 13 = 0
      · obtain ⟨S', r1, r2, r3⟩ := ih (i + 1) u S (by omega) (by omega) h hu eu
        refine ⟨S', r1, r2, fun k => ?_⟩
        rw [l_X0_weigh_36]
        simp only [lt, a, nI_1, ↓reduceIte]; exact r3 k
      · obtain ⟨v, S1, a1, a2⟩ := h.wtC c hl
        have h1 : RelR K S1 (T.2 55) := h.ce a1.ce
        obtain ⟨S2, b1, b2, u', b3, b4⟩ := h1.oneC (x := x) (y := v) c hu (by rw [a1.1 34 (by decide)]; exact eu)
        obtain ⟨S', r1, r2, r3⟩ := ih (i + 1) u' S2 (by omega) (by omega) (h1.ce b1.ce) b3 b4
        refine ⟨S', ((EW.ec a1).tr b1).tr r1, r2, fun k => ?_⟩
        rw [l_X0_weigh_36]
        simp only [lt, a, a2, b2, fb_s, nI_1, ↓reduceIte]; exact r3 k
    · obtain rfl : i = K 2 := by omega
      refine ⟨S, EW.rf, ⟨u, hu, eu⟩, fun k => ?_⟩
      rw [l_X0_weigh_36, if_neg (nI_nlt (Nat.le_refl _) (by omega))]
theorem rif_l (h : RelR K S (T.2 55)) : ∀ (m i : Nat), i ≤ K 2 → K 2 - i < m → ∃ lw : Int32, l_X0_ruleInForce_13 S (nI (K 2)) (fun x7_2 => some (-1)) m (nI i) = some lw ∧ (lw = -1 ∨ ∃ l : Nat, l < K 4 ∧ lw = nI l) := by
  have c2 := (h.ct 6 2 20 (by decide)).2.2
  intro m
  induction m with
  | zero => intro i _ hm; exact absurd hm (Nat.not_lt_zero _)
  | succ m ih =>
    intro i hi hm
    rw [l_X0_ruleInForce_13]
    by_cases c : i < K 2
    · rw [if_pos (nI_lt c (by omega))]
      by_cases a : fG 6 20 14 S (nI i) 13 = 0
      · rw [if_pos a, nI_1]; exact ih (i + 1) (by omega) (by omega)
      · rw [if_neg a, (h.inF 0 (S.1 102) (p_X7_knownTo S (nI i))).1, fb_s]
        exact ⟨_, rfl, lg_c (K 4)⟩
    · obtain rfl : i = K 2 := by omega
      rw [if_neg (nI_nlt (Nat.le_refl _) (by omega))]; exact ⟨-1, rfl, Or.inl rfl⟩
theorem RelR.weiC (h : RelR K S (T.2 55)) (x : Int32) : ∃ S' : FS, EW S S' ∧ f_X0_weigh S x = some (0, S') ∧ ∃ u' : Nat, u' ≤ 9 ∧ S'.1 34 = nI u' := by
  have c2 := (h.ct 6 2 20 (by decide)).2.2
  unfold f_X0_weigh
  rw [fl_s, fl_s, fl_s]
  have e0 : EW S (wI (wI (wI S 107 0) 108 0) 34 0) := ((EW.wI (by omega)).tr (EW.wI (by omega))).tr (EW.wI (by omega))
  generalize hS3 : wI (wI (wI S 107 0) 108 0) 34 0 = S3 at e0
  have h3 : RelR K S3 (T.2 55) := h.ce e0.ce
  have e34 : S3.1 34 = nI 0 := by rw [← hS3]; exact wI_e
  obtain ⟨lw, r1, r2⟩ := rif_l h3 FU 0 (Nat.zero_le _) (FU_lt (by omega))
  have k1 := (h3.ct 6 2 20 (by decide)).1
  have ri : q_X0_ruleInForce S3 = some lw := by
    unfold q_X0_ruleInForce; rw [fv_s, k1]; exact r1
  obtain ⟨S', a1, a2, a3⟩ := weiC_l (T := T) (x := x) r2 FU 0 0 S3 (Nat.zero_le _) (FU_lt (by omega)) h3 (by omega) e34
  refine ⟨S', e0.tr a1, ?_, a2⟩
  rw [ri, fb_s, fv_s, k1]; exact a3 _
/-! the model -/
def EV (T T' : FS) : Prop := T'.1 = T.1 ∧ ∀ a : Nat, a ≠ 58 → a ≠ 59 → a ≠ 62 → a ≠ 63 → a ≠ 64 → a ≠ 65 → T'.2 a = T.2 a
theorem EV.rf : EV T T := ⟨rfl, fun _ _ _ _ _ _ _ => rfl⟩
theorem EV.tr {A B C : FS} (h : EV A B) (g : EV B C) : EV A C := ⟨g.1.trans h.1, fun a h1 h2 h3 h4 h5 h6 => (g.2 a h1 h2 h3 h4 h5 h6).trans (h.2 a h1 h2 h3 h4 h5 h6)⟩
theorem EV.em {A B : FS} (h : EM A B) : EV A B := ⟨h.1, fun a _ h2 h3 h4 _ _ => h.2 a h2 h3 h4⟩
theorem EV.wA {a j : Nat} {v : Int32} (h : a = 64 ∨ a = 65) : EV T (wA T a j v) := ⟨rfl, fun b _ _ _ _ h5 h6 => wA_n (by omega)⟩
theorem EV.me {A B : FS} (h : EV A B) : ME A B := ⟨⟨⟨h.2 _ (by decide) (by decide) (by decide) (by decide) (by decide) (by decide), h.2 _ (by decide) (by decide) (by decide) (by decide) (by decide) (by decide), h.2 _ (by decide) (by decide) (by decide) (by decide) (by decide) (by decide), h.2 _ (by decide) (by decide) (by decide) (by decide) (by decide) (by decide), h.2 _ (by decide) (by decide) (by decide) (by decide) (by decide) (by decide)⟩, by rw [h.1], by rw [h.1]⟩, h.2 _ (by decide) (by decide) (by decide) (by decide) (by decide) (by decide)⟩
theorem lst_l (h : RelR K S (T.2 55)) : ∀ (m i : Nat) (x : Int32), i ≤ K 2 → i < m → vP (K 2) x → ∃ v : Int32, vP (K 2) v ∧ ∀ k, l_X12_weigh_11 k m T x (nI i - 1) = k T v (-1) := by
  have c2 := (h.ct 6 2 20 (by decide)).2.2
  intro m
  induction m with
  | zero => intro i x _ hm; exact absurd hm (Nat.not_lt_zero _)
  | succ m ih =>
    intro i x hi hm hx
    cases i with
    | zero =>
      refine ⟨x, hx, fun k => ?_⟩
      rw [l_X12_weigh_11, if_pos (by decide)]; rfl
    | succ j =>
      have j20 : j < 20 := by omega
      by_cases a : T.2 55 (14 * j + 121) = 1
      · obtain ⟨v, r1, r2⟩ := ih j (nI j) (by omega) (by omega) (Or.inr ⟨j, by omega, rfl⟩)
        refine ⟨v, r1, fun k => ?_⟩
        rw [l_X12_weigh_11, nI_pred, if_neg (nI_pos (by omega)), man_11 j20, fb_s, if_pos a, ← Int32.sub_eq_add_neg]; exact r2 k
      · obtain ⟨v, r1, r2⟩ := ih j x (by omega) (by omega) hx
        refine ⟨v, r1, fun k => ?_⟩
        rw [l_X12_weigh_11, nI_pred, if_neg (nI_pos (by omega)), man_11 j20, fb_s, if_neg a, ← Int32.sub_eq_add_neg]; exact r2 k
theorem wtM_l (h : RelR K S (T.2 55)) {p : Nat} : ∀ (m i : Nat) (x : Int32), i ≤ K 3 → K 3 - i < m → ∃ v : Int32, ∀ k, l_X12_weigh_84 (nI p) k m T x (nI i) = k T v (nI (K 3)) := by
  obtain ⟨k1, k2, c3⟩ := h.ct 8 3 20 (by decide)
  intro m
  induction m with
  | zero => intro i x _ hm; exact absurd hm (Nat.not_lt_zero _)
  | succ m ih =>
    intro i x hi hm
    by_cases c : i < K 3
    · have i20 : i < 20 := by omega
      have lt := nI_lt c (show K 3 < 2 ^ 31 by omega)
      obtain ⟨v0, r0⟩ := ih (i + 1) (x + 0) (by omega) (by omega)
      obtain ⟨v1, r1⟩ := ih (i + 1) (x + 1) (by omega) (by omega)
      by_cases a : T.2 55 (6 * i + 391) = nI p
      · by_cases b : p_X12_isUnder T (T.2 55 (6 * i + 390)) 1 = 0
        · refine ⟨v0, fun k => ?_⟩
          rw [l_X12_weigh_84]
          simp only [k2, lt, its_1 i20, its_0 i20, fb_s, fv_s, a, b, nI_1, ↓reduceIte]; exact r0 k
        · refine ⟨v1, fun k => ?_⟩
          rw [l_X12_weigh_84]
          simp only [k2, lt, its_1 i20, its_0 i20, fb_s, fv_s, a, b, nI_1, ↓reduceIte]; exact r1 k
      · refine ⟨v0, fun k => ?_⟩
        rw [l_X12_weigh_84]
        simp only [k2, lt, its_1 i20, fb_s, fv_s, a, nI_1, ↓reduceIte]; exact r0 k
    · obtain rfl : i = K 3 := by omega
      refine ⟨x, fun k => ?_⟩
      rw [l_X12_weigh_84, k2, if_neg (nI_nlt (Nat.le_refl _) (by omega))]
theorem weiM_l {lw : Int32} (hl : lw = -1 ∨ ∃ l : Nat, l < K 4 ∧ lw = nI l) : ∀ (m i : Nat) (T : FS), i ≤ K 2 → K 2 - i < m → RelR K S (T.2 55) → ∃ T' : FS, EV T T' ∧ ∀ k, l_X12_weigh_67 lw k m T (nI i) = k T' (nI (K 2)) := by
  intro m
  induction m with
  | zero => intro i T _ hm; exact absurd hm (Nat.not_lt_zero _)
  | succ m ih =>
    intro i T hi hm h
    obtain ⟨k1, k2, c2⟩ := h.ct 6 2 20 (by decide)
    have c3 := (h.ct 8 3 20 (by decide)).2.2
    have c4 := (h.ct 10 4 12 (by decide)).2.2
    by_cases c : i < K 2
    · have i20 : i < 20 := by omega
      have lt := nI_lt c (show K 2 < 2 ^ 31 by omega)
      obtain ⟨x, rx⟩ := wtM_l (p := i) h FU 0 1 (Nat.zero_le _) (FU_lt (by omega))
      have rx' : ∀ k, l_X12_weigh_84 (nI i) k FU T 1 0 = k T x (nI (K 3)) := rx
      have j20 := ix_nI i20 (show 20 ≤ 2 ^ 31 by decide)
      have nx : ∀ (T1 : FS) (y : Int32), EV T T1 → ∃ T' : FS, EV T T' ∧ ∀ k, l_X12_weigh_67 lw k m (wA (wA T1 64 i y) 65 i 0) (nI (i + 1)) = k T' (nI (K 2)) := by
        intro T1 y e
        have e2 : EV T (wA (wA T1 64 i y) 65 i 0) := (e.tr (EV.wA (Or.inl rfl))).tr (EV.wA (Or.inr rfl))
        obtain ⟨T', r1, r2⟩ := ih (i + 1) (wA (wA T1 64 i y) 65 i 0) (by omega) (by omega) (by rw [e2.me.2]; exact h)
        exact ⟨T', e2.tr r1, r2⟩
      by_cases a : T.2 55 (14 * i + 121) = 0
      · obtain ⟨T', r1, r2⟩ := nx T 0 EV.rf
        refine ⟨T', r1, fun k => ?_⟩
        rw [l_X12_weigh_67, k2, if_pos lt, rx']
        simp only [man_11 i20, fb_s, a, j20, fl_s, nI_1, ↓reduceIte]; exact r2 k
      · have cm : ∃ (v : Int32) (T1 : FS), EV T T1 ∧ f_X12_comesTo T lw (nI i) (-1) (T.2 55 8) = some (v, T1) := by
          rcases hl with rfl | ⟨l, hl, rfl⟩
          · refine ⟨1, T, EV.rf, ?_⟩
            unfold f_X12_comesTo; rw [if_pos (by decide)]
          · obtain ⟨v, w, S', T1, r1, r2, r3, r4, -⟩ := h.comes (zb := nI i) (zc := -1) (zd := T.2 55 8) hl (Or.inr ⟨i, c, rfl⟩) (Or.inl rfl)
            exact ⟨w, T1, EV.em r4, r2⟩
        obtain ⟨v, T1, v1, v2⟩ := cm
        by_cases z : v = 0
        · obtain ⟨T', r1, r2⟩ := nx T1 0 v1
          refine ⟨T', r1, fun k => ?_⟩
          rw [l_X12_weigh_67, k2, if_pos lt, rx']
          simp only [man_11 i20, fb_s, a, v2, z, j20, fl_s, nI_1, ↓reduceIte]; exact r2 k
        · obtain ⟨T', r1, r2⟩ := nx T1 x v1
          refine ⟨T', r1, fun k => ?_⟩
          rw [l_X12_weigh_67, k2, if_pos lt, rx']
          simp only [man_11 i20, fb_s, a, v2, z, j20, fl_s, nI_1, ↓reduceIte]; exact r2 k
    · obtain rfl : i = K 2 := by omega
      refine ⟨T, EV.rf, fun k => ?_⟩
      rw [l_X12_weigh_67, k2, if_neg (nI_nlt (Nat.le_refl _) (by omega))]
theorem sgn_l {x : Int32} : ∀ (m i : Nat) (T : FS), i ≤ K 7 → K 7 - i < m → RelR K S (T.2 55) → ∃ T' : FS, EV T T' ∧ ∀ k, l_X12_weigh_196 x k m T (nI i) = k T' (nI (K 7)) := by
  intro m
  induction m with
  | zero => intro i T _ hm; exact absurd hm (Nat.not_lt_zero _)
  | succ m ih =>
    intro i T hi hm h
    obtain ⟨k1, k2, c7⟩ := h.ct 18 7 30 (by decide)
    have c2 := (h.ct 6 2 20 (by decide)).2.2
    by_cases c : i < K 7
    · have lt := nI_lt c (show K 7 < 2 ^ 31 by omega)
      obtain ⟨i30, hs⟩ := h.stn c
      obtain ⟨p, hp, ep⟩ := (h.pr i c).2.2.2.1
      have nx : ∀ y : Int32, ∃ T' : FS, EV T T' ∧ ∀ k, l_X12_weigh_196 x k m (wA T 65 p y) (nI (i + 1)) = k T' (nI (K 7)) := fun y => by
        have e2 : EV T (wA T 65 p y) := EV.wA (Or.inr rfl)
        obtain ⟨T', r1, r2⟩ := ih (i + 1) (wA T 65 p y) (by omega) (by omega) (by rw [e2.me.2]; exact h)
        exact ⟨T', e2.tr r1, r2⟩
      obtain ⟨T0, s1, s2⟩ := ih (i + 1) T (by omega) (by omega) h
      by_cases a : T.2 55 (6 * i + 1807) = x
      · rcases hs with ⟨-, q2, -⟩ | ⟨-, q2, -⟩
        · by_cases b : T.2 55 (6 * i + 1809) = 1
          · obtain ⟨T', r1, r2⟩ := nx 1
            refine ⟨T', r1, fun k => ?_⟩
            rw [l_X12_weigh_196]
            simp only [k2, lt, promised_1 i30, promised_0 i30, promised_3 i30, fb_s, a, q2, i10, ep, b, ix_nI (show p < 20 by omega) (show 20 ≤ 2 ^ 31 by decide), fl_s, nI_1, ↓reduceIte]; exact r2 k
          · obtain ⟨T', r1, r2⟩ := nx (-1)
            refine ⟨T', r1, fun k => ?_⟩
            rw [l_X12_weigh_196]
            simp only [k2, lt, promised_1 i30, promised_0 i30, promised_3 i30, fb_s, a, q2, i10, ep, b, ix_nI (show p < 20 by omega) (show 20 ≤ 2 ^ 31 by decide), fl_s, nI_1, ↓reduceIte]; exact r2 k
        · refine ⟨T0, s1, fun k => ?_⟩
          rw [l_X12_weigh_196]
          simp only [k2, lt, promised_1 i30, fb_s, a, q2, nI_1, ↓reduceIte]; exact s2 k
      · refine ⟨T0, s1, fun k => ?_⟩
        rw [l_X12_weigh_196]
        simp only [k2, lt, promised_1 i30, fb_s, a, nI_1, ↓reduceIte]; exact s2 k
    · obtain rfl : i = K 7 := by omega
      refine ⟨T, EV.rf, fun k => ?_⟩
      rw [l_X12_weigh_196, k2, if_neg (nI_nlt (Nat.le_refl _) (by omega))]
theorem RelR.weiM (h : RelR K S (T.2 55)) (x : Int32) : ∃ T' : FS, EV T T' ∧ f_X12_weigh T x = some (0, T') := by
  obtain ⟨k1, k2, c2⟩ := h.ct 6 2 20 (by decide)
  have c7 := (h.ct 18 7 30 (by decide)).2.2
  unfold f_X12_weigh
  rw [fv_s, k2]
  obtain ⟨v, v1, v2⟩ := lst_l h FU (K 2) (-1) (Nat.le_refl _) (FU_lt (by omega)) (Or.inl rfl)
  rw [v2]
  have go : ∀ (T1 : FS) (lw : Int32), EV T T1 → (lw = -1 ∨ ∃ l : Nat, l < K 4 ∧ lw = nI l) → ∃ T' : FS, EV T T' ∧ j_X12_weigh_64 x T1 lw = some (0, T') := by
    intro T1 lw e hl
    have h1 : RelR K S (T1.2 55) := by rw [e.me.2]; exact h
    obtain ⟨T2, a1, a2⟩ := weiM_l (S := S) hl FU 0 T1 (Nat.zero_le _) (FU_lt (by omega)) h1
    obtain ⟨T3, b1, b2⟩ := sgn_l (K := K) (S := S) (x := x) FU 0 T2 (Nat.zero_le _) (FU_lt (by omega)) (by rw [a1.me.2]; exact h1)
    refine ⟨T3, (e.tr a1).tr b1, ?_⟩
    unfold j_X12_weigh_64
    rw [show ∀ k, l_X12_weigh_67 lw k FU T1 0 = k T2 (nI (K 2)) from a2]
    exact b2 _
  rcases v1 with rfl | ⟨p, hp, rfl⟩
  · rw [if_pos (by decide)]; exact go T (-1) EV.rf (Or.inl rfl)
  · rw [if_neg (nI_pos (by omega))]
    obtain ⟨T1, e1, e2⟩ := h.knw hp
    have en := e1.2 55 (by decide)
    rw [e2, fb_s]
    have h1 : RelR K S (T1.2 55) := by rw [en]; exact h
    show ∃ T' : FS, EV T T' ∧ fb (q_X12_inForce T1 0 (T.2 55 8) (p_X7_knownTo S (nI p))) _ = _
    rw [(h1.inF 0 (T.2 55 8) (p_X7_knownTo S (nI p))).2, fb_s]
    exact go T1 _ ⟨e1.1, fun a h1 _ _ _ _ _ => e1.2 a h1⟩ (lg_c (K 4))
theorem wof_l (h : RelR K S (T.2 55)) {x : Int32} : ∀ (m i : Nat) (y : Int32), i ≤ K 2 → K 2 - i < m → ∃ v : Int32, l_X12_weightOf_4 x T (fun a b => some a) m y (nI i) = some v := by
  obtain ⟨k1, k2, c2⟩ := h.ct 6 2 20 (by decide)
  intro m
  induction m with
  | zero => intro i y _ hm; exact absurd hm (Nat.not_lt_zero _)
  | succ m ih =>
    intro i y hi hm
    rw [l_X12_weightOf_4, k2]
    by_cases c : i < K 2
    · rw [if_pos (nI_lt c (by omega)), ix_nI (show i < 20 by omega) (by decide), nI_1]
      simp only [fb_s, fv_s]
      split
      · split
        · exact ih (i + 1) _ (by omega) (by omega)
        · exact ih (i + 1) _ (by omega) (by omega)
      · exact ih (i + 1) _ (by omega) (by omega)
    · obtain rfl : i = K 2 := by omega
      rw [if_neg (nI_nlt (Nat.le_refl _) (by omega))]; exact ⟨y, rfl⟩
theorem RelR.wof (h : RelR K S (T.2 55)) (x : Int32) : ∃ v : Int32, q_X12_weightOf T x = some v := by
  have c2 := (h.ct 6 2 20 (by decide)).2.2
  obtain ⟨v, r⟩ := wof_l h (x := x) FU 0 0 (Nat.zero_le _) (FU_lt (by omega))
  exact ⟨v, r⟩
theorem fbk_l (h : RelR K S (T.2 55)) {x : Int32} : ∀ (m i : Nat), i ≤ K 7 → K 7 - i < m → ∃ v : Int32, l_X0_firstBroken_10 x S (nI (K 7)) (fun x7_3 => some (-1)) m (nI i) = some v ∧ l_X12_cause_31 x (fun S26 x26_3 => some ((-1), S26)) m T (nI i) = some (v, T) := by
  obtain ⟨k1, k2, c7⟩ := h.ct 18 7 30 (by decide)
  intro m
  induction m with
  | zero => intro i _ hm; exact absurd hm (Nat.not_lt_zero _)
  | succ m ih =>
    intro i hi hm
    rw [l_X0_firstBroken_10, l_X12_cause_31, k2]
    by_cases c : i < K 7
    · have lt := nI_lt c (show K 7 < 2 ^ 31 by omega)
      have i30 : i < 30 := by omega
      obtain ⟨⟨e0, e1, e2, e3⟩, f1, -⟩ := h.pr i c
      have r := ih (i + 1) (by omega) (by omega)
      simp only [lt, g18_4 i30, g18_1 i30, g18_3 i30, e1, e3, promised_1 i30, promised_3 i30, promised_4 i30, fb_s, nI_1, ↓reduceIte]
      by_cases a1 : T.2 55 (6 * i + 1807) = x
      · by_cases a2 : T.2 55 (6 * i + 1809) = 1
        · by_cases a3 : T.2 55 (6 * i + 1810) = 1
          · simp only [a1, a2, a3, f1.mpr a3, ↓reduceIte]; exact ⟨_, rfl, rfl⟩
          · simp only [a1, a2, a3, show ¬ S.2 19 (5 * i + 4) = 2 from fun q => a3 (f1.mp q), ↓reduceIte]; exact r
        · simp only [a1, a2, ite_self, ↓reduceIte]; exact r
      · simp only [a1, ite_self, ↓reduceIte]; exact r
    · obtain rfl : i = K 7 := by omega
      rw [if_neg (nI_nlt (Nat.le_refl _) (by omega)), if_neg (nI_nlt (Nat.le_refl _) (by omega))]; exact ⟨_, rfl, rfl⟩
theorem op_cause (h : RelR K S (T.2 55)) : OK1 S T (f_X11_cause S za zb) (f_X12_cause T za zb) := by
  unfold f_X11_cause f_X12_cause
  simp only [fb_id]
  obtain ⟨k1, k2, c7⟩ := h.ct 18 7 30 (by decide)
  rcases out_c za 0 5 with ⟨a1, a2⟩ | ⟨a1, a2⟩
  · rcases out_c zb 0 3 with ⟨b1, b2⟩ | ⟨b1, b2⟩
    · simp only [a1, a2, b1, b2, i10, ↓reduceIte]
      by_cases z : zb = 3
      · simp only [z, ↓reduceIte]
        obtain ⟨v, r1, r2⟩ := fbk_l h (x := za) FU 0 (Nat.zero_le _) (FU_lt (by omega))
        have fb' : q_X0_firstBroken S za = some v := by unfold q_X0_firstBroken; rw [fv_s, k1]; exact r1
        rw [fb', fb_s, show l_X12_cause_31 za (fun S26 x26_3 => some ((-1), S26)) FU T 0 = some (v, T) from r2]
        exact (ok0 h CX.rf MX.rf).one
      · simp only [z, ↓reduceIte]
        obtain ⟨S', c1, c2, -⟩ := h.weiC za
        obtain ⟨T', d1, d2⟩ := h.weiM za
        have h1 : RelR K S' (T'.2 55) := by rw [d1.me.2]; exact h.ce c1.ce
        obtain ⟨x, x1⟩ := h1.wof 0
        obtain ⟨y, y1⟩ := h1.wof 1
        simp only [c2, d2, fb_s, x1, y1]
        have fin : ∀ v w : Int32, OK1 S T (some (v, S')) (some (w, T')) := fun v w => ⟨v, w, S', T', rfl, rfl, ⟨K, h1⟩, c1.ce.1, d1.me.1⟩
        by_cases z0 : zb = 0
        · simp only [z0, ↓reduceIte]; exact fin _ _
        · by_cases z1 : zb = 1
          · simp only [z1, i10, ↓reduceIte]; exact fin _ _
          · simp only [z0, z1, ↓reduceIte]
            split
            · split
              · exact fin _ _
              · exact fin _ _
            · split
              · exact fin _ _
              · exact fin _ _
    · simp only [a1, a2, b1, b2, i10, ↓reduceIte]; exact (ok_1 h).one
  · simp only [a1, a2, i10, ↓reduceIte]; exact (ok_1 h).one
end WEI
