/-! ===== pure: who follows ===== -/
section HEI
variable {K : Nat → Nat} {S T : FS} {za zb zc zd ze : Int32}
theorem sub_lt_b {x y : Int32} (hx : bB x) (hy : bB y) : x - y < 0 ↔ x < y := by
  have a1 : -20000 ≤ x.toInt := by have := Int32.not_lt.mp hx.1; rw [Int32.le_iff_toInt_le] at this; exact this
  have a2 : x.toInt ≤ 2000 := by have := Int32.not_lt.mp hx.2; rw [Int32.le_iff_toInt_le] at this; exact this
  have b1 : -20000 ≤ y.toInt := by have := Int32.not_lt.mp hy.1; rw [Int32.le_iff_toInt_le] at this; exact this
  have b2 : y.toInt ≤ 2000 := by have := Int32.not_lt.mp hy.2; rw [Int32.le_iff_toInt_le] at this; exact this
  have e : (x - y).toInt = x.toInt - y.toInt := by
    rw [Int32.toInt_sub]
    exact Int.bmod_eq_of_le (by omega) (by omega)
  rw [Int32.lt_iff_toInt_lt, Int32.lt_iff_toInt_lt, e]
  show x.toInt - y.toInt < 0 ↔ _
  omega
theorem sub_lt_n {a b : Nat} (ha : a < 2 ^ 30) (hb : b < 2 ^ 30) : (nI a - nI b < 0 ↔ a < b) ∧ (nI a - nI b = 0 ↔ a = b) := by
  constructor
  · rw [Int32.lt_iff_toInt_lt, pk_sub_toInt ha hb]
    show (a : Int) - b < 0 ↔ _
    omega
  · constructor
    · intro q
      have := congrArg Int32.toInt q
      rw [pk_sub_toInt ha hb] at this
      have : (a : Int) - b = 0 := this
      omega
    · rintro rfl; rw [pk_sub (Nat.le_refl _), Nat.sub_self]; rfl
/-- the row in which one goes ahead: it stands at pos -/
def HI (K : Nat → Nat) (x pos u : Nat) (S : FS) (w0 w1 : Nat → Int32) : Prop := (∀ j : Nat, j ≤ u → j ≠ pos → S.2 39 j = w0 j ∧ ∃ q : Nat, q < K 2 ∧ w0 j = nI q ∧ w1 j = S.2 7 (14 * q + 11)) ∧ S.2 39 pos = nI x
def HL (K : Nat → Nat) (u : Nat) (S : FS) (w0 w1 : Nat → Int32) : Prop := ∀ j : Nat, j < u → S.2 39 j = w0 j ∧ ∃ q : Nat, q < K 2 ∧ w0 j = nI q ∧ w1 j = S.2 7 (14 * q + 11)
theorem ahead_c (h : RelR K S (T.2 55)) {x q : Nat} (hx : x < K 2) (hq : q < K 2) : (p_X4_isAhead S (nI x) (nI q) = 1 ∧ (S.2 7 (14 * x + 11) < S.2 7 (14 * q + 11) ∨ (¬ S.2 7 (14 * x + 11) < S.2 7 (14 * q + 11) ∧ S.2 7 (14 * q + 11) = S.2 7 (14 * x + 11) ∧ T.2 55 (14 * x + 111) < T.2 55 (14 * q + 111)))) ∨ (p_X4_isAhead S (nI x) (nI q) = 0 ∧ ¬ S.2 7 (14 * x + 11) < S.2 7 (14 * q + 11) ∧ (S.2 7 (14 * q + 11) = S.2 7 (14 * x + 11) → ¬ T.2 55 (14 * x + 111) < T.2 55 (14 * q + 111))) := by
  have c2 := (h.ct 6 2 20 (by decide)).2.2
  have x20 : x < 20 := by omega
  have q20 : q < 20 := by omega
  obtain ⟨s, s1, -⟩ := h.st
  have bx := (h.pe x hx).2.2.2.2.2.2.2.2
  have bq := (h.pe q hq).2.2.2.2.2.2.2.2
  have ex := (h.pe x hx).1.2.1
  have eq := (h.pe q hq).1.2.1
  obtain ⟨sx, bsx⟩ := s1 x hx
  obtain ⟨sq, bsq⟩ := s1 q hq
  unfold p_X4_isAhead
  simp only [fv_s, g6_11 x20, g6_11 q20, g6_1 x20, g6_1 q20, ex, eq, sx, sq]
  obtain ⟨l1, l2⟩ := sub_lt_n (a := s x) (b := s q) (by omega) (by omega)
  have l3 := sub_lt_b bx bq
  by_cases a : s x < s q
  · left; rw [if_pos (l1.mpr a)]; exact ⟨rfl, Or.inl (nI_lt a (by omega))⟩
  · have a' : ¬ nI (s x) < nI (s q) := nI_nlt (by omega) (by omega)
    rw [if_neg (fun z => a (l1.mp z))]
    by_cases b : s x = s q
    · rw [if_pos (l2.mpr b)]
      by_cases c : T.2 55 (14 * x + 111) < T.2 55 (14 * q + 111)
      · left; rw [if_pos (l3.mpr c)]; exact ⟨rfl, Or.inr ⟨a', by rw [b], c⟩⟩
      · right; rw [if_neg (fun z => c (l3.mp z))]; exact ⟨rfl, a', fun _ => c⟩
    · right
      rw [if_neg (fun z => b (l2.mp z))]
      exact ⟨rfl, a', fun z => absurd (nI_inj (by omega) (by omega) z).symm b⟩
def E39 (S S' : FS) : Prop := S'.1 = S.1 ∧ ∀ a : Nat, a ≠ 39 → S'.2 a = S.2 a
theorem ins_l {x u : Nat} {r9 : Int32 × FS} (hu : u < 20) (hx : x < K 2) : ∀ (m pos : Nat) (S : FS) (w0 w1 : Nat → Int32), pos ≤ u → pos < m → RelR K S (T.2 55) → r9.1 = S.2 7 (14 * x + 11) → HI K x pos u S w0 w1 → ∃ (S' : FS) (pos' : Nat) (w0' w1' : Nat → Int32), E39 S S' ∧ pos' ≤ u ∧ HI K x pos' u S' w0' w1' ∧ (∀ k, l_X4_enqueue_11 (nI x) k m S (nI pos) = k S' (nI pos')) ∧ ∀ k, l_X12_heir_107 (nI x) r9 k m T (nI pos) w0 w1 = k T (nI pos') w0' w1' := by
  intro m
  induction m with
  | zero => intro pos S w0 w1 _ hm; exact absurd hm (Nat.not_lt_zero _)
  | succ m ih =>
    intro pos S w0 w1 hp hm h er hi
    have c2 := (h.ct 6 2 20 (by decide)).2.2
    have x20 : x < 20 := by omega
    cases pos with
    | zero =>
      refine ⟨S, 0, w0, w1, ⟨rfl, fun _ _ => rfl⟩, hp, hi, fun k => ?_, fun k => ?_⟩
      · rw [l_X4_enqueue_11, if_neg (by decide)]
      · rw [l_X12_heir_107, if_neg (by decide)]
    | succ pos =>
      have z0 : (0 : Int32) < nI (pos + 1) := nI_lt (a := 0) (by omega) (by omega)
      obtain ⟨e1, q, hq, e2, e3⟩ := hi.1 pos (by omega) (by omega)
      have q20 : q < 20 := by omega
      have g1 : fG 38 20 1 S (nI pos) 0 = nI q := by rw [g38_0 (show pos < 20 by omega), e1, e2]
      have sh : ∃ (S' : FS) (pos' : Nat) (w0' w1' : Nat → Int32), E39 S S' ∧ pos' ≤ u ∧ HI K x pos' u S' w0' w1' ∧ (∀ k, l_X4_enqueue_11 (nI x) k m (wA (wA S 39 (pos + 1) (nI q)) 39 pos (nI x)) (nI pos) = k S' (nI pos')) ∧ ∀ k, l_X12_heir_107 (nI x) r9 k m T (nI pos) (upd w0 (pos + 1) (nI q)) (upd w1 (pos + 1) (S.2 7 (14 * q + 11))) = k T (nI pos') w0' w1' := by
        obtain ⟨S', pos', w0', w1', r1, r2, r3, r4, r5⟩ := ih pos (wA (wA S 39 (pos + 1) (nI q)) 39 pos (nI x)) (upd w0 (pos + 1) (nI q)) (upd w1 (pos + 1) (S.2 7 (14 * q + 11))) (by omega) (by omega) (h.cs (fun _ _ => rfl) (fun a ha => by rw [wA_n (fun q => by subst q; revert ha; decide), wA_n (fun q => by subst q; revert ha; decide)])) (by rw [wA_n (by decide), wA_n (by decide)]; exact er) ⟨fun j h1 h2 => by
          rw [wA_e, wA_e, pk_un h2, wA_n (show (7 : Nat) ≠ 39 by decide), wA_n (show (7 : Nat) ≠ 39 by decide)]
          by_cases z : j = pos + 1
          · subst z; rw [pk_us, pk_us, pk_us]; exact ⟨rfl, q, hq, rfl, rfl⟩
          · rw [pk_un z, pk_un z, pk_un z]; exact hi.1 j h1 z, by rw [wA_e, pk_us]⟩
        exact ⟨S', pos', w0', w1', ⟨r1.1, fun a ha => (r1.2 a ha).trans (by rw [wA_n ha, wA_n ha])⟩, r2, r3, r4, r5⟩
      have j1 : ix 20 (nI (pos + 1) - 1) = some pos := by rw [nI_pred]; exact ix_nI (by omega) (by decide)
      have j2 : ix 20 (nI (pos + 1)) = some (pos + 1) := ix_nI (by omega) (by decide)
      rcases ahead_c h hx hq with ⟨a1, a2⟩ | ⟨a1, a2, a3⟩
      · obtain ⟨S', pos', w0', w1', r1, r2, r3, r4, r5⟩ := sh
        refine ⟨S', pos', w0', w1', r1, r2, r3, fun k => ?_, fun k => ?_⟩
        · rw [l_X4_enqueue_11]
          simp only [z0, nI_pred, g1, a1, i10, s38_0 (show pos + 1 < 20 by omega), s38_0 (show pos < 20 by omega), fl_s, pk_m1, ↓reduceIte]; exact r4 k
        · rw [l_X12_heir_107]
          rcases a2 with b | ⟨b1, b2, b3⟩
          · simp only [z0, j1, j2, fb_s, e2, e3, er, b, fw_s, pk_m1, ↓reduceIte]; exact r5 k
          · rw [b2] at b1 r5
            simp only [z0, j1, j2, fb_s, e2, e3, er, b1, b2, man_1 q20, man_1 x20, b3, fw_s, pk_m1, ↓reduceIte]; exact r5 k
      · refine ⟨S, pos + 1, w0, w1, ⟨rfl, fun _ _ => rfl⟩, hp, hi, fun k => ?_, fun k => ?_⟩
        · rw [l_X4_enqueue_11]
          simp only [z0, nI_pred, g1, a1, ↓reduceIte]
        · rw [l_X12_heir_107]
          by_cases b : S.2 7 (14 * q + 11) = S.2 7 (14 * x + 11)
          · have a4 := a3 b
            rw [b] at a2
            simp only [z0, j1, fb_s, e2, e3, er, a2, b, man_1 q20, man_1 x20, a4, ↓reduceIte]
          · simp only [z0, j1, fb_s, e2, e3, er, a2, b, ↓reduceIte]
theorem heir_l : ∀ (d i u : Nat) (S T : FS) (w0 w1 : Nat → Int32) (m m' : Nat), i + d = K 2 → 1 ≤ i → d < m → d < m' → u < i → RelR K S (T.2 55) → S.1 38 = nI u → HL K u S w0 w1 → ∃ (S' T' : FS) (u' : Nat) (w0' w1' : Nat → Int32), CE S S' ∧ ME T T' ∧ u' < 20 ∧ S'.1 38 = nI u' ∧ HL K u' S' w0' w1' ∧ (∀ k, l_X4_follower_20 (nI (K 2)) k m S (nI i) = k S' (nI (K 2))) ∧ ∀ k, l_X12_heir_47 (lg (T.2 55) 2 (nI (K 8)) (nI (K 8)) (K 4)) k m' T (nI u) (nI i) w0 w1 = k T' (nI u') (nI (K 2)) w0' w1' := by
  intro d
  induction d with
  | zero =>
    intro i u S T w0 w1 m m' hd hi hm hm' hu h e8 hl
    obtain ⟨k1, k2, c2⟩ := h.ct 6 2 20 (by decide)
    obtain rfl : i = K 2 := by omega
    cases m with
    | zero => exact absurd hm (Nat.not_lt_zero _)
    | succ m =>
      cases m' with
      | zero => exact absurd hm' (Nat.not_lt_zero _)
      | succ m' =>
        refine ⟨S, T, u, w0, w1, CE.rf, ME.rf, by omega, e8, hl, fun k => ?_, fun k => ?_⟩
        · rw [l_X4_follower_20, if_neg (nI_nlt (Nat.le_refl _) (by omega))]
        · rw [l_X12_heir_47, k2, if_neg (nI_nlt (Nat.le_refl _) (by omega))]
  | succ d ih =>
    intro i u S T w0 w1 m m' hd hi hm hm' hu h e8 hl
    obtain ⟨k1, k2, c2⟩ := h.ct 6 2 20 (by decide)
    obtain ⟨d1, d2, d3⟩ := h.ct 102 8 2000 (by decide)
    have ci : i < K 2 := by omega
    have i20 : i < 20 := by omega
    have lt := nI_lt ci (show K 2 < 2 ^ 31 by omega)
    have n0 : ¬ nI i = 0 := nI_ne0 (by omega) (by omega)
    cases m with
    | zero => exact absurd hm (Nat.not_lt_zero _)
    | succ m =>
      cases m' with
      | zero => exact absurd hm' (Nat.not_lt_zero _)
      | succ m' =>
        obtain ⟨T1, t1, t2⟩ := h.steps ci
        have tn : T1.2 55 = T.2 55 := t1.2 55 (by decide)
        have h1 : RelR K S (T1.2 55) := by rw [tn]; exact h
        have skip : ∀ (S1 T2 : FS), CE S S1 → ME T T2 → S1.1 38 = S.1 38 → S1.2 39 = S.2 39 → ∃ (S' T' : FS) (u' : Nat) (w0' w1' : Nat → Int32), CE S S' ∧ ME T T' ∧ u' < 20 ∧ S'.1 38 = nI u' ∧ HL K u' S' w0' w1' ∧ (∀ k, l_X4_follower_20 (nI (K 2)) k m S1 (nI (i + 1)) = k S' (nI (K 2))) ∧ ∀ k, l_X12_heir_47 (lg (T.2 55) 2 (nI (K 8)) (nI (K 8)) (K 4)) k m' T2 (nI u) (nI (i + 1)) w0 w1 = k T' (nI u') (nI (K 2)) w0' w1' := by
          intro S1 T2 c1 c3 e38 e39
          obtain ⟨S', T', u', w0', w1', r1, r2, r3, r4, r5, r6, r7⟩ := ih (i + 1) u S1 T2 w0 w1 m m' (by omega) (by omega) (by omega) (by omega) (by omega) (by rw [c3.2]; exact h.ce c1) (by rw [e38]; exact e8) (fun j hj => by rw [e39, c1.2.2 7 (by decide)]; exact hl j hj)
          rw [c3.2] at r7
          exact ⟨S', T', u', w0', w1', c1.tr r1, c3.tr r2, r3, r4, r5, r6, r7⟩
        rcases h.liv ci with ⟨v1, v2, v3⟩ | ⟨v1, v2, v5, v3, v4⟩
        · have lv : q_X12_lives T1 (nI i) = some 1 := by
            rw [← v3]; unfold q_X12_lives; rw [man_9 i20, man_9 i20, tn]
          by_cases s9 : S.2 7 (14 * i + 11) = 99
          · obtain ⟨S', T', u', w0', w1', r1, r2, r3, r4, r5, r6, r7⟩ := skip S T1 CE.rf t1.me rfl rfl
            refine ⟨S', T', u', w0', w1', r1, r2, r3, r4, r5, fun k => ?_, fun k => ?_⟩
            · rw [l_X4_follower_20]
              unfold f_X4_isFollower
              simp only [lt, n0, v2, i10, g6_11 i20, s9, fb_s, nI_1, ↓reduceIte]; exact r6 k
            · rw [l_X12_heir_47]
              simp only [k2, lt, t2, fb_s, lv, i10, s9, nI_1, ↓reduceIte]; exact r7 k
          · obtain ⟨v, w, S1, T2, r1, r2, r3, r4, r5⟩ := h1.rul (zb := nI i) (zc := -1) 2 (nI (K 8)) (nI (K 8)) (Or.inr ⟨i, ci, rfl⟩) (Or.inl rfl)
            have vw := r5 (h1.taL ci (by rw [tn]; exact v1))
            subst vw
            rw [tn] at r2
            have d2' : T1.2 55 8 = nI (K 8) := by rw [tn]; exact d2
            by_cases y0 : v = 0
            · obtain ⟨S', T', u', w0', w1', x1, x2, x3, x4, x5, x6, x7⟩ := skip S1 T2 r3.ce (t1.me.tr r4.me) (r3.1 38 (by decide)) (r3.2 39 (by decide))
              refine ⟨S', T', u', w0', w1', x1, x2, x3, x4, x5, fun k => ?_, fun k => ?_⟩
              · rw [l_X4_follower_20]
                unfold f_X4_isFollower
                simp only [lt, n0, v2, i10, g6_11 i20, s9, d1, r1, y0, fb_s, nI_1, ↓reduceIte]; exact x6 k
              · rw [l_X12_heir_47]
                simp only [k2, lt, t2, fb_s, lv, i10, s9, d2', r2, y0, nI_1, ↓reduceIte]; exact x7 k
            · have h2 : RelR K S1 (T2.2 55) := by rw [r4.me.2]; exact h1.ce r3.ce
              have e38 : S1.1 38 = nI u := (r3.1 38 (by decide)).trans e8
              have u20 : u < 20 := by omega
              have ap : fApp 38 20 1 S1 (nI i) = some (nI u, (ui S1.1 38 (nI (u + 1)), ua S1.2 39 (pm_apf 1 u (nI i) (S1.2 39)))) := fApp_f e38 u20 (by decide)
              generalize hS2 : ((ui S1.1 38 (nI (u + 1)), ua S1.2 39 (pm_apf 1 u (nI i) (S1.2 39))) : FS) = S2 at ap
              have s2A : ∀ a : Nat, a ≠ 39 → S2.2 a = S1.2 a := fun a ha => by rw [← hS2]; exact ua_ne ha
              have s2I : ∀ k : Nat, k ≠ 38 → S2.1 k = S1.1 k := fun k hk => by rw [← hS2]; exact ui_ne hk
              have s39 : S2.2 39 = pm_apf 1 u (nI i) (S1.2 39) := by rw [← hS2]; show ua S1.2 39 _ 39 = _; exact ua_eq
              have s38 : S2.1 38 = nI (u + 1) := by rw [← hS2]; show ui S1.1 38 _ 38 = _; exact ui_eq
              have h3 : RelR K S2 (T2.2 55) := h2.cs (fun k hk => s2I k (fun q => by subst q; revert hk; decide)) (fun a ha => s2A a (fun q => by subst q; revert ha; decide))
              have s7 : S2.2 7 = S.2 7 := (s2A 7 (by decide)).trans (r3.2 7 (by decide))
              obtain ⟨S3, pos, w0', w1', p1, p2, p3, p4, p5⟩ := ins_l (K := K) (T := T2) (x := i) (u := u) (r9 := (S.2 7 (14 * i + 11), T1)) u20 ci FU u S2 w0 w1 (Nat.le_refl _) (FU_lt (by omega)) h3 (by rw [s7]) ⟨fun j h1 h2 => by
                rw [s39, s7, apf_o (by omega), r3.2 39 (by decide)]; exact hl j (by omega), by rw [s39, apf_0 (by omega) (by decide)]⟩
              have cs3 : CE S S3 := by
                refine CE.tr r3.ce ⟨⟨⟨?_, ?_, ?_, ?_⟩, ?_, ?_⟩, fun k hk => ?_, fun a ha => ?_⟩
                · rw [p1.2 _ (by decide), s2A _ (by decide)]
                · rw [p1.2 _ (by decide), s2A _ (by decide)]
                · rw [p1.2 _ (by decide), s2A _ (by decide)]
                · rw [p1.2 _ (by decide), s2A _ (by decide)]
                · rw [p1.1, s2I _ (by decide)]
                · rw [p1.1, s2I _ (by decide)]
                · rw [p1.1, s2I _ (fun q => by subst q; revert hk; decide)]
                · rw [p1.2 _ (fun q => by subst q; revert ha; decide), s2A _ (fun q => by subst q; revert ha; decide)]
              have s37 : S3.2 7 = S.2 7 := (p1.2 7 (by decide)).trans s7
              obtain ⟨S', T', u', z0', z1', x1, x2, x3, x4, x5, x6, x7⟩ := ih (i + 1) (u + 1) S3 T2 (upd w0' pos (nI i)) (upd w1' pos (S.2 7 (14 * i + 11))) m m' (by omega) (by omega) (by omega) (by omega) (by omega) (by rw [r4.me.2, tn]; exact h.ce cs3) (by rw [p1.1]; exact s38) (fun j hj => by
                by_cases z : j = pos
                · subst z; rw [pk_us, pk_us, s37]; exact ⟨p3.2, i, ci, rfl, rfl⟩
                · rw [pk_un z, pk_un z]; exact p3.1 j (by omega) z)
              rw [r4.me.2, tn] at x7
              refine ⟨S', T', u', z0', z1', cs3.tr x1, (t1.me.tr r4.me).tr x2, x3, x4, x5, fun k => ?_, fun k => ?_⟩
              · rw [l_X4_follower_20]
                unfold f_X4_isFollower f_X4_enqueue
                simp only [lt, n0, v2, i10, g6_11 i20, s9, d1, r1, y0, ap, fb_s, nI_1, ↓reduceIte]
                rw [p4]; exact x6 k
              · rw [l_X12_heir_47]
                simp only [k2, lt, t2, fb_s, lv, i10, s9, d2', r2, y0, nI_1, ↓reduceIte]
                rw [p5]
                simp only [ix_nI (show pos < 20 by omega) (show 20 ≤ 2 ^ 31 by decide), fb_s, fw_s]; exact x7 k
        · have lv : q_X12_lives T1 (nI i) = some 0 := by
            rw [← v4]; unfold q_X12_lives; rw [man_9 i20, man_9 i20, tn]
          obtain ⟨S', T', u', w0', w1', r1, r2, r3, r4, r5, r6, r7⟩ := skip S T1 CE.rf t1.me rfl rfl
          refine ⟨S', T', u', w0', w1', r1, r2, r3, r4, r5, fun k => ?_, fun k => ?_⟩
          · rw [l_X4_follower_20]
            unfold f_X4_isFollower
            simp only [lt, n0, v3, fb_s, nI_1, ↓reduceIte]; exact r6 k
          · rw [l_X12_heir_47]
            simp only [k2, lt, t2, fb_s, lv, nI_1, ↓reduceIte]; exact r7 k
theorem op_heir (h : RelR K S (T.2 55)) : OK2 S T (f_X11_heir S za) (f_X12_heir T za) := by
  unfold f_X11_heir f_X12_heir f_X4_follower
  simp only [fb_id, fl_s, fv_s, fw_s]
  obtain ⟨k1, k2, c2⟩ := h.ct 6 2 20 (by decide)
  obtain ⟨d1, d2, d3⟩ := h.ct 102 8 2000 (by decide)
  by_cases z : za < 0
  · rw [if_pos z, if_pos z]; exact ok_1 h
  · obtain ⟨a, ha, rfl⟩ := nI_of z
    rw [if_neg z, if_neg z, d2, (h.inF 2 (nI (K 8)) (nI (K 8))).2, fb_s, wI_n (show (6 : Nat) ≠ 38 by decide), k1]
    have c0 : CE S (wI S 38 0) := CE.wI (by decide)
    have fin : ∀ (S' T' : FS) (u' : Nat) (w0' w1' : Nat → Int32), CE S S' → ME T T' → u' < 20 → S'.1 38 = nI u' → HL K u' S' w0' w1' → OK2 S T (fb (if fHas 38 S' (nI a) = 0 then some (-1000002, S') else some (fG 38 20 1 S' (nI a) 0, S')) fun r3 => f_X11_told r3.2 r3.1) (if nI a < nI u' then fb (ix 20 (nI a)) fun j41 => some (w0' j41, T') else f_X12_finds T' 2) := by
      intro S' T' u' w0' w1' r1 r2 r3 r4 r5
      have h' : RelR K S' (T'.2 55) := by rw [r2.2]; exact h.ce r1
      by_cases c : a < u'
      · rw [fHas_t r4 c (by omega), if_neg (by decide), fb_s, if_pos (nI_lt c (by omega)), ix_nI (show a < 20 by omega) (by decide), fb_s, g38_0 (show a < 20 by omega), (r5 a c).1]
        exact okt h' r1.1 r2.1
      · rw [fHas_f r4 (Or.inr (nI_le (by omega) ha)), if_pos rfl, fb_s, if_neg (nI_nlt (by omega) ha)]
        exact okf h' r1.1 r2.1 (finds_2 T')
    by_cases p0 : K 2 = 0
    · rw [show l_X4_follower_20 (nI (K 2)) = l_X4_follower_20 (nI 0) by rw [p0]]
      have e1 : ∀ k, l_X4_follower_20 (nI 0) k FU (wI S 38 0) 0 = k (wI S 38 0) 0 := fun k => by
        show l_X4_follower_20 (nI 0) k (4999 + 1) (wI S 38 0) 0 = _
        rw [l_X4_follower_20, if_neg (by decide)]
      have e2 : ∀ (x : Int32) k w0 w1, l_X12_heir_47 x k FU T 0 1 w0 w1 = k T 0 1 w0 w1 := fun x k w0 w1 => by
        show l_X12_heir_47 x k (4999 + 1) T 0 1 w0 w1 = _
        rw [l_X12_heir_47, k2, p0, if_neg (by decide)]
      rw [e1, e2]
      exact fin (wI S 38 0) T 0 (fun _ => 0) (fun _ => 0) c0 ME.rf (by decide) wI_e (fun j hj => absurd hj (Nat.not_lt_zero _))
    · obtain ⟨S', T', u', w0', w1', r1, r2, r3, r4, r5, r6, r7⟩ := heir_l (K := K) (K 2 - 1) 1 0 (wI S 38 0) T (fun _ => 0) (fun _ => 0) 4999 FU (by omega) (by omega) (by omega) (FU_lt (by omega)) (by omega) (h.ce c0) wI_e (fun j hj => absurd hj (Nat.not_lt_zero _))
      have e1 : ∀ k, l_X4_follower_20 (nI (K 2)) k FU (wI S 38 0) 0 = k S' (nI (K 2)) := fun k => by
        show l_X4_follower_20 (nI (K 2)) k (4999 + 1) (wI S 38 0) (nI 0) = _
        rw [l_X4_follower_20, if_pos (nI_lt (by omega) (by omega)), if_pos (show nI 0 = 0 from rfl), nI_1]
        exact r6 k
      rw [e1, show ∀ k, l_X12_heir_47 (lg (T.2 55) 2 (nI (K 8)) (nI (K 8)) (K 4)) k FU T 0 1 (fun _ => 0) (fun _ => 0) = k T' (nI u') (nI (K 2)) w0' w1' from r7]
      exact fin S' T' u' w0' w1' (c0.tr r1) r2 r3 r4 r5
end HEI
