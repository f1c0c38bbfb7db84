/-! ===== pure: obey, the rest ===== -/
section OPO3
variable {K : Nat → Nat} {S T : FS} {za zb zc zd : Int32}
theorem RelR.strk (h : RelR K S (T.2 55)) {l : Nat} (hl : l < K 4) : RelR K (wA S 11 (6 * l + 3) (nI (K 8))) ((wA T 55 (65 * l + 513) (nI (K 8))).2 55) := by
  obtain ⟨k1, k2, c4⟩ := h.ct 10 4 12 (by decide)
  obtain ⟨d1, d2, d3⟩ := h.ct 102 8 2000 (by decide)
  simp only [wA_e]
  refine h.onL (CQ.rf.wA (by decide) (by decide)) (NQ.rf.w (Or.inl (by omega))) ?_ ?_
  · rw [wA_1, pk_un (by omega)]; exact h.1.2
  · rw [wA_e, wA_n (by decide)]
    intro m hm
    obtain ⟨g1, ⟨d, g2, g3, g4⟩, g5, e, g6, g7, g8, g9, g10⟩ := h.la m hm
    have q4 : ∀ l' : Nat, l' < m → ∃ d' : Nat, d' ≤ d ∧ upd (T.2 55) (65 * l + 513) (nI (K 8)) (65 * l' + 512) = nI d' := fun l' hl' => by
      rw [pk_un (by omega)]; exact g4 l' hl'
    have q9 : ∀ i : Nat, i < e → cdM (S.2 13 (60 * m + i)) (upd (T.2 55) (65 * l + 513) (nI (K 8)) (65 * m + (515 + i))) := fun i hi => by
      rw [pk_un (by omega)]; exact g9 i hi
    by_cases q : m = l
    · subst q
      simp (disch := omega) only [pk_us, pk_un] at q4 q9 ⊢
      exact ⟨⟨g1.1, g1.2.1, g1.2.2.1, trivial⟩, ⟨d, g2, g3, q4⟩, Or.inr ⟨K 8, d3, rfl⟩, e, g6, g7, g8, q9, g10⟩
    · simp (disch := omega) only [pk_un]
      exact ⟨g1, ⟨d, g2, g3, g4⟩, g5, e, g6, g7, g8, q9, g10⟩
theorem RelR.ob3 (h : RelR K S (T.2 55)) {e p w : Nat} (he : e < K 5) (hp : p < K 2) (hw9 : w ≤ 999) (es : T.2 55 (12 * e + 1291) = 3) (ew : T.2 55 (12 * e + 1292) = nI w) (ep : T.2 55 (12 * e + 1294) = nI p) : OB K S T e 3 (nI w) (nI p) := by
  have c5 := (h.ct 14 5 40 (by decide)).2.2
  have c4 := (h.ct 10 4 12 (by decide)).2.2
  obtain ⟨d1, d2, d3⟩ := h.ct 102 8 2000 (by decide)
  have e40 : e < 40 := by omega
  unfold OB f_X3_carryOutSort f_X3_strikeFor f_X2_strikeOut p_X2_isStruck f_X12_cannot
  simp only [of_4 e40, of_2 e40, of_1 e40, fb_s, es, ew, ep, show ((3 : Int32) = 0) = False from eq_false (by decide), show ((3 : Int32) = 1) = False from eq_false (by decide), show ((3 : Int32) = 2) = False from eq_false (by decide), ↓reduceIte]
  rcases h.law (nI w) with ⟨a1, m1⟩ | ⟨l, hl, ew', a1, m1⟩
  · left
    simp only [a1, m1, ↓reduceIte, fb_s]
    exact ⟨trivial, T, rfl, ME.rf⟩
  · have l12 : l < 12 := by omega
    simp only [a1, m1, i10, ↓reduceIte]
    have ww : l = w := (nI_inj (by omega) (by omega) ew').symm
    subst ww
    have e3 := (h.la l hl).1.2.2.2
    simp only [fb_s, fl_s, g10_3 l12, e3, ixL_3 l12]
    by_cases c : T.2 55 (65 * l + 513) < 0
    · right
      simp only [c, ↓reduceIte, fb_s, s10_3 l12, d1]
      refine ⟨_, _, T, wA (wA T 55 (12 * e + 1298) 1) 55 (65 * l + 513) (nI (K 8)), rfl, by decide, rfl, ?_, ?_, ⟨⟨rfl, rfl, rfl, rfl⟩, rfl, rfl⟩, ?_⟩
      · unfold f_X12_obeys
        have q : ∀ j : Nat, j ≠ 12 * e + 1298 → (wA T 55 (12 * e + 1298) 1).2 55 j = T.2 55 j := fun j hj => by rw [wA_e, pk_un hj]
        simp only [of_4 e40, of_2 e40, of_1 e40, fb_s, q (12 * e + 1294) (by omega), q (12 * e + 1292) (by omega), q (12 * e + 1291) (by omega), q 8 (by omega), es, ew, ep, show ((3 : Int32) = 0) = False from eq_false (by decide), show ((3 : Int32) = 1) = False from eq_false (by decide), show ((3 : Int32) = 2) = False from eq_false (by decide), ↓reduceIte, ixL_3 l12, fl_s, d2]
      · refine (h.strk hl).mkd (e := e) he ?_
        simp only [wA_e]
        rw [upd_cm (a := 12 * e + 1298) (b := 65 * l + 513) (by omega)]
      · exact ⟨⟨rfl, rfl, rfl, rfl, rfl⟩, rfl, rfl⟩
    · left
      simp only [c, i10, ↓reduceIte, fb_s]
      exact ⟨trivial, T, rfl, ME.rf⟩
theorem brk_l {p : Nat} : ∀ (m i a : Nat) (S0 T0 S T : FS), i ≤ K 7 → K 7 - i < m → a ≤ i → PQ K S T → FC S0 S → FR T0 T →
    ∃ (S' T' : FS) (a' : Nat), a' ≤ K 7 ∧ PQ K S' T' ∧ FC S0 S' ∧ FR T0 T' ∧ (∀ k : Nat, k < K 7 → S'.2 19 (5 * k + 4) = 0 → S.2 19 (5 * k + 4) = 0) ∧ (∀ k, l_X0_endAllOf_14 (nI p) 2 (nI (K 7)) k m S (nI a) (nI i) = k S' (nI a') (nI (K 7))) ∧ ∀ k, l_X12_obeys_154 (nI p) k m T (nI a) (nI i) = k T' (nI a') (nI (K 7)) := by
  intro m
  induction m with
  | zero => intro i a S0 T0 S T hi hm; exact absurd hm (Nat.not_lt_zero _)
  | succ m ih =>
    intro i a S0 T0 S T hi hm ha hq fc fr
    obtain ⟨c7, c8, a1, a2, a3, a4, hr⟩ := id hq
    by_cases ci : i < K 7
    · obtain ⟨i30, hs⟩ := hq.stn ci
      have e0 : S.2 19 (5 * i) = T.2 55 (6 * i + 1806) := (hr i ci).1.1
      have lt := nI_lt ci (show K 7 < 2 ^ 31 by omega)
      by_cases cp : T.2 55 (6 * i + 1806) = nI p
      · rcases hs with ⟨s1, s2, s3, s4, s5, s6⟩ | ⟨s1, s2, s3⟩
        · obtain ⟨S', T', a', r0, r1, r2, r3, r4, r5, r6⟩ := ih (i + 1) (a + 1) S0 T0 _ _ (by omega) (by omega) (by omega) (hq.brk ci) fc.w (fr.w i30 (Or.inl rfl))
          refine ⟨S', T', a', r0, r1, r2, r3, fun k hk y => ?_, fun k => ?_, fun k => ?_⟩
          · have y1 := r4 k hk y
            rw [wA_e] at y1
            by_cases e : k = i
            · subst e; rw [pk_us] at y1; exact absurd y1 (by decide)
            · rw [pk_un (by omega)] at y1; exact y1
          · rw [l_X0_endAllOf_14]
            simp only [lt, s1, i10, g18_0 i30, e0, cp, fl_s, s18_4 i30, nI_1, ↓reduceIte]; exact r5 k
          · rw [l_X12_obeys_154]
            simp only [a3, lt, promised_0 i30, fb_s, cp, s2, i10, ixQ_4 i30, fl_s, nI_1, ↓reduceIte]; exact r6 k
        · obtain ⟨S', T', a', r0, r1, r2, r3, r4, r5, r6⟩ := ih (i + 1) a S0 T0 S T (by omega) (by omega) (by omega) hq fc fr
          refine ⟨S', T', a', r0, r1, r2, r3, r4, fun k => ?_, fun k => ?_⟩
          · rw [l_X0_endAllOf_14]
            simp only [lt, s1, nI_1, ↓reduceIte]; exact r5 k
          · rw [l_X12_obeys_154]
            simp only [a3, lt, promised_0 i30, fb_s, cp, s2, nI_1, ↓reduceIte]; exact r6 k
      · obtain ⟨S', T', a', r0, r1, r2, r3, r4, r5, r6⟩ := ih (i + 1) a S0 T0 S T (by omega) (by omega) (by omega) hq fc fr
        refine ⟨S', T', a', r0, r1, r2, r3, r4, fun k => ?_, fun k => ?_⟩
        · rw [l_X0_endAllOf_14]
          rcases hs with ⟨s1, -⟩ | ⟨s1, -⟩
          · simp only [lt, s1, i10, g18_0 i30, e0, cp, nI_1, ↓reduceIte]; exact r5 k
          · simp only [lt, s1, nI_1, ↓reduceIte]; exact r5 k
        · rw [l_X12_obeys_154]
          simp only [a3, lt, promised_0 i30, fb_s, cp, nI_1, ↓reduceIte]; exact r6 k
    · have ei : i = K 7 := by omega
      subst ei
      refine ⟨S, T, a, ha, hq, fc, fr, fun k hk y => y, fun k => ?_, fun k => ?_⟩
      · rw [l_X0_endAllOf_14, if_neg (nI_nlt (Nat.le_refl _) (by omega))]
      · rw [l_X12_obeys_154, a3, if_neg (nI_nlt (Nat.le_refl _) (by omega))]
theorem cq_mk {as : List Nat} {s j : Nat} {S' : FS} {v : Int32} (h : CQ as s S S') (h15 : 15 ∉ as) : CQ as s (wA S 15 j v) (wA S' 15 j v) := by
  refine ⟨⟨⟨h.1.1.1, h.1.1.2.1, h.1.1.2.2.1, h.1.1.2.2.2⟩, h.1.2⟩, h.2.1, fun q hq hn => ?_⟩
  by_cases c : q = 15
  · subst c; rw [wA_e, wA_e, h.2.2 15 hq hn]
  · rw [wA_n c, wA_n c]; exact h.2.2 q hq hn
theorem RelR.ob4 (h : RelR K S (T.2 55)) {e p w s : Nat} (he : e < K 5) (hp : p < K 2) (hs : s = 4) (es : T.2 55 (12 * e + 1291) = nI s) (ew : T.2 55 (12 * e + 1292) = nI w) (ep : T.2 55 (12 * e + 1294) = nI p) : OB K S T e (nI s) (nI w) (nI p) := by
  subst hs
  have c5 := (h.ct 14 5 40 (by decide)).2.2
  have c7 := (h.ct 18 7 30 (by decide))
  have e40 : e < 40 := by omega
  have n0 : (nI 4 = 0) = False := eq_false (by decide)
  have n1 : (nI 4 = 1) = False := eq_false (by decide)
  have n2 : (nI 4 = 2) = False := eq_false (by decide)
  have n3 : (nI 4 = 3) = False := eq_false (by decide)
  have h1 : RelR K (wA S 15 (12 * e + 11) 1) ((wA T 55 (12 * e + 1298) 1).2 55) := h.mkd he wA_e
  have q : ∀ j : Nat, j ≠ 12 * e + 1298 → (wA T 55 (12 * e + 1298) 1).2 55 j = T.2 55 j := fun j hj => by rw [wA_e, pk_un hj]
  have pq : PQ K S (wA T 55 (12 * e + 1298) 1) := (PQ.of (S := wA S 15 (12 * e + 11) 1) h1 : PQ K (wA S 15 (12 * e + 11) 1) (wA T 55 (12 * e + 1298) 1))
  obtain ⟨S', T', a', r0, r1, r2, r3, r4, r5, r6⟩ := brk_l (p := p) FU 0 0 S (wA T 55 (12 * e + 1298) 1) S (wA T 55 (12 * e + 1298) 1) (Nat.zero_le _) (FU_lt (by omega)) (Nat.le_refl _) (K := K) pq ⟨CQ.rf, rfl⟩ FR.rf
  · right
    refine ⟨nI a', S', T, T', ?_, nI_nf (by omega), ?_, ?_, ?_, r2.1.1, MX.tr ⟨⟨rfl, rfl, rfl, rfl, rfl⟩, rfl, rfl⟩ r3.2.1⟩
    · unfold f_X3_carryOutSort f_X0_breakAllOf f_X0_endAllOf
      simp only [n0, n1, n2, n3, ↓reduceIte, fv_s, c7.1]
      rw [show ∀ k, l_X0_endAllOf_14 (nI p) 2 (nI (K 7)) k FU S 0 0 = k S' (nI a') (nI (K 7)) from r5]
      rfl
    · unfold f_X12_cannot
      simp only [of_4 e40, of_2 e40, of_1 e40, fb_s, es, n0, n1, n2, n3, ↓reduceIte]
    · unfold f_X12_obeys
      simp only [of_4 e40, of_2 e40, of_1 e40, fb_s, q (12 * e + 1294) (by omega), q (12 * e + 1292) (by omega), q (12 * e + 1291) (by omega), es, ep, n0, n1, n2, n3, ↓reduceIte]
      exact r6 _
    · refine h1.onQ (cq_mk r2.1 (by decide)) r3.1 ?_ ?_ ?_
      · rw [r3.2.2.2.1]; show S'.1 103 = _; rw [r2.2]; exact h1.1.2
      · rw [wA_n (by decide)]; exact r1.2.2.2.2.2.2
      · rw [wA_n (by decide)]
        refine ⟨?_, h1.ps.2.mono c7.2.2 rfl (fun k hk => ⟨(r3.2.2.1 k hk).1, (r3.2.2.1 k hk).2.1⟩) r3.2.2.2.2⟩
        intro k hk y1 z2
        have y2 := r4 k hk y1
        obtain ⟨t1, t2, t3⟩ := r3.2.2.1 k (by omega)
        rw [t3] at z2
        obtain ⟨x, x1, x2, x3⟩ := h1.ps.1 k hk (by rw [wA_n (by decide)]; exact y2) z2
        have c2 := (h.ct 6 2 20 (by decide)).2.2
        exact ⟨x, x1, by rw [t1]; exact x2, by rw [r3.1 _ (by omega) (by omega) (by omega)]; exact x3⟩
theorem op_obey (h : RelR K S (T.2 55)) : OK2 S T (f_X11_obey S za) (f_X12_obey T za) := by
  unfold f_X11_obey f_X12_obey
  simp only [fb_id]
  have c5 := (h.ct 14 5 40 (by decide)).2.2
  have c2 := (h.ct 6 2 20 (by decide)).2.2
  rcases h.let' za with ⟨a1, m1⟩ | ⟨e, he, rfl, a1, m1⟩
  · simp only [a1, m1, ↓reduceIte]; exact ok_1 h
  · have e40 : e < 40 := by omega
    obtain ⟨⟨l0, l1, l2, l3, l4⟩, ⟨l5, l5b, l5c, l5d, l5e⟩, l6, l7, ⟨l8, -, ⟨s, hs, l10⟩, ⟨w, hw, l10b⟩, ⟨b8, hb8, l10c⟩⟩, l11⟩ := h.le e he
    unfold f_X3_carryOut
    simp only [a1, m1, i10, ↓reduceIte, of_6 e40, of_8 e40, of_4 e40, of_7 e40, fb_s, fv_s, g14_6 e40, g14_9 e40, g14_11 e40, g14_10 e40, g14_1 e40, g14_2 e40, l4, l5b, l5c, l5d, l1, l2, l10, l10b, l10c]
    by_cases c6 : T.2 55 (12 * e + 1296) < 0
    · simp only [c6, fb_s, ↓reduceIte]; exact ok_3 h
    · rcases l8 with z | ⟨p, hp, z⟩
      · exact absurd z (l11 c6)
      · have p20 : p < 20 := by omega
        rcases (show b8 = 0 ∨ b8 = 1 by omega) with rfl | rfl
        · simp only [c6, z, show (nI 0 = 0) = True from eq_true rfl, show (nI 0 = 1) = False from eq_false (by decide), ↓reduceIte]
          rcases h.liv hp with ⟨v1, v2, v3⟩ | ⟨v1, v2, v5, v3, v4⟩
          · simp only [v2, v3, fb_s, i10, ↓reduceIte]
            by_cases g7 : T.2 55 (12 * e + 1297) = 1
            · simp only [g7, ↓reduceIte]
              have ob : OB K S T e (nI s) (nI w) (nI p) := by
                rcases (show s = 0 ∨ s = 1 ∨ s = 2 ∨ s = 3 ∨ s = 4 by omega) with rfl | rfl | rfl | rfl | rfl
                · exact h.ob0 he hp hw l10 l10b z
                · exact h.ob1 he hp v1 hw l10 l10b z
                · exact h.ob2 he hp v1 hw l10 l10b z
                · exact h.ob3 he hp hw l10 l10b z
                · exact h.ob4 he hp rfl l10 l10b z
              rcases ob with ⟨o1, T1, o2, o3⟩ | ⟨v, S', T1, T', o1, o2, o3, o4, o5, o6, o7⟩
              · simp only [o1, o2, fb_s, i10, ↓reduceIte]
                exact okf (K := K) (by rw [o3.2]; exact h) CX.rf o3.1 (finds_2 T1)
              · simp only [o1, o2, o3, fb_s, fl_s, s14_11 e40, writes_8 e40, o4, ↓reduceIte]
                exact okt o5 (o6.tr ⟨⟨rfl, rfl, rfl, rfl⟩, rfl, rfl⟩) o7
            · simp only [g7, fb_s, ↓reduceIte]; exact ok_5 h
          · simp only [v3, v4, fb_s, ↓reduceIte]; exact ok_3 h
        · simp only [c6, z, show (nI 1 = 0) = False from eq_false (by decide), show (nI 1 = 1) = True from eq_true rfl, fb_s, ↓reduceIte]; exact ok_3 h
end OPO3
