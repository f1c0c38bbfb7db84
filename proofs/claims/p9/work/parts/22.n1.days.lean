/-! ===== pure: a day ends ===== -/
section DAY
variable {K : Nat → Nat} {S T : FS} {za zb zc zd : Int32}
/-- who comes: those of the first i have the new day, the others still the old one -/
def BR (K : Nat → Nat) (i : Nat) (f n : Nat → Int32) : Prop := ∀ p : Nat, p < K 2 → (f (14 * p) = n (14 * p + 110) ∧ f (14 * p + 1) = n (14 * p + 111) ∧ f (14 * p + 2) = n (14 * p + 112) ∧ f (14 * p + 3) = n (14 * p + 113)) ∧
  (f (14 * p + 7) = n (14 * p + 117) ∧ f (14 * p + 8) = n (14 * p + 118) ∧ f (14 * p + 10) = n (14 * p + 120) ∧ f (14 * p + 12) = n (14 * p + 122) ∧ f (14 * p + 13) = n (14 * p + 121)) ∧ ((p < i → PLv (kU K 8 (K 8 + 1)) f n p) ∧ (i ≤ p → PLv K f n p)) ∧
  (vP (K 2) (n (14 * p + 112)) ∧ vP (K 2) (n (14 * p + 113)) ∧ vP (K 0) (n (14 * p + 114)) ∧ nB 1 (n (14 * p + 121)) ∧ nB 999 (n (14 * p + 122)) ∧ bB (n (14 * p + 111)))
theorem BR.of {f n n' : Nat → Int32} (h : RPe K f n) (b : K 2 ≤ 20) (hn : ∀ j : Nat, 110 ≤ j → j < 390 → n' j = n j) : BR K 0 f n' := by
  intro p hp
  have hh := h p hp
  unfold PLv at hh ⊢
  simp (disch := omega) only [hn]
  exact ⟨hh.1, hh.2.1, ⟨fun q => absurd q (Nat.not_lt_zero _), fun _ => hh.2.2.1⟩, hh.2.2.2⟩
theorem BR.fin {f n : Nat → Int32} (h : BR K (K 2) f n) : RPe (kU K 8 (K 8 + 1)) f n := by
  intro p hp
  have hp2 : p < K 2 := hp
  obtain ⟨h1, h2, h3, h4⟩ := h p hp2
  exact ⟨h1, h2, h3.1 hp2, h4⟩
/-- one that doesn't come, or is dead -/
theorem BR.skip {f n : Nat → Int32} {i : Nat} (h : BR K i f n) (hi : i < K 2) (hs : PLv K f n i → PLv (kU K 8 (K 8 + 1)) f n i) : BR K (i + 1) f n := by
  intro p hp
  obtain ⟨h1, h2, h3, h4⟩ := h p hp
  refine ⟨h1, h2, ⟨fun q => ?_, fun q => h3.2 (by omega)⟩, h4⟩
  by_cases c : p = i
  · subst c; exact hs (h3.2 (Nat.le_refl _))
  · exact h3.1 (by omega)
/-- a dead one's place in the class -/
theorem BR.dead {f n : Nat → Int32} {i : Nat} {v : Int32} (h : BR K i f n) (hi : i < K 2) (b : K 2 ≤ 20) (hd : f (14 * i + 9) = 1) : BR K (i + 1) (upd f (14 * i + 4) v) n := by
  intro p hp
  have hh := h p hp
  unfold PLv at hh ⊢
  by_cases c : p = i
  · subst c
    simp (disch := omega) only [pk_un, pk_us]
    refine ⟨hh.1, hh.2.1, ⟨fun _ => Or.inr ?_, fun q => absurd q (by omega)⟩, hh.2.2.2⟩
    rcases hh.2.2.1.2 (Nat.le_refl _) with ⟨a1, -⟩ | a
    · rw [hd] at a1; exact absurd a1 (by decide)
    · exact a
  · simp (disch := omega) only [pk_un]
    exact ⟨hh.1, hh.2.1, ⟨fun q => hh.2.2.1.1 (by omega), fun q => hh.2.2.1.2 (by omega)⟩, hh.2.2.2⟩
/-- one comes -/
theorem BR.come {f n : Nat → Int32} {i t : Nat} (h : BR K i f n) (hi : i < K 2) (b : K 2 ≤ 20) (ht : t < K 0) (b0 : K 0 ≤ 10) (hl : f (14 * i + 9) = 0) (hm : n (14 * i + 119) = -1) : BR K (i + 1) (upd f (14 * i + 4) (nI t)) (upd n (14 * i + 114) (nI t)) := by
  intro p hp
  have hh := h p hp
  unfold PLv at hh ⊢
  by_cases c : p = i
  · subst c
    simp (disch := omega) only [pk_un, pk_us]
    exact ⟨hh.1, hh.2.1, ⟨fun _ => Or.inl ⟨hl, hm, trivial, fun q => absurd q (nI_m1 (by omega))⟩, fun q => absurd q (by omega)⟩, hh.2.2.2.1, hh.2.2.2.2.1, Or.inr ⟨t, ht, rfl⟩, hh.2.2.2.2.2.2⟩
  · simp (disch := omega) only [pk_un]
    exact ⟨hh.1, hh.2.1, ⟨fun q => hh.2.2.1.1 (by omega), fun q => hh.2.2.1.2 (by omega)⟩, hh.2.2.2⟩
def FB (S S' T T' : FS) : Prop := (S'.1 = S.1 ∧ (∀ a : Nat, a ≠ 7 → S'.2 a = S.2 a) ∧ ∀ j : Nat, j % 14 ≠ 4 → S'.2 7 j = S.2 7 j) ∧ (T'.1 = T.1 ∧ (∀ a : Nat, a ≠ 55 → T'.2 a = T.2 a) ∧ ∀ j : Nat, ¬ (110 ≤ j ∧ j < 390 ∧ j % 14 = 2) → T'.2 55 j = T.2 55 j)
theorem FB.rf : FB S S T T := ⟨⟨rfl, fun _ _ => rfl, fun _ _ => rfl⟩, rfl, fun _ _ => rfl, fun _ _ => rfl⟩
theorem bring_l (b2 : K 2 ≤ 20) (b0 : K 0 ≤ 10) (b8 : K 8 + 1 ≤ 2000) : ∀ (m i : Nat) (S T : FS), i ≤ K 2 → K 2 - i < m → S.1 102 = nI (K 8 + 1) → T.2 55 8 = nI (K 8 + 1) → T.2 55 2 = nI (K 2) → BR K i (S.2 7) (T.2 55) →
    ∃ S' T' : FS, FB S S' T T' ∧ BR K (K 2) (S'.2 7) (T'.2 55) ∧ (∀ k, l_X7_bringTravellers_10 (nI (K 2)) k m S (nI i) = k S' (nI (K 2))) ∧ ∀ k, l_X12_days_52 k m T (nI i) = k T' (nI (K 2)) := by
  intro m
  induction m with
  | zero => intro i S T _ hm; exact absurd hm (Nat.not_lt_zero _)
  | succ m ih =>
    intro i S T hi hm d1 d2 k2 hb
    by_cases c : i < K 2
    · have i20 : i < 20 := by omega
      have lt := nI_lt c (show K 2 < 2 ^ 31 by omega)
      obtain ⟨-, -, hp, -, -, hv, -⟩ := id (hb i c)
      rcases hp.2 (Nat.le_refl _) with ⟨a1, a2, a3, a4⟩ | ⟨a1, ⟨dd, a2, a2'⟩, a3⟩
      · -- living
        have lv : q_X12_lives T (nI i) = some 1 := by
          unfold q_X12_lives; rw [man_9 i20, a2, fb_s, if_pos (by decide)]
        rcases hv with e | ⟨t, ht, e⟩
        · obtain ⟨⟨b5, b6⟩, ⟨t, ht, e5⟩, ⟨cc, ⟨c1, c2⟩, e6⟩⟩ := a4 e
          by_cases ar : cc = K 8 + 1
          · obtain ⟨S', T', r1, r2, r3, r4⟩ := ih (i + 1) (wA S 7 (14 * i + 4) (nI t)) (wA T 55 (14 * i + 114) (nI t)) (by omega) (by omega) d1 (by rw [wA_e, pk_un (by omega)]; exact d2) (by rw [wA_e, pk_un (by omega)]; exact k2) (by rw [wA_e, wA_e]; exact hb.come c b2 ht b0 a1 a2)
            refine ⟨S', T', ⟨⟨r1.1.1, fun a ha => (r1.1.2.1 a ha).trans (wA_n ha), fun j hj => (r1.1.2.2 j hj).trans (by rw [wA_e, pk_un (by omega)])⟩, r1.2.1, fun a ha => (r1.2.2.1 a ha).trans (wA_n ha), fun j hj => (r1.2.2.2 j hj).trans (by rw [wA_e, pk_un (by omega)])⟩, r2, fun k => ?_, fun k => ?_⟩
            · rw [l_X7_bringTravellers_10]
              simp only [lt, g6_4 i20, a3, e, ltm1, d1, g6_6 i20, b6, e6, ar, nI_nlt (Nat.le_refl (K 8 + 1)) (show K 8 + 1 < 2 ^ 31 by omega), s6_4 i20, g6_5 i20, b5, e5, fl_s, nI_1, ↓reduceIte]; exact r3 k
            · rw [l_X12_days_52]
              simp only [k2, lt, lv, fb_s, i10, man_4 i20, e, ltm1, man_6 i20, e6, ar, d2, man_5 i20, e5, sets_4 i20, nI_1, ↓reduceIte]; exact r4 k
          · obtain ⟨S', T', r1, r2, r3, r4⟩ := ih (i + 1) S T (by omega) (by omega) d1 d2 k2 (hb.skip c (fun q => Or.inl ⟨a1, a2, a3, fun _ => ⟨⟨b5, b6⟩, ⟨t, ht, e5⟩, cc, ⟨by rw [kU_e]; omega, c2⟩, e6⟩⟩))
            refine ⟨S', T', r1, r2, fun k => ?_, fun k => ?_⟩
            · rw [l_X7_bringTravellers_10]
              simp only [lt, g6_4 i20, a3, e, ltm1, d1, g6_6 i20, b6, e6, nI_lt (show K 8 + 1 < cc by omega) (show cc < 2 ^ 31 by omega), nI_1, ↓reduceIte]; exact r3 k
            · rw [l_X12_days_52]
              simp only [k2, lt, lv, fb_s, i10, man_4 i20, e, ltm1, man_6 i20, e6, d2, show ¬ nI cc = nI (K 8 + 1) from fun q => ar (nI_inj (by omega) (by omega) q), nI_1, ↓reduceIte]; exact r4 k
        · obtain ⟨S', T', r1, r2, r3, r4⟩ := ih (i + 1) S T (by omega) (by omega) d1 d2 k2 (hb.skip c (fun q => Or.inl ⟨a1, a2, a3, fun q => absurd (e.symm.trans q) (nI_m1 (by omega))⟩))
          refine ⟨S', T', r1, r2, fun k => ?_, fun k => ?_⟩
          · rw [l_X7_bringTravellers_10]
            simp only [lt, g6_4 i20, a3, e, nI_pos (show t < 2 ^ 31 by omega), nI_1, ↓reduceIte]; exact r3 k
          · rw [l_X12_days_52]
            simp only [k2, lt, lv, fb_s, i10, man_4 i20, e, nI_pos (show t < 2 ^ 31 by omega), nI_1, ↓reduceIte]; exact r4 k
      · -- dead
        have lv : q_X12_lives T (nI i) = some 0 := by
          unfold q_X12_lives; rw [man_9 i20, a2', fb_s, if_neg (nI_pos (by omega))]
        have mo : ∀ k, l_X12_days_52 k (m + 1) T (nI i) = l_X12_days_52 k m T (nI (i + 1)) := fun k => by
          rw [l_X12_days_52]
          simp only [k2, lt, lv, fb_s, nI_1, ↓reduceIte]
        have sk : PLv K (S.2 7) (T.2 55) i → PLv (kU K 8 (K 8 + 1)) (S.2 7) (T.2 55) i := fun _ => Or.inr ⟨a1, ⟨dd, a2, a2'⟩, a3⟩
        by_cases f4 : S.2 7 (14 * i + 4) < 0
        · by_cases f6 : nI (K 8 + 1) < S.2 7 (14 * i + 6)
          · obtain ⟨S', T', r1, r2, r3, r4⟩ := ih (i + 1) S T (by omega) (by omega) d1 d2 k2 (hb.skip c sk)
            refine ⟨S', T', r1, r2, fun k => ?_, fun k => by rw [mo]; exact r4 k⟩
            rw [l_X7_bringTravellers_10]
            simp only [lt, g6_4 i20, f4, d1, g6_6 i20, f6, nI_1, ↓reduceIte]; exact r3 k
          · obtain ⟨S', T', r1, r2, r3, r4⟩ := ih (i + 1) (wA S 7 (14 * i + 4) (S.2 7 (14 * i + 5))) T (by omega) (by omega) d1 d2 k2 (by rw [wA_e]; exact hb.dead c b2 a1)
            refine ⟨S', T', ⟨⟨r1.1.1, fun a ha => (r1.1.2.1 a ha).trans (wA_n ha), fun j hj => (r1.1.2.2 j hj).trans (by rw [wA_e, pk_un (by omega)])⟩, r1.2⟩, r2, fun k => ?_, fun k => by rw [mo]; exact r4 k⟩
            rw [l_X7_bringTravellers_10]
            simp only [lt, g6_4 i20, f4, d1, g6_6 i20, f6, s6_4 i20, g6_5 i20, fl_s, nI_1, ↓reduceIte]; exact r3 k
        · obtain ⟨S', T', r1, r2, r3, r4⟩ := ih (i + 1) S T (by omega) (by omega) d1 d2 k2 (hb.skip c sk)
          refine ⟨S', T', r1, r2, fun k => ?_, fun k => by rw [mo]; exact r4 k⟩
          rw [l_X7_bringTravellers_10]
          simp only [lt, g6_4 i20, f4, nI_1, ↓reduceIte]; exact r3 k
    · have ei : i = K 2 := by omega
      subst ei
      refine ⟨S, T, FB.rf, hb, fun k => ?_, fun k => ?_⟩
      · rw [l_X7_bringTravellers_10, if_neg (nI_nlt (Nat.le_refl _) (by omega))]
      · rw [l_X12_days_52, k2, if_neg (nI_nlt (Nat.le_refl _) (by omega))]
theorem RPr.day {f n n' : Nat → Int32} (h : RPr K f n) (b : K 7 ≤ 30) (b8 : K 8 + 1 ≤ 2000) (hn : ∀ j : Nat, 1806 ≤ j → j < 1986 → n' j = n j) : RPr (kU K 8 (K 8 + 1)) f n' := by
  intro k hk
  have hk2 : k < K 7 := hk
  obtain ⟨h1, h2, h3, h4, ⟨t, h5, h5'⟩, h6⟩ := h k hk2
  simp (disch := omega) only [hn]
  refine ⟨h1, h2, fun q => h3 (fun z => q ?_), h4, ⟨t, h5, h5'⟩, h6⟩
  rw [h5', nI_ltI (by omega) (by omega)] at z
  rw [h5', kU_e]
  exact nI_lt (by omega) (by omega)
theorem RPs.day {f n n' : Nat → Int32} (h : RPs K f n) (hr : RPr K f n) (b : K 7 ≤ 30) (b2 : K 2 ≤ 20) (b8 : K 8 + 1 ≤ 2000) (hn : ∀ j : Nat, 1806 ≤ j → j < 1986 → n' j = n j) (hs : ∀ p : Nat, p < K 2 → n' (14 * p + 121) = n (14 * p + 121)) : RPs (kU K 8 (K 8 + 1)) f n' := by
  refine ⟨?_, h.2.same b rfl hn⟩
  intro k hk
  have hk2 : k < K 7 := hk
  obtain ⟨-, -, -, -, ⟨t, h5, h5'⟩, -⟩ := hr k hk2
  simp (disch := omega) only [hn]
  intro q1 q2
  obtain ⟨p, p1, p2, p3⟩ := h.1 k hk2 q1 (fun z => q2 (by
    rw [h5', nI_ltI (by omega) (by omega)] at z
    rw [h5', kU_e]
    exact nI_lt (by omega) (by omega)))
  exact ⟨p, p1, p2, by rw [hs p p1]; exact p3⟩
theorem RelR.day {S' : FS} {n n' : Nat → Int32} (h : RelR K S n) (b8 : K 8 + 1 ≤ 2000) (cq : CQ [7] 102 S S') (nq : NQ 110 390 8 n n') (hc : S'.1 103 = n' 9) (e1 : S'.1 102 = nI (K 8 + 1)) (e2 : n' 8 = nI (K 8 + 1)) (hpe : RPe (kU K 8 (K 8 + 1)) (S'.2 7) n') (hse : RSe K n') (hst : RSt K (S'.2 7) n') (hv : ∀ x : Int32, vL (K 2) n x → vL (K 2) n' x) (hsq : ∀ p : Nat, p < K 2 → n' (14 * p + 121) = n (14 * p + 121)) : RelR (kU K 8 (K 8 + 1)) S' n' := by
  have c0 := (h.ct 2 0 10 (by decide)).2.2
  have c1 := (h.ct 101 1 20 (by decide)).2.2
  have c2 := (h.ct 6 2 20 (by decide)).2.2
  have c3 := (h.ct 8 3 20 (by decide)).2.2
  have c4 := (h.ct 10 4 12 (by decide)).2.2
  have c5 := (h.ct 14 5 40 (by decide)).2.2
  have c6 := (h.ct 16 6 6 (by decide)).2.2
  have c7 := (h.ct 18 7 30 (by decide)).2.2
  have c10 := (h.ct 24 10 60 (by decide)).2.2
  have c11 := (h.ct 22 11 20 (by decide)).2.2
  have hK : ∀ i : Nat, i ≠ 8 → kU K 8 (K 8 + 1) i = K i := fun i hi => kU_n hi
  have hk : K 8 ≤ kU K 8 (K 8 + 1) 8 := by rw [kU_e]; omega
  have eA := fun q hq h3 => cq.2.2 q hq h3
  refine ⟨RCt.cq h cq nq (by decide) hK hc (onct 102 8 2000 (by decide) (by rw [kU_e]; exact e1) (by rw [kU_e]; exact e2) (by rw [kU_e]; exact b8)), ?_, ?_, hpe, ?_, ?_, ?_, ?_, ?_, ?_, ?_, ?_, hse, hst, ?_⟩
  · exact h.tw.same c0 (hK 0 (by decide)) (Nat.le_refl _) (fun _ _ => by rw [eA 3 (by decide) (by decide)]) (fun j h1 h2 => nq j (by omega) (by omega) (by omega))
  · exact h.wy.no (hK 1 (by decide)) c1 (Nat.le_of_eq (hK 0 (by decide)).symm) (eA 5 (by decide) (by decide)) (fun j h1 h2 => nq j (by omega) (by omega) (by omega))
  · exact h.pw.same c3 c2 (hK 3 (by decide)) (Nat.le_refl _) (fun _ _ => by rw [eA 9 (by decide) (by decide)]) (fun j h1 h2 => nq j (by omega) (by omega) (by omega)) hv
  · exact h.la.same c4 (hK 4 (by decide)) hk (fun _ _ => by rw [eA 11 (by decide) (by decide)]) (fun _ _ => by rw [eA 13 (by decide) (by decide)]) (fun j h1 h2 => nq j (by omega) (by omega) (by omega))
  · exact h.le.same c5 (hK 5 (by decide)) (Nat.le_of_eq (hK 0 (by decide)).symm) (Nat.le_refl _) (fun _ _ => by rw [eA 15 (by decide) (by decide)]) (fun j h1 h2 => nq j (by omega) (by omega) (by omega))
  · exact h.de.same c6 c0 (hK 6 (by decide)) (Nat.le_of_eq (hK 0 (by decide)).symm) hk (fun _ _ => by rw [eA 17 (by decide) (by decide)]) (fun j h1 h2 => nq j (by omega) (by omega) (by omega)) (fun t ht e => by rw [nq _ (by omega) (by omega) (by omega)]; exact e)
  · rw [eA 19 (by decide) (by decide)]
    exact h.pr.day c7 b8 (fun j h1 h2 => nq j (by omega) (by omega) (by omega))
  · exact h.gu.same (fun _ _ => by rw [eA 21 (by decide) (by decide)]) (fun j h1 h2 => nq j (by omega) (by omega) (by omega))
  · exact h.wt.same c11 (hK 11 (by decide)) (fun _ _ => by rw [eA 23 (by decide) (by decide)]) (fun j h1 h2 => nq j (by omega) (by omega) (by omega))
  · exact h.ta.same c10 (hK 10 (by decide)) (fun _ _ => by rw [eA 25 (by decide) (by decide)]) (fun j h1 h2 => nq j (by omega) (by omega) (by omega))
  · rw [eA 19 (by decide) (by decide)]
    exact h.ps.day h.pr c7 c2 b8 (fun j h1 h2 => nq j (by omega) (by omega) (by omega)) hsq
/-- the day, and who comes -/
theorem RelR.bring (h : RelR K S (T.2 55)) (b8 : K 8 + 1 ≤ 2000) : ∃ S' T' : FS, f_X7_bringTravellers (wI S 102 (S.1 102 + 1)) = some (0, S') ∧ (∀ k, l_X12_days_52 k FU (wA T 55 8 (T.2 55 8 + 1)) 0 = k T' (nI (K 2))) ∧ RelR (kU K 8 (K 8 + 1)) S' (T'.2 55) ∧ CX S S' ∧ MX T T' ∧ ∀ j : Nat, ¬ (110 ≤ j ∧ j < 390) → j ≠ 8 → T'.2 55 j = T.2 55 j := by
  obtain ⟨p1, p2, c2⟩ := h.ct 6 2 20 (by decide)
  have c0 := (h.ct 2 0 10 (by decide)).2.2
  obtain ⟨d1, d2, d3⟩ := h.ct 102 8 2000 (by decide)
  rw [d1, d2, nI_1]
  obtain ⟨S', T', r1, r2, r3, r4⟩ := bring_l (K := K) c2 c0 b8 FU 0 (wI S 102 (nI (K 8 + 1))) (wA T 55 8 (nI (K 8 + 1))) (Nat.zero_le _) (FU_lt (by omega)) wI_e (by rw [wA_e, pk_us]) (by rw [wA_e, pk_un (by omega)]; exact p2) (by rw [wI_2, wA_e]; exact BR.of h.pe c2 (fun j h1 h2 => pk_un (by omega)))
  have nj : ∀ j : Nat, ¬ (110 ≤ j ∧ j < 390 ∧ j % 14 = 2) → j ≠ 8 → T'.2 55 j = T.2 55 j := fun j h1 h2 => by rw [r1.2.2.2 j h1, wA_e, pk_un h2]
  have s7 : ∀ j : Nat, j % 14 ≠ 4 → S'.2 7 j = S.2 7 j := fun j hj => by rw [r1.1.2.2 j hj, wI_2]
  have sA : ∀ a : Nat, a ≠ 7 → S'.2 a = S.2 a := fun a ha => by rw [r1.1.2.1 a ha, wI_2]
  have sI : ∀ k : Nat, k ≠ 102 → S'.1 k = S.1 k := fun k hk => by rw [r1.1.1, wI_n hk]
  have cx : CX S S' := ⟨⟨sA _ (by decide), sA _ (by decide), sA _ (by decide), sA _ (by decide)⟩, sI _ (by decide), sI _ (by decide)⟩
  have tA : ∀ a : Nat, a ≠ 55 → T'.2 a = T.2 a := fun a ha => by rw [r1.2.2.1 a ha, wA_n ha]
  have tI : T'.1 = T.1 := by rw [r1.2.1]; rfl
  refine ⟨S', T', ?_, r4, ?_, cx, ⟨⟨tA _ (by decide), tA _ (by decide), tA _ (by decide), tA _ (by decide), tA _ (by decide)⟩, by rw [tI], by rw [tI]⟩, fun j h1 h2 => nj j (by omega) h2⟩
  · unfold f_X7_bringTravellers
    rw [fv_s, wI_n (by decide), p1]; exact r3 _
  · refine h.day b8 ⟨cx, fun k hk _ h4 => sI k h4, fun q _ hq => sA q (fun z => hq (by rw [z]; decide))⟩ (fun j h1 _ h3 => nj j (by omega) h3) ?_ ?_ ?_ r2.fin ?_ ?_ ?_ ?_
    · rw [sI _ (by decide), nj _ (by omega) (by decide)]; exact h.1.2
    · rw [r1.1.1, wI_e]
    · rw [r1.2.2.2 8 (by omega), wA_e, pk_us]
    · exact h.se.same c2 rfl (Nat.le_refl _) (fun p hp => nj _ (by omega) (by omega))
    · exact h.st.same c2 rfl (fun p hp => s7 _ (by omega)) (fun p hp => ⟨nj _ (by omega) (by omega), nj _ (by omega) (by omega)⟩)
    · intro x hx
      rcases hx with e | ⟨q, q1, q2, q3⟩
      · exact Or.inl e
      · exact Or.inr ⟨q, q1, q2, by rw [nj _ (by omega) (by omega)]; exact q3⟩
    · exact fun p hp => nj _ (by omega) (by omega)
/-- lent seals whose day is past -/
theorem back_l : ∀ (m i : Nat) (S T : FS), i ≤ K 3 → K 3 - i < m → RelR K S (T.2 55) → ∃ S' T' : FS, RelR K S' (T'.2 55) ∧ CX S S' ∧ MX T T' ∧ (∀ j : Nat, ¬ (390 ≤ j ∧ j < 510) → T'.2 55 j = T.2 55 j) ∧ (∀ k, l_X7_takeBackLent_10 (nI (K 3)) k m S (nI i) = k S' (nI (K 3))) ∧ ∀ k, l_X12_days_116 k m T (nI i) = k T' (nI (K 3)) := by
  intro m
  induction m with
  | zero => intro i S T _ hm; exact absurd hm (Nat.not_lt_zero _)
  | succ m ih =>
    intro i S T hi hm h
    obtain ⟨k1, k2, c3⟩ := h.ct 8 3 20 (by decide)
    obtain ⟨d1, d2, d3⟩ := h.ct 102 8 2000 (by decide)
    have c2 := (h.ct 6 2 20 (by decide)).2.2
    by_cases c : i < K 3
    · have lt := nI_lt c (show K 3 < 2 ^ 31 by omega)
      obtain ⟨i20, ⟨e0, e1, e2, e3, e4⟩, a1, a2⟩ := h.pwc c
      have il : p_X7_isLent S (nI i) = if T.2 55 (6 * i + 392) = -1 then 0 else 1 := by
        unfold p_X7_isLent; rw [g8_3 i20, e3]
      by_cases z : T.2 55 (6 * i + 392) = -1
      · obtain ⟨S', T', r1, r2, r3, r4, r5, r6⟩ := ih (i + 1) S T (by omega) (by omega) h
        refine ⟨S', T', r1, r2, r3, r4, fun k => ?_, fun k => ?_⟩
        · rw [l_X7_takeBackLent_10]
          simp only [lt, il, z, nI_1, ↓reduceIte]; exact r5 k
        · rw [l_X12_days_116]
          simp only [k2, lt, its_2 i20, fb_s, z, ltm1, nI_1, ↓reduceIte]; exact r6 k
      · have z2 : ¬ T.2 55 (6 * i + 392) < 0 := fun q => z (a2.mp q)
        by_cases y : T.2 55 (6 * i + 393) < nI (K 8)
        · have h2 : RelR K (wA (wA S 9 (6 * i + 3) (-1)) 9 (6 * i + 4) (-1)) ((wA (wA T 55 (6 * i + 392) (-1)) 55 (6 * i + 393) (-1)).2 55) := by
            simp only [wA_e]
            refine h.onW ((CQ.rf.wA (by decide) (by decide)).wA (by decide) (by decide)) ((NQ.rf.w (Or.inl (by omega))).w (Or.inl (by omega))) ?_ ?_
            · simp (disch := omega) only [pk_un, wA_1]; exact h.1.2
            · simp only [wA_e]; exact h.pw.lent c3 c2 c (Or.inl rfl) (fun _ => rfl)
          obtain ⟨S', T', r1, r2, r3, r4, r5, r6⟩ := ih (i + 1) _ _ (by omega) (by omega) h2
          refine ⟨S', T', r1, CX.tr ⟨⟨rfl, rfl, rfl, rfl⟩, rfl, rfl⟩ r2, MX.tr ⟨⟨rfl, rfl, rfl, rfl, rfl⟩, rfl, rfl⟩ r3, fun j hj => (r4 j hj).trans (by simp only [wA_e]; simp (disch := omega) only [pk_un]), fun k => ?_, fun k => ?_⟩
          · rw [l_X7_takeBackLent_10]
            unfold f_X7_setLent
            simp only [lt, il, z, i10, g8_4 i20, e4, d1, y, s8_3 i20, s8_4 i20, fl_s, fb_s, nI_1, ↓reduceIte]; exact r5 k
          · rw [l_X12_days_116]
            unfold f_X12_comesBack
            simp only [k2, lt, its_2 i20, its_3 i20, fb_s, z2, d2, y, makes_2 i20, makes_3 i20, nI_1, ↓reduceIte]; exact r6 k
        · obtain ⟨S', T', r1, r2, r3, r4, r5, r6⟩ := ih (i + 1) S T (by omega) (by omega) h
          refine ⟨S', T', r1, r2, r3, r4, fun k => ?_, fun k => ?_⟩
          · rw [l_X7_takeBackLent_10]
            simp only [lt, il, z, i10, g8_4 i20, e4, d1, y, nI_1, ↓reduceIte]; exact r5 k
          · rw [l_X12_days_116]
            simp only [k2, lt, its_2 i20, its_3 i20, fb_s, z2, d2, y, nI_1, ↓reduceIte]; exact r6 k
    · have ei : i = K 3 := by omega
      subst ei
      refine ⟨S, T, h, CX.rf, MX.rf, fun _ _ => rfl, fun k => ?_, fun k => ?_⟩
      · rw [l_X7_takeBackLent_10, if_neg (nI_nlt (Nat.le_refl _) (by omega))]
      · rw [l_X12_days_116, k2, if_neg (nI_nlt (Nat.le_refl _) (by omega))]
end DAY
