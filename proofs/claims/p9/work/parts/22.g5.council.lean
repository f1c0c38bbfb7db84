/-! ===== pure: promises ===== -/
section OP5
variable {K : Nat → Nat} {S T : FS} {za zb zc zd : Int32}
theorem FU_lt {k : Nat} (h : k < 5000) : k < FU := h
/-- promises alone -/
def PQ (K : Nat → Nat) (S T : FS) : Prop := K 7 ≤ 30 ∧ K 8 ≤ 2000 ∧ S.1 18 = nI (K 7) ∧ S.1 102 = nI (K 8) ∧ T.2 55 7 = nI (K 7) ∧ T.2 55 8 = nI (K 8) ∧ RPr K (S.2 19) (T.2 55)
theorem PQ.of (h : RelR K S (T.2 55)) : PQ K S T := by
  obtain ⟨k1, k2, k3⟩ := h.ct 18 7 30 (by decide)
  obtain ⟨d1, d2, d3⟩ := h.ct 102 8 2000 (by decide)
  exact ⟨k3, d3, k1, d1, k2, d2, h.pr⟩
theorem PQ.stn (h : PQ K S T) {k : Nat} (hk : k < K 7) : k < 30 ∧ ((p_X0_stands S (nI k) = 1 ∧ q_X12_stands T (nI k) = some 1 ∧ S.2 19 (5 * k + 4) = 0 ∧ T.2 55 (6 * k + 1810) = 0 ∧ T.2 55 (6 * k + 1811) = 0 ∧ ¬ T.2 55 (6 * k + 1808) < nI (K 8)) ∨ (p_X0_stands S (nI k) = 0 ∧ q_X12_stands T (nI k) = some 0 ∧ (T.2 55 (6 * k + 1808) < nI (K 8) ∨ S.2 19 (5 * k + 4) ≠ 0))) := by
  obtain ⟨c7, -, -, d1, -, d2, hr⟩ := h
  obtain ⟨⟨e0, e1, e2, e3⟩, f1, f2, -⟩ := hr k hk
  have k30 : k < 30 := by omega
  refine ⟨k30, ?_⟩
  unfold p_X0_stands q_X12_stands
  simp only [g18_4 k30, g18_2 k30, promised_4 k30, promised_5 k30, promised_2 k30, fb_s, d1, d2, e2]
  by_cases t : T.2 55 (6 * k + 1808) < nI (K 8)
  · right
    refine ⟨?_, ?_, Or.inl t⟩
    · split <;> simp only [t, ↓reduceIte]
    · split
      · split <;> simp only [t, ↓reduceIte]
      · rfl
  · have f3 := f2 t
    by_cases a : S.2 19 (5 * k + 4) = 0
    · left
      obtain ⟨b1, b2⟩ := f3.mp a
      simp only [a, b1, b2, t, ↓reduceIte]; exact ⟨trivial, trivial, trivial, trivial, trivial, fun q => q⟩
    · right
      refine ⟨by rw [if_neg a], ?_, Or.inr a⟩
      split
      · next b1 =>
        split
        · next b2 => exact absurd (f3.mpr ⟨b1, b2⟩) a
        · rfl
      · rfl
/-- one that stood ends on both sides: class e, model's columns -/
theorem PQ.lap {k : Nat} (h : PQ K S T) (hk : k < K 7) (s4 : T.2 55 (6 * k + 1810) = 0) : PQ K (wA S 19 (5 * k + 4) 1) (wA T 55 (6 * k + 1811) 1) := by
  obtain ⟨c7, c8, a1, a2, a3, a4, hr⟩ := h
  refine ⟨c7, c8, a1, a2, ?_, ?_, ?_⟩
  · rw [wA_e, pk_un (by omega)]; exact a3
  · rw [wA_e, pk_un (by omega)]; exact a4
  · rw [wA_e, wA_e]
    intro q hq
    have h1 := hr q hq
    by_cases e : q = k
    · subst e
      simp (disch := omega) only [pk_us, pk_un]
      refine ⟨h1.1, ⟨fun z => absurd z (by decide), fun z => by rw [s4] at z; exact absurd z (by decide)⟩, fun _ => ⟨fun z => absurd z (by decide), fun z => absurd z.2 (by decide)⟩, h1.2.2.2.1, h1.2.2.2.2.1, h1.2.2.2.2.2.1, ⟨1, by decide, rfl⟩, h1.2.2.2.2.2.2.2⟩
    · simp (disch := omega) only [pk_un]; exact h1
theorem PQ.lap2 {k : Nat} (h : PQ K S T) (hk : k < K 7) (hs : T.2 55 (6 * k + 1808) < nI (K 8) ∨ S.2 19 (5 * k + 4) ≠ 0) : PQ K S (wA T 55 (6 * k + 1811) 1) := by
  obtain ⟨c7, c8, a1, a2, a3, a4, hr⟩ := h
  refine ⟨c7, c8, a1, a2, ?_, ?_, ?_⟩
  · rw [wA_e, pk_un (by omega)]; exact a3
  · rw [wA_e, pk_un (by omega)]; exact a4
  · rw [wA_e]
    intro q hq
    have h1 := hr q hq
    by_cases e : q = k
    · subst e
      simp (disch := omega) only [pk_us, pk_un]
      refine ⟨h1.1, h1.2.1, fun z => ⟨fun y => ?_, fun y => absurd y.2 (by decide)⟩, h1.2.2.2⟩
      rcases hs with hs | hs
      · exact absurd hs z
      · exact absurd y hs
    · simp (disch := omega) only [pk_un]; exact h1
theorem PQ.brk {k : Nat} (h : PQ K S T) (hk : k < K 7) : PQ K (wA S 19 (5 * k + 4) 2) (wA T 55 (6 * k + 1810) 1) := by
  obtain ⟨c7, c8, a1, a2, a3, a4, hr⟩ := h
  refine ⟨c7, c8, a1, a2, ?_, ?_, ?_⟩
  · rw [wA_e, pk_un (by omega)]; exact a3
  · rw [wA_e, pk_un (by omega)]; exact a4
  · rw [wA_e, wA_e]
    intro q hq
    have h1 := hr q hq
    by_cases e : q = k
    · subst e
      simp (disch := omega) only [pk_us, pk_un]
      refine ⟨h1.1, trivial, fun _ => ⟨fun z => absurd z (by decide), fun z => absurd z.1 (by decide)⟩, h1.2.2.2.1, h1.2.2.2.2.1, h1.2.2.2.2.2.1, ⟨2, by decide, rfl⟩, ⟨1, by decide, rfl⟩⟩
    · simp (disch := omega) only [pk_un]; exact h1
/-- what stands behind a loop over promises: it stood before, and is of another person (or cause) -/
def PKp (K : Nat → Nat) (S T S' T' : FS) : Prop := ∀ k : Nat, k < K 7 → S'.2 19 (5 * k + 4) = 0 → S.2 19 (5 * k + 4) = 0
def FR (T T' : FS) : Prop := NQ 1806 1986 9 (T.2 55) (T'.2 55) ∧ MX T T' ∧ (∀ k : Nat, k < 30 → T'.2 55 (6 * k + 1806) = T.2 55 (6 * k + 1806) ∧ T'.2 55 (6 * k + 1807) = T.2 55 (6 * k + 1807) ∧ T'.2 55 (6 * k + 1808) = T.2 55 (6 * k + 1808)) ∧ T'.2 55 9 = T.2 55 9 ∧ ∀ k : Nat, k < 30 → T.2 55 (6 * k + 1811) = 1 → T'.2 55 (6 * k + 1811) = 1
theorem FR.rf : FR T T := ⟨NQ.rf, MX.rf, fun _ _ => ⟨rfl, rfl, rfl⟩, rfl, fun _ _ q => q⟩
theorem FR.w {T T' : FS} {k c : Nat} (h : FR T T') (hk : k < 30) (hc : c = 1810 ∨ c = 1811) : FR T (wA T' 55 (6 * k + c) 1) := by
  refine ⟨?_, h.2.1.tr ⟨⟨rfl, rfl, rfl, rfl, rfl⟩, rfl, rfl⟩, fun j hj => ?_, ?_, fun j hj z => ?_⟩
  · rw [wA_e]; exact h.1.w (Or.inl (by omega))
  · rw [wA_e, pk_un (by omega), pk_un (by omega), pk_un (by omega)]; exact h.2.2.1 j hj
  · rw [wA_e, pk_un (by omega)]; exact h.2.2.2.1
  · rw [wA_e]
    by_cases e : 6 * j + 1811 = 6 * k + c
    · rw [e, pk_us]
    · rw [pk_un e]; exact h.2.2.2.2 j hj z
def FC (S S' : FS) : Prop := CQ [19] 103 S S' ∧ S'.1 = S.1
theorem FC.w {S S' : FS} {j : Nat} {v : Int32} (h : FC S S') : FC S (wA S' 19 j v) := ⟨h.1.wA (by decide) (by decide), h.2⟩
theorem leave_loop {p : Nat} (hp : p < 20) : ∀ (m i : Nat) (S0 T0 S T : FS) (c : Int32), i ≤ K 7 → K 7 - i < m → PQ K S T → FC S0 S → FR T0 T → (∀ k : Nat, k < i → S.2 19 (5 * k + 4) = 0 → ¬ T.2 55 (6 * k + 1808) < nI (K 8) → T.2 55 (6 * k + 1806) ≠ nI p) →
    ∃ (S' T' : FS) (c' : Int32), PQ K S' T' ∧ FC S0 S' ∧ FR T0 T' ∧ (∀ k : Nat, k < K 7 → S'.2 19 (5 * k + 4) = 0 → S.2 19 (5 * k + 4) = 0 ∧ (¬ T'.2 55 (6 * k + 1808) < nI (K 8) → T'.2 55 (6 * k + 1806) ≠ nI p)) ∧ (∀ k, l_X0_endAllOf_14 (nI p) 1 (nI (K 7)) k m S c (nI i) = k S' c' (nI (K 7))) ∧ ∀ k, l_X12_leaves_10 (nI p) k m T (nI i) = k T' (nI (K 7)) := by
  intro m
  induction m with
  | zero => intro i S0 T0 S T c hi hm; exact absurd hm (Nat.not_lt_zero _)
  | succ m ih =>
    intro i S0 T0 S T c hi hm hq fc fr hd
    obtain ⟨c7, c8, a1, a2, a3, a4, hr⟩ := id hq
    by_cases ci : i < K 7
    · obtain ⟨i30, hs⟩ := hq.stn ci
      have e0 : S.2 19 (5 * i) = T.2 55 (6 * i + 1806) := (hr i ci).1.1
      by_cases cp : T.2 55 (6 * i + 1806) = nI p
      · rcases hs with ⟨s1, s2, s3, s4, s5, s6⟩ | ⟨s1, s2, s3⟩
        · obtain ⟨S', T', c', r1, r2, r3, r4, r5, r6⟩ := ih (i + 1) S0 T0 _ _ (c + 1) (by omega) (by omega) (hq.lap ci s4) fc.w (fr.w i30 (Or.inr rfl)) (by
            intro k hk
            rw [wA_e, wA_e]
            by_cases e : k = i
            · subst e; rw [pk_us]; exact fun z => absurd z (by decide)
            · simp (disch := omega) only [pk_un]; exact hd k (by omega))
          refine ⟨S', T', c', r1, r2, r3, fun k hk z => ?_, fun k => ?_, fun k => ?_⟩
          · obtain ⟨y1, y2⟩ := r4 k hk z
            refine ⟨?_, y2⟩
            rw [wA_e] at y1
            by_cases e : k = i
            · subst e; rw [pk_us] at y1; exact absurd y1 (by decide)
            · rw [pk_un (by omega)] at y1; exact y1
          · rw [l_X0_endAllOf_14, if_pos (nI_lt ci (by omega)), s1, if_neg (by decide), g18_0 i30, e0, if_pos cp, fl_s, s18_4 i30, nI_1]; exact r5 k
          · rw [l_X12_leaves_10, a3, if_pos (nI_lt ci (by omega)), promised_0 i30, fb_s, if_pos cp, ixQ_5 i30, fb_s, fl_s, nI_1]; exact r6 k
        · obtain ⟨S', T', c', r1, r2, r3, r4, r5, r6⟩ := ih (i + 1) S0 T0 _ _ c (by omega) (by omega) (hq.lap2 ci s3) fc (fr.w i30 (Or.inr rfl)) (by
            intro k hk
            rw [wA_e]
            by_cases e : k = i
            · subst e
              simp (disch := omega) only [pk_un]
              intro z1 z2
              rcases s3 with s3 | s3
              · exact absurd s3 z2
              · exact absurd z1 s3
            · simp (disch := omega) only [pk_un]; exact hd k (by omega))
          refine ⟨S', T', c', r1, r2, r3, r4, fun k => ?_, fun k => ?_⟩
          · rw [l_X0_endAllOf_14, if_pos (nI_lt ci (by omega)), s1, if_pos rfl, nI_1]; exact r5 k
          · rw [l_X12_leaves_10, a3, if_pos (nI_lt ci (by omega)), promised_0 i30, fb_s, if_pos cp, ixQ_5 i30, fb_s, fl_s, nI_1]; exact r6 k
      · obtain ⟨S', T', c', r1, r2, r3, r4, r5, r6⟩ := ih (i + 1) S0 T0 _ _ c (by omega) (by omega) hq fc fr (by
          intro k hk z1 z2
          by_cases e : k = i
          · subst e; exact cp
          · exact hd k (by omega) z1 z2)
        refine ⟨S', T', c', r1, r2, r3, r4, fun k => ?_, fun k => ?_⟩
        · rw [l_X0_endAllOf_14, if_pos (nI_lt ci (by omega)), g18_0 i30, e0, if_neg cp, nI_1]
          rcases hs with ⟨s1, -⟩ | ⟨s1, -⟩ <;> rw [s1]
          · rw [if_neg (by decide)]; exact r5 k
          · rw [if_pos rfl]; exact r5 k
        · rw [l_X12_leaves_10, a3, if_pos (nI_lt ci (by omega)), promised_0 i30, fb_s, if_neg cp, nI_1]; exact r6 k
    · have ei : i = K 7 := by omega
      subst ei
      refine ⟨S, T, c, hq, fc, fr, fun k hk z => ⟨z, fun y => hd k hk z y⟩, fun k => ?_, fun k => ?_⟩
      · rw [l_X0_endAllOf_14, if_neg (nI_nlt (Nat.le_refl _) (by omega))]
      · rw [l_X12_leaves_10, a3, if_neg (nI_nlt (Nat.le_refl _) (by omega))]
end OP5
