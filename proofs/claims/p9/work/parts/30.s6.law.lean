/-! ===== pure: a whole text; a law ===== -/
section LAWT
variable {K : Nat → Nat} {S T S' T' : FS} {b : Nat → Int32} {L : Nat} {za zb : Int32}
theorem tape_ok (ht : TP b L S T) : (∃ (q : Nat) (S' T' : FS), q ≤ 60 ∧ f_X6_readTape S = some (nI q, S') ∧ CK S S' ∧ f_X12_reads T = some (0, T') ∧ T'.1 12 = nI q ∧ MK T T') ∨ ∃ (u : Nat) (S' T' : FS), u ≤ 60 ∧ f_X6_readTape S = some (-1, S') ∧ CK S S' ∧ S'.1 28 = nI u ∧ f_X12_reads T = some (1, T') ∧ MK T T' ∧ T'.1 10 = nI u ∧ (∀ j : Nat, j < u → cdM (S'.2 29 j) (T'.2 60 j)) ∧ cdH (S'.2 29) u = some 1 := by
  have hL := ht.1
  have hC : CO S 0 0 (wI (wI (wI S 28 0) 105 0) 106 (-1)) := by
    refine ⟨⟨fun k k1 k2 k3 => ?_, fun _ _ => rfl, 0, by omega, ?_⟩, ?_, wI_e, ?_⟩
    · rw [wI_n k3, wI_n k2, wI_n k1]
    · rw [wI_n (by decide), wI_n (by decide), wI_e]; rfl
    · rw [wI_n (by decide), wI_e]; rfl
    · rw [wI_n (by decide), wI_n (by decide), wI_e]; rfl
  have hM : MO T 0 0 0 (wI (wI (wI T 10 0) 11 0) 12 0) := by
    refine ⟨⟨fun k k1 k2 k3 => ?_, fun _ _ _ => rfl⟩, wI_e, ?_, ?_⟩
    · rw [wI_n k3, wI_n k2, wI_n k1]
    · rw [wI_n (by decide), wI_n (by decide), wI_e]; rfl
    · rw [wI_n (by decide), wI_e]; rfl
  have hat : AT L S T 0 0 0 0 (wI (wI (wI S 28 0) 105 0) 106 (-1)) (wI (wI (wI T 10 0) 11 0) 12 0) := ⟨hC, hM, ⟨Nat.le_refl _, Nat.zero_le _, Nat.le_refl _⟩, fun j hj => absurd hj (Nat.not_lt_zero _), rfl⟩
  obtain ⟨S5, e, r⟩ := (lev_0 ht).2 0 0 0 0 _ _ hat (Or.inl rfl) rfl
  have ec : f_X6_readTape S = if S5.1 105 < S5.1 24 then fb (f_X6_fail S5) (fun r8 => some (r8.2.1 106, r8.2)) else some (S5.1 106, S5) := by
    unfold f_X6_readTape
    rw [fl_s, fl_s, fl_s, e, fb_s]
  have em : f_X12_reads T = l_X12_reads_17 FU (wI (wI (wI T 10 0) 11 0) 12 0) 1 := by
    unfold f_X12_reads
    rw [fl_s, fl_s, fl_s]
  rcases r with ⟨q, n, T1, ⟨b1, b2, b3⟩, b4, b5, b6, b7⟩ | ⟨q, n, um, hm, T1, ⟨g1, g2⟩, g3, g4, g5⟩
  · left
    rw [show FU = n + (5000 - n) from by show 5000 = _; omega, b5] at em
    by_cases c : S5.1 105 < S5.1 24
    · obtain ⟨S6, f1, f2⟩ := fail_b ht b4
      rw [if_pos c, f1, fb_s] at ec
      have ec' : f_X6_readTape S = some (S6.1 106, S6) := ec
      rw [f2.2.2] at ec'
      exact ⟨q, S6, T1, by omega, ec', f2.1, em, b6, b7⟩
    · rw [if_neg c] at ec
      rcases b4 with b4 | ⟨⟨d1, -⟩, d2, d3, d4, -⟩
      · rw [b4.2.2] at ec
        exact ⟨q, S5, T1, by omega, ec, b4.1, em, b6, b7⟩
      · rw [d2, d1 24 (by decide) (by decide) (by decide), ht.2.1.1] at c
        exact absurd (nI_lt d4 (by omega)) c
  · have g4' := g4
    obtain ⟨⟨a1, a2, a3⟩, a4, a5, a6, a7, a8, a9, a10⟩ := g4
    have no : ¬ hO (T1.2 61) hm := fun z => by
      obtain ⟨j, j1, j2⟩ := z
      have := (a10 j (Nat.zero_le _) j1).1
      rw [j2] at this
      exact absurd this (by decide)
    rw [show FU = n + (1 + (4999 - n)) from by show 5000 = _; omega, g3] at em
    have e24 : S5.1 24 = nI L := (a4.1.1 24 (by decide) (by decide) (by decide)).trans ht.2.1.1
    by_cases c : q < L
    · left
      rw [tail_b ht g4' g5 (Or.inr ⟨c, fun _ => no⟩)] at em
      obtain ⟨S6, f1, f2⟩ := fail_o a4 (by omega)
      rw [a4.2.1, e24, if_pos (nI_lt c (by omega)), f1, fb_s] at ec
      have ec' : f_X6_readTape S = some (S6.1 106, S6) := ec
      rw [f2.2.2] at ec'
      exact ⟨q, S6, T1, by omega, ec', f2.1, em, a5.2.1, a5.1⟩
    · right
      rw [a4.2.1, e24, if_neg (nI_nlt (by omega) (by omega)), a4.2.2.1] at ec
      obtain ⟨T2, t1, t2, t3, t4, t5⟩ := sdn_o (r := 1) (h := 0) a5 (Nat.zero_le _) (by omega) (fun j j1 j2 => by
        have := (a10 j j1 j2).1
        rw [show (1 : Int32) = nI 1 from rfl, rk_lt (by omega)]; omega) (Or.inl rfl)
      have hb : bt b L q = -1 := if_neg c
      rw [Nat.add_comm 1, l_X12_reads_17, byt_o ht a5 (by omega), fb_s, if_pos rfl, hb, if_pos (by decide)] at em
      rcases ho_o a5 (by omega) with ⟨z1, -⟩ | ⟨-, z2⟩
      · exact absurd z1 no
      · rw [z2, fb_s, if_pos rfl, t1, fb_s] at em
        refine ⟨um + (hm - 0), S5, T2, by omega, ec, a4.1, a4.2.2.2, em, t2.1, t2.2.2.1, fun j hj => ?_, a8⟩
        by_cases z : j < um
        · rw [t4 j z]; exact a6 j z
        · have e1 := t5 (j - um) (by omega)
          have e2 := a7 (j - um) (by omega)
          rw [show um + (j - um) = j by omega] at e1 e2
          rw [e1]; exact e2
/-- the codes go over -/
theorem cpy_c {l u : Nat} {r6 : Int32 × FS} (hl : l < 12) (hu : u ≤ 60) (hr : r6.1 = nI l) : ∀ (m i : Nat) (S : FS), i ≤ u → u - i < m → ∃ S' : FS, (∀ k : FS → Int32 → Option (Int32 × FS), l_X2_enact_118 r6 (nI u) k m S (nI i) = k S' (nI u)) ∧ S'.1 = S.1 ∧ (∀ a : Nat, a ≠ 13 → S'.2 a = S.2 a) ∧ (∀ j : Nat, j < 60 * l + i → S'.2 13 j = S.2 13 j) ∧ ∀ t : Nat, i ≤ t → t < u → S'.2 13 (60 * l + t) = S.2 29 t := by
  intro m
  induction m with
  | zero => intro i S _ h0; exact absurd h0 (Nat.not_lt_zero _)
  | succ m ih =>
    intro i S hi hf
    by_cases c : i < u
    · have ew : fP 12 12 60 S r6.1 (nI i) (fG 28 60 1 S (nI i) 0) = wA S 13 (60 * l + i) (S.2 29 i) := by
        rw [hr, g28_0 (by omega)]
        exact (fP_nI (by decide) (by decide) (by decide) hl (by omega)).trans (congrArg (fun q => wA S 13 q (S.2 29 i)) (by omega))
      obtain ⟨S', e1, e2, e3, e4, e5⟩ := ih (i + 1) (wA S 13 (60 * l + i) (S.2 29 i)) (by omega) (by omega)
      refine ⟨S', fun k => ?_, e2.trans wA_1, fun a ha => (e3 a ha).trans (wA_n ha), fun j hj => ?_, fun t t1 t2 => ?_⟩
      · rw [l_X2_enact_118, if_pos (nI_lt c (by omega)), ew, fl_s, nI_1]; exact e1 k
      · rw [e4 j (by omega), wA_e, pk_un (by omega)]
      · by_cases z : t = i
        · subst z; rw [e4 _ (by omega), wA_e, pk_us]
        · rw [e5 t (by omega) t2, wA_n (by decide)]
    · obtain rfl : i = u := by omega
      refine ⟨S, fun k => ?_, rfl, fun _ _ => rfl, fun _ _ => rfl, fun t t1 t2 => absurd t2 (by omega)⟩
      rw [l_X2_enact_118, if_neg (nI_nlt (Nat.le_refl _) (by omega))]
theorem cpy_m {l u : Nat} {x : Int32} (hl : l < 12) (hu : u ≤ 60) (hx : x = (510 : Int32) + (65 : Int32) * nI l) : ∀ (m i : Nat) (T : FS), i ≤ u → u - i < m → T.1 10 = nI u → ∃ T' : FS, (∀ k : FS → Int32 → Option (Int32 × FS), l_X12_law_148 x k m T (nI i) = k T' (nI u)) ∧ T'.1 = T.1 ∧ (∀ a : Nat, a ≠ 55 → T'.2 a = T.2 a) ∧ (∀ j : Nat, (j < 65 * l + 515 + i ∨ 65 * l + 515 + u ≤ j) → T'.2 55 j = T.2 55 j) ∧ ∀ t : Nat, i ≤ t → t < u → T'.2 55 (65 * l + (515 + t)) = T.2 60 t := by
  intro m
  induction m with
  | zero => intro i T _ h0; exact absurd h0 (Nat.not_lt_zero _)
  | succ m ih =>
    intro i T hi hf h10
    by_cases c : i < u
    · have ei : ix 2071 ((x + 5) + nI i) = some (65 * l + 515 + i) := by
        rw [hx, show (510 : Int32) = nI 510 from rfl, show (65 : Int32) = nI 65 from rfl, show (5 : Int32) = nI 5 from rfl, pk_mul, nI_add, nI_add, nI_add, show 510 + 65 * l + 5 + i = 65 * l + 515 + i by omega]
        exact ix_nI (by omega) (by decide)
      obtain ⟨T', e1, e2, e3, e4, e5⟩ := ih (i + 1) (wA T 55 (65 * l + 515 + i) (T.2 60 i)) (by omega) (by omega) h10
      refine ⟨T', fun k => ?_, e2.trans wA_1, fun a ha => (e3 a ha).trans (wA_n ha), fun j hj => ?_, fun t t1 t2 => ?_⟩
      · rw [l_X12_law_148, h10, if_pos (nI_lt c (by omega)), ix_nI (show i < 60 by omega) (by decide), fb_s, ei, fb_s, fl_s, nI_1]; exact e1 k
      · rw [e4 j (by omega), wA_e, pk_un (by omega)]
      · by_cases z : t = i
        · subst z; rw [e4 _ (by omega), wA_e, show 65 * l + (515 + t) = 65 * l + 515 + t by omega, pk_us]
        · rw [e5 t (by omega) t2, wA_n (by decide)]
    · obtain rfl : i = u := by omega
      refine ⟨T, fun k => ?_, rfl, fun _ _ => rfl, fun _ _ => rfl, fun t t1 t2 => absurd t2 (by omega)⟩
      rw [l_X12_law_148, h10, if_neg (nI_nlt (Nat.le_refl _) (by omega))]
theorem law_c {l u d8 : Nat} (hl : l < 12) (hu : u ≤ 60) (hr : f_X6_readTape S = some (-1, S')) (k10 : S'.1 10 = nI l) (k28 : S'.1 28 = nI u) (k102 : S'.1 102 = nI d8) : ∃ S1 : FS, f_X2_enact S za zb = some (nI l, S1) ∧ (∀ k : Nat, k ≠ 10 → k ≠ 24 → S1.1 k = S'.1 k) ∧ S1.1 10 = nI (l + 1) ∧ S1.1 24 = 0 ∧ (∀ a : Nat, a ≠ 11 → a ≠ 13 → S1.2 a = S'.2 a) ∧ (∀ j : Nat, j < 6 * l → S1.2 11 j = S'.2 11 j) ∧ (S1.2 11 (6 * l) = za ∧ S1.2 11 (6 * l + 1) = zb ∧ S1.2 11 (6 * l + 2) = nI d8 ∧ S1.2 11 (6 * l + 3) = -1 ∧ S1.2 11 (6 * l + 4) = nI u) ∧ (∀ j : Nat, j < 60 * l → S1.2 13 j = S'.2 13 j) ∧ ∀ t : Nat, t < u → S1.2 13 (60 * l + t) = S'.2 29 t := by
  have e10 : (wI S' 24 0).1 10 = nI l := (wI_n (by decide)).trans k10
  have e28 : (ui (wI S' 24 0).1 10 (nI (l + 1))) 28 = nI u := (ui_ne (by decide)).trans ((wI_n (by decide)).trans k28)
  have e102 : (ui (wI S' 24 0).1 10 (nI (l + 1))) 102 = nI d8 := (ui_ne (by decide)).trans ((wI_n (by decide)).trans k102)
  generalize hA : ((ui (wI S' 24 0).1 10 (nI (l + 1)), ua (wI S' 24 0).2 (10 + 1) (pm_apf 6 l za ((wI S' 24 0).2 (10 + 1)))) : FS) = A
  have a28 : A.1 28 = nI u := by rw [← hA]; exact e28
  have a102 : A.1 102 = nI d8 := by rw [← hA]; exact e102
  have a10 : A.1 10 = nI (l + 1) := by
    rw [← hA]
    show ui (wI S' 24 0).1 10 (nI (l + 1)) 10 = _
    exact ui_eq
  have a24 : A.1 24 = 0 := by
    rw [← hA]
    show ui (wI S' 24 0).1 10 (nI (l + 1)) 24 = _
    exact (ui_ne (by decide)).trans wI_e
  have ak : ∀ k : Nat, k ≠ 10 → k ≠ 24 → A.1 k = S'.1 k := fun k k1 k2 => by rw [← hA]; exact (ui_ne k1).trans (wI_n k2)
  have aa : ∀ a : Nat, a ≠ 11 → A.2 a = S'.2 a := fun a a1 => by rw [← hA]; exact ua_ne a1
  have a11 : A.2 11 = pm_apf 6 l za (S'.2 11) := by
    rw [← hA]
    show ua (wI S' 24 0).2 (10 + 1) (pm_apf 6 l za ((wI S' 24 0).2 (10 + 1))) 11 = _
    exact ua_eq
  obtain ⟨S3, c1, c2, c3, c4, c5⟩ := cpy_c (r6 := (nI l, A)) hl hu rfl FU 0 (wA (wA (wA (wA A 11 (6 * l + 1) zb) 11 (6 * l + 2) (nI d8)) 11 (6 * l + 3) (-1)) 11 (6 * l + 4) (nI u)) (Nat.zero_le _) (FU_lt (by omega))
  have s28 : S3.1 28 = nI u := by rw [c2]; exact a28
  obtain ⟨x17, hx⟩ : ∃ x17 : Int32, qRows 28 60 1 S3 0 (-30) = some x17 := by
    unfold qRows
    rw [s28, iN_nI (by decide) hu, fb_s]
    exact ⟨_, rfl⟩
  have f11 : S3.2 11 = upd (upd (upd (upd (pm_apf 6 l za (S'.2 11)) (6 * l + 1) zb) (6 * l + 2) (nI d8)) (6 * l + 3) (-1)) (6 * l + 4) (nI u) := by
    rw [c3 11 (by decide), wA_e, wA_e, wA_e, wA_e, a11]
  refine ⟨wA S3 11 (6 * l + 5) x17, ?_, fun k k1 k2 => ?_, ?_, ?_, fun a a1 a2 => ?_, fun j hj => ?_, ⟨?_, ?_, ?_, ?_, ?_⟩, fun j hj => ?_, fun t ht => ?_⟩
  · unfold f_X2_enact
    rw [hr, fb_s]
    show fl (wI S' 24 0) (fun S3 => if (-1 : Int32) < 0 then _ else _) = _
    rw [fl_s, if_pos (by decide), fApp_f e10 hl (by decide), fb_s]
    show fv ((((ui (wI S' 24 0).1 10 (nI (l + 1)), ua (wI S' 24 0).2 (10 + 1) (pm_apf 6 l za ((wI S' 24 0).2 (10 + 1)))) : FS)).1 28) _ = _
    rw [hA, fv_s, a28]
    show fl (fP 10 12 6 A (nI l) 1 zb) _ = _
    rw [s10_1 hl, fl_s, s10_2 hl, fl_s, s10_3 hl, fl_s, s10_4 hl, fl_s]
    rw [show (wA A 11 (6 * l + 1) zb).1 102 = nI d8 from a102]
    refine (c1 _).trans ?_
    show fb (qRows 28 60 1 S3 0 (-30)) _ = _
    rw [hx, fb_s]
    show fl (fP 10 12 6 S3 (nI l) 5 x17) _ = _
    rw [s10_5 hl, fl_s]
  · rw [wA_1, c2]; exact ak k k1 k2
  · rw [wA_1, c2]; exact a10
  · rw [wA_1, c2]; exact a24
  · rw [wA_n a1, c3 a a2, wA_n a1, wA_n a1, wA_n a1, wA_n a1]; exact aa a a1
  · rw [wA_e, f11]; simp (disch := omega) only [pk_un, apf_o]
  · rw [wA_e, f11]; simp (disch := omega) only [pk_un, apf_0]
  · rw [wA_e, f11]; simp (disch := omega) only [pk_un, pk_us]
  · rw [wA_e, f11]; simp (disch := omega) only [pk_un, pk_us]
  · rw [wA_e, f11]; simp (disch := omega) only [pk_un, pk_us]
  · rw [wA_e, f11]; simp (disch := omega) only [pk_un, pk_us]
  · rw [wA_n (by decide), c4 j (by omega), wA_n (by decide), wA_n (by decide), wA_n (by decide), wA_n (by decide), aa 13 (by decide)]
  · rw [wA_n (by decide), c5 t (Nat.zero_le _) ht, wA_n (by decide), wA_n (by decide), wA_n (by decide), wA_n (by decide), aa 29 (by decide)]
theorem law_m {l u : Nat} (hl : l < 12) (hu : u ≤ 60) (h10 : T'.1 10 = nI u) (h4 : T'.2 55 4 = nI l) : ∃ T1 : FS, (fl (wA T' 55 10 0) (fun S9 => fv (510 + (65 * nI l)) (fun x11 =>
     fl (wA S9 55 4 ((S9.2 55 4) + 1)) (fun S12 =>
     fb (ix 2071 x11) (fun j13 =>
     fl (wA S12 55 j13 za) (fun S14 =>
     fb (ix 2071 (x11 + 1)) (fun j15 =>
     fl (wA S14 55 j15 zb) (fun S16 =>
     fb (ix 2071 (x11 + 2)) (fun j17 =>
     fl (wA S16 55 j17 (S16.2 55 8)) (fun S18 =>
     fb (ix 2071 (x11 + 3)) (fun j19 =>
     fl (wA S18 55 j19 (-1)) (fun S20 =>
     fb (ix 2071 (x11 + 4)) (fun j21 =>
     fl (wA S20 55 j21 (S20.1 10)) (fun S22 =>
     l_X12_law_148 x11 (fun S28 x28_6 =>
     some (nI l, S28)) FU S22 0)))))))))))))) = some (nI l, T1) ∧ T1.1 = T'.1 ∧ (∀ a : Nat, a ≠ 55 → T1.2 a = T'.2 a) ∧ (∀ j : Nat, j ≠ 4 → j ≠ 10 → (j < 65 * l + 510 ∨ 65 * l + 575 ≤ j) → T1.2 55 j = T'.2 55 j) ∧ T1.2 55 4 = nI (l + 1) ∧ T1.2 55 10 = 0 ∧ (T1.2 55 (65 * l + 510) = za ∧ T1.2 55 (65 * l + 511) = zb ∧ T1.2 55 (65 * l + 512) = T'.2 55 8 ∧ T1.2 55 (65 * l + 513) = -1 ∧ T1.2 55 (65 * l + 514) = nI u) ∧ ∀ t : Nat, t < u → T1.2 55 (65 * l + (515 + t)) = T'.2 60 t := by
  have w4 : (wA T' 55 10 0).2 55 4 + 1 = nI (l + 1) := by rw [wA_e, pk_un (by decide), h4, nI_1]
  generalize hA : wA (wA (wA T' 55 10 0) 55 4 (nI (l + 1))) 55 (65 * l + 510) za = A
  have w8 : (wA A 55 (65 * l + 511) zb).2 55 8 = T'.2 55 8 := by
    rw [← hA, wA_e, wA_e, wA_e, wA_e]; simp (disch := omega) only [pk_un]
  have w10 : (wA (wA (wA A 55 (65 * l + 511) zb) 55 (65 * l + 512) (T'.2 55 8)) 55 (65 * l + 513) (-1)).1 10 = nI u := by
    rw [wA_1, wA_1, wA_1, ← hA, wA_1, wA_1, wA_1]; exact h10
  generalize hB : wA (wA (wA (wA A 55 (65 * l + 511) zb) 55 (65 * l + 512) (T'.2 55 8)) 55 (65 * l + 513) (-1)) 55 (65 * l + 514) (nI u) = B
  have b1 : B.1 = T'.1 := by rw [← hB, ← hA]; rfl
  have b2 : ∀ a : Nat, a ≠ 55 → B.2 a = T'.2 a := fun a ha => by rw [← hB, wA_n ha, wA_n ha, wA_n ha, wA_n ha, ← hA, wA_n ha, wA_n ha, wA_n ha]
  have b3 : B.2 55 = upd (upd (upd (upd (upd (upd (upd (T'.2 55) 10 0) 4 (nI (l + 1))) (65 * l + 510) za) (65 * l + 511) zb) (65 * l + 512) (T'.2 55 8)) (65 * l + 513) (-1)) (65 * l + 514) (nI u) := by
    rw [← hB, wA_e, wA_e, wA_e, wA_e, ← hA, wA_e, wA_e, wA_e]
  obtain ⟨T1, c1, c2, c3, c4, c5⟩ := cpy_m (l := l) (u := u) hl hu rfl FU 0 B (Nat.zero_le _) (FU_lt (by omega)) (by rw [b1]; exact h10)
  refine ⟨T1, ?_, c2.trans b1, fun a ha => (c3 a ha).trans (b2 a ha), fun j j1 j2 j3 => ?_, ?_, ?_, ⟨?_, ?_, ?_, ?_, ?_⟩, fun t ht => ?_⟩
  · rw [fl_s, fv_s, w4, fl_s, ixL_0 hl, fb_s, hA, fl_s, ixL_1 hl, fb_s, fl_s, ixL_2 hl, fb_s, w8, fl_s, ixL_3 hl, fb_s, fl_s, ixL_4 hl, fb_s, w10, hB, fl_s]
    exact c1 _
  · rw [c4 j (by omega), b3]; simp (disch := omega) only [pk_un]
  · rw [c4 4 (by omega), b3]; simp (disch := omega) only [pk_un, pk_us]
  · rw [c4 10 (by omega), b3]; simp (disch := omega) only [pk_un, pk_us]
  · rw [c4 _ (by omega), b3]; simp (disch := omega) only [pk_un, pk_us]
  · rw [c4 _ (by omega), b3]; simp (disch := omega) only [pk_un, pk_us]
  · rw [c4 _ (by omega), b3]; simp (disch := omega) only [pk_un, pk_us]
  · rw [c4 _ (by omega), b3]; simp (disch := omega) only [pk_un, pk_us]
  · rw [c4 _ (by omega), b3]; simp (disch := omega) only [pk_un, pk_us]
  · rw [c5 t (Nat.zero_le _) ht, b2 60 (by decide)]
theorem CK.ce (h : CK S S') : CE S S' := by
  have a := h.2.1
  refine ⟨⟨⟨a 49 (by decide), a 50 (by decide), a 52 (by decide), a 47 (by decide)⟩, h.1 115 (by decide) (by decide) (by decide), h.1 100 (by decide) (by decide) (by decide)⟩, fun k hk => ?_, fun q hq => a q (fun e => by subst e; revert hq; decide)⟩
  exact h.1 k (fun e => by subst e; revert hk; decide) (fun e => by subst e; revert hk; decide) (fun e => by subst e; revert hk; decide)
theorem op_law (h : RelR K S (T.2 55)) : OK2 S T (f_X11_law S za zb) (f_X12_law T za zb) := by
  unfold f_X11_law f_X12_law p_X12_isDay
  simp only [fb_id]
  obtain ⟨k1, k2, c4⟩ := h.ct 10 4 12 (by decide)
  obtain ⟨t1, t2, c10⟩ := h.ct 24 10 60 (by decide)
  obtain ⟨d1, d2, d3⟩ := h.ct 102 8 2000 (by decide)
  rcases out_c za 0 4 with ⟨a1, a2⟩ | ⟨a1, a2⟩
  · rcases out_c zb 0 2000 with ⟨b1, b2⟩ | ⟨b1, b2⟩
    · simp only [a1, a2, b1, b2, i10, ↓reduceIte]
      rw [fv_s, k2]
      by_cases c : K 4 = 12
      · rw [fFull_t k1 (by omega) (by omega), if_neg (by decide), if_pos (by rw [c]; rfl)]; exact ok_4 h
      · rw [fFull_f k1 (by omega) (by decide), if_pos rfl, if_neg (fun q => c (nI_inj (by omega) (by decide) (q.trans (show (12 : Int32) = nI 12 from rfl))))]
        have hl : K 4 < 12 := by omega
        have ht : TP (fun j => T.2 55 (j + 1991)) (K 10) S T := ⟨c10, ⟨t1, fun j hj => (h.ta j hj).1⟩, ⟨t2, fun _ _ => rfl⟩, fun j hj => (h.ta j hj).2⟩
        have h0 : ∀ {S' : FS}, CE S S' → RelR (kU K 10 0) (wI S' 24 0) (upd (T.2 55) 10 0) := fun {S'} ce => by
          refine (h.ce ce).onA_10z (CQ.rf.wI (Or.inr rfl) (by decide) (by decide)) (NQ.rf.w (Or.inr (Or.inr rfl))) (fun i hi => kU_n hi) ?_ (onct 24 10 60 (by decide) ?_ ?_ (by rw [kU_e]; omega)) ?_
          · rw [wI_n (by decide), pk_un (by decide)]; exact (h.ce ce).1.2
          · rw [wI_e, kU_e]; rfl
          · rw [pk_us, kU_e]; rfl
          · intro j hj; rw [kU_e] at hj; exact absurd hj (Nat.not_lt_zero _)
        rcases tape_ok ht with ⟨q, S', T', q60, r1, r2, r3, r4, r5⟩ | ⟨u, S', T', u60, r1, r2, r3, r4, r5, r6, r7, r8⟩
        · have e1 : f_X2_enact S za zb = some (-10 - nI q, wI S' 24 0) := by
            unfold f_X2_enact
            rw [r1, fb_s]
            show fl (wI S' 24 0) (fun S3 => if nI q < 0 then _ else some (-10 - nI q, S3)) = _
            rw [fl_s, if_neg (nI_pos (by omega))]
          rw [e1, r3, fb_s, fb_s]
          show OK2 S T (f_X11_told (wI S' 24 0) (-10 - nI q)) (fl (wA T' 55 10 0) (fun S9 => if (0 : Int32) = 0 then some (-10 - S9.1 12, S9) else _))
          rw [fl_s, if_pos rfl, show (wA T' 55 10 0).1 12 = nI q from r4]
          refine okt (K := kU K 10 0) ?_ (r2.ce.1.tr (CQ.rf.wI (as := []) (s := 24) (Or.inr rfl) (by decide) (by decide)).1) ⟨⟨?_, ?_, ?_, ?_, ?_⟩, ?_, ?_⟩
          · rw [wA_e, r5.2 55 (by decide) (by decide)]; exact h0 r2.ce
          · rw [wA_n (by decide)]; exact r5.2 56 (by decide) (by decide)
          · rw [wA_n (by decide)]; exact r5.2 69 (by decide) (by decide)
          · rw [wA_n (by decide)]; exact r5.2 70 (by decide) (by decide)
          · rw [wA_n (by decide)]; exact r5.2 71 (by decide) (by decide)
          · rw [wA_n (by decide)]; exact r5.2 72 (by decide) (by decide)
          · exact r5.1 22 (by decide) (by decide) (by decide)
          · exact r5.1 3 (by decide) (by decide) (by decide)
        · have q10 : S'.1 10 = nI (K 4) := (r2.1 10 (by decide) (by decide) (by decide)).trans k1
          have q102 : S'.1 102 = nI (K 8) := (r2.1 102 (by decide) (by decide) (by decide)).trans d1
          have e55 : T'.2 55 = T.2 55 := r5.2 55 (by decide) (by decide)
          obtain ⟨S1, s1, s2, s3, s4, s5, s6, ⟨s7, s8, s9, s10, s11⟩, s12, s13⟩ := law_c (za := za) (zb := zb) hl u60 r1 q10 r3 q102
          obtain ⟨T1, m1, m2, m3, m4, m5, m6, ⟨m7, m8, m9, m10, m11⟩, m12⟩ := law_m (za := za) (zb := zb) hl u60 r6 (by rw [e55]; exact k2)
          rw [s1, r4, fb_s, fb_s]
          have em : fl (wA T' 55 10 0) (fun S9 => if (1 : Int32) = 0 then some (-10 - S9.1 12, S9) else fv (510 + (65 * nI (K 4))) (fun x11 => fl (wA S9 55 4 ((S9.2 55 4) + 1)) (fun S12 => fb (ix 2071 x11) (fun j13 => fl (wA S12 55 j13 za) (fun S14 => fb (ix 2071 (x11 + 1)) (fun j15 => fl (wA S14 55 j15 zb) (fun S16 => fb (ix 2071 (x11 + 2)) (fun j17 => fl (wA S16 55 j17 (S16.2 55 8)) (fun S18 => fb (ix 2071 (x11 + 3)) (fun j19 => fl (wA S18 55 j19 (-1)) (fun S20 => fb (ix 2071 (x11 + 4)) (fun j21 => fl (wA S20 55 j21 (S20.1 10)) (fun S22 => l_X12_law_148 x11 (fun S28 x28_6 => some (nI (K 4), S28)) FU S22 0))))))))))))) = some (nI (K 4), T1) := by
            rw [← m1, fl_s, fl_s, if_neg (by decide)]
          show OK2 S T (f_X11_told S1 (nI (K 4))) (fl (wA T' 55 10 0) _)
          refine (show OK2 S T (f_X11_told S1 (nI (K 4))) (some (nI (K 4), T1)) → _ from fun z => ?_) ?_
          · rw [← em] at z; exact z
          rw [e55] at m4 m9
          have hce := r2.ce
          have cq : CQ [11, 13] 10 (wI S' 24 0) S1 := by
            refine ⟨⟨⟨s5 49 (by decide) (by decide), s5 50 (by decide) (by decide), s5 52 (by decide) (by decide), s5 47 (by decide) (by decide)⟩, (s2 115 (by decide) (by decide)).trans (wI_n (by decide)).symm, (s2 100 (by decide) (by decide)).trans (wI_n (by decide)).symm⟩, fun k hk k3 k4 => ?_, fun q hq hn => ?_⟩
            · by_cases z : k = 24
              · subst z; rw [s4, wI_e]
              · rw [s2 k k4 z, wI_n z]
            · exact s5 q (fun e => hn (by rw [e]; decide)) (fun e => hn (by rw [e]; decide))
          refine okt (K := kU (kU K 10 0) 4 (K 4 + 1)) ?_ (hce.1.tr ⟨⟨s5 49 (by decide) (by decide), s5 50 (by decide) (by decide), s5 52 (by decide) (by decide), s5 47 (by decide) (by decide)⟩, s2 115 (by decide) (by decide), s2 100 (by decide) (by decide)⟩) ⟨⟨(m3 56 (by decide)).trans (r5.2 56 (by decide) (by decide)), (m3 69 (by decide)).trans (r5.2 69 (by decide) (by decide)), (m3 70 (by decide)).trans (r5.2 70 (by decide) (by decide)), (m3 71 (by decide)).trans (r5.2 71 (by decide) (by decide)), (m3 72 (by decide)).trans (r5.2 72 (by decide) (by decide))⟩, by rw [m2]; exact r5.1 22 (by decide) (by decide) (by decide), by rw [m2]; exact r5.1 3 (by decide) (by decide) (by decide)⟩
          have e8 : kU (kU K 10 0) 4 (K 4 + 1) 8 = K 8 := (kU_n (by decide)).trans (kU_n (by decide))
          refine (h0 hce).onL_4 cq (fun j j1 j2 j3 => ?_) (fun i hi => kU_n hi) ?_ ?_ (onct 10 4 12 (by decide) ?_ ?_ ?_) ?_
          · by_cases z : j = 10
            · subst z; rw [m6, pk_us]
            · rw [m4 j j3 z (by omega), pk_un z]
          · rw [kU_e, kU_n (by decide)]; omega
          · rw [s2 103 (by decide) (by decide), m4 9 (by decide) (by decide) (by omega)]; exact (h.ce hce).1.2
          · rw [s3, kU_e]
          · rw [m5, kU_e]
          · rw [kU_e]; omega
          · intro m hm
            rw [kU_e] at hm
            rw [e8]
            by_cases z : m = K 4
            · subst z
              rw [s7, s8, s9, s10, s11, m7, m8, m9, m10, m11, d2]
              refine ⟨⟨rfl, rfl, rfl, rfl⟩, ⟨K 8, Nat.le_refl _, rfl, fun l' hl' => ?_⟩, Or.inl rfl, u, u60, rfl, rfl, fun i hi => ?_, ?_⟩
              · obtain ⟨-, ⟨d, g2, g3, -⟩, -⟩ := h.la l' hl'
                exact ⟨d, g2, by rw [m4 _ (by omega) (by omega) (by omega)]; exact g3⟩
              · rw [s13 i hi, m12 i hi]; exact r7 i hi
              · rw [← r8]; exact cdH_cg u (fun i hi => s13 i hi)
            · obtain ⟨g1, ⟨d, g2, g3, g4⟩, g5, e, g6, g7, g8, g9, g10⟩ := h.la m (by omega)
              have sn : ∀ j : Nat, j < 6 * K 4 → S1.2 11 j = S.2 11 j := fun j hj => (s6 j hj).trans (by rw [r2.2.1 11 (by decide)])
              have s3n : ∀ i : Nat, i < e → S1.2 13 (60 * m + i) = S.2 13 (60 * m + i) := fun i hi => (s12 _ (by omega)).trans (by rw [r2.2.1 13 (by decide)])
              have mn : ∀ j : Nat, 510 ≤ j → j < 65 * K 4 + 510 → T1.2 55 j = T.2 55 j := fun j j1 j2 => m4 j (by omega) (by omega) (by omega)
              rw [sn _ (by omega), sn _ (by omega), sn _ (by omega), sn _ (by omega), sn _ (by omega), mn _ (by omega) (by omega), mn _ (by omega) (by omega), mn _ (by omega) (by omega), mn _ (by omega) (by omega), mn _ (by omega) (by omega)]
              refine ⟨g1, ⟨d, g2, g3, fun l' hl' => ?_⟩, g5, e, g6, g7, g8, fun i hi => ?_, ?_⟩
              · rw [mn _ (by omega) (by omega)]; exact g4 l' hl'
              · rw [s3n i hi, mn _ (by omega) (by omega)]; exact g9 i hi
              · rw [← g10]; exact cdH_cg e (fun i hi => s3n i hi)
    · simp only [a1, a2, b1, b2, i10, ↓reduceIte]; exact ok_1 h
  · simp only [a1, a2, ↓reduceIte]; exact ok_1 h
end LAWT
