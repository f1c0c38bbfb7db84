/-! ===== pure: debts are served; days ===== -/
section DEB
variable {K : Nat → Nat} {S T : FS} {za zb zc zd : Int32}
theorem upd_up {f : Nat → Int32} {k : Nat} {x y : Int32} : upd (upd f k x) k y = upd f k y := by
  funext j
  by_cases c : j = k
  · subst c; rw [pk_us, pk_us]
  · rw [pk_un c, pk_un c, pk_un c]
theorem RelR.owe (h : RelR K S (T.2 55)) {d : Nat} (hd : d < K 6) (x : Int32) : RelR K (wA S 17 (5 * d) x) ((wA T 55 (6 * d + 1770) x).2 55) := by
  have c6 := (h.ct 16 6 6 (by decide)).2.2
  have c0 := (h.ct 2 0 10 (by decide)).2.2
  rw [wA_e]
  refine h.onD (CQ.rf.wA (by decide) (by decide)) (NQ.rf.w (Or.inl (by omega))) ?_ ?_
  · rw [wA_1, pk_un (by omega)]; exact h.1.2
  · rw [wA_e]
    intro q hq
    obtain ⟨h1, t, m', t1, t2, m1, m2, m3⟩ := h.de q hq
    by_cases e : q = d
    · subst e
      simp (disch := omega) only [pk_us, pk_un]
      exact ⟨⟨trivial, h1.2⟩, t, m', t1, t2, m1, m2, m3⟩
    · simp (disch := omega) only [pk_un]
      exact ⟨h1, t, m', t1, t2, m1, m2, m3⟩
def pyIn (kk : FS → Option (Int32 × FS)) (x48 : Int32) (j49 : Nat) (X : FS) (x : Int32) : Option (Int32 × FS) :=
  if (X.2 55 9) < x then (fb (ix 2071 (x48 + 3)) (fun j91 =>
       fl (wA X 55 j91 ((X.2 55 j91) + 1)) (fun S92 =>
       if (S92.2 55 j91) = 2 then (fb (ix 2071 (x48 + 4)) (fun j94 =>
        fb (ix 2071 ((20 + (3 * (S92.2 55 j94))) + 2)) (fun j95 =>
        fl (wA S92 55 j95 1) (fun S96 => kk S96)))) else (kk S92)))) else (fl (wA X 55 9 ((X.2 55 9) - x)) (fun S97 =>
       fl (wA S97 55 j49 ((S97.2 55 j49) - x)) (fun S98 => kk S98)))
def svIn (kk : FS → Option (Int32 × FS)) (x48 : Int32) (j49 : Nat) (X : FS) : Option (Int32 × FS) :=
  fb (ix 2071 (x48 + 2)) (fun j77 => if (X.2 55 j49) < (X.2 55 j77) then fv (X.2 55 j49) (fun x => pyIn kk x48 j49 X x) else fv (X.2 55 j77) (fun x => pyIn kk x48 j49 X x))
theorem q180_e {k : FS → Int32 → Option (Int32 × FS)} {m : Nat} {x : Int32} : l_X12_quarter_180 k (m + 1) T x = if x < (T.2 55 6) then (fv (1770 + (6 * x)) (fun x48 =>
    fb (ix 2071 x48) (fun j49 =>
    fb (ix 2071 (x48 + 1)) (fun j50 =>
    fv ((T.2 55 j49) + (((T.2 55 j49) * (T.2 55 j50)) / 100)) (fun x51 =>
    if x51 < 999999 then fl (wA T 55 j49 x51) (fun X => svIn (fun Y => l_X12_quarter_180 k m Y (x + 1)) x48 j49 X) else fl (wA T 55 j49 999999) (fun X => svIn (fun Y => l_X12_quarter_180 k m Y (x + 1)) x48 j49 X)))))) else (k T x) := by
  rw [l_X12_quarter_180]; rfl
theorem py_e {kk : FS → Option (Int32 × FS)} {i t mm : Nat} {x y : Int32} (hi : i < 6) (ht : t < 10) (et : T.2 55 (6 * i + 1774) = nI t) (em : T.2 55 (6 * i + 1773) = nI mm) : pyIn kk (1770 + 6 * nI i) (6 * i + 1770) (wA T 55 (6 * i + 1770) y) x = if T.2 55 9 < x then (if nI (mm + 1) = 2 then kk (wA (wA (wA T 55 (6 * i + 1770) y) 55 (6 * i + 1773) (nI (mm + 1))) 55 (3 * t + 22) 1) else kk (wA (wA T 55 (6 * i + 1770) y) 55 (6 * i + 1773) (nI (mm + 1)))) else kk (wA (wA (wA T 55 (6 * i + 1770) y) 55 9 (T.2 55 9 - x)) 55 (6 * i + 1770) (y - x)) := by
  unfold pyIn
  have a9 : (wA T 55 (6 * i + 1770) y).2 55 9 = T.2 55 9 := by rw [wA_e, pk_un (by omega)]
  have a3 : (wA T 55 (6 * i + 1770) y).2 55 (6 * i + 1773) = nI mm := by rw [wA_e, pk_un (by omega), em]
  rw [a9, ixD_3 hi]
  simp only [fb_s, fl_s, a3, nI_1, ixD_4 hi]
  have b3 : (wA (wA T 55 (6 * i + 1770) y) 55 (6 * i + 1773) (nI (mm + 1))).2 55 (6 * i + 1773) = nI (mm + 1) := by rw [wA_e, pk_us]
  have b4 : (wA (wA T 55 (6 * i + 1770) y) 55 (6 * i + 1773) (nI (mm + 1))).2 55 (6 * i + 1774) = nI t := by rw [wA_e, wA_e, pk_un (by omega), pk_un (by omega), et]
  have b0 : (wA (wA T 55 (6 * i + 1770) y) 55 9 (T.2 55 9 - x)).2 55 (6 * i + 1770) = y := by rw [wA_e, wA_e, pk_un (by omega), pk_us]
  rw [b3, b4, b0, ixT_2 ht, fb_s]
theorem serve_l : ∀ (m i : Nat) (S T : FS), i ≤ K 6 → K 6 - i < m → RelR K S (T.2 55) → (∀ d : Nat, i ≤ d → d < K 6 → ∃ mm : Nat, T.2 55 (6 * d + 1773) = nI mm ∧ mm + 1 ≤ K 8) → ∃ S' T' : FS, RelR K S' (T'.2 55) ∧ CX S S' ∧ MX T T' ∧ (∀ k, l_X7_serveDebts_10 (nI (K 6)) k m S (nI i) = k S' (nI (K 6))) ∧ ∀ k, l_X12_quarter_180 k m T (nI i) = k T' (nI (K 6)) := by
  intro m
  induction m with
  | zero => intro i S T _ hm; exact absurd hm (Nat.not_lt_zero _)
  | succ m ih =>
    intro i S T hi hm h hmm
    obtain ⟨k1, k2, c6⟩ := h.ct 16 6 6 (by decide)
    have c0 := (h.ct 2 0 10 (by decide)).2.2
    have c8 := (h.ct 102 8 2000 (by decide)).2.2
    have ch : S.1 103 = T.2 55 9 := h.1.2
    by_cases c : i < K 6
    · have lt := nI_lt c (show K 6 < 2 ^ 31 by omega)
      have i6 : i < 6 := by omega
      obtain ⟨⟨e0, e1, e2, e3, e4⟩, t, mm0, t1, t2, m1, m2, m3⟩ := h.de i c
      obtain ⟨mm, em, hm1⟩ := hmm i (Nat.le_refl _) c
      obtain rfl : mm0 = mm := nI_inj (by omega) (by omega) (m2.symm.trans em)
      have t10 : t < 10 := by omega
      have step : ∀ y : Int32, y = imin 999999 (T.2 55 (6 * i + 1770) + T.2 55 (6 * i + 1770) * T.2 55 (6 * i + 1771) / 100) → ∃ S' T' : FS, RelR K S' (T'.2 55) ∧ CX S S' ∧ MX T T' ∧ (∀ k, l_X7_serveDebts_10 (nI (K 6)) k (m + 1) S (nI i) = k S' (nI (K 6))) ∧ ∀ k, svIn (fun Y => l_X12_quarter_180 k m Y (nI (i + 1))) (1770 + 6 * nI i) (6 * i + 1770) (wA T 55 (6 * i + 1770) y) = k T' (nI (K 6)) := by
        intro y hy
        have sv : ∀ kk : FS → Option (Int32 × FS), svIn kk (1770 + 6 * nI i) (6 * i + 1770) (wA T 55 (6 * i + 1770) y) = pyIn kk (1770 + 6 * nI i) (6 * i + 1770) (wA T 55 (6 * i + 1770) y) (imin y (T.2 55 (6 * i + 1772))) := fun kk => by
          unfold svIn
          have a0 : (wA T 55 (6 * i + 1770) y).2 55 (6 * i + 1770) = y := by rw [wA_e, pk_us]
          have a2 : (wA T 55 (6 * i + 1770) y).2 55 (6 * i + 1772) = T.2 55 (6 * i + 1772) := by rw [wA_e, pk_un (by omega)]
          rw [ixD_2 i6, fb_s, a0, a2, fv_s, fv_s, imin_e]
          by_cases z : y < T.2 55 (6 * i + 1772)
          · rw [if_pos z, if_pos z]
          · rw [if_neg z, if_neg z]
        simp only [sv, py_e i6 t10 t2 m2]
        have cl : ∀ k, l_X7_serveDebts_10 (nI (K 6)) k (m + 1) S (nI i) = if T.2 55 9 < imin y (T.2 55 (6 * i + 1772)) then (if nI (mm0 + 1) < 2 then l_X7_serveDebts_10 (nI (K 6)) k m (wA (wA S 17 (5 * i) y) 17 (5 * i + 4) (nI (mm0 + 1))) (nI (i + 1)) else l_X7_serveDebts_10 (nI (K 6)) k m (wA (wA (wA S 17 (5 * i) y) 17 (5 * i + 4) (nI (mm0 + 1))) 3 (3 * t + 2) 1) (nI (i + 1))) else l_X7_serveDebts_10 (nI (K 6)) k m (wA (wI S 103 (T.2 55 9 - imin y (T.2 55 (6 * i + 1772)))) 17 (5 * i) (y - imin y (T.2 55 (6 * i + 1772)))) (nI (i + 1)) := fun k => by
          rw [l_X7_serveDebts_10]
          unfold f_X7_missOnce
          have a4 : (wA S 17 (5 * i) y).2 17 (5 * i + 4) = nI mm0 := by rw [wA_e, pk_un (by omega), e4, m2]
          have b4 : (wA (wA S 17 (5 * i) y) 17 (5 * i + 4) (nI (mm0 + 1))).2 17 (5 * i + 4) = nI (mm0 + 1) := by rw [wA_e, pk_us]
          have b3 : (wA (wA S 17 (5 * i) y) 17 (5 * i + 4) (nI (mm0 + 1))).2 17 (5 * i + 3) = nI t := by rw [wA_e, wA_e, pk_un (by omega), pk_un (by omega), e3, t2]
          simp only [lt, fv_s, fl_s, g16_0 i6, g16_1 i6, g16_2 i6, e0, e1, e2, ← hy, ch, s16_0 i6, s16_4 i6, g16_4 i6, a4, nI_1, b4, g16_3 i6, b3, s2_2 t10, ↓reduceIte]
          by_cases z3 : T.2 55 9 < imin y (T.2 55 (6 * i + 1772))
          · rw [if_pos z3, if_pos z3]
            by_cases z4 : nI (mm0 + 1) < 2
            · rw [if_pos z4, if_pos z4, fb_s]
            · rw [if_neg z4, if_neg z4, fb_s]
          · rw [if_neg z3, if_neg z3]
        simp only [cl]
        generalize imin y (T.2 55 (6 * i + 1772)) = x
        have nx : ∀ T2 : FS, (∀ d : Nat, i + 1 ≤ d → d < K 6 → T2.2 55 (6 * d + 1773) = T.2 55 (6 * d + 1773)) → ∀ d : Nat, i + 1 ≤ d → d < K 6 → ∃ mm : Nat, T2.2 55 (6 * d + 1773) = nI mm ∧ mm + 1 ≤ K 8 := fun T2 q d h1 h2 => by rw [q d h1 h2]; exact hmm d (by omega) h2
        by_cases z3 : T.2 55 9 < x
        · simp only [z3, ↓reduceIte]
          by_cases z4 : mm0 + 1 < 2
          · have z4' : nI (mm0 + 1) < 2 := nI_lt (b := 2) z4 (by decide)
            have z5 : ¬ nI (mm0 + 1) = 2 := fun q => by rw [q] at z4'; exact absurd z4' (by decide)
            simp only [z4', z5, ↓reduceIte]
            obtain ⟨S', T', r1, r2, r3, r4, r5⟩ := ih (i + 1) _ _ (by omega) (by omega) (h.dw c hm1 y (fun q => absurd q (by omega))) (nx _ (fun d h1 h2 => by simp only [wA_e]; simp (disch := omega) only [pk_un]))
            exact ⟨S', T', r1, CX.tr ⟨⟨rfl, rfl, rfl, rfl⟩, rfl, rfl⟩ r2, MX.tr ⟨⟨rfl, rfl, rfl, rfl, rfl⟩, rfl, rfl⟩ r3, r4, r5⟩
          · have z4' : ¬ nI (mm0 + 1) < 2 := nI_nlt (b := 2) (by omega) (by omega)
            have hf : RelR K (wA (wA (wA S 17 (5 * i) y) 17 (5 * i + 4) (nI (mm0 + 1))) 3 (3 * t + 2) 1) (upd (upd (upd (T.2 55) (3 * t + 22) 1) (6 * i + 1770) y) (6 * i + 1773) (nI (mm0 + 1))) := by
              have h2 := (h.forf t1).dw (d := i) (m := mm0 + 1) c hm1 y (fun _ t' ht' e' => by
                rw [wA_e, pk_un (by omega), t2] at e'
                rw [← nI_inj (by omega) (by omega) e', wA_e, pk_us])
              simp only [wA_e] at h2
              rw [wA_cm (a := 17) (b := 3) (by decide), wA_cm (a := 17) (b := 3) (by decide)]
              exact h2
            simp only [z4', ↓reduceIte]
            by_cases z5 : nI (mm0 + 1) = 2
            · simp only [z5, ↓reduceIte]
              rw [z5] at hf
              obtain ⟨S', T', r1, r2, r3, r4, r5⟩ := ih (i + 1) _ (wA (wA (wA T 55 (6 * i + 1770) y) 55 (6 * i + 1773) 2) 55 (3 * t + 22) 1) (by omega) (by omega) (by
                simp only [wA_e]
                rw [upd_cm (a := 6 * i + 1773) (b := 3 * t + 22) (by omega), upd_cm (a := 6 * i + 1770) (b := 3 * t + 22) (by omega)]
                exact hf) (nx _ (fun d h1 h2 => by simp only [wA_e]; simp (disch := omega) only [pk_un]))
              exact ⟨S', T', r1, CX.tr ⟨⟨rfl, rfl, rfl, rfl⟩, rfl, rfl⟩ r2, MX.tr ⟨⟨rfl, rfl, rfl, rfl, rfl⟩, rfl, rfl⟩ r3, r4, r5⟩
            · simp only [z5, ↓reduceIte]
              have m2' : 2 ≤ mm0 := by
                apply Classical.byContradiction
                intro q
                exact z5 (by rw [show mm0 + 1 = 2 by omega]; rfl)
              rw [upd_id (m3 m2')] at hf
              obtain ⟨S', T', r1, r2, r3, r4, r5⟩ := ih (i + 1) _ (wA (wA T 55 (6 * i + 1770) y) 55 (6 * i + 1773) (nI (mm0 + 1))) (by omega) (by omega) (by simp only [wA_e]; exact hf) (nx _ (fun d h1 h2 => by simp only [wA_e]; simp (disch := omega) only [pk_un]))
              exact ⟨S', T', r1, CX.tr ⟨⟨rfl, rfl, rfl, rfl⟩, rfl, rfl⟩ r2, MX.tr ⟨⟨rfl, rfl, rfl, rfl, rfl⟩, rfl, rfl⟩ r3, r4, r5⟩
        · simp only [z3, ↓reduceIte]
          have h2 := (h.chest (T.2 55 9 - x)).owe c (y - x)
          obtain ⟨S', T', r1, r2, r3, r4, r5⟩ := ih (i + 1) _ (wA (wA (wA T 55 (6 * i + 1770) y) 55 9 (T.2 55 9 - x)) 55 (6 * i + 1770) (y - x)) (by omega) (by omega) (by
            simp only [wA_e] at h2 ⊢
            rw [upd_cm (a := 6 * i + 1770) (b := 9) (by omega), upd_up]
            exact h2) (nx _ (fun d h1 h2 => by simp only [wA_e]; simp (disch := omega) only [pk_un]))
          exact ⟨S', T', r1, CX.tr ⟨⟨rfl, rfl, rfl, rfl⟩, rfl, rfl⟩ r2, MX.tr ⟨⟨rfl, rfl, rfl, rfl, rfl⟩, rfl, rfl⟩ r3, r4, r5⟩
      have mo : ∀ k, l_X12_quarter_180 k (m + 1) T (nI i) = svIn (fun Y => l_X12_quarter_180 k m Y (nI (i + 1))) (1770 + 6 * nI i) (6 * i + 1770) (wA T 55 (6 * i + 1770) (imin 999999 (T.2 55 (6 * i + 1770) + T.2 55 (6 * i + 1770) * T.2 55 (6 * i + 1771) / 100))) := fun k => by
        rw [q180_e]
        simp only [k2, lt, fv_s, fl_s, ixD_0 i6, ixD_1 i6, fb_s, nI_1, imin, ↓reduceIte]
        by_cases z : T.2 55 (6 * i + 1770) + T.2 55 (6 * i + 1770) * T.2 55 (6 * i + 1771) / 100 < 999999
        · rw [if_pos z, if_pos z]
        · rw [if_neg z, if_neg z]
      simp only [mo]
      exact step _ rfl
    · have ei : i = K 6 := by omega
      subst ei
      refine ⟨S, T, h, CX.rf, MX.rf, fun k => ?_, fun k => ?_⟩
      · rw [l_X7_serveDebts_10, if_neg (nI_nlt (Nat.le_refl _) (by omega))]
      · rw [l_X12_quarter_180, k2, if_neg (nI_nlt (Nat.le_refl _) (by omega))]
/-- a day -/
theorem RelR.oneDay (h : RelR K S (T.2 55)) (b8 : K 8 + 1 ≤ 2000) : ∃ (S' T' : FS), f_X7_endDay S = some (0, S') ∧ RelR (kU K 8 (K 8 + 1)) S' (T'.2 55) ∧ CX S S' ∧ MX T T' ∧ ∀ kk : FS → Option (Int32 × FS), l_X12_days_52 (fun S23 _ => l_X12_days_116 (fun S34 _ => if ((S34.2 55 8) - (S34.2 55 8) / 90 * 90) = 0 then (fb (f_X12_quarter S34) (fun r37 => kk r37.2)) else kk S34) FU S23 0) FU (wA T 55 8 (T.2 55 8 + 1)) 0 = kk T' := by
  obtain ⟨S1, T1, a1, a2, a3, a4, a5, a6⟩ := h.bring b8
  obtain ⟨-, -, c3⟩ := a3.ct 8 3 20 (by decide)
  have c6 := (h.ct 16 6 6 (by decide)).2.2
  obtain ⟨S2, T2, b1, b2, b3, b4, b5, b6⟩ := back_l (K := kU K 8 (K 8 + 1)) FU 0 S1 T1 (Nat.zero_le _) (FU_lt (by omega)) a3
  obtain ⟨d1, d2, d3⟩ := b1.ct 102 8 2000 (by decide)
  have q1 := (a3.ct 8 3 20 (by decide)).1
  have tk : f_X7_takeBackLent S1 = some (0, S2) := by
    unfold f_X7_takeBackLent
    rw [fv_s, q1]; exact b5 _
  unfold f_X7_endDay
  simp only [fl_s, a1, fb_s, tk, d1]
  by_cases z : nI (kU K 8 (K 8 + 1) 8) - nI (kU K 8 (K 8 + 1) 8) / 90 * 90 = 0
  · have cc0 := (b1.ct 2 0 10 (by decide))
    have cc2 := (b1.ct 6 2 20 (by decide))
    obtain ⟨S3, T3, f1, f2, f3, f4, f5, f6⟩ := rent_l (K := kU K 8 (K 8 + 1)) FU 0 S2 T2 (Nat.zero_le _) (FU_lt (by omega)) b1
    have cr : f_X7_collectRents S2 = some (0, S3) := by
      unfold f_X7_collectRents
      rw [fv_s, cc0.1]; exact f5 _
    obtain ⟨S4, T4, g1, g2, g3, g4, g5, g6⟩ := men_l (K := kU K 8 (K 8 + 1)) FU 0 S3 T3 (Nat.zero_le _) (FU_lt (by omega)) f1
    have pm : f_X7_payMen S3 = some (0, S4) := by
      unfold f_X7_payMen
      rw [fv_s, (f1.ct 6 2 20 (by decide)).1]; exact g5 _
    obtain ⟨S5, T5, i1, i2, i3, i4, i5⟩ := serve_l (K := kU K 8 (K 8 + 1)) FU 0 S4 T4 (Nat.zero_le _) (FU_lt (by have := (g1.ct 16 6 6 (by decide)).2.2; omega)) g1 (fun d _ hd => by
      have hd6 : d < K 6 := hd
      obtain ⟨-, t, mm, -, -, m1, m2, -⟩ := h.de d hd6
      refine ⟨mm, ?_, by rw [kU_e]; omega⟩
      rw [g4 _ (by omega), f4 _ (by omega) (by omega), b4 _ (by omega), a6 _ (by omega) (by omega)]; exact m2)
    have sd : f_X7_serveDebts S4 = some (0, S5) := by
      unfold f_X7_serveDebts
      rw [fv_s, (g1.ct 16 6 6 (by decide)).1]; exact i4 _
    refine ⟨S5, T5, ?_, i1, ((((a4.tr b2).tr f2).tr g2).tr i2), ((((a5.tr b3).tr f3).tr g3).tr i3), fun kk => ?_⟩
    · simp only [z, ↓reduceIte, cr, pm, sd, fb_s]
    · rw [a2]
      rw [show ∀ k, l_X12_days_116 k FU T1 0 = k T2 (nI (kU K 8 (K 8 + 1) 3)) from b6]
      simp only [d2, z, ↓reduceIte]
      unfold f_X12_quarter
      rw [show ∀ k, l_X12_quarter_2 k FU T2 0 = k T3 (nI (kU K 8 (K 8 + 1) 0)) from f6, show ∀ k, l_X12_quarter_103 k FU T3 0 = k T4 (nI (kU K 8 (K 8 + 1) 2)) from g6, show ∀ k, l_X12_quarter_180 k FU T4 0 = k T5 (nI (kU K 8 (K 8 + 1) 6)) from i5, fb_s]
  · refine ⟨S2, T2, ?_, b1, a4.tr b2, a5.tr b3, fun kk => ?_⟩
    · simp only [z, ↓reduceIte]
    · rw [a2]
      rw [show ∀ k, l_X12_days_116 k FU T1 0 = k T2 (nI (kU K 8 (K 8 + 1) 3)) from b6]
      simp only [d2, z, ↓reduceIte]
theorem days_l {c : Nat} (hc : c ≤ 400) : ∀ (m i : Nat) (K : Nat → Nat) (S T : FS), i ≤ c → c - i < m → K 8 + (c - i) ≤ 2000 → RelR K S (T.2 55) → ∃ (K' : Nat → Nat) (S' T' : FS), RelR K' S' (T'.2 55) ∧ CX S S' ∧ MX T T' ∧ (∀ k, l_X11_days_35 (nI c) k m S (nI i) = k S' (nI c)) ∧ ∀ k, l_X12_days_34 (nI c) k m T (nI i) = k T' (nI c) := by
  intro m
  induction m with
  | zero => intro i K S T _ hm; exact absurd hm (Nat.not_lt_zero _)
  | succ m ih =>
    intro i K S T hi hm hb h
    by_cases ci : i < c
    · obtain ⟨S1, T1, a1, a2, a3, a4, a5⟩ := h.oneDay (by omega)
      obtain ⟨K', S', T', r1, r2, r3, r4, r5⟩ := ih (i + 1) (kU K 8 (K 8 + 1)) S1 T1 (by omega) (by omega) (by rw [kU_e]; omega) a2
      refine ⟨K', S', T', r1, a3.tr r2, a4.tr r3, fun k => ?_, fun k => ?_⟩
      · rw [l_X11_days_35, if_pos (nI_lt ci (by omega)), a1, fb_s, nI_1]; exact r4 k
      · rw [l_X12_days_34, if_pos (nI_lt ci (by omega)), fl_s]
        rw [← r5 k, nI_1]
        exact a5 (fun X => l_X12_days_34 (nI c) k m X (nI (i + 1)))
    · have ei : i = c := by omega
      subst ei
      refine ⟨K, S, T, h, CX.rf, MX.rf, fun k => ?_, fun k => ?_⟩
      · rw [l_X11_days_35, if_neg (nI_nlt (Nat.le_refl _) (by omega))]
      · rw [l_X12_days_34, if_neg (nI_nlt (Nat.le_refl _) (by omega))]
theorem op_days (h : RelR K S (T.2 55)) : OK2 S T (f_X11_days S za) (f_X12_days T za) := by
  unfold f_X11_days f_X12_days
  simp only [fb_id]
  obtain ⟨d1, d2, d3⟩ := h.ct 102 8 2000 (by decide)
  rcases out_c za 1 400 with ⟨b1, b2⟩ | ⟨b1, b2⟩
  · obtain ⟨c, hc, rfl⟩ := out_n 1 400 rfl rfl (by decide) (by decide) b1
    simp only [b1, b2, i10, d1, d2, nI_add, ↓reduceIte]
    by_cases z : 2000 < K 8 + c
    · have z' : (2000 : Int32) < nI (K 8 + c) := nI_lt (a := 2000) z (by omega)
      rw [if_pos z', if_pos z']; exact ok_1 h
    · have z' : ¬ (2000 : Int32) < nI (K 8 + c) := nI_nlt (a := 2000) (by omega) (by decide)
      rw [if_neg z', if_neg z']
      obtain ⟨K', S', T', r1, r2, r3, r4, r5⟩ := days_l (c := c) hc.2 FU 0 K S T (Nat.zero_le _) (FU_lt (by omega)) (by omega) h
      rw [show ∀ k, l_X11_days_35 (nI c) k FU S 0 = k S' (nI c) from r4, show ∀ k, l_X12_days_34 (nI c) k FU T 0 = k T' (nI c) from r5]
      obtain ⟨y1, y2, -⟩ := r1.ct 102 8 2000 (by decide)
      rw [y1, y2]
      exact ok0 r1 r2 r3
  · simp only [b1, b2, ↓reduceIte]
    rw [if_neg (by decide)]; exact ok_1 h
end DEB
