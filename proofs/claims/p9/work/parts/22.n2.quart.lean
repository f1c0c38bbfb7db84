/-! ===== pure: a quarter ===== -/
section QUA
variable {K : Nat → Nat} {S T : FS} {za zb zc zd : Int32}
theorem RelR.chest (h : RelR K S (T.2 55)) (v : Int32) : RelR K (wI S 103 v) ((wA T 55 9 v).2 55) := by
  have c2 := (h.ct 6 2 20 (by decide)).2.2
  rw [wA_e]
  refine h.onP (CQ.rf.wI (Or.inl rfl) (by decide) (by decide)) (NQ.rf.w (Or.inr (Or.inl rfl))) ?_ (h.pe.n9 c2) h.se.n9 (h.st.n9 c2) (fun x hx => hx.n9) (fun q hq => pk_un (by omega))
  rw [wI_e, pk_us]
theorem RelR.col (h : RelR K S (T.2 55)) {p c : Nat} (hp : p < K 2) (hc : c = 7 ∨ c = 8) (v : Int32) : RelR K (wA S 7 (14 * p + c) v) ((wA T 55 (14 * p + (110 + c)) v).2 55) := by
  have c2 := (h.ct 6 2 20 (by decide)).2.2
  rw [wA_e]
  refine h.onP (CQ.rf.wA (by decide) (by decide)) (NQ.rf.w (Or.inl (by omega))) ?_ ?_ (h.se.w (by omega)) ?_ (fun x hx => hx.w (by omega)) (fun q hq => pk_un (by omega))
  · rw [wA_1, pk_un (by omega)]; exact h.1.2
  · rw [wA_e]; exact h.pe.w c2 hp (by omega)
  · rw [wA_e]; exact h.st.w c2 (by omega) (by omega)
/-- rents come -/
theorem rent_l : ∀ (m i : Nat) (S T : FS), i ≤ K 0 → K 0 - i < m → RelR K S (T.2 55) → ∃ S' T' : FS, RelR K S' (T'.2 55) ∧ CX S S' ∧ MX T T' ∧ (∀ j : Nat, ¬ (110 ≤ j ∧ j < 390) → j ≠ 9 → T'.2 55 j = T.2 55 j) ∧ (∀ k, l_X7_collectRents_10 (nI (K 0)) k m S (nI i) = k S' (nI (K 0))) ∧ ∀ k, l_X12_quarter_2 k m T (nI i) = k T' (nI (K 0)) := by
  intro m
  induction m with
  | zero => intro i S T _ hm; exact absurd hm (Nat.not_lt_zero _)
  | succ m ih =>
    intro i S T hi hm h
    obtain ⟨k1, k2, c0⟩ := h.ct 2 0 10 (by decide)
    obtain ⟨p1, p2, c2⟩ := h.ct 6 2 20 (by decide)
    by_cases c : i < K 0
    · have lt := nI_lt c (show K 0 < 2 ^ 31 by omega)
      have i10' : i < 10 := by omega
      have ch : S.1 103 = T.2 55 9 := h.1.2
      obtain ⟨⟨e0, e1, e2⟩, -, ow, ⟨ff, hff, ef⟩⟩ := h.tw i c
      have chst : ∀ (o : p_X7_isLiving S (T.2 55 (3 * i + 21)) = 0) (mo : ∀ k, l_X12_quarter_2 k (m + 1) T (nI i) = l_X12_quarter_2 k m (wA T 55 9 (T.2 55 9 + T.2 55 (3 * i + 20))) (nI (i + 1))) (f0 : T.2 55 (3 * i + 22) = 0), ∃ S' T' : FS, RelR K S' (T'.2 55) ∧ CX S S' ∧ MX T T' ∧ (∀ j : Nat, ¬ (110 ≤ j ∧ j < 390) → j ≠ 9 → T'.2 55 j = T.2 55 j) ∧ (∀ k, l_X7_collectRents_10 (nI (K 0)) k (m + 1) S (nI i) = k S' (nI (K 0))) ∧ ∀ k, l_X12_quarter_2 k (m + 1) T (nI i) = k T' (nI (K 0)) := by
        intro o mo f0
        obtain ⟨S', T', r1, r2, r3, r4, r5, r6⟩ := ih (i + 1) _ _ (by omega) (by omega) (h.chest (T.2 55 9 + T.2 55 (3 * i + 20)))
        refine ⟨S', T', r1, CX.tr ⟨⟨rfl, rfl, rfl, rfl⟩, rfl, rfl⟩ r2, MX.tr ⟨⟨rfl, rfl, rfl, rfl, rfl⟩, rfl, rfl⟩ r3, fun j hj h9 => (r4 j hj h9).trans (by rw [wA_e, pk_un h9]), fun k => ?_, fun k => by rw [mo]; exact r6 k⟩
        rw [l_X7_collectRents_10]
        simp only [lt, fv_s, fl_s, g2_0 i10', g2_1 i10', g2_2 i10', e0, e1, e2, f0, o, ch, nI_1, ↓reduceIte]; exact r5 k
      rcases (show ff = 0 ∨ ff = 1 by omega) with rfl | rfl
      · have f0 : T.2 55 (3 * i + 22) = 0 := ef
        have n01 : ((0 : Int32) = 1) = False := eq_false (by decide)
        rcases ow with eo | ⟨p, hp, eo⟩
        · refine chst ?_ (fun k => ?_) f0
          · rw [eo]; unfold p_X7_isLiving; rw [fHas_f p1 (Or.inl (by decide)), if_pos rfl]
          · rw [l_X12_quarter_2]
            simp only [k2, lt, fv_s, fl_s, fb_s, ixT_0 i10', ixT_1 i10', ixT_2 i10', f0, n01, eo, ltm1, nI_1, ↓reduceIte]
        · have p20 : p < 20 := by omega
          rcases h.liv hp with ⟨v1, v2, v3⟩ | ⟨v1, v2, v5, v3, v4⟩
          · have ec : S.2 7 (14 * p + 7) = T.2 55 (14 * p + 117) := (h.pe p hp).2.1.1
            obtain ⟨S', T', r1, r2, r3, r4, r5, r6⟩ := ih (i + 1) _ _ (by omega) (by omega) (h.col hp (Or.inl rfl) (T.2 55 (14 * p + 117) + T.2 55 (3 * i + 20)))
            refine ⟨S', T', r1, CX.tr ⟨⟨rfl, rfl, rfl, rfl⟩, rfl, rfl⟩ r2, MX.tr ⟨⟨rfl, rfl, rfl, rfl, rfl⟩, rfl, rfl⟩ r3, fun j hj h9 => (r4 j hj h9).trans (by rw [wA_e, pk_un (by omega)]), fun k => ?_, fun k => ?_⟩
            · rw [l_X7_collectRents_10]
              simp only [lt, fv_s, fl_s, g2_0 i10', g2_1 i10', g2_2 i10', e0, e1, e2, f0, eo, v2, i10, g6_7 p20, s6_7 p20, ec, nI_1, ↓reduceIte]; exact r5 k
            · rw [l_X12_quarter_2]
              simp only [k2, lt, fv_s, fl_s, fb_s, ixT_0 i10', ixT_1 i10', ixT_2 i10', f0, n01, eo, nI_pos (show p < 2 ^ 31 by omega), v3, i10, man_7 p20, sets_7 p20, nI_1, ↓reduceIte]; exact r6 k
          · refine chst (by rw [eo]; exact v3) (fun k => ?_) f0
            rw [l_X12_quarter_2]
            simp only [k2, lt, fv_s, fl_s, fb_s, ixT_0 i10', ixT_1 i10', ixT_2 i10', f0, n01, eo, nI_pos (show p < 2 ^ 31 by omega), v4, nI_1, ↓reduceIte]
      · have f1 : T.2 55 (3 * i + 22) = 1 := ef
        obtain ⟨S', T', r1, r2, r3, r4, r5, r6⟩ := ih (i + 1) S T (by omega) (by omega) h
        refine ⟨S', T', r1, r2, r3, r4, fun k => ?_, fun k => ?_⟩
        · rw [l_X7_collectRents_10]
          simp only [lt, fv_s, g2_2 i10', e2, f1, i10, nI_1, ↓reduceIte]; exact r5 k
        · rw [l_X12_quarter_2]
          simp only [k2, lt, fv_s, fb_s, ixT_1 i10', ixT_2 i10', f1, nI_1, ↓reduceIte]; exact r6 k
    · have ei : i = K 0 := by omega
      subst ei
      refine ⟨S, T, h, CX.rf, MX.rf, fun _ _ _ => rfl, fun k => ?_, fun k => ?_⟩
      · rw [l_X7_collectRents_10, if_neg (nI_nlt (Nat.le_refl _) (by omega))]
      · rw [l_X12_quarter_2, k2, if_neg (nI_nlt (Nat.le_refl _) (by omega))]
/-- men are paid -/
theorem men_l : ∀ (m i : Nat) (S T : FS), i ≤ K 2 → K 2 - i < m → RelR K S (T.2 55) → ∃ S' T' : FS, RelR K S' (T'.2 55) ∧ CX S S' ∧ MX T T' ∧ (∀ j : Nat, ¬ (110 ≤ j ∧ j < 390) → T'.2 55 j = T.2 55 j) ∧ (∀ k, l_X7_payMen_10 (nI (K 2)) k m S (nI i) = k S' (nI (K 2))) ∧ ∀ k, l_X12_quarter_103 k m T (nI i) = k T' (nI (K 2)) := by
  intro m
  induction m with
  | zero => intro i S T _ hm; exact absurd hm (Nat.not_lt_zero _)
  | succ m ih =>
    intro i S T hi hm h
    obtain ⟨k1, k2, c2⟩ := h.ct 6 2 20 (by decide)
    by_cases c : i < K 2
    · have lt := nI_lt c (show K 2 < 2 ^ 31 by omega)
      have i20 : i < 20 := by omega
      have e7 : S.2 7 (14 * i + 7) = T.2 55 (14 * i + 117) := (h.pe i c).2.1.1
      have e8 : S.2 7 (14 * i + 8) = T.2 55 (14 * i + 118) := (h.pe i c).2.1.2.1
      have go : ∀ x : Int32, x = (if T.2 55 (14 * i + 117) < T.2 55 (14 * i + 118) then T.2 55 (14 * i + 117) else T.2 55 (14 * i + 118)) → ∃ S' T' : FS, RelR K S' (T'.2 55) ∧ CX S S' ∧ MX T T' ∧ (∀ j : Nat, ¬ (110 ≤ j ∧ j < 390) → T'.2 55 j = T.2 55 j) ∧ (∀ k, l_X7_payMen_10 (nI (K 2)) k (m + 1) S (nI i) = k S' (nI (K 2))) ∧ ∀ k, l_X12_quarter_103 k m (wA (wA T 55 (14 * i + 117) (T.2 55 (14 * i + 117) - x)) 55 (14 * i + 118) x) (nI (i + 1)) = k T' (nI (K 2)) := by
        intro x hx
        have h1 := h.col c (Or.inl rfl) (T.2 55 (14 * i + 117) - x)
        have h2 := h1.col c (Or.inr rfl) x
        obtain ⟨S', T', r1, r2, r3, r4, r5, r6⟩ := ih (i + 1) _ _ (by omega) (by omega) h2
        refine ⟨S', T', r1, CX.tr ⟨⟨rfl, rfl, rfl, rfl⟩, rfl, rfl⟩ r2, MX.tr ⟨⟨rfl, rfl, rfl, rfl, rfl⟩, rfl, rfl⟩ r3, fun j hj => (r4 j hj).trans (by simp only [wA_e]; simp (disch := omega) only [pk_un]), fun k => ?_, r6⟩
        rw [l_X7_payMen_10]
        simp only [lt, fv_s, fl_s, g6_7 i20, g6_8 i20, s6_7 i20, s6_8 i20, e7, e8, imin, ← hx, ← Int32.sub_eq_add_neg, nI_1, ↓reduceIte]; exact r5 k
      by_cases z : T.2 55 (14 * i + 117) < T.2 55 (14 * i + 118)
      · obtain ⟨S', T', r1, r2, r3, r4, r5, r6⟩ := go (T.2 55 (14 * i + 117)) (by rw [if_pos z])
        refine ⟨S', T', r1, r2, r3, r4, r5, fun k => ?_⟩
        rw [l_X12_quarter_103]
        simp only [k2, lt, fb_s, man_7 i20, man_8 i20, z, sets_7 i20, sets_8 i20, nI_1, ↓reduceIte]; exact r6 k
      · obtain ⟨S', T', r1, r2, r3, r4, r5, r6⟩ := go (T.2 55 (14 * i + 118)) (by rw [if_neg z])
        refine ⟨S', T', r1, r2, r3, r4, r5, fun k => ?_⟩
        rw [l_X12_quarter_103]
        simp only [k2, lt, fb_s, man_7 i20, man_8 i20, z, sets_7 i20, sets_8 i20, nI_1, ↓reduceIte]; exact r6 k
    · have ei : i = K 2 := by omega
      subst ei
      refine ⟨S, T, h, CX.rf, MX.rf, fun _ _ => rfl, fun k => ?_, fun k => ?_⟩
      · rw [l_X7_payMen_10, if_neg (nI_nlt (Nat.le_refl _) (by omega))]
      · rw [l_X12_quarter_103, k2, if_neg (nI_nlt (Nat.le_refl _) (by omega))]
theorem wA_cm {a b i j : Nat} {v w : Int32} (h : a ≠ b) : wA (wA S a i v) b j w = wA (wA S b j w) a i v := by
  unfold wA
  simp only
  rw [ua_ne (fun q => h q.symm), ua_ne h, ua_cm h]
/-- owed of a debt, and how often it was missed -/
theorem RDe.w {f n : Nat → Int32} {d m : Nat} {x : Int32} (h : RDe K f n) (b : K 6 ≤ 6) (b0 : K 0 ≤ 10) (hd : d < K 6) (hm : m ≤ K 8) (hf : 2 ≤ m → ∀ t : Nat, t < K 0 → n (6 * d + 1774) = nI t → n (3 * t + 22) = 1) : RDe K (upd (upd f (5 * d) x) (5 * d + 4) (nI m)) (upd (upd n (6 * d + 1770) x) (6 * d + 1773) (nI m)) := by
  intro q hq
  obtain ⟨h1, t, m', t1, t2, m1, m2, m3⟩ := h q hq
  by_cases e : q = d
  · subst e
    simp (disch := omega) only [pk_us, pk_un]
    exact ⟨⟨trivial, h1.2.1, h1.2.2.1, h1.2.2.2.1, trivial⟩, t, m, t1, t2, hm, rfl, fun z => hf z t t1 t2⟩
  · simp (disch := omega) only [pk_un]
    exact ⟨h1, t, m', t1, t2, m1, m2, m3⟩
theorem RelR.dw (h : RelR K S (T.2 55)) {d m : Nat} (hd : d < K 6) (hm : m ≤ K 8) (x : Int32) (hf : 2 ≤ m → ∀ t : Nat, t < K 0 → T.2 55 (6 * d + 1774) = nI t → T.2 55 (3 * t + 22) = 1) : RelR K (wA (wA S 17 (5 * d) x) 17 (5 * d + 4) (nI m)) ((wA (wA T 55 (6 * d + 1770) x) 55 (6 * d + 1773) (nI m)).2 55) := by
  have c6 := (h.ct 16 6 6 (by decide)).2.2
  have c0 := (h.ct 2 0 10 (by decide)).2.2
  simp only [wA_e]
  refine h.onD ((CQ.rf.wA (by decide) (by decide)).wA (by decide) (by decide)) ((NQ.rf.w (Or.inl (by omega))).w (Or.inl (by omega))) ?_ ?_
  · simp (disch := omega) only [pk_un, wA_1]; exact h.1.2
  · simp only [wA_e]; exact h.de.w c6 c0 hd hm hf
theorem RelR.forf (h : RelR K S (T.2 55)) {t : Nat} (ht : t < K 0) : RelR K (wA S 3 (3 * t + 2) 1) ((wA T 55 (3 * t + 22) 1).2 55) := by
  have c0 := (h.ct 2 0 10 (by decide)).2.2
  rw [wA_e]
  refine h.onT (CQ.rf.wA (by decide) (by decide)) (NQ.rf.w (Or.inl (by omega))) ?_ ?_ ?_
  · rw [wA_1, pk_un (by omega)]; exact h.1.2
  · rw [wA_e]
    intro q hq
    obtain ⟨h1, h2, h3, h4⟩ := h.tw q hq
    by_cases e : q = t
    · subst e
      simp (disch := omega) only [pk_us, pk_un]
      exact ⟨⟨h1.1, h1.2.1, trivial⟩, h2, h3, ⟨1, Nat.le_refl _, rfl⟩⟩
    · simp (disch := omega) only [pk_un]; exact ⟨h1, h2, h3, h4⟩
  · intro q hq e
    by_cases z : q = t
    · subst z; rw [pk_us]
    · rw [pk_un (by omega)]; exact e
theorem imin_e (o due : Int32) : imin o due = if o < due then o else due := by
  unfold imin
  by_cases a : due < o
  · rw [if_pos a, if_neg (fun q => Int32.lt_irrefl (Int32.lt_trans q a))]
  · rw [if_neg a]
    by_cases b : o < due
    · rw [if_pos b]
    · rw [if_neg b]; exact Int32.le_antisymm (Int32.not_lt.mp a) (Int32.not_lt.mp b)
end QUA
