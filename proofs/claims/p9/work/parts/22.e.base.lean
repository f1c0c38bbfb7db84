/-! ===== pure: findings; who is there ===== -/
theorem told_e (S : FS) (x : Int32) : ∃ S' : FS, f_X11_told S x = some (x, S') ∧ CE S S' := by
  unfold f_X11_told
  split
  · exact ⟨S, rfl, CE.rf⟩
  · next h1 =>
    split
    · exact ⟨S, rfl, CE.rf⟩
    · split
      · next h3 =>
        have hv := pm_told_in h1 (Int32.not_le.mpr h3)
        rw [ix_lit hv rfl]
        exact ⟨_, rfl, CE.wA (by decide)⟩
      · exact ⟨S, rfl, CE.rf⟩
theorem finds_1 (T : FS) : ∃ T' : FS, f_X12_finds T 1 = some (-1000001, T') ∧ ME T T' := ⟨_, rfl, ME.wA (by decide)⟩
theorem finds_2 (T : FS) : ∃ T' : FS, f_X12_finds T 2 = some (-1000002, T') ∧ ME T T' := ⟨_, rfl, ME.wA (by decide)⟩
theorem finds_3 (T : FS) : ∃ T' : FS, f_X12_finds T 3 = some (-1000003, T') ∧ ME T T' := ⟨_, rfl, ME.wA (by decide)⟩
theorem finds_4 (T : FS) : ∃ T' : FS, f_X12_finds T 4 = some (-1000004, T') ∧ ME T T' := ⟨_, rfl, ME.wA (by decide)⟩
theorem finds_5 (T : FS) : ∃ T' : FS, f_X12_finds T 5 = some (-1000005, T') ∧ ME T T' := ⟨_, rfl, ME.wA (by decide)⟩
section BAS
variable {K : Nat → Nat} {S T S1 T1 : FS}
theorem ok0 {v : Int32} (h : RelR K S1 (T1.2 55)) (cx : CX S S1) (mx : MX T T1) : OK2 S T (some (v, S1)) (some (v, T1)) := ⟨v, S1, T1, rfl, rfl, ⟨K, h⟩, cx, mx⟩
theorem okf {v : Int32} {y : Option (Int32 × FS)} (h : RelR K S1 (T1.2 55)) (cx : CX S S1) (mx : MX T T1) (hy : ∃ T' : FS, y = some (v, T') ∧ ME T1 T') : OK2 S T (f_X11_told S1 v) y := by
  obtain ⟨S', e1, c1⟩ := told_e S1 v
  obtain ⟨T', e2, c2⟩ := hy
  exact ⟨v, S', T', e1, e2, ⟨K, by rw [c2.2]; exact h.ce c1⟩, cx.tr c1.1, mx.tr c2.1⟩
theorem okt {v : Int32} (h : RelR K S1 (T1.2 55)) (cx : CX S S1) (mx : MX T T1) : OK2 S T (f_X11_told S1 v) (some (v, T1)) := okf h cx mx ⟨T1, rfl, ME.rf⟩
theorem ok_1 (h : RelR K S (T.2 55)) : OK2 S T (f_X11_told S (-1000001)) (f_X12_finds T 1) := okf h CX.rf MX.rf (finds_1 T)
theorem ok_2 (h : RelR K S (T.2 55)) : OK2 S T (f_X11_told S (-1000002)) (f_X12_finds T 2) := okf h CX.rf MX.rf (finds_2 T)
theorem ok_3 (h : RelR K S (T.2 55)) : OK2 S T (f_X11_told S (-1000003)) (f_X12_finds T 3) := okf h CX.rf MX.rf (finds_3 T)
theorem ok_4 (h : RelR K S (T.2 55)) : OK2 S T (f_X11_told S (-1000004)) (f_X12_finds T 4) := okf h CX.rf MX.rf (finds_4 T)
theorem ok_5 (h : RelR K S (T.2 55)) : OK2 S T (f_X11_told S (-1000005)) (f_X12_finds T 5) := okf h CX.rf MX.rf (finds_5 T)
end BAS
theorem in_out {T : FS} {x a b : Int32} : p_X12_in T x a b = if fOut x a b = 0 then 1 else 0 := by
  unfold p_X12_in fOut
  by_cases h1 : x < a
  · rw [if_pos h1, if_pos (Or.inl h1), if_neg (by decide)]
  · rw [if_neg h1]
    by_cases h2 : b < x
    · rw [if_pos h2, if_pos (Or.inr h2), if_neg (by decide)]
    · rw [if_neg h2, show (if x < a ∨ b < x then (1 : Int32) else 0) = 0 from if_neg (fun q => q.elim h1 h2), if_pos rfl]
theorem out_c (x a b : Int32) : (fOut x a b = 0 ∧ ∀ T : FS, p_X12_in T x a b = 1) ∨ (fOut x a b = 1 ∧ ∀ T : FS, p_X12_in T x a b = 0) := by
  by_cases c : x < a ∨ b < x
  · right
    have : fOut x a b = 1 := by unfold fOut; rw [if_pos c]
    exact ⟨this, fun T => by rw [in_out, this, if_neg (by decide)]⟩
  · left
    have : fOut x a b = 0 := by unfold fOut; rw [if_neg c]
    exact ⟨this, fun T => by rw [in_out, this, if_pos rfl]⟩
theorem cnt_c (x : Int32) {k : Nat} (hk : k < 2 ^ 30) : ((x < 0 ∨ nI k ≤ x) ∧ ∀ T : FS, p_X12_in T x 0 (nI k - 1) = 0) ∨ ∃ j : Nat, j < k ∧ x = nI j ∧ ∀ T : FS, p_X12_in T x 0 (nI k - 1) = 1 := by
  have h1 : (nI k - 1 : Int32).toInt = (k : Int) - 1 := pk_sub_toInt (a := k) (b := 1) (by omega) (by decide)
  rcases pk_ix x (n := k) (by omega) with h | h | ⟨j, hj, rfl⟩
  · left
    exact ⟨Or.inl h, fun T => by unfold p_X12_in; rw [if_pos h]⟩
  · left
    refine ⟨Or.inr h, fun T => ?_⟩
    unfold p_X12_in
    have h2 : nI k - 1 < x := by
      rw [Int32.lt_iff_toInt_lt, h1]
      rw [Int32.le_iff_toInt_le, nI_toInt (by omega)] at h
      omega
    by_cases c : x < 0
    · rw [if_pos c]
    · rw [if_neg c, if_pos h2]
  · right
    refine ⟨j, hj, rfl, fun T => ?_⟩
    unfold p_X12_in
    rw [if_neg (nI_pos (by omega)), if_neg]
    rw [Int32.lt_iff_toInt_lt, h1, nI_toInt (by omega)]
    omega
section WHO
variable {K : Nat → Nat} {S T : FS}
theorem RelR.per (h : RelR K S (T.2 55)) (x : Int32) : (fHas 6 S x = 0 ∧ p_X12_isPerson T x = 0) ∨ ∃ p : Nat, p < K 2 ∧ x = nI p ∧ fHas 6 S x = 1 ∧ p_X12_isPerson T x = 1 := by
  obtain ⟨h1, h2, h3⟩ := h.ct 6 2 20 (by decide)
  unfold p_X12_isPerson
  rw [h2]
  rcases cnt_c x (k := K 2) (by omega) with ⟨a, b⟩ | ⟨p, a, rfl, b⟩
  · exact Or.inl ⟨fHas_f h1 a, b T⟩
  · exact Or.inr ⟨p, a, rfl, fHas_t h1 a (by omega), b T⟩
theorem RelR.twn (h : RelR K S (T.2 55)) (x : Int32) : (fHas 2 S x = 0 ∧ p_X12_isTown T x = 0) ∨ ∃ p : Nat, p < K 0 ∧ x = nI p ∧ fHas 2 S x = 1 ∧ p_X12_isTown T x = 1 := by
  obtain ⟨h1, h2, h3⟩ := h.ct 2 0 10 (by decide)
  unfold p_X12_isTown
  rw [h2]
  rcases cnt_c x (k := K 0) (by omega) with ⟨a, b⟩ | ⟨p, a, rfl, b⟩
  · exact Or.inl ⟨fHas_f h1 a, b T⟩
  · exact Or.inr ⟨p, a, rfl, fHas_t h1 a (by omega), b T⟩
theorem RelR.pow (h : RelR K S (T.2 55)) (x : Int32) : (fHas 8 S x = 0 ∧ p_X12_isPower T x = 0) ∨ ∃ p : Nat, p < K 3 ∧ x = nI p ∧ fHas 8 S x = 1 ∧ p_X12_isPower T x = 1 := by
  obtain ⟨h1, h2, h3⟩ := h.ct 8 3 20 (by decide)
  unfold p_X12_isPower
  rw [h2]
  rcases cnt_c x (k := K 3) (by omega) with ⟨a, b⟩ | ⟨p, a, rfl, b⟩
  · exact Or.inl ⟨fHas_f h1 a, b T⟩
  · exact Or.inr ⟨p, a, rfl, fHas_t h1 a (by omega), b T⟩
theorem RelR.law (h : RelR K S (T.2 55)) (x : Int32) : (fHas 10 S x = 0 ∧ p_X12_isLaw T x = 0) ∨ ∃ p : Nat, p < K 4 ∧ x = nI p ∧ fHas 10 S x = 1 ∧ p_X12_isLaw T x = 1 := by
  obtain ⟨h1, h2, h3⟩ := h.ct 10 4 12 (by decide)
  unfold p_X12_isLaw
  rw [h2]
  rcases cnt_c x (k := K 4) (by omega) with ⟨a, b⟩ | ⟨p, a, rfl, b⟩
  · exact Or.inl ⟨fHas_f h1 a, b T⟩
  · exact Or.inr ⟨p, a, rfl, fHas_t h1 a (by omega), b T⟩
theorem RelR.let' (h : RelR K S (T.2 55)) (x : Int32) : (fHas 14 S x = 0 ∧ p_X12_isLetter T x = 0) ∨ ∃ p : Nat, p < K 5 ∧ x = nI p ∧ fHas 14 S x = 1 ∧ p_X12_isLetter T x = 1 := by
  obtain ⟨h1, h2, h3⟩ := h.ct 14 5 40 (by decide)
  unfold p_X12_isLetter
  rw [h2]
  rcases cnt_c x (k := K 5) (by omega) with ⟨a, b⟩ | ⟨p, a, rfl, b⟩
  · exact Or.inl ⟨fHas_f h1 a, b T⟩
  · exact Or.inr ⟨p, a, rfl, fHas_t h1 a (by omega), b T⟩
theorem RelR.deb (h : RelR K S (T.2 55)) (x : Int32) : (fHas 16 S x = 0 ∧ p_X12_in T x 0 (T.2 55 6 - 1) = 0) ∨ ∃ p : Nat, p < K 6 ∧ x = nI p ∧ fHas 16 S x = 1 ∧ p_X12_in T x 0 (T.2 55 6 - 1) = 1 := by
  obtain ⟨h1, h2, h3⟩ := h.ct 16 6 6 (by decide)
  rw [h2]
  rcases cnt_c x (k := K 6) (by omega) with ⟨a, b⟩ | ⟨p, a, rfl, b⟩
  · exact Or.inl ⟨fHas_f h1 a, b T⟩
  · exact Or.inr ⟨p, a, rfl, fHas_t h1 a (by omega), b T⟩
theorem RelR.pro (h : RelR K S (T.2 55)) (x : Int32) : (fHas 18 S x = 0 ∧ p_X12_in T x 0 (T.2 55 7 - 1) = 0) ∨ ∃ p : Nat, p < K 7 ∧ x = nI p ∧ fHas 18 S x = 1 ∧ p_X12_in T x 0 (T.2 55 7 - 1) = 1 := by
  obtain ⟨h1, h2, h3⟩ := h.ct 18 7 30 (by decide)
  rw [h2]
  rcases cnt_c x (k := K 7) (by omega) with ⟨a, b⟩ | ⟨p, a, rfl, b⟩
  · exact Or.inl ⟨fHas_f h1 a, b T⟩
  · exact Or.inr ⟨p, a, rfl, fHas_t h1 a (by omega), b T⟩
/-- who lives, on both sides -/
theorem RelR.liv (h : RelR K S (T.2 55)) {p : Nat} (hp : p < K 2) : (T.2 55 (14 * p + 119) = -1 ∧ p_X7_isLiving S (nI p) = 1 ∧ q_X12_lives T (nI p) = some 1) ∨ (T.2 55 (14 * p + 119) ≠ -1 ∧ T.2 55 (14 * p + 121) = 0 ∧ S.2 7 (14 * p + 9) = 1 ∧ p_X7_isLiving S (nI p) = 0 ∧ q_X12_lives T (nI p) = some 0) := by
  obtain ⟨h1, h2, h3⟩ := h.ct 6 2 20 (by decide)
  have hc := fHas_t h1 hp (by omega)
  unfold p_X7_isLiving q_X12_lives
  rw [hc, if_neg (by decide), g6_9 (by omega), man_9 (by omega), fb_s]
  rcases (h.pe p hp).2.2.1 with ⟨a1, a2, -⟩ | ⟨a1, ⟨d, d1, d2⟩, a3⟩
  · left
    rw [a1, a2, if_pos rfl, if_pos (by decide)]; exact ⟨rfl, rfl, rfl⟩
  · right
    rw [a1, d2, if_neg (by decide), if_neg (nI_pos (by omega))]
    exact ⟨nI_m1 (by omega), a3, rfl, rfl, rfl⟩
end WHO
theorem i10 : ((1 : Int32) = 0) = False := eq_false (by decide)
theorem ltm1 : ((-1 : Int32) < 0) = True := eq_true (by decide)
theorem ltm2 : ((-1000002 : Int32) < 0) = True := eq_true (by decide)
theorem ltm3 : ((-1000003 : Int32) < 0) = True := eq_true (by decide)
theorem i00 : ((0 : Int32) = 0) = True := eq_true rfl
theorem i01 : ((0 : Int32) = 1) = False := eq_false (by decide)
