/-! ===== pure: of age, after (both answer) ===== -/
section AGE
variable {K : Nat → Nat} {S T : FS} {za zb zc zd ze : Int32}
theorem nb_l {x : Int32} : ∀ (m i : Nat) (y : Int32), i ≤ K 4 → K 4 - i < m → K 4 ≤ 12 → ∃ v : Int32, l_X2_nextBeginning_19 3 x S (nI (K 4)) (fun x8_3 x8_5 => some x8_3) m y (nI i) = some v := by
  intro m
  induction m with
  | zero => intro i y _ hm; exact absurd hm (Nat.not_lt_zero _)
  | succ m ih =>
    intro i y hi hm c4
    rw [l_X2_nextBeginning_19]
    by_cases c : i < K 4
    · rw [if_pos (nI_lt c (by omega)), fv_s, nI_1]
      split
      · split
        · rw [fv_s]; exact ih (i + 1) _ (by omega) (by omega) c4
        · exact ih (i + 1) _ (by omega) (by omega) c4
      · exact ih (i + 1) _ (by omega) (by omega) c4
    · obtain rfl : i = K 4 := by omega
      rw [if_neg (nI_nlt (Nat.le_refl _) (by omega))]; exact ⟨y, rfl⟩
theorem ageC_l {x2 : Int32} : ∀ (m i : Nat) (lw nx : Int32) (S : FS), i ≤ 2001 → 2001 - i < m → RelR K S (T.2 55) → 1 ≤ K 2 → (lw = -1 ∨ ∃ l : Nat, l < K 4 ∧ lw = nI l) → ∃ (v : Int32) (S' : FS), CE S S' ∧ l_X4_dayOfAge_49 x2 (fun S26 x26_2 x26_3 x26_4 => some ((-1000002), S26)) m S lw nx (nI i) = some (v, S') ∧ (v = -1000002 ∨ ∃ j : Nat, j ≤ 2000 ∧ v = nI j) := by
  intro m
  induction m with
  | zero => intro i lw nx S _ hm; exact absurd hm (Nat.not_lt_zero _)
  | succ m ih =>
    intro i lw nx S hi hm h h2 hl
    obtain ⟨k1, k2, c4⟩ := h.ct 10 4 12 (by decide)
    obtain ⟨d1, d2, d3⟩ := h.ct 102 8 2000 (by decide)
    rw [l_X4_dayOfAge_49]
    by_cases c : i < 2001
    · have z2 : ¬ (2000 : Int32) < nI i := nI_nlt (a := 2000) (by omega) (by decide)
      rw [if_neg z2]
      have use : ∀ (lw' nx' : Int32), (lw' = -1 ∨ ∃ l : Nat, l < K 4 ∧ lw' = nI l) → ∃ (v : Int32) (S' : FS), CE S S' ∧ (if lw' < 0 then some (nI i, S) else fb (f_X2_comesTo S lw' 0 (-1) (nI i)) fun r24 => if r24.1 = 0 then l_X4_dayOfAge_49 x2 (fun S26 x26_2 x26_3 x26_4 => some ((-1000002), S26)) m r24.2 lw' nx' (nI i + 1) else some (nI i, r24.2)) = some (v, S') ∧ (v = -1000002 ∨ ∃ j : Nat, j ≤ 2000 ∧ v = nI j) := by
        intro lw' nx' hl'
        rcases hl' with rfl | ⟨l, hl', rfl⟩
        · rw [if_pos (by decide)]; exact ⟨nI i, S, CE.rf, rfl, Or.inr ⟨i, by omega, rfl⟩⟩
        · rw [if_neg (nI_pos (by omega))]
          obtain ⟨v, w, S', T', r1, r2, r3, r4, -⟩ := h.comes (zb := 0) (zc := -1) (zd := nI i) hl' (Or.inr ⟨0, by omega, rfl⟩) (Or.inl rfl)
          rw [r1, fb_s]
          by_cases z : v = 0
          · rw [if_pos z, nI_1]
            obtain ⟨v', S2, q1, q2, q3⟩ := ih (i + 1) (nI l) nx' S' (by omega) (by omega) (h.ce r3.ce) h2 (Or.inr ⟨l, hl', rfl⟩)
            exact ⟨v', S2, r3.ce.tr q1, q2, q3⟩
          · rw [if_neg z]; exact ⟨nI i, S', r3.ce, rfl, Or.inr ⟨i, by omega, rfl⟩⟩
      by_cases e : nI i = nx
      · rw [if_pos e, (h.inF 3 (nI i) (S.1 102)).1, fb_s]
        obtain ⟨nv, hn⟩ := nb_l (K := K) (S := S) (x := nI i) FU 0 2001 (Nat.zero_le _) (FU_lt (by omega)) c4
        have en : q_X2_nextBeginning S 3 (nI i) = some nv := by
          unfold q_X2_nextBeginning; rw [fv_s, k1]; exact hn
        rw [en, fb_s]
        exact use _ _ (lg_c (K 4))
      · rw [if_neg e]
        split
        · exact use lw nx hl
        · split
          · rw [nI_1]; exact ih (i + 1) lw nx S (by omega) (by omega) h h2 hl
          · exact use lw nx hl
    · obtain rfl : i = 2001 := by omega
      rw [if_pos (show (2000 : Int32) < nI 2001 from by decide)]
      exact ⟨_, S, CE.rf, rfl, Or.inl rfl⟩
theorem ageM_l : ∀ (m i : Nat) (T : FS), i ≤ 2001 → 2001 - i < m → RelR K S (T.2 55) → 1 ≤ K 2 → ∃ (v : Int32) (T' : FS), ME T T' ∧ l_X12_ageDay_19 (fun S10 x10_1 => some ((-1), S10)) m T (nI i) = some (v, T') ∧ (v = -1 ∨ ∃ j : Nat, j ≤ 2000 ∧ v = nI j) := by
  intro m
  induction m with
  | zero => intro i T _ hm; exact absurd hm (Nat.not_lt_zero _)
  | succ m ih =>
    intro i T hi hm h h2
    rw [l_X12_ageDay_19]
    by_cases c : i < 2001
    · rw [if_neg (show ¬ (2000 : Int32) < nI i from nI_nlt (a := 2000) (by omega) (by decide)), (h.inF 3 (nI i) (T.2 55 8)).2, fb_s]
      obtain ⟨v, w, S', T', r1, r2, r3, r4, -⟩ := h.rul (zb := 0) (zc := -1) 3 (nI i) (T.2 55 8) (Or.inr ⟨0, by omega, rfl⟩) (Or.inl rfl)
      rw [r2, fb_s]
      by_cases z : w = 0
      · rw [if_pos z, nI_1]
        obtain ⟨v', T2, q1, q2, q3⟩ := ih (i + 1) T' (by omega) (by omega) (by rw [r4.me.2]; exact h) h2
        exact ⟨v', T2, r4.me.tr q1, q2, q3⟩
      · rw [if_neg z]; exact ⟨nI i, T', r4.me, rfl, Or.inr ⟨i, by omega, rfl⟩⟩
    · obtain rfl : i = 2001 := by omega
      rw [if_pos (show (2000 : Int32) < nI 2001 from by decide)]
      exact ⟨_, T, ME.rf, rfl, Or.inl rfl⟩
theorem RelR.ageC (h : RelR K S (T.2 55)) : ∃ (v : Int32) (S' : FS), CE S S' ∧ f_X4_dayOfAge S = some (v, S') ∧ (v = -1000002 ∨ ∃ j : Nat, j ≤ 2000 ∧ v = nI j) := by
  obtain ⟨k1, k2, c2⟩ := h.ct 6 2 20 (by decide)
  obtain ⟨d1, d2, d3⟩ := h.ct 102 8 2000 (by decide)
  unfold f_X4_dayOfAge
  by_cases c : 1 ≤ K 2
  · rw [show fHas 6 S 0 = 1 from fHas_t (r := 0) k1 (by omega) (by omega), if_neg (by decide), fv_s, fv_s, fv_s, d1]
    exact ageC_l (T := T) FU (K 8) (-1) _ S (by omega) (FU_lt (by omega)) h c (Or.inl rfl)
  · rw [fHas_f k1 (Or.inr (by rw [show K 2 = 0 by omega]; decide)), if_pos rfl]
    exact ⟨_, S, CE.rf, rfl, Or.inl rfl⟩
theorem RelR.ageM (h : RelR K S (T.2 55)) : ∃ (v : Int32) (T' : FS), ME T T' ∧ f_X12_ageDay T = some (v, T') ∧ (v = -1 ∨ ∃ j : Nat, j ≤ 2000 ∧ v = nI j) := by
  obtain ⟨k1, k2, c2⟩ := h.ct 6 2 20 (by decide)
  obtain ⟨d1, d2, d3⟩ := h.ct 102 8 2000 (by decide)
  unfold f_X12_ageDay
  by_cases c : 1 ≤ K 2
  · rw [k2, if_neg (nI_ne0 (by omega) (by omega)), fv_s, d2]
    exact ageM_l (S := S) FU (K 8) T (by omega) (FU_lt (by omega)) h c
  · rw [k2, show K 2 = 0 by omega, if_pos (show nI 0 = 0 from rfl)]
    exact ⟨_, T, ME.rf, rfl, Or.inl rfl⟩
theorem op_age (h : RelR K S (T.2 55)) : OK1 S T (f_X11_age S) (f_X12_age T) := by
  unfold f_X11_age f_X12_age
  simp only [fb_id]
  obtain ⟨v, S', a1, a2, a3⟩ := h.ageC
  obtain ⟨w, T', b1, b2, b3⟩ := h.ageM
  rw [a2, b2, fb_s, fb_s]
  obtain ⟨S2, e1, e2⟩ := told_e S' v
  have c1 := a1.tr e2
  rcases b3 with rfl | ⟨j, hj, rfl⟩
  · rw [if_pos (show (-1 : Int32) < 0 by decide)]
    obtain ⟨T2, f1, f2⟩ := finds_2 T'
    have c2 := b1.tr f2
    exact ⟨_, _, S2, T2, e1, f1, ⟨K, by rw [c2.2]; exact h.ce c1⟩, c1.1, c2.1⟩
  · rw [if_neg (nI_pos (by omega))]
    exact ⟨_, _, S2, T', e1, rfl, ⟨K, by rw [b1.2]; exact h.ce c1⟩, c1.1, b1.1⟩
theorem op_after (h : RelR K S (T.2 55)) : OK1 S T (f_X11_after S za) (f_X12_after T za) := by
  unfold f_X11_after f_X12_after f_X4_fateOf
  simp only [fb_id]
  rcases h.pow za with ⟨c1, m1⟩ | ⟨w, hw, rfl, c1, m1⟩
  · simp only [c1, m1, ↓reduceIte]; exact (ok_1 h).one
  · obtain ⟨w20, ⟨e0, e1, e2, e3, e4⟩, a1, a2⟩ := h.pwc hw
    have hv := (h.pw w hw).2.2.2.2.1.vP
    simp only [c1, m1, i10, ↓reduceIte]
    obtain ⟨v, S', p1, p2, p3⟩ := h.ageC
    obtain ⟨x, T', b1, b2, b3⟩ := h.ageM
    have cls : ∃ (y : Int32) (S2 : FS), CE S S2 ∧ fb (fb (f_X4_dayOfAge S) fun r2 => if r2.1 < 0 then some (-1000002, r2.2) else fv (fG 8 20 6 r2.2 (nI w) 2) fun x4 => fb (f_X2_ruling r2.2 4 r2.1 (r2.2.1 102) x4 (-1)) fun r6 => if r6.1 = 0 then some (r6.1, r6.2) else if r6.1 = 1 then some (r6.1, r6.2) else some (2, r6.2)) (fun r5 => f_X11_told r5.2 r5.1) = some (y, S2) := by
      rw [p2, fb_s]
      rcases p3 with rfl | ⟨j, hj, rfl⟩
      · rw [if_pos (show (-1000002 : Int32) < 0 by decide), fb_s]
        obtain ⟨S2, f1, f2⟩ := told_e S' (-1000002)
        exact ⟨_, S2, p1.tr f2, f1⟩
      · have h1 : RelR K S' (T.2 55) := h.ce p1
        have f9 : S'.2 9 (6 * w + 2) = T.2 55 (6 * w + 391) := (h1.pwc hw).2.1.2.2.1
        rw [if_neg (nI_pos (by omega)), fv_s, g8_2 w20]
        show ∃ (y : Int32) (S2 : FS), CE S S2 ∧ fb (fb (f_X2_ruling S' 4 (nI j) (S'.1 102) (S'.2 9 (6 * w + 2)) (-1)) _) _ = _
        rw [f9]
        obtain ⟨y, -, S2, -, r1, -, r3, -, -⟩ := h1.rul (zb := T.2 55 (6 * w + 391)) (zc := -1) 4 (nI j) (S'.1 102) hv (Or.inl rfl)
        rw [r1, fb_s]
        have go : ∀ q : Int32, ∃ (y : Int32) (S3 : FS), CE S S3 ∧ f_X11_told S2 q = some (y, S3) := fun q => by
          obtain ⟨S3, f1, f2⟩ := told_e S2 q
          exact ⟨_, S3, (p1.tr r3.ce).tr f2, f1⟩
        by_cases z0 : y = 0
        · rw [if_pos z0, fb_s]; exact go _
        · rw [if_neg z0]
          by_cases z1 : y = 1
          · rw [if_pos z1, fb_s]; exact go _
          · rw [if_neg z1, fb_s]; exact go _
    have mdl : ∃ (y : Int32) (T2 : FS), ME T T2 ∧ (fb (f_X12_ageDay T) fun r3 => if r3.1 < 0 then f_X12_finds r3.2 2 else fb (q_X12_inForce r3.2 4 r3.1 (r3.2.2 55 8)) fun x6 => fb (q_X12_its r3.2 (nI w) 1) fun x8 => fb (f_X12_comesTo r3.2 x6 x8 (-1) r3.1) fun r10 => if r10.1 = 0 then some (r10.1, r10.2) else if r10.1 = 1 then some (r10.1, r10.2) else some (2, r10.2)) = some (y, T2) := by
      rw [b2, fb_s]
      rcases b3 with rfl | ⟨j, hj, rfl⟩
      · rw [if_pos (show (-1 : Int32) < 0 by decide)]
        obtain ⟨T2, f1, f2⟩ := finds_2 T'
        exact ⟨_, T2, b1.tr f2, f1⟩
      · have h1 : RelR K S (T'.2 55) := by rw [b1.2]; exact h
        rw [if_neg (nI_pos (by omega)), its_1 w20]
        show ∃ (y : Int32) (T2 : FS), ME T T2 ∧ (fb (q_X12_inForce T' 4 (nI j) (T'.2 55 8)) _) = _
        rw [(h1.inF 4 (nI j) (T'.2 55 8)).2, fb_s, fb_s]
        have hv1 : vP (K 2) (T'.2 55 (6 * w + 391)) := by rw [b1.2]; exact hv
        obtain ⟨-, y, -, T2, -, r2, -, r4, -⟩ := h1.rul (zb := T'.2 55 (6 * w + 391)) (zc := -1) 4 (nI j) (T'.2 55 8) hv1 (Or.inl rfl)
        show ∃ (y : Int32) (T2 : FS), ME T T2 ∧ (fb (f_X12_comesTo T' _ (T'.2 55 (6 * w + 391)) (-1) (nI j)) _) = _
        rw [r2, fb_s]
        by_cases z0 : y = 0
        · rw [if_pos z0]; exact ⟨_, T2, b1.tr r4.me, rfl⟩
        · rw [if_neg z0]
          by_cases z1 : y = 1
          · rw [if_pos z1]; exact ⟨_, T2, b1.tr r4.me, rfl⟩
          · rw [if_neg z1]; exact ⟨_, T2, b1.tr r4.me, rfl⟩
    obtain ⟨y, S2, q1, q2⟩ := cls
    obtain ⟨y', T2, q3, q4⟩ := mdl
    exact ⟨y, y', S2, T2, q2, q4, ⟨K, by rw [q3.2]; exact h.ce q1⟩, q1.1, q3.1⟩
end AGE
