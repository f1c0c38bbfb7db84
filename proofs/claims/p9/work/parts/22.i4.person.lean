/-! ===== pure: about, person ===== -/
section OPI
variable {K : Nat → Nat} {S T : FS} {za zb zc zd : Int32}
theorem holds_l (h : RelR K S (T.2 55)) (x : Int32) {k : Int32 → Int32 → Option Int32} : ∀ (m i : Nat), i ≤ K 3 → K 3 - i < m → l_X12_holdsMany_4 x T k m (nI (pm_cnt (fun r => T.2 55 (6 * r + 391) == x) i)) (nI i) = k (nI (pm_cnt (fun r => T.2 55 (6 * r + 391) == x) (K 3))) (nI (K 3)) := by
  obtain ⟨k1, k2, k3⟩ := h.ct 8 3 20 (by decide)
  intro m
  induction m with
  | zero => intro i _ hm; exact absurd hm (Nat.not_lt_zero _)
  | succ m ih =>
    intro i hi hm
    rw [l_X12_holdsMany_4, k2]
    by_cases c : i < K 3
    · have e := ih (i + 1) (by omega) (by omega)
      rw [cnt_s] at e
      by_cases c2 : T.2 55 (6 * i + 391) = x
      · rw [if_pos (by rw [c2]; exact beq_self_eq_true x)] at e
        simp only [nI_lt c (show K 3 < 2 ^ 31 by omega), its_1 (show i < 20 by omega), fb_s, c2, fv_s, nI_1, ↓reduceIte]; exact e
      · rw [if_neg (by rw [beq_iff_eq]; exact c2), Nat.add_zero] at e
        simp only [nI_lt c (show K 3 < 2 ^ 31 by omega), its_1 (show i < 20 by omega), fb_s, c2, fv_s, nI_1, Int32.add_zero, ↓reduceIte]; exact e
    · have ei : i = K 3 := by omega
      subst ei
      rw [if_neg (nI_nlt (Nat.le_refl _) (by omega))]
theorem RelR.holds (h : RelR K S (T.2 55)) (x : Int32) : ∃ v : Int32, q_X12_holdsMany T x = some v ∧ qRows 8 20 6 S 2 x = some v := by
  obtain ⟨k1, k2, k3⟩ := h.ct 8 3 20 (by decide)
  refine ⟨_, holds_l h x FU 0 (Nat.zero_le _) (FU_lt (by omega)), ?_⟩
  rw [qRows_e k1 k3 (by decide)]
  have ec : pm_cnt (fun r => S.2 9 (r * 6 + 2) == x) (K 3) = pm_cnt (fun r => T.2 55 (6 * r + 391) == x) (K 3) := pm_cnt_congr (fun j hj => by
    have := (h.pw j hj).1.2.2.1
    show (S.2 9 (j * 6 + 2) == x) = _
    rw [show j * 6 + 2 = 6 * j + 2 by omega, this])
  rw [show pm_cnt (fun r => S.2 (8 + 1) (r * 6 + 2) == x) (K 3) = _ from ec]
theorem op_about2 (h : RelR K S (T.2 55)) (hz : zb = 0 → ∀ p : Nat, p < K 2 → za = nI p → S.2 7 (14 * p + 4) = T.2 55 (14 * p + 114)) : OK2 S T (f_X11_about S za zb) (f_X12_about T za zb) := by
  unfold f_X11_about f_X12_about p_X11_yearsBetween
  simp only [fb_id]
  have c2 := (h.ct 6 2 20 (by decide)).2.2
  obtain ⟨d1, d2, d3⟩ := h.ct 102 8 2000 (by decide)
  rcases h.per za with ⟨c1, m1⟩ | ⟨p, hp, rfl, c1, m1⟩
  · simp only [c1, m1, ↓reduceIte]; exact ok_1 h
  · have p20 : p < 20 := by omega
    obtain ⟨⟨e0, e1, e2, e3⟩, ⟨e7, e8, e10, e12, e13⟩, -⟩ := h.pe p hp
    simp only [c1, m1, i10, ↓reduceIte, g6_4 p20, g6_7 p20, g6_8 p20, g6_1 p20, g6_9 p20, g6_13 p20, g6_11 p20, g6_12 p20, man_4 p20, man_7 p20, man_8 p20, man_1 p20, man_11 p20, man_12 p20, fb_s, e7, e8, e1, e13, e12, d1, d2]
    split
    · next z => rw [hz z p hp rfl]; exact ok0 h CX.rf MX.rf
    · split
      · exact ok0 h CX.rf MX.rf
      · split
        · exact ok0 h CX.rf MX.rf
        · split
          · exact ok0 h CX.rf MX.rf
          · split
            · obtain ⟨T1, g1, g2⟩ := h.knw hp
              rw [g2]
              exact ok0 (by rw [g1.2 55 (by decide)]; exact h) CX.rf g1.me.1
            · split
              · obtain ⟨v, v1, v2⟩ := h.holds (nI p)
                rw [v1, v2, fb_s, fb_s]; exact ok0 h CX.rf MX.rf
              · split
                · rcases h.liv hp with ⟨l1, l2, l3⟩ | ⟨l1, l2, l5, l3, l4⟩
                  · have : S.2 7 (14 * p + 9) = 0 := by
                      rcases (h.pe p hp).2.2.1 with ⟨a1, -⟩ | ⟨-, ⟨d, a1, a2⟩, -⟩
                      · exact a1
                      · rw [l1] at a2; exact absurd a2.symm (nI_m1 (by omega))
                    rw [l3, fb_s, if_neg (by decide), this]; exact ok0 h CX.rf MX.rf
                  · rw [l4, fb_s, if_pos rfl, l5]; exact ok0 h CX.rf MX.rf
                · split
                  · exact ok0 h CX.rf MX.rf
                  · split
                    · obtain ⟨T1, g1, g2⟩ := h.steps hp
                      rw [g2]
                      exact ok0 (by rw [g1.2 55 (by decide)]; exact h) CX.rf g1.me.1
                    · split
                      · exact ok0 h CX.rf MX.rf
                      · exact ok_1 h
theorem op_about (h : RelR K S (T.2 55)) : OK1 S T (f_X11_about S za zb) (f_X12_about T za zb) := by
  by_cases z : zb = 0
  · subst z
    unfold f_X11_about f_X12_about
    simp only [fb_id]
    have c2 := (h.ct 6 2 20 (by decide)).2.2
    rcases h.per za with ⟨c1, m1⟩ | ⟨p, hp, rfl, c1, m1⟩
    · simp only [c1, m1, ↓reduceIte]; exact (ok_1 h).one
    · have p20 : p < 20 := by omega
      simp only [c1, m1, i10, ↓reduceIte, man_4 p20, fb_s]
      exact ⟨_, _, S, T, rfl, rfl, ⟨K, h⟩, CX.rf, MX.rf⟩
  · exact (op_about2 h (fun q => absurd q z)).one
theorem RelR.par (h : RelR K S (T.2 55)) (x y z : Int32) : (q_X12_isParent T x y z = some 0 ∧ p_X7_mayBeParent S x y z = 0) ∨ (q_X12_isParent T x y z = some 1 ∧ p_X7_mayBeParent S x y z = 1 ∧ vP (K 2) x) := by
  unfold q_X12_isParent p_X7_mayBeParent
  have c2 := (h.ct 6 2 20 (by decide)).2.2
  by_cases c : x = -1
  · rw [if_pos c, if_pos c]; exact Or.inr ⟨rfl, rfl, Or.inl c⟩
  · rw [if_neg c, if_neg c]
    rcases h.per x with ⟨c1, m1⟩ | ⟨p, hp, rfl, c1, m1⟩
    · rw [c1, m1]; exact Or.inl ⟨rfl, rfl⟩
    · have p20 : p < 20 := by omega
      obtain ⟨⟨e0, e1, -⟩, -⟩ := h.pe p hp
      simp only [c1, m1, i10, ↓reduceIte, man_0 p20, man_1 p20, g6_0 p20, g6_1 p20, e0, e1, fb_s]
      split
      · split
        · exact Or.inr ⟨rfl, rfl, Or.inr ⟨p, hp, rfl⟩⟩
        · exact Or.inl ⟨rfl, rfl⟩
      · exact Or.inl ⟨rfl, rfl⟩
end OPI
