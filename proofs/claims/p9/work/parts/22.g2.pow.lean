/-! ===== pure: powers ===== -/
section OP2
variable {K : Nat → Nat} {S T : FS} {za zb zc zd : Int32}
theorem RelR.pwc (h : RelR K S (T.2 55)) {w : Nat} (hw : w < K 3) : w < 20 ∧ (S.2 9 (6 * w) = T.2 55 (6 * w + 390) ∧ S.2 9 (6 * w + 1) = T.2 55 (6 * w + 394) ∧ S.2 9 (6 * w + 2) = T.2 55 (6 * w + 391) ∧ S.2 9 (6 * w + 3) = T.2 55 (6 * w + 392) ∧ S.2 9 (6 * w + 4) = T.2 55 (6 * w + 393)) ∧ (T.2 55 (6 * w + 391) < 0 ↔ T.2 55 (6 * w + 391) = -1) ∧ (T.2 55 (6 * w + 392) < 0 ↔ T.2 55 (6 * w + 392) = -1) := by
  have c3 := (h.ct 8 3 20 (by decide)).2.2
  have c2 := (h.ct 6 2 20 (by decide)).2.2
  obtain ⟨h1, -, -, -, h5, h6, -⟩ := h.pw w hw
  exact ⟨by omega, h1, h5.vP.lt (by omega), h6.vP.lt (by omega)⟩
theorem op_as (h : RelR K S (T.2 55)) : OK2 S T (f_X11_as S za zb) (f_X12_as T za zb) := by
  unfold f_X11_as f_X12_as
  simp only [fb_id]
  rcases h.pow za with ⟨c1, m1⟩ | ⟨w, hw, rfl, c1, m1⟩
  · simp only [c1, m1, eq_self, ↓reduceIte]; exact ok_1 h
  · rcases out_c zb 0 5 with ⟨c2, m2⟩ | ⟨c2, m2⟩
    · obtain ⟨z, hz, rfl⟩ := out_n 0 5 rfl rfl (by decide) (by decide) c2
      obtain ⟨w20, ⟨e0, e1, e2, e3, e4⟩, -⟩ := h.pwc hw
      simp only [c1, m1, c2, m2, i10, eq_self, fb_s, ↓reduceIte, h.kind hw (show z < 6 by omega)]
      rw [its_0 w20, its_4 w20, g8_1 w20, e1]
      simp only [fb_s]
      by_cases c : p_X12_isUnder T (T.2 55 (6 * w + 390)) (nI z) = 0
      · simp only [c, ↓reduceIte]; exact ok_5 h
      · simp only [c, ↓reduceIte]; exact okt h CX.rf MX.rf
    · simp only [c1, m1, c2, m2, i10, eq_self, ↓reduceIte]; exact ok_1 h
theorem RelR.has (h : RelR K S (T.2 55)) {w : Nat} (hw : w < K 3) : q_X12_whoHas T (nI w) = some (p_X7_whoHas S (nI w)) ∧ vL (K 2) (T.2 55) (p_X7_whoHas S (nI w)) := by
  obtain ⟨w20, ⟨e0, e1, e2, e3, e4⟩, a1, a2⟩ := h.pwc hw
  obtain ⟨-, -, -, -, h5, h6, -⟩ := h.pw w hw
  unfold q_X12_whoHas p_X7_whoHas p_X7_isLent
  rw [its_2 w20, its_1 w20, g8_3 w20, g8_2 w20, e2, e3]
  simp only [fb_s]
  by_cases c : T.2 55 (6 * w + 392) = -1
  · simp only [c, a2.mpr c, ↓reduceIte]
    exact ⟨by rw [if_pos (by decide)], h5⟩
  · simp only [c, ↓reduceIte, fun q => c (a2.mp q), i10]
    rw [if_neg (fun q => c (a2.mp q))]
    exact ⟨rfl, h6⟩
theorem op_held (h : RelR K S (T.2 55)) : OK2 S T (f_X11_held S za zb) (f_X12_held T za zb) := by
  unfold f_X11_held f_X12_held
  simp only [fb_id]
  rcases h.pow za with ⟨c1, m1⟩ | ⟨w, hw, rfl, c1, m1⟩
  · simp only [c1, m1, eq_self, ↓reduceIte]; exact ok_1 h
  · obtain ⟨w20, ⟨e0, e1, e2, e3, e4⟩, a1, a2⟩ := h.pwc hw
    obtain ⟨-, k1, k2, -⟩ := h.pw w hw
    simp only [c1, m1, i10, ↓reduceIte, (h.has hw).1, its_0 w20, its_1 w20, its_5 w20, its_3 w20, g8_0 w20, g8_2 w20, g8_5 w20, g8_4 w20, e0, e2, e4, fb_s]
    by_cases b0 : zb = 0
    · simp only [b0, ↓reduceIte]; exact ok0 h CX.rf MX.rf
    · by_cases b1 : zb = 1
      · simp only [b0, b1, ↓reduceIte]; exact ok0 h CX.rf MX.rf
      · by_cases b2 : zb = 2
        · simp only [b0, b1, b2, ↓reduceIte]; exact ok0 h CX.rf MX.rf
        · by_cases b3 : zb = 3
          · simp only [b0, b1, b2, b3, ↓reduceIte]
            by_cases c : T.2 55 (6 * w + 390) = 2
            · simp only [c, ↓reduceIte, k1 c]; exact ok0 h CX.rf MX.rf
            · simp only [c, ↓reduceIte, k2 c]; exact ok0 h CX.rf MX.rf
          · by_cases b4 : zb = 4
            · simp only [b0, b1, b2, b3, b4, ↓reduceIte]; exact ok0 h CX.rf MX.rf
            · simp only [b0, b1, b2, b3, b4, ↓reduceIte]; exact ok_1 h
theorem op_give (h : RelR K S (T.2 55)) : OK2 S T (f_X11_give S za zb) (f_X12_give T za zb) := by
  unfold f_X11_give f_X12_give
  simp only [fb_id]
  rcases h.pow za with ⟨c1, m1⟩ | ⟨w, hw, rfl, c1, m1⟩
  · simp only [c1, m1, eq_self, ↓reduceIte]; exact ok_1 h
  · obtain ⟨w20, ⟨e0, e1, e2, e3, e4⟩, a1, a2⟩ := h.pwc hw
    have c3 := (h.ct 8 3 20 (by decide)).2.2
    have c2 := (h.ct 6 2 20 (by decide)).2.2
    obtain ⟨h1, k1, k2, k3, k4, k5, k6⟩ := h.pw w hw
    have fin : vL (K 2) (T.2 55) zb → T.2 55 (6 * w + 392) = -1 → OK2 S T (fb (f_X7_handOver S (nI w) zb) fun r7 => f_X11_told r7.2 r7.1) (fb (f_X12_makes T (nI w) 1 zb) fun r => some (T.2 55 (6 * w + 391), r.2)) := by
      intro hv e
      unfold f_X7_handOver f_X7_setLent
      rw [makes_1 w20]
      simp only [fb_s, fl_s]
      rw [s8_3 w20, s8_4 w20, s8_2 w20, g8_2 w20]
      have q2 : (wA (wA S 9 (6 * w + 3) (-1)) 9 (6 * w + 4) (-1)).2 9 (6 * w + 2) = T.2 55 (6 * w + 391) := by
        rw [wA_e, wA_e, pk_un (by omega), pk_un (by omega)]; exact e2
      rw [q2]
      refine okt (K := K) ?_ ⟨⟨rfl, rfl, rfl, rfl⟩, rfl, rfl⟩ ⟨⟨rfl, rfl, rfl, rfl, rfl⟩, rfl, rfl⟩
      have e9 : (wA T 55 (6 * w + 391) zb).2 55 = upd (T.2 55) (6 * w + 391) zb := wA_e
      rw [e9]
      refine h.onW (((CQ.rf.wA (by decide) (by decide)).wA (by decide) (by decide)).wA (by decide) (by decide)) (NQ.rf.w (Or.inl (by omega))) ?_ ?_
      · rw [wA_1, wA_1, wA_1, pk_un (by omega)]; exact h.1.2
      · rw [wA_e, wA_e, wA_e]
        have z3 : upd (S.2 9) (6 * w + 3) (-1) = S.2 9 := upd_id (e3.trans e)
        have z4 : upd (S.2 9) (6 * w + 4) (-1) = S.2 9 := upd_id (e4.trans (k6.2 e))
        rw [z3, z4]
        exact h.pw.hold c3 c2 hw hv
    have go : vL (K 2) (T.2 55) zb → OK2 S T (if p_X7_isLent S (nI w) = 0 then fb (f_X7_handOver S (nI w) zb) fun r7 => f_X11_told r7.2 r7.1 else f_X11_told S (-1000003)) (if T.2 55 (6 * w + 392) < 0 then fb (f_X12_makes T (nI w) 1 zb) fun r => some (T.2 55 (6 * w + 391), r.2) else f_X12_finds T 3) := by
      intro hv
      unfold p_X7_isLent
      rw [g8_3 w20, e3]
      by_cases c : T.2 55 (6 * w + 392) = -1
      · rw [if_pos c, if_pos rfl, if_pos (a2.mpr c)]; exact fin hv c
      · rw [if_neg c, if_neg (by decide), if_neg (fun q => c (a2.mp q))]; exact ok_3 h
    simp only [its_2 w20, its_1 w20, fb_s]
    rcases h.lon zb with ⟨b1, b2⟩ | ⟨b1, b2, b3⟩ | ⟨b1, b2, b3, b4⟩ | ⟨b1, ⟨p, b5, b6, b7⟩, b2, b3, b4⟩
    · subst b1
      simp only [c1, m1, b2, i10, ↓reduceIte]
      exact go (Or.inl rfl)
    · simp only [c1, m1, b1, b2, b3, i10, ↓reduceIte]; exact ok_1 h
    · simp only [c1, m1, b1, b2, b3, b4, i10, fb_s, ↓reduceIte]; exact ok_1 h
    · simp only [c1, m1, b1, b2, b3, b4, i10, fb_s, ↓reduceIte]; exact go (Or.inr ⟨p, b5, b6, b7⟩)
theorem op_lend (h : RelR K S (T.2 55)) : OK2 S T (f_X11_lend S za zb zc) (f_X12_lend T za zb zc) := by
  unfold f_X11_lend f_X12_lend
  simp only [fb_id]
  rcases h.pow za with ⟨c1, m1⟩ | ⟨w, hw, rfl, c1, m1⟩
  · simp only [c1, m1, eq_self, ↓reduceIte]; exact ok_1 h
  · obtain ⟨w20, ⟨e0, e1, e2, e3, e4⟩, a1, a2⟩ := h.pwc hw
    have c3 := (h.ct 8 3 20 (by decide)).2.2
    have c2 := (h.ct 6 2 20 (by decide)).2.2
    obtain ⟨d1, d2, d3⟩ := h.ct 102 8 2000 (by decide)
    have k2 : q_X7_isOfKind S (nI w) 2 = some (p_X12_isUnder T (T.2 55 (6 * w + 390)) 2) := h.kind hw (z := 2) (by decide)
    simp only [c1, m1, i10, ↓reduceIte, k2, under2, its_0 w20, its_1 w20, its_2 w20, fb_s, fv_s, g8_2 w20, e2, d1, d2]
    rcases h.per zb with ⟨b1, b2⟩ | ⟨p, hp, rfl, b1, b2⟩
    · have : p_X7_isLiving S zb = 0 := by unfold p_X7_isLiving; rw [if_pos b1]
      simp only [b2, this, ↓reduceIte]; exact ok_1 h
    · rcases h.liv hp with ⟨l1, l2, l3⟩ | ⟨l1, l2, -, l3, l4⟩
      · simp only [b2, l2, l3, i10, fb_s, ↓reduceIte]
        rcases out_c zc (nI (K 8)) 2000 with ⟨o1, o2⟩ | ⟨o1, o2⟩
        · simp only [o1, o2, i10, ↓reduceIte]
          by_cases c : T.2 55 (6 * w + 390) = 2
          · simp only [c, i10, ↓reduceIte]
            by_cases x1 : T.2 55 (6 * w + 391) = -1
            · simp only [x1, ↓reduceIte]
              rw [if_pos (show (-1 : Int32) < 0 by decide)]; exact ok_3 h
            · rw [if_neg x1, if_neg (fun q => x1 (a1.mp q))]
              unfold p_X7_isLent f_X7_setLent
              rw [g8_3 w20, e3]
              by_cases x3 : T.2 55 (6 * w + 392) = -1
              · rw [if_pos x3, if_pos (a2.mpr x3)]
                by_cases x2 : T.2 55 (6 * w + 391) = nI p
                · rw [if_pos x2, if_pos x2]; exact ok_3 h
                · rw [if_neg x2, if_neg x2, if_pos rfl, makes_2 w20]
                  simp only [fb_s, fl_s]
                  rw [s8_3 w20, s8_4 w20, makes_3 w20]
                  simp only [fb_s]
                  refine ok0 (K := K) ?_ ⟨⟨rfl, rfl, rfl, rfl⟩, rfl, rfl⟩ ⟨⟨rfl, rfl, rfl, rfl, rfl⟩, rfl, rfl⟩
                  rw [wA_e, wA_e]
                  refine h.onW ((CQ.rf.wA (by decide) (by decide)).wA (by decide) (by decide)) ((NQ.rf.w (Or.inl (by omega))).w (Or.inl (by omega))) ?_ ?_
                  · rw [wA_1, wA_1, pk_un (by omega), pk_un (by omega)]; exact h.1.2
                  · rw [wA_e, wA_e]
                    exact h.pw.lent c3 c2 hw (Or.inr ⟨p, hp, rfl, l1⟩) (fun q => absurd q (nI_m1 (by omega)))
              · rw [if_neg x3, if_neg (fun q => x3 (a2.mp q)), if_neg (show ¬ (1 : Int32) = 0 by decide)]
                by_cases x2 : T.2 55 (6 * w + 391) = nI p
                · rw [if_pos x2]; exact ok_3 h
                · rw [if_neg x2]; exact ok_3 h
          · simp only [c, ↓reduceIte]; exact ok_5 h
        · simp only [o1, o2, i10, ↓reduceIte]; exact ok_1 h
      · simp only [b2, l3, l4, i10, fb_s, ↓reduceIte]; exact ok_1 h
end OP2
