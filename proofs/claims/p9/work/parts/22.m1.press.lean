/-! ===== pure: press, open, says ===== -/
section OPM
variable {K : Nat → Nat} {S T : FS} {za zb zc zd : Int32}
theorem hands_l (h : RelR K S (T.2 55)) {mk : Nat} (hmk : mk < 20) : ∀ (m i : Nat) (x : Int32), i ≤ K 3 → K 3 - i < m → ∃ v : Int32, (∀ k, l_X3_handsWith_16 (nI mk) S (nI (K 3)) k m x (nI i) = k v (nI (K 3))) ∧ ∀ k, l_X12_press_94 (nI mk) k m T x (nI i) = k T v (nI (K 3)) := by
  obtain ⟨k1, k2, c3⟩ := h.ct 8 3 20 (by decide)
  intro m
  induction m with
  | zero => intro i x _ hm; exact absurd hm (Nat.not_lt_zero _)
  | succ m ih =>
    intro i x hi hm
    by_cases c : i < K 3
    · have i20 : i < 20 := by omega
      obtain ⟨w1, w2⟩ := h.has c
      obtain ⟨-, p5, p6, -⟩ := h.pw i c
      have lt := nI_lt c (show K 3 < 2 ^ 31 by omega)
      by_cases kd : T.2 55 (6 * i + 390) = 2
      · by_cases em : T.2 55 (6 * i + 395) = nI mk
        · by_cases wn : p_X7_whoHas S (nI i) < 0
          · obtain ⟨v, v1, v2⟩ := ih (i + 1) x (by omega) (by omega)
            refine ⟨v, fun k => ?_, fun k => ?_⟩
            · rw [l_X3_handsWith_16]
              simp only [lt, fv_s, wn, nI_1, ↓reduceIte]; exact v1 k
            · rw [l_X12_press_94]
              simp only [k2, lt, its_0 i20, its_5 i20, fb_s, kd, em, w1, wn, fv_s, Int32.or_zero, nI_1, ↓reduceIte]; exact v2 k
          · obtain ⟨v, v1, v2⟩ := ih (i + 1) (x ||| ((1 : Int32) <<< (p_X7_whoHas S (nI i) &&& 31))) (by omega) (by omega)
            refine ⟨v, fun k => ?_, fun k => ?_⟩
            · rw [l_X3_handsWith_16]
              simp only [lt, fv_s, wn, g8_5 i20, p5 kd, em, nI_1, ↓reduceIte]; exact v1 k
            · rw [l_X12_press_94]
              simp only [k2, lt, its_0 i20, its_5 i20, fb_s, kd, em, w1, wn, fv_s, nI_1, ↓reduceIte]; exact v2 k
        · obtain ⟨v, v1, v2⟩ := ih (i + 1) x (by omega) (by omega)
          refine ⟨v, fun k => ?_, fun k => ?_⟩
          · rw [l_X3_handsWith_16]
            by_cases wn : p_X7_whoHas S (nI i) < 0
            · simp only [lt, fv_s, wn, nI_1, ↓reduceIte]; exact v1 k
            · simp only [lt, fv_s, wn, g8_5 i20, p5 kd, em, nI_1, ↓reduceIte]; exact v1 k
          · rw [l_X12_press_94]
            simp only [k2, lt, its_0 i20, its_5 i20, fb_s, kd, em, fv_s, Int32.or_zero, nI_1, ↓reduceIte]; exact v2 k
      · obtain ⟨v, v1, v2⟩ := ih (i + 1) x (by omega) (by omega)
        refine ⟨v, fun k => ?_, fun k => ?_⟩
        · rw [l_X3_handsWith_16]
          by_cases wn : p_X7_whoHas S (nI i) < 0
          · simp only [lt, fv_s, wn, nI_1, ↓reduceIte]; exact v1 k
          · simp only [lt, fv_s, wn, g8_5 i20, p6 kd, show ¬ (-1 : Int32) = nI mk from fun q => nI_m1 (by omega) q.symm, nI_1, ↓reduceIte]; exact v1 k
        · rw [l_X12_press_94]
          simp only [k2, lt, its_0 i20, fb_s, kd, fv_s, Int32.or_zero, nI_1, ↓reduceIte]; exact v2 k
    · have ei : i = K 3 := by omega
      subst ei
      refine ⟨x, fun k => ?_, fun k => ?_⟩
      · rw [l_X3_handsWith_16, if_neg (nI_nlt (Nat.le_refl _) (by omega))]
      · rw [l_X12_press_94, k2, if_neg (nI_nlt (Nat.le_refl _) (by omega))]
theorem RLe.mk {f n : Nat → Int32} {e : Nat} {x y : Int32} (h : RLe K f n) (c5 : K 5 ≤ 40) (he : e < K 5) : RLe K (upd (upd f (12 * e + 5) x) (12 * e + 4) y) (upd (upd n (12 * e + 1299) x) (12 * e + 1293) y) := by
  intro q hq
  have hh := h q hq
  by_cases z : q = e
  · subst z
    simp (disch := omega) only [pk_us, pk_un]
    exact ⟨⟨hh.1.1, hh.1.2.1, hh.1.2.2.1, trivial, hh.1.2.2.2.2⟩, ⟨hh.2.1.1, hh.2.1.2.1, hh.2.1.2.2.1, hh.2.1.2.2.2.1, trivial⟩, hh.2.2⟩
  · simp (disch := omega) only [pk_un]; exact hh
theorem op_press (h : RelR K S (T.2 55)) : OK2 S T (f_X11_press S za zb) (f_X12_press T za zb) := by
  unfold f_X11_press f_X12_press
  simp only [fb_id]
  obtain ⟨k1, k2, c3⟩ := h.ct 8 3 20 (by decide)
  have c5 := (h.ct 14 5 40 (by decide)).2.2
  have c2 := (h.ct 6 2 20 (by decide)).2.2
  have c0 := (h.ct 2 0 10 (by decide)).2.2
  rcases h.let' za with ⟨a1, m1⟩ | ⟨e, he, rfl, a1, m1⟩
  · simp only [a1, m1, ↓reduceIte]; exact ok_1 h
  · have e40 : e < 40 := by omega
    rcases h.pow zb with ⟨a2, m2⟩ | ⟨w, hw, rfl, a2, m2⟩
    · simp only [a1, m1, a2, m2, i10, ↓reduceIte]; exact ok_1 h
    · obtain ⟨w20, ⟨e0, e1, e2, e3, e4⟩, -, -⟩ := h.pwc hw
      obtain ⟨-, q1, q2, -, -, -, ⟨mk, hmk, q3⟩, -⟩ := h.pw w hw
      obtain ⟨hh, hv⟩ := h.has hw
      have kk : q_X7_isOfKind S (nI w) 2 = some (p_X12_isUnder T (T.2 55 (6 * w + 390)) 2) := h.kind hw (z := 2) (by decide)
      simp only [a1, m1, a2, m2, i10, ↓reduceIte, kk, under2, its_0 w20, fb_s]
      by_cases c : T.2 55 (6 * w + 390) = 2
      · obtain ⟨⟨l0, l1, l2, l3, l4⟩, l5, l6, l7, ⟨l8, ⟨tw, htw, l9⟩, l10⟩, l11⟩ := h.le e he
        unfold f_X3_mark p_X3_isSent
        simp only [c, i10, ↓reduceIte, of_4 e40, fb_s, fv_s, g14_6 e40, l4, hh]
        by_cases z : T.2 55 (12 * e + 1294) = -1
        · simp only [z, ltm1, ↓reduceIte]
          rcases hv with hv | ⟨p, hp, hv, lv⟩
          · have it : p_X7_isInTown S (-1) = 0 := by
              unfold p_X7_isInTown p_X7_isLiving
              rw [fHas_f (h.ct 6 2 20 (by decide)).1 (Or.inl (by decide)), if_pos rfl]; rfl
            simp only [hv, it, ltm1, fb_s, ↓reduceIte]; exact ok_3 h
          · have p20 : p < 20 := by omega
            simp only [hv, nI_pos (show p < 2 ^ 31 by omega), fb_s, man_4 p20, of_10 e40, l9, ↓reduceIte]
            rcases h.town_of hp lv with ⟨t1, t2⟩ | ⟨cc, hcc, t1, t3, t2⟩
            · simp only [t1, t2, show ¬ (-1 : Int32) = nI tw from fun q => nI_m1 (by omega) q.symm, fb_s, ↓reduceIte]; exact ok_3 h
            · simp only [t1, t2, i10, g6_4 p20, t3, g14_3 e40, l6 z, l9, ↓reduceIte]
              by_cases tt : nI cc = nI tw
              · obtain ⟨hd, d1, d2⟩ := hands_l h (mk := mk) (by omega) FU 0 0 (Nat.zero_le _) (FU_lt (by omega))
                obtain ⟨tv, t4, t5⟩ := h.those (nI tw) (S' := S) (T' := T) rfl rfl (fun _ _ => rfl)
                have dd : q_X3_handsWith S (nI mk) = some hd := by
                  unfold q_X3_handsWith; rw [fv_s, k1]; exact d1 _
                simp only [tt, its_5 w20, q3, fb_s, g8_5 w20, q1 c, dd, t4, g14_4 e40, l3, ↓reduceIte]
                rw [show ∀ k, l_X12_press_94 (nI mk) k FU T 0 0 = k T hd (nI (K 3)) from d2]
                simp only [of_10 e40, l9, fb_s, t5, of_3 e40]
                have fin : ∀ x y : Int32, OK2 S T (f_X11_told (wA (wA S 15 (12 * e + 5) x) 15 (12 * e + 4) y) (p_J6_bitCount_0f7a4 (wA (wA S 15 (12 * e + 5) x) 15 (12 * e + 4) y) y)) (some (p_J6_bitCount_0f7a4 (wA (wA S 15 (12 * e + 5) x) 15 (12 * e + 4) y) y, wA (wA T 55 (12 * e + 1299) x) 55 (12 * e + 1293) y)) := by
                  intro x y
                  refine okt (K := K) ?_ ⟨⟨rfl, rfl, rfl, rfl⟩, rfl, rfl⟩ ⟨⟨rfl, rfl, rfl, rfl, rfl⟩, rfl, rfl⟩
                  simp only [wA_e]
                  refine h.onE ((CQ.rf.wA (by decide) (by decide)).wA (by decide) (by decide)) ((NQ.rf.w (Or.inl (by omega))).w (Or.inl (by omega))) ?_ ?_
                  · simp (disch := omega) only [pk_un, wA_1]; exact h.1.2
                  · simp only [wA_e]; exact h.le.mk c5 he
                have an : hd &&& tv = tv &&& hd := Int32.and_comm _ _
                by_cases y0 : T.2 55 (12 * e + 1293) = 0
                · simp only [y0, fl_s, s14_5 e40, s14_4 e40, writes_9 e40, writes_3 e40, of_3 e40, fb_s, wA_e, g14_4 e40, ↓reduceIte, an]
                  have yy : ∀ v : Int32, upd (T.2 55) (12 * e + 1299) v (12 * e + 1293) = 0 := fun v => by rw [pk_un (by omega), y0]
                  simp only [yy, pk_us, bits_e (S := wA (wA S 15 (12 * e + 5) (tv &&& hd)) 15 (12 * e + 4) (0 ||| ((1 : Int32) <<< (nI mk &&& 31)))), fb_s]
                  exact fin _ _
                · simp only [y0, fl_s, s14_5 e40, s14_4 e40, g14_5 e40, l5.2.2.2.2, writes_9 e40, writes_3 e40, of_3 e40, of_9 e40, fb_s, wA_e, g14_4 e40, ↓reduceIte, an]
                  have yy : ∀ v : Int32, upd (T.2 55) (12 * e + 1299) v (12 * e + 1293) = T.2 55 (12 * e + 1293) := fun v => by rw [pk_un (by omega)]
                  simp only [yy, pk_us, bits_e (S := wA (wA S 15 (12 * e + 5) (T.2 55 (12 * e + 1299) &&& (tv &&& hd))) 15 (12 * e + 4) (T.2 55 (12 * e + 1293) ||| ((1 : Int32) <<< (nI mk &&& 31)))), fb_s]
                  exact fin _ _
              · simp only [tt, fb_s, ↓reduceIte]; exact ok_3 h
        · simp only [z, i10, show ¬ T.2 55 (12 * e + 1294) < 0 from fun q => z ((l8.lt (by omega)).mp q), fb_s, ↓reduceIte]; exact ok_3 h
      · simp only [c, ↓reduceIte]; exact ok_5 h
theorem op_says (h : RelR K S (T.2 55)) : OK1 S T (f_X11_says S za zb zc) (f_X12_says T za zb zc) := by
  unfold f_X11_says f_X12_says
  simp only [fb_id]
  obtain ⟨d1, d2, d3⟩ := h.ct 102 8 2000 (by decide)
  have go : ∀ {l : Nat}, l < K 4 → vP (K 2) zb → vP (K 5) zc → OK1 S T (f_X2_comesTo S (nI l) zb zc (S.1 102)) (f_X12_comesTo T (nI l) zb zc (T.2 55 8)) := by
    intro l hl hb hc
    obtain ⟨v, w, S', T', r1, r2, r3, r4, -⟩ := h.comes (zd := nI (K 8)) hl hb hc
    rw [d1, d2]
    exact ⟨v, w, S', T', r1, r2, ⟨K, by rw [r4.me.2]; exact h.ce r3.ce⟩, r3.ce.1, r4.me.1⟩
  rcases h.law za with ⟨a1, m1⟩ | ⟨l, hl, rfl, a1, m1⟩
  · by_cases b0 : zb = -1
    · by_cases c0 : zc = -1
      · simp only [b0, c0, a1, m1, ↓reduceIte]; exact (ok_1 h).one
      · simp only [b0, c0, a1, m1, ite_self, ↓reduceIte]; exact (ok_1 h).one
    · by_cases c0 : zc = -1
      · simp only [b0, c0, a1, m1, ite_self, ↓reduceIte]; exact (ok_1 h).one
      · simp only [b0, c0, a1, m1, ite_self, ↓reduceIte]; exact (ok_1 h).one
  · by_cases b0 : zb = -1
    · by_cases c0 : zc = -1
      · subst b0; subst c0
        simp only [a1, m1, i10, ↓reduceIte]; exact go hl (Or.inl rfl) (Or.inl rfl)
      · rcases h.let' zc with ⟨e1, e2⟩ | ⟨e, he, rfl, e1, e2⟩
        · simp only [b0, c0, a1, m1, e1, e2, i10, ↓reduceIte]; exact (ok_1 h).one
        · simp only [b0, c0, a1, m1, e1, e2, i10, ↓reduceIte]; rw [← b0]; exact go hl (Or.inl b0) (Or.inr ⟨e, he, rfl⟩)
    · rcases h.per zb with ⟨p1, p2⟩ | ⟨p, hp, rfl, p1, p2⟩
      · simp only [b0, a1, m1, p1, p2, i10, ite_self, ↓reduceIte]; exact (ok_1 h).one
      · by_cases c0 : zc = -1
        · simp only [b0, c0, a1, m1, p1, p2, i10, ↓reduceIte]; rw [← c0]; exact go hl (Or.inr ⟨p, hp, rfl⟩) (Or.inl c0)
        · rcases h.let' zc with ⟨e1, e2⟩ | ⟨e, he, rfl, e1, e2⟩
          · simp only [b0, c0, a1, m1, p1, p2, e1, e2, i10, ↓reduceIte]; exact (ok_1 h).one
          · simp only [b0, c0, a1, m1, p1, p2, e1, e2, i10, ↓reduceIte]; exact go hl (Or.inr ⟨p, hp, rfl⟩) (Or.inr ⟨e, he, rfl⟩)
end OPM
