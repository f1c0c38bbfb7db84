/-! ===== pure: power, copy, town, rent, own, debt, owed, strike, letter ===== -/
section OP3
variable {K : Nat → Nat} {S T : FS} {za zb zc zd : Int32}
def kU (K : Nat → Nat) (c v : Nat) : Nat → Nat := fun j => if j = c then v else K j
theorem kU_e {c v : Nat} : kU K c v c = v := if_pos rfl
theorem kU_n {c v j : Nat} (h : j ≠ c) : kU K c v j = K j := if_neg h
/-- a power that comes -/
theorem RPw.new {f n : Nat → Int32} {k y z m m' : Int32} {n1 : Int32} (h : RPw K f n) (b : K 3 < 20) (b2 : K 2 ≤ 20) (hk : nB 5 k) (hy : vL (K 2) n y) (hm : k = 2 → m = m') (hm2 : k ≠ 2 → m = -1) (hm3 : nB 19 m') :
    RPw (kU K 3 (K 3 + 1)) (upd (upd (upd (upd (upd (pm_apf 6 (K 3) k f) (6 * K 3 + 1) z) (6 * K 3 + 2) y) (6 * K 3 + 5) m) (6 * K 3 + 3) (-1)) (6 * K 3 + 4) (-1)) (upd (upd (upd (upd (upd (upd (upd n 3 n1) (6 * K 3 + 390) k) (6 * K 3 + 391) y) (6 * K 3 + 394) z) (6 * K 3 + 395) m') (6 * K 3 + 392) (-1)) (6 * K 3 + 393) (-1)) := by
  intro q hq
  rw [kU_e] at hq
  rw [kU_n (show (2 : Nat) ≠ 3 by decide)]
  have o2 : ∀ z' : Int32, vL (K 2) n z' → vL (K 2) (upd (upd (upd (upd (upd (upd (upd n 3 n1) (6 * K 3 + 390) k) (6 * K 3 + 391) y) (6 * K 3 + 394) z) (6 * K 3 + 395) m') (6 * K 3 + 392) (-1)) (6 * K 3 + 393) (-1)) z' := fun z' hz => ((((((hz.o b2 (by omega)).o b2 (by omega)).o b2 (by omega)).o b2 (by omega)).o b2 (by omega)).o b2 (by omega)).o b2 (by omega)
  by_cases e : q = K 3
  · subst e
    simp (disch := omega) only [pk_us, pk_un, apf_0]
    exact ⟨⟨trivial, trivial, trivial, trivial, trivial⟩, hm, hm2, hk, o2 _ hy, Or.inl rfl, hm3, fun _ => trivial⟩
  · have h1 := h q (by omega)
    simp (disch := omega) only [pk_un, apf_o]
    exact ⟨h1.1, h1.2.1, h1.2.2.1, h1.2.2.2.1, o2 _ h1.2.2.2.2.1, o2 _ h1.2.2.2.2.2.1, h1.2.2.2.2.2.2⟩
theorem op_power (h : RelR K S (T.2 55)) : OK2 S T (f_X11_power S za zb zc) (f_X12_power T za zb zc) := by
  unfold f_X11_power f_X12_power
  simp only [fb_id]
  obtain ⟨k1, k2, c3⟩ := h.ct 8 3 20 (by decide)
  have c2 := (h.ct 6 2 20 (by decide)).2.2
  rcases out_c za 0 5 with ⟨c1, m1⟩ | ⟨c1, m1⟩
  · obtain ⟨k, hk, ek⟩ := out_n 0 5 rfl rfl (by decide) (by decide) c1
    have go : vL (K 2) (T.2 55) zb → OK2 S T (if fOut zc 0 99 = 0 then if fFull 8 20 S = 0 then fb (f_X7_addPower S za zb zc) fun r10 => f_X11_told r10.2 r10.1 else f_X11_told S (-1000004) else f_X11_told S (-1000001)) (if p_X12_in T zc 0 99 = 0 then f_X12_finds T 1 else if T.2 55 3 = 20 then f_X12_finds T 4 else f_X12_newPower T za zb zc (-1)) := by
      intro hv
      rcases out_c zc 0 99 with ⟨o1, o2⟩ | ⟨o1, o2⟩
      · simp only [o1, o2, i10, ↓reduceIte]
        by_cases c : K 3 = 20
        · rw [fFull_t k1 (by omega) (by omega), k2, if_neg (by decide), if_pos (by rw [c]; rfl)]; exact ok_4 h
        · rw [fFull_f k1 (by omega) (by decide), if_pos rfl, k2, if_neg (fun q => c (nI_inj (by omega) (by decide) (q.trans (show (20 : Int32) = nI 20 from rfl))))]
          have w20 : K 3 < 20 := by omega
          unfold f_X7_addPower f_X12_newPower f_X7_setLent f_X12_comesBack
          rw [fApp_f k1 w20 (by decide)]
          simp only [fb_s, fl_s, fv_s, k2, nI_1]
          rw [s8_1 w20, s8_2 w20, makes_0 w20]
          simp only [fb_s]
          rw [makes_1 w20]
          simp only [fb_s]
          rw [makes_4 w20]
          simp only [fb_s]
          rw [if_pos (show (-1 : Int32) < 0 by decide), makes_5 w20]
          simp only [fb_s]
          rw [makes_2 w20]
          simp only [fb_s]
          rw [makes_3 w20]
          simp only [fb_s]
          have mk : ∀ (S1 : FS) (m : Int32), S1 = wA (wA (wA (wA (wA (ui S.1 8 (nI (K 3 + 1)), ua S.2 9 (pm_apf 6 (K 3) za (S.2 9))) 9 (6 * K 3 + 1) zc) 9 (6 * K 3 + 2) zb) 9 (6 * K 3 + 5) m) 9 (6 * K 3 + 3) (-1)) 9 (6 * K 3 + 4) (-1) → (za = 2 → m = nI (K 3)) → (za ≠ 2 → m = -1) → OK2 S T (f_X11_told S1 (nI (K 3))) (some (nI (K 3), wA (wA (wA (wA (wA (wA (wA T 55 3 (nI (K 3 + 1))) 55 (6 * K 3 + 390) za) 55 (6 * K 3 + 391) zb) 55 (6 * K 3 + 394) zc) 55 (6 * K 3 + 395) (nI (K 3))) 55 (6 * K 3 + 392) (-1)) 55 (6 * K 3 + 393) (-1))) := by
            intro S1 m e1 hm hm2
            subst e1
            refine okt (K := kU K 3 (K 3 + 1)) ?_ ⟨⟨rfl, rfl, rfl, rfl⟩, rfl, rfl⟩ ⟨⟨rfl, rfl, rfl, rfl, rfl⟩, rfl, rfl⟩
            simp only [wA_e]
            refine h.onW_3 ((((((CQ.rf.app (by decide) (by decide) (by decide) (by decide)).wA (by decide) (by decide)).wA (by decide) (by decide)).wA (by decide) (by decide)).wA (by decide) (by decide)).wA (by decide) (by decide)) (((((((NQ.rf.w (Or.inr (Or.inr rfl))).w (Or.inl (by omega))).w (Or.inl (by omega))).w (Or.inl (by omega))).w (Or.inl (by omega))).w (Or.inl (by omega))).w (Or.inl (by omega))) (fun i hi => kU_n hi) (by rw [kU_e]; omega) ?_ (onct 8 3 20 (by decide) ?_ ?_ (by rw [kU_e]; omega)) ?_
            · simp (disch := omega) only [pk_un]; exact h.1.2
            · rw [kU_e]; rfl
            · rw [kU_e]; simp (disch := omega) only [pk_un, pk_us]
            · simp only [wA_e, ua_eq]
              exact h.pw.new w20 c2 ⟨k, by omega, ek⟩ hv hm hm2 ⟨K 3, by omega, rfl⟩
          by_cases c2' : za = 2
          · rw [if_pos c2', s8_5 w20, s8_3 w20, s8_4 w20]; simp only [fb_s]
            exact mk _ _ rfl (fun _ => rfl) (fun q => absurd c2' q)
          · rw [if_neg c2', s8_5 w20, s8_3 w20, s8_4 w20]; simp only [fb_s]
            exact mk _ _ rfl (fun q => absurd q c2') (fun _ => rfl)
      · simp only [o1, o2, i10, ↓reduceIte]; exact ok_1 h
    rcases h.lon zb with ⟨b1, b2⟩ | ⟨b1, b2, b3⟩ | ⟨b1, b2, b3, b4⟩ | ⟨b1, ⟨p, b5, b6, b7⟩, b2, b3, b4⟩
    · subst b1
      simp only [c1, m1, b2, i10, ↓reduceIte]; exact go (Or.inl rfl)
    · simp only [c1, m1, b1, b2, b3, i10, ↓reduceIte]; exact ok_1 h
    · simp only [c1, m1, b1, b2, b3, b4, i10, fb_s, ↓reduceIte]; exact ok_1 h
    · simp only [c1, m1, b1, b2, b3, b4, i10, fb_s, ↓reduceIte]; exact go (Or.inr ⟨p, b5, b6, b7⟩)
  · simp only [c1, m1, i10, ↓reduceIte]; exact ok_1 h
theorem op_rent (h : RelR K S (T.2 55)) : OK2 S T (f_X11_rent S za zb) (f_X12_rent T za zb) := by
  unfold f_X11_rent f_X12_rent
  simp only [fb_id]
  have c0 := (h.ct 2 0 10 (by decide)).2.2
  rcases h.twn za with ⟨c1, m1⟩ | ⟨t, ht, rfl, c1, m1⟩
  · simp only [c1, m1, eq_self, ↓reduceIte]; exact ok_1 h
  · rcases out_c zb 0 999 with ⟨c2, m2⟩ | ⟨c2, m2⟩
    · obtain ⟨k, hk, ek⟩ := out_n 0 999 rfl rfl (by decide) (by decide) c2
      have t10 : t < 10 := by omega
      have ec : S.2 3 (3 * t) = T.2 55 (3 * t + 20) := (h.tw t ht).1.1
      simp only [c1, m1, c2, m2, i10, fb_s, fl_s, fv_s, ↓reduceIte, ixT_0 t10, g2_0 t10, s2_0 t10, ec]
      refine ok0 (K := K) ?_ ⟨⟨rfl, rfl, rfl, rfl⟩, rfl, rfl⟩ ⟨⟨rfl, rfl, rfl, rfl, rfl⟩, rfl, rfl⟩
      rw [wA_e]
      refine h.onT (CQ.rf.wA (by decide) (by decide)) (NQ.rf.w (Or.inl (by omega))) ?_ ?_ (fun u hu e => by rw [pk_un (by omega)]; exact e)
      · rw [wA_1, pk_un (by omega)]; exact h.1.2
      · rw [wA_e]
        intro u hu
        have h1 := h.tw u hu
        by_cases e : u = t
        · subst e
          simp (disch := omega) only [pk_us, pk_un]
          exact ⟨⟨trivial, h1.1.2⟩, ⟨k, by omega, ek⟩, h1.2.2⟩
        · simp (disch := omega) only [pk_un]; exact h1
    · simp only [c1, m1, c2, m2, i10, ↓reduceIte]; exact ok_1 h
theorem op_own (h : RelR K S (T.2 55)) : OK2 S T (f_X11_own S za zb) (f_X12_own T za zb) := by
  unfold f_X11_own f_X12_own
  simp only [fb_id]
  have c0 := (h.ct 2 0 10 (by decide)).2.2
  rcases h.twn za with ⟨c1, m1⟩ | ⟨t, ht, rfl, c1, m1⟩
  · simp only [c1, m1, eq_self, ↓reduceIte]; exact ok_1 h
  · have t10 : t < 10 := by omega
    obtain ⟨⟨e0, e1, e2⟩, f1, f2, ⟨v, hv, ev⟩⟩ := h.tw t ht
    have go : vP (K 2) zb → OK2 S T (if fG 2 10 3 S (nI t) 2 = 0 then fl (fP 2 10 3 S (nI t) 1 zb) fun S6 => some (fG 2 10 3 S (nI t) 1, S6) else f_X11_told S (-1000003)) (if T.2 55 (3 * t + 22) = 1 then f_X12_finds T 3 else some (T.2 55 (3 * t + 21), wA T 55 (3 * t + 21) zb)) := by
      intro hx
      rw [g2_2 t10, g2_1 t10, s2_1 t10, e2, e1, ev]
      rcases (show v = 0 ∨ v = 1 by omega) with rfl | rfl
      · rw [if_pos (show nI 0 = 0 from rfl), if_neg (by decide), fl_s]
        refine ok0 (K := K) ?_ ⟨⟨rfl, rfl, rfl, rfl⟩, rfl, rfl⟩ ⟨⟨rfl, rfl, rfl, rfl, rfl⟩, rfl, rfl⟩
        rw [wA_e]
        refine h.onT (CQ.rf.wA (by decide) (by decide)) (NQ.rf.w (Or.inl (by omega))) ?_ ?_ (fun u hu e => by rw [pk_un (by omega)]; exact e)
        · rw [wA_1, pk_un (by omega)]; exact h.1.2
        · rw [wA_e]
          intro u hu
          have h1 := h.tw u hu
          by_cases e : u = t
          · subst e
            simp (disch := omega) only [pk_us, pk_un]
            exact ⟨⟨h1.1.1, trivial, h1.1.2.2⟩, h1.2.1, hx, h1.2.2.2⟩
          · simp (disch := omega) only [pk_un]; exact h1
      · rw [if_neg (by decide), if_pos (show nI 1 = 1 from rfl)]; exact ok_3 h
    simp only [ixT_2 t10, ixT_1 t10, fb_s, fv_s]
    rcases h.lon zb with ⟨b1, b2⟩ | ⟨b1, b2, b3⟩ | ⟨b1, b2, b3, b4⟩ | ⟨b1, ⟨p, b5, b6, b7⟩, b2, b3, b4⟩
    · subst b1
      simp only [c1, m1, b2, i10, ↓reduceIte]; exact go (Or.inl rfl)
    · simp only [c1, m1, b1, b2, b3, i10, ↓reduceIte]; exact ok_1 h
    · simp only [c1, m1, b1, b2, b3, b4, i10, fb_s, ↓reduceIte]; exact ok_1 h
    · simp only [c1, m1, b1, b2, b3, b4, i10, fb_s, ↓reduceIte]; exact go (Or.inr ⟨p, b5, b6⟩)
theorem op_town (h : RelR K S (T.2 55)) : OK2 S T (f_X11_town S) (f_X12_town T) := by
  unfold f_X11_town f_X12_town
  simp only [fb_id, fv_s]
  obtain ⟨k1, k2, c0⟩ := h.ct 2 0 10 (by decide)
  by_cases c : K 0 = 10
  · rw [fFull_t k1 (by omega) (by omega), k2, if_neg (by decide), if_pos (by rw [c]; rfl)]; exact ok_4 h
  · rw [fFull_f k1 (by omega) (by decide), if_pos rfl, k2, if_neg (fun q => c (nI_inj (by omega) (by decide) (q.trans (show (10 : Int32) = nI 10 from rfl))))]
    have t10 : K 0 < 10 := by omega
    unfold f_X7_addTown
    rw [fApp_f k1 t10 (by decide)]
    simp only [fb_s, fl_s, nI_1, ixT_0 t10, ixT_1 t10, ixT_2 t10, s2_1 t10]
    refine okt (K := kU K 0 (K 0 + 1)) ?_ ⟨⟨rfl, rfl, rfl, rfl⟩, rfl, rfl⟩ ⟨⟨rfl, rfl, rfl, rfl, rfl⟩, rfl, rfl⟩
    simp only [wA_e]
    refine h.onT_0 ((CQ.rf.app (by decide) (by decide) (by decide) (by decide)).wA (by decide) (by decide)) ((((NQ.rf.w (Or.inr (Or.inr rfl))).w (Or.inl (by omega))).w (Or.inl (by omega))).w (Or.inl (by omega))) (fun i hi => kU_n hi) (by rw [kU_e]; omega) ?_ (onct 2 0 10 (by decide) ?_ ?_ (by rw [kU_e]; omega)) ?_ (fun u hu e => by simp (disch := omega) only [pk_un]; exact e)
    · simp (disch := omega) only [pk_un]; exact h.1.2
    · rw [kU_e]; rfl
    · rw [kU_e]; simp (disch := omega) only [pk_un, pk_us]
    · simp only [wA_e, ua_eq]
      intro u hu
      rw [kU_e] at hu
      rw [kU_n (show (2 : Nat) ≠ 0 by decide)]
      by_cases e : u = K 0
      · subst e
        simp (disch := omega) only [pk_us, pk_un, apf_0, apf_c]
        exact ⟨⟨trivial, trivial, trivial⟩, ⟨0, by decide, rfl⟩, Or.inl rfl, ⟨0, by decide, rfl⟩⟩
      · have h1 := h.tw u (by omega)
        simp (disch := omega) only [pk_un, apf_o]; exact h1
theorem op_strike (h : RelR K S (T.2 55)) : OK2 S T (f_X11_strike S za) (f_X12_strike T za) := by
  unfold f_X11_strike f_X12_strike p_X2_isStruck f_X2_strikeOut
  simp only [fb_id]
  obtain ⟨k1, k2, c4⟩ := h.ct 10 4 12 (by decide)
  obtain ⟨d1, d2, d3⟩ := h.ct 102 8 2000 (by decide)
  rcases h.law za with ⟨c1, m1⟩ | ⟨l, hl, rfl, c1, m1⟩
  · simp only [c1, m1, eq_self, ↓reduceIte]; exact ok_1 h
  · have l12 : l < 12 := by omega
    obtain ⟨⟨e0, e1, e2, e3⟩, -⟩ := h.la l hl
    simp only [c1, m1, i10, ↓reduceIte, g10_3 l12, s10_3 l12, e3, fb_s, fl_s, ixL_3 l12, d1, d2]
    by_cases c : T.2 55 (65 * l + 513) < 0
    · rw [if_pos c, if_pos c, if_pos rfl]
      refine ok0 (K := K) ?_ ⟨⟨rfl, rfl, rfl, rfl⟩, rfl, rfl⟩ ⟨⟨rfl, rfl, rfl, rfl, rfl⟩, rfl, rfl⟩
      simp only [wA_e]
      refine h.onL (CQ.rf.wA (by decide) (by decide)) (NQ.rf.w (Or.inl (by omega))) ?_ ?_
      · rw [wA_1, pk_un (by omega)]; exact h.1.2
      · rw [wA_e, wA_n (by decide)]
        intro m hm
        obtain ⟨g1, ⟨d, g2, g3, g4⟩, g5, e, g6, g7, g8, g9, g10⟩ := h.la m hm
        have q4 : ∀ l' : Nat, l' < m → ∃ d' : Nat, d' ≤ d ∧ upd (T.2 55) (65 * l + 513) (nI (K 8)) (65 * l' + 512) = nI d' := fun l' hl' => by
          rw [pk_un (by omega)]; exact g4 l' hl'
        have q9 : ∀ i : Nat, i < e → cdM (S.2 13 (60 * m + i)) (upd (T.2 55) (65 * l + 513) (nI (K 8)) (65 * m + (515 + i))) := fun i hi => by
          rw [pk_un (by omega)]; exact g9 i hi
        by_cases q : m = l
        · subst q
          simp (disch := omega) only [pk_us, pk_un] at q4 q9 ⊢
          exact ⟨⟨g1.1, g1.2.1, g1.2.2.1, trivial⟩, ⟨d, g2, g3, q4⟩, Or.inr ⟨K 8, d3, rfl⟩, e, g6, g7, g8, q9, g10⟩
        · simp (disch := omega) only [pk_un]
          exact ⟨g1, ⟨d, g2, g3, g4⟩, g5, e, g6, g7, g8, q9, g10⟩
    · rw [if_neg c, if_neg c, if_neg (by decide)]; exact ok_3 h
theorem op_letter (h : RelR K S (T.2 55)) : OK2 S T (f_X11_letter S za zb) (f_X12_letter T za zb) := by
  unfold f_X11_letter f_X12_letter
  simp only [fb_id]
  have c5 := (h.ct 14 5 40 (by decide)).2.2
  rcases h.let' za with ⟨c1, m1⟩ | ⟨l, hl, rfl, c1, m1⟩
  · simp only [c1, m1, eq_self, ↓reduceIte]; exact ok_1 h
  · have l40 : l < 40 := by omega
    obtain ⟨⟨e0, e1, e2, e4, e6⟩, ⟨e8, e9, e10, e11, e5⟩, -⟩ := h.le l hl
    simp only [c1, m1, i10, ↓reduceIte, g14_0 l40, g14_1 l40, g14_2 l40, g14_4 l40, g14_6 l40, g14_8 l40, g14_9 l40, g14_10 l40, g14_11 l40, g14_5 l40, e0, e1, e2, e4, e6, e8, e9, e10, e11, e5]
    rcases out_c zb 0 9 with ⟨c2, m2⟩ | ⟨c2, m2⟩
    · obtain ⟨k, hk, rfl⟩ := out_n 0 9 rfl rfl (by decide) (by decide) c2
      simp only [m2, i10, ↓reduceIte]
      rcases (show k = 0 ∨ k = 1 ∨ k = 2 ∨ k = 3 ∨ k = 4 ∨ k = 5 ∨ k = 6 ∨ k = 7 ∨ k = 8 ∨ k = 9 by omega) with rfl | rfl | rfl | rfl | rfl | rfl | rfl | rfl | rfl | rfl
      · rw [show q_X12_of T (nI l) (nI 0) = _ from of_0 l40]; exact ok0 h CX.rf MX.rf
      · rw [show q_X12_of T (nI l) (nI 1) = _ from of_1 l40]; exact ok0 h CX.rf MX.rf
      · rw [show q_X12_of T (nI l) (nI 2) = _ from of_2 l40]; exact ok0 h CX.rf MX.rf
      · rw [show q_X12_of T (nI l) (nI 3) = _ from of_3 l40]; exact ok0 h CX.rf MX.rf
      · rw [show q_X12_of T (nI l) (nI 4) = _ from of_4 l40]; exact ok0 h CX.rf MX.rf
      · rw [show q_X12_of T (nI l) (nI 5) = _ from of_5 l40]; exact ok0 h CX.rf MX.rf
      · rw [show q_X12_of T (nI l) (nI 6) = _ from of_6 l40]; exact ok0 h CX.rf MX.rf
      · rw [show q_X12_of T (nI l) (nI 7) = _ from of_7 l40]; exact ok0 h CX.rf MX.rf
      · rw [show q_X12_of T (nI l) (nI 8) = _ from of_8 l40]; exact ok0 h CX.rf MX.rf
      · rw [show q_X12_of T (nI l) (nI 9) = _ from of_9 l40]; exact ok0 h CX.rf MX.rf
    · have b : ∀ k : Nat, k ≤ 9 → zb ≠ nI k := by
        intro k hk e
        subst e
        have : fOut (nI k) 0 9 = 0 := by
          unfold fOut
          rw [if_neg]
          rintro (q | q)
          · exact nI_pos (by omega) q
          · exact nI_nlt (a := 9) (b := k) hk (by decide) q
        rw [this] at c2; exact absurd c2 (by decide)
      simp only [m2, show ¬ zb = 0 from b 0 (by decide), show ¬ zb = 1 from b 1 (by decide), show ¬ zb = 2 from b 2 (by decide), show ¬ zb = 3 from b 3 (by decide), show ¬ zb = 4 from b 4 (by decide), show ¬ zb = 5 from b 5 (by decide), show ¬ zb = 6 from b 6 (by decide), show ¬ zb = 7 from b 7 (by decide), show ¬ zb = 8 from b 8 (by decide), show ¬ zb = 9 from b 9 (by decide), ↓reduceIte]
      exact ok_1 h
end OP3
