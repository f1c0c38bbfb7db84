/-! ===== pure: copy, debt, owed, tell, breaks ===== -/
section OP4
variable {K : Nat → Nat} {S T : FS} {za zb zc zd : Int32}
theorem op_copy (h : RelR K S (T.2 55)) : OK2 S T (f_X11_copy S za) (f_X12_copy T za) := by
  unfold f_X11_copy f_X12_copy
  simp only [fb_id]
  obtain ⟨k1, k2, c3⟩ := h.ct 8 3 20 (by decide)
  have c2 := (h.ct 6 2 20 (by decide)).2.2
  rcases h.pow za with ⟨c1, m1⟩ | ⟨w, hw, rfl, c1, m1⟩
  · simp only [c1, m1, eq_self, ↓reduceIte]; exact ok_1 h
  · obtain ⟨w20, ⟨e0, e1, e2, e3, e4⟩, a1, a2⟩ := h.pwc hw
    obtain ⟨-, q1, q2, -, -, -, q3, -⟩ := h.pw w hw
    obtain ⟨hh, hv⟩ := h.has hw
    have kk : q_X7_isOfKind S (nI w) 2 = some (p_X12_isUnder T (T.2 55 (6 * w + 390)) 2) := h.kind hw (z := 2) (by decide)
    simp only [c1, m1, i10, ↓reduceIte, kk, under2, its_0 w20, its_5 w20, fb_s, hh]
    by_cases c : T.2 55 (6 * w + 390) = 2
    · simp only [c, i10, ↓reduceIte]
      by_cases n1 : p_X7_whoHas S (nI w) = -1
      · rw [if_pos n1, if_pos ((hv.vP.lt (by omega)).mpr n1)]; exact ok_3 h
      · rw [if_neg n1, if_neg (fun q => n1 ((hv.vP.lt (by omega)).mp q))]
        by_cases c' : K 3 = 20
        · rw [fFull_t k1 (by omega) (by omega), k2, if_neg (by decide), if_pos (by rw [c']; rfl)]; exact ok_4 h
        · rw [fFull_f k1 (by omega) (by decide), if_pos rfl, k2, if_neg (fun q => c' (nI_inj (by omega) (by decide) (q.trans (show (20 : Int32) = nI 20 from rfl))))]
          have x20 : K 3 < 20 := by omega
          unfold f_X7_addCopy f_X7_addPower f_X12_newPower f_X7_setLent f_X12_comesBack
          generalize p_X7_whoHas S (nI w) = y at hv n1 ⊢
          rw [fApp_f k1 x20 (by decide)]
          simp only [eq_self, ↓reduceIte, (q3.m1 (by decide)).2, fb_s, fl_s, fv_s, k2, nI_1, s8_1 x20, s8_2 x20, s8_3 x20, s8_4 x20, s8_5 x20, makes_0 x20, makes_1 x20, makes_4 x20, makes_5 x20, makes_2 x20, makes_3 x20, g8_5 w20]
          refine okt (K := kU K 3 (K 3 + 1)) ?_ ⟨⟨rfl, rfl, rfl, rfl⟩, rfl, rfl⟩ ⟨⟨rfl, rfl, rfl, rfl, rfl⟩, rfl, rfl⟩
          simp only [wA_e]
          refine h.onW_3 (((((((CQ.rf.app (by decide) (by decide) (by decide) (by decide)).wA (by decide) (by decide)).wA (by decide) (by decide)).wA (by decide) (by decide)).wA (by decide) (by decide)).wA (by decide) (by decide)).wA (by decide) (by decide)) (((((((NQ.rf.w (Or.inr (Or.inr rfl))).w (Or.inl (by omega))).w (Or.inl (by omega))).w (Or.inl (by omega))).w (Or.inl (by omega))).w (Or.inl (by omega))).w (Or.inl (by omega))) (fun i hi => kU_n hi) (by rw [kU_e]; omega) ?_ (onct 8 3 20 (by decide) ?_ ?_ (by rw [kU_e]; omega)) ?_
          · simp (disch := omega) only [pk_un]; exact h.1.2
          · rw [kU_e]; rfl
          · rw [kU_e]; simp (disch := omega) only [pk_un, pk_us]
          · simp only [wA_e, ua_eq]
            have hz := h.pw.new (n1 := nI (K 3 + 1)) (k := 2) (z := 0) (m := T.2 55 (6 * w + 395)) (m' := T.2 55 (6 * w + 395)) x20 c2 ⟨2, by decide, rfl⟩ hv (fun _ => rfl) (fun q => absurd rfl q) q3
            have ez : upd (upd (upd (upd (upd (upd (pm_apf 6 (K 3) 2 (S.2 9)) (6 * K 3 + 1) 0) (6 * K 3 + 2) y) (6 * K 3 + 5) (nI (K 3))) (6 * K 3 + 3) (-1)) (6 * K 3 + 4) (-1)) (6 * K 3 + 5) (upd (upd (upd (upd (upd (pm_apf 6 (K 3) 2 (S.2 9)) (6 * K 3 + 1) 0) (6 * K 3 + 2) y) (6 * K 3 + 5) (nI (K 3))) (6 * K 3 + 3) (-1)) (6 * K 3 + 4) (-1) (6 * w + 5)) = upd (upd (upd (upd (upd (pm_apf 6 (K 3) 2 (S.2 9)) (6 * K 3 + 1) 0) (6 * K 3 + 2) y) (6 * K 3 + 5) (T.2 55 (6 * w + 395))) (6 * K 3 + 3) (-1)) (6 * K 3 + 4) (-1) := by
              have e5 : upd (upd (upd (upd (upd (pm_apf 6 (K 3) 2 (S.2 9)) (6 * K 3 + 1) 0) (6 * K 3 + 2) y) (6 * K 3 + 5) (nI (K 3))) (6 * K 3 + 3) (-1)) (6 * K 3 + 4) (-1) (6 * w + 5) = T.2 55 (6 * w + 395) := by
                simp (disch := omega) only [pk_un, apf_o]; exact q1 c
              rw [e5]
              funext j
              by_cases j5 : j = 6 * K 3 + 5
              · subst j5; simp (disch := omega) only [pk_us, pk_un]
              · rw [pk_un j5]
                by_cases j4 : j = 6 * K 3 + 4
                · subst j4; simp only [pk_us]
                · rw [pk_un j4, pk_un j4]
                  by_cases j3 : j = 6 * K 3 + 3
                  · subst j3; simp only [pk_us]
                  · rw [pk_un j3, pk_un j3, pk_un j5, pk_un j5]
            rw [ez]; exact hz
    · simp only [c, ↓reduceIte]; exact ok_5 h
theorem op_tell (h : RelR K S (T.2 55)) : OK2 S T (f_X11_tell S za) (f_X12_tell T za) := by
  unfold f_X11_tell f_X12_tell
  simp only [fb_id]
  obtain ⟨k1, k2, c0⟩ := h.ct 22 11 20 (by decide)
  by_cases c : K 11 = 20
  · rw [fFull_t k1 (by omega) (by omega), k2, if_neg (by decide), if_pos (by rw [c]; rfl)]; exact ok_4 h
  · rw [fFull_f k1 (by omega) (by decide), if_pos rfl, k2, if_neg (fun q => c (nI_inj (by omega) (by decide) (q.trans (show (20 : Int32) = nI 20 from rfl))))]
    have t20 : K 11 < 20 := by omega
    have ei : ix 2071 ((2051 : Int32) + nI (K 11)) = some (K 11 + 2051) := by
      rw [show (2051 : Int32) + nI (K 11) = nI (K 11 + 2051) from (nI_add 2051 (K 11)).trans (congrArg nI (by omega))]; exact ix_nI (by omega) (by decide)
    rw [fApp_f k1 t20 (by decide)]
    simp only [fb_s, fl_s, ei, wA_e]
    have e1 : upd (T.2 55) (K 11 + 2051) za 11 = nI (K 11) := by rw [pk_un (by omega)]; exact k2
    rw [e1, pk_us, nI_1, ui_eq]
    refine ok0 (K := kU K 11 (K 11 + 1)) ?_ ⟨⟨rfl, rfl, rfl, rfl⟩, rfl, rfl⟩ ⟨⟨rfl, rfl, rfl, rfl, rfl⟩, rfl, rfl⟩
    simp only [wA_e]
    refine h.onX_11 (CQ.rf.app (by decide) (by decide) (by decide) (by decide)) ((NQ.rf.w (Or.inl (by omega))).w (Or.inr (Or.inr rfl))) (fun i hi => kU_n hi) (by rw [kU_e]; omega) ?_ (onct 22 11 20 (by decide) ?_ ?_ (by rw [kU_e]; omega)) ?_
    · simp (disch := omega) only [pk_un]; exact h.1.2
    · rw [kU_e]; rfl
    · rw [kU_e, pk_us]
    · simp only [ua_eq]
      intro j hj
      rw [kU_e] at hj
      by_cases e : j = K 11
      · subst e
        rw [apf_0 (by omega) (by decide), pk_un (by omega), pk_us]
      · rw [apf_o (by omega), pk_un (by omega), pk_un (by omega)]; exact h.wt j (by omega)
theorem RelR.stn (h : RelR K S (T.2 55)) {k : Nat} (hk : k < K 7) : k < 30 ∧ ((p_X0_stands S (nI k) = 1 ∧ q_X12_stands T (nI k) = some 1 ∧ S.2 19 (5 * k + 4) = 0 ∧ T.2 55 (6 * k + 1810) = 0 ∧ T.2 55 (6 * k + 1811) = 0 ∧ ¬ T.2 55 (6 * k + 1808) < nI (K 8)) ∨ (p_X0_stands S (nI k) = 0 ∧ q_X12_stands T (nI k) = some 0 ∧ (T.2 55 (6 * k + 1808) < nI (K 8) ∨ S.2 19 (5 * k + 4) ≠ 0))) := by
  have c7 := (h.ct 18 7 30 (by decide)).2.2
  obtain ⟨d1, d2, d3⟩ := h.ct 102 8 2000 (by decide)
  obtain ⟨⟨e0, e1, e2, e3⟩, f1, f2, -⟩ := h.pr k hk
  have k30 : k < 30 := by omega
  refine ⟨k30, ?_⟩
  unfold p_X0_stands q_X12_stands
  simp only [g18_4 k30, g18_2 k30, promised_4 k30, promised_5 k30, promised_2 k30, fb_s, d1, d2, e2]
  by_cases t : T.2 55 (6 * k + 1808) < nI (K 8)
  · right
    refine ⟨?_, ?_, Or.inl t⟩
    · split <;> simp only [t, ↓reduceIte]
    · split
      · split <;> simp only [t, ↓reduceIte]
      · rfl
  · have f3 := f2 t
    by_cases a : S.2 19 (5 * k + 4) = 0
    · left
      obtain ⟨b1, b2⟩ := f3.mp a
      simp only [a, b1, b2, t, ↓reduceIte]; exact ⟨trivial, trivial, trivial, trivial, trivial, fun q => q⟩
    · right
      refine ⟨by rw [if_neg a], ?_, Or.inr a⟩
      split
      · next b1 =>
        split
        · next b2 => exact absurd (f3.mpr ⟨b1, b2⟩) a
        · rfl
      · rfl
theorem op_breaks (h : RelR K S (T.2 55)) : OK2 S T (f_X11_breaks S za) (f_X12_breaks T za) := by
  unfold f_X11_breaks f_X12_breaks
  simp only [fb_id]
  rcases h.pro za with ⟨c1, m1⟩ | ⟨k, hk, rfl, c1, m1⟩
  · simp only [c1, m1, eq_self, ↓reduceIte]; exact ok_1 h
  · obtain ⟨k30, hs⟩ := h.stn hk
    rcases hs with ⟨s1, s2, s3, s4, s5, s6⟩ | ⟨s1, s2, -⟩
    · simp only [c1, m1, s1, s2, i10, fb_s, fl_s, ↓reduceIte, ixQ_4 k30, s18_4 k30]
      refine ok0 (K := K) ?_ ⟨⟨rfl, rfl, rfl, rfl⟩, rfl, rfl⟩ ⟨⟨rfl, rfl, rfl, rfl, rfl⟩, rfl, rfl⟩
      rw [wA_e]
      refine h.onQ (CQ.rf.wA (by decide) (by decide)) (NQ.rf.w (Or.inl (by omega))) ?_ ?_ ?_
      · rw [wA_1, pk_un (by omega)]; exact h.1.2
      · rw [wA_e]
        intro q hq
        have h1 := h.pr q hq
        by_cases e : q = k
        · subst e
          simp (disch := omega) only [pk_us, pk_un]
          refine ⟨h1.1, trivial, fun _ => ⟨fun q => absurd q (by decide), fun q => absurd q.1 (by decide)⟩, h1.2.2.2.1, h1.2.2.2.2.1, h1.2.2.2.2.2.1, ⟨2, by decide, rfl⟩, ⟨1, by decide, rfl⟩⟩
        · simp (disch := omega) only [pk_un]; exact h1
      · rw [wA_e]
        refine ⟨?_, h.ps.2.mono (h.ct 18 7 30 (by decide)).2.2 rfl (fun q hq => ⟨pk_un (by omega), pk_un (by omega)⟩) (fun q hq z => by rw [pk_un (by omega)]; exact z)⟩
        intro q hq
        by_cases e : q = k
        · subst e; rw [pk_us]; exact fun z => absurd z (by decide)
        · simp (disch := omega) only [pk_un]
          intro z1 z2
          obtain ⟨p, z3, z4, z5⟩ := h.ps.1 q hq z1 z2
          exact ⟨p, z3, z4, z5⟩
    · simp only [c1, m1, s1, s2, i10, fb_s, ↓reduceIte]; exact ok_3 h
end OP4
