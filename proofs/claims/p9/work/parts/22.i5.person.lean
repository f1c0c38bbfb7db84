/-! ===== pure: person ===== -/
section OPP
variable {K : Nat → Nat} {S T : FS} {za zb zc zd : Int32}
theorem sets_g {p c : Nat} {x : Int32} (h : p < 20) (hc : c < 14) : f_X12_sets T (nI p) (nI c) x = some (0, wA T 55 (14 * p + (110 + c)) x) := by
  unfold f_X12_sets
  rw [show ix 2071 (((110 : Int32) + (14 : Int32) * nI p) + nI c) = some (14 * p + (110 + c)) from ix_lin (b := 110) (s := 14) (by omega) (by omega) (by decide)]; rfl
theorem pers_l {P : Nat} (hP : P < 20) : ∀ (g i : Nat) (T : FS), i ≤ 14 → 14 - i < g → (∀ c : Nat, c < i → T.2 55 (14 * P + (110 + c)) = 0) →
    ∃ T' : FS, (T'.1 = T.1 ∧ (∀ a : Nat, a ≠ 55 → T'.2 a = T.2 a) ∧ ∀ j : Nat, ¬ (14 * P + 110 ≤ j ∧ j < 14 * P + 124) → T'.2 55 j = T.2 55 j) ∧ (∀ c : Nat, c < 14 → T'.2 55 (14 * P + (110 + c)) = 0) ∧ ∀ kk, l_X12_person_121 (nI P) kk g T (nI i) = kk T' (nI 14) := by
  intro g
  induction g with
  | zero => intro i T _ h; exact absurd h (Nat.not_lt_zero _)
  | succ g ih =>
    intro i T hi hg hm
    by_cases c : i < 14
    · obtain ⟨T1, ⟨e1, e2, e3⟩, m1, g1⟩ := ih (i + 1) (wA T 55 (14 * P + (110 + i)) 0) (by omega) (by omega) (fun x hx => by
        rw [wA_e]
        by_cases z : x = i
        · subst z; rw [pk_us]
        · rw [pk_un (by omega)]; exact hm x (by omega))
      refine ⟨T1, ⟨e1, fun a ha => (e2 a ha).trans (wA_n ha), fun j hj => (e3 j hj).trans (by rw [wA_e, pk_un (by omega)])⟩, m1, fun kk => ?_⟩
      rw [l_X12_person_121, if_pos (show nI i < 14 from nI_lt (b := 14) c (by decide)), sets_g hP c, fb_s, nI_1]; exact g1 kk
    · have ei : i = 14 := by omega
      subst ei
      refine ⟨T, ⟨rfl, fun _ _ => rfl, fun _ _ => rfl⟩, hm, fun kk => ?_⟩
      rw [l_X12_person_121, if_neg (by decide)]
theorem BI.ext {n n' : Nat → Int32} {P : Nat} {s : Nat → Nat} (hP : 1 ≤ P) (h : BI n P 0 s) (e : ∀ p : Nat, p < P → n' (14 * p + 112) = n (14 * p + 112) ∧ n' (14 * p + 113) = n (14 * p + 113)) : BI n' (P + 1) 0 (nU s P 99) := by
  have eg : ∀ p q : Nat, EG n P p q → EG n' (P + 1) p q := fun p q ⟨⟨a, b⟩, c⟩ => ⟨⟨by omega, by omega⟩, by rw [(e p a).1, (e p a).2, (e q b).1, (e q b).2]; exact c⟩
  refine ⟨fun p hp => ?_, ?_, fun p q _ z => absurd z (Nat.not_lt_zero _), fun p hp p0 z => ?_, fun D d0 dF p hp z => ?_⟩
  · by_cases c : p = P
    · subst c; rw [nU_e]; exact Nat.le_refl _
    · rw [nU_n c]; exact h.1 p (by omega)
  · rw [nU_n (by omega)]; exact h.2.1
  · by_cases c : p = P
    · subst c; rw [nU_e] at z; omega
    · rw [nU_n c] at z ⊢
      obtain ⟨q, a, b⟩ := h.2.2.2.1 p (by omega) p0 z
      refine ⟨q, eg p q a, ?_⟩
      have := a.1.2
      rw [nU_n (by omega)]; exact b
  · by_cases c : p = P
    · subst c; rw [nU_e] at z; omega
    · rw [nU_n c] at z ⊢
      exact h.2.2.2.2 D d0 (SF.of (fun x y xy => dF.eg (eg x y xy))) p (by omega) z
theorem op_person (h : RelR K S (T.2 55)) : OK2 S T (f_X11_person S za zb zc zd) (f_X12_person T za zb zc zd) := by
  unfold f_X11_person f_X12_person
  simp only [fb_id, fv_s]
  obtain ⟨k1, k2, c2⟩ := h.ct 6 2 20 (by decide)
  obtain ⟨t1, t2, c0⟩ := h.ct 2 0 10 (by decide)
  obtain ⟨d1, d2, d3⟩ := h.ct 102 8 2000 (by decide)
  rcases out_c za 0 1 with ⟨a1, a2⟩ | ⟨a1, a2⟩
  · rcases out_c zb (-20000) (nI (K 8)) with ⟨b1, b2⟩ | ⟨b1, b2⟩
    · have bzb : bB zb := by
        have q : ¬ (zb < -20000 ∨ nI (K 8) < zb) := by
          intro q; unfold fOut at b1; rw [if_pos q] at b1; exact absurd b1 (by decide)
        exact ⟨fun z => q (Or.inl z), fun z => q (Or.inr (Int32.lt_of_le_of_lt (nI_le (b := 2000) d3 (by decide)) z))⟩
      by_cases z : zc < 0
      · simp only [a1, a2, d1, d2, b1, b2, z, i10, ↓reduceIte]; exact ok_1 h
      · rcases h.twn zd with ⟨g1, g2⟩ | ⟨t, ht, rfl, g1, g2⟩
        · -- no such town: both find 1
          simp only [a1, a2, d1, d2, b1, b2, z, g1, g2, i10, ↓reduceIte]
          rcases h.par (zc / 100 - 1) 1 zb with ⟨q1, q2⟩ | ⟨q1, q2, q3⟩
          · simp only [q1, q2, fb_s, ↓reduceIte]; exact ok_1 h
          · rcases h.par (zc - zc / 100 * 100 - 1) 0 zb with ⟨r1, r2⟩ | ⟨r1, r2, r3⟩
            · simp only [q1, q2, r1, r2, fb_s, i10, ↓reduceIte]; exact ok_1 h
            · simp only [q1, q2, r1, r2, fb_s, i10, ↓reduceIte]; exact ok_1 h
        · simp only [a1, a2, d1, d2, b1, b2, z, g1, g2, i10, ↓reduceIte]
          rcases h.par (zc / 100 - 1) 1 zb with ⟨q1, q2⟩ | ⟨q1, q2, q3⟩
          · simp only [q1, q2, fb_s, ↓reduceIte]; exact ok_1 h
          · rcases h.par (zc - zc / 100 * 100 - 1) 0 zb with ⟨r1, r2⟩ | ⟨r1, r2, r3⟩
            · simp only [q1, q2, r1, r2, fb_s, i10, ↓reduceIte]; exact ok_1 h
            · simp only [q1, q2, r1, r2, fb_s, i10, ↓reduceIte]
              generalize zc / 100 - 1 = xf at q1 q2 q3 ⊢
              generalize zc - zc / 100 * 100 - 1 = xm at r1 r2 r3 ⊢
              by_cases c : K 2 = 20
              · rw [fFull_t k1 (by omega) (by omega), k2, if_neg (by decide), if_pos (by rw [c]; rfl)]; exact ok_4 h
              · rw [fFull_f k1 (by omega) (by decide), if_pos rfl, k2, if_neg (fun q => c (nI_inj (by omega) (by decide) (q.trans (show (20 : Int32) = nI 20 from rfl))))]
                have p20 : K 2 < 20 := by omega
                unfold f_X7_addPerson
                rw [fApp_f k1 p20 (by decide)]
                generalize hS0 : (ui S.1 6 (nI (K 2 + 1)), ua S.2 (6 + 1) (pm_apf 14 (K 2) za (S.2 (6 + 1)))) = S0
                have s0a : S0.1 = ui S.1 6 (nI (K 2 + 1)) := by rw [← hS0]
                have s0b : S0.2 7 = pm_apf 14 (K 2) za (S.2 7) := by
                  rw [← hS0]
                  show ua S.2 7 (pm_apf 14 (K 2) za (S.2 7)) 7 = _
                  rw [ua_eq]
                have cq0 : CQ [7] 6 S S0 := by rw [← hS0]; exact CQ.rf.app (by decide) (by decide) (by decide) (by decide)
                -- the class's row, and its steps
                obtain ⟨S7, eS7, hS7⟩ : ∃ S7 : FS, S7 = wA (wA (wA (wA (wA (wA (wA S0 7 (14 * K 2 + 1) zb) 7 (14 * K 2 + 2) xf) 7 (14 * K 2 + 3) xm) 7 (14 * K 2 + 4) (nI t)) 7 (14 * K 2 + 10) (-1)) 7 (14 * K 2 + 11) (if K 2 = 0 then 0 else 99)) 7 (14 * K 2 + 12) 1 ∧ ∀ kk, (fb (some (nI (K 2), S0)) (fun r2 => fl (fP 6 20 14 r2.2 r2.1 1 zb) (fun S3 => fl (fP 6 20 14 S3 r2.1 2 xf) (fun S4 => fl (fP 6 20 14 S4 r2.1 3 xm) (fun S5 => fl (fP 6 20 14 S5 r2.1 4 (nI t)) (fun S6 => fl (fP 6 20 14 S6 r2.1 10 (-1)) (fun S7 => if r2.1 = 0 then (fl (fP 6 20 14 S7 r2.1 11 0) (fun S13 => fl (fP 6 20 14 S13 r2.1 12 1) (fun S14 => fb (f_X7_findSteps S14) (fun r16 => some (r2.1, r16.2))))) else (fl (fP 6 20 14 S7 r2.1 11 99) (fun S9 => fl (fP 6 20 14 S9 r2.1 12 1) (fun S10 => fb (f_X7_findSteps S10) (fun r12 => some (r2.1, r12.2))))))))))) = kk) → fb (f_X7_findSteps S7) (fun r => some (nI (K 2), r.2)) = kk := by
                  refine ⟨_, rfl, fun kk hk => ?_⟩
                  rw [← hk]
                  simp only [fb_s, fl_s, s6_1 p20, s6_2 p20, s6_3 p20, s6_4 p20, s6_10 p20, s6_11 p20, s6_12 p20]
                  by_cases z0 : K 2 = 0
                  · rw [if_pos z0, if_pos (by rw [z0]; rfl)]
                  · rw [if_neg z0, if_neg (nI_ne0 (by omega) (by omega))]
                rw [← hS7 _ rfl]
                obtain ⟨T1, ⟨f1, f2, f3⟩, f4, f5⟩ := pers_l p20 FU 0 (wA T 55 2 (nI (K 2) + 1)) (Nat.zero_le _) (FU_lt (by omega)) (fun _ z => absurd z (Nat.not_lt_zero _))
                simp only [fl_s]
                rw [show ∀ kk, l_X12_person_121 (nI (K 2)) kk FU (wA T 55 2 (nI (K 2) + 1)) 0 = kk T1 (nI 14) from f5]
                simp only [fb_s, sets_0 p20, sets_1 p20, sets_2 p20, sets_3 p20, sets_4 p20, sets_9 p20, sets_10 p20, sets_12 p20]
                generalize hn' : upd (upd (upd (upd (upd (upd (upd (upd (T1.2 55) (14 * K 2 + 110) za) (14 * K 2 + 111) zb) (14 * K 2 + 112) xf) (14 * K 2 + 113) xm) (14 * K 2 + 114) (nI t)) (14 * K 2 + 119) (-1)) (14 * K 2 + 120) (-1)) (14 * K 2 + 122) 1 = n'
                have no : ∀ j : Nat, ¬ (14 * K 2 + 110 ≤ j ∧ j < 14 * K 2 + 124) → j ≠ 2 → n' j = T.2 55 j := fun j hj j2 => by
                  rw [← hn']
                  simp (disch := omega) only [pk_un]
                  rw [f3 j hj, wA_e, pk_un j2]
                have n2 : n' 2 = nI (K 2 + 1) := by
                  rw [← hn']
                  simp (disch := omega) only [pk_un]
                  rw [f3 2 (by omega), wA_e, pk_us, nI_1]
                have nw : (n' (14 * K 2 + 110) = za ∧ n' (14 * K 2 + 111) = zb ∧ n' (14 * K 2 + 112) = xf ∧ n' (14 * K 2 + 113) = xm) ∧ (n' (14 * K 2 + 114) = nI t ∧ n' (14 * K 2 + 117) = 0 ∧ n' (14 * K 2 + 118) = 0 ∧ n' (14 * K 2 + 119) = -1) ∧ n' (14 * K 2 + 120) = -1 ∧ n' (14 * K 2 + 121) = 0 ∧ n' (14 * K 2 + 122) = 1 := by
                  rw [← hn']
                  simp (disch := omega) only [pk_un, pk_us]
                  exact ⟨⟨trivial, trivial, trivial, trivial⟩, ⟨trivial, f4 7 (by decide), f4 8 (by decide), trivial⟩, trivial, f4 11 (by decide), trivial⟩
                obtain ⟨⟨w0, w1, w2, w3⟩, ⟨w4, w7, w8, w9⟩, w10, w11, w12⟩ := nw
                have s7a : S7.1 = ui S.1 6 (nI (K 2 + 1)) := by rw [eS7]; exact s0a
                have s7o : ∀ j : Nat, j < 14 * K 2 → S7.2 7 j = S.2 7 j := fun j hj => by
                  rw [eS7]
                  simp only [wA_e]
                  simp (disch := omega) only [pk_un]
                  rw [s0b, apf_o hj]
                have s7w : (S7.2 7 (14 * K 2) = za ∧ S7.2 7 (14 * K 2 + 1) = zb ∧ S7.2 7 (14 * K 2 + 2) = xf ∧ S7.2 7 (14 * K 2 + 3) = xm) ∧ (S7.2 7 (14 * K 2 + 4) = nI t ∧ S7.2 7 (14 * K 2 + 7) = 0 ∧ S7.2 7 (14 * K 2 + 8) = 0 ∧ S7.2 7 (14 * K 2 + 9) = 0) ∧ S7.2 7 (14 * K 2 + 10) = -1 ∧ S7.2 7 (14 * K 2 + 11) = (if K 2 = 0 then 0 else 99) ∧ S7.2 7 (14 * K 2 + 12) = 1 ∧ S7.2 7 (14 * K 2 + 13) = 0 := by
                  rw [eS7]
                  simp only [wA_e]
                  simp (disch := omega) only [pk_un, pk_us, s0b, apf_0, apf_c]
                  exact ⟨⟨trivial, trivial, trivial, trivial⟩, ⟨trivial, trivial, trivial, trivial⟩, trivial, trivial, trivial, trivial⟩
                obtain ⟨⟨v0, v1, v2, v3⟩, ⟨v4, v7, v8, v9⟩, v10, v11, v12, v13⟩ := s7w
                have cq7 : CQ [7] 6 S S7 := by
                  rw [eS7]
                  exact ((((((cq0.wA (by decide) (by decide)).wA (by decide) (by decide)).wA (by decide) (by decide)).wA (by decide) (by decide)).wA (by decide) (by decide)).wA (by decide) (by decide)).wA (by decide) (by decide)
                have oldp : ∀ p c : Nat, p < K 2 → c < 14 → n' (14 * p + (110 + c)) = T.2 55 (14 * p + (110 + c)) := fun p c hp hc => no _ (by omega) (by omega)
                have hb : ∃ d : Nat → Nat, BI n' (K 2 + 1) 0 d ∧ ∀ x : Nat, x < K 2 + 1 → S7.2 7 (14 * x + 11) = nI (d x) := by
                  obtain ⟨s, s1, s2, s3, s4⟩ := h.st
                  by_cases z0 : K 2 = 0
                  · refine ⟨fun _ => 0, ⟨fun _ _ => Nat.zero_le _, rfl, fun p q _ z => absurd z (Nat.not_lt_zero _), fun p hp p0 _ => absurd (show p = 0 by omega) p0, fun D d0 _ p hp _ => ?_⟩, fun x hx => ?_⟩
                    · rw [show p = 0 by omega, d0]; exact Nat.le_refl _
                    · rw [show 14 * x + 11 = 14 * K 2 + 11 by omega, v11, if_pos z0]; rfl
                  · refine ⟨nU s (K 2) 99, BI.ext (by omega) (RSt.bi (by omega) (fun p hp => (s1 p hp).2) s2 s3 s4) (fun p hp => ⟨oldp p 2 hp (by decide), oldp p 3 hp (by decide)⟩), fun x hx => ?_⟩
                    by_cases e : x = K 2
                    · subst e; rw [nU_e, v11, if_neg z0]; rfl
                    · rw [nU_n e, s7o _ (by omega)]; exact (s1 x (by omega)).1
                obtain ⟨d, hb1, hb2⟩ := hb
                have par : ∀ p : Nat, p < K 2 + 1 → (S7.2 7 (14 * p + 2) = n' (14 * p + 112) ∧ S7.2 7 (14 * p + 3) = n' (14 * p + 113)) ∧ vP (K 2 + 1) (n' (14 * p + 112)) ∧ vP (K 2 + 1) (n' (14 * p + 113)) := fun p hp => by
                  by_cases e : p = K 2
                  · subst e; rw [v2, v3, w2, w3]; exact ⟨⟨rfl, rfl⟩, q3.mono (by omega), r3.mono (by omega)⟩
                  · obtain ⟨⟨-, -, e2, e3⟩, -, -, g1, g2, -⟩ := h.pe p (by omega)
                    rw [s7o _ (by omega), s7o _ (by omega), show n' (14 * p + 112) = _ from oldp p 2 (by omega) (by decide), show n' (14 * p + 113) = _ from oldp p 3 (by omega) (by decide)]
                    exact ⟨⟨e2, e3⟩, g1.mono (by omega), g2.mono (by omega)⟩
                obtain ⟨S8, e8, st8, g8⟩ := findSteps_e (K := kU K 2 (K 2 + 1)) (S := S7) (n := n') (d := d) (by rw [kU_e]; omega) (by rw [kU_e]; omega) (by rw [kU_e, s7a]; rfl) (by rw [kU_e]; exact fun p hp => (par p hp).2) (by rw [kU_e]; exact fun p hp => (par p hp).1) (by rw [kU_e]; exact hb1) (by rw [kU_e]; exact hb2)
                rw [g8, fb_s, fb_s]
                have cq8 : CQ [7] 6 S S8 := cq7.tr ⟨⟨⟨e8.2.1 _ (by decide), e8.2.1 _ (by decide), e8.2.1 _ (by decide), e8.2.1 _ (by decide)⟩, by rw [e8.1], by rw [e8.1]⟩, fun _ _ _ _ => by rw [e8.1], fun q hq h3 => e8.2.1 q (fun z => h3 (by rw [z]; decide))⟩
                refine okt (K := kU K 2 (K 2 + 1)) ?_ cq8.1 ⟨⟨f2 56 (by decide), f2 69 (by decide), f2 70 (by decide), f2 71 (by decide), f2 72 (by decide)⟩, by show T1.1 22 = _; rw [f1]; rfl, by show T1.1 3 = _; rw [f1]; rfl⟩
                simp only [wA_e]
                rw [hn']
                refine h.onP_2 cq8 (fun j h1 h2 h3 => no j (by omega) h3) (fun i hi => kU_n hi) (by rw [kU_e]; omega) ?_ (onct 6 2 20 (by decide) ?_ ?_ (by rw [kU_e]; omega)) ?_ ?_ st8 ?_ ?_
                · rw [e8.1, s7a, no 9 (by omega) (by decide)]; exact h.1.2
                · rw [kU_e, e8.1, s7a]; rfl
                · rw [kU_e, n2]
                · intro q hq
                  rw [kU_e] at hq
                  unfold PLv
                  rw [kU_e, kU_n (show (0 : Nat) ≠ 2 by decide), kU_n (show (8 : Nat) ≠ 2 by decide)]
                  have e8r : ∀ c : Nat, c < 14 → c ≠ 11 → S8.2 7 (14 * q + c) = S7.2 7 (14 * q + c) := fun c hc hc2 => e8.2.2 _ (by omega)
                  rw [e8r 1 (by decide) (by decide), e8r 2 (by decide) (by decide), e8r 3 (by decide) (by decide), e8r 4 (by decide) (by decide), e8r 5 (by decide) (by decide), e8r 6 (by decide) (by decide), e8r 7 (by decide) (by decide), e8r 8 (by decide) (by decide), e8r 9 (by decide) (by decide), e8r 10 (by decide) (by decide), e8r 12 (by decide) (by decide), e8r 13 (by decide) (by decide), show S8.2 7 (14 * q) = S7.2 7 (14 * q) from e8r 0 (by decide) (by decide)]
                  by_cases e : q = K 2
                  · subst e
                    rw [v0, v1, v2, v3, v4, v7, v8, v9, v10, v12, v13, w0, w1, w2, w3, w4, w7, w8, w9, w10, w11, w12]
                    exact ⟨⟨rfl, rfl, rfl, rfl⟩, ⟨rfl, rfl, rfl, rfl, rfl⟩, Or.inl ⟨rfl, rfl, rfl, fun z => absurd z (nI_m1 (by omega))⟩, q3.mono (by omega), r3.mono (by omega), Or.inr ⟨t, ht, rfl⟩, ⟨0, by decide, rfl⟩, ⟨1, by decide, rfl⟩, bzb⟩
                  · have hh := h.pe q (by omega)
                    unfold PLv at hh
                    have o := fun c hc => oldp q c (show q < K 2 by omega) hc
                    rw [show n' (14 * q + 110) = _ from o 0 (by decide), show n' (14 * q + 111) = _ from o 1 (by decide), show n' (14 * q + 112) = _ from o 2 (by decide), show n' (14 * q + 113) = _ from o 3 (by decide), show n' (14 * q + 114) = _ from o 4 (by decide), show n' (14 * q + 115) = _ from o 5 (by decide), show n' (14 * q + 116) = _ from o 6 (by decide), show n' (14 * q + 117) = _ from o 7 (by decide), show n' (14 * q + 118) = _ from o 8 (by decide), show n' (14 * q + 119) = _ from o 9 (by decide), show n' (14 * q + 120) = _ from o 10 (by decide), show n' (14 * q + 121) = _ from o 11 (by decide), show n' (14 * q + 122) = _ from o 12 (by decide)]
                    simp (disch := omega) only [s7o]
                    exact ⟨hh.1, hh.2.1, hh.2.2.1, hh.2.2.2.1.mono (by omega), hh.2.2.2.2.1.mono (by omega), hh.2.2.2.2.2⟩
                · refine ⟨?_, fun _ => by rw [kU_n (by decide)]; omega⟩
                  rw [kU_e, cnt_s, pm_cnt_congr (q := fun p => T.2 55 (14 * p + 121) == 1) (fun j hj => by rw [show n' (14 * j + 121) = _ from oldp j 11 hj (by decide)])]
                  rw [show (n' (14 * K 2 + 121) == 1) = false by rw [w11]; decide, if_neg (by decide)]
                  exact h.se.1
                · intro x hx
                  rw [kU_e]
                  rcases hx with hx | ⟨q, q1, q2, q3⟩
                  · exact Or.inl hx
                  · exact Or.inr ⟨q, by omega, q2, by rw [show n' (14 * q + 119) = _ from oldp q 9 q1 (by decide)]; exact q3⟩
                · exact fun p hp => oldp p 11 hp (by decide)
    · simp only [a1, a2, d1, d2, b1, b2, i10, ↓reduceIte]; exact ok_1 h
  · simp only [a1, a2, i10, ↓reduceIte]; exact ok_1 h
end OPP
