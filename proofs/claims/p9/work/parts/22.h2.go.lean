/-! ===== pure: road, go, send ===== -/
section OPH
variable {K : Nat → Nat} {S T : FS} {za zb zc zd : Int32}
theorem RelR.farG (h : RelR K S (T.2 55)) {c t : Nat} (hc : c < K 0) (ht : t < K 0) : ∃ (T' : FS) (x : Int32), E58 T T' ∧ f_X12_farOf T (nI c) (nI t) = some (x, T') ∧ ((x < 0 ∧ ¬ fG 4 10 10 S (nI c) (nI t) < 1000) ∨ ∃ d : Nat, d ≤ 81 ∧ x = nI d ∧ fG 4 10 10 S (nI c) (nI t) = nI d) := by
  obtain ⟨T1, x, e1, g1, o1⟩ := h.farOf hc ht
  refine ⟨T1, x, e1, g1, ?_⟩
  have c0 := (h.ct 2 0 10 (by decide)).2.2
  have hw := h.wy.1.at (i := c) (j := t) (by omega) (by omega)
  unfold p_X7_wayBetween at o1
  rw [fv_s] at o1
  rw [g4 (by omega) (by omega), show 10 * c + t = c * 10 + t by omega, hw.1] at o1 ⊢
  rcases o1 with ⟨a, b⟩ | ⟨d, hd, a, b⟩
  · refine Or.inl ⟨a, fun z => ?_⟩
    rw [if_pos z] at b
    exact nI_pos (n := tv (S.2 5) c t) (by omega) (by rw [b]; decide)
  · refine Or.inr ⟨d, hd, a, ?_⟩
    split at b
    · exact b
    · exact absurd b.symm (fun z => nI_pos (n := d) (by omega) (by rw [z]; decide))
/-- what somebody knows of -/
theorem RelR.knw (h : RelR K S (T.2 55)) {p : Nat} (hp : p < K 2) : ∃ T' : FS, E58 T T' ∧ f_X12_knownTo T (nI p) = some (p_X7_knownTo S (nI p), T') := by
  obtain ⟨c1, c2, c3⟩ := h.ct 6 2 20 (by decide)
  obtain ⟨d1, d2, d3⟩ := h.ct 102 8 2000 (by decide)
  have c0 := (h.ct 2 0 10 (by decide)).2.2
  have p20 : p < 20 := by omega
  obtain ⟨-, ⟨-, -, e10, -⟩, pl, -, -, hv, -⟩ := h.pe p hp
  unfold f_X12_knownTo p_X7_knownTo
  simp only [man_4 p20, man_10 p20, g6_10 p20, g6_4 p20, g6_9 p20, fb_s, fv_s, e10]
  rcases pl with ⟨a1, a2, a3, -⟩ | ⟨a1, ⟨dd, a2, a3⟩, -⟩
  · have hl : q_X12_lives T (nI p) = some 1 := by
      unfold q_X12_lives
      rw [man_9 p20, fb_s, a2]; rfl
    rw [a3]
    rcases hv with e | ⟨t, ht, e⟩
    · rw [e]; exact ⟨T, E58.rf, rfl⟩
    · rw [e, if_neg (nI_pos (by omega)), if_neg (nI_pos (by omega)), hl, fb_s, if_neg (by decide), a1, if_pos rfl]
      obtain ⟨T1, x, e1, g1, o1⟩ := h.farG (c := 0) (t := t) (by omega) ht
      rw [show f_X12_farOf T 0 (nI t) = _ from g1, fb_s]
      have en := e1.2 55 (by decide)
      have em : q_X12_man T1 (nI p) 10 = some (T.2 55 (14 * p + 120)) := by rw [man_10 p20, en]
      simp only [em, fb_s, en, d2, d1]
      refine ⟨T1, e1, ?_⟩
      rcases o1 with ⟨o1, o2⟩ | ⟨d, o1, rfl, o2⟩
      · rw [if_pos o1, show fG 4 10 10 S 0 (nI t) = fG 4 10 10 S (nI 0) (nI t) from rfl, if_neg o2]
      · rw [if_neg (nI_pos (by omega)), show fG 4 10 10 S 0 (nI t) = nI d from o2, if_pos (show nI d < 1000 from nI_lt (b := 1000) (by omega) (by decide))]
        unfold imax
        by_cases z : nI (K 8) - nI d < T.2 55 (14 * p + 120)
        · rw [if_pos z, if_neg (fun q => Int32.lt_irrefl (Int32.lt_trans z q))]
        · rw [if_neg z]
          by_cases z2 : T.2 55 (14 * p + 120) < nI (K 8) - nI d
          · rw [if_pos z2]
          · rw [if_neg z2]
            rw [Int32.le_antisymm (Int32.not_lt.mp z2) (Int32.not_lt.mp z)]
  · have hl : q_X12_lives T (nI p) = some 0 := by
      unfold q_X12_lives
      rw [man_9 p20, fb_s, a3, if_neg (nI_pos (by omega))]
    rw [hl, a1]
    refine ⟨T, E58.rf, ?_⟩
    simp only [fb_s, i10, ↓reduceIte]
    split <;> split <;> rfl
/-- somebody sets out, on both sides -/
theorem RelR.goes (h : RelR K S (T.2 55)) {p c t : Nat} (hp : p < K 2) (hl : T.2 55 (14 * p + 119) = -1) (hc : T.2 55 (14 * p + 114) = nI c) (hcK : c < K 0) (ht : t < K 0) :
    ∃ (T' S' : FS) (x v : Int32), f_X12_goes T (nI p) (nI t) = some (x, T') ∧ f_X7_setOut S (nI p) (nI t) = some (v, S') ∧ RelR K S' (T'.2 55) ∧ CX S S' ∧ MX T T' ∧ ((x < 0 ∧ v = -1000002) ∨ (∃ d : Nat, d ≤ 3000 ∧ x = nI d ∧ v = nI d)) ∧ (∀ j : Nat, j < 110 ∨ 390 ≤ j → T'.2 55 j = T.2 55 j) ∧ CQ [7] 103 S S' ∧ S'.1 = S.1 := by
  obtain ⟨c1, c2, c3⟩ := h.ct 6 2 20 (by decide)
  obtain ⟨d1, d2, d3⟩ := h.ct 102 8 2000 (by decide)
  have c0 := (h.ct 2 0 10 (by decide)).2.2
  have p20 : p < 20 := by omega
  have pe := h.pe p hp
  obtain ⟨-, -, pl, -, -, hv, -⟩ := id pe
  have hf4 : S.2 7 (14 * p + 4) = nI c ∧ S.2 7 (14 * p + 9) = 0 := by
    rcases pl with ⟨a1, a2, a3, -⟩ | ⟨a1, ⟨dd, a2, a3⟩, -⟩
    · exact ⟨a3.trans hc, a1⟩
    · rw [hl] at a3; exact absurd a3.symm (nI_m1 (by omega))
  obtain ⟨T1, x, e1, g1, o1⟩ := h.farOf hcK ht
  have en := e1.2 55 (by decide)
  have h1 : RelR K S (T1.2 55) := by rw [en]; exact h
  unfold f_X12_goes f_X7_setOut
  simp only [man_4 p20, hc, fb_s, g1, g6_4 p20, hf4.1]
  rcases o1 with ⟨o1, o2⟩ | ⟨d, o1, rfl, o2⟩
  · simp only [o2, fv_s, ltm2, o1, ↓reduceIte]
    exact ⟨T1, S, -1, -1000002, rfl, rfl, h1, CX.rf, e1.me.1, Or.inl ⟨by decide, rfl⟩, fun j _ => by rw [en], CQ.rf, rfl⟩
  · rw [o2, fv_s, if_neg (nI_pos (by omega)), if_neg (nI_pos (by omega))]
    by_cases z : d = 0
    · subst z
      rw [if_neg (by decide), if_neg (by decide), en, d1, d2]
      exact ⟨T1, S, _, _, rfl, rfl, h1, CX.rf, e1.me.1, Or.inr ⟨K 8, by omega, by rw [nI_0, Int32.add_zero], by rw [nI_0, Int32.add_zero]⟩, fun j _ => by rw [en], CQ.rf, rfl⟩
    · have z0 : (0 : Int32) < nI d := nI_lt (a := 0) (by omega) (by omega)
      rw [if_pos z0, if_pos z0]
      obtain ⟨T2, e2, g2⟩ := h1.knw hp
      have en2 := e2.2 55 (by decide)
      rw [en] at en2
      rw [g2]
      simp only [fb_s, fl_s, sets_10 p20, sets_4 p20, sets_5 p20, sets_6 p20, s6_10 p20, s6_4 p20, s6_5 p20, s6_6 p20, wA_1, wA_e, d1]
      generalize p_X7_knownTo S (nI p) = kv
      have e8 : ∀ v1 v2 v3 : Int32, upd (upd (upd (T2.2 55) (14 * p + 120) v1) (14 * p + 114) v2) (14 * p + 115) v3 8 = nI (K 8) := fun v1 v2 v3 => by
        simp (disch := omega) only [pk_un]; rw [en2, d2]
      have e8' : ∀ v1 v2 v3 v4 : Int32, upd (upd (upd (upd (T2.2 55) (14 * p + 120) v1) (14 * p + 114) v2) (14 * p + 115) v3) (14 * p + 116) v4 8 = nI (K 8) := fun v1 v2 v3 v4 => by
        simp (disch := omega) only [pk_un]; rw [en2, d2]
      rw [e8, e8', nI_add]
      refine ⟨_, _, _, _, rfl, rfl, ?_, ⟨⟨rfl, rfl, rfl, rfl⟩, rfl, rfl⟩, (e1.me.1.tr e2.me.1).tr ⟨⟨rfl, rfl, rfl, rfl, rfl⟩, rfl, rfl⟩, Or.inr ⟨K 8 + d, by omega, rfl, rfl⟩, fun j hj => ?_, (((CQ.rf.wA (by decide) (by decide)).wA (by decide) (by decide)).wA (by decide) (by decide)).wA (by decide) (by decide), rfl⟩
      · simp only [wA_e]
        rw [en2]
        refine h.onP ((((CQ.rf.wA (by decide) (by decide)).wA (by decide) (by decide)).wA (by decide) (by decide)).wA (by decide) (by decide)) ((((NQ.rf.w (Or.inl (by omega))).w (Or.inl (by omega))).w (Or.inl (by omega))).w (Or.inl (by omega))) ?_ ?_ ?_ ?_ ?_ ?_
        · simp (disch := omega) only [pk_un, wA_1]; exact h.1.2
        · simp only [wA_e]
          intro q hq
          have hh := h.pe q hq
          unfold PLv at hh ⊢
          by_cases e : q = p
          · subst e
            simp (disch := omega) only [pk_us, pk_un]
            refine ⟨hh.1, ⟨hh.2.1.1, hh.2.1.2.1, trivial, hh.2.1.2.2.2⟩, Or.inl ⟨hf4.2, hl, trivial, fun _ => ⟨⟨trivial, trivial⟩, ⟨t, ht, rfl⟩, K 8 + d, ⟨by omega, by omega⟩, rfl⟩⟩, hh.2.2.2.1, hh.2.2.2.2.1, Or.inl rfl, hh.2.2.2.2.2.2⟩
          · simp (disch := omega) only [pk_un]; exact hh
        · exact (((h.se.w (p := p) (c := 10) (by omega)).w (p := p) (c := 4) (by omega)).w (p := p) (c := 5) (by omega)).w (p := p) (c := 6) (by omega)
        · simp only [wA_e]
          exact (((h.st.w (p := p) (c := 10) (d := 10) c3 (by omega) (by omega)).w (p := p) (c := 4) (d := 4) c3 (by omega) (by omega)).w (p := p) (c := 5) (d := 5) c3 (by omega) (by omega)).w (p := p) (c := 6) (d := 6) c3 (by omega) (by omega)
        · exact fun x hx => (((hx.w (p := p) (c := 10) (by omega)).w (p := p) (c := 4) (by omega)).w (p := p) (c := 5) (by omega)).w (p := p) (c := 6) (by omega)
        · intro q hq
          simp (disch := omega) only [pk_un]
      · simp only [wA_e]
        simp (disch := omega) only [pk_un]
        rw [en2]
theorem RelR.town_of (h : RelR K S (T.2 55)) {p : Nat} (hp : p < K 2) (hl : T.2 55 (14 * p + 119) = -1) : (T.2 55 (14 * p + 114) = -1 ∧ p_X7_isInTown S (nI p) = 0) ∨ ∃ c : Nat, c < K 0 ∧ T.2 55 (14 * p + 114) = nI c ∧ S.2 7 (14 * p + 4) = nI c ∧ p_X7_isInTown S (nI p) = 1 := by
  obtain ⟨c1, c2, c3⟩ := h.ct 6 2 20 (by decide)
  have c0 := (h.ct 2 0 10 (by decide)).2.2
  have p20 : p < 20 := by omega
  obtain ⟨-, -, pl, -, -, hv, -⟩ := h.pe p hp
  unfold p_X7_isInTown
  rcases h.liv hp with ⟨l1, l2, l3⟩ | ⟨l1, -⟩
  · rw [l2, if_neg (by decide), g6_4 p20]
    rcases pl with ⟨a1, a2, a3, -⟩ | ⟨a1, ⟨dd, a2, a3⟩, -⟩
    · rw [a3]
      rcases hv with e | ⟨q, hq, e⟩
      · left; rw [e]; exact ⟨rfl, rfl⟩
      · right; rw [e]; exact ⟨q, hq, rfl, rfl, if_neg (nI_pos (by omega))⟩
    · rw [hl] at a3; exact absurd a3.symm (nI_m1 (by omega))
  · exact absurd hl l1
theorem op_go (h : RelR K S (T.2 55)) : OK2 S T (f_X11_go S za zb) (f_X12_go T za zb) := by
  unfold f_X11_go f_X12_go
  simp only [fb_id]
  obtain ⟨c1, c2, c3⟩ := h.ct 6 2 20 (by decide)
  rcases h.per za with ⟨c1, m1⟩ | ⟨p, hp, rfl, c1, m1⟩
  · simp only [c1, m1, ↓reduceIte]; exact ok_1 h
  · have p20 : p < 20 := by omega
    rcases h.twn zb with ⟨c2, m2⟩ | ⟨q, hq, rfl, c2, m2⟩
    · simp only [c1, m1, c2, m2, i10, ↓reduceIte]; exact ok_1 h
    · simp only [c1, m1, c2, m2, i10, ↓reduceIte]
      rcases h.liv hp with ⟨l1, l2, l3⟩ | ⟨l1, l2, l5, l3, l4⟩
      · rcases h.town_of hp l1 with ⟨t1, t2⟩ | ⟨c, hc, t1, t3, t2⟩
        · simp only [l3, fb_s, i10, man_4 p20, t2, t1, ltm1, ↓reduceIte]; exact ok_3 h
        · have c0 := (h.ct 2 0 10 (by decide)).2.2
          simp only [l3, fb_s, i10, man_4 p20, t2, t1, nI_pos (show c < 2 ^ 31 by omega), ↓reduceIte]
          obtain ⟨T1, S1, x, v, g1, g2, r1, cx, mx, o1, -⟩ := h.goes hp l1 t1 hc hq
          rw [g1, g2, fb_s, fb_s]
          rcases o1 with ⟨a, b⟩ | ⟨d, a1, a2, a3⟩
          · rw [if_pos a]; subst b; exact okf r1 cx mx (finds_2 T1)
          · rw [a2, a3, if_neg (nI_pos (by omega))]; exact okt r1 cx mx
      · unfold p_X7_isInTown
        simp only [l4, l3, fb_s, ↓reduceIte]; exact ok_3 h
theorem op_send (h : RelR K S (T.2 55)) : OK2 S T (f_X11_send S za zb) (f_X12_send T za zb) := by
  unfold f_X11_send f_X12_send f_X3_dispatch
  simp only [fb_id]
  have c5 := (h.ct 14 5 40 (by decide)).2.2
  have c2 := (h.ct 6 2 20 (by decide)).2.2
  have c0 := (h.ct 2 0 10 (by decide)).2.2
  obtain ⟨d1, d2, d3⟩ := h.ct 102 8 2000 (by decide)
  rcases h.let' za with ⟨a1, m1⟩ | ⟨e, he, rfl, a1, m1⟩
  · simp only [a1, m1, ↓reduceIte]; exact ok_1 h
  · have e40 : e < 40 := by omega
    rcases h.per zb with ⟨a2, m2⟩ | ⟨p, hp, rfl, a2, m2⟩
    · simp only [a1, m1, a2, m2, i10, ↓reduceIte]; exact ok_1 h
    · have p20 : p < 20 := by omega
      simp only [a1, m1, a2, m2, i10, ↓reduceIte, of_4 e40, fb_s]
      have hl := h.le e he
      obtain ⟨⟨k0, k1, k2, k3, k4⟩, k5, k6, k7, ⟨k8, ⟨w, hw, k9⟩, k10⟩, k11⟩ := id hl
      unfold p_X3_isSent
      rw [g14_6 e40, k4]
      by_cases z : T.2 55 (12 * e + 1294) = -1
      · rcases h.liv hp with ⟨l1, l2, l3⟩ | ⟨l1, l2, l5, l3, l4⟩
        · rcases h.town_of hp l1 with ⟨t1, t2⟩ | ⟨c, hc, t1, t3, t2⟩
          · simp only [z, ltm1, l3, fb_s, i10, man_4 p20, t2, t1, ↓reduceIte]; exact ok_3 h
          · simp only [z, ltm1, l3, fb_s, i10, man_4 p20, t2, t1, nI_pos (show c < 2 ^ 31 by omega), of_10 e40, g6_4 p20, t3, g14_3 e40, k6 z, k9, fv_s, ↓reduceIte]
            obtain ⟨T1, x, e1, g1, o1⟩ := h.farOf hw hc
            have en := e1.2 55 (by decide)
            rw [g1, fb_s]
            rcases o1 with ⟨o1, o2⟩ | ⟨d, o1, rfl, o2⟩
            · simp only [o2, ltm2, o1, fb_s, ↓reduceIte]
              exact okf (by rw [en]; exact h) CX.rf e1.me.1 (finds_2 T1)
            · rw [o2, if_neg (nI_pos (by omega)), if_neg (nI_pos (by omega))]
              simp only [fb_s, fl_s, writes_4 e40, writes_5 e40, writes_10 e40, man_4 p20, s14_6 e40, s14_7 e40, s14_8 e40, wA_1, wA_e, d1]
              have e4 : ∀ v1 v2 : Int32, upd (upd (T1.2 55) (12 * e + 1294) v1) (12 * e + 1295) v2 (14 * p + 114) = nI c := fun v1 v2 => by
                simp (disch := omega) only [pk_un]; rw [en, t1]
              have e8 : ∀ v1 : Int32, upd (T1.2 55) (12 * e + 1294) v1 8 = nI (K 8) := fun v1 => by
                simp (disch := omega) only [pk_un]; rw [en, d2]
              have e8' : ∀ v1 v2 v3 : Int32, upd (upd (upd (T1.2 55) (12 * e + 1294) v1) (12 * e + 1295) v2) (12 * e + 1300) v3 8 = nI (K 8) := fun v1 v2 v3 => by
                simp (disch := omega) only [pk_un]; rw [en, d2]
              rw [e4, e8, e8', nI_add]
              refine okt (K := K) ?_ ⟨⟨rfl, rfl, rfl, rfl⟩, rfl, rfl⟩ (e1.me.1.tr ⟨⟨rfl, rfl, rfl, rfl, rfl⟩, rfl, rfl⟩)
              simp only [wA_e]
              rw [en]
              refine h.onE (((CQ.rf.wA (by decide) (by decide)).wA (by decide) (by decide)).wA (by decide) (by decide)) (((NQ.rf.w (Or.inl (by omega))).w (Or.inl (by omega))).w (Or.inl (by omega))) ?_ ?_
              · simp (disch := omega) only [pk_un, wA_1]; exact h.1.2
              · simp only [wA_e]
                intro q hq
                have hh := h.le q hq
                by_cases eq : q = e
                · subst eq
                  simp (disch := omega) only [pk_us, pk_un]
                  exact ⟨⟨k0, k1, k2, k3, trivial⟩, ⟨trivial, k5.2⟩, fun y => absurd y (nI_m1 (by omega)), fun _ => trivial, ⟨Or.inr ⟨p, hp, rfl⟩, ⟨c, hc, rfl⟩, k10⟩, fun _ => nI_m1 (by omega)⟩
                · simp (disch := omega) only [pk_un]; exact hh
        · unfold p_X7_isInTown
          simp only [z, ltm1, l4, l3, fb_s, ↓reduceIte]; exact ok_3 h
      · simp only [z, i10, show ¬ T.2 55 (12 * e + 1294) < 0 from fun q => z ((k8.lt (by omega)).mp q), fb_s, ↓reduceIte]; exact ok_3 h
end OPH
