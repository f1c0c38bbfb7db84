/-! ===== pure: promise, check, count ===== -/
section OPK2
variable {K : Nat → Nat} {S T : FS} {za zb zc zd : Int32}
theorem prom_loop {p : Nat} {z : Int32} (hp : p < 20) : ∀ (m i : Nat) (S0 T0 S T : FS), i ≤ K 7 → K 7 - i < m → PQ K S T → FC S0 S → FR T0 T → (∀ k : Nat, k < i → T.2 55 (6 * k + 1806) = nI p → T.2 55 (6 * k + 1807) = z → T.2 55 (6 * k + 1811) = 1) →
    ∃ S' T' : FS, PQ K S' T' ∧ FC S0 S' ∧ FR T0 T' ∧ (∀ k : Nat, k < K 7 → T'.2 55 (6 * k + 1806) = nI p → T'.2 55 (6 * k + 1807) = z → T'.2 55 (6 * k + 1811) = 1) ∧ (∀ k : Nat, k < K 7 → S'.2 19 (5 * k + 4) = 0 → S.2 19 (5 * k + 4) = 0) ∧ (∀ k, l_X0_addPromise_12 (nI p) z (nI (K 7)) k m S (nI i) = k S' (nI (K 7))) ∧ ∀ k, l_X12_promise_81 (nI p) z (nI (K 7)) k m T (nI i) = k T' (nI (K 7)) := by
  intro m
  induction m with
  | zero => intro i S0 T0 S T hi hm; exact absurd hm (Nat.not_lt_zero _)
  | succ m ih =>
    intro i S0 T0 S T hi hm hq fc fr hd
    obtain ⟨c7, c8, a1, a2, a3, a4, hr⟩ := id hq
    by_cases ci : i < K 7
    · obtain ⟨i30, hs⟩ := hq.stn ci
      have e0 : S.2 19 (5 * i) = T.2 55 (6 * i + 1806) := (hr i ci).1.1
      have e1 : S.2 19 (5 * i + 1) = T.2 55 (6 * i + 1807) := (hr i ci).1.2.1
      have lt := nI_lt ci (show K 7 < 2 ^ 31 by omega)
      by_cases cp : T.2 55 (6 * i + 1806) = nI p
      · by_cases cz : T.2 55 (6 * i + 1807) = z
        · rcases hs with ⟨s1, s2, s3, s4, s5, s6⟩ | ⟨s1, s2, s3⟩
          · obtain ⟨S', T', r1, r2, r3, r0, r4, r5, r6⟩ := ih (i + 1) S0 T0 _ _ (by omega) (by omega) (hq.lap ci s4) fc.w (fr.w i30 (Or.inr rfl)) (by
              intro k hk q1 q2
              rw [wA_e] at q1 q2 ⊢
              by_cases e : k = i
              · subst e; rw [pk_us]
              · rw [pk_un (by omega)] at q1 q2 ⊢; exact hd k (by omega) q1 q2)
            refine ⟨S', T', r1, r2, r3, r0, fun k hk y => ?_, fun k => ?_, fun k => ?_⟩
            · have y1 := r4 k hk y
              rw [wA_e] at y1
              by_cases e : k = i
              · subst e; rw [pk_us] at y1; exact absurd y1 (by decide)
              · rw [pk_un (by omega)] at y1; exact y1
            · rw [l_X0_addPromise_12]
              simp only [lt, s1, i10, g18_0 i30, g18_1 i30, e0, e1, cp, cz, fl_s, s18_4 i30, nI_1, ↓reduceIte]; exact r5 k
            · rw [l_X12_promise_81]
              simp only [lt, promised_0 i30, promised_1 i30, fb_s, cp, cz, ixQ_5 i30, fl_s, nI_1, ↓reduceIte]; exact r6 k
          · obtain ⟨S', T', r1, r2, r3, r0, r4, r5, r6⟩ := ih (i + 1) S0 T0 _ _ (by omega) (by omega) (hq.lap2 ci s3) fc (fr.w i30 (Or.inr rfl)) (by
              intro k hk q1 q2
              rw [wA_e] at q1 q2 ⊢
              by_cases e : k = i
              · subst e; rw [pk_us]
              · rw [pk_un (by omega)] at q1 q2 ⊢; exact hd k (by omega) q1 q2)
            refine ⟨S', T', r1, r2, r3, r0, r4, fun k => ?_, fun k => ?_⟩
            · rw [l_X0_addPromise_12]
              simp only [lt, s1, nI_1, ↓reduceIte]; exact r5 k
            · rw [l_X12_promise_81]
              simp only [lt, promised_0 i30, promised_1 i30, fb_s, cp, cz, ixQ_5 i30, fl_s, nI_1, ↓reduceIte]; exact r6 k
        · obtain ⟨S', T', r1, r2, r3, r0, r4, r5, r6⟩ := ih (i + 1) S0 T0 _ _ (by omega) (by omega) hq fc fr (fun k hk q1 q2 => by
            by_cases e : k = i
            · subst e; exact absurd q2 cz
            · exact hd k (by omega) q1 q2)
          refine ⟨S', T', r1, r2, r3, r0, r4, fun k => ?_, fun k => ?_⟩
          · rw [l_X0_addPromise_12]
            rcases hs with ⟨s1, -⟩ | ⟨s1, -⟩
            · simp only [lt, s1, i10, g18_0 i30, g18_1 i30, e0, e1, cp, cz, nI_1, ↓reduceIte]; exact r5 k
            · simp only [lt, s1, nI_1, ↓reduceIte]; exact r5 k
          · rw [l_X12_promise_81]
            simp only [lt, promised_0 i30, promised_1 i30, fb_s, cp, cz, nI_1, ↓reduceIte]; exact r6 k
      · obtain ⟨S', T', r1, r2, r3, r0, r4, r5, r6⟩ := ih (i + 1) S0 T0 _ _ (by omega) (by omega) hq fc fr (fun k hk q1 q2 => by
          by_cases e : k = i
          · subst e; exact absurd q1 cp
          · exact hd k (by omega) q1 q2)
        refine ⟨S', T', r1, r2, r3, r0, r4, fun k => ?_, fun k => ?_⟩
        · rw [l_X0_addPromise_12]
          rcases hs with ⟨s1, -⟩ | ⟨s1, -⟩
          · simp only [lt, s1, i10, g18_0 i30, e0, cp, nI_1, ↓reduceIte]; exact r5 k
          · simp only [lt, s1, nI_1, ↓reduceIte]; exact r5 k
        · rw [l_X12_promise_81]
          simp only [lt, promised_0 i30, fb_s, cp, nI_1, ↓reduceIte]; exact r6 k
    · have ei : i = K 7 := by omega
      subst ei
      refine ⟨S, T, hq, fc, fr, hd, fun k hk y => y, fun k => ?_, fun k => ?_⟩
      · rw [l_X0_addPromise_12, if_neg (nI_nlt (Nat.le_refl _) (by omega))]
      · rw [l_X12_promise_81, if_neg (nI_nlt (Nat.le_refl _) (by omega))]
theorem op_promise (h : RelR K S (T.2 55)) : OK2 S T (f_X11_promise S za zb zc zd) (f_X12_promise T za zb zc zd) := by
  unfold f_X11_promise f_X12_promise
  simp only [fb_id]
  have c2 := (h.ct 6 2 20 (by decide)).2.2
  obtain ⟨k1, k2, c7⟩ := h.ct 18 7 30 (by decide)
  obtain ⟨d1, d2, d3⟩ := h.ct 102 8 2000 (by decide)
  rcases h.per za with ⟨a1, m1⟩ | ⟨p, hp, rfl, a1, m1⟩
  · simp only [a1, m1, ↓reduceIte]; exact ok_1 h
  · have p20 : p < 20 := by omega
    rcases out_c zb 0 5 with ⟨b1, b2⟩ | ⟨b1, b2⟩
    · rcases out_c zc (nI (K 8)) 2000 with ⟨b3, b4⟩ | ⟨b3, b4⟩
      · have e13 := (h.pe p hp).2.1.2.2.2.2
        obtain ⟨v, hv, ev⟩ := (h.pe p hp).2.2.2.2.2.2.1
        simp only [a1, m1, b1, b2, d1, d2, b3, b4, i10, g6_13 p20, e13, man_11 p20, fb_s, fv_s, k2, ↓reduceIte]
        rcases (show v = 0 ∨ v = 1 by omega) with rfl | rfl
        · simp only [ev, show (nI 0 = 0) = True from eq_true rfl, ↓reduceIte]; exact ok_3 h
        · simp only [ev, show (nI 1 = 0) = False from eq_false (by decide), ↓reduceIte]
          by_cases z : K 7 = 30
          · rw [fFull_t k1 (by omega) (by omega), if_neg (by decide), if_pos (by rw [z]; rfl)]; exact ok_4 h
          · rw [fFull_f k1 (by omega) (by decide), if_pos rfl, if_neg (fun q => z (nI_inj (by omega) (by decide) (q.trans (show (30 : Int32) = nI 30 from rfl))))]
            have q30 : K 7 < 30 := by omega
            obtain ⟨S1, T1, r1, r2, r3, r0, r4, r5, r6⟩ := prom_loop (K := K) (z := zb) p20 FU 0 S T S T (Nat.zero_le _) (FU_lt (by omega)) (PQ.of h) ⟨CQ.rf, rfl⟩ FR.rf (fun k hk => absurd hk (Nat.not_lt_zero _))
            unfold f_X0_addPromise
            rw [fv_s, k1, show ∀ k, l_X0_addPromise_12 (nI p) zb (nI (K 7)) k FU S 0 = k S1 (nI (K 7)) from r5, show ∀ k, l_X12_promise_81 (nI p) zb (nI (K 7)) k FU T 0 = k T1 (nI (K 7)) from r6]
            have k1' : S1.1 18 = nI (K 7) := r1.2.2.1
            have k2' : T1.2 55 7 = nI (K 7) := r1.2.2.2.2.1
            rw [fApp_f k1' q30 (by decide), k2']
            simp only [fb_s, fl_s, s18_1 q30, s18_2 q30, s18_3 q30, s18_4 q30, ixQ_0 q30, ixQ_1 q30, ixQ_2 q30, ixQ_3 q30, ixQ_4 q30, ixQ_5 q30, nI_1]
            have wr : ∀ w : Int32, (if zd = 0 then (0 : Int32) else 1) = w → OK2 S T (f_X11_told (wA (wA (wA (wA (ui S1.1 18 (nI (K 7 + 1)), ua S1.2 (18 + 1) (pm_apf 5 (K 7) (nI p) (S1.2 (18 + 1)))) 19 (5 * K 7 + 1) zb) 19 (5 * K 7 + 2) zc) 19 (5 * K 7 + 3) w) 19 (5 * K 7 + 4) 0) (nI (K 7))) (some (nI (K 7), wA (wA (wA (wA (wA (wA (wA T1 55 7 (nI (K 7 + 1))) 55 (6 * K 7 + 1806) (nI p)) 55 (6 * K 7 + 1807) zb) 55 (6 * K 7 + 1808) zc) 55 (6 * K 7 + 1809) w) 55 (6 * K 7 + 1810) 0) 55 (6 * K 7 + 1811) 0)) := by
              intro w hw
              have nw : nB 1 w := by
                rw [← hw]
                by_cases z0 : zd = 0
                · rw [if_pos z0]; exact ⟨0, by decide, rfl⟩
                · rw [if_neg z0]; exact ⟨1, by decide, rfl⟩
              have fc' : CQ [19] 18 S S1 := ⟨r2.1.1, fun k hk h3 h4 => by rw [r2.2], r2.1.2.2⟩
              have f19 : ua S1.2 (18 + 1) (pm_apf 5 (K 7) (nI p) (S1.2 (18 + 1))) 19 = pm_apf 5 (K 7) (nI p) (S1.2 19) := ua_eq
              have cq := ((((fc'.app (a := 19) (v := nI (K 7 + 1)) (g := pm_apf 5 (K 7) (nI p) (S1.2 19)) (by decide) (by decide) (by decide) (by decide)).wA (a := 19) (j := 5 * K 7 + 1) (v := zb) (by decide) (by decide)).wA (a := 19) (j := 5 * K 7 + 2) (v := zc) (by decide) (by decide)).wA (a := 19) (j := 5 * K 7 + 3) (v := w) (by decide) (by decide)).wA (a := 19) (j := 5 * K 7 + 4) (v := 0) (by decide) (by decide)
              refine okt (K := kU K 7 (K 7 + 1)) ?_ cq.1 (MX.tr r3.2.1 ⟨⟨rfl, rfl, rfl, rfl, rfl⟩, rfl, rfl⟩)
              simp only [wA_e]
              generalize hn' : upd (upd (upd (upd (upd (upd (upd (T1.2 55) 7 (nI (K 7 + 1))) (6 * K 7 + 1806) (nI p)) (6 * K 7 + 1807) zb) (6 * K 7 + 1808) zc) (6 * K 7 + 1809) w) (6 * K 7 + 1810) 0) (6 * K 7 + 1811) 0 = n'
              have no : ∀ j : Nat, ¬ (6 * K 7 + 1806 ≤ j ∧ j < 6 * K 7 + 1812) → j ≠ 7 → n' j = T1.2 55 j := fun j hj j2 => by
                rw [← hn']; simp (disch := omega) only [pk_un]
              refine h.onQ_7 cq (fun j h1 h2 h3 => (no j (by omega) h3).trans (r3.1 j h1 h2 h2)) (fun i hi => kU_n hi) (by rw [kU_e]; omega) ?_ (onct 18 7 30 (by decide) ?_ ?_ (by rw [kU_e]; omega)) ?_ ?_
              · rw [no 9 (by omega) (by decide), r3.2.2.2.1]; show S1.1 103 = _; rw [r2.2]; exact h.1.2
              · rw [kU_e]; rfl
              · rw [kU_e, ← hn']; simp (disch := omega) only [pk_un, pk_us]
              · simp only [wA_e]
                rw [f19]
                intro q hq
                rw [kU_e] at hq
                rw [kU_n (show (2 : Nat) ≠ 7 by decide), kU_n (show (8 : Nat) ≠ 7 by decide)]
                by_cases e : q = K 7
                · subst e
                  rw [← hn']
                  simp (disch := omega) only [pk_us, pk_un, apf_0]
                  obtain ⟨kc, hkc, ekc⟩ := out_n (K 8) 2000 rfl rfl (by omega) (by decide) b3
                  exact ⟨⟨trivial, trivial, trivial, trivial⟩, ⟨fun z => absurd z (by decide), fun z => absurd z (by decide)⟩, fun _ => ⟨fun _ => ⟨trivial, trivial⟩, fun _ => trivial⟩, ⟨p, hp, rfl⟩, ⟨kc, hkc.2, ekc⟩, nw, ⟨0, by decide, rfl⟩, ⟨0, by decide, rfl⟩⟩
                · have hh := r1.2.2.2.2.2.2 q (by omega)
                  simp (disch := omega) only [pk_un, apf_o, no]; exact hh
              · simp only [wA_e]
                rw [f19]
                have hu : RPu (kU K 7 (K 7 + 1)) n' := by
                  intro j k hj hk e1 e2
                  rw [kU_e] at hk
                  rw [no (6 * j + 1806) (by omega) (by omega)] at e1
                  rw [no (6 * j + 1807) (by omega) (by omega)] at e2
                  rw [no _ (by omega) (by omega)]
                  by_cases e : k = K 7
                  · subst e
                    have g1 : n' (6 * K 7 + 1806) = nI p := by rw [← hn']; simp (disch := omega) only [pk_un, pk_us]
                    have g2 : n' (6 * K 7 + 1807) = zb := by rw [← hn']; simp (disch := omega) only [pk_un, pk_us]
                    exact r0 j hj (e1.trans g1) (e2.trans g2)
                  · rw [no _ (by omega) (by omega)] at e1 e2
                    have f := r3.2.2.1
                    rw [(f j (by omega)).1, (f k (by omega)).1] at e1
                    rw [(f j (by omega)).2.1, (f k (by omega)).2.1] at e2
                    exact r3.2.2.2.2 j (by omega) (h.ps.2 j k hj (by omega) e1 e2)
                refine ⟨?_, hu⟩
                intro q hq
                rw [kU_e] at hq
                rw [kU_n (show (2 : Nat) ≠ 7 by decide), kU_n (show (8 : Nat) ≠ 7 by decide)]
                have sq : ∀ x : Nat, x < K 2 → n' (14 * x + 121) = T.2 55 (14 * x + 121) := fun x hx => (no _ (by omega) (by omega)).trans (r3.1 _ (by omega) (by omega) (by omega))
                by_cases e : q = K 7
                · subst e
                  intro _ _
                  refine ⟨p, hp, ?_, by rw [sq p hp, ev]; rfl⟩
                  rw [← hn']; simp (disch := omega) only [pk_un, pk_us]
                · simp (disch := omega) only [pk_un, apf_o]
                  intro z1 z2
                  rw [no _ (by omega) (by omega)] at z2
                  have y1 := r4 q (by omega) z1
                  obtain ⟨t1, t2, t3⟩ := r3.2.2.1 q (by omega)
                  rw [t3] at z2
                  obtain ⟨x, x1, x2, x3⟩ := h.ps.1 q (by omega) y1 z2
                  exact ⟨x, x1, by rw [no _ (by omega) (by omega), t1]; exact x2, by rw [sq x x1]; exact x3⟩
            by_cases z0 : zd = 0
            · simp only [z0, ↓reduceIte, fb_s]; exact wr 0 (by rw [if_pos z0])
            · simp only [z0, ↓reduceIte, fb_s]; exact wr 1 (by rw [if_neg z0])
      · simp only [a1, m1, b1, b2, d1, d2, b3, b4, i10, ↓reduceIte]; exact ok_1 h
    · simp only [a1, m1, b1, b2, i10, ↓reduceIte]; exact ok_1 h
theorem check_l (h : RelR K S (T.2 55)) : ∀ (m i : Nat), i ≤ K 11 → K 11 - i < m → ∃ v : Int32, (∀ S' : FS, S'.1 6 = S.1 6 → S'.1 103 = S.1 103 → S'.2 7 = S.2 7 → S'.2 23 = S.2 23 → ∃ j : Int32, ∀ k, l_X11_check_15 (nI (K 11)) k m S' 0 (nI i) = k S' v j) ∧ ∀ T' : FS, (∀ j : Nat, j ≠ 11 → T'.2 55 j = T.2 55 j) → l_X12_check_18 (nI (K 11)) (fun S13 x13_2 => some (0, S13)) m T' (nI i) = some (v, T') := by
  obtain ⟨w1, w2, c11⟩ := h.ct 22 11 20 (by decide)
  obtain ⟨k1, k2, c2⟩ := h.ct 6 2 20 (by decide)
  intro m
  induction m with
  | zero => intro i _ hm; exact absurd hm (Nat.not_lt_zero _)
  | succ m ih =>
    intro i hi hm
    by_cases c : i < K 11
    · have i20 : i < 20 := by omega
      have lt := nI_lt c (show K 11 < 2 ^ 31 by omega)
      have ew := h.wt i c
      have ixw : ix 2071 (2051 + nI i) = some (i + 2051) := by
        rw [show (2051 : Int32) = nI 2051 from rfl, nI_add, Nat.add_comm]; exact ix_nI (by omega) (by decide)
      -- what the class compares
      have one : nI i + 1 = nI (i + 1) := nI_1 i
      have one' : 1 + nI i = nI (i + 1) := by rw [show (1 : Int32) = nI 1 from rfl, nI_add, Nat.add_comm]
      by_cases cm : (i < K 2 ∧ T.2 55 (14 * i + 117) = T.2 55 (i + 2051)) ∨ (i = K 2 ∧ T.2 55 9 = T.2 55 (i + 2051))
      · obtain ⟨v, v1, v2⟩ := ih (i + 1) (by omega) (by omega)
        refine ⟨v, fun S' s6 s3 s7 s23 => ?_, fun T' tn => ?_⟩
        · obtain ⟨j, hj⟩ := v1 S' s6 s3 s7 s23
          refine ⟨j, fun k => ?_⟩
          have ic : p_X7_isCoinOf S' (nI i) (fG 22 20 1 S' (nI i) 0) = 1 := by
            unfold p_X7_isCoinOf
            rw [g22_0 i20, s23, ew]
            rcases cm with ⟨q1, q2⟩ | ⟨q1, q2⟩
            · rw [fHas_t (s6.trans k1) q1 (by omega), if_neg (by decide), g6_7 i20, s7, (h.pe i q1).2.1.1, if_pos q2]
            · rw [fHas_f (s6.trans k1) (Or.inr (by rw [q1]; exact Int32.le_refl _)), if_pos rfl, s6, k1, if_pos (by rw [q1]), s3, h.1.2, if_pos q2]
          rw [l_X11_check_15, if_pos lt, if_pos rfl, ic, if_neg (by decide), one]; exact hj k
        · rw [l_X12_check_18, if_pos lt, tn 2 (by decide), k2]
          rcases cm with ⟨q1, q2⟩ | ⟨q1, q2⟩
          · rw [if_pos (nI_lt q1 (by omega)), ixw, fb_s, man_7 i20, fb_s, tn _ (by omega), tn _ (by omega), if_pos q2.symm, one]; exact v2 T' tn
          · rw [if_neg (nI_nlt (by omega) (by omega)), if_pos (by rw [q1]), ixw, fb_s, tn _ (by omega), tn _ (by omega), if_pos q2.symm, one]; exact v2 T' tn
      · refine ⟨nI (i + 1), fun S' s6 s3 s7 s23 => ⟨nI (i + 1), fun k => ?_⟩, fun T' tn => ?_⟩
        · have ic : p_X7_isCoinOf S' (nI i) (fG 22 20 1 S' (nI i) 0) = 0 := by
            unfold p_X7_isCoinOf
            rw [g22_0 i20, s23, ew]
            by_cases q1 : i < K 2
            · rw [fHas_t (s6.trans k1) q1 (by omega), if_neg (by decide), g6_7 i20, s7, (h.pe i q1).2.1.1, if_neg (fun z => cm (Or.inl ⟨q1, z⟩))]
            · rw [fHas_f (s6.trans k1) (Or.inr (nI_le (by omega) (by omega))), if_pos rfl, s6, k1]
              by_cases q2 : i = K 2
              · rw [if_pos (by rw [q2]), s3, h.1.2, if_neg (fun z => cm (Or.inr ⟨q2, z⟩))]
              · rw [if_neg (fun z => q2 (nI_inj (by omega) (by omega) z))]
          rw [l_X11_check_15, if_pos lt, if_pos rfl, ic, if_pos rfl, one, fv_s]
          obtain ⟨m', rfl⟩ : ∃ m' : Nat, m = m' + 1 := ⟨m - 1, by omega⟩
          rw [l_X11_check_15]
          have ne : ¬ nI (i + 1) = 0 := nI_ne0 (by omega) (by omega)
          simp only [ne, ↓reduceIte, ite_self]
        · rw [l_X12_check_18, if_pos lt, tn 2 (by decide), k2]
          by_cases q1 : i < K 2
          · rw [if_pos (nI_lt q1 (by omega)), ixw, fb_s, man_7 i20, fb_s, tn _ (by omega), tn _ (by omega), if_neg (fun z => cm (Or.inl ⟨q1, z.symm⟩)), one']
          · rw [if_neg (nI_nlt (by omega) (by omega))]
            by_cases q2 : i = K 2
            · rw [if_pos (by rw [q2]), ixw, fb_s, tn _ (by omega), tn _ (by omega), if_neg (fun z => cm (Or.inr ⟨q2, z.symm⟩)), one']
            · rw [if_neg (fun z => q2 (nI_inj (by omega) (by omega) z)), one']
    · have ei : i = K 11 := by omega
      subst ei
      refine ⟨0, fun S' _ _ _ _ => ⟨nI (K 11), fun k => ?_⟩, fun T' _ => ?_⟩
      · rw [l_X11_check_15, if_neg (nI_nlt (Nat.le_refl _) (by omega))]
      · rw [l_X12_check_18, if_neg (nI_nlt (Nat.le_refl _) (by omega))]
theorem op_check (h : RelR K S (T.2 55)) : OK2 S T (f_X11_check S) (f_X12_check T) := by
  unfold f_X11_check f_X12_check
  obtain ⟨w1, w2, c11⟩ := h.ct 22 11 20 (by decide)
  simp only [fv_s, fl_s, w1, w2]
  obtain ⟨v, v1, v2⟩ := check_l h FU 0 (Nat.zero_le _) (FU_lt (by omega))
  obtain ⟨j, hj⟩ := v1 S rfl rfl rfl rfl
  rw [show ∀ k, l_X11_check_15 (nI (K 11)) k FU S 0 0 = k S v j from hj, show l_X12_check_18 (nI (K 11)) (fun S13 x13_2 => some (0, S13)) FU (wA T 55 11 0) 0 = _ from v2 (wA T 55 11 0) (fun q hq => by rw [wA_e, pk_un hq])]
  refine ok0 (K := kU K 11 0) ?_ ⟨⟨rfl, rfl, rfl, rfl⟩, rfl, rfl⟩ ⟨⟨rfl, rfl, rfl, rfl, rfl⟩, rfl, rfl⟩
  rw [wA_e]
  refine h.onX_11z (CQ.rf.wI (Or.inr rfl) (by decide) (by decide)) (NQ.rf.w (Or.inr (Or.inr rfl))) (fun i hi => kU_n hi) ?_ (onct 22 11 20 (by decide) (by rw [kU_e]; rfl) (by rw [kU_e, pk_us]; rfl) (by rw [kU_e]; omega)) (fun j hj => by rw [kU_e] at hj; exact absurd hj (Nat.not_lt_zero _))
  rw [wI_n (by decide), pk_un (by decide)]; exact h.1.2
theorem sum_l (h : RelR K S (T.2 55)) {k : FS → Int32 → Int32 → Option (Int32 × FS)} : ∀ (m i : Nat), i ≤ K 2 → K 2 - i < m → l_X12_count_107 k m T (pm_sum (S.2 7) 14 7 i) (nI i) = k T (pm_sum (S.2 7) 14 7 (K 2)) (nI (K 2)) := by
  obtain ⟨k1, k2, c2⟩ := h.ct 6 2 20 (by decide)
  intro m
  induction m with
  | zero => intro i _ hm; exact absurd hm (Nat.not_lt_zero _)
  | succ m ih =>
    intro i hi hm
    rw [l_X12_count_107, k2]
    by_cases c : i < K 2
    · have e := ih (i + 1) (by omega) (by omega)
      rw [show pm_sum (S.2 7) 14 7 (i + 1) = pm_sum (S.2 7) 14 7 i + S.2 7 (i * 14 + 7) from rfl, show i * 14 + 7 = 14 * i + 7 by omega, (h.pe i c).2.1.1] at e
      rw [if_pos (nI_lt c (by omega)), man_7 (by omega), fb_s, fv_s, nI_1]; exact e
    · have ei : i = K 2 := by omega
      subst ei
      rw [if_neg (nI_nlt (Nat.le_refl _) (by omega))]
theorem way_l (h : RelR K S (T.2 55)) : ∀ (m i : Nat) (x : Int32), i ≤ K 5 → K 5 - i < m → ∃ v : Int32, (∀ k, l_X3_onTheirWay_12 S (nI (K 5)) k m x (nI i) = k v (nI (K 5))) ∧ ∀ k, l_X12_count_137 k m T x (nI i) = k T v (nI (K 5)) := by
  obtain ⟨k1, k2, c5⟩ := h.ct 14 5 40 (by decide)
  obtain ⟨d1, d2, d3⟩ := h.ct 102 8 2000 (by decide)
  have c2 := (h.ct 6 2 20 (by decide)).2.2
  intro m
  induction m with
  | zero => intro i x _ hm; exact absurd hm (Nat.not_lt_zero _)
  | succ m ih =>
    intro i x hi hm
    by_cases c : i < K 5
    · have i40 : i < 40 := by omega
      have lt := nI_lt c (show K 5 < 2 ^ 31 by omega)
      obtain ⟨⟨-, -, -, -, e6⟩, ⟨e8, -⟩, -, -, ⟨ev, -⟩, -⟩ := h.le i c
      by_cases z : T.2 55 (12 * i + 1294) = -1
      · obtain ⟨v, v1, v2⟩ := ih (i + 1) x (by omega) (by omega)
        refine ⟨v, fun k => ?_, fun k => ?_⟩
        · rw [l_X3_onTheirWay_12]
          unfold p_X3_isSent
          simp only [lt, g14_6 i40, e6, z, nI_1, ↓reduceIte]; exact v1 k
        · rw [l_X12_count_137]
          simp only [k2, lt, of_4 i40, fb_s, z, ltm1, fv_s, nI_1, Int32.add_zero, ↓reduceIte]; exact v2 k
      · have nz : ¬ T.2 55 (12 * i + 1294) < 0 := fun q => z ((ev.lt (by omega)).mp q)
        by_cases y : nI (K 8) < T.2 55 (12 * i + 1295)
        · obtain ⟨v, v1, v2⟩ := ih (i + 1) (x + 1) (by omega) (by omega)
          refine ⟨v, fun k => ?_, fun k => ?_⟩
          · rw [l_X3_onTheirWay_12]
            unfold p_X3_isSent
            simp only [lt, g14_6 i40, e6, z, i10, d1, g14_8 i40, e8, y, nI_1, ↓reduceIte]; exact v1 k
          · rw [l_X12_count_137]
            simp only [k2, lt, of_4 i40, of_5 i40, fb_s, nz, d2, y, fv_s, nI_1, ↓reduceIte]; exact v2 k
        · obtain ⟨v, v1, v2⟩ := ih (i + 1) x (by omega) (by omega)
          refine ⟨v, fun k => ?_, fun k => ?_⟩
          · rw [l_X3_onTheirWay_12]
            unfold p_X3_isSent
            simp only [lt, g14_6 i40, e6, z, i10, d1, g14_8 i40, e8, y, nI_1, ↓reduceIte]; exact v1 k
          · rw [l_X12_count_137]
            simp only [k2, lt, of_4 i40, of_5 i40, fb_s, nz, d2, y, fv_s, nI_1, Int32.add_zero, ↓reduceIte]; exact v2 k
    · have ei : i = K 5 := by omega
      subst ei
      refine ⟨x, fun k => ?_, fun k => ?_⟩
      · rw [l_X3_onTheirWay_12, if_neg (nI_nlt (Nat.le_refl _) (by omega))]
      · rw [l_X12_count_137, k2, if_neg (nI_nlt (Nat.le_refl _) (by omega))]
theorem op_count (h : RelR K S (T.2 55)) (hx : RX S T) : OK2 S T (f_X11_count S za) (f_X12_count T za) := by
  unfold f_X11_count f_X12_count
  simp only [fb_id]
  have ct : ∀ (a i b : Nat), (a, i, b) ∈ ctT → S.1 a = T.2 55 i := fun a i b hm => (h.ct a i b hm).1.trans (h.ct a i b hm).2.1.symm
  obtain ⟨k1, k2, c2⟩ := h.ct 6 2 20 (by decide)
  obtain ⟨l1, l2, c5⟩ := h.ct 14 5 40 (by decide)
  by_cases z0 : za = 0
  · subst z0; simp only [↓reduceIte]; rw [show ix 2071 0 = some 0 from rfl, fb_s, ct 2 0 10 (by decide)]; exact ok0 h CX.rf MX.rf
  rw [if_neg z0, if_neg z0]
  by_cases z1 : za = 1
  · subst z1; simp only [↓reduceIte]; rw [show ix 2071 1 = some 1 from rfl, fb_s, ct 101 1 20 (by decide)]; exact ok0 h CX.rf MX.rf
  rw [if_neg z1, if_neg z1]
  by_cases z2 : za = 2
  · subst z2; simp only [↓reduceIte]; rw [show ix 2071 2 = some 2 from rfl, fb_s, ct 6 2 20 (by decide)]; exact ok0 h CX.rf MX.rf
  rw [if_neg z2, if_neg z2]
  by_cases z3 : za = 3
  · subst z3; simp only [↓reduceIte]; rw [show ix 2071 3 = some 3 from rfl, fb_s, ct 8 3 20 (by decide)]; exact ok0 h CX.rf MX.rf
  rw [if_neg z3, if_neg z3]
  by_cases z4 : za = 4
  · subst z4; simp only [↓reduceIte]; rw [show ix 2071 4 = some 4 from rfl, fb_s, ct 10 4 12 (by decide)]; exact ok0 h CX.rf MX.rf
  rw [if_neg z4, if_neg z4]
  by_cases z5 : za = 5
  · subst z5; simp only [↓reduceIte]; rw [show ix 2071 5 = some 5 from rfl, fb_s, ct 14 5 40 (by decide)]; exact ok0 h CX.rf MX.rf
  rw [if_neg z5, if_neg z5]
  by_cases z6 : za = 6
  · subst z6; simp only [↓reduceIte]; rw [show ix 2071 6 = some 6 from rfl, fb_s, ct 16 6 6 (by decide)]; exact ok0 h CX.rf MX.rf
  rw [if_neg z6, if_neg z6]
  by_cases z7 : za = 7
  · subst z7; simp only [↓reduceIte]; rw [show ix 2071 7 = some 7 from rfl, fb_s, ct 18 7 30 (by decide)]; exact ok0 h CX.rf MX.rf
  rw [if_neg z7, if_neg z7]
  by_cases z8 : za = 8
  · subst z8; simp only [↓reduceIte]; rw [show ix 2071 8 = some 8 from rfl, fb_s, ct 102 8 2000 (by decide)]; exact ok0 h CX.rf MX.rf
  rw [if_neg z8, if_neg z8]
  by_cases z9 : za = 9
  · subst z9; simp only [↓reduceIte]; rw [show ix 2071 9 = some 9 from rfl, fb_s, h.1.2]; exact ok0 h CX.rf MX.rf
  rw [if_neg z9, if_neg z9]
  by_cases z10 : za = 10
  · subst z10; simp only [↓reduceIte]; rw [show ix 2071 10 = some 10 from rfl, fb_s, ct 24 10 60 (by decide)]; exact ok0 h CX.rf MX.rf
  rw [if_neg z10, if_neg z10]
  by_cases z11 : za = 11
  · rw [if_pos z11, if_pos z11, rows_e h, many_e h, fb_s, fb_s]; exact ok0 h CX.rf MX.rf
  rw [if_neg z11, if_neg z11]
  by_cases z12 : za = 12
  · rw [if_pos z12, if_pos z12, hx.2.2.1]; exact ok0 h CX.rf MX.rf
  rw [if_neg z12, if_neg z12]
  by_cases z13 : za = 13
  · rw [if_pos z13, if_pos z13, ct 22 11 20 (by decide)]; exact ok0 h CX.rf MX.rf
  rw [if_neg z13, if_neg z13]
  by_cases z14 : za = 14
  · rw [if_pos z14, if_pos z14, qSum_e k1 c2 (by decide), fb_s]
    have := sum_l h (k := fun S34 x34_2 x34_3 => some (x34_2, S34)) FU 0 (Nat.zero_le _) (FU_lt (by omega))
    rw [show l_X12_count_107 (fun S34 x34_2 x34_3 => some (x34_2, S34)) FU T 0 0 = _ from this]; exact ok0 h CX.rf MX.rf
  rw [if_neg z14, if_neg z14]
  by_cases z15 : za = 15
  · rw [if_pos z15, if_pos z15]
    unfold q_X3_onTheirWay
    obtain ⟨v, v1, v2⟩ := way_l h FU 0 0 (Nat.zero_le _) (FU_lt (by omega))
    rw [fv_s, l1, show ∀ k, l_X3_onTheirWay_12 S (nI (K 5)) k FU 0 0 = k v (nI (K 5)) from v1, show ∀ k, l_X12_count_137 k FU T 0 0 = k T v (nI (K 5)) from v2, fb_s]; exact ok0 h CX.rf MX.rf
  rw [if_neg z15, if_neg z15]; exact ok_1 h
end OPK2
