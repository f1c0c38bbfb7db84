section
/-! ===== pure: draw, found, count ===== -/
section OPK
variable {K : Nat → Nat} {S T : FS} {za zb zc zd : Int32}
theorem in_l {P : Nat} {z : Int32} (hP : P ≤ 20) (h2 : T.2 55 2 = nI P) (h6 : S.1 6 = nI P) (hp : ∀ p : Nat, p < P → (q_X12_lives T (nI p) = some 1 ∧ p_X7_isLiving S (nI p) = 1 ∧ S.2 7 (14 * p + 4) = T.2 55 (14 * p + 114)) ∨ (q_X12_lives T (nI p) = some 0 ∧ p_X7_isLiving S (nI p) = 0)) : ∀ (m i : Nat) (x : Int32), i ≤ P → P - i < m → ∃ v : Int32, (∀ k, l_X7_livingIn_13 z S (nI P) k m x (nI i) = k v (nI P)) ∧ ∀ k, l_X12_thoseIn_4 z T k m x (nI i) = k v (nI P) := by
  intro m
  induction m with
  | zero => intro i x _ h; exact absurd h (Nat.not_lt_zero _)
  | succ m ih =>
    intro i x hi hm
    by_cases c : i < P
    · have i20 : i < 20 := by omega
      rcases hp i c with ⟨a1, a2, a3⟩ | ⟨a1, a2⟩
      · by_cases z1 : T.2 55 (14 * i + 114) = z
        · obtain ⟨v, v1, v2⟩ := ih (i + 1) (x ||| ((1 : Int32) <<< (nI i &&& 31))) (by omega) (by omega)
          refine ⟨v, fun k => ?_, fun k => ?_⟩
          · rw [l_X7_livingIn_13]
            simp only [nI_lt c (show P < 2 ^ 31 by omega), a2, i10, g6_4 i20, a3, z1, fv_s, nI_1, ↓reduceIte]; exact v1 k
          · rw [l_X12_thoseIn_4]
            simp only [h2, nI_lt c (show P < 2 ^ 31 by omega), a1, fb_s, i10, man_4 i20, z1, fv_s, nI_1, ↓reduceIte]; exact v2 k
        · obtain ⟨v, v1, v2⟩ := ih (i + 1) x (by omega) (by omega)
          refine ⟨v, fun k => ?_, fun k => ?_⟩
          · rw [l_X7_livingIn_13]
            simp only [nI_lt c (show P < 2 ^ 31 by omega), a2, i10, g6_4 i20, a3, z1, fv_s, nI_1, ↓reduceIte]; exact v1 k
          · rw [l_X12_thoseIn_4]
            simp only [h2, nI_lt c (show P < 2 ^ 31 by omega), a1, fb_s, i10, man_4 i20, z1, fv_s, nI_1, Int32.or_zero, ↓reduceIte]; exact v2 k
      · obtain ⟨v, v1, v2⟩ := ih (i + 1) x (by omega) (by omega)
        refine ⟨v, fun k => ?_, fun k => ?_⟩
        · rw [l_X7_livingIn_13]
          simp only [nI_lt c (show P < 2 ^ 31 by omega), a2, nI_1, ↓reduceIte]; exact v1 k
        · rw [l_X12_thoseIn_4]
          simp only [h2, nI_lt c (show P < 2 ^ 31 by omega), a1, fb_s, fv_s, nI_1, Int32.or_zero, ↓reduceIte]; exact v2 k
    · have ei : i = P := by omega
      subst ei
      refine ⟨x, fun k => ?_, fun k => ?_⟩
      · rw [l_X7_livingIn_13, if_neg (nI_nlt (Nat.le_refl _) (by omega))]
      · rw [l_X12_thoseIn_4, h2, if_neg (nI_nlt (Nat.le_refl _) (by omega))]
/-- those in a town, on both sides -/
theorem RelR.those (h : RelR K S (T.2 55)) (z : Int32) {S' T' : FS} (h6 : S'.1 6 = S.1 6) (h7 : S'.2 7 = S.2 7) (hn : ∀ j : Nat, j = 2 ∨ (110 ≤ j ∧ j < 390) → T'.2 55 j = T.2 55 j) : ∃ v : Int32, q_X7_livingIn S' z = some v ∧ q_X12_thoseIn T' z = some v := by
  obtain ⟨k1, k2, c2⟩ := h.ct 6 2 20 (by decide)
  obtain ⟨v, v1, v2⟩ := in_l (S := S') (T := T') (z := z) c2 ((hn 2 (Or.inl rfl)).trans k2) (h6.trans k1) (fun p hp => by
    have p20 : p < 20 := by omega
    have e1 : q_X12_lives T' (nI p) = q_X12_lives T (nI p) := by
      unfold q_X12_lives; rw [man_9 p20, man_9 p20, hn _ (by omega)]
    have e2 : p_X7_isLiving S' (nI p) = p_X7_isLiving S (nI p) := by
      unfold p_X7_isLiving fHas; rw [g6_9 p20, g6_9 p20, h6, h7]
    rw [e1, e2, h7, hn _ (by omega)]
    rcases h.liv hp with ⟨l1, l2, l3⟩ | ⟨l1, l2, l5, l3, l4⟩
    · left
      refine ⟨l3, l2, ?_⟩
      rcases (h.pe p hp).2.2.1 with ⟨-, -, a3, -⟩ | ⟨-, ⟨d, a1, a2⟩, -⟩
      · exact a3
      · rw [l1] at a2; exact absurd a2.symm (nI_m1 (by omega))
    · exact Or.inr ⟨l4, l3⟩) FU 0 0 (Nat.zero_le _) (FU_lt (by omega))
  refine ⟨v, ?_, v2 _⟩
  unfold q_X7_livingIn
  rw [fv_s, h6, k1]; exact v1 _
theorem writes_g {p c : Nat} {x : Int32} (h : p < 40) (hc : c < 12) : f_X12_writes T (nI p) (nI c) x = some (0, wA T 55 (12 * p + (1290 + c)) x) := by
  unfold f_X12_writes
  rw [show ix 2071 (((1290 : Int32) + (12 : Int32) * nI p) + nI c) = some (12 * p + (1290 + c)) from ix_lin (b := 1290) (s := 12) (by omega) (by omega) (by decide)]; rfl
theorem draw_l {P : Nat} (hP : P < 40) : ∀ (g i : Nat) (T : FS), i ≤ 12 → 12 - i < g → (∀ c : Nat, c < i → T.2 55 (12 * P + (1290 + c)) = if 4 ≤ c ∧ c ≤ 7 then -1 else 0) →
    ∃ T' : FS, (T'.1 = T.1 ∧ (∀ a : Nat, a ≠ 55 → T'.2 a = T.2 a) ∧ ∀ j : Nat, ¬ (12 * P + 1290 ≤ j ∧ j < 12 * P + 1302) → T'.2 55 j = T.2 55 j) ∧ (∀ c : Nat, c < 12 → T'.2 55 (12 * P + (1290 + c)) = if 4 ≤ c ∧ c ≤ 7 then -1 else 0) ∧ ∀ kk, l_X12_draw_91 (nI P) kk g T (nI i) = kk T' (nI 12) := by
  intro g
  induction g with
  | zero => intro i T _ h; exact absurd h (Nat.not_lt_zero _)
  | succ g ih =>
    intro i T hi hg hm
    by_cases c : i < 12
    · obtain ⟨T1, ⟨e1, e2, e3⟩, m1, g1⟩ := ih (i + 1) (wA T 55 (12 * P + (1290 + i)) (if 4 ≤ i ∧ i ≤ 7 then -1 else 0)) (by omega) (by omega) (fun x hx => by
        rw [wA_e]
        by_cases z : x = i
        · subst z; rw [pk_us]
        · rw [pk_un (by omega)]; exact hm x (by omega))
      refine ⟨T1, ⟨e1, fun a ha => (e2 a ha).trans (wA_n ha), fun j hj => (e3 j hj).trans (by rw [wA_e, pk_un (by omega)])⟩, m1, fun kk => ?_⟩
      have lit : ∀ v : Nat, v < 12 → (nI i = nI v) = (i = v) := fun v hv => propext ⟨fun z => nI_inj (by omega) (by omega) z, fun z => by rw [z]⟩
      rw [l_X12_draw_91, if_pos (show nI i < 12 from nI_lt (b := 12) c (by decide))]
      simp only [show (4 : Int32) = nI 4 from rfl, show (5 : Int32) = nI 5 from rfl, show (6 : Int32) = nI 6 from rfl, show (7 : Int32) = nI 7 from rfl, lit 4 (by decide), lit 5 (by decide), lit 6 (by decide), lit 7 (by decide), writes_g hP c, fb_s, nI_1]
      rw [← g1 kk]
      by_cases z4 : i = 4
      · rw [if_pos z4, if_pos (by omega)]
      · rw [if_neg z4]
        by_cases z5 : i = 5
        · rw [if_pos z5, if_pos (by omega)]
        · rw [if_neg z5]
          by_cases z6 : i = 6
          · rw [if_pos z6, if_pos (by omega)]
          · rw [if_neg z6]
            by_cases z7 : i = 7
            · rw [if_pos z7, if_pos (by omega)]
            · rw [if_neg z7, if_neg (by omega)]
    · have ei : i = 12 := by omega
      subst ei
      refine ⟨T, ⟨rfl, fun _ _ => rfl, fun _ _ => rfl⟩, hm, fun kk => ?_⟩
      rw [l_X12_draw_91, if_neg (by decide)]
theorem op_draw (h : RelR K S (T.2 55)) : OK2 S T (f_X11_draw S za zb zc) (f_X12_draw T za zb zc) := by
  unfold f_X11_draw f_X12_draw
  simp only [fb_id]
  obtain ⟨k1, k2, c2⟩ := h.ct 6 2 20 (by decide)
  obtain ⟨e1, e2, c5⟩ := h.ct 14 5 40 (by decide)
  have c0 := (h.ct 2 0 10 (by decide)).2.2
  rcases h.per za with ⟨a1, m1⟩ | ⟨p, hp, rfl, a1, m1⟩
  · simp only [a1, m1, ↓reduceIte]; exact ok_1 h
  · have p20 : p < 20 := by omega
    rcases out_c zb 0 4 with ⟨b1, b2⟩ | ⟨b1, b2⟩
    · rcases out_c zc 0 999 with ⟨b3, b4⟩ | ⟨b3, b4⟩
      · rcases h.liv hp with ⟨l1, l2, l3⟩ | ⟨l1, l2, l5, l3, l4⟩
        · rcases h.town_of hp l1 with ⟨t1, t2⟩ | ⟨c, hc, t1, t3, t2⟩
          · simp only [a1, m1, b1, b2, b3, b4, l3, fb_s, i10, man_4 p20, t2, t1, ltm1, ↓reduceIte]; exact ok_3 h
          · simp only [a1, m1, b1, b2, b3, b4, l3, fb_s, i10, man_4 p20, t2, t1, nI_pos (show c < 2 ^ 31 by omega), fv_s, e2, ↓reduceIte]
            by_cases z : K 5 = 40
            · rw [fFull_t e1 (by omega) (by omega), if_neg (by decide), if_pos (by rw [z]; rfl)]; exact ok_4 h
            · rw [fFull_f e1 (by omega) (by decide), if_pos rfl, if_neg (fun q => z (nI_inj (by omega) (by decide) (q.trans (show (40 : Int32) = nI 40 from rfl))))]
              have e40 : K 5 < 40 := by omega
              unfold f_X3_write
              rw [fApp_f e1 e40 (by decide), g6_4 p20, t3]
              generalize hS0 : (ui S.1 14 (nI (K 5 + 1)), ua S.2 (14 + 1) (pm_apf 12 (K 5) (nI p) (S.2 (14 + 1)))) = S0
              have s0a : S0.1 = ui S.1 14 (nI (K 5 + 1)) := by rw [← hS0]
              have s0b : S0.2 15 = pm_apf 12 (K 5) (nI p) (S.2 15) := by
                rw [← hS0]
                show ua S.2 15 (pm_apf 12 (K 5) (nI p) (S.2 15)) 15 = _
                rw [ua_eq]
              have cq0 : CQ [15] 14 S S0 := by rw [← hS0]; exact CQ.rf.app (by decide) (by decide) (by decide) (by decide)
              simp only [fv_s, fl_s, fb_s, s14_1 e40, s14_2 e40, s14_3 e40, s14_5 e40, s14_6 e40, s14_8 e40, s14_9 e40, s14_10 e40]
              obtain ⟨T1, ⟨f1, f2, f3⟩, f4, f5⟩ := draw_l e40 FU 0 (wA T 55 5 (nI (K 5) + 1)) (Nat.zero_le _) (FU_lt (by omega)) (fun _ z => absurd z (Nat.not_lt_zero _))
              rw [show ∀ kk, l_X12_draw_91 (nI (K 5)) kk FU (wA T 55 5 (nI (K 5) + 1)) 0 = kk T1 (nI 12) from f5]
              have m4 : ∀ v0 v1 v2 : Int32, upd (upd (upd (T1.2 55) (12 * K 5 + 1290) v0) (12 * K 5 + 1291) v1) (12 * K 5 + 1292) v2 (14 * p + 114) = nI c := fun v0 v1 v2 => by
                simp (disch := omega) only [pk_un]; rw [f3 _ (by omega), wA_e, pk_un (by omega), t1]
              have m4' : ∀ v0 v1 v2 v3 : Int32, upd (upd (upd (upd (T1.2 55) (12 * K 5 + 1290) v0) (12 * K 5 + 1291) v1) (12 * K 5 + 1292) v2) (12 * K 5 + 1300) v3 (14 * p + 114) = nI c := fun v0 v1 v2 v3 => by
                simp (disch := omega) only [pk_un]; rw [f3 _ (by omega), wA_e, pk_un (by omega), t1]
              simp only [fb_s, writes_0 e40, writes_1 e40, writes_2 e40, writes_10 e40, man_4 p20, wA_e, m4, m4']
              obtain ⟨v, v1, v2⟩ := h.those (nI c) (S' := wA (wA (wA S0 15 (12 * K 5 + 1) zb) 15 (12 * K 5 + 2) zc) 15 (12 * K 5 + 3) (nI c)) (T' := wA (wA (wA (wA T1 55 (12 * K 5 + 1290) (nI p)) 55 (12 * K 5 + 1291) zb) 55 (12 * K 5 + 1292) zc) 55 (12 * K 5 + 1300) (nI c)) (by show S0.1 6 = S.1 6; rw [s0a]; rfl) (by show S0.2 7 = S.2 7; exact cq0.2.2 7 (by decide) (by decide)) (fun j hj => by
                simp only [wA_e]; simp (disch := omega) only [pk_un]; rw [f3 _ (by omega), wA_e, pk_un (by omega)])
              rw [v1, v2]
              simp only [fb_s, writes_9 e40]
              refine okt (K := kU K 5 (K 5 + 1)) ?_ ((((((((cq0.wA (by decide) (by decide)).wA (by decide) (by decide)).wA (by decide) (by decide)).wA (by decide) (by decide)).wA (by decide) (by decide)).wA (by decide) (by decide)).wA (by decide) (by decide)).wA (by decide) (by decide)).1 ⟨⟨f2 56 (by decide), f2 69 (by decide), f2 70 (by decide), f2 71 (by decide), f2 72 (by decide)⟩, by show T1.1 22 = _; rw [f1]; rfl, by show T1.1 3 = _; rw [f1]; rfl⟩
              simp only [wA_e]
              generalize hn' : upd (upd (upd (upd (upd (T1.2 55) (12 * K 5 + 1290) (nI p)) (12 * K 5 + 1291) zb) (12 * K 5 + 1292) zc) (12 * K 5 + 1300) (nI c)) (12 * K 5 + 1299) v = n'
              have no : ∀ j : Nat, ¬ (12 * K 5 + 1290 ≤ j ∧ j < 12 * K 5 + 1302) → j ≠ 5 → n' j = T.2 55 j := fun j hj j2 => by
                rw [← hn']
                simp (disch := omega) only [pk_un]
                rw [f3 j hj, wA_e, pk_un j2]
              refine h.onE_5 ((((((((cq0.wA (by decide) (by decide)).wA (by decide) (by decide)).wA (by decide) (by decide)).wA (by decide) (by decide)).wA (by decide) (by decide)).wA (by decide) (by decide)).wA (by decide) (by decide)).wA (by decide) (by decide)) (fun j h1 h2 h3 => no j (by omega) h3) (fun i hi => kU_n hi) (by rw [kU_e]; omega) ?_ (onct 14 5 40 (by decide) ?_ ?_ (by rw [kU_e]; omega)) ?_
              · rw [no 9 (by omega) (by decide)]; show S0.1 103 = _; rw [s0a]; exact h.1.2
              · rw [kU_e]; show S0.1 14 = _; rw [s0a]; rfl
              · rw [kU_e, ← hn']; simp (disch := omega) only [pk_un]; rw [f3 _ (by omega), wA_e, pk_us, nI_1]
              · simp only [wA_e]
                intro q hq
                rw [kU_e] at hq
                rw [kU_n (show (2 : Nat) ≠ 5 by decide), kU_n (show (0 : Nat) ≠ 5 by decide)]
                by_cases e : q = K 5
                · subst e
                  rw [← hn', s0b]
                  simp (disch := omega) only [pk_us, pk_un, apf_0, apf_c]
                  rw [show T1.2 55 (12 * K 5 + 1293) = 0 from f4 3 (by decide), show T1.2 55 (12 * K 5 + 1294) = -1 from f4 4 (by decide), show T1.2 55 (12 * K 5 + 1295) = -1 from f4 5 (by decide), show T1.2 55 (12 * K 5 + 1296) = -1 from f4 6 (by decide), show T1.2 55 (12 * K 5 + 1297) = -1 from f4 7 (by decide), show T1.2 55 (12 * K 5 + 1298) = 0 from f4 8 (by decide)]
                  obtain ⟨kb, hkb, ekb⟩ := out_n 0 4 rfl rfl (by decide) (by decide) b1
                  obtain ⟨kc, hkc, ekc⟩ := out_n 0 999 rfl rfl (by decide) (by decide) b3
                  exact ⟨⟨trivial, trivial, trivial, rfl, rfl⟩, ⟨rfl, rfl, rfl, rfl, trivial⟩, fun _ => trivial, fun z => absurd rfl z, ⟨Or.inl rfl, ⟨c, hc, rfl⟩, ⟨kb, hkb.2, ekb⟩, ⟨kc, hkc.2, ekc⟩, ⟨0, by decide, rfl⟩⟩, fun z => absurd (by decide) z⟩
                · have hh := h.le q (by omega)
                  rw [s0b]
                  simp (disch := omega) only [pk_un, apf_o, no]; exact hh
        · unfold p_X7_isInTown
          simp only [a1, m1, b1, b2, b3, b4, l3, l4, fb_s, i10, ↓reduceIte]; exact ok_3 h
      · simp only [a1, m1, b1, b2, b3, b4, i10, ↓reduceIte]; exact ok_1 h
    · simp only [a1, m1, b1, b2, i10, ↓reduceIte]; exact ok_1 h
theorem op_found (h : RelR K S (T.2 55)) : OK1 S T (f_X11_found S za) (f_X12_found T za) := by
  unfold f_X11_found f_X12_found
  simp only [fb_id]
  rcases out_c za 1 5 with ⟨b1, b2⟩ | ⟨b1, b2⟩
  · obtain ⟨k, hk, rfl⟩ := out_n 1 5 rfl rfl (by decide) (by decide) b1
    have z1 : ¬ nI k < 1 := nI_nlt (b := 1) (by omega) (by omega)
    have z2 : ¬ 5 < nI k := nI_nlt (a := 5) (by omega) (by decide)
    have z3 : nI k < 6 := nI_lt (b := 6) (by omega) (by decide)
    simp only [b2, i10, z1, z2, z3, ↓reduceIte, ix_nI (show k < 6 by omega) (by decide), fb_s]
    exact ⟨_, _, S, T, rfl, rfl, ⟨K, h⟩, CX.rf, MX.rf⟩
  · rw [if_pos (b2 T)]
    have : za < 1 ∨ 5 < za := by
      apply Classical.byContradiction
      intro q
      unfold fOut at b1
      rw [if_neg q] at b1
      exact absurd b1 (by decide)
    by_cases z1 : za < 1
    · rw [if_pos z1]; exact (ok_1 h).one
    · rw [if_neg z1, if_pos (this.resolve_left z1)]; exact (ok_1 h).one
end OPK
end
section
/-! ===== pure: promise, check, count ===== -/
section OPK2
variable {K : Nat → Nat} {S T : FS} {za zb zc zd : Int32}
theorem prom_loop {p : Nat} {z : Int32} (hp : p < 20) : ∀ (m i : Nat) (S0 T0 S T : FS), i ≤ K 7 → K 7 - i < m → PQ K S T → FC S0 S → FR T0 T → (∀ k : Nat, k < i → T.2 55 (6 * k + 1806) = nI p → T.2 55 (6 * k + 1807) = z → T.2 55 (6 * k + 1811) = 1) →
    ∃ S' T' : FS, PQ K S' T' ∧ FC S0 S' ∧ FR T0 T' ∧ (∀ k : Nat, k < K 7 → T'.2 55 (6 * k + 1806) = nI p → T'.2 55 (6 * k + 1807) = z → T'.2 55 (6 * k + 1811) = 1) ∧ (∀ k : Nat, k < K 7 → S'.2 19 (5 * k + 4) = 0 → S.2 19 (5 * k + 4) = 0) ∧ (∀ k, l_X0_addPromise_12 (nI p) z (nI (K 7)) k m S (nI i) = k S' (nI (K 7))) ∧ ∀ k, l_X12_promise_81 (nI p) z (nI (K 7)) k m T (nI i) = k T' (nI (K 7)) := by
  intro m
  induction m with
  | zero => intro i S0 T0 S T hi hm; exact absurd hm (Nat.not_lt_zero _)
  | succ m ih =>
    intro i S0 T0 S T hi hm hq fc fr hd
    obtain ⟨c7, c8, a1, a2, a3, a4, hr⟩ := id hq
    by_cases ci : i < K 7
    · obtain ⟨i30, hs⟩ := hq.stn ci
      have e0 : S.2 19 (5 * i) = T.2 55 (6 * i + 1806) := (hr i ci).1.1
      have e1 : S.2 19 (5 * i + 1) = T.2 55 (6 * i + 1807) := (hr i ci).1.2.1
      have lt := nI_lt ci (show K 7 < 2 ^ 31 by omega)
      by_cases cp : T.2 55 (6 * i + 1806) = nI p
      · by_cases cz : T.2 55 (6 * i + 1807) = z
        · rcases hs with ⟨s1, s2, s3, s4, s5, s6⟩ | ⟨s1, s2, s3⟩
          · obtain ⟨S', T', r1, r2, r3, r0, r4, r5, r6⟩ := ih (i + 1) S0 T0 _ _ (by omega) (by omega) (hq.lap ci s4) fc.w (fr.w i30 (Or.inr rfl)) (by
              intro k hk q1 q2
              rw [wA_e] at q1 q2 ⊢
              by_cases e : k = i
              · subst e; rw [pk_us]
              · rw [pk_un (by omega)] at q1 q2 ⊢; exact hd k (by omega) q1 q2)
            refine ⟨S', T', r1, r2, r3, r0, fun k hk y => ?_, fun k => ?_, fun k => ?_⟩
            · have y1 := r4 k hk y
              rw [wA_e] at y1
              by_cases e : k = i
              · subst e; rw [pk_us] at y1; exact absurd y1 (by decide)
              · rw [pk_un (by omega)] at y1; exact y1
            · rw [l_X0_addPromise_12]
              simp only [lt, s1, i10, g18_0 i30, g18_1 i30, e0, e1, cp, cz, fl_s, s18_4 i30, nI_1, ↓reduceIte]; exact r5 k
            · rw [l_X12_promise_81]
              simp only [lt, promised_0 i30, promised_1 i30, fb_s, cp, cz, ixQ_5 i30, fl_s, nI_1, ↓reduceIte]; exact r6 k
          · obtain ⟨S', T', r1, r2, r3, r0, r4, r5, r6⟩ := ih (i + 1) S0 T0 _ _ (by omega) (by omega) (hq.lap2 ci s3) fc (fr.w i30 (Or.inr rfl)) (by
              intro k hk q1 q2
              rw [wA_e] at q1 q2 ⊢
              by_cases e : k = i
              · subst e; rw [pk_us]
              · rw [pk_un (by omega)] at q1 q2 ⊢; exact hd k (by omega) q1 q2)
            refine ⟨S', T', r1, r2, r3, r0, r4, fun k => ?_, fun k => ?_⟩
            · rw [l_X0_addPromise_12]
              simp only [lt, s1, nI_1, ↓reduceIte]; exact r5 k
            · rw [l_X12_promise_81]
              simp only [lt, promised_0 i30, promised_1 i30, fb_s, cp, cz, ixQ_5 i30, fl_s, nI_1, ↓reduceIte]; exact r6 k
        · obtain ⟨S', T', r1, r2, r3, r0, r4, r5, r6⟩ := ih (i + 1) S0 T0 _ _ (by omega) (by omega) hq fc fr (fun k hk q1 q2 => by
            by_cases e : k = i
            · subst e; exact absurd q2 cz
            · exact hd k (by omega) q1 q2)
          refine ⟨S', T', r1, r2, r3, r0, r4, fun k => ?_, fun k => ?_⟩
          · rw [l_X0_addPromise_12]
            rcases hs with ⟨s1, -⟩ | ⟨s1, -⟩
            · simp only [lt, s1, i10, g18_0 i30, g18_1 i30, e0, e1, cp, cz, nI_1, ↓reduceIte]; exact r5 k
            · simp only [lt, s1, nI_1, ↓reduceIte]; exact r5 k
          · rw [l_X12_promise_81]
            simp only [lt, promised_0 i30, promised_1 i30, fb_s, cp, cz, nI_1, ↓reduceIte]; exact r6 k
      · obtain ⟨S', T', r1, r2, r3, r0, r4, r5, r6⟩ := ih (i + 1) S0 T0 _ _ (by omega) (by omega) hq fc fr (fun k hk q1 q2 => by
          by_cases e : k = i
          · subst e; exact absurd q1 cp
          · exact hd k (by omega) q1 q2)
        refine ⟨S', T', r1, r2, r3, r0, r4, fun k => ?_, fun k => ?_⟩
        · rw [l_X0_addPromise_12]
          rcases hs with ⟨s1, -⟩ | ⟨s1, -⟩
          · simp only [lt, s1, i10, g18_0 i30, e0, cp, nI_1, ↓reduceIte]; exact r5 k
          · simp only [lt, s1, nI_1, ↓reduceIte]; exact r5 k
        · rw [l_X12_promise_81]
          simp only [lt, promised_0 i30, fb_s, cp, nI_1, ↓reduceIte]; exact r6 k
    · have ei : i = K 7 := by omega
      subst ei
      refine ⟨S, T, hq, fc, fr, hd, fun k hk y => y, fun k => ?_, fun k => ?_⟩
      · rw [l_X0_addPromise_12, if_neg (nI_nlt (Nat.le_refl _) (by omega))]
      · rw [l_X12_promise_81, if_neg (nI_nlt (Nat.le_refl _) (by omega))]
theorem op_promise (h : RelR K S (T.2 55)) : OK2 S T (f_X11_promise S za zb zc zd) (f_X12_promise T za zb zc zd) := by
  unfold f_X11_promise f_X12_promise
  simp only [fb_id]
  have c2 := (h.ct 6 2 20 (by decide)).2.2
  obtain ⟨k1, k2, c7⟩ := h.ct 18 7 30 (by decide)
  obtain ⟨d1, d2, d3⟩ := h.ct 102 8 2000 (by decide)
  rcases h.per za with ⟨a1, m1⟩ | ⟨p, hp, rfl, a1, m1⟩
  · simp only [a1, m1, ↓reduceIte]; exact ok_1 h
  · have p20 : p < 20 := by omega
    rcases out_c zb 0 5 with ⟨b1, b2⟩ | ⟨b1, b2⟩
    · rcases out_c zc (nI (K 8)) 2000 with ⟨b3, b4⟩ | ⟨b3, b4⟩
      · have e13 := (h.pe p hp).2.1.2.2.2.2
        obtain ⟨v, hv, ev⟩ := (h.pe p hp).2.2.2.2.2.2.1
        simp only [a1, m1, b1, b2, d1, d2, b3, b4, i10, g6_13 p20, e13, man_11 p20, fb_s, fv_s, k2, ↓reduceIte]
        rcases (show v = 0 ∨ v = 1 by omega) with rfl | rfl
        · simp only [ev, show (nI 0 = 0) = True from eq_true rfl, ↓reduceIte]; exact ok_3 h
        · simp only [ev, show (nI 1 = 0) = False from eq_false (by decide), ↓reduceIte]
          by_cases z : K 7 = 30
          · rw [fFull_t k1 (by omega) (by omega), if_neg (by decide), if_pos (by rw [z]; rfl)]; exact ok_4 h
          · rw [fFull_f k1 (by omega) (by decide), if_pos rfl, if_neg (fun q => z (nI_inj (by omega) (by decide) (q.trans (show (30 : Int32) = nI 30 from rfl))))]
            have q30 : K 7 < 30 := by omega
            obtain ⟨S1, T1, r1, r2, r3, r0, r4, r5, r6⟩ := prom_loop (K := K) (z := zb) p20 FU 0 S T S T (Nat.zero_le _) (FU_lt (by omega)) (PQ.of h) ⟨CQ.rf, rfl⟩ FR.rf (fun k hk => absurd hk (Nat.not_lt_zero _))
            unfold f_X0_addPromise
            rw [fv_s, k1, show ∀ k, l_X0_addPromise_12 (nI p) zb (nI (K 7)) k FU S 0 = k S1 (nI (K 7)) from r5, show ∀ k, l_X12_promise_81 (nI p) zb (nI (K 7)) k FU T 0 = k T1 (nI (K 7)) from r6]
            have k1' : S1.1 18 = nI (K 7) := r1.2.2.1
            have k2' : T1.2 55 7 = nI (K 7) := r1.2.2.2.2.1
            rw [fApp_f k1' q30 (by decide), k2']
            simp only [fb_s, fl_s, s18_1 q30, s18_2 q30, s18_3 q30, s18_4 q30, ixQ_0 q30, ixQ_1 q30, ixQ_2 q30, ixQ_3 q30, ixQ_4 q30, ixQ_5 q30, nI_1]
            have wr : ∀ w : Int32, (if zd = 0 then (0 : Int32) else 1) = w → OK2 S T (f_X11_told (wA (wA (wA (wA (ui S1.1 18 (nI (K 7 + 1)), ua S1.2 (18 + 1) (pm_apf 5 (K 7) (nI p) (S1.2 (18 + 1)))) 19 (5 * K 7 + 1) zb) 19 (5 * K 7 + 2) zc) 19 (5 * K 7 + 3) w) 19 (5 * K 7 + 4) 0) (nI (K 7))) (some (nI (K 7), wA (wA (wA (wA (wA (wA (wA T1 55 7 (nI (K 7 + 1))) 55 (6 * K 7 + 1806) (nI p)) 55 (6 * K 7 + 1807) zb) 55 (6 * K 7 + 1808) zc) 55 (6 * K 7 + 1809) w) 55 (6 * K 7 + 1810) 0) 55 (6 * K 7 + 1811) 0)) := by
              intro w hw
              have nw : nB 1 w := by
                rw [← hw]
                by_cases z0 : zd = 0
                · rw [if_pos z0]; exact ⟨0, by decide, rfl⟩
                · rw [if_neg z0]; exact ⟨1, by decide, rfl⟩
              have fc' : CQ [19] 18 S S1 := ⟨r2.1.1, fun k hk h3 h4 => by rw [r2.2], r2.1.2.2⟩
              have f19 : ua S1.2 (18 + 1) (pm_apf 5 (K 7) (nI p) (S1.2 (18 + 1))) 19 = pm_apf 5 (K 7) (nI p) (S1.2 19) := ua_eq
              have cq := ((((fc'.app (a := 19) (v := nI (K 7 + 1)) (g := pm_apf 5 (K 7) (nI p) (S1.2 19)) (by decide) (by decide) (by decide) (by decide)).wA (a := 19) (j := 5 * K 7 + 1) (v := zb) (by decide) (by decide)).wA (a := 19) (j := 5 * K 7 + 2) (v := zc) (by decide) (by decide)).wA (a := 19) (j := 5 * K 7 + 3) (v := w) (by decide) (by decide)).wA (a := 19) (j := 5 * K 7 + 4) (v := 0) (by decide) (by decide)
              refine okt (K := kU K 7 (K 7 + 1)) ?_ cq.1 (MX.tr r3.2.1 ⟨⟨rfl, rfl, rfl, rfl, rfl⟩, rfl, rfl⟩)
              simp only [wA_e]
              generalize hn' : upd (upd (upd (upd (upd (upd (upd (T1.2 55) 7 (nI (K 7 + 1))) (6 * K 7 + 1806) (nI p)) (6 * K 7 + 1807) zb) (6 * K 7 + 1808) zc) (6 * K 7 + 1809) w) (6 * K 7 + 1810) 0) (6 * K 7 + 1811) 0 = n'
              have no : ∀ j : Nat, ¬ (6 * K 7 + 1806 ≤ j ∧ j < 6 * K 7 + 1812) → j ≠ 7 → n' j = T1.2 55 j := fun j hj j2 => by
                rw [← hn']; simp (disch := omega) only [pk_un]
              refine h.onQ_7 cq (fun j h1 h2 h3 => (no j (by omega) h3).trans (r3.1 j h1 h2 h2)) (fun i hi => kU_n hi) (by rw [kU_e]; omega) ?_ (onct 18 7 30 (by decide) ?_ ?_ (by rw [kU_e]; omega)) ?_ ?_
              · rw [no 9 (by omega) (by decide), r3.2.2.2.1]; show S1.1 103 = _; rw [r2.2]; exact h.1.2
              · rw [kU_e]; rfl
              · rw [kU_e, ← hn']; simp (disch := omega) only [pk_un, pk_us]
              · simp only [wA_e]
                rw [f19]
                intro q hq
                rw [kU_e] at hq
                rw [kU_n (show (2 : Nat) ≠ 7 by decide), kU_n (show (8 : Nat) ≠ 7 by decide)]
                by_cases e : q = K 7
                · subst e
                  rw [← hn']
                  simp (disch := omega) only [pk_us, pk_un, apf_0]
                  obtain ⟨kc, hkc, ekc⟩ := out_n (K 8) 2000 rfl rfl (by omega) (by decide) b3
                  exact ⟨⟨trivial, trivial, trivial, trivial⟩, ⟨fun z => absurd z (by decide), fun z => absurd z (by decide)⟩, fun _ => ⟨fun _ => ⟨trivial, trivial⟩, fun _ => trivial⟩, ⟨p, hp, rfl⟩, ⟨kc, hkc.2, ekc⟩, nw, ⟨0, by decide, rfl⟩, ⟨0, by decide, rfl⟩⟩
                · have hh := r1.2.2.2.2.2.2 q (by omega)
                  simp (disch := omega) only [pk_un, apf_o, no]; exact hh
              · simp only [wA_e]
                rw [f19]
                have hu : RPu (kU K 7 (K 7 + 1)) n' := by
                  intro j k hj hk e1 e2
                  rw [kU_e] at hk
                  rw [no (6 * j + 1806) (by omega) (by omega)] at e1
                  rw [no (6 * j + 1807) (by omega) (by omega)] at e2
                  rw [no _ (by omega) (by omega)]
                  by_cases e : k = K 7
                  · subst e
                    have g1 : n' (6 * K 7 + 1806) = nI p := by rw [← hn']; simp (disch := omega) only [pk_un, pk_us]
                    have g2 : n' (6 * K 7 + 1807) = zb := by rw [← hn']; simp (disch := omega) only [pk_un, pk_us]
                    exact r0 j hj (e1.trans g1) (e2.trans g2)
                  · rw [no _ (by omega) (by omega)] at e1 e2
                    have f := r3.2.2.1
                    rw [(f j (by omega)).1, (f k (by omega)).1] at e1
                    rw [(f j (by omega)).2.1, (f k (by omega)).2.1] at e2
                    exact r3.2.2.2.2 j (by omega) (h.ps.2 j k hj (by omega) e1 e2)
                refine ⟨?_, hu⟩
                intro q hq
                rw [kU_e] at hq
                rw [kU_n (show (2 : Nat) ≠ 7 by decide), kU_n (show (8 : Nat) ≠ 7 by decide)]
                have sq : ∀ x : Nat, x < K 2 → n' (14 * x + 121) = T.2 55 (14 * x + 121) := fun x hx => (no _ (by omega) (by omega)).trans (r3.1 _ (by omega) (by omega) (by omega))
                by_cases e : q = K 7
                · subst e
                  intro _ _
                  refine ⟨p, hp, ?_, by rw [sq p hp, ev]; rfl⟩
                  rw [← hn']; simp (disch := omega) only [pk_un, pk_us]
                · simp (disch := omega) only [pk_un, apf_o]
                  intro z1 z2
                  rw [no _ (by omega) (by omega)] at z2
                  have y1 := r4 q (by omega) z1
                  obtain ⟨t1, t2, t3⟩ := r3.2.2.1 q (by omega)
                  rw [t3] at z2
                  obtain ⟨x, x1, x2, x3⟩ := h.ps.1 q (by omega) y1 z2
                  exact ⟨x, x1, by rw [no _ (by omega) (by omega), t1]; exact x2, by rw [sq x x1]; exact x3⟩
            by_cases z0 : zd = 0
            · simp only [z0, ↓reduceIte, fb_s]; exact wr 0 (by rw [if_pos z0])
            · simp only [z0, ↓reduceIte, fb_s]; exact wr 1 (by rw [if_neg z0])
      · simp only [a1, m1, b1, b2, d1, d2, b3, b4, i10, ↓reduceIte]; exact ok_1 h
    · simp only [a1, m1, b1, b2, i10, ↓reduceIte]; exact ok_1 h
theorem check_l (h : RelR K S (T.2 55)) : ∀ (m i : Nat), i ≤ K 11 → K 11 - i < m → ∃ v : Int32, (∀ S' : FS, S'.1 6 = S.1 6 → S'.1 103 = S.1 103 → S'.2 7 = S.2 7 → S'.2 23 = S.2 23 → ∃ j : Int32, ∀ k, l_X11_check_15 (nI (K 11)) k m S' 0 (nI i) = k S' v j) ∧ ∀ T' : FS, (∀ j : Nat, j ≠ 11 → T'.2 55 j = T.2 55 j) → l_X12_check_18 (nI (K 11)) (fun S13 x13_2 => some (0, S13)) m T' (nI i) = some (v, T') := by
  obtain ⟨w1, w2, c11⟩ := h.ct 22 11 20 (by decide)
  obtain ⟨k1, k2, c2⟩ := h.ct 6 2 20 (by decide)
  intro m
  induction m with
  | zero => intro i _ hm; exact absurd hm (Nat.not_lt_zero _)
  | succ m ih =>
    intro i hi hm
    by_cases c : i < K 11
    · have i20 : i < 20 := by omega
      have lt := nI_lt c (show K 11 < 2 ^ 31 by omega)
      have ew := h.wt i c
      have ixw : ix 2071 (2051 + nI i) = some (i + 2051) := by
        rw [show (2051 : Int32) = nI 2051 from rfl, nI_add, Nat.add_comm]; exact ix_nI (by omega) (by decide)
      -- what the class compares
      have one : nI i + 1 = nI (i + 1) := nI_1 i
      have one' : 1 + nI i = nI (i + 1) := by rw [show (1 : Int32) = nI 1 from rfl, nI_add, Nat.add_comm]
      by_cases cm : (i < K 2 ∧ T.2 55 (14 * i + 117) = T.2 55 (i + 2051)) ∨ (i = K 2 ∧ T.2 55 9 = T.2 55 (i + 2051))
      · obtain ⟨v, v1, v2⟩ := ih (i + 1) (by omega) (by omega)
        refine ⟨v, fun S' s6 s3 s7 s23 => ?_, fun T' tn => ?_⟩
        · obtain ⟨j, hj⟩ := v1 S' s6 s3 s7 s23
          refine ⟨j, fun k => ?_⟩
          have ic : p_X7_isCoinOf S' (nI i) (fG 22 20 1 S' (nI i) 0) = 1 := by
            unfold p_X7_isCoinOf
            rw [g22_0 i20, s23, ew]
            rcases cm with ⟨q1, q2⟩ | ⟨q1, q2⟩
            · rw [fHas_t (s6.trans k1) q1 (by omega), if_neg (by decide), g6_7 i20, s7, (h.pe i q1).2.1.1, if_pos q2]
            · rw [fHas_f (s6.trans k1) (Or.inr (by rw [q1]; exact Int32.le_refl _)), if_pos rfl, s6, k1, if_pos (by rw [q1]), s3, h.1.2, if_pos q2]
          rw [l_X11_check_15, if_pos lt, if_pos rfl, ic, if_neg (by decide), one]; exact hj k
        · rw [l_X12_check_18, if_pos lt, tn 2 (by decide), k2]
          rcases cm with ⟨q1, q2⟩ | ⟨q1, q2⟩
          · rw [if_pos (nI_lt q1 (by omega)), ixw, fb_s, man_7 i20, fb_s, tn _ (by omega), tn _ (by omega), if_pos q2.symm, one]; exact v2 T' tn
          · rw [if_neg (nI_nlt (by omega) (by omega)), if_pos (by rw [q1]), ixw, fb_s, tn _ (by omega), tn _ (by omega), if_pos q2.symm, one]; exact v2 T' tn
      · refine ⟨nI (i + 1), fun S' s6 s3 s7 s23 => ⟨nI (i + 1), fun k => ?_⟩, fun T' tn => ?_⟩
        · have ic : p_X7_isCoinOf S' (nI i) (fG 22 20 1 S' (nI i) 0) = 0 := by
            unfold p_X7_isCoinOf
            rw [g22_0 i20, s23, ew]
            by_cases q1 : i < K 2
            · rw [fHas_t (s6.trans k1) q1 (by omega), if_neg (by decide), g6_7 i20, s7, (h.pe i q1).2.1.1, if_neg (fun z => cm (Or.inl ⟨q1, z⟩))]
            · rw [fHas_f (s6.trans k1) (Or.inr (nI_le (by omega) (by omega))), if_pos rfl, s6, k1]
              by_cases q2 : i = K 2
              · rw [if_pos (by rw [q2]), s3, h.1.2, if_neg (fun z => cm (Or.inr ⟨q2, z⟩))]
              · rw [if_neg (fun z => q2 (nI_inj (by omega) (by omega) z))]
          rw [l_X11_check_15, if_pos lt, if_pos rfl, ic, if_pos rfl, one, fv_s]
          obtain ⟨m', rfl⟩ : ∃ m' : Nat, m = m' + 1 := ⟨m - 1, by omega⟩
          rw [l_X11_check_15]
          have ne : ¬ nI (i + 1) = 0 := nI_ne0 (by omega) (by omega)
          simp only [ne, ↓reduceIte, ite_self]
        · rw [l_X12_check_18, if_pos lt, tn 2 (by decide), k2]
          by_cases q1 : i < K 2
          · rw [if_pos (nI_lt q1 (by omega)), ixw, fb_s, man_7 i20, fb_s, tn _ (by omega), tn _ (by omega), if_neg (fun z => cm (Or.inl ⟨q1, z.symm⟩)), one']
          · rw [if_neg (nI_nlt (by omega) (by omega))]
            by_cases q2 : i = K 2
            · rw [if_pos (by rw [q2]), ixw, fb_s, tn _ (by omega), tn _ (by omega), if_neg (fun z => cm (Or.inr ⟨q2, z.symm⟩)), one']
            · rw [if_neg (fun z => q2 (nI_inj (by omega) (by omega) z)), one']
    · have ei : i = K 11 := by omega
      subst ei
      refine ⟨0, fun S' _ _ _ _ => ⟨nI (K 11), fun k => ?_⟩, fun T' _ => ?_⟩
      · rw [l_X11_check_15, if_neg (nI_nlt (Nat.le_refl _) (by omega))]
      · rw [l_X12_check_18, if_neg (nI_nlt (Nat.le_refl _) (by omega))]
theorem op_check (h : RelR K S (T.2 55)) : OK2 S T (f_X11_check S) (f_X12_check T) := by
  unfold f_X11_check f_X12_check
  obtain ⟨w1, w2, c11⟩ := h.ct 22 11 20 (by decide)
  simp only [fv_s, fl_s, w1, w2]
  obtain ⟨v, v1, v2⟩ := check_l h FU 0 (Nat.zero_le _) (FU_lt (by omega))
  obtain ⟨j, hj⟩ := v1 S rfl rfl rfl rfl
  rw [show ∀ k, l_X11_check_15 (nI (K 11)) k FU S 0 0 = k S v j from hj, show l_X12_check_18 (nI (K 11)) (fun S13 x13_2 => some (0, S13)) FU (wA T 55 11 0) 0 = _ from v2 (wA T 55 11 0) (fun q hq => by rw [wA_e, pk_un hq])]
  refine ok0 (K := kU K 11 0) ?_ ⟨⟨rfl, rfl, rfl, rfl⟩, rfl, rfl⟩ ⟨⟨rfl, rfl, rfl, rfl, rfl⟩, rfl, rfl⟩
  rw [wA_e]
  refine h.onX_11z (CQ.rf.wI (Or.inr rfl) (by decide) (by decide)) (NQ.rf.w (Or.inr (Or.inr rfl))) (fun i hi => kU_n hi) ?_ (onct 22 11 20 (by decide) (by rw [kU_e]; rfl) (by rw [kU_e, pk_us]; rfl) (by rw [kU_e]; omega)) (fun j hj => by rw [kU_e] at hj; exact absurd hj (Nat.not_lt_zero _))
  rw [wI_n (by decide), pk_un (by decide)]; exact h.1.2
theorem sum_l (h : RelR K S (T.2 55)) {k : FS → Int32 → Int32 → Option (Int32 × FS)} : ∀ (m i : Nat), i ≤ K 2 → K 2 - i < m → l_X12_count_107 k m T (pm_sum (S.2 7) 14 7 i) (nI i) = k T (pm_sum (S.2 7) 14 7 (K 2)) (nI (K 2)) := by
  obtain ⟨k1, k2, c2⟩ := h.ct 6 2 20 (by decide)
  intro m
  induction m with
  | zero => intro i _ hm; exact absurd hm (Nat.not_lt_zero _)
  | succ m ih =>
    intro i hi hm
    rw [l_X12_count_107, k2]
    by_cases c : i < K 2
    · have e := ih (i + 1) (by omega) (by omega)
      rw [show pm_sum (S.2 7) 14 7 (i + 1) = pm_sum (S.2 7) 14 7 i + S.2 7 (i * 14 + 7) from rfl, show i * 14 + 7 = 14 * i + 7 by omega, (h.pe i c).2.1.1] at e
      rw [if_pos (nI_lt c (by omega)), man_7 (by omega), fb_s, fv_s, nI_1]; exact e
    · have ei : i = K 2 := by omega
      subst ei
      rw [if_neg (nI_nlt (Nat.le_refl _) (by omega))]
theorem way_l (h : RelR K S (T.2 55)) : ∀ (m i : Nat) (x : Int32), i ≤ K 5 → K 5 - i < m → ∃ v : Int32, (∀ k, l_X3_onTheirWay_12 S (nI (K 5)) k m x (nI i) = k v (nI (K 5))) ∧ ∀ k, l_X12_count_137 k m T x (nI i) = k T v (nI (K 5)) := by
  obtain ⟨k1, k2, c5⟩ := h.ct 14 5 40 (by decide)
  obtain ⟨d1, d2, d3⟩ := h.ct 102 8 2000 (by decide)
  have c2 := (h.ct 6 2 20 (by decide)).2.2
  intro m
  induction m with
  | zero => intro i x _ hm; exact absurd hm (Nat.not_lt_zero _)
  | succ m ih =>
    intro i x hi hm
    by_cases c : i < K 5
    · have i40 : i < 40 := by omega
      have lt := nI_lt c (show K 5 < 2 ^ 31 by omega)
      obtain ⟨⟨-, -, -, -, e6⟩, ⟨e8, -⟩, -, -, ⟨ev, -⟩, -⟩ := h.le i c
      by_cases z : T.2 55 (12 * i + 1294) = -1
      · obtain ⟨v, v1, v2⟩ := ih (i + 1) x (by omega) (by omega)
        refine ⟨v, fun k => ?_, fun k => ?_⟩
        · rw [l_X3_onTheirWay_12]
          unfold p_X3_isSent
          simp only [lt, g14_6 i40, e6, z, nI_1, ↓reduceIte]; exact v1 k
        · rw [l_X12_count_137]
          simp only [k2, lt, of_4 i40, fb_s, z, ltm1, fv_s, nI_1, Int32.add_zero, ↓reduceIte]; exact v2 k
      · have nz : ¬ T.2 55 (12 * i + 1294) < 0 := fun q => z ((ev.lt (by omega)).mp q)
        by_cases y : nI (K 8) < T.2 55 (12 * i + 1295)
        · obtain ⟨v, v1, v2⟩ := ih (i + 1) (x + 1) (by omega) (by omega)
          refine ⟨v, fun k => ?_, fun k => ?_⟩
          · rw [l_X3_onTheirWay_12]
            unfold p_X3_isSent
            simp only [lt, g14_6 i40, e6, z, i10, d1, g14_8 i40, e8, y, nI_1, ↓reduceIte]; exact v1 k
          · rw [l_X12_count_137]
            simp only [k2, lt, of_4 i40, of_5 i40, fb_s, nz, d2, y, fv_s, nI_1, ↓reduceIte]; exact v2 k
        · obtain ⟨v, v1, v2⟩ := ih (i + 1) x (by omega) (by omega)
          refine ⟨v, fun k => ?_, fun k => ?_⟩
          · rw [l_X3_onTheirWay_12]
            unfold p_X3_isSent
            simp only [lt, g14_6 i40, e6, z, i10, d1, g14_8 i40, e8, y, nI_1, ↓reduceIte]; exact v1 k
          · rw [l_X12_count_137]
            simp only [k2, lt, of_4 i40, of_5 i40, fb_s, nz, d2, y, fv_s, nI_1, Int32.add_zero, ↓reduceIte]; exact v2 k
    · have ei : i = K 5 := by omega
      subst ei
      refine ⟨x, fun k => ?_, fun k => ?_⟩
      · rw [l_X3_onTheirWay_12, if_neg (nI_nlt (Nat.le_refl _) (by omega))]
      · rw [l_X12_count_137, k2, if_neg (nI_nlt (Nat.le_refl _) (by omega))]
theorem op_count (h : RelR K S (T.2 55)) (hx : RX S T) : OK2 S T (f_X11_count S za) (f_X12_count T za) := by
  unfold f_X11_count f_X12_count
  simp only [fb_id]
  have ct : ∀ (a i b : Nat), (a, i, b) ∈ ctT → S.1 a = T.2 55 i := fun a i b hm => (h.ct a i b hm).1.trans (h.ct a i b hm).2.1.symm
  obtain ⟨k1, k2, c2⟩ := h.ct 6 2 20 (by decide)
  obtain ⟨l1, l2, c5⟩ := h.ct 14 5 40 (by decide)
  by_cases z0 : za = 0
  · subst z0; simp only [↓reduceIte]; rw [show ix 2071 0 = some 0 from rfl, fb_s, ct 2 0 10 (by decide)]; exact ok0 h CX.rf MX.rf
  rw [if_neg z0, if_neg z0]
  by_cases z1 : za = 1
  · subst z1; simp only [↓reduceIte]; rw [show ix 2071 1 = some 1 from rfl, fb_s, ct 101 1 20 (by decide)]; exact ok0 h CX.rf MX.rf
  rw [if_neg z1, if_neg z1]
  by_cases z2 : za = 2
  · subst z2; simp only [↓reduceIte]; rw [show ix 2071 2 = some 2 from rfl, fb_s, ct 6 2 20 (by decide)]; exact ok0 h CX.rf MX.rf
  rw [if_neg z2, if_neg z2]
  by_cases z3 : za = 3
  · subst z3; simp only [↓reduceIte]; rw [show ix 2071 3 = some 3 from rfl, fb_s, ct 8 3 20 (by decide)]; exact ok0 h CX.rf MX.rf
  rw [if_neg z3, if_neg z3]
  by_cases z4 : za = 4
  · subst z4; simp only [↓reduceIte]; rw [show ix 2071 4 = some 4 from rfl, fb_s, ct 10 4 12 (by decide)]; exact ok0 h CX.rf MX.rf
  rw [if_neg z4, if_neg z4]
  by_cases z5 : za = 5
  · subst z5; simp only [↓reduceIte]; rw [show ix 2071 5 = some 5 from rfl, fb_s, ct 14 5 40 (by decide)]; exact ok0 h CX.rf MX.rf
  rw [if_neg z5, if_neg z5]
  by_cases z6 : za = 6
  · subst z6; simp only [↓reduceIte]; rw [show ix 2071 6 = some 6 from rfl, fb_s, ct 16 6 6 (by decide)]; exact ok0 h CX.rf MX.rf
  rw [if_neg z6, if_neg z6]
  by_cases z7 : za = 7
  · subst z7; simp only [↓reduceIte]; rw [show ix 2071 7 = some 7 from rfl, fb_s, ct 18 7 30 (by decide)]; exact ok0 h CX.rf MX.rf
  rw [if_neg z7, if_neg z7]
  by_cases z8 : za = 8
  · subst z8; simp only [↓reduceIte]; rw [show ix 2071 8 = some 8 from rfl, fb_s, ct 102 8 2000 (by decide)]; exact ok0 h CX.rf MX.rf
  rw [if_neg z8, if_neg z8]
  by_cases z9 : za = 9
  · subst z9; simp only [↓reduceIte]; rw [show ix 2071 9 = some 9 from rfl, fb_s, h.1.2]; exact ok0 h CX.rf MX.rf
  rw [if_neg z9, if_neg z9]
  by_cases z10 : za = 10
  · subst z10; simp only [↓reduceIte]; rw [show ix 2071 10 = some 10 from rfl, fb_s, ct 24 10 60 (by decide)]; exact ok0 h CX.rf MX.rf
  rw [if_neg z10, if_neg z10]
  by_cases z11 : za = 11
  · rw [if_pos z11, if_pos z11, rows_e h, many_e h, fb_s, fb_s]; exact ok0 h CX.rf MX.rf
  rw [if_neg z11, if_neg z11]
  by_cases z12 : za = 12
  · rw [if_pos z12, if_pos z12, hx.2.2.1]; exact ok0 h CX.rf MX.rf
  rw [if_neg z12, if_neg z12]
  by_cases z13 : za = 13
  · rw [if_pos z13, if_pos z13, ct 22 11 20 (by decide)]; exact ok0 h CX.rf MX.rf
  rw [if_neg z13, if_neg z13]
  by_cases z14 : za = 14
  · rw [if_pos z14, if_pos z14, qSum_e k1 c2 (by decide), fb_s]
    have := sum_l h (k := fun S34 x34_2 x34_3 => some (x34_2, S34)) FU 0 (Nat.zero_le _) (FU_lt (by omega))
    rw [show l_X12_count_107 (fun S34 x34_2 x34_3 => some (x34_2, S34)) FU T 0 0 = _ from this]; exact ok0 h CX.rf MX.rf
  rw [if_neg z14, if_neg z14]
  by_cases z15 : za = 15
  · rw [if_pos z15, if_pos z15]
    unfold q_X3_onTheirWay
    obtain ⟨v, v1, v2⟩ := way_l h FU 0 0 (Nat.zero_le _) (FU_lt (by omega))
    rw [fv_s, l1, show ∀ k, l_X3_onTheirWay_12 S (nI (K 5)) k FU 0 0 = k v (nI (K 5)) from v1, show ∀ k, l_X12_count_137 k FU T 0 0 = k T v (nI (K 5)) from v2, fb_s]; exact ok0 h CX.rf MX.rf
  rw [if_neg z15, if_neg z15]; exact ok_1 h
end OPK2
end
section
/-! ===== pure: the law in force ===== -/
section LAW1
variable {K : Nat → Nat} {S T : FS} {za zb zc zd : Int32}
/-- one law is of that use, made by then, not struck by then, for that day -/
abbrev gL (n : Nat → Int32) (za zb zc : Int32) (i : Nat) : Prop := n (65 * i + 510) = za ∧ ¬ zb < n (65 * i + 511) ∧ ¬ zc < n (65 * i + 512) ∧ (n (65 * i + 513) < 0 ∨ zc < n (65 * i + 513))
/-- the last of the first i -/
def lg (n : Nat → Int32) (za zb zc : Int32) : Nat → Int32
  | 0 => -1
  | i + 1 => if gL n za zb zc i then nI i else lg n za zb zc i
theorem lg_c {n : Nat → Int32} : ∀ i : Nat, lg n za zb zc i = -1 ∨ ∃ j : Nat, j < i ∧ lg n za zb zc i = nI j
  | 0 => Or.inl rfl
  | i + 1 => by
    unfold lg
    by_cases c : gL n za zb zc i
    · rw [if_pos c]; exact Or.inr ⟨i, by omega, rfl⟩
    · rw [if_neg c]
      rcases lg_c i with e | ⟨j, hj, e⟩
      · exact Or.inl e
      · exact Or.inr ⟨j, by omega, e⟩
theorem lg_p {n : Nat → Int32} {i : Nat} (c : gL n za zb zc i) : lg n za zb zc (i + 1) = nI i := if_pos c
theorem lg_n {n : Nat → Int32} {i : Nat} (c : ¬ gL n za zb zc i) : lg n za zb zc (i + 1) = lg n za zb zc i := if_neg c
theorem inF_c (h : RelR K S (T.2 55)) : ∀ (m i : Nat), i ≤ K 4 → i < m → l_X2_inForce_14 za zb zc S (fun _ => some (-1)) m (nI i - 1) = some (lg (T.2 55) za zb zc i) := by
  have c4 := (h.ct 10 4 12 (by decide)).2.2
  intro m
  induction m with
  | zero => intro i _ hm; exact absurd hm (Nat.not_lt_zero _)
  | succ m ih =>
    intro i hi hm
    rw [l_X2_inForce_14]
    cases i with
    | zero => rw [if_pos (by decide)]; rfl
    | succ j =>
      have j12 : j < 12 := by omega
      obtain ⟨⟨e0, e1, e2, e3⟩, -⟩ := h.la j (by omega)
      have go : ∀ c : ¬ gL (T.2 55) za zb zc j, l_X2_inForce_14 za zb zc S (fun _ => some (-1)) m (nI j + (-1)) = some (lg (T.2 55) za zb zc (j + 1)) := fun c => by
        rw [lg_n c, ← ih j (by omega) (by omega)]
        exact congrArg _ (Int32.sub_eq_add_neg _ _).symm
      rw [nI_pred, if_neg (nI_pos (by omega))]
      simp only [fv_s, g10_0 j12, g10_1 j12, g10_2 j12, g10_3 j12, e0, e1, e2, e3]
      by_cases a0 : T.2 55 (65 * j + 510) = za
      · rw [if_pos a0]
        by_cases a2 : zc < T.2 55 (65 * j + 512)
        · rw [if_pos a2]; exact go (fun q => q.2.2.1 a2)
        · rw [if_neg a2]
          by_cases a1 : zb < T.2 55 (65 * j + 511)
          · simp only [a1, ↓reduceIte]
            have g := go (fun q => q.2.1 a1)
            by_cases a3 : T.2 55 (65 * j + 513) < 0
            · rw [if_pos a3]; exact g
            · rw [if_neg a3]
              by_cases a4 : zc < T.2 55 (65 * j + 513)
              · rw [if_pos a4]; exact g
              · rw [if_neg a4]; exact g
          · simp only [a1, ↓reduceIte]
            by_cases a3 : T.2 55 (65 * j + 513) < 0
            · rw [if_pos a3, lg_p ⟨a0, a1, a2, Or.inl a3⟩]
            · rw [if_neg a3]
              by_cases a4 : zc < T.2 55 (65 * j + 513)
              · rw [if_pos a4, lg_p ⟨a0, a1, a2, Or.inr a4⟩]
              · rw [if_neg a4]; exact go (fun q => q.2.2.2.elim a3 a4)
      · rw [if_neg a0]; exact go (fun q => a0 q.1)
theorem inF_m (h : RelR K S (T.2 55)) : ∀ (m i : Nat), i ≤ K 4 → K 4 - i < m → ∀ k, l_X12_inForce_6 za zb zc T k m (lg (T.2 55) za zb zc i) (nI i) = k (lg (T.2 55) za zb zc (K 4)) (nI (K 4)) := by
  obtain ⟨k1, k2, c4⟩ := h.ct 10 4 12 (by decide)
  intro m
  induction m with
  | zero => intro i _ hm; exact absurd hm (Nat.not_lt_zero _)
  | succ m ih =>
    intro i hi hm k
    rw [l_X12_inForce_6, k2]
    by_cases c : i < K 4
    · have i12 : i < 12 := by omega
      rw [if_pos (nI_lt c (by omega))]
      have g := ih (i + 1) (by omega) (by omega) k
      simp only [fv_s, ixL_0 i12, ixL_1 i12, ixL_2 i12, ixL_3 i12, fb_s, nI_1]
      by_cases a0 : T.2 55 (65 * i + 510) = za
      · rw [if_pos a0]
        by_cases a1 : zb < T.2 55 (65 * i + 511)
        · rw [if_pos a1, ← lg_n (i := i) (fun q => q.2.1 a1)]; exact g
        · rw [if_neg a1]
          by_cases a2 : zc < T.2 55 (65 * i + 512)
          · rw [if_pos a2, ← lg_n (i := i) (fun q => q.2.2.1 a2)]; exact g
          · rw [if_neg a2]
            by_cases a3 : T.2 55 (65 * i + 513) < 0 ∨ zc < T.2 55 (65 * i + 513)
            · have p0 : p_X12_in T (T.2 55 (65 * i + 513)) 0 zc = 0 := by
                unfold p_X12_in
                by_cases a4 : T.2 55 (65 * i + 513) < 0
                · rw [if_pos a4]
                · rw [if_neg a4, if_pos (a3.resolve_left a4)]
              rw [if_pos p0]
              rw [lg_p (n := T.2 55) (i := i) ⟨a0, a1, a2, a3⟩] at g
              rcases lg_c (n := T.2 55) (za := za) (zb := zb) (zc := zc) i with e | ⟨j, hj, e⟩
              · rw [e, if_pos (by decide)]; exact g
              · rw [e, if_neg (nI_pos (by omega)), ixL_2 (show j < 12 by omega), fb_s]
                obtain ⟨-, ⟨d, d1, d2, d3⟩, -⟩ := h.la i c
                obtain ⟨d', d4, d5⟩ := d3 j hj
                have c8 := (h.ct 102 8 2000 (by decide)).2.2
                rw [d2, d5, if_neg (nI_nlt d4 (by omega))]; exact g
            · have p1 : p_X12_in T (T.2 55 (65 * i + 513)) 0 zc ≠ 0 := by
                unfold p_X12_in
                rw [if_neg (fun q => a3 (Or.inl q)), if_neg (fun q => a3 (Or.inr q))]; decide
              rw [if_neg p1, ← lg_n (i := i) (fun q => a3 q.2.2.2)]; exact g
      · rw [if_neg a0, ← lg_n (i := i) (fun q => a0 q.1)]; exact g
    · have ei : i = K 4 := by omega
      subst ei
      rw [if_neg (nI_nlt (Nat.le_refl _) (by omega))]
/-- the law in force, on both sides -/
theorem RelR.inF (h : RelR K S (T.2 55)) (za zb zc : Int32) : q_X2_inForce S za zb zc = some (lg (T.2 55) za zb zc (K 4)) ∧ q_X12_inForce T za zb zc = some (lg (T.2 55) za zb zc (K 4)) := by
  obtain ⟨k1, k2, c4⟩ := h.ct 10 4 12 (by decide)
  constructor
  · unfold q_X2_inForce
    rw [fv_s, k1]; exact inF_c h FU (K 4) (Nat.le_refl _) (FU_lt (by omega))
  · exact inF_m h FU 0 (Nat.zero_le _) (FU_lt (by omega)) _
theorem op_force (h : RelR K S (T.2 55)) : OK2 S T (f_X11_force S za zb zc) (f_X12_force T za zb zc) := by
  unfold f_X11_force f_X12_force p_X12_isDay
  simp only [fb_id]
  rcases out_c za 0 4 with ⟨a1, a2⟩ | ⟨a1, a2⟩
  · rcases out_c zb 0 2000 with ⟨b1, b2⟩ | ⟨b1, b2⟩
    · rcases out_c zc (-1) 2000 with ⟨c1, c2⟩ | ⟨c1, c2⟩
      · obtain ⟨q1, q2⟩ := h.inF za zb zc
        simp only [a1, a2, b1, b2, c1, c2, q1, q2, i10, fb_s, ↓reduceIte]
        by_cases z : lg (T.2 55) za zb zc (K 4) < 0
        · rw [if_pos z, if_pos z]; exact ok_2 h
        · rw [if_neg z, if_neg z]; exact okt h CX.rf MX.rf
      · simp only [a1, a2, b1, b2, c1, c2, i10, ↓reduceIte]; exact ok_1 h
    · simp only [a1, a2, b1, b2, i10, ↓reduceIte]; exact ok_1 h
  · simp only [a1, a2, i10, ↓reduceIte]; exact ok_1 h
end LAW1
end
section
/-! ===== pure: how many bits ===== -/
theorem nI_and (a b : Nat) : nI a &&& nI b = nI (a &&& b) :=
  Int32.toBitVec_inj.mp (BitVec.eq_of_toNat_eq (by
    show (BitVec.ofNat 32 a &&& BitVec.ofNat 32 b).toNat = (BitVec.ofNat 32 (a &&& b)).toNat
    rw [BitVec.toNat_and, BitVec.toNat_ofNat, BitVec.toNat_ofNat, BitVec.toNat_ofNat, Nat.and_mod_two_pow]))
theorem nI_tn (x : Int32) : nI x.toBitVec.toNat = x :=
  Int32.toBitVec_inj.mp (BitVec.eq_of_toNat_eq (by
    show (BitVec.ofNat 32 x.toBitVec.toNat).toNat = x.toBitVec.toNat
    rw [BitVec.toNat_ofNat, Nat.mod_eq_of_lt x.toBitVec.isLt]))
theorem and_sp {a b c d : Nat} (ha : a < 256) (hc : c < 256) : (a + 256 * b) &&& (c + 256 * d) = (a &&& c) + 256 * (b &&& d) := by
  have h1 : ((a + 256 * b) &&& (c + 256 * d)) % 2 ^ 8 = a &&& c := by
    rw [Nat.and_mod_two_pow, show (a + 256 * b) % 2 ^ 8 = a by omega, show (c + 256 * d) % 2 ^ 8 = c by omega]
  have h2 : ((a + 256 * b) &&& (c + 256 * d)) / 2 ^ 8 = b &&& d := by
    rw [Nat.and_div_two_pow, show (a + 256 * b) / 2 ^ 8 = b by omega, show (c + 256 * d) / 2 ^ 8 = d by omega]
  have h3 := Nat.mod_add_div ((a + 256 * b) &&& (c + 256 * d)) (2 ^ 8)
  rw [h1, h2] at h3
  omega
def by1 (a : Nat) : Nat := a - ((a / 2) &&& 85)
def by2 (a : Nat) : Nat := (by1 a &&& 51) + ((by1 a / 4) &&& 51)
def by3 (a : Nat) : Nat := (by2 a + by2 a / 16) &&& 15
theorem by_1 : ∀ (a : Fin 256) (r : Fin 2), ((a.val / 2 + 128 * r.val) &&& 85 = (a.val / 2) &&& 85) ∧ (a.val / 2) &&& 85 ≤ a.val := by decide +kernel
theorem by_2 : ∀ (a : Fin 256) (r : Fin 4), ((by1 a.val / 4 + 64 * r.val) &&& 51 = (by1 a.val / 4) &&& 51) ∧ by2 a.val ≤ 68 ∧ by2 a.val % 16 ≤ 4 ∧ by3 a.val ≤ 8 := by decide +kernel
theorem by_3 : ∀ (a : Fin 256) (r : Fin 5), (by2 a.val + by2 a.val / 16 + 16 * r.val) &&& 15 = by3 a.val := by decide +kernel
theorem by_4 : ∀ a : Fin 256, 0 < a.val → by3 (a.val &&& (a.val - 1)) + 1 = by3 a.val := by decide +kernel
theorem by1_lt {a : Nat} (h : a < 256) : by1 a < 256 := by unfold by1; omega
theorem by_f {a b c d : Nat} (ha : a ≤ 8) (hb : b ≤ 8) (hc : c ≤ 8) (hd : d ≤ 8) : (a + b + 256 * (b + c + 256 * (c + d + 256 * d)) + (a + b + 256 * (b + c + 256 * (c + d + 256 * d))) / 65536) % 2 ^ 6 = a + b + c + d := by
  have : (a + b + 256 * (b + c + 256 * (c + d + 256 * d))) / 65536 = c + d + 256 * d := by omega
  rw [this]; omega
theorem hd_e {S : FS} {a b c d : Nat} (ha : a < 256) (hb : b < 256) (hc : c < 256) (hd : d < 256) : p_J6_bitCount_0f7a4 S (nI (a + 256 * (b + 256 * (c + 256 * d)))) = nI (by3 a + by3 b + by3 c + by3 d) := by
  unfold p_J6_bitCount_0f7a4
  simp only [fv_s]
  have s1 : (a + 256 * (b + 256 * (c + 256 * d))) / 2 = (a / 2 + 128 * (b % 2)) + 256 * ((b / 2 + 128 * (c % 2)) + 256 * ((c / 2 + 128 * (d % 2)) + 256 * (d / 2))) := by omega
  have f1 : ∀ x r : Nat, x < 256 → r < 2 → (x / 2 + 128 * r) &&& 85 = (x / 2) &&& 85 := fun x r hx hr => (by_1 ⟨x, hx⟩ ⟨r, hr⟩).1
  have f2 : ∀ x : Nat, x < 256 → (x / 2) &&& 85 ≤ x := fun x hx => (by_1 ⟨x, hx⟩ 0).2
  have e1 : (a + 256 * (b + 256 * (c + 256 * d))) / 2 &&& 1431655765 = ((a / 2) &&& 85) + 256 * (((b / 2) &&& 85) + 256 * (((c / 2) &&& 85) + 256 * ((d / 2) &&& 85))) := by
    rw [s1, show (1431655765 : Nat) = 85 + 256 * (85 + 256 * (85 + 256 * 85)) from rfl, and_sp (by omega) (by decide), and_sp (by omega) (by decide), and_sp (by omega) (by decide), f1 a _ ha (by omega), f1 b _ hb (by omega), f1 c _ hc (by omega)]
  rw [pk_ushrN (show a + 256 * (b + 256 * (c + 256 * d)) < 2 ^ 32 by omega) 1 1 (by decide), show (2 : Nat) ^ 1 = 2 from rfl]
  rw [show (1431655765 : Int32) = nI 1431655765 from rfl, nI_and, e1]
  have := f2 a ha
  have := f2 b hb
  have := f2 c hc
  have := f2 d hd
  have x1 : a + 256 * (b + 256 * (c + 256 * d)) - (((a / 2) &&& 85) + 256 * (((b / 2) &&& 85) + 256 * (((c / 2) &&& 85) + 256 * ((d / 2) &&& 85)))) = by1 a + 256 * (by1 b + 256 * (by1 c + 256 * by1 d)) := by unfold by1; omega
  rw [pk_sub (by omega), x1]
  have a1 := by1_lt ha
  have b1 := by1_lt hb
  have c1 := by1_lt hc
  have d1 := by1_lt hd
  have g1 : ∀ x r : Nat, x < 256 → r < 4 → (by1 x / 4 + 64 * r) &&& 51 = (by1 x / 4) &&& 51 := fun x r hx hr => (by_2 ⟨x, hx⟩ ⟨r, hr⟩).1
  have g2 : ∀ x : Nat, x < 256 → by2 x ≤ 68 ∧ by2 x % 16 ≤ 4 ∧ by3 x ≤ 8 := fun x hx => (by_2 ⟨x, hx⟩ 0).2
  have s2 : (by1 a + 256 * (by1 b + 256 * (by1 c + 256 * by1 d))) / 4 = (by1 a / 4 + 64 * (by1 b % 4)) + 256 * ((by1 b / 4 + 64 * (by1 c % 4)) + 256 * ((by1 c / 4 + 64 * (by1 d % 4)) + 256 * (by1 d / 4))) := by omega
  have e2 : (by1 a + 256 * (by1 b + 256 * (by1 c + 256 * by1 d))) / 4 &&& 858993459 = ((by1 a / 4) &&& 51) + 256 * (((by1 b / 4) &&& 51) + 256 * (((by1 c / 4) &&& 51) + 256 * ((by1 d / 4) &&& 51))) := by
    rw [s2, show (858993459 : Nat) = 51 + 256 * (51 + 256 * (51 + 256 * 51)) from rfl, and_sp (by omega) (by decide), and_sp (by omega) (by decide), and_sp (by omega) (by decide), g1 a _ ha (by omega), g1 b _ hb (by omega), g1 c _ hc (by omega)]
  have e3 : (by1 a + 256 * (by1 b + 256 * (by1 c + 256 * by1 d))) &&& 858993459 = (by1 a &&& 51) + 256 * ((by1 b &&& 51) + 256 * ((by1 c &&& 51) + 256 * (by1 d &&& 51))) := by
    rw [show (858993459 : Nat) = 51 + 256 * (51 + 256 * (51 + 256 * 51)) from rfl, and_sp (by omega) (by decide), and_sp (by omega) (by decide), and_sp (by omega) (by decide)]
  rw [pk_ushrN (show by1 a + 256 * (by1 b + 256 * (by1 c + 256 * by1 d)) < 2 ^ 32 by omega) 2 2 (by decide), show (2 : Nat) ^ 2 = 4 from rfl]
  rw [show (858993459 : Int32) = nI 858993459 from rfl, nI_and, nI_and, e2, e3, nI_add]
  have x2 : (by1 a &&& 51) + 256 * ((by1 b &&& 51) + 256 * ((by1 c &&& 51) + 256 * (by1 d &&& 51))) + (((by1 a / 4) &&& 51) + 256 * (((by1 b / 4) &&& 51) + 256 * (((by1 c / 4) &&& 51) + 256 * ((by1 d / 4) &&& 51)))) = by2 a + 256 * (by2 b + 256 * (by2 c + 256 * by2 d)) := by unfold by2; omega
  rw [x2]
  obtain ⟨a2, a3, a4⟩ := g2 a ha
  obtain ⟨b2, b3, b4⟩ := g2 b hb
  obtain ⟨c2, c3, c4⟩ := g2 c hc
  obtain ⟨d2, d3, d4⟩ := g2 d hd
  rw [pk_ushrN (show by2 a + 256 * (by2 b + 256 * (by2 c + 256 * by2 d)) < 2 ^ 32 by omega) 4 4 (by decide), show (2 : Nat) ^ 4 = 16 from rfl, nI_add]
  have s3 : by2 a + 256 * (by2 b + 256 * (by2 c + 256 * by2 d)) + (by2 a + 256 * (by2 b + 256 * (by2 c + 256 * by2 d))) / 16 = (by2 a + by2 a / 16 + 16 * (by2 b % 16)) + 256 * ((by2 b + by2 b / 16 + 16 * (by2 c % 16)) + 256 * ((by2 c + by2 c / 16 + 16 * (by2 d % 16)) + 256 * (by2 d + by2 d / 16 + 16 * 0))) := by omega
  have k1 : ∀ x r : Nat, x < 256 → r < 5 → (by2 x + by2 x / 16 + 16 * r) &&& 15 = by3 x := fun x r hx hr => by_3 ⟨x, hx⟩ ⟨r, hr⟩
  have e4 : (by2 a + 256 * (by2 b + 256 * (by2 c + 256 * by2 d)) + (by2 a + 256 * (by2 b + 256 * (by2 c + 256 * by2 d))) / 16) &&& 252645135 = by3 a + 256 * (by3 b + 256 * (by3 c + 256 * by3 d)) := by
    rw [s3, show (252645135 : Nat) = 15 + 256 * (15 + 256 * (15 + 256 * 15)) from rfl, and_sp (by omega) (by decide), and_sp (by omega) (by decide), and_sp (by omega) (by decide), k1 a _ ha (by omega), k1 b _ hb (by omega), k1 c _ hc (by omega), k1 d _ hd (by omega)]
  rw [show (252645135 : Int32) = nI 252645135 from rfl, nI_and, e4]
  rw [pk_ushrN (show by3 a + 256 * (by3 b + 256 * (by3 c + 256 * by3 d)) < 2 ^ 32 by omega) 8 8 (by decide), show (2 : Nat) ^ 8 = 256 from rfl, nI_add]
  have s4 : by3 a + 256 * (by3 b + 256 * (by3 c + 256 * by3 d)) + (by3 a + 256 * (by3 b + 256 * (by3 c + 256 * by3 d))) / 256 = (by3 a + by3 b) + 256 * ((by3 b + by3 c) + 256 * ((by3 c + by3 d) + 256 * by3 d)) := by omega
  rw [s4, pk_ushrN (show (by3 a + by3 b) + 256 * ((by3 b + by3 c) + 256 * ((by3 c + by3 d) + 256 * by3 d)) < 2 ^ 32 by omega) 16 16 (by decide), show (2 : Nat) ^ 16 = 65536 from rfl, nI_add]
  rw [pk_andN (by omega) 6 (by decide)]
  exact congrArg nI (by_f a4 b4 c4 d4)
def pcL : Nat → Nat → Nat
  | 0, _ => 0
  | l + 1, n => by3 (n % 256) + pcL l (n / 256)
theorem pcL_s : ∀ (l n : Nat), 0 < n → n < 256 ^ l → pcL l (n &&& (n - 1)) + 1 = pcL l n
  | 0, n, h0, h => absurd h (by omega)
  | l + 1, n, h0, h => by
    obtain ⟨a, m, ha, rfl⟩ : ∃ a m : Nat, a < 256 ∧ n = a + 256 * m := ⟨n % 256, n / 256, by omega, by omega⟩
    have e1 : ∀ a m : Nat, a < 256 → pcL (l + 1) (a + 256 * m) = by3 a + pcL l m := fun a m ha => by
      show by3 ((a + 256 * m) % 256) + pcL l ((a + 256 * m) / 256) = _
      rw [show (a + 256 * m) % 256 = a by omega, show (a + 256 * m) / 256 = m by omega]
    by_cases c : 0 < a
    · have b := by_4 ⟨a, ha⟩ c
      have lt : a &&& (a - 1) < 256 := by
        have := Nat.and_le_left (n := a) (m := a - 1); omega
      rw [show a + 256 * m - 1 = (a - 1) + 256 * m by omega, and_sp ha (by omega), Nat.and_self, e1 _ _ lt, e1 _ _ ha]
      simp only at b; omega
    · have a0 : a = 0 := by omega
      subst a0
      have m0 : 0 < m := by omega
      have ih := pcL_s l m m0 (by rw [Nat.pow_succ] at h; omega)
      rw [show 0 + 256 * m - 1 = 255 + 256 * (m - 1) by omega, and_sp (by decide) (by decide), e1 _ _ (by decide), e1 _ _ (by decide)]
      rw [show (0 : Nat) &&& 255 = 0 from rfl]; omega
theorem pcL_le : ∀ (l n : Nat), pcL l n ≤ 8 * l
  | 0, n => Nat.le_refl _
  | l + 1, n => by
    have := pcL_le l (n / 256)
    have h2 : by3 (n % 256) ≤ 8 := (by_2 ⟨n % 256, by omega⟩ 0).2.2.2
    unfold pcL; omega
theorem pcL_0 : ∀ l : Nat, pcL l 0 = 0
  | 0 => rfl
  | l + 1 => by unfold pcL; rw [show (0 : Nat) % 256 = 0 from rfl, show (0 : Nat) / 256 = 0 from rfl, pcL_0 l]; rfl
theorem kg_l {k : Int32 → Int32 → Option Int32} : ∀ (m n c : Nat), n < 2 ^ 32 → pcL 4 n < m → l_X12_bits_4 k m (nI c) (nI n) = k (nI (c + pcL 4 n)) (nI 0)
  | 0, n, c, _, h => absurd h (Nat.not_lt_zero _)
  | m + 1, n, c, hn, h => by
    rw [l_X12_bits_4]
    by_cases z : n = 0
    · subst z
      rw [if_pos (show nI 0 = 0 from rfl), pcL_0]; rfl
    · have z2 : ¬ nI n = 0 := fun q => z (by rw [← pk_tn hn, q]; rfl)
      have p := pcL_s 4 n (by omega) (by omega)
      have lt : n &&& (n - 1) < 2 ^ 32 := by
        have := Nat.and_le_left (n := n) (m := n - 1); omega
      rw [if_neg z2, fv_s, show (1 : Int32) = nI 1 from rfl, pk_sub (show 1 ≤ n by omega), nI_and, nI_add, kg_l m (n &&& (n - 1)) (c + 1) lt (by omega)]
      rw [show c + 1 + pcL 4 (n &&& (n - 1)) = c + pcL 4 n by omega]
theorem bits_e {S T : FS} (x : Int32) : q_X12_bits T x = some (p_J6_bitCount_0f7a4 S x) := by
  have hx : x.toBitVec.toNat < 2 ^ 32 := x.toBitVec.isLt
  rw [← nI_tn x]
  generalize x.toBitVec.toNat = n at hx
  obtain ⟨a, b, c, d, ha, hb, hc, hd, rfl⟩ : ∃ a b c d : Nat, a < 256 ∧ b < 256 ∧ c < 256 ∧ d < 256 ∧ n = a + 256 * (b + 256 * (c + 256 * d)) := ⟨n % 256, n / 256 % 256, n / 65536 % 256, n / 16777216, by omega, by omega, by omega, by omega, by omega⟩
  rw [hd_e ha hb hc hd]
  unfold q_X12_bits
  have := pcL_le 4 (a + 256 * (b + 256 * (c + 256 * d)))
  rw [show (0 : Int32) = nI 0 from rfl, kg_l FU _ 0 hx (FU_lt (by omega))]
  refine congrArg some (congrArg nI ?_)
  simp only [pcL]
  rw [show (a + 256 * (b + 256 * (c + 256 * d))) % 256 = a by omega, show (a + 256 * (b + 256 * (c + 256 * d))) / 256 = b + 256 * (c + 256 * d) by omega, show (b + 256 * (c + 256 * d)) % 256 = b by omega, show (b + 256 * (c + 256 * d)) / 256 = c + 256 * d by omega, show (c + 256 * d) % 256 = c by omega, show (c + 256 * d) / 256 = d by omega, show d % 256 = d by omega]
  omega
end
section
/-! ===== pure: what a law comes to ===== -/
section LAW2
variable {K : Nat → Nat} {S T : FS} {za zb zc zd : Int32}
def EC (S S' : FS) : Prop := (∀ k : Nat, k ≠ 104 → S'.1 k = S.1 k) ∧ ∀ a : Nat, a ≠ 30 → S'.2 a = S.2 a
theorem EC.rf : EC S S := ⟨fun _ _ => rfl, fun _ _ => rfl⟩
theorem EC.tr {A B C : FS} (h : EC A B) (g : EC B C) : EC A C := ⟨fun k hk => (g.1 k hk).trans (h.1 k hk), fun a ha => (g.2 a ha).trans (h.2 a ha)⟩
theorem EC.wI {A B : FS} {v : Int32} (h : EC A B) : EC A (wI B 104 v) := ⟨fun k hk => (wI_n hk).trans (h.1 k hk), h.2⟩
theorem EC.wA {A B : FS} {j : Nat} {v : Int32} (h : EC A B) : EC A (wA B 30 j v) := ⟨h.1, fun a ha => (wA_n ha).trans (h.2 a ha)⟩
theorem EC.ce {A B : FS} (h : EC A B) : CE A B := by
  refine ⟨⟨⟨h.2 _ (by decide), h.2 _ (by decide), h.2 _ (by decide), h.2 _ (by decide)⟩, h.1 _ (by decide), h.1 _ (by decide)⟩, fun k hk => h.1 k ?_, fun a ha => h.2 a ?_⟩
  · intro q; subst q; revert hk; decide
  · intro q; subst q; revert ha; decide
def EM (T T' : FS) : Prop := T'.1 = T.1 ∧ ∀ a : Nat, a ≠ 59 → a ≠ 62 → a ≠ 63 → T'.2 a = T.2 a
theorem EM.rf : EM T T := ⟨rfl, fun _ _ _ _ => rfl⟩
theorem EM.tr {A B C : FS} (h : EM A B) (g : EM B C) : EM A C := ⟨g.1.trans h.1, fun a h1 h2 h3 => (g.2 a h1 h2 h3).trans (h.2 a h1 h2 h3)⟩
theorem EM.w {A B : FS} {j : Nat} {v : Int32} (h : EM A B) : EM A (wA B 63 j v) := ⟨h.1, fun a h1 h2 h3 => (wA_n h3).trans (h.2 a h1 h2 h3)⟩
theorem EM.me {A B : FS} (h : EM A B) : ME A B := ⟨⟨⟨h.2 _ (by decide) (by decide) (by decide), h.2 _ (by decide) (by decide) (by decide), h.2 _ (by decide) (by decide) (by decide), h.2 _ (by decide) (by decide) (by decide), h.2 _ (by decide) (by decide) (by decide)⟩, by rw [h.1], by rw [h.1]⟩, h.2 _ (by decide) (by decide) (by decide)⟩
theorem E59.em {A B : FS} (h : E59 A B) : EM A B := ⟨h.1, fun a h1 _ _ => h.2 a h1⟩
def E62 (T T' : FS) : Prop := T'.1 = T.1 ∧ ∀ a : Nat, a ≠ 62 → T'.2 a = T.2 a
theorem E62.rf : E62 T T := ⟨rfl, fun _ _ => rfl⟩
theorem E62.w {A B : FS} {j : Nat} {v : Int32} (h : E62 A B) : E62 A (wA B 62 j v) := ⟨h.1, fun a ha => (wA_n ha).trans (h.2 a ha)⟩
theorem E62.em {A B : FS} (h : E62 A B) : EM A B := ⟨h.1, fun a _ h1 _ => h.2 a h1⟩
theorem push_e {k : Nat} {v : Int32} (hk : k < 60) (e : S.1 104 = nI k) : f_X2_push S v = some (0, wI (wA S 30 k v) 104 (nI (k + 1))) := by
  unfold f_X2_push
  rw [e, if_neg (nI_pos (by omega)), if_pos (show nI k < 60 from nI_lt (b := 60) hk (by decide)), ix_nI hk (by decide), fb_s]
  simp only [fl_s, wA_1, e, nI_1]
theorem pop_e {k : Nat} (hk : k < 60) (e : S.1 104 = nI (k + 1)) : f_X2_pop S = some (S.2 30 k, wI S 104 (nI k)) := by
  unfold f_X2_pop
  rw [e, if_neg (show ¬ nI (k + 1) < 1 from nI_nlt (b := 1) (by omega) (by omega)), if_neg (show ¬ 60 < nI (k + 1) from nI_nlt (a := 60) (by omega) (by decide)), fl_s, nI_pred, wI_e, ix_nI hk (by decide), fb_s]; rfl
/-- the person stands where both sides know it -/
def TA (K : Nat → Nat) (S T : FS) (x : Int32) : Prop := ∀ p : Nat, p < K 2 → x = nI p → S.2 7 (14 * p + 4) = T.2 55 (14 * p + 114)
def lett (X : FS) (zb zc : Int32) : Option (Int32 × FS) := if zb < 0 then some (0, wA (wA (wA (wA X 63 7 0) 63 8 0) 63 9 0) 63 10 zc) else fb (q_X12_of X zb 3) (fun x73 => fb (q_X12_bits X x73) (fun x75 => fb (q_X12_of (wA X 63 7 x75) zb 1) (fun x78 => fb (q_X12_of (wA (wA X 63 7 x75) 63 8 x78) zb 2) (fun x81 => some (0, wA (wA (wA (wA X 63 7 x75) 63 8 x78) 63 9 x81) 63 10 zc)))))
theorem setN_e : f_X12_setNames T za zb zc = if za < 0 then lett (wA (wA (wA (wA (wA (wA (wA T 63 0 0) 63 1 0) 63 2 0) 63 3 0) 63 4 0) 63 5 0) 63 6 0) zb zc else fb (q_X12_man T za 1) (fun x3 => fl (wA T 63 0 ((zc - x3) / 360)) (fun S4 => fb (q_X12_man S4 za 0) (fun x6 => fl (wA S4 63 1 x6) (fun S7 => fb (q_X12_holdsMany S7 za) (fun x9 => fl (wA S7 63 2 x9) (fun S10 => fb (q_X12_man S10 za 7) (fun x12 => fl (wA S10 63 3 x12) (fun S13 => fb (q_X12_man S13 za 8) (fun x15 => fl (wA S13 63 4 x15) (fun S16 => fb (q_X12_man S16 za 4) (fun x18 =>
    if x18 < 0 then fl (wA S16 63 5 10) (fun S43 => fb (f_X12_stepsOf S43 za) (fun r45 => lett (wA r45.2 63 6 r45.1) zb zc)) else fb (q_X12_man S16 za 4) (fun x21 => fl (wA S16 63 5 x21) (fun S22 => fb (f_X12_stepsOf S22 za) (fun r24 => lett (wA r24.2 63 6 r24.1) zb zc)))))))))))))) := by
  unfold f_X12_setNames lett; simp only [fl_s]
theorem nm_0 : q_X2_named S 0 zb zc zd = if zb < 0 then some 0 else some (p_X11_yearsBetween S (fG 6 20 14 S zb 1) zd) := rfl
theorem nm_1 : q_X2_named S 1 zb zc zd = if zb < 0 then some 0 else some (fG 6 20 14 S zb 0) := rfl
theorem nm_2 : q_X2_named S 2 zb zc zd = if zb < 0 then some 0 else fb (qRows 8 20 6 S 2 zb) (fun x => some x) := rfl
theorem nm_3 : q_X2_named S 3 zb zc zd = if zb < 0 then some 0 else some (fG 6 20 14 S zb 7) := rfl
theorem nm_4 : q_X2_named S 4 zb zc zd = if zb < 0 then some 0 else some (fG 6 20 14 S zb 8) := rfl
theorem nm_5 : q_X2_named S 5 zb zc zd = if zb < 0 then some 0 else some (p_X2_placeNamed S (fG 6 20 14 S zb 4)) := rfl
theorem nm_6 : q_X2_named S 6 zb zc zd = if zb < 0 then some 0 else some (fG 6 20 14 S zb 11) := rfl
theorem nm_7 : q_X2_named S 7 zb zc zd = if zc < 0 then some 0 else some (p_J6_bitCount_0f7a4 S (fG 14 40 12 S zc 4)) := rfl
theorem nm_8 : q_X2_named S 8 zb zc zd = if zc < 0 then some 0 else some (fG 14 40 12 S zc 1) := rfl
theorem nm_9 : q_X2_named S 9 zb zc zd = if zc < 0 then some 0 else some (fG 14 40 12 S zc 2) := rfl
theorem nm_10 : q_X2_named S 10 zb zc zd = some zd := rfl
theorem w63 {X : FS} {j : Nat} {v : Int32} : (wA X 63 j v).2 55 = X.2 55 := wA_n (by decide)
theorem lett_e (h : RelR K S (T.2 55)) (hc : vP (K 5) zc) {X : FS} (e5 : X.2 55 = T.2 55) : ∃ X' : FS, lett X zc zd = some (0, X') ∧ EM X X' ∧ (∀ c : Nat, c < 7 → X'.2 63 c = X.2 63 c) ∧ ∀ c : Nat, 7 ≤ c → c < 11 → q_X2_named S (nI c) zb zc zd = some (X'.2 63 c) := by
  have c5 := (h.ct 14 5 40 (by decide)).2.2
  unfold lett
  rcases hc with rfl | ⟨e, he, rfl⟩
  · refine ⟨_, if_pos (by decide), EM.rf.w.w.w.w, fun c hc => ?_, fun c h7 h11 => ?_⟩
    · simp only [wA_e]; simp (disch := omega) only [pk_un]
    · simp only [wA_e]
      rcases (show c = 7 ∨ c = 8 ∨ c = 9 ∨ c = 10 by omega) with rfl | rfl | rfl | rfl
      · rw [show nI 7 = 7 from rfl, nm_7, if_pos (by decide)]; simp (disch := omega) only [pk_un, pk_us]
      · rw [show nI 8 = 8 from rfl, nm_8, if_pos (by decide)]; simp (disch := omega) only [pk_un, pk_us]
      · rw [show nI 9 = 9 from rfl, nm_9, if_pos (by decide)]; simp (disch := omega) only [pk_un, pk_us]
      · rw [show nI 10 = 10 from rfl, nm_10]; simp (disch := omega) only [pk_un, pk_us]
  · have e40 : e < 40 := by omega
    obtain ⟨⟨-, r1, r2, r4, -⟩, -⟩ := h.le e he
    rw [if_neg (nI_pos (by omega))]
    simp only [of_3 e40, of_1 e40, of_2 e40, fb_s, w63, e5, bits_e (S := S)]
    refine ⟨_, rfl, EM.rf.w.w.w.w, fun c hc => ?_, fun c h7 h11 => ?_⟩
    · simp only [wA_e]; simp (disch := omega) only [pk_un]
    · simp only [wA_e]
      rcases (show c = 7 ∨ c = 8 ∨ c = 9 ∨ c = 10 by omega) with rfl | rfl | rfl | rfl
      · rw [show nI 7 = 7 from rfl, nm_7, if_neg (nI_pos (by omega)), g14_4 e40, r4]; simp (disch := omega) only [pk_un, pk_us]
      · rw [show nI 8 = 8 from rfl, nm_8, if_neg (nI_pos (by omega)), g14_1 e40, r1]; simp (disch := omega) only [pk_un, pk_us]
      · rw [show nI 9 = 9 from rfl, nm_9, if_neg (nI_pos (by omega)), g14_2 e40, r2]; simp (disch := omega) only [pk_un, pk_us]
      · rw [show nI 10 = 10 from rfl, nm_10]; simp (disch := omega) only [pk_un, pk_us]
theorem RelR.names (h : RelR K S (T.2 55)) (hb : vP (K 2) zb) (hc : vP (K 5) zc) : ∃ T1 : FS, EM T T1 ∧ f_X12_setNames T zb zc zd = some (0, T1) ∧ ∀ c : Nat, c < 11 → ∃ v : Int32, q_X2_named S (nI c) zb zc zd = some v ∧ (TA K S T zb → T1.2 63 c = v) := by
  have c2 := (h.ct 6 2 20 (by decide)).2.2
  rw [setN_e]
  rcases hb with rfl | ⟨p, hp, rfl⟩
  · rw [if_pos (by decide)]
    obtain ⟨X', l1, l2, l3, l4⟩ := lett_e (zb := -1) (zd := zd) h hc (X := wA (wA (wA (wA (wA (wA (wA T 63 0 0) 63 1 0) 63 2 0) 63 3 0) 63 4 0) 63 5 0) 63 6 0) (by simp only [w63])
    refine ⟨X', EM.tr EM.rf.w.w.w.w.w.w.w l2, l1, fun c hc => ?_⟩
    by_cases c7 : 7 ≤ c
    · exact ⟨_, l4 c c7 hc, fun _ => rfl⟩
    · refine ⟨0, ?_, fun _ => ?_⟩
      · rcases (show c = 0 ∨ c = 1 ∨ c = 2 ∨ c = 3 ∨ c = 4 ∨ c = 5 ∨ c = 6 by omega) with rfl | rfl | rfl | rfl | rfl | rfl | rfl <;> rfl
      · rw [l3 c (by omega)]; simp only [wA_e]
        rcases (show c = 0 ∨ c = 1 ∨ c = 2 ∨ c = 3 ∨ c = 4 ∨ c = 5 ∨ c = 6 by omega) with rfl | rfl | rfl | rfl | rfl | rfl | rfl <;> simp (disch := omega) only [pk_un, pk_us]
  · have p20 : p < 20 := by omega
    obtain ⟨⟨q0, q1, -⟩, ⟨q7, q8, -⟩, -⟩ := h.pe p hp
    rw [if_neg (nI_pos (by omega))]
    simp only [man_1 p20, man_0 p20, fb_s, fl_s, w63]
    obtain ⟨v, v1, v2⟩ := RelR.holds (K := K) (S := S) (T := wA (wA T 63 0 ((zd - T.2 55 (14 * p + 111)) / 360)) 63 1 (T.2 55 (14 * p + 110))) (by simp only [w63]; exact h) (nI p)
    rw [v1]
    simp only [man_7 p20, man_8 p20, man_4 p20, fb_s, fl_s, w63]
    have fin : ∀ t : Int32, ∃ T1 : FS, EM T T1 ∧ fb (f_X12_stepsOf (wA (wA (wA (wA (wA (wA T 63 0 ((zd - T.2 55 (14 * p + 111)) / 360)) 63 1 (T.2 55 (14 * p + 110))) 63 2 v) 63 3 (T.2 55 (14 * p + 117))) 63 4 (T.2 55 (14 * p + 118))) 63 5 t) (nI p)) (fun r45 => lett (wA r45.2 63 6 r45.1) zc zd) = some (0, T1) ∧ ∀ c : Nat, c < 11 → ∃ w : Int32, q_X2_named S (nI c) (nI p) zc zd = some w ∧ ((TA K S T (nI p) → t = if T.2 55 (14 * p + 114) < 0 then 10 else T.2 55 (14 * p + 114)) → TA K S T (nI p) → T1.2 63 c = w) := by
      intro t
      obtain ⟨T2, s1, s2⟩ := RelR.steps (K := K) (S := S) (T := wA (wA (wA (wA (wA (wA T 63 0 ((zd - T.2 55 (14 * p + 111)) / 360)) 63 1 (T.2 55 (14 * p + 110))) 63 2 v) 63 3 (T.2 55 (14 * p + 117))) 63 4 (T.2 55 (14 * p + 118))) 63 5 t) (by simp only [w63]; exact h) hp
      rw [s2]
      simp only [fb_s]
      obtain ⟨X', l1, l2, l3, l4⟩ := lett_e (zb := nI p) (zd := zd) h hc (X := wA T2 63 6 (S.2 7 (14 * p + 11))) (by rw [w63, s1.2 55 (by decide)]; simp only [w63])
      refine ⟨X', EM.tr (EM.tr EM.rf.w.w.w.w.w.w s1.em) (EM.tr EM.rf.w l2), l1, fun c hc => ?_⟩
      by_cases c7 : 7 ≤ c
      · exact ⟨_, l4 c c7 hc, fun _ _ => rfl⟩
      · have e63 := s1.2 63 (by decide)
        have np : ¬ nI p < 0 := nI_pos (by omega)
        rw [l3 c (by omega), wA_e, e63]
        simp only [wA_e]
        rcases (show c = 0 ∨ c = 1 ∨ c = 2 ∨ c = 3 ∨ c = 4 ∨ c = 5 ∨ c = 6 by omega) with rfl | rfl | rfl | rfl | rfl | rfl | rfl
        · refine ⟨_, by rw [show nI 0 = 0 from rfl, nm_0, if_neg np, g6_1 p20, q1], fun _ _ => ?_⟩
          simp (disch := omega) only [pk_un, pk_us]; rfl
        · refine ⟨_, by rw [show nI 1 = 1 from rfl, nm_1, if_neg np, g6_0 p20, q0], fun _ _ => ?_⟩
          simp (disch := omega) only [pk_un, pk_us]
        · refine ⟨_, by rw [show nI 2 = 2 from rfl, nm_2, if_neg np, v2, fb_s], fun _ _ => ?_⟩
          simp (disch := omega) only [pk_un, pk_us]
        · refine ⟨_, by rw [show nI 3 = 3 from rfl, nm_3, if_neg np, g6_7 p20, q7], fun _ _ => ?_⟩
          simp (disch := omega) only [pk_un, pk_us]
        · refine ⟨_, by rw [show nI 4 = 4 from rfl, nm_4, if_neg np, g6_8 p20, q8], fun _ _ => ?_⟩
          simp (disch := omega) only [pk_un, pk_us]
        · refine ⟨_, by rw [show nI 5 = 5 from rfl, nm_5, if_neg np, g6_4 p20], fun z1 z2 => ?_⟩
          simp (disch := omega) only [pk_un, pk_us]
          rw [z1 z2, z2 p hp rfl]; rfl
        · refine ⟨_, by rw [show nI 6 = 6 from rfl, nm_6, if_neg np, g6_11 p20], fun _ _ => ?_⟩
          simp (disch := omega) only [pk_un, pk_us]
    by_cases tz : T.2 55 (14 * p + 114) < 0
    · rw [if_pos tz]
      obtain ⟨T1, f1, f2, f3⟩ := fin 10
      refine ⟨T1, f1, f2, fun c hc => ?_⟩
      obtain ⟨w, w1, w2⟩ := f3 c hc
      exact ⟨w, w1, w2 (fun _ => by rw [if_pos tz])⟩
    · rw [if_neg tz]
      obtain ⟨T1, f1, f2, f3⟩ := fin (T.2 55 (14 * p + 114))
      refine ⟨T1, f1, f2, fun c hc => ?_⟩
      obtain ⟨w, w1, w2⟩ := f3 c hc
      exact ⟨w, w1, w2 (fun _ => by rw [if_neg tz])⟩
theorem named_ec {S0 : FS} (h : EC S0 S) : q_X2_named S za zb zc zd = q_X2_named S0 za zb zc zd := by
  unfold q_X2_named fG qRows p_X11_yearsBetween p_X2_placeNamed p_J6_bitCount_0f7a4
  simp only [h.1 8 (by decide), h.2 (6 + 1) (by decide), h.2 (8 + 1) (by decide), h.2 (14 + 1) (by decide)]
theorem cdM_c {c m : Int32} (h : cdM c m) : (¬ c < 0 ∧ m = c ∧ -100 < c) ∨ (∃ k : Nat, k < 11 ∧ c < 0 ∧ ¬ -20 < c ∧ -20 - c = nI k ∧ -100 < m ∧ m < 0 ∧ -1 - m = nI k) ∨ (c = -1 ∧ m = -133) ∨ (c < 0 ∧ -20 < c ∧ c ≠ -1 ∧ ¬ -100 < m ∧ m ≠ -133 ∧ ∀ (S T : FS) (x y : Int32), p_X2_joined S c x y = p_X12_done T (-100 - m) x y) := by
  have kk : ∀ k : Fin 11, (-20 - nI k.val : Int32) < 0 ∧ ¬ (-20 : Int32) < -20 - nI k.val ∧ -20 - (-20 - nI k.val) = nI k.val ∧ (-100 : Int32) < -1 - nI k.val ∧ (-1 - nI k.val : Int32) < 0 ∧ -1 - (-1 - nI k.val) = nI k.val := by decide +kernel
  rcases h with ⟨h1, h2⟩ | ⟨k, hk, rfl, rfl⟩ | h | ⟨rfl, rfl⟩ | ⟨rfl, rfl⟩ | ⟨rfl, rfl⟩ | ⟨rfl, rfl⟩ | ⟨rfl, rfl⟩ | ⟨rfl, rfl⟩ | ⟨rfl, rfl⟩
  · exact Or.inl ⟨h1, h2, Int32.lt_of_lt_of_le (by decide) (Int32.not_lt.mp h1)⟩
  · obtain ⟨k1, k2, k3, k4, k5, k6⟩ := kk ⟨k, hk⟩
    exact Or.inr (Or.inl ⟨k, hk, k1, k2, k3, k4, k5, k6⟩)
  · exact Or.inr (Or.inr (Or.inl h))
  all_goals exact Or.inr (Or.inr (Or.inr ⟨by decide, by decide, by decide, by decide, by decide, fun _ _ _ _ => rfl⟩))
theorem cdH_le {c : Nat → Int32} {e r : Nat} (h : cdH c e = some r) : ∀ (d i : Nat), i + d = e → ∃ k : Nat, cdH c i = some k
  | 0, i, q => by rw [show i = e by omega]; exact ⟨r, h⟩
  | d + 1, i, q => by
    obtain ⟨k, hk⟩ := cdH_le h d (i + 1) (by omega)
    cases z : cdH c i with
    | none => simp only [cdH, z] at hk; cases hk
    | some k' => exact ⟨k', rfl⟩
theorem cdH_b {c : Nat → Int32} : ∀ (i k : Nat), cdH c i = some k → k ≤ 60
  | 0, k, h => by obtain rfl := Option.some.inj h; omega
  | i + 1, k, h => by
    cases z : cdH c i with
    | none => simp only [cdH, z] at h; cases h
    | some k' =>
      have := cdH_b i k' z
      simp only [cdH, z] at h
      split at h
      · split at h
        · split at h
          · obtain rfl := Option.some.inj h; omega
          · cases h
        · split at h
          · obtain rfl := Option.some.inj h; omega
          · cases h
      · split at h
        · obtain rfl := Option.some.inj h; omega
        · cases h
theorem ev_l {l e : Nat} {P : Prop} {S0 T0 : FS} (hl : l < 12) (he : e ≤ 60) (hg : ∀ i : Nat, i < e → cdM (S0.2 13 (60 * l + i)) (T0.2 55 (65 * l + (515 + i)))) (h5 : T0.2 55 (65 * l + 514) = nI e) (hcd : cdH (fun i => S0.2 13 (60 * l + i)) e = some 1) (hn : ∀ c : Nat, c < 11 → ∃ v : Int32, q_X2_named S0 (nI c) zb zc zd = some v ∧ (P → T0.2 63 c = v)) :
    ∀ (m i k : Nat) (S T : FS), i ≤ e → e - i < m → cdH (fun i => S0.2 13 (60 * l + i)) i = some k → EC S0 S → E62 T0 T → S.1 104 = nI k → (P → ∀ j : Nat, j < k → S.2 30 j = T.2 62 j) →
    ∃ S' T' : FS, EC S0 S' ∧ E62 T0 T' ∧ S'.1 104 = nI 1 ∧ (P → S'.2 30 0 = T'.2 62 0) ∧ (∀ kk, l_X2_comesTo_22 (nI l) zb zc zd (nI e) kk m S (nI i) = kk S' (nI e)) ∧ ∀ kk, l_X12_comesTo_33 (nI (65 * l + 515)) kk m T (nI k) (nI (65 * l + 515 + i)) = kk T' (nI 1) (nI (65 * l + 515 + e)) := by
  intro m
  induction m with
  | zero => intro i k S T _ hm; exact absurd hm (Nat.not_lt_zero _)
  | succ m ih =>
    intro i k S T hi hm hk ec em e4 hs
    have jm : ix 2071 (nI (65 * l + 515) - 1) = some (65 * l + 514) := by rw [nI_pred]; exact ix_nI (by omega) (by decide)
    have e5 : T.2 55 (65 * l + 514) = nI e := by rw [em.2 55 (by decide)]; exact h5
    by_cases ci : i < e
    · have j2 : ix 2071 (nI (65 * l + 515 + i)) = some (65 * l + (515 + i)) := by rw [show 65 * l + 515 + i = 65 * l + (515 + i) by omega]; exact ix_nI (by omega) (by decide)
      have lc : nI i < nI e := nI_lt ci (by omega)
      have lm : nI (65 * l + 515 + i) < nI (65 * l + 515 + e) := nI_lt (by omega) (by omega)
      have gc : fG 12 12 60 S (nI l) (nI i) = S0.2 13 (60 * l + i) := by rw [g12 hl (show i < 60 by omega), ec.2 13 (by decide)]
      have gm : T.2 55 (65 * l + (515 + i)) = T0.2 55 (65 * l + (515 + i)) := by rw [em.2 55 (by decide)]
      obtain ⟨k', hk'⟩ := cdH_le hcd (e - (i + 1)) (i + 1) (by omega)
      have b60 := cdH_b _ _ hk
      have k0 := hk'
      simp only [cdH, hk] at k0
      have st : ∀ (k1 : Nat) (S1 T1 : FS) (v w : Int32), k' = k1 + 1 → EC S0 S1 → E62 T0 T1 → S1.1 104 = nI (k1 + 1) → S1.2 30 = upd (S.2 30) k1 v → T1.2 62 = upd (T.2 62) k1 w → k1 ≤ k → (P → v = w) → ∃ S' T' : FS, EC S0 S' ∧ E62 T0 T' ∧ S'.1 104 = nI 1 ∧ (P → S'.2 30 0 = T'.2 62 0) ∧ (∀ kk, l_X2_comesTo_22 (nI l) zb zc zd (nI e) kk m S1 (nI (i + 1)) = kk S' (nI e)) ∧ ∀ kk, l_X12_comesTo_33 (nI (65 * l + 515)) kk m T1 (nI (k1 + 1)) (nI (65 * l + 515 + (i + 1))) = kk T' (nI 1) (nI (65 * l + 515 + e)) := by
        intro k1 S1 T1 v w e1 ec1 em1 e41 s1 t1 le1 vw
        refine ih (i + 1) (k1 + 1) S1 T1 (by omega) (by omega) (by rw [hk', e1]) ec1 em1 e41 (fun p j hj => ?_)
        rw [s1, t1]
        by_cases z : j = k1
        · subst z; rw [pk_us, pk_us]; exact vw p
        · rw [pk_un z, pk_un z]; exact hs p j (by omega)
      rcases cdM_c (hg i ci) with ⟨a1, a2, a3⟩ | ⟨q, hq, a1, a2, a3, a4, a5, a6⟩ | ⟨a1, a2⟩ | ⟨a1, a2, a3, a4, a5, a6⟩
      · rw [if_neg (fun z => a1 z.2)] at k0
        by_cases c60 : k < 60
        · rw [if_pos c60] at k0
          obtain ⟨S', T', r1, r2, r3, r4, r5, r6⟩ := st k _ _ (S0.2 13 (60 * l + i)) (S0.2 13 (60 * l + i)) (Option.some.inj k0).symm ((ec.wA (j := k) (v := S0.2 13 (60 * l + i))).wI (v := nI (k + 1))) (em.w (j := k) (v := S0.2 13 (60 * l + i))) wI_e (by simp only [wI_2, wA_e]) wA_e (Nat.le_refl _) (fun _ => rfl)
          refine ⟨S', T', r1, r2, r3, r4, fun kk => ?_, fun kk => ?_⟩
          · rw [l_X2_comesTo_22]
            simp only [lc, gc, fv_s, a1, push_e c60 e4, fb_s, nI_1, ↓reduceIte]; exact r5 kk
          · rw [l_X12_comesTo_33]
            simp only [jm, fb_s, e5, nI_add, lm, j2, gm, a2, fv_s, a3, a1, ix_nI c60 (show 60 ≤ 2 ^ 31 by decide), fl_s, nI_1, ↓reduceIte]; exact r6 kk
        · rw [if_neg c60] at k0; cases k0
      · rw [if_neg (fun z => a2 z.1)] at k0
        by_cases c60 : k < 60
        · rw [if_pos c60] at k0
          obtain ⟨v, v1, v2⟩ := hn q hq
          obtain ⟨S', T', r1, r2, r3, r4, r5, r6⟩ := st k _ _ v (T.2 63 q) (Option.some.inj k0).symm ((ec.wA (j := k) (v := v)).wI (v := nI (k + 1))) (em.w (j := k) (v := T.2 63 q)) wI_e (by simp only [wI_2, wA_e]) wA_e (Nat.le_refl _) (fun p => by rw [em.2 63 (by decide)]; exact (v2 p).symm)
          refine ⟨S', T', r1, r2, r3, r4, fun kk => ?_, fun kk => ?_⟩
          · rw [l_X2_comesTo_22]
            simp only [lc, gc, fv_s, a1, a2, a3, named_ec ec, v1, push_e c60 e4, fb_s, nI_1, ↓reduceIte]; exact r5 kk
          · rw [l_X12_comesTo_33]
            simp only [jm, fb_s, e5, nI_add, lm, j2, gm, fv_s, a4, a5, a6, ix_nI hq (show 11 ≤ 2 ^ 31 by decide), ix_nI c60 (show 60 ≤ 2 ^ 31 by decide), fl_s, nI_1, ↓reduceIte]; exact r6 kk
        · rw [if_neg c60] at k0; cases k0
      · rw [if_pos (show -20 < S0.2 13 (60 * l + i) ∧ S0.2 13 (60 * l + i) < 0 by rw [a1]; decide), if_pos a1] at k0
        by_cases c1 : 1 ≤ k
        · rw [if_pos c1] at k0
          obtain ⟨k1, rfl⟩ : ∃ k1 : Nat, k = k1 + 1 := ⟨k - 1, by omega⟩
          have c60 : k1 < 60 := by omega
          have jk : ix 60 (nI (k1 + 1) - 1) = some k1 := by rw [nI_pred]; exact ix_nI c60 (by decide)
          obtain ⟨S', T', r1, r2, r3, r4, r5, r6⟩ := st k1 _ _ (if S.2 30 k1 = 0 then 1 else 0) (if T.2 62 k1 = 0 then 1 else 0) (Option.some.inj k0).symm (((ec.wI (v := nI k1)).wA (j := k1) (v := if S.2 30 k1 = 0 then 1 else 0)).wI (v := nI (k1 + 1))) (em.w (j := k1) (v := if T.2 62 k1 = 0 then 1 else 0)) wI_e (by simp only [wI_2, wA_e]) wA_e (by omega) (fun p => by rw [hs p k1 (by omega)])
          refine ⟨S', T', r1, r2, r3, r4, fun kk => ?_, fun kk => ?_⟩
          · rw [l_X2_comesTo_22]
            simp only [lc, gc, fv_s, a1, pop_e c60 e4, fb_s, nI_1, show ((-1 : Int32) < 0) = True from eq_true (by decide), show ((-20 : Int32) < -1) = True from eq_true (by decide), push_e c60 (S := wI S 104 (nI k1)) wI_e, ↓reduceIte]
            rw [← r5 kk]
            by_cases z : S.2 30 k1 = 0
            · rw [if_pos z, if_pos z]
            · rw [if_neg z, if_neg z]
          · rw [l_X12_comesTo_33]
            simp only [jm, fb_s, e5, nI_add, lm, j2, gm, a2, fv_s, jk, fl_s, nI_1, show ((-100 : Int32) < -133) = False from eq_false (by decide), ↓reduceIte]
            rw [← r6 kk]
            by_cases z : T.2 62 k1 = 0
            · rw [if_pos z, if_pos z]; rfl
            · rw [if_neg z, if_neg z]; rfl
        · rw [if_neg c1] at k0; cases k0
      · rw [if_pos ⟨a2, a1⟩, if_neg a3] at k0
        by_cases c2 : 2 ≤ k
        · rw [if_pos c2] at k0
          obtain ⟨k1, rfl⟩ : ∃ k1 : Nat, k = k1 + 1 + 1 := ⟨k - 2, by omega⟩
          have c60 : k1 < 60 := by omega
          have c61 : k1 + 1 < 60 := by omega
          have jk : ix 60 (nI (k1 + 1) - 1) = some k1 := by rw [nI_pred]; exact ix_nI c60 (by decide)
          have jk1 : ix 60 (nI (k1 + 1)) = some (k1 + 1) := ix_nI c61 (by decide)
          obtain ⟨S', T', r1, r2, r3, r4, r5, r6⟩ := st k1 _ _ (p_X12_done T (-100 - T0.2 55 (65 * l + (515 + i))) (S.2 30 k1) (S.2 30 (k1 + 1))) (p_X12_done T (-100 - T0.2 55 (65 * l + (515 + i))) (T.2 62 k1) (T.2 62 (k1 + 1))) (by have := Option.some.inj k0; omega) ((((ec.wI (v := nI (k1 + 1))).wI (v := nI k1)).wA (j := k1) (v := p_X12_done T (-100 - T0.2 55 (65 * l + (515 + i))) (S.2 30 k1) (S.2 30 (k1 + 1)))).wI (v := nI (k1 + 1))) (em.w (j := k1) (v := p_X12_done T (-100 - T0.2 55 (65 * l + (515 + i))) (T.2 62 k1) (T.2 62 (k1 + 1)))) wI_e (by simp only [wI_2, wA_e]) wA_e (by omega) (fun p => by rw [hs p k1 (by omega), hs p (k1 + 1) (by omega)])
          refine ⟨S', T', r1, r2, r3, r4, fun kk => ?_, fun kk => ?_⟩
          · rw [l_X2_comesTo_22]
            simp only [lc, gc, fv_s, a1, a2, a3, pop_e c61 e4, pop_e c60 (S := wI S 104 (nI (k1 + 1))) wI_e, fb_s, nI_1, a6 _ T, push_e c60 (S := wI (wI S 104 (nI (k1 + 1))) 104 (nI k1)) wI_e, wI_2, ↓reduceIte]
            exact r5 kk
          · rw [l_X12_comesTo_33]
            simp only [jm, fb_s, e5, nI_add, lm, j2, gm, fv_s, a4, a5, jk, jk1, pk_m1, fl_s, nI_1, ↓reduceIte]
            exact r6 kk
        · rw [if_neg c2] at k0; cases k0
    · have ei : i = e := by omega
      subst ei
      have k1 : k = 1 := Option.some.inj (hk.symm.trans hcd)
      subst k1
      refine ⟨S, T, ec, em, e4, fun p => hs p 0 (by decide), fun kk => ?_, fun kk => ?_⟩
      · rw [l_X2_comesTo_22, if_neg (nI_nlt (Nat.le_refl _) (by omega))]
      · rw [l_X12_comesTo_33]
        simp only [jm, fb_s, e5, nI_add, nI_nlt (Nat.le_refl (65 * l + 515 + i)) (show 65 * l + 515 + i < 2 ^ 31 by omega), ↓reduceIte]
/-- what a law comes to, on both sides -/
theorem RelR.comes (h : RelR K S (T.2 55)) {l : Nat} (hl : l < K 4) (hb : vP (K 2) zb) (hc : vP (K 5) zc) : ∃ (v w : Int32) (S' T' : FS), f_X2_comesTo S (nI l) zb zc zd = some (v, S') ∧ f_X12_comesTo T (nI l) zb zc zd = some (w, T') ∧ EC S S' ∧ EM T T' ∧ (TA K S T zb → v = w) := by
  have c4 := (h.ct 10 4 12 (by decide)).2.2
  have l12 : l < 12 := by omega
  obtain ⟨-, -, -, e, e1, e2, e3, e4, e5⟩ := h.la l hl
  obtain ⟨T1, n1, n2, n3⟩ := h.names (zd := zd) hb hc
  have t55 : T1.2 55 = T.2 55 := n1.2 55 (by decide) (by decide) (by decide)
  obtain ⟨S', T', r1, r2, r3, r4, r5, r6⟩ := ev_l (l := l) (e := e) (P := TA K S T zb) (S0 := S) (T0 := T1) (zb := zb) (zc := zc) (zd := zd) l12 e1 (by rw [t55]; exact e4) (by rw [t55]; exact e3) e5 n3 FU 0 0 (wI S 104 0) T1 (Nat.zero_le _) (FU_lt (by omega)) rfl EC.rf.wI E62.rf wI_e (fun _ j hj => absurd hj (Nat.not_lt_zero _))
  refine ⟨S'.2 30 0, T'.2 62 0, wI S' 104 (nI 0), T', ?_, ?_, r1.wI, n1.tr r2.em, r4⟩
  · unfold f_X2_comesTo
    rw [fv_s, fl_s, g10_4 l12, e2, show ∀ kk, l_X2_comesTo_22 (nI l) zb zc zd (nI e) kk FU (wI S 104 0) 0 = kk S' (nI e) from r5, pop_e (k := 0) (by decide) r3, fb_s]
  · unfold f_X12_comesTo
    rw [if_neg (nI_pos (by omega)), n2, fb_s, fv_s, show (510 : Int32) + 65 * nI l + 5 = nI (65 * l + 515) from by
      rw [show (510 : Int32) = nI 510 from rfl, show (65 : Int32) = nI 65 from rfl, show (5 : Int32) = nI 5 from rfl, pk_mul, nI_add, nI_add]; exact congrArg nI (by omega)]
    exact r6 _
end LAW2
end
section
/-! ===== pure: press, open, says ===== -/
section OPM
variable {K : Nat → Nat} {S T : FS} {za zb zc zd : Int32}
theorem hands_l (h : RelR K S (T.2 55)) {mk : Nat} (hmk : mk < 20) : ∀ (m i : Nat) (x : Int32), i ≤ K 3 → K 3 - i < m → ∃ v : Int32, (∀ k, l_X3_handsWith_16 (nI mk) S (nI (K 3)) k m x (nI i) = k v (nI (K 3))) ∧ ∀ k, l_X12_press_94 (nI mk) k m T x (nI i) = k T v (nI (K 3)) := by
  obtain ⟨k1, k2, c3⟩ := h.ct 8 3 20 (by decide)
  intro m
  induction m with
  | zero => intro i x _ hm; exact absurd hm (Nat.not_lt_zero _)
  | succ m ih =>
    intro i x hi hm
    by_cases c : i < K 3
    · have i20 : i < 20 := by omega
      obtain ⟨w1, w2⟩ := h.has c
      obtain ⟨-, p5, p6, -⟩ := h.pw i c
      have lt := nI_lt c (show K 3 < 2 ^ 31 by omega)
      by_cases kd : T.2 55 (6 * i + 390) = 2
      · by_cases em : T.2 55 (6 * i + 395) = nI mk
        · by_cases wn : p_X7_whoHas S (nI i) < 0
          · obtain ⟨v, v1, v2⟩ := ih (i + 1) x (by omega) (by omega)
            refine ⟨v, fun k => ?_, fun k => ?_⟩
            · rw [l_X3_handsWith_16]
              simp only [lt, fv_s, wn, nI_1, ↓reduceIte]; exact v1 k
            · rw [l_X12_press_94]
              simp only [k2, lt, its_0 i20, its_5 i20, fb_s, kd, em, w1, wn, fv_s, Int32.or_zero, nI_1, ↓reduceIte]; exact v2 k
          · obtain ⟨v, v1, v2⟩ := ih (i + 1) (x ||| ((1 : Int32) <<< (p_X7_whoHas S (nI i) &&& 31))) (by omega) (by omega)
            refine ⟨v, fun k => ?_, fun k => ?_⟩
            · rw [l_X3_handsWith_16]
              simp only [lt, fv_s, wn, g8_5 i20, p5 kd, em, nI_1, ↓reduceIte]; exact v1 k
            · rw [l_X12_press_94]
              simp only [k2, lt, its_0 i20, its_5 i20, fb_s, kd, em, w1, wn, fv_s, nI_1, ↓reduceIte]; exact v2 k
        · obtain ⟨v, v1, v2⟩ := ih (i + 1) x (by omega) (by omega)
          refine ⟨v, fun k => ?_, fun k => ?_⟩
          · rw [l_X3_handsWith_16]
            by_cases wn : p_X7_whoHas S (nI i) < 0
            · simp only [lt, fv_s, wn, nI_1, ↓reduceIte]; exact v1 k
            · simp only [lt, fv_s, wn, g8_5 i20, p5 kd, em, nI_1, ↓reduceIte]; exact v1 k
          · rw [l_X12_press_94]
            simp only [k2, lt, its_0 i20, its_5 i20, fb_s, kd, em, fv_s, Int32.or_zero, nI_1, ↓reduceIte]; exact v2 k
      · obtain ⟨v, v1, v2⟩ := ih (i + 1) x (by omega) (by omega)
        refine ⟨v, fun k => ?_, fun k => ?_⟩
        · rw [l_X3_handsWith_16]
          by_cases wn : p_X7_whoHas S (nI i) < 0
          · simp only [lt, fv_s, wn, nI_1, ↓reduceIte]; exact v1 k
          · simp only [lt, fv_s, wn, g8_5 i20, p6 kd, show ¬ (-1 : Int32) = nI mk from fun q => nI_m1 (by omega) q.symm, nI_1, ↓reduceIte]; exact v1 k
        · rw [l_X12_press_94]
          simp only [k2, lt, its_0 i20, fb_s, kd, fv_s, Int32.or_zero, nI_1, ↓reduceIte]; exact v2 k
    · have ei : i = K 3 := by omega
      subst ei
      refine ⟨x, fun k => ?_, fun k => ?_⟩
      · rw [l_X3_handsWith_16, if_neg (nI_nlt (Nat.le_refl _) (by omega))]
      · rw [l_X12_press_94, k2, if_neg (nI_nlt (Nat.le_refl _) (by omega))]
theorem RLe.mk {f n : Nat → Int32} {e : Nat} {x y : Int32} (h : RLe K f n) (c5 : K 5 ≤ 40) (he : e < K 5) : RLe K (upd (upd f (12 * e + 5) x) (12 * e + 4) y) (upd (upd n (12 * e + 1299) x) (12 * e + 1293) y) := by
  intro q hq
  have hh := h q hq
  by_cases z : q = e
  · subst z
    simp (disch := omega) only [pk_us, pk_un]
    exact ⟨⟨hh.1.1, hh.1.2.1, hh.1.2.2.1, trivial, hh.1.2.2.2.2⟩, ⟨hh.2.1.1, hh.2.1.2.1, hh.2.1.2.2.1, hh.2.1.2.2.2.1, trivial⟩, hh.2.2⟩
  · simp (disch := omega) only [pk_un]; exact hh
theorem op_press (h : RelR K S (T.2 55)) : OK2 S T (f_X11_press S za zb) (f_X12_press T za zb) := by
  unfold f_X11_press f_X12_press
  simp only [fb_id]
  obtain ⟨k1, k2, c3⟩ := h.ct 8 3 20 (by decide)
  have c5 := (h.ct 14 5 40 (by decide)).2.2
  have c2 := (h.ct 6 2 20 (by decide)).2.2
  have c0 := (h.ct 2 0 10 (by decide)).2.2
  rcases h.let' za with ⟨a1, m1⟩ | ⟨e, he, rfl, a1, m1⟩
  · simp only [a1, m1, ↓reduceIte]; exact ok_1 h
  · have e40 : e < 40 := by omega
    rcases h.pow zb with ⟨a2, m2⟩ | ⟨w, hw, rfl, a2, m2⟩
    · simp only [a1, m1, a2, m2, i10, ↓reduceIte]; exact ok_1 h
    · obtain ⟨w20, ⟨e0, e1, e2, e3, e4⟩, -, -⟩ := h.pwc hw
      obtain ⟨-, q1, q2, -, -, -, ⟨mk, hmk, q3⟩, -⟩ := h.pw w hw
      obtain ⟨hh, hv⟩ := h.has hw
      have kk : q_X7_isOfKind S (nI w) 2 = some (p_X12_isUnder T (T.2 55 (6 * w + 390)) 2) := h.kind hw (z := 2) (by decide)
      simp only [a1, m1, a2, m2, i10, ↓reduceIte, kk, under2, its_0 w20, fb_s]
      by_cases c : T.2 55 (6 * w + 390) = 2
      · obtain ⟨⟨l0, l1, l2, l3, l4⟩, l5, l6, l7, ⟨l8, ⟨tw, htw, l9⟩, l10⟩, l11⟩ := h.le e he
        unfold f_X3_mark p_X3_isSent
        simp only [c, i10, ↓reduceIte, of_4 e40, fb_s, fv_s, g14_6 e40, l4, hh]
        by_cases z : T.2 55 (12 * e + 1294) = -1
        · simp only [z, ltm1, ↓reduceIte]
          rcases hv with hv | ⟨p, hp, hv, lv⟩
          · have it : p_X7_isInTown S (-1) = 0 := by
              unfold p_X7_isInTown p_X7_isLiving
              rw [fHas_f (h.ct 6 2 20 (by decide)).1 (Or.inl (by decide)), if_pos rfl]; rfl
            simp only [hv, it, ltm1, fb_s, ↓reduceIte]; exact ok_3 h
          · have p20 : p < 20 := by omega
            simp only [hv, nI_pos (show p < 2 ^ 31 by omega), fb_s, man_4 p20, of_10 e40, l9, ↓reduceIte]
            rcases h.town_of hp lv with ⟨t1, t2⟩ | ⟨cc, hcc, t1, t3, t2⟩
            · simp only [t1, t2, show ¬ (-1 : Int32) = nI tw from fun q => nI_m1 (by omega) q.symm, fb_s, ↓reduceIte]; exact ok_3 h
            · simp only [t1, t2, i10, g6_4 p20, t3, g14_3 e40, l6 z, l9, ↓reduceIte]
              by_cases tt : nI cc = nI tw
              · obtain ⟨hd, d1, d2⟩ := hands_l h (mk := mk) (by omega) FU 0 0 (Nat.zero_le _) (FU_lt (by omega))
                obtain ⟨tv, t4, t5⟩ := h.those (nI tw) (S' := S) (T' := T) rfl rfl (fun _ _ => rfl)
                have dd : q_X3_handsWith S (nI mk) = some hd := by
                  unfold q_X3_handsWith; rw [fv_s, k1]; exact d1 _
                simp only [tt, its_5 w20, q3, fb_s, g8_5 w20, q1 c, dd, t4, g14_4 e40, l3, ↓reduceIte]
                rw [show ∀ k, l_X12_press_94 (nI mk) k FU T 0 0 = k T hd (nI (K 3)) from d2]
                simp only [of_10 e40, l9, fb_s, t5, of_3 e40]
                have fin : ∀ x y : Int32, OK2 S T (f_X11_told (wA (wA S 15 (12 * e + 5) x) 15 (12 * e + 4) y) (p_J6_bitCount_0f7a4 (wA (wA S 15 (12 * e + 5) x) 15 (12 * e + 4) y) y)) (some (p_J6_bitCount_0f7a4 (wA (wA S 15 (12 * e + 5) x) 15 (12 * e + 4) y) y, wA (wA T 55 (12 * e + 1299) x) 55 (12 * e + 1293) y)) := by
                  intro x y
                  refine okt (K := K) ?_ ⟨⟨rfl, rfl, rfl, rfl⟩, rfl, rfl⟩ ⟨⟨rfl, rfl, rfl, rfl, rfl⟩, rfl, rfl⟩
                  simp only [wA_e]
                  refine h.onE ((CQ.rf.wA (by decide) (by decide)).wA (by decide) (by decide)) ((NQ.rf.w (Or.inl (by omega))).w (Or.inl (by omega))) ?_ ?_
                  · simp (disch := omega) only [pk_un, wA_1]; exact h.1.2
                  · simp only [wA_e]; exact h.le.mk c5 he
                have an : hd &&& tv = tv &&& hd := Int32.and_comm _ _
                by_cases y0 : T.2 55 (12 * e + 1293) = 0
                · simp only [y0, fl_s, s14_5 e40, s14_4 e40, writes_9 e40, writes_3 e40, of_3 e40, fb_s, wA_e, g14_4 e40, ↓reduceIte, an]
                  have yy : ∀ v : Int32, upd (T.2 55) (12 * e + 1299) v (12 * e + 1293) = 0 := fun v => by rw [pk_un (by omega), y0]
                  simp only [yy, pk_us, bits_e (S := wA (wA S 15 (12 * e + 5) (tv &&& hd)) 15 (12 * e + 4) (0 ||| ((1 : Int32) <<< (nI mk &&& 31)))), fb_s]
                  exact fin _ _
                · simp only [y0, fl_s, s14_5 e40, s14_4 e40, g14_5 e40, l5.2.2.2.2, writes_9 e40, writes_3 e40, of_3 e40, of_9 e40, fb_s, wA_e, g14_4 e40, ↓reduceIte, an]
                  have yy : ∀ v : Int32, upd (T.2 55) (12 * e + 1299) v (12 * e + 1293) = T.2 55 (12 * e + 1293) := fun v => by rw [pk_un (by omega)]
                  simp only [yy, pk_us, bits_e (S := wA (wA S 15 (12 * e + 5) (T.2 55 (12 * e + 1299) &&& (tv &&& hd))) 15 (12 * e + 4) (T.2 55 (12 * e + 1293) ||| ((1 : Int32) <<< (nI mk &&& 31)))), fb_s]
                  exact fin _ _
              · simp only [tt, fb_s, ↓reduceIte]; exact ok_3 h
        · simp only [z, i10, show ¬ T.2 55 (12 * e + 1294) < 0 from fun q => z ((l8.lt (by omega)).mp q), fb_s, ↓reduceIte]; exact ok_3 h
      · simp only [c, ↓reduceIte]; exact ok_5 h
theorem op_says (h : RelR K S (T.2 55)) : OK1 S T (f_X11_says S za zb zc) (f_X12_says T za zb zc) := by
  unfold f_X11_says f_X12_says
  simp only [fb_id]
  obtain ⟨d1, d2, d3⟩ := h.ct 102 8 2000 (by decide)
  have go : ∀ {l : Nat}, l < K 4 → vP (K 2) zb → vP (K 5) zc → OK1 S T (f_X2_comesTo S (nI l) zb zc (S.1 102)) (f_X12_comesTo T (nI l) zb zc (T.2 55 8)) := by
    intro l hl hb hc
    obtain ⟨v, w, S', T', r1, r2, r3, r4, -⟩ := h.comes (zd := nI (K 8)) hl hb hc
    rw [d1, d2]
    exact ⟨v, w, S', T', r1, r2, ⟨K, by rw [r4.me.2]; exact h.ce r3.ce⟩, r3.ce.1, r4.me.1⟩
  rcases h.law za with ⟨a1, m1⟩ | ⟨l, hl, rfl, a1, m1⟩
  · by_cases b0 : zb = -1
    · by_cases c0 : zc = -1
      · simp only [b0, c0, a1, m1, ↓reduceIte]; exact (ok_1 h).one
      · simp only [b0, c0, a1, m1, ite_self, ↓reduceIte]; exact (ok_1 h).one
    · by_cases c0 : zc = -1
      · simp only [b0, c0, a1, m1, ite_self, ↓reduceIte]; exact (ok_1 h).one
      · simp only [b0, c0, a1, m1, ite_self, ↓reduceIte]; exact (ok_1 h).one
  · by_cases b0 : zb = -1
    · by_cases c0 : zc = -1
      · subst b0; subst c0
        simp only [a1, m1, i10, ↓reduceIte]; exact go hl (Or.inl rfl) (Or.inl rfl)
      · rcases h.let' zc with ⟨e1, e2⟩ | ⟨e, he, rfl, e1, e2⟩
        · simp only [b0, c0, a1, m1, e1, e2, i10, ↓reduceIte]; exact (ok_1 h).one
        · simp only [b0, c0, a1, m1, e1, e2, i10, ↓reduceIte]; rw [← b0]; exact go hl (Or.inl b0) (Or.inr ⟨e, he, rfl⟩)
    · rcases h.per zb with ⟨p1, p2⟩ | ⟨p, hp, rfl, p1, p2⟩
      · simp only [b0, a1, m1, p1, p2, i10, ite_self, ↓reduceIte]; exact (ok_1 h).one
      · by_cases c0 : zc = -1
        · simp only [b0, c0, a1, m1, p1, p2, i10, ↓reduceIte]; rw [← c0]; exact go hl (Or.inr ⟨p, hp, rfl⟩) (Or.inl c0)
        · rcases h.let' zc with ⟨e1, e2⟩ | ⟨e, he, rfl, e1, e2⟩
          · simp only [b0, c0, a1, m1, p1, p2, e1, e2, i10, ↓reduceIte]; exact (ok_1 h).one
          · simp only [b0, c0, a1, m1, p1, p2, e1, e2, i10, ↓reduceIte]; exact go hl (Or.inr ⟨p, hp, rfl⟩) (Or.inr ⟨e, he, rfl⟩)
end OPM
end
section
/-! ===== pure: open, obey ===== -/
section OPO
variable {K : Nat → Nat} {S T : FS} {za zb zc zd : Int32}
/-- a law in force, as both ask for it -/
theorem RelR.rul (h : RelR K S (T.2 55)) (u d k : Int32) (hb : vP (K 2) zb) (hc : vP (K 5) zc) : ∃ (v w : Int32) (S' T' : FS), f_X2_ruling S u d k zb zc = some (v, S') ∧ f_X12_comesTo T (lg (T.2 55) u d k (K 4)) zb zc d = some (w, T') ∧ EC S S' ∧ EM T T' ∧ (TA K S T zb → v = w) := by
  have c4 := (h.ct 10 4 12 (by decide)).2.2
  unfold f_X2_ruling
  rw [(h.inF u d k).1, fb_s]
  rcases lg_c (n := T.2 55) (za := u) (zb := d) (zc := k) (K 4) with e | ⟨j, hj, e⟩
  · rw [e, if_pos (by decide)]
    refine ⟨1, 1, S, T, rfl, ?_, EC.rf, EM.rf, fun _ => rfl⟩
    unfold f_X12_comesTo
    rw [if_pos (by decide)]
  · rw [e, if_neg (nI_pos (by omega))]
    obtain ⟨v, w, S', T', r1, r2, r3⟩ := h.comes (zd := d) hj hb hc
    exact ⟨v, w, S', T', by rw [r1, fb_s], r2, r3⟩
theorem RelR.taL (h : RelR K S (T.2 55)) {p : Nat} (hp : p < K 2) (hl : T.2 55 (14 * p + 119) = -1) : TA K S T (nI p) := by
  intro q hq e
  have c2 := (h.ct 6 2 20 (by decide)).2.2
  have : p = q := nI_inj (by omega) (by omega) e
  subst this
  rcases (h.pe p hp).2.2.1 with ⟨-, -, a3, -⟩ | ⟨-, ⟨d, a1, a2⟩, -⟩
  · exact a3
  · rw [hl] at a2; exact absurd a2.symm (nI_m1 (by omega))
theorem RLe.opn {f n : Nat → Int32} {e : Nat} {x y : Int32} (h : RLe K f n) (c5 : K 5 ≤ 40) (he : e < K 5) (hs : n (12 * e + 1294) ≠ -1) : RLe K (upd (upd f (12 * e + 9) x) (12 * e + 10) y) (upd (upd n (12 * e + 1296) x) (12 * e + 1297) y) := by
  intro q hq
  have hh := h q hq
  by_cases z : q = e
  · subst z
    simp (disch := omega) only [pk_us, pk_un]
    exact ⟨hh.1, ⟨hh.2.1.1, trivial, trivial, hh.2.1.2.2.2⟩, hh.2.2.1, hh.2.2.2.1, hh.2.2.2.2.1, fun _ => hs⟩
  · simp (disch := omega) only [pk_un]; exact hh
theorem op_open (h : RelR K S (T.2 55)) : OK2 S T (f_X11_open S za) (f_X12_open T za) := by
  unfold f_X11_open f_X12_open
  simp only [fb_id]
  have c5 := (h.ct 14 5 40 (by decide)).2.2
  have c2 := (h.ct 6 2 20 (by decide)).2.2
  have c0 := (h.ct 2 0 10 (by decide)).2.2
  obtain ⟨d1, d2, d3⟩ := h.ct 102 8 2000 (by decide)
  rcases h.let' za with ⟨a1, m1⟩ | ⟨e, he, rfl, a1, m1⟩
  · simp only [a1, m1, ↓reduceIte]; exact ok_1 h
  · have e40 : e < 40 := by omega
    obtain ⟨⟨l0, l1, l2, l3, l4⟩, ⟨l5, l5b, l5c, l5d⟩, l6, l7, ⟨l8, ⟨tw, htw, l9⟩, l10⟩, l11⟩ := h.le e he
    unfold f_X3_unfold p_X3_isSent
    simp only [a1, m1, i10, ↓reduceIte, of_4 e40, of_5 e40, of_6 e40, fb_s, fv_s, g14_6 e40, g14_8 e40, g14_9 e40, l4, l5, l5b, d1, d2]
    rcases l8 with z | ⟨p, hp, z⟩
    · simp only [z, ltm1, fb_s, ↓reduceIte]; exact ok_3 h
    · have p20 : p < 20 := by omega
      have zm : ¬ nI p = -1 := nI_m1 (by omega)
      simp only [z, zm, nI_pos (show p < 2 ^ 31 by omega), i10, ↓reduceIte]
      by_cases c8 : nI (K 8) < T.2 55 (12 * e + 1295)
      · simp only [c8, fb_s, ↓reduceIte]; exact ok_3 h
      · by_cases c9 : T.2 55 (12 * e + 1296) < 0
        · rcases h.liv hp with ⟨v1, v2, v3⟩ | ⟨v1, v2, v5, v3, v4⟩
          · rcases h.town_of hp v1 with ⟨t1, t2⟩ | ⟨cc, hcc, t1, t3, t2⟩
            · simp only [c8, c9, v3, fb_s, i10, man_4 p20, of_10 e40, l9, t1, t2, show ¬ (-1 : Int32) = nI tw from fun q => nI_m1 (by omega) q.symm, ↓reduceIte]; exact ok_3 h
            · simp only [c8, c9, v3, fb_s, i10, man_4 p20, of_10 e40, l9, t1, t2, g6_4 p20, t3, g14_7 e40, l7 (by rw [z]; exact zm), ↓reduceIte]
              by_cases tt : nI cc = nI tw
              · obtain ⟨T1, e1, g1⟩ := h.knw hp
                have en := e1.2 55 (by decide)
                have h1 : RelR K S (T1.2 55) := by rw [en]; exact h
                obtain ⟨v, w, S', T', r1, r2, r3, r4, r5⟩ := h1.rul (zb := nI p) (zc := nI e) 1 (nI (K 8)) (p_X7_knownTo S (nI p)) (Or.inr ⟨p, hp, rfl⟩) (Or.inr ⟨e, he, rfl⟩)
                have vw := r5 (h1.taL hp (by rw [en]; exact v1))
                subst vw
                have h2 : RelR K S' (T'.2 55) := by rw [r4.me.2]; exact h1.ce r3.ce
                obtain ⟨d1', d2', -⟩ := h2.ct 102 8 2000 (by decide)
                have d2'' : T1.2 55 8 = nI (K 8) := by rw [en]; exact d2
                have fin : ∀ y : Int32, OK2 S T (f_X11_told (wA (wA S' 15 (12 * e + 9) (nI (K 8))) 15 (12 * e + 10) y) y) (some (y, wA (wA T' 55 (12 * e + 1296) (nI (K 8))) 55 (12 * e + 1297) y)) := by
                  intro y
                  refine okt (K := K) ?_ (r3.ce.1.tr ⟨⟨rfl, rfl, rfl, rfl⟩, rfl, rfl⟩) ((e1.me.1.tr r4.me.1).tr ⟨⟨rfl, rfl, rfl, rfl, rfl⟩, rfl, rfl⟩)
                  simp only [wA_e]
                  refine h2.onE ((CQ.rf.wA (by decide) (by decide)).wA (by decide) (by decide)) ((NQ.rf.w (Or.inl (by omega))).w (Or.inl (by omega))) ?_ ?_
                  · simp (disch := omega) only [pk_un, wA_1]; exact h2.1.2
                  · simp only [wA_e]
                    refine h2.le.opn c5 he ?_
                    rw [r4.me.2, en, z]; exact zm
                simp only [tt, ↓reduceIte, g1, fb_s, (h1.inF 1 (nI (K 8)) (p_X7_knownTo S (nI p))).2, d2'', r1, r2, d1', d2', writes_6 e40, writes_7 e40, s14_9 e40, s14_10 e40, fl_s]
                by_cases y0 : v = 0
                · simp only [y0, ↓reduceIte, fb_s]; exact fin 0
                · simp only [y0, ↓reduceIte, fb_s]; exact fin 1
              · simp only [tt, fb_s, ↓reduceIte]; exact ok_3 h
          · have it : p_X7_isInTown S (nI p) = 0 := by
              unfold p_X7_isInTown; rw [v3, if_pos rfl]
            simp only [c8, c9, v4, it, fb_s, ↓reduceIte]; exact ok_3 h
        · simp only [c8, c9, fb_s, ↓reduceIte]; exact ok_3 h
/-- obeyed, on both sides -/
theorem RelR.mkd (h : RelR K S (T.2 55)) {n' : Nat → Int32} {e : Nat} (he : e < K 5) (hn : n' = upd (T.2 55) (12 * e + 1298) 1) : RelR K (wA S 15 (12 * e + 11) 1) n' := by
  have c5 := (h.ct 14 5 40 (by decide)).2.2
  subst hn
  refine h.onE (CQ.rf.wA (by decide) (by decide)) (NQ.rf.w (Or.inl (by omega))) ?_ ?_
  · simp (disch := omega) only [pk_un, wA_1]; exact h.1.2
  · simp only [wA_e]
    intro q hq
    have hh := h.le q hq
    by_cases z : q = e
    · subst z
      simp (disch := omega) only [pk_us, pk_un]
      exact ⟨hh.1, ⟨hh.2.1.1, hh.2.1.2.1, hh.2.1.2.2.1, trivial, hh.2.1.2.2.2.2⟩, hh.2.2.1, hh.2.2.2.1, ⟨hh.2.2.2.2.1.1, hh.2.2.2.2.1.2.1, hh.2.2.2.2.1.2.2.1, hh.2.2.2.2.1.2.2.2.1, ⟨1, by decide, rfl⟩⟩, hh.2.2.2.2.2⟩
    · simp (disch := omega) only [pk_un]; exact hh
/-- what a letter asks for: it can't be, or is done -/
def OB (K : Nat → Nat) (S T : FS) (e : Nat) (s w p : Int32) : Prop :=
  (f_X3_carryOutSort S s w p = some (-1000002, S) ∧ ∃ T1 : FS, f_X12_cannot T (nI e) = some (1, T1) ∧ ME T T1) ∨
  ∃ (v : Int32) (S' T1 T' : FS), f_X3_carryOutSort S s w p = some (v, S') ∧ v ≠ -1000002 ∧ f_X12_cannot T (nI e) = some (0, T1) ∧ f_X12_obeys (wA T1 55 (12 * e + 1298) 1) (nI e) = some (v, T') ∧ RelR K (wA S' 15 (12 * e + 11) 1) (T'.2 55) ∧ CX S S' ∧ MX T T'
theorem nI_nf {a : Nat} (h : a < 2 ^ 31) : nI a ≠ -1000002 := fun q => nI_pos h (by rw [q]; decide)
theorem RelR.payd (h : RelR K S (T.2 55)) {p : Nat} (hp : p < K 2) (x : Int32) : RelR K (wA (wI S 103 (T.2 55 9 - x)) 7 (14 * p + 7) (T.2 55 (14 * p + 117) + x)) ((wA (wA T 55 9 (T.2 55 9 - x)) 55 (14 * p + 117) (T.2 55 (14 * p + 117) + x)).2 55) := by
  have c20 := (h.ct 6 2 20 (by decide)).2.2
  simp only [wA_e]
  refine h.onP ((CQ.rf.wI (Or.inl rfl) (by decide) (by decide)).wA (by decide) (by decide)) ((NQ.rf.w (Or.inr (Or.inl rfl))).w (Or.inl (by omega))) ?_ ?_ (h.se.n9.w (c := 7) (by decide)) ?_ (fun x hx => hx.n9.w (c := 7) (by decide)) (fun q hq => by simp (disch := omega) only [pk_un])
  · rw [wA_1, wI_e, pk_un (by omega), pk_us]
  · rw [wA_e, wI_2]; exact (h.pe.n9 c20).w c20 hp (Or.inl rfl)
  · rw [wA_e, wI_2]; exact (h.st.n9 c20).w c20 (c := 7) (by decide) (by decide)
theorem RelR.ob0 (h : RelR K S (T.2 55)) {e p w : Nat} (he : e < K 5) (hp : p < K 2) (hw : w ≤ 999) (es : T.2 55 (12 * e + 1291) = 0) (ew : T.2 55 (12 * e + 1292) = nI w) (ep : T.2 55 (12 * e + 1294) = nI p) : OB K S T e 0 (nI w) (nI p) := by
  have c5 := (h.ct 14 5 40 (by decide)).2.2
  have c2 := (h.ct 6 2 20 (by decide)).2.2
  have e40 : e < 40 := by omega
  have p20 : p < 20 := by omega
  have ch : S.1 103 = T.2 55 9 := h.1.2
  unfold OB f_X3_carryOutSort f_X7_payFromChest f_X12_cannot
  simp only [of_4 e40, of_2 e40, of_1 e40, fb_s, es, ew, ep, ↓reduceIte, ch]
  by_cases c : T.2 55 9 < nI w
  · left
    simp only [c, ↓reduceIte, fb_s]
    exact ⟨trivial, T, rfl, ME.rf⟩
  · right
    simp only [c, ↓reduceIte, fb_s, fl_s, g6_7 p20, s6_7 p20, wI_2, wA_1, wI_e, (h.pe p hp).2.1.1]
    obtain ⟨c9, b9, e9⟩ := nI_of (x := T.2 55 9) (fun q => c (Int32.lt_of_lt_of_le q (nI_pos' (by omega))))
    have le : w ≤ c9 := by
      rw [e9] at c
      apply Classical.byContradiction
      intro q; exact c (nI_lt (by omega) (by omega))
    refine ⟨_, _, T, wA (wA (wA T 55 (12 * e + 1298) 1) 55 9 (T.2 55 9 - nI w)) 55 (14 * p + 117) (T.2 55 (14 * p + 117) + nI w), rfl, ?_, rfl, ?_, ?_, ⟨⟨rfl, rfl, rfl, rfl⟩, rfl, rfl⟩, ?_⟩
    · rw [e9, pk_sub le]; exact nI_nf (by omega)
    · unfold f_X12_obeys
      have q4 : (wA T 55 (12 * e + 1298) 1).2 55 (12 * e + 1294) = nI p := by rw [wA_e, pk_un (by omega), ep]
      have q2 : (wA T 55 (12 * e + 1298) 1).2 55 (12 * e + 1292) = nI w := by rw [wA_e, pk_un (by omega), ew]
      have q1 : (wA T 55 (12 * e + 1298) 1).2 55 (12 * e + 1291) = 0 := by rw [wA_e, pk_un (by omega), es]
      have q9 : (wA T 55 (12 * e + 1298) 1).2 55 9 = T.2 55 9 := by rw [wA_e, pk_un (by omega)]
      simp only [of_4 e40, of_2 e40, of_1 e40, fb_s, q4, q2, q1, q9, fl_s, man_7 p20, sets_7 p20, ↓reduceIte]
      have q7 : (wA (wA T 55 (12 * e + 1298) 1) 55 9 (T.2 55 9 - nI w)).2 55 (14 * p + 117) = T.2 55 (14 * p + 117) := by rw [wA_e, wA_e, pk_un (by omega), pk_un (by omega)]
      rw [q7]
      have q8 : (wA (wA (wA T 55 (12 * e + 1298) 1) 55 9 (T.2 55 9 - nI w)) 55 (14 * p + 117) (T.2 55 (14 * p + 117) + nI w)).2 55 9 = T.2 55 9 - nI w := by
        simp only [wA_e]; rw [pk_un (by omega), pk_us]
      rw [q8]
    · refine (h.payd hp (nI w)).mkd (e := e) he ?_
      simp only [wA_e]
      rw [upd_cm (a := 12 * e + 1298) (b := 9) (by omega), upd_cm (a := 12 * e + 1298) (b := 14 * p + 117) (by omega)]
    · exact ⟨⟨rfl, rfl, rfl, rfl, rfl⟩, rfl, rfl⟩
theorem ua_cm {A : Nat → Nat → Int32} {a b : Nat} {f g : Nat → Int32} (h : a ≠ b) : ua (ua A a f) b g = ua (ua A b g) a f := by
  funext j
  unfold ua
  by_cases c : j = b
  · subst c; rw [if_pos rfl, if_neg (fun q => h q.symm), if_pos rfl]
  · rw [if_neg c, if_neg c]
theorem fP_mk {a R W j : Nat} {x v c u : Int32} (h : 15 ≠ a + 1) : fP a R W (wA S 15 j u) x c v = wA (fP a R W S x c v) 15 j u := by
  unfold fP wA
  simp only
  rw [ua_cm h, ua_ne (fun q => h q.symm), ua_ne h]
theorem setOut_mk {j : Nat} {u a b : Int32} : f_X7_setOut (wA S 15 j u) a b = fb (f_X7_setOut S a b) (fun r => some (r.1, wA r.2 15 j u)) := by
  unfold f_X7_setOut
  rw [show p_X7_wayBetween (wA S 15 j u) (fG 6 20 14 (wA S 15 j u) a 4) b = p_X7_wayBetween S (fG 6 20 14 S a 4) b from rfl, show p_X7_knownTo (wA S 15 j u) a = p_X7_knownTo S a from rfl]
  simp only [fv_s, fl_s]
  by_cases c : p_X7_wayBetween S (fG 6 20 14 S a 4) b < 0
  · rw [if_pos c, if_pos c, fb_s]
  · rw [if_neg c, if_neg c]
    by_cases d : 0 < p_X7_wayBetween S (fG 6 20 14 S a 4) b
    · rw [if_pos d, if_pos d, fb_s]
      simp only [fP_mk (S := _) (show (15 : Nat) ≠ 6 + 1 by decide), wA_1]
    · rw [if_neg d, if_neg d, fb_s]; rfl
theorem RelR.ob1 (h : RelR K S (T.2 55)) {e p w : Nat} (he : e < K 5) (hp : p < K 2) (hl : T.2 55 (14 * p + 119) = -1) (hw : w ≤ 999) (es : T.2 55 (12 * e + 1291) = 1) (ew : T.2 55 (12 * e + 1292) = nI w) (ep : T.2 55 (12 * e + 1294) = nI p) : OB K S T e 1 (nI w) (nI p) := by
  have c5 := (h.ct 14 5 40 (by decide)).2.2
  have c2 := (h.ct 6 2 20 (by decide)).2.2
  obtain ⟨w1, w2, c0⟩ := h.ct 2 0 10 (by decide)
  obtain ⟨d1, d2, d3⟩ := h.ct 102 8 2000 (by decide)
  have k0 : 1 ≤ K 0 := h.se.2 (by omega)
  have e40 : e < 40 := by omega
  have p20 : p < 20 := by omega
  have t0 : w % K 0 < K 0 := Nat.mod_lt _ (by omega)
  have rm : nI w - nI w / nI (K 0) * nI (K 0) = nI (w % K 0) := pk_rem (by omega) (by omega) (by omega)
  have nzk : nz (nI (K 0)) = some () := by unfold nz; rw [if_neg (nI_ne0 (by omega) (by omega))]
  unfold OB f_X3_carryOutSort f_X3_sendAway f_X12_cannot
  simp only [of_4 e40, of_2 e40, of_1 e40, fb_s, es, ew, ep, i10, ↓reduceIte, fv_s, w1, w2, show (0 : Int32) < nI (K 0) from nI_lt (a := 0) (by omega) (by omega), man_4 p20, nzk, rm]
  rcases h.town_of hp hl with ⟨t1, t2⟩ | ⟨c, hc, t1, t3, t2⟩
  · left
    simp only [t1, t2, ltm1, ↓reduceIte, fb_s]
    exact ⟨trivial, T, rfl, ME.rf⟩
  · simp only [t1, t2, i10, nI_pos (show c < 2 ^ 31 by omega), ↓reduceIte, fb_s]
    obtain ⟨T1, x, e1, g1, o1⟩ := h.farOf hc t0
    have en := e1.2 55 (by decide)
    rw [g1]
    simp only [fb_s]
    rcases o1 with ⟨o1, o2⟩ | ⟨d, o1, rfl, o2⟩
    · left
      rw [if_pos o1]
      refine ⟨?_, T1, rfl, e1.me⟩
      unfold f_X7_setOut
      simp only [g6_4 p20, t3, o2, fv_s, ltm2, ↓reduceIte, fb_s]
    · right
      rw [if_neg (nI_pos (by omega))]
      have hm : RelR K (wA S 15 (12 * e + 11) 1) ((wA T1 55 (12 * e + 1298) 1).2 55) := h.mkd he (by rw [wA_e, en])
      have q : ∀ j : Nat, j ≠ 12 * e + 1298 → (wA T1 55 (12 * e + 1298) 1).2 55 j = T.2 55 j := fun j hj => by rw [wA_e, pk_un hj, en]
      obtain ⟨T', S1, y, v, y1, y2, y3, y4, y5, y6, -, -, -⟩ := hm.goes (t := w % K 0) hp (by rw [q _ (by omega)]; exact hl) (by rw [q _ (by omega)]; exact t1) hc t0
      rw [setOut_mk] at y2
      obtain ⟨r, r1, r2⟩ := fb_some y2
      obtain ⟨rv, rS⟩ := Prod.mk.inj (Option.some.inj r2)
      have vn : r.1 = nI (K 8 + d) := by
        unfold f_X7_setOut at r1
        simp only [g6_4 p20, t3, o2, fv_s, nI_pos (show d < 2 ^ 31 by omega), ↓reduceIte, fl_s] at r1
        split at r1
        · rw [← Option.some.inj r1]
          show S.1 102 + nI d = _
          rw [d1, nI_add]
        · rw [← Option.some.inj r1]
          show S.1 102 + nI d = _
          rw [d1, nI_add]
      have yv : y = v := by
        rcases y6 with ⟨-, z⟩ | ⟨dd, -, z1, z2⟩
        · rw [← rv, vn] at z; exact absurd z (nI_nf (by omega))
        · rw [z1, z2]
      refine ⟨r.1, r.2, T1, T', by rw [r1]; rfl, by rw [vn]; exact nI_nf (by omega), rfl, ?_, ?_, ?_, ?_⟩
      · unfold f_X12_obeys
        simp only [of_4 e40, of_2 e40, of_1 e40, fb_s, q (12 * e + 1294) (by omega), q (12 * e + 1292) (by omega), q (12 * e + 1291) (by omega), q 0 (by omega), es, ew, ep, i10, ↓reduceIte, w2, nzk, rm, y1]
        rw [yv, rv]
      · rw [rS]; exact y3
      · rw [← rS] at y4; exact y4
      · exact e1.me.1.tr (MX.tr ⟨⟨rfl, rfl, rfl, rfl, rfl⟩, rfl, rfl⟩ y5)
theorem RelR.ob2 (h : RelR K S (T.2 55)) {e p w : Nat} (he : e < K 5) (hp : p < K 2) (hl : T.2 55 (14 * p + 119) = -1) (hw9 : w ≤ 999) (es : T.2 55 (12 * e + 1291) = 2) (ew : T.2 55 (12 * e + 1292) = nI w) (ep : T.2 55 (12 * e + 1294) = nI p) : OB K S T e 2 (nI w) (nI p) := by
  have c5 := (h.ct 14 5 40 (by decide)).2.2
  have c2 := (h.ct 6 2 20 (by decide)).2.2
  have c3 := (h.ct 8 3 20 (by decide)).2.2
  have e40 : e < 40 := by omega
  have p20 : p < 20 := by omega
  unfold OB f_X3_carryOutSort f_X7_handOver f_X7_setLent f_X12_cannot
  simp only [of_4 e40, of_2 e40, of_1 e40, fb_s, es, ew, ep, show ((2 : Int32) = 0) = False from eq_false (by decide), show ((2 : Int32) = 1) = False from eq_false (by decide), ↓reduceIte]
  rcases h.pow (nI w) with ⟨a1, m1⟩ | ⟨w', hw, ew', a1, m1⟩
  · left
    simp only [a1, m1, ↓reduceIte]
    exact ⟨trivial, T, rfl, ME.rf⟩
  · right
    simp only [a1, m1, i10, ↓reduceIte]
    have ww : w' = w := (nI_inj (by omega) (by omega) ew').symm
    subst ww
    obtain ⟨w20, ⟨f0, f1, f2, f3, f4⟩, b1, b2⟩ := h.pwc hw
    have hv : vL (K 2) (T.2 55) (T.2 55 (6 * w' + 391)) := (h.pw w' hw).2.2.2.2.1
    simp only [fb_s, fl_s, s8_3 w20, s8_4 w20, s8_2 w20, g8_2 w20]
    have q2 : (wA (wA S 9 (6 * w' + 3) (-1)) 9 (6 * w' + 4) (-1)).2 9 (6 * w' + 2) = T.2 55 (6 * w' + 391) := by
      rw [wA_e, wA_e, pk_un (by omega), pk_un (by omega)]; exact f2
    rw [q2]
    refine ⟨_, _, T, wA (wA (wA (wA T 55 (12 * e + 1298) 1) 55 (6 * w' + 391) (nI p)) 55 (6 * w' + 392) (-1)) 55 (6 * w' + 393) (-1), rfl, ?_, rfl, ?_, ?_, ⟨⟨rfl, rfl, rfl, rfl⟩, rfl, rfl⟩, ?_⟩
    · rcases hv with z | ⟨q, q1, z, -⟩
      · rw [z]; decide
      · rw [z]; exact nI_nf (by omega)
    · unfold f_X12_obeys f_X12_comesBack
      have q : ∀ j : Nat, j ≠ 12 * e + 1298 → (wA T 55 (12 * e + 1298) 1).2 55 j = T.2 55 j := fun j hj => by rw [wA_e, pk_un hj]
      simp only [of_4 e40, of_2 e40, of_1 e40, fb_s, q (12 * e + 1294) (by omega), q (12 * e + 1292) (by omega), q (12 * e + 1291) (by omega), es, ew, ep, show ((2 : Int32) = 0) = False from eq_false (by decide), show ((2 : Int32) = 1) = False from eq_false (by decide), ↓reduceIte, its_1 w20, q (6 * w' + 391) (by omega), makes_1 w20, makes_2 w20, makes_3 w20]
    · refine RelR.mkd (T := wA (wA (wA T 55 (6 * w' + 391) (nI p)) 55 (6 * w' + 392) (-1)) 55 (6 * w' + 393) (-1)) ?_ (e := e) he ?_
      · simp only [wA_e]
        refine h.onW (((CQ.rf.wA (by decide) (by decide)).wA (by decide) (by decide)).wA (by decide) (by decide)) (((NQ.rf.w (Or.inl (by omega))).w (Or.inl (by omega))).w (Or.inl (by omega))) ?_ ?_
        · simp (disch := omega) only [pk_un, wA_1]; exact h.1.2
        · simp only [wA_e]
          rw [upd_cm (a := 6 * w' + 391) (b := 6 * w' + 392) (by omega), upd_cm (a := 6 * w' + 391) (b := 6 * w' + 393) (by omega)]
          have r1 := h.pw.lent c3 c2 hw (x := -1) (y := -1) (Or.inl rfl) (fun _ => rfl)
          exact r1.hold c3 c2 hw (((show vL (K 2) (T.2 55) (nI p) from Or.inr ⟨p, hp, rfl, hl⟩).o c2 (by omega)).o c2 (by omega))
      · simp only [wA_e]
        rw [upd_cm (a := 12 * e + 1298) (b := 6 * w' + 391) (by omega), upd_cm (a := 12 * e + 1298) (b := 6 * w' + 392) (by omega), upd_cm (a := 12 * e + 1298) (b := 6 * w' + 393) (by omega)]
    · exact ⟨⟨rfl, rfl, rfl, rfl, rfl⟩, rfl, rfl⟩
end OPO
end
section
/-! ===== pure: obey, the rest ===== -/
section OPO3
variable {K : Nat → Nat} {S T : FS} {za zb zc zd : Int32}
theorem RelR.strk (h : RelR K S (T.2 55)) {l : Nat} (hl : l < K 4) : RelR K (wA S 11 (6 * l + 3) (nI (K 8))) ((wA T 55 (65 * l + 513) (nI (K 8))).2 55) := by
  obtain ⟨k1, k2, c4⟩ := h.ct 10 4 12 (by decide)
  obtain ⟨d1, d2, d3⟩ := h.ct 102 8 2000 (by decide)
  simp only [wA_e]
  refine h.onL (CQ.rf.wA (by decide) (by decide)) (NQ.rf.w (Or.inl (by omega))) ?_ ?_
  · rw [wA_1, pk_un (by omega)]; exact h.1.2
  · rw [wA_e, wA_n (by decide)]
    intro m hm
    obtain ⟨g1, ⟨d, g2, g3, g4⟩, g5, e, g6, g7, g8, g9, g10⟩ := h.la m hm
    have q4 : ∀ l' : Nat, l' < m → ∃ d' : Nat, d' ≤ d ∧ upd (T.2 55) (65 * l + 513) (nI (K 8)) (65 * l' + 512) = nI d' := fun l' hl' => by
      rw [pk_un (by omega)]; exact g4 l' hl'
    have q9 : ∀ i : Nat, i < e → cdM (S.2 13 (60 * m + i)) (upd (T.2 55) (65 * l + 513) (nI (K 8)) (65 * m + (515 + i))) := fun i hi => by
      rw [pk_un (by omega)]; exact g9 i hi
    by_cases q : m = l
    · subst q
      simp (disch := omega) only [pk_us, pk_un] at q4 q9 ⊢
      exact ⟨⟨g1.1, g1.2.1, g1.2.2.1, trivial⟩, ⟨d, g2, g3, q4⟩, Or.inr ⟨K 8, d3, rfl⟩, e, g6, g7, g8, q9, g10⟩
    · simp (disch := omega) only [pk_un]
      exact ⟨g1, ⟨d, g2, g3, g4⟩, g5, e, g6, g7, g8, q9, g10⟩
theorem RelR.ob3 (h : RelR K S (T.2 55)) {e p w : Nat} (he : e < K 5) (hp : p < K 2) (hw9 : w ≤ 999) (es : T.2 55 (12 * e + 1291) = 3) (ew : T.2 55 (12 * e + 1292) = nI w) (ep : T.2 55 (12 * e + 1294) = nI p) : OB K S T e 3 (nI w) (nI p) := by
  have c5 := (h.ct 14 5 40 (by decide)).2.2
  have c4 := (h.ct 10 4 12 (by decide)).2.2
  obtain ⟨d1, d2, d3⟩ := h.ct 102 8 2000 (by decide)
  have e40 : e < 40 := by omega
  unfold OB f_X3_carryOutSort f_X3_strikeFor f_X2_strikeOut p_X2_isStruck f_X12_cannot
  simp only [of_4 e40, of_2 e40, of_1 e40, fb_s, es, ew, ep, show ((3 : Int32) = 0) = False from eq_false (by decide), show ((3 : Int32) = 1) = False from eq_false (by decide), show ((3 : Int32) = 2) = False from eq_false (by decide), ↓reduceIte]
  rcases h.law (nI w) with ⟨a1, m1⟩ | ⟨l, hl, ew', a1, m1⟩
  · left
    simp only [a1, m1, ↓reduceIte, fb_s]
    exact ⟨trivial, T, rfl, ME.rf⟩
  · have l12 : l < 12 := by omega
    simp only [a1, m1, i10, ↓reduceIte]
    have ww : l = w := (nI_inj (by omega) (by omega) ew').symm
    subst ww
    have e3 := (h.la l hl).1.2.2.2
    simp only [fb_s, fl_s, g10_3 l12, e3, ixL_3 l12]
    by_cases c : T.2 55 (65 * l + 513) < 0
    · right
      simp only [c, ↓reduceIte, fb_s, s10_3 l12, d1]
      refine ⟨_, _, T, wA (wA T 55 (12 * e + 1298) 1) 55 (65 * l + 513) (nI (K 8)), rfl, by decide, rfl, ?_, ?_, ⟨⟨rfl, rfl, rfl, rfl⟩, rfl, rfl⟩, ?_⟩
      · unfold f_X12_obeys
        have q : ∀ j : Nat, j ≠ 12 * e + 1298 → (wA T 55 (12 * e + 1298) 1).2 55 j = T.2 55 j := fun j hj => by rw [wA_e, pk_un hj]
        simp only [of_4 e40, of_2 e40, of_1 e40, fb_s, q (12 * e + 1294) (by omega), q (12 * e + 1292) (by omega), q (12 * e + 1291) (by omega), q 8 (by omega), es, ew, ep, show ((3 : Int32) = 0) = False from eq_false (by decide), show ((3 : Int32) = 1) = False from eq_false (by decide), show ((3 : Int32) = 2) = False from eq_false (by decide), ↓reduceIte, ixL_3 l12, fl_s, d2]
      · refine (h.strk hl).mkd (e := e) he ?_
        simp only [wA_e]
        rw [upd_cm (a := 12 * e + 1298) (b := 65 * l + 513) (by omega)]
      · exact ⟨⟨rfl, rfl, rfl, rfl, rfl⟩, rfl, rfl⟩
    · left
      simp only [c, i10, ↓reduceIte, fb_s]
      exact ⟨trivial, T, rfl, ME.rf⟩
theorem brk_l {p : Nat} : ∀ (m i a : Nat) (S0 T0 S T : FS), i ≤ K 7 → K 7 - i < m → a ≤ i → PQ K S T → FC S0 S → FR T0 T →
    ∃ (S' T' : FS) (a' : Nat), a' ≤ K 7 ∧ PQ K S' T' ∧ FC S0 S' ∧ FR T0 T' ∧ (∀ k : Nat, k < K 7 → S'.2 19 (5 * k + 4) = 0 → S.2 19 (5 * k + 4) = 0) ∧ (∀ k, l_X0_endAllOf_14 (nI p) 2 (nI (K 7)) k m S (nI a) (nI i) = k S' (nI a') (nI (K 7))) ∧ ∀ k, l_X12_obeys_154 (nI p) k m T (nI a) (nI i) = k T' (nI a') (nI (K 7)) := by
  intro m
  induction m with
  | zero => intro i a S0 T0 S T hi hm; exact absurd hm (Nat.not_lt_zero _)
  | succ m ih =>
    intro i a S0 T0 S T hi hm ha hq fc fr
    obtain ⟨c7, c8, a1, a2, a3, a4, hr⟩ := id hq
    by_cases ci : i < K 7
    · obtain ⟨i30, hs⟩ := hq.stn ci
      have e0 : S.2 19 (5 * i) = T.2 55 (6 * i + 1806) := (hr i ci).1.1
      have lt := nI_lt ci (show K 7 < 2 ^ 31 by omega)
      by_cases cp : T.2 55 (6 * i + 1806) = nI p
      · rcases hs with ⟨s1, s2, s3, s4, s5, s6⟩ | ⟨s1, s2, s3⟩
        · obtain ⟨S', T', a', r0, r1, r2, r3, r4, r5, r6⟩ := ih (i + 1) (a + 1) S0 T0 _ _ (by omega) (by omega) (by omega) (hq.brk ci) fc.w (fr.w i30 (Or.inl rfl))
          refine ⟨S', T', a', r0, r1, r2, r3, fun k hk y => ?_, fun k => ?_, fun k => ?_⟩
          · have y1 := r4 k hk y
            rw [wA_e] at y1
            by_cases e : k = i
            · subst e; rw [pk_us] at y1; exact absurd y1 (by decide)
            · rw [pk_un (by omega)] at y1; exact y1
          · rw [l_X0_endAllOf_14]
            simp only [lt, s1, i10, g18_0 i30, e0, cp, fl_s, s18_4 i30, nI_1, ↓reduceIte]; exact r5 k
          · rw [l_X12_obeys_154]
            simp only [a3, lt, promised_0 i30, fb_s, cp, s2, i10, ixQ_4 i30, fl_s, nI_1, ↓reduceIte]; exact r6 k
        · obtain ⟨S', T', a', r0, r1, r2, r3, r4, r5, r6⟩ := ih (i + 1) a S0 T0 S T (by omega) (by omega) (by omega) hq fc fr
          refine ⟨S', T', a', r0, r1, r2, r3, r4, fun k => ?_, fun k => ?_⟩
          · rw [l_X0_endAllOf_14]
            simp only [lt, s1, nI_1, ↓reduceIte]; exact r5 k
          · rw [l_X12_obeys_154]
            simp only [a3, lt, promised_0 i30, fb_s, cp, s2, nI_1, ↓reduceIte]; exact r6 k
      · obtain ⟨S', T', a', r0, r1, r2, r3, r4, r5, r6⟩ := ih (i + 1) a S0 T0 S T (by omega) (by omega) (by omega) hq fc fr
        refine ⟨S', T', a', r0, r1, r2, r3, r4, fun k => ?_, fun k => ?_⟩
        · rw [l_X0_endAllOf_14]
          rcases hs with ⟨s1, -⟩ | ⟨s1, -⟩
          · simp only [lt, s1, i10, g18_0 i30, e0, cp, nI_1, ↓reduceIte]; exact r5 k
          · simp only [lt, s1, nI_1, ↓reduceIte]; exact r5 k
        · rw [l_X12_obeys_154]
          simp only [a3, lt, promised_0 i30, fb_s, cp, nI_1, ↓reduceIte]; exact r6 k
    · have ei : i = K 7 := by omega
      subst ei
      refine ⟨S, T, a, ha, hq, fc, fr, fun k hk y => y, fun k => ?_, fun k => ?_⟩
      · rw [l_X0_endAllOf_14, if_neg (nI_nlt (Nat.le_refl _) (by omega))]
      · rw [l_X12_obeys_154, a3, if_neg (nI_nlt (Nat.le_refl _) (by omega))]
theorem cq_mk {as : List Nat} {s j : Nat} {S' : FS} {v : Int32} (h : CQ as s S S') (h15 : 15 ∉ as) : CQ as s (wA S 15 j v) (wA S' 15 j v) := by
  refine ⟨⟨⟨h.1.1.1, h.1.1.2.1, h.1.1.2.2.1, h.1.1.2.2.2⟩, h.1.2⟩, h.2.1, fun q hq hn => ?_⟩
  by_cases c : q = 15
  · subst c; rw [wA_e, wA_e, h.2.2 15 hq hn]
  · rw [wA_n c, wA_n c]; exact h.2.2 q hq hn
theorem RelR.ob4 (h : RelR K S (T.2 55)) {e p w s : Nat} (he : e < K 5) (hp : p < K 2) (hs : s = 4) (es : T.2 55 (12 * e + 1291) = nI s) (ew : T.2 55 (12 * e + 1292) = nI w) (ep : T.2 55 (12 * e + 1294) = nI p) : OB K S T e (nI s) (nI w) (nI p) := by
  subst hs
  have c5 := (h.ct 14 5 40 (by decide)).2.2
  have c7 := (h.ct 18 7 30 (by decide))
  have e40 : e < 40 := by omega
  have n0 : (nI 4 = 0) = False := eq_false (by decide)
  have n1 : (nI 4 = 1) = False := eq_false (by decide)
  have n2 : (nI 4 = 2) = False := eq_false (by decide)
  have n3 : (nI 4 = 3) = False := eq_false (by decide)
  have h1 : RelR K (wA S 15 (12 * e + 11) 1) ((wA T 55 (12 * e + 1298) 1).2 55) := h.mkd he wA_e
  have q : ∀ j : Nat, j ≠ 12 * e + 1298 → (wA T 55 (12 * e + 1298) 1).2 55 j = T.2 55 j := fun j hj => by rw [wA_e, pk_un hj]
  have pq : PQ K S (wA T 55 (12 * e + 1298) 1) := (PQ.of (S := wA S 15 (12 * e + 11) 1) h1 : PQ K (wA S 15 (12 * e + 11) 1) (wA T 55 (12 * e + 1298) 1))
  obtain ⟨S', T', a', r0, r1, r2, r3, r4, r5, r6⟩ := brk_l (p := p) FU 0 0 S (wA T 55 (12 * e + 1298) 1) S (wA T 55 (12 * e + 1298) 1) (Nat.zero_le _) (FU_lt (by omega)) (Nat.le_refl _) (K := K) pq ⟨CQ.rf, rfl⟩ FR.rf
  · right
    refine ⟨nI a', S', T, T', ?_, nI_nf (by omega), ?_, ?_, ?_, r2.1.1, MX.tr ⟨⟨rfl, rfl, rfl, rfl, rfl⟩, rfl, rfl⟩ r3.2.1⟩
    · unfold f_X3_carryOutSort f_X0_breakAllOf f_X0_endAllOf
      simp only [n0, n1, n2, n3, ↓reduceIte, fv_s, c7.1]
      rw [show ∀ k, l_X0_endAllOf_14 (nI p) 2 (nI (K 7)) k FU S 0 0 = k S' (nI a') (nI (K 7)) from r5]
      rfl
    · unfold f_X12_cannot
      simp only [of_4 e40, of_2 e40, of_1 e40, fb_s, es, n0, n1, n2, n3, ↓reduceIte]
    · unfold f_X12_obeys
      simp only [of_4 e40, of_2 e40, of_1 e40, fb_s, q (12 * e + 1294) (by omega), q (12 * e + 1292) (by omega), q (12 * e + 1291) (by omega), es, ep, n0, n1, n2, n3, ↓reduceIte]
      exact r6 _
    · refine h1.onQ (cq_mk r2.1 (by decide)) r3.1 ?_ ?_ ?_
      · rw [r3.2.2.2.1]; show S'.1 103 = _; rw [r2.2]; exact h1.1.2
      · rw [wA_n (by decide)]; exact r1.2.2.2.2.2.2
      · rw [wA_n (by decide)]
        refine ⟨?_, h1.ps.2.mono c7.2.2 rfl (fun k hk => ⟨(r3.2.2.1 k hk).1, (r3.2.2.1 k hk).2.1⟩) r3.2.2.2.2⟩
        intro k hk y1 z2
        have y2 := r4 k hk y1
        obtain ⟨t1, t2, t3⟩ := r3.2.2.1 k (by omega)
        rw [t3] at z2
        obtain ⟨x, x1, x2, x3⟩ := h1.ps.1 k hk (by rw [wA_n (by decide)]; exact y2) z2
        have c2 := (h.ct 6 2 20 (by decide)).2.2
        exact ⟨x, x1, by rw [t1]; exact x2, by rw [r3.1 _ (by omega) (by omega) (by omega)]; exact x3⟩
theorem op_obey (h : RelR K S (T.2 55)) : OK2 S T (f_X11_obey S za) (f_X12_obey T za) := by
  unfold f_X11_obey f_X12_obey
  simp only [fb_id]
  have c5 := (h.ct 14 5 40 (by decide)).2.2
  have c2 := (h.ct 6 2 20 (by decide)).2.2
  rcases h.let' za with ⟨a1, m1⟩ | ⟨e, he, rfl, a1, m1⟩
  · simp only [a1, m1, ↓reduceIte]; exact ok_1 h
  · have e40 : e < 40 := by omega
    obtain ⟨⟨l0, l1, l2, l3, l4⟩, ⟨l5, l5b, l5c, l5d, l5e⟩, l6, l7, ⟨l8, -, ⟨s, hs, l10⟩, ⟨w, hw, l10b⟩, ⟨b8, hb8, l10c⟩⟩, l11⟩ := h.le e he
    unfold f_X3_carryOut
    simp only [a1, m1, i10, ↓reduceIte, of_6 e40, of_8 e40, of_4 e40, of_7 e40, fb_s, fv_s, g14_6 e40, g14_9 e40, g14_11 e40, g14_10 e40, g14_1 e40, g14_2 e40, l4, l5b, l5c, l5d, l1, l2, l10, l10b, l10c]
    by_cases c6 : T.2 55 (12 * e + 1296) < 0
    · simp only [c6, fb_s, ↓reduceIte]; exact ok_3 h
    · rcases l8 with z | ⟨p, hp, z⟩
      · exact absurd z (l11 c6)
      · have p20 : p < 20 := by omega
        rcases (show b8 = 0 ∨ b8 = 1 by omega) with rfl | rfl
        · simp only [c6, z, show (nI 0 = 0) = True from eq_true rfl, show (nI 0 = 1) = False from eq_false (by decide), ↓reduceIte]
          rcases h.liv hp with ⟨v1, v2, v3⟩ | ⟨v1, v2, v5, v3, v4⟩
          · simp only [v2, v3, fb_s, i10, ↓reduceIte]
            by_cases g7 : T.2 55 (12 * e + 1297) = 1
            · simp only [g7, ↓reduceIte]
              have ob : OB K S T e (nI s) (nI w) (nI p) := by
                rcases (show s = 0 ∨ s = 1 ∨ s = 2 ∨ s = 3 ∨ s = 4 by omega) with rfl | rfl | rfl | rfl | rfl
                · exact h.ob0 he hp hw l10 l10b z
                · exact h.ob1 he hp v1 hw l10 l10b z
                · exact h.ob2 he hp v1 hw l10 l10b z
                · exact h.ob3 he hp hw l10 l10b z
                · exact h.ob4 he hp rfl l10 l10b z
              rcases ob with ⟨o1, T1, o2, o3⟩ | ⟨v, S', T1, T', o1, o2, o3, o4, o5, o6, o7⟩
              · simp only [o1, o2, fb_s, i10, ↓reduceIte]
                exact okf (K := K) (by rw [o3.2]; exact h) CX.rf o3.1 (finds_2 T1)
              · simp only [o1, o2, o3, fb_s, fl_s, s14_11 e40, writes_8 e40, o4, ↓reduceIte]
                exact okt o5 (o6.tr ⟨⟨rfl, rfl, rfl, rfl⟩, rfl, rfl⟩) o7
            · simp only [g7, fb_s, ↓reduceIte]; exact ok_5 h
          · simp only [v3, v4, fb_s, ↓reduceIte]; exact ok_3 h
        · simp only [c6, z, show (nI 1 = 0) = False from eq_false (by decide), show (nI 1 = 1) = True from eq_true rfl, fb_s, ↓reduceIte]; exact ok_3 h
end OPO3
end
section
/-! ===== pure: a day ends ===== -/
section DAY
variable {K : Nat → Nat} {S T : FS} {za zb zc zd : Int32}
/-- who comes: those of the first i have the new day, the others still the old one -/
def BR (K : Nat → Nat) (i : Nat) (f n : Nat → Int32) : Prop := ∀ p : Nat, p < K 2 → (f (14 * p) = n (14 * p + 110) ∧ f (14 * p + 1) = n (14 * p + 111) ∧ f (14 * p + 2) = n (14 * p + 112) ∧ f (14 * p + 3) = n (14 * p + 113)) ∧
  (f (14 * p + 7) = n (14 * p + 117) ∧ f (14 * p + 8) = n (14 * p + 118) ∧ f (14 * p + 10) = n (14 * p + 120) ∧ f (14 * p + 12) = n (14 * p + 122) ∧ f (14 * p + 13) = n (14 * p + 121)) ∧ ((p < i → PLv (kU K 8 (K 8 + 1)) f n p) ∧ (i ≤ p → PLv K f n p)) ∧
  (vP (K 2) (n (14 * p + 112)) ∧ vP (K 2) (n (14 * p + 113)) ∧ vP (K 0) (n (14 * p + 114)) ∧ nB 1 (n (14 * p + 121)) ∧ nB 999 (n (14 * p + 122)) ∧ bB (n (14 * p + 111)))
theorem BR.of {f n n' : Nat → Int32} (h : RPe K f n) (b : K 2 ≤ 20) (hn : ∀ j : Nat, 110 ≤ j → j < 390 → n' j = n j) : BR K 0 f n' := by
  intro p hp
  have hh := h p hp
  unfold PLv at hh ⊢
  simp (disch := omega) only [hn]
  exact ⟨hh.1, hh.2.1, ⟨fun q => absurd q (Nat.not_lt_zero _), fun _ => hh.2.2.1⟩, hh.2.2.2⟩
theorem BR.fin {f n : Nat → Int32} (h : BR K (K 2) f n) : RPe (kU K 8 (K 8 + 1)) f n := by
  intro p hp
  have hp2 : p < K 2 := hp
  obtain ⟨h1, h2, h3, h4⟩ := h p hp2
  exact ⟨h1, h2, h3.1 hp2, h4⟩
/-- one that doesn't come, or is dead -/
theorem BR.skip {f n : Nat → Int32} {i : Nat} (h : BR K i f n) (hi : i < K 2) (hs : PLv K f n i → PLv (kU K 8 (K 8 + 1)) f n i) : BR K (i + 1) f n := by
  intro p hp
  obtain ⟨h1, h2, h3, h4⟩ := h p hp
  refine ⟨h1, h2, ⟨fun q => ?_, fun q => h3.2 (by omega)⟩, h4⟩
  by_cases c : p = i
  · subst c; exact hs (h3.2 (Nat.le_refl _))
  · exact h3.1 (by omega)
/-- a dead one's place in the class -/
theorem BR.dead {f n : Nat → Int32} {i : Nat} {v : Int32} (h : BR K i f n) (hi : i < K 2) (b : K 2 ≤ 20) (hd : f (14 * i + 9) = 1) : BR K (i + 1) (upd f (14 * i + 4) v) n := by
  intro p hp
  have hh := h p hp
  unfold PLv at hh ⊢
  by_cases c : p = i
  · subst c
    simp (disch := omega) only [pk_un, pk_us]
    refine ⟨hh.1, hh.2.1, ⟨fun _ => Or.inr ?_, fun q => absurd q (by omega)⟩, hh.2.2.2⟩
    rcases hh.2.2.1.2 (Nat.le_refl _) with ⟨a1, -⟩ | a
    · rw [hd] at a1; exact absurd a1 (by decide)
    · exact a
  · simp (disch := omega) only [pk_un]
    exact ⟨hh.1, hh.2.1, ⟨fun q => hh.2.2.1.1 (by omega), fun q => hh.2.2.1.2 (by omega)⟩, hh.2.2.2⟩
/-- one comes -/
theorem BR.come {f n : Nat → Int32} {i t : Nat} (h : BR K i f n) (hi : i < K 2) (b : K 2 ≤ 20) (ht : t < K 0) (b0 : K 0 ≤ 10) (hl : f (14 * i + 9) = 0) (hm : n (14 * i + 119) = -1) : BR K (i + 1) (upd f (14 * i + 4) (nI t)) (upd n (14 * i + 114) (nI t)) := by
  intro p hp
  have hh := h p hp
  unfold PLv at hh ⊢
  by_cases c : p = i
  · subst c
    simp (disch := omega) only [pk_un, pk_us]
    exact ⟨hh.1, hh.2.1, ⟨fun _ => Or.inl ⟨hl, hm, trivial, fun q => absurd q (nI_m1 (by omega))⟩, fun q => absurd q (by omega)⟩, hh.2.2.2.1, hh.2.2.2.2.1, Or.inr ⟨t, ht, rfl⟩, hh.2.2.2.2.2.2⟩
  · simp (disch := omega) only [pk_un]
    exact ⟨hh.1, hh.2.1, ⟨fun q => hh.2.2.1.1 (by omega), fun q => hh.2.2.1.2 (by omega)⟩, hh.2.2.2⟩
def FB (S S' T T' : FS) : Prop := (S'.1 = S.1 ∧ (∀ a : Nat, a ≠ 7 → S'.2 a = S.2 a) ∧ ∀ j : Nat, j % 14 ≠ 4 → S'.2 7 j = S.2 7 j) ∧ (T'.1 = T.1 ∧ (∀ a : Nat, a ≠ 55 → T'.2 a = T.2 a) ∧ ∀ j : Nat, ¬ (110 ≤ j ∧ j < 390 ∧ j % 14 = 2) → T'.2 55 j = T.2 55 j)
theorem FB.rf : FB S S T T := ⟨⟨rfl, fun _ _ => rfl, fun _ _ => rfl⟩, rfl, fun _ _ => rfl, fun _ _ => rfl⟩
theorem bring_l (b2 : K 2 ≤ 20) (b0 : K 0 ≤ 10) (b8 : K 8 + 1 ≤ 2000) : ∀ (m i : Nat) (S T : FS), i ≤ K 2 → K 2 - i < m → S.1 102 = nI (K 8 + 1) → T.2 55 8 = nI (K 8 + 1) → T.2 55 2 = nI (K 2) → BR K i (S.2 7) (T.2 55) →
    ∃ S' T' : FS, FB S S' T T' ∧ BR K (K 2) (S'.2 7) (T'.2 55) ∧ (∀ k, l_X7_bringTravellers_10 (nI (K 2)) k m S (nI i) = k S' (nI (K 2))) ∧ ∀ k, l_X12_days_52 k m T (nI i) = k T' (nI (K 2)) := by
  intro m
  induction m with
  | zero => intro i S T _ hm; exact absurd hm (Nat.not_lt_zero _)
  | succ m ih =>
    intro i S T hi hm d1 d2 k2 hb
    by_cases c : i < K 2
    · have i20 : i < 20 := by omega
      have lt := nI_lt c (show K 2 < 2 ^ 31 by omega)
      obtain ⟨-, -, hp, -, -, hv, -⟩ := id (hb i c)
      rcases hp.2 (Nat.le_refl _) with ⟨a1, a2, a3, a4⟩ | ⟨a1, ⟨dd, a2, a2'⟩, a3⟩
      · -- living
        have lv : q_X12_lives T (nI i) = some 1 := by
          unfold q_X12_lives; rw [man_9 i20, a2, fb_s, if_pos (by decide)]
        rcases hv with e | ⟨t, ht, e⟩
        · obtain ⟨⟨b5, b6⟩, ⟨t, ht, e5⟩, ⟨cc, ⟨c1, c2⟩, e6⟩⟩ := a4 e
          by_cases ar : cc = K 8 + 1
          · obtain ⟨S', T', r1, r2, r3, r4⟩ := ih (i + 1) (wA S 7 (14 * i + 4) (nI t)) (wA T 55 (14 * i + 114) (nI t)) (by omega) (by omega) d1 (by rw [wA_e, pk_un (by omega)]; exact d2) (by rw [wA_e, pk_un (by omega)]; exact k2) (by rw [wA_e, wA_e]; exact hb.come c b2 ht b0 a1 a2)
            refine ⟨S', T', ⟨⟨r1.1.1, fun a ha => (r1.1.2.1 a ha).trans (wA_n ha), fun j hj => (r1.1.2.2 j hj).trans (by rw [wA_e, pk_un (by omega)])⟩, r1.2.1, fun a ha => (r1.2.2.1 a ha).trans (wA_n ha), fun j hj => (r1.2.2.2 j hj).trans (by rw [wA_e, pk_un (by omega)])⟩, r2, fun k => ?_, fun k => ?_⟩
            · rw [l_X7_bringTravellers_10]
              simp only [lt, g6_4 i20, a3, e, ltm1, d1, g6_6 i20, b6, e6, ar, nI_nlt (Nat.le_refl (K 8 + 1)) (show K 8 + 1 < 2 ^ 31 by omega), s6_4 i20, g6_5 i20, b5, e5, fl_s, nI_1, ↓reduceIte]; exact r3 k
            · rw [l_X12_days_52]
              simp only [k2, lt, lv, fb_s, i10, man_4 i20, e, ltm1, man_6 i20, e6, ar, d2, man_5 i20, e5, sets_4 i20, nI_1, ↓reduceIte]; exact r4 k
          · obtain ⟨S', T', r1, r2, r3, r4⟩ := ih (i + 1) S T (by omega) (by omega) d1 d2 k2 (hb.skip c (fun q => Or.inl ⟨a1, a2, a3, fun _ => ⟨⟨b5, b6⟩, ⟨t, ht, e5⟩, cc, ⟨by rw [kU_e]; omega, c2⟩, e6⟩⟩))
            refine ⟨S', T', r1, r2, fun k => ?_, fun k => ?_⟩
            · rw [l_X7_bringTravellers_10]
              simp only [lt, g6_4 i20, a3, e, ltm1, d1, g6_6 i20, b6, e6, nI_lt (show K 8 + 1 < cc by omega) (show cc < 2 ^ 31 by omega), nI_1, ↓reduceIte]; exact r3 k
            · rw [l_X12_days_52]
              simp only [k2, lt, lv, fb_s, i10, man_4 i20, e, ltm1, man_6 i20, e6, d2, show ¬ nI cc = nI (K 8 + 1) from fun q => ar (nI_inj (by omega) (by omega) q), nI_1, ↓reduceIte]; exact r4 k
        · obtain ⟨S', T', r1, r2, r3, r4⟩ := ih (i + 1) S T (by omega) (by omega) d1 d2 k2 (hb.skip c (fun q => Or.inl ⟨a1, a2, a3, fun q => absurd (e.symm.trans q) (nI_m1 (by omega))⟩))
          refine ⟨S', T', r1, r2, fun k => ?_, fun k => ?_⟩
          · rw [l_X7_bringTravellers_10]
            simp only [lt, g6_4 i20, a3, e, nI_pos (show t < 2 ^ 31 by omega), nI_1, ↓reduceIte]; exact r3 k
          · rw [l_X12_days_52]
            simp only [k2, lt, lv, fb_s, i10, man_4 i20, e, nI_pos (show t < 2 ^ 31 by omega), nI_1, ↓reduceIte]; exact r4 k
      · -- dead
        have lv : q_X12_lives T (nI i) = some 0 := by
          unfold q_X12_lives; rw [man_9 i20, a2', fb_s, if_neg (nI_pos (by omega))]
        have mo : ∀ k, l_X12_days_52 k (m + 1) T (nI i) = l_X12_days_52 k m T (nI (i + 1)) := fun k => by
          rw [l_X12_days_52]
          simp only [k2, lt, lv, fb_s, nI_1, ↓reduceIte]
        have sk : PLv K (S.2 7) (T.2 55) i → PLv (kU K 8 (K 8 + 1)) (S.2 7) (T.2 55) i := fun _ => Or.inr ⟨a1, ⟨dd, a2, a2'⟩, a3⟩
        by_cases f4 : S.2 7 (14 * i + 4) < 0
        · by_cases f6 : nI (K 8 + 1) < S.2 7 (14 * i + 6)
          · obtain ⟨S', T', r1, r2, r3, r4⟩ := ih (i + 1) S T (by omega) (by omega) d1 d2 k2 (hb.skip c sk)
            refine ⟨S', T', r1, r2, fun k => ?_, fun k => by rw [mo]; exact r4 k⟩
            rw [l_X7_bringTravellers_10]
            simp only [lt, g6_4 i20, f4, d1, g6_6 i20, f6, nI_1, ↓reduceIte]; exact r3 k
          · obtain ⟨S', T', r1, r2, r3, r4⟩ := ih (i + 1) (wA S 7 (14 * i + 4) (S.2 7 (14 * i + 5))) T (by omega) (by omega) d1 d2 k2 (by rw [wA_e]; exact hb.dead c b2 a1)
            refine ⟨S', T', ⟨⟨r1.1.1, fun a ha => (r1.1.2.1 a ha).trans (wA_n ha), fun j hj => (r1.1.2.2 j hj).trans (by rw [wA_e, pk_un (by omega)])⟩, r1.2⟩, r2, fun k => ?_, fun k => by rw [mo]; exact r4 k⟩
            rw [l_X7_bringTravellers_10]
            simp only [lt, g6_4 i20, f4, d1, g6_6 i20, f6, s6_4 i20, g6_5 i20, fl_s, nI_1, ↓reduceIte]; exact r3 k
        · obtain ⟨S', T', r1, r2, r3, r4⟩ := ih (i + 1) S T (by omega) (by omega) d1 d2 k2 (hb.skip c sk)
          refine ⟨S', T', r1, r2, fun k => ?_, fun k => by rw [mo]; exact r4 k⟩
          rw [l_X7_bringTravellers_10]
          simp only [lt, g6_4 i20, f4, nI_1, ↓reduceIte]; exact r3 k
    · have ei : i = K 2 := by omega
      subst ei
      refine ⟨S, T, FB.rf, hb, fun k => ?_, fun k => ?_⟩
      · rw [l_X7_bringTravellers_10, if_neg (nI_nlt (Nat.le_refl _) (by omega))]
      · rw [l_X12_days_52, k2, if_neg (nI_nlt (Nat.le_refl _) (by omega))]
theorem RPr.day {f n n' : Nat → Int32} (h : RPr K f n) (b : K 7 ≤ 30) (b8 : K 8 + 1 ≤ 2000) (hn : ∀ j : Nat, 1806 ≤ j → j < 1986 → n' j = n j) : RPr (kU K 8 (K 8 + 1)) f n' := by
  intro k hk
  have hk2 : k < K 7 := hk
  obtain ⟨h1, h2, h3, h4, ⟨t, h5, h5'⟩, h6⟩ := h k hk2
  simp (disch := omega) only [hn]
  refine ⟨h1, h2, fun q => h3 (fun z => q ?_), h4, ⟨t, h5, h5'⟩, h6⟩
  rw [h5', nI_ltI (by omega) (by omega)] at z
  rw [h5', kU_e]
  exact nI_lt (by omega) (by omega)
theorem RPs.day {f n n' : Nat → Int32} (h : RPs K f n) (hr : RPr K f n) (b : K 7 ≤ 30) (b2 : K 2 ≤ 20) (b8 : K 8 + 1 ≤ 2000) (hn : ∀ j : Nat, 1806 ≤ j → j < 1986 → n' j = n j) (hs : ∀ p : Nat, p < K 2 → n' (14 * p + 121) = n (14 * p + 121)) : RPs (kU K 8 (K 8 + 1)) f n' := by
  refine ⟨?_, h.2.same b rfl hn⟩
  intro k hk
  have hk2 : k < K 7 := hk
  obtain ⟨-, -, -, -, ⟨t, h5, h5'⟩, -⟩ := hr k hk2
  simp (disch := omega) only [hn]
  intro q1 q2
  obtain ⟨p, p1, p2, p3⟩ := h.1 k hk2 q1 (fun z => q2 (by
    rw [h5', nI_ltI (by omega) (by omega)] at z
    rw [h5', kU_e]
    exact nI_lt (by omega) (by omega)))
  exact ⟨p, p1, p2, by rw [hs p p1]; exact p3⟩
theorem RelR.day {S' : FS} {n n' : Nat → Int32} (h : RelR K S n) (b8 : K 8 + 1 ≤ 2000) (cq : CQ [7] 102 S S') (nq : NQ 110 390 8 n n') (hc : S'.1 103 = n' 9) (e1 : S'.1 102 = nI (K 8 + 1)) (e2 : n' 8 = nI (K 8 + 1)) (hpe : RPe (kU K 8 (K 8 + 1)) (S'.2 7) n') (hse : RSe K n') (hst : RSt K (S'.2 7) n') (hv : ∀ x : Int32, vL (K 2) n x → vL (K 2) n' x) (hsq : ∀ p : Nat, p < K 2 → n' (14 * p + 121) = n (14 * p + 121)) : RelR (kU K 8 (K 8 + 1)) S' n' := by
  have c0 := (h.ct 2 0 10 (by decide)).2.2
  have c1 := (h.ct 101 1 20 (by decide)).2.2
  have c2 := (h.ct 6 2 20 (by decide)).2.2
  have c3 := (h.ct 8 3 20 (by decide)).2.2
  have c4 := (h.ct 10 4 12 (by decide)).2.2
  have c5 := (h.ct 14 5 40 (by decide)).2.2
  have c6 := (h.ct 16 6 6 (by decide)).2.2
  have c7 := (h.ct 18 7 30 (by decide)).2.2
  have c10 := (h.ct 24 10 60 (by decide)).2.2
  have c11 := (h.ct 22 11 20 (by decide)).2.2
  have hK : ∀ i : Nat, i ≠ 8 → kU K 8 (K 8 + 1) i = K i := fun i hi => kU_n hi
  have hk : K 8 ≤ kU K 8 (K 8 + 1) 8 := by rw [kU_e]; omega
  have eA := fun q hq h3 => cq.2.2 q hq h3
  refine ⟨RCt.cq h cq nq (by decide) hK hc (onct 102 8 2000 (by decide) (by rw [kU_e]; exact e1) (by rw [kU_e]; exact e2) (by rw [kU_e]; exact b8)), ?_, ?_, hpe, ?_, ?_, ?_, ?_, ?_, ?_, ?_, ?_, hse, hst, ?_⟩
  · exact h.tw.same c0 (hK 0 (by decide)) (Nat.le_refl _) (fun _ _ => by rw [eA 3 (by decide) (by decide)]) (fun j h1 h2 => nq j (by omega) (by omega) (by omega))
  · exact h.wy.no (hK 1 (by decide)) c1 (Nat.le_of_eq (hK 0 (by decide)).symm) (eA 5 (by decide) (by decide)) (fun j h1 h2 => nq j (by omega) (by omega) (by omega))
  · exact h.pw.same c3 c2 (hK 3 (by decide)) (Nat.le_refl _) (fun _ _ => by rw [eA 9 (by decide) (by decide)]) (fun j h1 h2 => nq j (by omega) (by omega) (by omega)) hv
  · exact h.la.same c4 (hK 4 (by decide)) hk (fun _ _ => by rw [eA 11 (by decide) (by decide)]) (fun _ _ => by rw [eA 13 (by decide) (by decide)]) (fun j h1 h2 => nq j (by omega) (by omega) (by omega))
  · exact h.le.same c5 (hK 5 (by decide)) (Nat.le_of_eq (hK 0 (by decide)).symm) (Nat.le_refl _) (fun _ _ => by rw [eA 15 (by decide) (by decide)]) (fun j h1 h2 => nq j (by omega) (by omega) (by omega))
  · exact h.de.same c6 c0 (hK 6 (by decide)) (Nat.le_of_eq (hK 0 (by decide)).symm) hk (fun _ _ => by rw [eA 17 (by decide) (by decide)]) (fun j h1 h2 => nq j (by omega) (by omega) (by omega)) (fun t ht e => by rw [nq _ (by omega) (by omega) (by omega)]; exact e)
  · rw [eA 19 (by decide) (by decide)]
    exact h.pr.day c7 b8 (fun j h1 h2 => nq j (by omega) (by omega) (by omega))
  · exact h.gu.same (fun _ _ => by rw [eA 21 (by decide) (by decide)]) (fun j h1 h2 => nq j (by omega) (by omega) (by omega))
  · exact h.wt.same c11 (hK 11 (by decide)) (fun _ _ => by rw [eA 23 (by decide) (by decide)]) (fun j h1 h2 => nq j (by omega) (by omega) (by omega))
  · exact h.ta.same c10 (hK 10 (by decide)) (fun _ _ => by rw [eA 25 (by decide) (by decide)]) (fun j h1 h2 => nq j (by omega) (by omega) (by omega))
  · rw [eA 19 (by decide) (by decide)]
    exact h.ps.day h.pr c7 c2 b8 (fun j h1 h2 => nq j (by omega) (by omega) (by omega)) hsq
/-- the day, and who comes -/
theorem RelR.bring (h : RelR K S (T.2 55)) (b8 : K 8 + 1 ≤ 2000) : ∃ S' T' : FS, f_X7_bringTravellers (wI S 102 (S.1 102 + 1)) = some (0, S') ∧ (∀ k, l_X12_days_52 k FU (wA T 55 8 (T.2 55 8 + 1)) 0 = k T' (nI (K 2))) ∧ RelR (kU K 8 (K 8 + 1)) S' (T'.2 55) ∧ CX S S' ∧ MX T T' ∧ ∀ j : Nat, ¬ (110 ≤ j ∧ j < 390) → j ≠ 8 → T'.2 55 j = T.2 55 j := by
  obtain ⟨p1, p2, c2⟩ := h.ct 6 2 20 (by decide)
  have c0 := (h.ct 2 0 10 (by decide)).2.2
  obtain ⟨d1, d2, d3⟩ := h.ct 102 8 2000 (by decide)
  rw [d1, d2, nI_1]
  obtain ⟨S', T', r1, r2, r3, r4⟩ := bring_l (K := K) c2 c0 b8 FU 0 (wI S 102 (nI (K 8 + 1))) (wA T 55 8 (nI (K 8 + 1))) (Nat.zero_le _) (FU_lt (by omega)) wI_e (by rw [wA_e, pk_us]) (by rw [wA_e, pk_un (by omega)]; exact p2) (by rw [wI_2, wA_e]; exact BR.of h.pe c2 (fun j h1 h2 => pk_un (by omega)))
  have nj : ∀ j : Nat, ¬ (110 ≤ j ∧ j < 390 ∧ j % 14 = 2) → j ≠ 8 → T'.2 55 j = T.2 55 j := fun j h1 h2 => by rw [r1.2.2.2 j h1, wA_e, pk_un h2]
  have s7 : ∀ j : Nat, j % 14 ≠ 4 → S'.2 7 j = S.2 7 j := fun j hj => by rw [r1.1.2.2 j hj, wI_2]
  have sA : ∀ a : Nat, a ≠ 7 → S'.2 a = S.2 a := fun a ha => by rw [r1.1.2.1 a ha, wI_2]
  have sI : ∀ k : Nat, k ≠ 102 → S'.1 k = S.1 k := fun k hk => by rw [r1.1.1, wI_n hk]
  have cx : CX S S' := ⟨⟨sA _ (by decide), sA _ (by decide), sA _ (by decide), sA _ (by decide)⟩, sI _ (by decide), sI _ (by decide)⟩
  have tA : ∀ a : Nat, a ≠ 55 → T'.2 a = T.2 a := fun a ha => by rw [r1.2.2.1 a ha, wA_n ha]
  have tI : T'.1 = T.1 := by rw [r1.2.1]; rfl
  refine ⟨S', T', ?_, r4, ?_, cx, ⟨⟨tA _ (by decide), tA _ (by decide), tA _ (by decide), tA _ (by decide), tA _ (by decide)⟩, by rw [tI], by rw [tI]⟩, fun j h1 h2 => nj j (by omega) h2⟩
  · unfold f_X7_bringTravellers
    rw [fv_s, wI_n (by decide), p1]; exact r3 _
  · refine h.day b8 ⟨cx, fun k hk _ h4 => sI k h4, fun q _ hq => sA q (fun z => hq (by rw [z]; decide))⟩ (fun j h1 _ h3 => nj j (by omega) h3) ?_ ?_ ?_ r2.fin ?_ ?_ ?_ ?_
    · rw [sI _ (by decide), nj _ (by omega) (by decide)]; exact h.1.2
    · rw [r1.1.1, wI_e]
    · rw [r1.2.2.2 8 (by omega), wA_e, pk_us]
    · exact h.se.same c2 rfl (Nat.le_refl _) (fun p hp => nj _ (by omega) (by omega))
    · exact h.st.same c2 rfl (fun p hp => s7 _ (by omega)) (fun p hp => ⟨nj _ (by omega) (by omega), nj _ (by omega) (by omega)⟩)
    · intro x hx
      rcases hx with e | ⟨q, q1, q2, q3⟩
      · exact Or.inl e
      · exact Or.inr ⟨q, q1, q2, by rw [nj _ (by omega) (by omega)]; exact q3⟩
    · exact fun p hp => nj _ (by omega) (by omega)
/-- lent seals whose day is past -/
theorem back_l : ∀ (m i : Nat) (S T : FS), i ≤ K 3 → K 3 - i < m → RelR K S (T.2 55) → ∃ S' T' : FS, RelR K S' (T'.2 55) ∧ CX S S' ∧ MX T T' ∧ (∀ j : Nat, ¬ (390 ≤ j ∧ j < 510) → T'.2 55 j = T.2 55 j) ∧ (∀ k, l_X7_takeBackLent_10 (nI (K 3)) k m S (nI i) = k S' (nI (K 3))) ∧ ∀ k, l_X12_days_116 k m T (nI i) = k T' (nI (K 3)) := by
  intro m
  induction m with
  | zero => intro i S T _ hm; exact absurd hm (Nat.not_lt_zero _)
  | succ m ih =>
    intro i S T hi hm h
    obtain ⟨k1, k2, c3⟩ := h.ct 8 3 20 (by decide)
    obtain ⟨d1, d2, d3⟩ := h.ct 102 8 2000 (by decide)
    have c2 := (h.ct 6 2 20 (by decide)).2.2
    by_cases c : i < K 3
    · have lt := nI_lt c (show K 3 < 2 ^ 31 by omega)
      obtain ⟨i20, ⟨e0, e1, e2, e3, e4⟩, a1, a2⟩ := h.pwc c
      have il : p_X7_isLent S (nI i) = if T.2 55 (6 * i + 392) = -1 then 0 else 1 := by
        unfold p_X7_isLent; rw [g8_3 i20, e3]
      by_cases z : T.2 55 (6 * i + 392) = -1
      · obtain ⟨S', T', r1, r2, r3, r4, r5, r6⟩ := ih (i + 1) S T (by omega) (by omega) h
        refine ⟨S', T', r1, r2, r3, r4, fun k => ?_, fun k => ?_⟩
        · rw [l_X7_takeBackLent_10]
          simp only [lt, il, z, nI_1, ↓reduceIte]; exact r5 k
        · rw [l_X12_days_116]
          simp only [k2, lt, its_2 i20, fb_s, z, ltm1, nI_1, ↓reduceIte]; exact r6 k
      · have z2 : ¬ T.2 55 (6 * i + 392) < 0 := fun q => z (a2.mp q)
        by_cases y : T.2 55 (6 * i + 393) < nI (K 8)
        · have h2 : RelR K (wA (wA S 9 (6 * i + 3) (-1)) 9 (6 * i + 4) (-1)) ((wA (wA T 55 (6 * i + 392) (-1)) 55 (6 * i + 393) (-1)).2 55) := by
            simp only [wA_e]
            refine h.onW ((CQ.rf.wA (by decide) (by decide)).wA (by decide) (by decide)) ((NQ.rf.w (Or.inl (by omega))).w (Or.inl (by omega))) ?_ ?_
            · simp (disch := omega) only [pk_un, wA_1]; exact h.1.2
            · simp only [wA_e]; exact h.pw.lent c3 c2 c (Or.inl rfl) (fun _ => rfl)
          obtain ⟨S', T', r1, r2, r3, r4, r5, r6⟩ := ih (i + 1) _ _ (by omega) (by omega) h2
          refine ⟨S', T', r1, CX.tr ⟨⟨rfl, rfl, rfl, rfl⟩, rfl, rfl⟩ r2, MX.tr ⟨⟨rfl, rfl, rfl, rfl, rfl⟩, rfl, rfl⟩ r3, fun j hj => (r4 j hj).trans (by simp only [wA_e]; simp (disch := omega) only [pk_un]), fun k => ?_, fun k => ?_⟩
          · rw [l_X7_takeBackLent_10]
            unfold f_X7_setLent
            simp only [lt, il, z, i10, g8_4 i20, e4, d1, y, s8_3 i20, s8_4 i20, fl_s, fb_s, nI_1, ↓reduceIte]; exact r5 k
          · rw [l_X12_days_116]
            unfold f_X12_comesBack
            simp only [k2, lt, its_2 i20, its_3 i20, fb_s, z2, d2, y, makes_2 i20, makes_3 i20, nI_1, ↓reduceIte]; exact r6 k
        · obtain ⟨S', T', r1, r2, r3, r4, r5, r6⟩ := ih (i + 1) S T (by omega) (by omega) h
          refine ⟨S', T', r1, r2, r3, r4, fun k => ?_, fun k => ?_⟩
          · rw [l_X7_takeBackLent_10]
            simp only [lt, il, z, i10, g8_4 i20, e4, d1, y, nI_1, ↓reduceIte]; exact r5 k
          · rw [l_X12_days_116]
            simp only [k2, lt, its_2 i20, its_3 i20, fb_s, z2, d2, y, nI_1, ↓reduceIte]; exact r6 k
    · have ei : i = K 3 := by omega
      subst ei
      refine ⟨S, T, h, CX.rf, MX.rf, fun _ _ => rfl, fun k => ?_, fun k => ?_⟩
      · rw [l_X7_takeBackLent_10, if_neg (nI_nlt (Nat.le_refl _) (by omega))]
      · rw [l_X12_days_116, k2, if_neg (nI_nlt (Nat.le_refl _) (by omega))]
end DAY
end
section
/-! ===== pure: a quarter ===== -/
section QUA
variable {K : Nat → Nat} {S T : FS} {za zb zc zd : Int32}
theorem RelR.chest (h : RelR K S (T.2 55)) (v : Int32) : RelR K (wI S 103 v) ((wA T 55 9 v).2 55) := by
  have c2 := (h.ct 6 2 20 (by decide)).2.2
  rw [wA_e]
  refine h.onP (CQ.rf.wI (Or.inl rfl) (by decide) (by decide)) (NQ.rf.w (Or.inr (Or.inl rfl))) ?_ (h.pe.n9 c2) h.se.n9 (h.st.n9 c2) (fun x hx => hx.n9) (fun q hq => pk_un (by omega))
  rw [wI_e, pk_us]
theorem RelR.col (h : RelR K S (T.2 55)) {p c : Nat} (hp : p < K 2) (hc : c = 7 ∨ c = 8) (v : Int32) : RelR K (wA S 7 (14 * p + c) v) ((wA T 55 (14 * p + (110 + c)) v).2 55) := by
  have c2 := (h.ct 6 2 20 (by decide)).2.2
  rw [wA_e]
  refine h.onP (CQ.rf.wA (by decide) (by decide)) (NQ.rf.w (Or.inl (by omega))) ?_ ?_ (h.se.w (by omega)) ?_ (fun x hx => hx.w (by omega)) (fun q hq => pk_un (by omega))
  · rw [wA_1, pk_un (by omega)]; exact h.1.2
  · rw [wA_e]; exact h.pe.w c2 hp (by omega)
  · rw [wA_e]; exact h.st.w c2 (by omega) (by omega)
/-- rents come -/
theorem rent_l : ∀ (m i : Nat) (S T : FS), i ≤ K 0 → K 0 - i < m → RelR K S (T.2 55) → ∃ S' T' : FS, RelR K S' (T'.2 55) ∧ CX S S' ∧ MX T T' ∧ (∀ j : Nat, ¬ (110 ≤ j ∧ j < 390) → j ≠ 9 → T'.2 55 j = T.2 55 j) ∧ (∀ k, l_X7_collectRents_10 (nI (K 0)) k m S (nI i) = k S' (nI (K 0))) ∧ ∀ k, l_X12_quarter_2 k m T (nI i) = k T' (nI (K 0)) := by
  intro m
  induction m with
  | zero => intro i S T _ hm; exact absurd hm (Nat.not_lt_zero _)
  | succ m ih =>
    intro i S T hi hm h
    obtain ⟨k1, k2, c0⟩ := h.ct 2 0 10 (by decide)
    obtain ⟨p1, p2, c2⟩ := h.ct 6 2 20 (by decide)
    by_cases c : i < K 0
    · have lt := nI_lt c (show K 0 < 2 ^ 31 by omega)
      have i10' : i < 10 := by omega
      have ch : S.1 103 = T.2 55 9 := h.1.2
      obtain ⟨⟨e0, e1, e2⟩, -, ow, ⟨ff, hff, ef⟩⟩ := h.tw i c
      have chst : ∀ (o : p_X7_isLiving S (T.2 55 (3 * i + 21)) = 0) (mo : ∀ k, l_X12_quarter_2 k (m + 1) T (nI i) = l_X12_quarter_2 k m (wA T 55 9 (T.2 55 9 + T.2 55 (3 * i + 20))) (nI (i + 1))) (f0 : T.2 55 (3 * i + 22) = 0), ∃ S' T' : FS, RelR K S' (T'.2 55) ∧ CX S S' ∧ MX T T' ∧ (∀ j : Nat, ¬ (110 ≤ j ∧ j < 390) → j ≠ 9 → T'.2 55 j = T.2 55 j) ∧ (∀ k, l_X7_collectRents_10 (nI (K 0)) k (m + 1) S (nI i) = k S' (nI (K 0))) ∧ ∀ k, l_X12_quarter_2 k (m + 1) T (nI i) = k T' (nI (K 0)) := by
        intro o mo f0
        obtain ⟨S', T', r1, r2, r3, r4, r5, r6⟩ := ih (i + 1) _ _ (by omega) (by omega) (h.chest (T.2 55 9 + T.2 55 (3 * i + 20)))
        refine ⟨S', T', r1, CX.tr ⟨⟨rfl, rfl, rfl, rfl⟩, rfl, rfl⟩ r2, MX.tr ⟨⟨rfl, rfl, rfl, rfl, rfl⟩, rfl, rfl⟩ r3, fun j hj h9 => (r4 j hj h9).trans (by rw [wA_e, pk_un h9]), fun k => ?_, fun k => by rw [mo]; exact r6 k⟩
        rw [l_X7_collectRents_10]
        simp only [lt, fv_s, fl_s, g2_0 i10', g2_1 i10', g2_2 i10', e0, e1, e2, f0, o, ch, nI_1, ↓reduceIte]; exact r5 k
      rcases (show ff = 0 ∨ ff = 1 by omega) with rfl | rfl
      · have f0 : T.2 55 (3 * i + 22) = 0 := ef
        have n01 : ((0 : Int32) = 1) = False := eq_false (by decide)
        rcases ow with eo | ⟨p, hp, eo⟩
        · refine chst ?_ (fun k => ?_) f0
          · rw [eo]; unfold p_X7_isLiving; rw [fHas_f p1 (Or.inl (by decide)), if_pos rfl]
          · rw [l_X12_quarter_2]
            simp only [k2, lt, fv_s, fl_s, fb_s, ixT_0 i10', ixT_1 i10', ixT_2 i10', f0, n01, eo, ltm1, nI_1, ↓reduceIte]
        · have p20 : p < 20 := by omega
          rcases h.liv hp with ⟨v1, v2, v3⟩ | ⟨v1, v2, v5, v3, v4⟩
          · have ec : S.2 7 (14 * p + 7) = T.2 55 (14 * p + 117) := (h.pe p hp).2.1.1
            obtain ⟨S', T', r1, r2, r3, r4, r5, r6⟩ := ih (i + 1) _ _ (by omega) (by omega) (h.col hp (Or.inl rfl) (T.2 55 (14 * p + 117) + T.2 55 (3 * i + 20)))
            refine ⟨S', T', r1, CX.tr ⟨⟨rfl, rfl, rfl, rfl⟩, rfl, rfl⟩ r2, MX.tr ⟨⟨rfl, rfl, rfl, rfl, rfl⟩, rfl, rfl⟩ r3, fun j hj h9 => (r4 j hj h9).trans (by rw [wA_e, pk_un (by omega)]), fun k => ?_, fun k => ?_⟩
            · rw [l_X7_collectRents_10]
              simp only [lt, fv_s, fl_s, g2_0 i10', g2_1 i10', g2_2 i10', e0, e1, e2, f0, eo, v2, i10, g6_7 p20, s6_7 p20, ec, nI_1, ↓reduceIte]; exact r5 k
            · rw [l_X12_quarter_2]
              simp only [k2, lt, fv_s, fl_s, fb_s, ixT_0 i10', ixT_1 i10', ixT_2 i10', f0, n01, eo, nI_pos (show p < 2 ^ 31 by omega), v3, i10, man_7 p20, sets_7 p20, nI_1, ↓reduceIte]; exact r6 k
          · refine chst (by rw [eo]; exact v3) (fun k => ?_) f0
            rw [l_X12_quarter_2]
            simp only [k2, lt, fv_s, fl_s, fb_s, ixT_0 i10', ixT_1 i10', ixT_2 i10', f0, n01, eo, nI_pos (show p < 2 ^ 31 by omega), v4, nI_1, ↓reduceIte]
      · have f1 : T.2 55 (3 * i + 22) = 1 := ef
        obtain ⟨S', T', r1, r2, r3, r4, r5, r6⟩ := ih (i + 1) S T (by omega) (by omega) h
        refine ⟨S', T', r1, r2, r3, r4, fun k => ?_, fun k => ?_⟩
        · rw [l_X7_collectRents_10]
          simp only [lt, fv_s, g2_2 i10', e2, f1, i10, nI_1, ↓reduceIte]; exact r5 k
        · rw [l_X12_quarter_2]
          simp only [k2, lt, fv_s, fb_s, ixT_1 i10', ixT_2 i10', f1, nI_1, ↓reduceIte]; exact r6 k
    · have ei : i = K 0 := by omega
      subst ei
      refine ⟨S, T, h, CX.rf, MX.rf, fun _ _ _ => rfl, fun k => ?_, fun k => ?_⟩
      · rw [l_X7_collectRents_10, if_neg (nI_nlt (Nat.le_refl _) (by omega))]
      · rw [l_X12_quarter_2, k2, if_neg (nI_nlt (Nat.le_refl _) (by omega))]
/-- men are paid -/
theorem men_l : ∀ (m i : Nat) (S T : FS), i ≤ K 2 → K 2 - i < m → RelR K S (T.2 55) → ∃ S' T' : FS, RelR K S' (T'.2 55) ∧ CX S S' ∧ MX T T' ∧ (∀ j : Nat, ¬ (110 ≤ j ∧ j < 390) → T'.2 55 j = T.2 55 j) ∧ (∀ k, l_X7_payMen_10 (nI (K 2)) k m S (nI i) = k S' (nI (K 2))) ∧ ∀ k, l_X12_quarter_103 k m T (nI i) = k T' (nI (K 2)) := by
  intro m
  induction m with
  | zero => intro i S T _ hm; exact absurd hm (Nat.not_lt_zero _)
  | succ m ih =>
    intro i S T hi hm h
    obtain ⟨k1, k2, c2⟩ := h.ct 6 2 20 (by decide)
    by_cases c : i < K 2
    · have lt := nI_lt c (show K 2 < 2 ^ 31 by omega)
      have i20 : i < 20 := by omega
      have e7 : S.2 7 (14 * i + 7) = T.2 55 (14 * i + 117) := (h.pe i c).2.1.1
      have e8 : S.2 7 (14 * i + 8) = T.2 55 (14 * i + 118) := (h.pe i c).2.1.2.1
      have go : ∀ x : Int32, x = (if T.2 55 (14 * i + 117) < T.2 55 (14 * i + 118) then T.2 55 (14 * i + 117) else T.2 55 (14 * i + 118)) → ∃ S' T' : FS, RelR K S' (T'.2 55) ∧ CX S S' ∧ MX T T' ∧ (∀ j : Nat, ¬ (110 ≤ j ∧ j < 390) → T'.2 55 j = T.2 55 j) ∧ (∀ k, l_X7_payMen_10 (nI (K 2)) k (m + 1) S (nI i) = k S' (nI (K 2))) ∧ ∀ k, l_X12_quarter_103 k m (wA (wA T 55 (14 * i + 117) (T.2 55 (14 * i + 117) - x)) 55 (14 * i + 118) x) (nI (i + 1)) = k T' (nI (K 2)) := by
        intro x hx
        have h1 := h.col c (Or.inl rfl) (T.2 55 (14 * i + 117) - x)
        have h2 := h1.col c (Or.inr rfl) x
        obtain ⟨S', T', r1, r2, r3, r4, r5, r6⟩ := ih (i + 1) _ _ (by omega) (by omega) h2
        refine ⟨S', T', r1, CX.tr ⟨⟨rfl, rfl, rfl, rfl⟩, rfl, rfl⟩ r2, MX.tr ⟨⟨rfl, rfl, rfl, rfl, rfl⟩, rfl, rfl⟩ r3, fun j hj => (r4 j hj).trans (by simp only [wA_e]; simp (disch := omega) only [pk_un]), fun k => ?_, r6⟩
        rw [l_X7_payMen_10]
        simp only [lt, fv_s, fl_s, g6_7 i20, g6_8 i20, s6_7 i20, s6_8 i20, e7, e8, imin, ← hx, ← Int32.sub_eq_add_neg, nI_1, ↓reduceIte]; exact r5 k
      by_cases z : T.2 55 (14 * i + 117) < T.2 55 (14 * i + 118)
      · obtain ⟨S', T', r1, r2, r3, r4, r5, r6⟩ := go (T.2 55 (14 * i + 117)) (by rw [if_pos z])
        refine ⟨S', T', r1, r2, r3, r4, r5, fun k => ?_⟩
        rw [l_X12_quarter_103]
        simp only [k2, lt, fb_s, man_7 i20, man_8 i20, z, sets_7 i20, sets_8 i20, nI_1, ↓reduceIte]; exact r6 k
      · obtain ⟨S', T', r1, r2, r3, r4, r5, r6⟩ := go (T.2 55 (14 * i + 118)) (by rw [if_neg z])
        refine ⟨S', T', r1, r2, r3, r4, r5, fun k => ?_⟩
        rw [l_X12_quarter_103]
        simp only [k2, lt, fb_s, man_7 i20, man_8 i20, z, sets_7 i20, sets_8 i20, nI_1, ↓reduceIte]; exact r6 k
    · have ei : i = K 2 := by omega
      subst ei
      refine ⟨S, T, h, CX.rf, MX.rf, fun _ _ => rfl, fun k => ?_, fun k => ?_⟩
      · rw [l_X7_payMen_10, if_neg (nI_nlt (Nat.le_refl _) (by omega))]
      · rw [l_X12_quarter_103, k2, if_neg (nI_nlt (Nat.le_refl _) (by omega))]
theorem wA_cm {a b i j : Nat} {v w : Int32} (h : a ≠ b) : wA (wA S a i v) b j w = wA (wA S b j w) a i v := by
  unfold wA
  simp only
  rw [ua_ne (fun q => h q.symm), ua_ne h, ua_cm h]
/-- owed of a debt, and how often it was missed -/
theorem RDe.w {f n : Nat → Int32} {d m : Nat} {x : Int32} (h : RDe K f n) (b : K 6 ≤ 6) (b0 : K 0 ≤ 10) (hd : d < K 6) (hm : m ≤ K 8) (hf : 2 ≤ m → ∀ t : Nat, t < K 0 → n (6 * d + 1774) = nI t → n (3 * t + 22) = 1) : RDe K (upd (upd f (5 * d) x) (5 * d + 4) (nI m)) (upd (upd n (6 * d + 1770) x) (6 * d + 1773) (nI m)) := by
  intro q hq
  obtain ⟨h1, t, m', t1, t2, m1, m2, m3⟩ := h q hq
  by_cases e : q = d
  · subst e
    simp (disch := omega) only [pk_us, pk_un]
    exact ⟨⟨trivial, h1.2.1, h1.2.2.1, h1.2.2.2.1, trivial⟩, t, m, t1, t2, hm, rfl, fun z => hf z t t1 t2⟩
  · simp (disch := omega) only [pk_un]
    exact ⟨h1, t, m', t1, t2, m1, m2, m3⟩
theorem RelR.dw (h : RelR K S (T.2 55)) {d m : Nat} (hd : d < K 6) (hm : m ≤ K 8) (x : Int32) (hf : 2 ≤ m → ∀ t : Nat, t < K 0 → T.2 55 (6 * d + 1774) = nI t → T.2 55 (3 * t + 22) = 1) : RelR K (wA (wA S 17 (5 * d) x) 17 (5 * d + 4) (nI m)) ((wA (wA T 55 (6 * d + 1770) x) 55 (6 * d + 1773) (nI m)).2 55) := by
  have c6 := (h.ct 16 6 6 (by decide)).2.2
  have c0 := (h.ct 2 0 10 (by decide)).2.2
  simp only [wA_e]
  refine h.onD ((CQ.rf.wA (by decide) (by decide)).wA (by decide) (by decide)) ((NQ.rf.w (Or.inl (by omega))).w (Or.inl (by omega))) ?_ ?_
  · simp (disch := omega) only [pk_un, wA_1]; exact h.1.2
  · simp only [wA_e]; exact h.de.w c6 c0 hd hm hf
theorem RelR.forf (h : RelR K S (T.2 55)) {t : Nat} (ht : t < K 0) : RelR K (wA S 3 (3 * t + 2) 1) ((wA T 55 (3 * t + 22) 1).2 55) := by
  have c0 := (h.ct 2 0 10 (by decide)).2.2
  rw [wA_e]
  refine h.onT (CQ.rf.wA (by decide) (by decide)) (NQ.rf.w (Or.inl (by omega))) ?_ ?_ ?_
  · rw [wA_1, pk_un (by omega)]; exact h.1.2
  · rw [wA_e]
    intro q hq
    obtain ⟨h1, h2, h3, h4⟩ := h.tw q hq
    by_cases e : q = t
    · subst e
      simp (disch := omega) only [pk_us, pk_un]
      exact ⟨⟨h1.1, h1.2.1, trivial⟩, h2, h3, ⟨1, Nat.le_refl _, rfl⟩⟩
    · simp (disch := omega) only [pk_un]; exact ⟨h1, h2, h3, h4⟩
  · intro q hq e
    by_cases z : q = t
    · subst z; rw [pk_us]
    · rw [pk_un (by omega)]; exact e
theorem imin_e (o due : Int32) : imin o due = if o < due then o else due := by
  unfold imin
  by_cases a : due < o
  · rw [if_pos a, if_neg (fun q => Int32.lt_irrefl (Int32.lt_trans q a))]
  · rw [if_neg a]
    by_cases b : o < due
    · rw [if_pos b]
    · rw [if_neg b]; exact Int32.le_antisymm (Int32.not_lt.mp a) (Int32.not_lt.mp b)
end QUA
end
section
/-! ===== pure: debts are served; days ===== -/
section DEB
variable {K : Nat → Nat} {S T : FS} {za zb zc zd : Int32}
theorem upd_up {f : Nat → Int32} {k : Nat} {x y : Int32} : upd (upd f k x) k y = upd f k y := by
  funext j
  by_cases c : j = k
  · subst c; rw [pk_us, pk_us]
  · rw [pk_un c, pk_un c, pk_un c]
theorem RelR.owe (h : RelR K S (T.2 55)) {d : Nat} (hd : d < K 6) (x : Int32) : RelR K (wA S 17 (5 * d) x) ((wA T 55 (6 * d + 1770) x).2 55) := by
  have c6 := (h.ct 16 6 6 (by decide)).2.2
  have c0 := (h.ct 2 0 10 (by decide)).2.2
  rw [wA_e]
  refine h.onD (CQ.rf.wA (by decide) (by decide)) (NQ.rf.w (Or.inl (by omega))) ?_ ?_
  · rw [wA_1, pk_un (by omega)]; exact h.1.2
  · rw [wA_e]
    intro q hq
    obtain ⟨h1, t, m', t1, t2, m1, m2, m3⟩ := h.de q hq
    by_cases e : q = d
    · subst e
      simp (disch := omega) only [pk_us, pk_un]
      exact ⟨⟨trivial, h1.2⟩, t, m', t1, t2, m1, m2, m3⟩
    · simp (disch := omega) only [pk_un]
      exact ⟨h1, t, m', t1, t2, m1, m2, m3⟩
def pyIn (kk : FS → Option (Int32 × FS)) (x48 : Int32) (j49 : Nat) (X : FS) (x : Int32) : Option (Int32 × FS) :=
  if (X.2 55 9) < x then (fb (ix 2071 (x48 + 3)) (fun j91 =>
       fl (wA X 55 j91 ((X.2 55 j91) + 1)) (fun S92 =>
       if (S92.2 55 j91) = 2 then (fb (ix 2071 (x48 + 4)) (fun j94 =>
        fb (ix 2071 ((20 + (3 * (S92.2 55 j94))) + 2)) (fun j95 =>
        fl (wA S92 55 j95 1) (fun S96 => kk S96)))) else (kk S92)))) else (fl (wA X 55 9 ((X.2 55 9) - x)) (fun S97 =>
       fl (wA S97 55 j49 ((S97.2 55 j49) - x)) (fun S98 => kk S98)))
def svIn (kk : FS → Option (Int32 × FS)) (x48 : Int32) (j49 : Nat) (X : FS) : Option (Int32 × FS) :=
  fb (ix 2071 (x48 + 2)) (fun j77 => if (X.2 55 j49) < (X.2 55 j77) then fv (X.2 55 j49) (fun x => pyIn kk x48 j49 X x) else fv (X.2 55 j77) (fun x => pyIn kk x48 j49 X x))
theorem q180_e {k : FS → Int32 → Option (Int32 × FS)} {m : Nat} {x : Int32} : l_X12_quarter_180 k (m + 1) T x = if x < (T.2 55 6) then (fv (1770 + (6 * x)) (fun x48 =>
    fb (ix 2071 x48) (fun j49 =>
    fb (ix 2071 (x48 + 1)) (fun j50 =>
    fv ((T.2 55 j49) + (((T.2 55 j49) * (T.2 55 j50)) / 100)) (fun x51 =>
    if x51 < 999999 then fl (wA T 55 j49 x51) (fun X => svIn (fun Y => l_X12_quarter_180 k m Y (x + 1)) x48 j49 X) else fl (wA T 55 j49 999999) (fun X => svIn (fun Y => l_X12_quarter_180 k m Y (x + 1)) x48 j49 X)))))) else (k T x) := by
  rw [l_X12_quarter_180]; rfl
theorem py_e {kk : FS → Option (Int32 × FS)} {i t mm : Nat} {x y : Int32} (hi : i < 6) (ht : t < 10) (et : T.2 55 (6 * i + 1774) = nI t) (em : T.2 55 (6 * i + 1773) = nI mm) : pyIn kk (1770 + 6 * nI i) (6 * i + 1770) (wA T 55 (6 * i + 1770) y) x = if T.2 55 9 < x then (if nI (mm + 1) = 2 then kk (wA (wA (wA T 55 (6 * i + 1770) y) 55 (6 * i + 1773) (nI (mm + 1))) 55 (3 * t + 22) 1) else kk (wA (wA T 55 (6 * i + 1770) y) 55 (6 * i + 1773) (nI (mm + 1)))) else kk (wA (wA (wA T 55 (6 * i + 1770) y) 55 9 (T.2 55 9 - x)) 55 (6 * i + 1770) (y - x)) := by
  unfold pyIn
  have a9 : (wA T 55 (6 * i + 1770) y).2 55 9 = T.2 55 9 := by rw [wA_e, pk_un (by omega)]
  have a3 : (wA T 55 (6 * i + 1770) y).2 55 (6 * i + 1773) = nI mm := by rw [wA_e, pk_un (by omega), em]
  rw [a9, ixD_3 hi]
  simp only [fb_s, fl_s, a3, nI_1, ixD_4 hi]
  have b3 : (wA (wA T 55 (6 * i + 1770) y) 55 (6 * i + 1773) (nI (mm + 1))).2 55 (6 * i + 1773) = nI (mm + 1) := by rw [wA_e, pk_us]
  have b4 : (wA (wA T 55 (6 * i + 1770) y) 55 (6 * i + 1773) (nI (mm + 1))).2 55 (6 * i + 1774) = nI t := by rw [wA_e, wA_e, pk_un (by omega), pk_un (by omega), et]
  have b0 : (wA (wA T 55 (6 * i + 1770) y) 55 9 (T.2 55 9 - x)).2 55 (6 * i + 1770) = y := by rw [wA_e, wA_e, pk_un (by omega), pk_us]
  rw [b3, b4, b0, ixT_2 ht, fb_s]
theorem serve_l : ∀ (m i : Nat) (S T : FS), i ≤ K 6 → K 6 - i < m → RelR K S (T.2 55) → (∀ d : Nat, i ≤ d → d < K 6 → ∃ mm : Nat, T.2 55 (6 * d + 1773) = nI mm ∧ mm + 1 ≤ K 8) → ∃ S' T' : FS, RelR K S' (T'.2 55) ∧ CX S S' ∧ MX T T' ∧ (∀ k, l_X7_serveDebts_10 (nI (K 6)) k m S (nI i) = k S' (nI (K 6))) ∧ ∀ k, l_X12_quarter_180 k m T (nI i) = k T' (nI (K 6)) := by
  intro m
  induction m with
  | zero => intro i S T _ hm; exact absurd hm (Nat.not_lt_zero _)
  | succ m ih =>
    intro i S T hi hm h hmm
    obtain ⟨k1, k2, c6⟩ := h.ct 16 6 6 (by decide)
    have c0 := (h.ct 2 0 10 (by decide)).2.2
    have c8 := (h.ct 102 8 2000 (by decide)).2.2
    have ch : S.1 103 = T.2 55 9 := h.1.2
    by_cases c : i < K 6
    · have lt := nI_lt c (show K 6 < 2 ^ 31 by omega)
      have i6 : i < 6 := by omega
      obtain ⟨⟨e0, e1, e2, e3, e4⟩, t, mm0, t1, t2, m1, m2, m3⟩ := h.de i c
      obtain ⟨mm, em, hm1⟩ := hmm i (Nat.le_refl _) c
      obtain rfl : mm0 = mm := nI_inj (by omega) (by omega) (m2.symm.trans em)
      have t10 : t < 10 := by omega
      have step : ∀ y : Int32, y = imin 999999 (T.2 55 (6 * i + 1770) + T.2 55 (6 * i + 1770) * T.2 55 (6 * i + 1771) / 100) → ∃ S' T' : FS, RelR K S' (T'.2 55) ∧ CX S S' ∧ MX T T' ∧ (∀ k, l_X7_serveDebts_10 (nI (K 6)) k (m + 1) S (nI i) = k S' (nI (K 6))) ∧ ∀ k, svIn (fun Y => l_X12_quarter_180 k m Y (nI (i + 1))) (1770 + 6 * nI i) (6 * i + 1770) (wA T 55 (6 * i + 1770) y) = k T' (nI (K 6)) := by
        intro y hy
        have sv : ∀ kk : FS → Option (Int32 × FS), svIn kk (1770 + 6 * nI i) (6 * i + 1770) (wA T 55 (6 * i + 1770) y) = pyIn kk (1770 + 6 * nI i) (6 * i + 1770) (wA T 55 (6 * i + 1770) y) (imin y (T.2 55 (6 * i + 1772))) := fun kk => by
          unfold svIn
          have a0 : (wA T 55 (6 * i + 1770) y).2 55 (6 * i + 1770) = y := by rw [wA_e, pk_us]
          have a2 : (wA T 55 (6 * i + 1770) y).2 55 (6 * i + 1772) = T.2 55 (6 * i + 1772) := by rw [wA_e, pk_un (by omega)]
          rw [ixD_2 i6, fb_s, a0, a2, fv_s, fv_s, imin_e]
          by_cases z : y < T.2 55 (6 * i + 1772)
          · rw [if_pos z, if_pos z]
          · rw [if_neg z, if_neg z]
        simp only [sv, py_e i6 t10 t2 m2]
        have cl : ∀ k, l_X7_serveDebts_10 (nI (K 6)) k (m + 1) S (nI i) = if T.2 55 9 < imin y (T.2 55 (6 * i + 1772)) then (if nI (mm0 + 1) < 2 then l_X7_serveDebts_10 (nI (K 6)) k m (wA (wA S 17 (5 * i) y) 17 (5 * i + 4) (nI (mm0 + 1))) (nI (i + 1)) else l_X7_serveDebts_10 (nI (K 6)) k m (wA (wA (wA S 17 (5 * i) y) 17 (5 * i + 4) (nI (mm0 + 1))) 3 (3 * t + 2) 1) (nI (i + 1))) else l_X7_serveDebts_10 (nI (K 6)) k m (wA (wI S 103 (T.2 55 9 - imin y (T.2 55 (6 * i + 1772)))) 17 (5 * i) (y - imin y (T.2 55 (6 * i + 1772)))) (nI (i + 1)) := fun k => by
          rw [l_X7_serveDebts_10]
          unfold f_X7_missOnce
          have a4 : (wA S 17 (5 * i) y).2 17 (5 * i + 4) = nI mm0 := by rw [wA_e, pk_un (by omega), e4, m2]
          have b4 : (wA (wA S 17 (5 * i) y) 17 (5 * i + 4) (nI (mm0 + 1))).2 17 (5 * i + 4) = nI (mm0 + 1) := by rw [wA_e, pk_us]
          have b3 : (wA (wA S 17 (5 * i) y) 17 (5 * i + 4) (nI (mm0 + 1))).2 17 (5 * i + 3) = nI t := by rw [wA_e, wA_e, pk_un (by omega), pk_un (by omega), e3, t2]
          simp only [lt, fv_s, fl_s, g16_0 i6, g16_1 i6, g16_2 i6, e0, e1, e2, ← hy, ch, s16_0 i6, s16_4 i6, g16_4 i6, a4, nI_1, b4, g16_3 i6, b3, s2_2 t10, ↓reduceIte]
          by_cases z3 : T.2 55 9 < imin y (T.2 55 (6 * i + 1772))
          · rw [if_pos z3, if_pos z3]
            by_cases z4 : nI (mm0 + 1) < 2
            · rw [if_pos z4, if_pos z4, fb_s]
            · rw [if_neg z4, if_neg z4, fb_s]
          · rw [if_neg z3, if_neg z3]
        simp only [cl]
        generalize imin y (T.2 55 (6 * i + 1772)) = x
        have nx : ∀ T2 : FS, (∀ d : Nat, i + 1 ≤ d → d < K 6 → T2.2 55 (6 * d + 1773) = T.2 55 (6 * d + 1773)) → ∀ d : Nat, i + 1 ≤ d → d < K 6 → ∃ mm : Nat, T2.2 55 (6 * d + 1773) = nI mm ∧ mm + 1 ≤ K 8 := fun T2 q d h1 h2 => by rw [q d h1 h2]; exact hmm d (by omega) h2
        by_cases z3 : T.2 55 9 < x
        · simp only [z3, ↓reduceIte]
          by_cases z4 : mm0 + 1 < 2
          · have z4' : nI (mm0 + 1) < 2 := nI_lt (b := 2) z4 (by decide)
            have z5 : ¬ nI (mm0 + 1) = 2 := fun q => by rw [q] at z4'; exact absurd z4' (by decide)
            simp only [z4', z5, ↓reduceIte]
            obtain ⟨S', T', r1, r2, r3, r4, r5⟩ := ih (i + 1) _ _ (by omega) (by omega) (h.dw c hm1 y (fun q => absurd q (by omega))) (nx _ (fun d h1 h2 => by simp only [wA_e]; simp (disch := omega) only [pk_un]))
            exact ⟨S', T', r1, CX.tr ⟨⟨rfl, rfl, rfl, rfl⟩, rfl, rfl⟩ r2, MX.tr ⟨⟨rfl, rfl, rfl, rfl, rfl⟩, rfl, rfl⟩ r3, r4, r5⟩
          · have z4' : ¬ nI (mm0 + 1) < 2 := nI_nlt (b := 2) (by omega) (by omega)
            have hf : RelR K (wA (wA (wA S 17 (5 * i) y) 17 (5 * i + 4) (nI (mm0 + 1))) 3 (3 * t + 2) 1) (upd (upd (upd (T.2 55) (3 * t + 22) 1) (6 * i + 1770) y) (6 * i + 1773) (nI (mm0 + 1))) := by
              have h2 := (h.forf t1).dw (d := i) (m := mm0 + 1) c hm1 y (fun _ t' ht' e' => by
                rw [wA_e, pk_un (by omega), t2] at e'
                rw [← nI_inj (by omega) (by omega) e', wA_e, pk_us])
              simp only [wA_e] at h2
              rw [wA_cm (a := 17) (b := 3) (by decide), wA_cm (a := 17) (b := 3) (by decide)]
              exact h2
            simp only [z4', ↓reduceIte]
            by_cases z5 : nI (mm0 + 1) = 2
            · simp only [z5, ↓reduceIte]
              rw [z5] at hf
              obtain ⟨S', T', r1, r2, r3, r4, r5⟩ := ih (i + 1) _ (wA (wA (wA T 55 (6 * i + 1770) y) 55 (6 * i + 1773) 2) 55 (3 * t + 22) 1) (by omega) (by omega) (by
                simp only [wA_e]
                rw [upd_cm (a := 6 * i + 1773) (b := 3 * t + 22) (by omega), upd_cm (a := 6 * i + 1770) (b := 3 * t + 22) (by omega)]
                exact hf) (nx _ (fun d h1 h2 => by simp only [wA_e]; simp (disch := omega) only [pk_un]))
              exact ⟨S', T', r1, CX.tr ⟨⟨rfl, rfl, rfl, rfl⟩, rfl, rfl⟩ r2, MX.tr ⟨⟨rfl, rfl, rfl, rfl, rfl⟩, rfl, rfl⟩ r3, r4, r5⟩
            · simp only [z5, ↓reduceIte]
              have m2' : 2 ≤ mm0 := by
                apply Classical.byContradiction
                intro q
                exact z5 (by rw [show mm0 + 1 = 2 by omega]; rfl)
              rw [upd_id (m3 m2')] at hf
              obtain ⟨S', T', r1, r2, r3, r4, r5⟩ := ih (i + 1) _ (wA (wA T 55 (6 * i + 1770) y) 55 (6 * i + 1773) (nI (mm0 + 1))) (by omega) (by omega) (by simp only [wA_e]; exact hf) (nx _ (fun d h1 h2 => by simp only [wA_e]; simp (disch := omega) only [pk_un]))
              exact ⟨S', T', r1, CX.tr ⟨⟨rfl, rfl, rfl, rfl⟩, rfl, rfl⟩ r2, MX.tr ⟨⟨rfl, rfl, rfl, rfl, rfl⟩, rfl, rfl⟩ r3, r4, r5⟩
        · simp only [z3, ↓reduceIte]
          have h2 := (h.chest (T.2 55 9 - x)).owe c (y - x)
          obtain ⟨S', T', r1, r2, r3, r4, r5⟩ := ih (i + 1) _ (wA (wA (wA T 55 (6 * i + 1770) y) 55 9 (T.2 55 9 - x)) 55 (6 * i + 1770) (y - x)) (by omega) (by omega) (by
            simp only [wA_e] at h2 ⊢
            rw [upd_cm (a := 6 * i + 1770) (b := 9) (by omega), upd_up]
            exact h2) (nx _ (fun d h1 h2 => by simp only [wA_e]; simp (disch := omega) only [pk_un]))
          exact ⟨S', T', r1, CX.tr ⟨⟨rfl, rfl, rfl, rfl⟩, rfl, rfl⟩ r2, MX.tr ⟨⟨rfl, rfl, rfl, rfl, rfl⟩, rfl, rfl⟩ r3, r4, r5⟩
      have mo : ∀ k, l_X12_quarter_180 k (m + 1) T (nI i) = svIn (fun Y => l_X12_quarter_180 k m Y (nI (i + 1))) (1770 + 6 * nI i) (6 * i + 1770) (wA T 55 (6 * i + 1770) (imin 999999 (T.2 55 (6 * i + 1770) + T.2 55 (6 * i + 1770) * T.2 55 (6 * i + 1771) / 100))) := fun k => by
        rw [q180_e]
        simp only [k2, lt, fv_s, fl_s, ixD_0 i6, ixD_1 i6, fb_s, nI_1, imin, ↓reduceIte]
        by_cases z : T.2 55 (6 * i + 1770) + T.2 55 (6 * i + 1770) * T.2 55 (6 * i + 1771) / 100 < 999999
        · rw [if_pos z, if_pos z]
        · rw [if_neg z, if_neg z]
      simp only [mo]
      exact step _ rfl
    · have ei : i = K 6 := by omega
      subst ei
      refine ⟨S, T, h, CX.rf, MX.rf, fun k => ?_, fun k => ?_⟩
      · rw [l_X7_serveDebts_10, if_neg (nI_nlt (Nat.le_refl _) (by omega))]
      · rw [l_X12_quarter_180, k2, if_neg (nI_nlt (Nat.le_refl _) (by omega))]
/-- a day -/
theorem RelR.oneDay (h : RelR K S (T.2 55)) (b8 : K 8 + 1 ≤ 2000) : ∃ (S' T' : FS), f_X7_endDay S = some (0, S') ∧ RelR (kU K 8 (K 8 + 1)) S' (T'.2 55) ∧ CX S S' ∧ MX T T' ∧ ∀ kk : FS → Option (Int32 × FS), l_X12_days_52 (fun S23 _ => l_X12_days_116 (fun S34 _ => if ((S34.2 55 8) - (S34.2 55 8) / 90 * 90) = 0 then (fb (f_X12_quarter S34) (fun r37 => kk r37.2)) else kk S34) FU S23 0) FU (wA T 55 8 (T.2 55 8 + 1)) 0 = kk T' := by
  obtain ⟨S1, T1, a1, a2, a3, a4, a5, a6⟩ := h.bring b8
  obtain ⟨-, -, c3⟩ := a3.ct 8 3 20 (by decide)
  have c6 := (h.ct 16 6 6 (by decide)).2.2
  obtain ⟨S2, T2, b1, b2, b3, b4, b5, b6⟩ := back_l (K := kU K 8 (K 8 + 1)) FU 0 S1 T1 (Nat.zero_le _) (FU_lt (by omega)) a3
  obtain ⟨d1, d2, d3⟩ := b1.ct 102 8 2000 (by decide)
  have q1 := (a3.ct 8 3 20 (by decide)).1
  have tk : f_X7_takeBackLent S1 = some (0, S2) := by
    unfold f_X7_takeBackLent
    rw [fv_s, q1]; exact b5 _
  unfold f_X7_endDay
  simp only [fl_s, a1, fb_s, tk, d1]
  by_cases z : nI (kU K 8 (K 8 + 1) 8) - nI (kU K 8 (K 8 + 1) 8) / 90 * 90 = 0
  · have cc0 := (b1.ct 2 0 10 (by decide))
    have cc2 := (b1.ct 6 2 20 (by decide))
    obtain ⟨S3, T3, f1, f2, f3, f4, f5, f6⟩ := rent_l (K := kU K 8 (K 8 + 1)) FU 0 S2 T2 (Nat.zero_le _) (FU_lt (by omega)) b1
    have cr : f_X7_collectRents S2 = some (0, S3) := by
      unfold f_X7_collectRents
      rw [fv_s, cc0.1]; exact f5 _
    obtain ⟨S4, T4, g1, g2, g3, g4, g5, g6⟩ := men_l (K := kU K 8 (K 8 + 1)) FU 0 S3 T3 (Nat.zero_le _) (FU_lt (by omega)) f1
    have pm : f_X7_payMen S3 = some (0, S4) := by
      unfold f_X7_payMen
      rw [fv_s, (f1.ct 6 2 20 (by decide)).1]; exact g5 _
    obtain ⟨S5, T5, i1, i2, i3, i4, i5⟩ := serve_l (K := kU K 8 (K 8 + 1)) FU 0 S4 T4 (Nat.zero_le _) (FU_lt (by have := (g1.ct 16 6 6 (by decide)).2.2; omega)) g1 (fun d _ hd => by
      have hd6 : d < K 6 := hd
      obtain ⟨-, t, mm, -, -, m1, m2, -⟩ := h.de d hd6
      refine ⟨mm, ?_, by rw [kU_e]; omega⟩
      rw [g4 _ (by omega), f4 _ (by omega) (by omega), b4 _ (by omega), a6 _ (by omega) (by omega)]; exact m2)
    have sd : f_X7_serveDebts S4 = some (0, S5) := by
      unfold f_X7_serveDebts
      rw [fv_s, (g1.ct 16 6 6 (by decide)).1]; exact i4 _
    refine ⟨S5, T5, ?_, i1, ((((a4.tr b2).tr f2).tr g2).tr i2), ((((a5.tr b3).tr f3).tr g3).tr i3), fun kk => ?_⟩
    · simp only [z, ↓reduceIte, cr, pm, sd, fb_s]
    · rw [a2]
      rw [show ∀ k, l_X12_days_116 k FU T1 0 = k T2 (nI (kU K 8 (K 8 + 1) 3)) from b6]
      simp only [d2, z, ↓reduceIte]
      unfold f_X12_quarter
      rw [show ∀ k, l_X12_quarter_2 k FU T2 0 = k T3 (nI (kU K 8 (K 8 + 1) 0)) from f6, show ∀ k, l_X12_quarter_103 k FU T3 0 = k T4 (nI (kU K 8 (K 8 + 1) 2)) from g6, show ∀ k, l_X12_quarter_180 k FU T4 0 = k T5 (nI (kU K 8 (K 8 + 1) 6)) from i5, fb_s]
  · refine ⟨S2, T2, ?_, b1, a4.tr b2, a5.tr b3, fun kk => ?_⟩
    · simp only [z, ↓reduceIte]
    · rw [a2]
      rw [show ∀ k, l_X12_days_116 k FU T1 0 = k T2 (nI (kU K 8 (K 8 + 1) 3)) from b6]
      simp only [d2, z, ↓reduceIte]
theorem days_l {c : Nat} (hc : c ≤ 400) : ∀ (m i : Nat) (K : Nat → Nat) (S T : FS), i ≤ c → c - i < m → K 8 + (c - i) ≤ 2000 → RelR K S (T.2 55) → ∃ (K' : Nat → Nat) (S' T' : FS), RelR K' S' (T'.2 55) ∧ CX S S' ∧ MX T T' ∧ (∀ k, l_X11_days_35 (nI c) k m S (nI i) = k S' (nI c)) ∧ ∀ k, l_X12_days_34 (nI c) k m T (nI i) = k T' (nI c) := by
  intro m
  induction m with
  | zero => intro i K S T _ hm; exact absurd hm (Nat.not_lt_zero _)
  | succ m ih =>
    intro i K S T hi hm hb h
    by_cases ci : i < c
    · obtain ⟨S1, T1, a1, a2, a3, a4, a5⟩ := h.oneDay (by omega)
      obtain ⟨K', S', T', r1, r2, r3, r4, r5⟩ := ih (i + 1) (kU K 8 (K 8 + 1)) S1 T1 (by omega) (by omega) (by rw [kU_e]; omega) a2
      refine ⟨K', S', T', r1, a3.tr r2, a4.tr r3, fun k => ?_, fun k => ?_⟩
      · rw [l_X11_days_35, if_pos (nI_lt ci (by omega)), a1, fb_s, nI_1]; exact r4 k
      · rw [l_X12_days_34, if_pos (nI_lt ci (by omega)), fl_s]
        rw [← r5 k, nI_1]
        exact a5 (fun X => l_X12_days_34 (nI c) k m X (nI (i + 1)))
    · have ei : i = c := by omega
      subst ei
      refine ⟨K, S, T, h, CX.rf, MX.rf, fun k => ?_, fun k => ?_⟩
      · rw [l_X11_days_35, if_neg (nI_nlt (Nat.le_refl _) (by omega))]
      · rw [l_X12_days_34, if_neg (nI_nlt (Nat.le_refl _) (by omega))]
theorem op_days (h : RelR K S (T.2 55)) : OK2 S T (f_X11_days S za) (f_X12_days T za) := by
  unfold f_X11_days f_X12_days
  simp only [fb_id]
  obtain ⟨d1, d2, d3⟩ := h.ct 102 8 2000 (by decide)
  rcases out_c za 1 400 with ⟨b1, b2⟩ | ⟨b1, b2⟩
  · obtain ⟨c, hc, rfl⟩ := out_n 1 400 rfl rfl (by decide) (by decide) b1
    simp only [b1, b2, i10, d1, d2, nI_add, ↓reduceIte]
    by_cases z : 2000 < K 8 + c
    · have z' : (2000 : Int32) < nI (K 8 + c) := nI_lt (a := 2000) z (by omega)
      rw [if_pos z', if_pos z']; exact ok_1 h
    · have z' : ¬ (2000 : Int32) < nI (K 8 + c) := nI_nlt (a := 2000) (by omega) (by decide)
      rw [if_neg z', if_neg z']
      obtain ⟨K', S', T', r1, r2, r3, r4, r5⟩ := days_l (c := c) hc.2 FU 0 K S T (Nat.zero_le _) (FU_lt (by omega)) (by omega) h
      rw [show ∀ k, l_X11_days_35 (nI c) k FU S 0 = k S' (nI c) from r4, show ∀ k, l_X12_days_34 (nI c) k FU T 0 = k T' (nI c) from r5]
      obtain ⟨y1, y2, -⟩ := r1.ct 102 8 2000 (by decide)
      rw [y1, y2]
      exact ok0 r1 r2 r3
  · simp only [b1, b2, ↓reduceIte]
    rw [if_neg (by decide)]; exact ok_1 h
end DEB
end
section
/-! ===== pure: sheets ===== -/
section SHT
variable {K : Nat → Nat} {S T : FS} {za zb zc zd ze : Int32}
theorem RelR.cs {S' : FS} {n : Nat → Int32} (h : RelR K S n) (eI : ∀ k ∈ ctI, S'.1 k = S.1 k) (eA : ∀ a ∈ ctA, S'.2 a = S.2 a) : RelR K S' n := by
  obtain ⟨h1, h2⟩ := h
  have e3 := eA 3 (by decide)
  have e5 := eA 5 (by decide)
  have e7 := eA 7 (by decide)
  have e9 := eA 9 (by decide)
  have e11 := eA 11 (by decide)
  have e13 := eA 13 (by decide)
  have e15 := eA 15 (by decide)
  have e17 := eA 17 (by decide)
  have e19 := eA 19 (by decide)
  have e21 := eA 21 (by decide)
  have e23 := eA 23 (by decide)
  have e25 := eA 25 (by decide)
  refine ⟨⟨fun q hq => ?_, ?_⟩, ?_⟩
  · have h9 : ∀ q ∈ ctT, q.1 ∈ ctI := by decide
    rw [eI q.1 (h9 q hq)]; exact h1.1 q hq
  · rw [eI 103 (by decide)]; exact h1.2
  · rw [e3, e5, e7, e9, e11, e13, e15, e17, e19, e21, e23, e25]; exact h2
/-- images are left alone -/
def KX (S S' T T' : FS) : Prop := S'.1 100 = S.1 100 ∧ T'.2 56 = T.2 56 ∧ T'.1 3 = T.1 3
theorem KX.rf : KX S S T T := ⟨rfl, rfl, rfl⟩
/-- both answer the same; realm, sheets and trace stand for the same again -/
def OK3 (S T : FS) (x y : Option (Int32 × FS)) : Prop := ∃ (v : Int32) (S' T' : FS), x = some (v, S') ∧ y = some (v, T') ∧ (∃ K' : Nat → Nat, RelR K' S' (T'.2 55)) ∧ RX S' T' ∧ KX S S' T T'
/-- both answer -/
def OK4 (S T : FS) (x y : Option (Int32 × FS)) : Prop := ∃ (v v' : Int32) (S' T' : FS), x = some (v, S') ∧ y = some (v', T') ∧ (∃ K' : Nat → Nat, RelR K' S' (T'.2 55)) ∧ RX S' T' ∧ KX S S' T T'
theorem OK3.one {x y : Option (Int32 × FS)} (h : OK3 S T x y) : OK4 S T x y := by
  obtain ⟨v, S', T', h1, h2, h3⟩ := h
  exact ⟨v, v, S', T', h1, h2, h3⟩
theorem OK2.x {x y : Option (Int32 × FS)} (h : OK2 S T x y) (hx : RX S T) : OK3 S T x y := by
  obtain ⟨v, S', T', h1, h2, h3, h4, h5⟩ := h
  exact ⟨v, S', T', h1, h2, h3, hx.mono h4 h5, h4.2.2, h5.1.1, h5.2.2⟩
theorem OK1.x {x y : Option (Int32 × FS)} (h : OK1 S T x y) (hx : RX S T) : OK4 S T x y := by
  obtain ⟨v, v', S', T', h1, h2, h3, h4, h5⟩ := h
  exact ⟨v, v', S', T', h1, h2, h3, hx.mono h4 h5, h4.2.2, h5.1.1, h5.2.2⟩
theorem sh_c (S T : FS) (x : Int32) : (p_X8_has S x = 0 ∧ p_X12_isSheet T x = 0) ∨ ∃ s : Nat, s < 4 ∧ x = nI s ∧ p_X8_has S x = 1 ∧ p_X12_isSheet T x = 1 ∧ ix 4 x = some s ∧ q_X8_bitsOf S x = some (S.2 49 s) ∧ q_X8_sizeOf S x = some (S.2 50 s) := by
  unfold p_X8_has p_X12_isSheet p_X12_in q_X8_bitsOf q_X8_sizeOf
  rcases pk_ix x (n := 4) (by decide) with h | h | ⟨s, hs, rfl⟩
  · left; rw [if_pos h, if_pos h]; exact ⟨rfl, rfl⟩
  · left
    have h2 : ¬ x < 4 := Int32.not_lt.mpr h
    by_cases c : x < 0
    · rw [if_pos c, if_pos c]; exact ⟨rfl, rfl⟩
    · rw [if_neg c, if_neg c, if_neg h2, if_pos (Int32.lt_of_lt_of_le (by decide) h)]; exact ⟨rfl, rfl⟩
  · right
    have p0 : ¬ nI s < 0 := nI_pos (by omega)
    have p4 : nI s < 4 := nI_lt (b := 4) hs (by decide)
    have p3 : ¬ (3 : Int32) < nI s := nI_nlt (a := 3) (by omega) (by decide)
    simp only [p0, p4, p3, ↓reduceIte, ix_nI hs (show 4 ≤ 2 ^ 31 by decide), fb_s]
    refine ⟨s, hs, rfl, ?_, ?_, ?_, ?_, ?_⟩ <;> first | rfl | trivial
def E52 (S S' : FS) : Prop := S'.1 = S.1 ∧ ∀ a : Nat, a ≠ 52 → S'.2 a = S.2 a
def E72 (T T' : FS) : Prop := T'.1 = T.1 ∧ ∀ a : Nat, a ≠ 72 → a ≠ 73 → T'.2 a = T.2 a
theorem ix96 {s i : Nat} (hs : s < 4) (hi : i < 24) : ix 96 ((24 : Int32) * nI s + nI i) = some (24 * s + i) := by
  rw [show (24 : Int32) = nI 24 from rfl, pk_mul, nI_add]; exact ix_nI (by omega) (by decide)
theorem clr_l {s : Nat} (hs : s < 4) : ∀ (m i : Nat) (S T : FS), i ≤ 24 → 24 - i < m → (∀ j : Nat, j < 96 → ¬ (24 * s + i ≤ j ∧ j < 24 * s + 24) → S.2 52 j = T.2 72 j) → ∃ S' T' : FS, E52 S S' ∧ E72 T T' ∧ (∀ j : Nat, j < 96 → S'.2 52 j = T'.2 72 j) ∧ (∀ k, l_X8_layOut_39 (nI s) k m S (nI i) = k S' (nI 24)) ∧ ∀ k, l_X12_sheet_90 (nI s) k m T (nI i) = k T' (nI 24) := by
  intro m
  induction m with
  | zero => intro i S T _ hm; exact absurd hm (Nat.not_lt_zero _)
  | succ m ih =>
    intro i S T hi hm hj
    by_cases c : i < 24
    · have lt : nI i < 24 := nI_lt (b := 24) c (by decide)
      obtain ⟨S', T', r1, r2, r3, r4, r5⟩ := ih (i + 1) (wA S 52 (24 * s + i) 0) (wA T 72 (24 * s + i) 0) (by omega) (by omega) (fun j h1 h2 => by
        rw [wA_e, wA_e]
        by_cases z : j = 24 * s + i
        · subst z; rw [pk_us, pk_us]
        · rw [pk_un z, pk_un z]; exact hj j h1 (by omega))
      refine ⟨S', T', ⟨r1.1, fun a ha => (r1.2 a ha).trans (wA_n ha)⟩, ⟨r2.1, fun a ha hb => (r2.2 a ha hb).trans (wA_n ha)⟩, r3, fun k => ?_, fun k => ?_⟩
      · rw [l_X8_layOut_39]
        simp only [lt, fl_s, s51 hs c, nI_1, ↓reduceIte]; exact r4 k
      · rw [l_X12_sheet_90]
        simp only [lt, fl_s, ix96 hs c, fb_s, nI_1, ↓reduceIte]; exact r5 k
    · have ei : i = 24 := by omega
      subst ei
      refine ⟨S, T, ⟨rfl, fun _ _ => rfl⟩, ⟨rfl, fun _ _ _ => rfl⟩, fun j h1 => hj j h1 (by omega), fun k => ?_, fun k => ?_⟩
      · rw [l_X8_layOut_39, if_neg (by decide)]
      · rw [l_X12_sheet_90, if_neg (by decide)]
theorem RelR.lay (h : RelR K S (T.2 55)) (hx : RX S T) {s n : Nat} {b : Int32} (hs : s < 4) (hn : n ≤ 24) (hb : b = 0 ∨ b = 8 ∨ b = 16 ∨ b = 32) : ∃ S' T' : FS, f_X8_layOut S (nI s) b (nI n) = some (0, S') ∧ j_X12_sheet_87 (nI s) (wA (wA T 70 s b) 71 s (nI n)) = some (1, T') ∧ (∃ K' : Nat → Nat, RelR K' S' (T'.2 55)) ∧ RX S' T' ∧ KX S S' T T' := by
  obtain ⟨x1, x2, x3, x4, x5⟩ := hx
  obtain ⟨S', T', r1, r2, r3, r4, r5⟩ := clr_l hs FU 0 (wA (wA S 49 s b) 50 s (nI n)) (wA (wA T 70 s b) 71 s (nI n)) (Nat.zero_le _) (FU_lt (by decide)) (fun j h1 _ => x2 j h1)
  have sA : ∀ a : Nat, a ≠ 52 → a ≠ 49 → a ≠ 50 → S'.2 a = S.2 a := fun a h1 h2 h3 => by rw [r1.2 a h1, wA_n h3, wA_n h2]
  have sI : S'.1 = S.1 := r1.1
  have tA : ∀ a : Nat, a ≠ 72 → a ≠ 73 → a ≠ 70 → a ≠ 71 → T'.2 a = T.2 a := fun a h1 h2 h3 h4 => by rw [r2.2 a h1 h2, wA_n h4, wA_n h3]
  have tI : T'.1 = T.1 := r2.1
  refine ⟨S', T', ?_, ?_, ⟨K, ?_⟩, ⟨fun q hq => ?_, r3, ?_, ?_, ?_⟩, ?_⟩
  · unfold f_X8_layOut j_X8_layOut_36
    rw [if_neg (nI_pos (by omega)), if_pos (show nI s < 4 from nI_lt (b := 4) hs (by decide)), ix_nI hs (by decide), fb_s, fl_s, fl_s]
    exact r4 _
  · exact r5 _
  · rw [tA 55 (by decide) (by decide) (by decide) (by decide)]
    exact h.cs (fun k _ => by rw [sI]) (fun a ha => sA a (fun q => by subst q; revert ha; decide) (fun q => by subst q; revert ha; decide) (fun q => by subst q; revert ha; decide))
  · rw [r1.2 49 (by decide), r1.2 50 (by decide), r2.2 70 (by decide) (by decide), r2.2 71 (by decide) (by decide), wA_n (show (49 : Nat) ≠ 50 by decide), wA_n (show (70 : Nat) ≠ 71 by decide), wA_e, wA_e, wA_e, wA_e, wA_n (show (50 : Nat) ≠ 49 by decide), wA_n (show (71 : Nat) ≠ 70 by decide)]
    by_cases z : q = s
    · subst z; simp only [pk_us]; exact ⟨⟨trivial, trivial⟩, ⟨n, hn, rfl⟩, hb⟩
    · simp only [pk_un z]; exact x1 q hq
  · rw [sI, tI]; exact x3
  · rw [tI]; exact x4
  · rw [sA 47 (by decide) (by decide) (by decide), tA 69 (by decide) (by decide) (by decide) (by decide)]; exact x5
  · exact ⟨by rw [sI], tA 56 (by decide) (by decide) (by decide) (by decide), by rw [tI]⟩
theorem op_sheet (h : RelR K S (T.2 55)) (hx : RX S T) : OK3 S T (f_X11_sheet S za zb zc) (f_X12_sheet T za zb zc) := by
  unfold f_X11_sheet f_X12_sheet
  simp only [fb_id]
  rcases sh_c S T za with ⟨a1, a2⟩ | ⟨s, hs, rfl, a1, a2, a3, -, -⟩
  · simp only [a1, a2, ↓reduceIte]; exact (ok_1 h).x hx
  · simp only [a1, a2, i10, ↓reduceIte]
    unfold j_X12_sheet_65 p_X8_isWidth
    simp only [a3, fb_s, fl_s]
    have go : ∀ n : Nat, n ≤ 24 → (zb = 0 ∨ zb = 8 ∨ zb = 16 ∨ zb = 32) → OK3 S T (fb (f_X8_layOut S (nI s) zb (nI n)) fun r => some (1, r.2)) (j_X12_sheet_87 (nI s) (wA (wA T 70 s zb) 71 s (nI n))) := by
      intro n hn hb
      obtain ⟨S', T', r1, r2, r3, r4, r5⟩ := h.lay hx hs hn hb
      rw [r1, r2]
      exact ⟨1, S', T', rfl, rfl, r3, r4, r5⟩
    by_cases b0 : zb = 0
    · subst b0
      have := go 0 (by decide) (Or.inl rfl)
      rw [show nI 0 = 0 from rfl] at this
      simp only [↓reduceIte]; exact this
    · simp only [b0, ↓reduceIte]
      have mid : (zb = 8 ∨ zb = 16 ∨ zb = 32) → OK3 S T (if zc < 0 then f_X11_told S (-1000003) else if 24 < zc then f_X11_told S (-1000001) else fb (f_X8_layOut S (nI s) zb zc) fun r11 => some (1, r11.2)) (if zc < 0 then f_X12_finds T 3 else if 24 < zc then f_X12_finds T 1 else j_X12_sheet_87 (nI s) (wA (wA T 70 s zb) 71 s zc)) := by
        intro hb
        by_cases c0 : zc < 0
        · rw [if_pos c0, if_pos c0]; exact (ok_3 h).x hx
        · rw [if_neg c0, if_neg c0]
          by_cases c4 : 24 < zc
          · rw [if_pos c4, if_pos c4]; exact (ok_1 h).x hx
          · rw [if_neg c4, if_neg c4]
            obtain ⟨n, hn, rfl⟩ := in_nat (a := 0) (b := 24) (by decide) (by decide) c0 c4
            exact go n hn.2 (Or.inr hb)
      by_cases b8 : zb = 8
      · have := mid (Or.inl b8)
        simp only [b8, ↓reduceIte, i10] at this ⊢; exact this
      · by_cases b16 : zb = 16
        · have := mid (Or.inr (Or.inl b16))
          simp only [b8, b16, ↓reduceIte, i10] at this ⊢; exact this
        · by_cases b32 : zb = 32
          · have := mid (Or.inr (Or.inr b32))
            simp only [b8, b16, b32, ↓reduceIte, i10] at this ⊢; exact this
          · simp only [b8, b16, b32, ↓reduceIte]; exact (ok_1 h).x hx
/-- one number -/
theorem RelR.num (h : RelR K S (T.2 55)) (hx : RX S T) {j : Nat} (v : Int32) : OK3 S T (some (1, wA S 52 j v)) (some (1, wA T 72 j v)) := by
  obtain ⟨x1, x2, x3, x4, x5⟩ := hx
  refine ⟨1, _, _, rfl, rfl, ⟨K, h.cs (fun _ _ => rfl) (fun a ha => wA_n (fun q => by subst q; revert ha; decide))⟩, ⟨x1, fun q hq => ?_, x3, x4, x5⟩, rfl, rfl, rfl⟩
  rw [wA_e, wA_e]
  by_cases z : q = j
  · subst z; rw [pk_us, pk_us]
  · rw [pk_un z, pk_un z]; exact x2 q hq
theorem op_put (h : RelR K S (T.2 55)) (hx : RX S T) : OK3 S T (f_X11_put S za zb zc) (f_X12_put T za zb zc) := by
  unfold f_X11_put f_X12_put q_X8_isMissing f_X8_setNumber
  simp only [fb_id]
  rcases sh_c S T za with ⟨a1, a2⟩ | ⟨s, hs, rfl, a1, a2, a3, a4, a5⟩
  · simp only [a1, a2, ↓reduceIte]; exact (ok_1 h).x hx
  · obtain ⟨⟨y1, y2⟩, ⟨sz, y3, y4⟩, y5⟩ := hx.1 s hs
    simp only [a1, a2, i10, a3, a4, a5, fb_s, y1, y2, y4, ↓reduceIte]
    by_cases b0 : T.2 70 s = 0
    · simp only [b0, fb_s, i10, ↓reduceIte]; exact (ok_2 h).x hx
    · simp only [b0, fb_s, ↓reduceIte]
      rcases cnt_c zb (k := sz) (by omega) with ⟨c1, c2⟩ | ⟨i, hi, rfl, c2⟩
      · rw [if_pos (c2 T)]
        by_cases z : zb < 0
        · rw [if_pos z]; exact (ok_1 h).x hx
        · rw [if_neg z, if_neg (Int32.not_lt.mpr (c1.resolve_left z))]; exact (ok_1 h).x hx
      · have i24 : i < 24 := by omega
        rw [if_neg (show ¬ p_X12_in T (nI i) 0 (nI sz - 1) = 0 by rw [c2 T]; decide), if_neg (nI_pos (by omega)), if_pos (nI_lt hi (by omega)), ix96 hs i24]
        simp only [s51 hs i24, fl_s, fb_s]
        by_cases b8 : T.2 70 s = 8
        · simp only [b8, fb_s, ↓reduceIte]; exact h.num hx _
        · by_cases b16 : T.2 70 s = 16
          · simp only [b8, b16, fb_s, ↓reduceIte]; exact h.num hx _
          · simp only [b8, b16, fb_s, ↓reduceIte]; exact h.num hx _
end SHT
end
section
/-! ===== pure: move, rents ===== -/
section MOV
variable {K : Nat → Nat} {S T : FS} {za zb zc zd ze : Int32}
theorem lcmp_n {a b c : Nat} (ha : a < 2 ^ 31) (hb : b < 2 ^ 31) (hc : c < 2 ^ 31) : 0 < lg_cmp ((nI a).toInt64 + (nI b).toInt64) (nI c).toInt64 ↔ c < a + b := by
  rw [lg_cmp_gt, Int64.lt_iff_toInt_lt, lg_i2l_add, Int32.toInt_toInt64, nI_toInt ha, nI_toInt hb, nI_toInt hc]
  omega
/-- the model's numbers to its row of 24, and back -/
theorem mv1_l {s i n : Nat} (hs : s < 4) (hi : i + n ≤ 24) : ∀ (m k : Nat) (T : FS), k ≤ n → n - k < m → ∃ T' : FS, E72 T T' ∧ T'.2 72 = T.2 72 ∧ (∀ j : Nat, j < n → (k ≤ j → T'.2 73 j = T.2 72 (24 * s + i + j)) ∧ (j < k → T'.2 73 j = T.2 73 j)) ∧ ∀ kk, l_X12_move_123 (nI s) (nI i) (nI n) kk m T (nI k) = kk T' (nI n) := by
  intro m
  induction m with
  | zero => intro k T _ hm; exact absurd hm (Nat.not_lt_zero _)
  | succ m ih =>
    intro k T hk hm
    by_cases c : k < n
    · obtain ⟨T', r1, r2, r3, r4⟩ := ih (k + 1) (wA T 73 k (T.2 72 (24 * s + i + k))) (by omega) (by omega)
      refine ⟨T', ⟨r1.1, fun a h1 h2 => (r1.2 a h1 h2).trans (wA_n h2)⟩, r2.trans (wA_n (by decide)), fun j hj => ⟨fun q => ?_, fun q => ?_⟩, fun kk => ?_⟩
      · by_cases z : j = k
        · subst z; rw [(r3 j hj).2 (by omega), wA_e, pk_us]
        · rw [(r3 j hj).1 (by omega), wA_n (by decide)]
      · rw [(r3 j hj).2 (by omega), wA_e, pk_un (by omega)]
      · have e1 : ix 96 ((24 : Int32) * nI s + nI i + nI k) = some (24 * s + i + k) := by
          rw [show (24 : Int32) = nI 24 from rfl, pk_mul, nI_add, nI_add]; exact ix_nI (by omega) (by decide)
        rw [l_X12_move_123, if_pos (nI_lt c (by omega))]
        simp only [e1, ix_nI (show k < 24 by omega) (show 24 ≤ 2 ^ 31 by decide), fb_s, fl_s, nI_1]; exact r4 kk
    · have ei : k = n := by omega
      subst ei
      refine ⟨T, ⟨rfl, fun _ _ _ => rfl⟩, rfl, fun j hj => ⟨fun q => absurd q (by omega), fun _ => rfl⟩, fun kk => ?_⟩
      rw [l_X12_move_123, if_neg (nI_nlt (Nat.le_refl _) (by omega))]
theorem mv2_l {s i n : Nat} (hs : s < 4) (hi : i + n ≤ 24) : ∀ (m k : Nat) (T : FS), k ≤ n → n - k < m → ∃ T' : FS, E72 T T' ∧ (∀ j : Nat, T'.2 72 j = if 24 * s + i + k ≤ j ∧ j < 24 * s + i + n then T.2 73 (j - (24 * s + i)) else T.2 72 j) ∧ ∀ kk, l_X12_move_160 (nI s) (nI i) (nI n) kk m T (nI k) = kk T' (nI n) := by
  intro m
  induction m with
  | zero => intro k T _ hm; exact absurd hm (Nat.not_lt_zero _)
  | succ m ih =>
    intro k T hk hm
    by_cases c : k < n
    · obtain ⟨T', r1, r3, r4⟩ := ih (k + 1) (wA T 72 (24 * s + i + k) (T.2 73 k)) (by omega) (by omega)
      refine ⟨T', ⟨r1.1, fun a h1 h2 => (r1.2 a h1 h2).trans (wA_n h1)⟩, fun j => ?_, fun kk => ?_⟩
      · rw [r3 j, wA_e, wA_n (show (73 : Nat) ≠ 72 by decide)]
        by_cases z : j = 24 * s + i + k
        · subst z
          rw [if_neg (by omega), if_pos (by omega), pk_us]
          exact congrArg _ (by omega)
        · rw [pk_un z]
          by_cases q : 24 * s + i + (k + 1) ≤ j ∧ j < 24 * s + i + n
          · rw [if_pos q, if_pos (by omega)]
          · rw [if_neg q, if_neg (by omega)]
      · have e1 : ix 96 ((24 : Int32) * nI s + nI i + nI k) = some (24 * s + i + k) := by
          rw [show (24 : Int32) = nI 24 from rfl, pk_mul, nI_add, nI_add]; exact ix_nI (by omega) (by decide)
        rw [l_X12_move_160, if_pos (nI_lt c (by omega))]
        simp only [e1, ix_nI (show k < 24 by omega) (show 24 ≤ 2 ^ 31 by decide), fb_s, fl_s, nI_1]; exact r4 kk
    · have ei : k = n := by omega
      subst ei
      refine ⟨T, ⟨rfl, fun _ _ _ => rfl⟩, fun j => by rw [if_neg (by omega)], fun kk => ?_⟩
      rw [l_X12_move_160, if_neg (nI_nlt (Nat.le_refl _) (by omega))]
theorem stand_c {s sz : Nat} {x y : Int32} (hs : q_X8_sizeOf S (nI s) = some (nI sz)) (hz : sz ≤ 24) : (q_X8_stand S (nI s) x y = some 0 ∧ (x < 0 ∨ y < 0 ∨ ∃ a b : Nat, a < 2 ^ 31 ∧ b < 2 ^ 31 ∧ x = nI a ∧ y = nI b ∧ sz < a + b)) ∨ ∃ a b : Nat, x = nI a ∧ y = nI b ∧ a + b ≤ sz ∧ q_X8_stand S (nI s) x y = some 1 := by
  unfold q_X8_stand
  by_cases c1 : x < 0
  · left; rw [if_pos c1]; exact ⟨rfl, Or.inl c1⟩
  · rw [if_neg c1]
    by_cases c2 : y < 0
    · left; rw [if_pos c2]; exact ⟨rfl, Or.inr (Or.inl c2)⟩
    · rw [if_neg c2, hs, fb_s]
      obtain ⟨a, ha, rfl⟩ := nI_of c1
      obtain ⟨b, hb, rfl⟩ := nI_of c2
      by_cases c3 : sz < b
      · left; rw [if_pos (nI_lt c3 (by omega))]; exact ⟨rfl, Or.inr (Or.inr ⟨a, b, ha, hb, rfl, rfl, by omega⟩)⟩
      · rw [if_neg (nI_nlt (by omega) (by omega)), fb_s, pk_sub (by omega)]
        by_cases c4 : sz - b < a
        · left; rw [if_pos (nI_lt c4 (by omega))]; exact ⟨rfl, Or.inr (Or.inr ⟨a, b, ha, hb, rfl, rfl, by omega⟩)⟩
        · right; rw [if_neg (nI_nlt (by omega) (by omega))]; exact ⟨a, b, rfl, rfl, by omega, rfl⟩
theorem fTr_in {f : Nat → Int32} {s i o j n : Nat} (hs : s < 4) (ho : o < 4) (hi : i + n ≤ 24) (hj : j + n ≤ 24) : fTr 4 24 f (nI s) (nI i) (nI o) (nI j) (nI n) = va_cpy f f (24 * s + i) (24 * o + j) n := by
  unfold fTr
  rw [pk_sub (show n ≤ 24 by omega), if_neg]
  · rw [pk_mul, pk_mul, nI_add, nI_add, nI_clamp (by omega), nI_clamp (by omega), nI_clamp (by omega), Nat.mul_comm s 24, Nat.mul_comm o 24]
  · rintro (q | q | q | q | q | q | q | q | q)
    · exact nI_pos (by omega) q
    · exact nI_ge hs (by omega) q
    · exact nI_pos (by omega) q
    · exact nI_pos (by omega) q
    · exact nI_nlt (by omega) (by omega) q
    · exact nI_pos (by omega) q
    · exact nI_ge ho (by omega) q
    · exact nI_pos (by omega) q
    · exact nI_nlt (by omega) (by omega) q
theorem op_move (h : RelR K S (T.2 55)) (hx : RX S T) : OK3 S T (f_X11_move S za zb zc zd ze) (f_X12_move T za zb zc zd ze) := by
  unfold f_X11_move f_X12_move q_X8_isMissing
  simp only [fb_id]
  rcases sh_c S T za with ⟨a1, a2⟩ | ⟨s, hs, rfl, a1, a2, a3, a4, a5⟩
  · simp only [a1, a2, ↓reduceIte]; exact (ok_1 h).x hx
  · rcases sh_c S T zc with ⟨b1, b2⟩ | ⟨o, ho, rfl, b1, b2, b3, b4, b5⟩
    · simp only [a1, a2, b1, b2, i10, ↓reduceIte]; exact (ok_1 h).x hx
    · obtain ⟨⟨y1, y2⟩, ⟨sz, y3, y4⟩, y5⟩ := hx.1 s hs
      obtain ⟨⟨z1, z2⟩, ⟨oz, z3, z4⟩, z5⟩ := hx.1 o ho
      rw [y2, y4] at a5
      rw [z2, z4] at b5
      simp only [a1, a2, b1, b2, i10, a3, b3, a4, b4, fb_s, y1, z1, y4, z4, ↓reduceIte]
      by_cases c0 : T.2 70 s = 0
      · simp only [c0, fb_s, i10, ↓reduceIte]; exact (ok_2 h).x hx
      · by_cases d0 : T.2 70 o = 0
        · simp only [c0, d0, fb_s, i10, ↓reduceIte]; exact (ok_2 h).x hx
        · simp only [c0, d0, fb_s, ↓reduceIte]
          by_cases e0 : T.2 70 s = T.2 70 o
          · simp only [e0, ↓reduceIte]
            have bad : (ze < 0 ∨ zb < 0 ∨ zd < 0 ∨ (∃ a b : Nat, a < 2 ^ 31 ∧ b < 2 ^ 31 ∧ zb = nI a ∧ ze = nI b ∧ sz < a + b) ∨ ∃ a b : Nat, a < 2 ^ 31 ∧ b < 2 ^ 31 ∧ zd = nI a ∧ ze = nI b ∧ oz < a + b) → ∀ y : Option (Int32 × FS), OK3 S T (f_X11_told S (-1000001)) (if ze < 0 then f_X12_finds T 1 else if zb < 0 then f_X12_finds T 1 else if zd < 0 then f_X12_finds T 1 else if 0 < lg_cmp (zb.toInt64 + ze.toInt64) (nI sz).toInt64 then f_X12_finds T 1 else if 0 < lg_cmp (zd.toInt64 + ze.toInt64) (nI oz).toInt64 then f_X12_finds T 1 else y) := by
              intro q y
              by_cases q1 : ze < 0
              · rw [if_pos q1]; exact (ok_1 h).x hx
              · rw [if_neg q1]
                by_cases q2 : zb < 0
                · rw [if_pos q2]; exact (ok_1 h).x hx
                · rw [if_neg q2]
                  by_cases q3 : zd < 0
                  · rw [if_pos q3]; exact (ok_1 h).x hx
                  · rw [if_neg q3]
                    rcases q with q | q | q | ⟨a, b, ha, hb, rfl, rfl, q⟩ | ⟨a, b, ha, hb, rfl, rfl, q⟩
                    · exact absurd q q1
                    · exact absurd q q2
                    · exact absurd q q3
                    · rw [if_pos ((lcmp_n ha hb (by omega)).mpr q)]; exact (ok_1 h).x hx
                    · by_cases q4 : 0 < lg_cmp (zb.toInt64 + (nI b).toInt64) (nI sz).toInt64
                      · rw [if_pos q4]; exact (ok_1 h).x hx
                      · rw [if_neg q4, if_pos ((lcmp_n ha hb (by omega)).mpr q)]; exact (ok_1 h).x hx
            rcases stand_c (x := zb) (y := ze) a5 y3 with ⟨s1, s2⟩ | ⟨i, n, rfl, rfl, s1, s2⟩
            · simp only [s1, fb_s, ↓reduceIte]
              exact bad (by rcases s2 with q | q | q; exact Or.inr (Or.inl q); exact Or.inl q; exact Or.inr (Or.inr (Or.inr (Or.inl q)))) _
            · simp only [s2, fb_s, i10, ↓reduceIte]
              rcases stand_c (x := zd) (y := nI n) b5 z3 with ⟨t1, t2⟩ | ⟨j, n', rfl, en, t1, t2⟩
              · simp only [t1, fb_s, ↓reduceIte]
                exact bad (by rcases t2 with q | q | q; exact Or.inr (Or.inr (Or.inl q)); exact Or.inl q; exact Or.inr (Or.inr (Or.inr (Or.inr q)))) _
              · obtain rfl : n = n' := nI_inj (by omega) (by omega) en
                simp only [t2, fb_s, i10, ↓reduceIte]
                unfold f_X8_transfer fTrans
                rw [fTr_in hs ho (show i + n ≤ 24 by omega) (show j + n ≤ 24 by omega), if_neg (nI_pos (by omega)), if_neg (nI_pos (by omega)), if_neg (nI_pos (by omega)), if_neg (fun q => absurd ((lcmp_n (by omega) (by omega) (by omega)).mp q) (by omega)), if_neg (fun q => absurd ((lcmp_n (by omega) (by omega) (by omega)).mp q) (by omega))]
                obtain ⟨T1, p1, p2, p3, p4⟩ := mv1_l (n := n) hs (show i + n ≤ 24 by omega) FU 0 T (Nat.zero_le _) (FU_lt (by omega))
                obtain ⟨T2, q1, q3, q4⟩ := mv2_l (n := n) ho (show j + n ≤ 24 by omega) FU 0 T1 (Nat.zero_le _) (FU_lt (by omega))
                rw [show ∀ kk, l_X12_move_123 (nI s) (nI i) (nI n) kk FU T 0 = kk T1 (nI n) from p4, show ∀ kk, l_X12_move_160 (nI o) (nI j) (nI n) kk FU T1 0 = kk T2 (nI n) from q4, fl_s]
                have tA : ∀ a : Nat, a ≠ 72 → a ≠ 73 → T2.2 a = T.2 a := fun a h1 h2 => (q1.2 a h1 h2).trans (p1.2 a h1 h2)
                have tI : T2.1 = T.1 := q1.1.trans p1.1
                obtain ⟨x1, x2, x3, x4, x5⟩ := hx
                refine ⟨nI n, _, T2, rfl, rfl, ⟨K, ?_⟩, ⟨fun q hq => ?_, fun q hq => ?_, ?_, ?_, ?_⟩, ?_⟩
                · rw [tA 55 (by decide) (by decide)]
                  exact h.cs (fun _ _ => rfl) (fun a ha => ua_ne (fun q => by subst q; revert ha; decide))
                · rw [tA 70 (by decide) (by decide), tA 71 (by decide) (by decide)]; exact x1 q hq
                · show ua S.2 (51 + 1) (va_cpy (S.2 (51 + 1)) (S.2 (51 + 1)) (24 * s + i) (24 * o + j) n) 52 q = _
                  rw [show ∀ g, ua S.2 (51 + 1) g 52 = g from fun g => ua_eq, q3 q]
                  by_cases z : 24 * o + j + 0 ≤ q ∧ q < 24 * o + j + n
                  · rw [if_pos z, pk_cpy_in (by omega) z.2, (p3 _ (by omega)).1 (by omega)]
                    exact x2 _ (by omega)
                  · rw [if_neg z, pk_cpy_out (by omega), p2]; exact x2 q hq
                · rw [tI]; exact x3
                · rw [tI]; exact x4
                · rw [tA 69 (by decide) (by decide)]; exact x5
                · exact ⟨rfl, tA 56 (by decide) (by decide), by rw [tI]⟩
          · simp only [e0, ↓reduceIte]; exact (ok_5 h).x hx
theorem all_l (h : RelR K S (T.2 55)) (hx : RX S T) {s sz : Nat} (hs : s < 4) (hz : sz ≤ 24) (ez : T.2 71 s = nI sz) : ∀ (m i : Nat), i ≤ sz → sz - i < m → ∀ k, (l_X8_areAllWithin_10 (nI s) (-1) 999 S (nI sz) (fun _ => some 1) m (nI i) = some 1 ∧ (∀ j : Nat, i ≤ j → j < sz → fOut (T.2 72 (24 * s + j)) (-1) 999 = 0) ∧ l_X12_rents_85 (nI s) s k m T (nI i) = k T (nI sz)) ∨ (l_X8_areAllWithin_10 (nI s) (-1) 999 S (nI sz) (fun _ => some 1) m (nI i) = some 0 ∧ l_X12_rents_85 (nI s) s k m T (nI i) = f_X12_finds T 1) := by
  intro m
  induction m with
  | zero => intro i _ hm; exact absurd hm (Nat.not_lt_zero _)
  | succ m ih =>
    intro i hi hm k
    rw [l_X8_areAllWithin_10, l_X12_rents_85, ez]
    by_cases c : i < sz
    · have i24 : i < 24 := by omega
      have en : p_X8_numberAt S (nI s) (nI i) = T.2 72 (24 * s + i) := by
        unfold p_X8_numberAt; rw [g51 hs i24]; exact hx.2.1 _ (by omega)
      rw [if_pos (nI_lt c (by omega)), if_pos (nI_lt c (by omega)), en, ix96 hs i24, fb_s, fb_id, nI_1]
      rcases out_c (T.2 72 (24 * s + i)) (-1) 999 with ⟨b1, b2⟩ | ⟨b1, b2⟩
      · rw [b1, b2, if_pos rfl, if_neg (by decide)]
        rcases ih (i + 1) (by omega) (by omega) k with ⟨r1, r2, r3⟩ | r
        · left
          refine ⟨r1, fun j h1 h2 => ?_, r3⟩
          by_cases z : j = i
          · subst z; exact b1
          · exact r2 j (by omega) h2
        · exact Or.inr r
      · right
        rw [b1, b2, if_neg (by decide), if_pos rfl]; exact ⟨rfl, rfl⟩
    · have ei : i = sz := by omega
      subst ei
      left
      rw [if_neg (nI_nlt (Nat.le_refl _) (by omega)), if_neg (nI_nlt (Nat.le_refl _) (by omega))]
      exact ⟨rfl, fun j h1 h2 => absurd h1 (by omega), rfl⟩
theorem RelR.rnt (h : RelR K S (T.2 55)) {t k : Nat} (ht : t < K 0) (hk : k ≤ 999) : RelR K (wA S 3 (3 * t) (nI k)) ((wA T 55 (3 * t + 20) (nI k)).2 55) := by
  have c0 := (h.ct 2 0 10 (by decide)).2.2
  rw [wA_e]
  refine h.onT (CQ.rf.wA (by decide) (by decide)) (NQ.rf.w (Or.inl (by omega))) ?_ ?_ (fun u hu e => by rw [pk_un (by omega)]; exact e)
  · rw [wA_1, pk_un (by omega)]; exact h.1.2
  · rw [wA_e]
    intro u hu
    have h1 := h.tw u hu
    by_cases e : u = t
    · subst e
      simp (disch := omega) only [pk_us, pk_un]
      exact ⟨⟨trivial, h1.1.2⟩, ⟨k, by omega, rfl⟩, h1.2.2⟩
    · simp (disch := omega) only [pk_un]; exact h1
theorem take_l {s sz : Nat} (hs : s < 4) (hz : sz ≤ 24) : ∀ (m i a : Nat) (S T : FS), i ≤ sz → sz - i < m → sz ≤ K 0 → RelR K S (T.2 55) → RX S T → T.2 71 s = nI sz → (∀ j : Nat, i ≤ j → j < sz → fOut (T.2 72 (24 * s + j)) (-1) 999 = 0) → ∃ (S' T' : FS) (v : Int32), RelR K S' (T'.2 55) ∧ RX S' T' ∧ KX S S' T T' ∧ (∀ k, l_X11_takeRents_5 (nI s) (nI sz) k m S (nI a) (nI i) = k S' v (nI sz)) ∧ ∀ k, l_X12_rents_133 (nI s) s k m T (nI a) (nI i) = k T' v (nI sz) := by
  intro m
  induction m with
  | zero => intro i a S T _ hm; exact absurd hm (Nat.not_lt_zero _)
  | succ m ih =>
    intro i a S T hi hm h0 h hx ez ha
    have c0 := (h.ct 2 0 10 (by decide)).2.2
    by_cases c : i < sz
    · have i24 : i < 24 := by omega
      have i10' : i < 10 := by omega
      have lt := nI_lt c (show sz < 2 ^ 31 by omega)
      have en : p_X8_numberAt S (nI s) (nI i) = T.2 72 (24 * s + i) := by
        unfold p_X8_numberAt; rw [g51 hs i24]; exact hx.2.1 _ (by omega)
      by_cases z : T.2 72 (24 * s + i) < 0
      · obtain ⟨S', T', v, r1, r2, r3, r4, r5⟩ := ih (i + 1) a S T (by omega) (by omega) h0 h hx ez (fun j h1 h2 => ha j (by omega) h2)
        refine ⟨S', T', v, r1, r2, r3, fun k => ?_, fun k => ?_⟩
        · rw [l_X11_takeRents_5]
          simp only [lt, fv_s, en, z, nI_1, ↓reduceIte]; exact r4 k
        · rw [l_X12_rents_133]
          simp only [ez, lt, ix96 hs i24, fb_s, z, nI_1, ↓reduceIte]; exact r5 k
      · obtain ⟨k0, hk0, ek⟩ : ∃ k0 : Nat, k0 ≤ 999 ∧ T.2 72 (24 * s + i) = nI k0 := by
          have q := ha i (Nat.le_refl _) c
          have q2 : ¬ 999 < T.2 72 (24 * s + i) := fun z2 => by unfold fOut at q; rw [if_pos (Or.inr z2)] at q; exact absurd q (by decide)
          obtain ⟨k0, b1, b2⟩ := in_nat (a := 0) (b := 999) (by decide) (by decide) z q2
          exact ⟨k0, b1.2, b2⟩
        obtain ⟨x1, x2, x3, x4, x5⟩ := id hx
        obtain ⟨S', T', v, r1, r2, r3, r4, r5⟩ := ih (i + 1) (a + 1) _ _ (by omega) (by omega) h0 (h.rnt (t := i) (by omega) hk0) ⟨x1, x2, x3, x4, x5⟩ ez (fun j h1 h2 => ha j (by omega) h2)
        refine ⟨S', T', v, r1, r2, r3, fun k => ?_, fun k => ?_⟩
        · rw [l_X11_takeRents_5]
          simp only [lt, fv_s, en, ek, nI_pos (show k0 < 2 ^ 31 by omega), fl_s, s2_0 i10', nI_1, ↓reduceIte]; exact r4 k
        · rw [l_X12_rents_133]
          simp only [ez, lt, ix96 hs i24, fb_s, ek, nI_pos (show k0 < 2 ^ 31 by omega), ixT_0 i10', fl_s, nI_1, ↓reduceIte]; exact r5 k
    · have ei : i = sz := by omega
      subst ei
      refine ⟨S, T, nI a, h, hx, KX.rf, fun k => ?_, fun k => ?_⟩
      · rw [l_X11_takeRents_5, if_neg (nI_nlt (Nat.le_refl _) (by omega))]
      · rw [l_X12_rents_133, ez, if_neg (nI_nlt (Nat.le_refl _) (by omega))]
theorem op_rents (h : RelR K S (T.2 55)) (hx : RX S T) : OK3 S T (f_X11_rents S za zb) (f_X12_rents T za zb) := by
  unfold f_X11_rents f_X12_rents q_X8_isMissing p_X8_isWidth q_X8_areAllWithin f_X11_takeRents
  simp only [fb_id]
  obtain ⟨k1, k2, c0⟩ := h.ct 2 0 10 (by decide)
  rcases sh_c S T za with ⟨a1, a2⟩ | ⟨s, hs, rfl, a1, a2, a3, a4, a5⟩
  · simp only [a1, a2, ↓reduceIte]; exact (ok_1 h).x hx
  · obtain ⟨⟨y1, y2⟩, ⟨sz, y3, y4⟩, y5⟩ := hx.1 s hs
    rw [y2, y4] at a5
    simp only [a1, a2, i10, a4, a5, fb_s, y1, ↓reduceIte]
    have go : OK3 S T (fb (if T.2 70 s = 0 then some (1 : Int32) else some 0) fun x6 => if x6 = 0 then if T.2 70 s = zb then if S.1 2 < nI sz then f_X11_told S (-1000003) else fb (l_X8_areAllWithin_10 (nI s) (-1) 999 S (nI sz) (fun x6_5 => some 1) FU 0) fun x15 => if x15 = 0 then f_X11_told S (-1000001) else fb (l_X11_takeRents_5 (nI s) (nI sz) (fun S6 x6_3 x6_4 => some (x6_3, S6)) FU S 0 0) fun r20 => f_X11_told r20.2 r20.1 else f_X11_told S (-1000005) else f_X11_told S (-1000002)) (j_X12_rents_31 (nI s) zb T) := by
      unfold j_X12_rents_31
      simp only [fb_id, a3, fb_s, y4, k1, k2]
      by_cases b0 : T.2 70 s = 0
      · simp only [b0, fb_s, i10, ↓reduceIte]; exact (ok_2 h).x hx
      · simp only [b0, fb_s, ↓reduceIte]
        by_cases b1 : T.2 70 s = zb
        · simp only [b1, ↓reduceIte]
          by_cases b2 : K 0 < sz
          · rw [if_pos (nI_lt b2 (by omega)), if_pos (nI_lt b2 (by omega))]; exact (ok_3 h).x hx
          · rw [if_neg (nI_nlt (by omega) (by omega)), if_neg (nI_nlt (by omega) (by omega))]
            rcases all_l h hx hs y3 y4 FU 0 (Nat.zero_le _) (FU_lt (by omega)) (fun S12 x12_3 => l_X12_rents_133 (nI s) s (fun S19 x19_3 x19_4 => some (x19_3, S19)) FU S12 0 0) with ⟨r1, r2, r3⟩ | ⟨r1, r2⟩
            · rw [show l_X8_areAllWithin_10 (nI s) (-1) 999 S (nI sz) (fun _ => some 1) FU 0 = some 1 from r1, show l_X12_rents_85 (nI s) s (fun S12 x12_3 => l_X12_rents_133 (nI s) s (fun S19 x19_3 x19_4 => some (x19_3, S19)) FU S12 0 0) FU T 0 = l_X12_rents_133 (nI s) s (fun S19 x19_3 x19_4 => some (x19_3, S19)) FU T 0 0 from r3, fb_s, if_neg (by decide)]
              obtain ⟨S', T', v, p1, p2, p3, p4, p5⟩ := take_l (K := K) hs y3 FU 0 0 S T (Nat.zero_le _) (FU_lt (by omega)) (by omega) h hx y4 (fun j h1 h2 => r2 j h1 h2)
              rw [show ∀ k, l_X11_takeRents_5 (nI s) (nI sz) k FU S 0 0 = k S' v (nI sz) from p4, show ∀ k, l_X12_rents_133 (nI s) s k FU T 0 0 = k T' v (nI sz) from p5, fb_s]
              obtain ⟨S2, e1, e2⟩ := told_e S' v
              exact ⟨v, S2, T', e1, rfl, ⟨K, p1.ce e2⟩, p2.mono e2.1 MX.rf, e2.1.2.2.trans p3.1, p3.2⟩
            · rw [show l_X8_areAllWithin_10 (nI s) (-1) 999 S (nI sz) (fun _ => some 1) FU 0 = some 0 from r1, show l_X12_rents_85 (nI s) s (fun S12 x12_3 => l_X12_rents_133 (nI s) s (fun S19 x19_3 x19_4 => some (x19_3, S19)) FU S12 0 0) FU T 0 = f_X12_finds T 1 from r2, fb_s, if_pos rfl]
              exact (ok_1 h).x hx
        · simp only [b1, ↓reduceIte]; exact (ok_5 h).x hx
    by_cases b8 : zb = 8
    · subst b8; simp only [↓reduceIte, i10]; exact go
    · by_cases b16 : zb = 16
      · subst b16; simp only [b8, ↓reduceIte, i10]; exact go
      · by_cases b32 : zb = 32
        · subst b32; simp only [b8, b16, ↓reduceIte, i10]; exact go
        · simp only [b8, b16, b32, ↓reduceIte]; exact (ok_1 h).x hx
end MOV
end
section
/-! ===== pure: who follows ===== -/
section HEI
variable {K : Nat → Nat} {S T : FS} {za zb zc zd ze : Int32}
theorem sub_lt_b {x y : Int32} (hx : bB x) (hy : bB y) : x - y < 0 ↔ x < y := by
  have a1 : -20000 ≤ x.toInt := by have := Int32.not_lt.mp hx.1; rw [Int32.le_iff_toInt_le] at this; exact this
  have a2 : x.toInt ≤ 2000 := by have := Int32.not_lt.mp hx.2; rw [Int32.le_iff_toInt_le] at this; exact this
  have b1 : -20000 ≤ y.toInt := by have := Int32.not_lt.mp hy.1; rw [Int32.le_iff_toInt_le] at this; exact this
  have b2 : y.toInt ≤ 2000 := by have := Int32.not_lt.mp hy.2; rw [Int32.le_iff_toInt_le] at this; exact this
  have e : (x - y).toInt = x.toInt - y.toInt := by
    rw [Int32.toInt_sub]
    exact Int.bmod_eq_of_le (by omega) (by omega)
  rw [Int32.lt_iff_toInt_lt, Int32.lt_iff_toInt_lt, e]
  show x.toInt - y.toInt < 0 ↔ _
  omega
theorem sub_lt_n {a b : Nat} (ha : a < 2 ^ 30) (hb : b < 2 ^ 30) : (nI a - nI b < 0 ↔ a < b) ∧ (nI a - nI b = 0 ↔ a = b) := by
  constructor
  · rw [Int32.lt_iff_toInt_lt, pk_sub_toInt ha hb]
    show (a : Int) - b < 0 ↔ _
    omega
  · constructor
    · intro q
      have := congrArg Int32.toInt q
      rw [pk_sub_toInt ha hb] at this
      have : (a : Int) - b = 0 := this
      omega
    · rintro rfl; rw [pk_sub (Nat.le_refl _), Nat.sub_self]; rfl
/-- the row in which one goes ahead: it stands at pos -/
def HI (K : Nat → Nat) (x pos u : Nat) (S : FS) (w0 w1 : Nat → Int32) : Prop := (∀ j : Nat, j ≤ u → j ≠ pos → S.2 39 j = w0 j ∧ ∃ q : Nat, q < K 2 ∧ w0 j = nI q ∧ w1 j = S.2 7 (14 * q + 11)) ∧ S.2 39 pos = nI x
def HL (K : Nat → Nat) (u : Nat) (S : FS) (w0 w1 : Nat → Int32) : Prop := ∀ j : Nat, j < u → S.2 39 j = w0 j ∧ ∃ q : Nat, q < K 2 ∧ w0 j = nI q ∧ w1 j = S.2 7 (14 * q + 11)
theorem ahead_c (h : RelR K S (T.2 55)) {x q : Nat} (hx : x < K 2) (hq : q < K 2) : (p_X4_isAhead S (nI x) (nI q) = 1 ∧ (S.2 7 (14 * x + 11) < S.2 7 (14 * q + 11) ∨ (¬ S.2 7 (14 * x + 11) < S.2 7 (14 * q + 11) ∧ S.2 7 (14 * q + 11) = S.2 7 (14 * x + 11) ∧ T.2 55 (14 * x + 111) < T.2 55 (14 * q + 111)))) ∨ (p_X4_isAhead S (nI x) (nI q) = 0 ∧ ¬ S.2 7 (14 * x + 11) < S.2 7 (14 * q + 11) ∧ (S.2 7 (14 * q + 11) = S.2 7 (14 * x + 11) → ¬ T.2 55 (14 * x + 111) < T.2 55 (14 * q + 111))) := by
  have c2 := (h.ct 6 2 20 (by decide)).2.2
  have x20 : x < 20 := by omega
  have q20 : q < 20 := by omega
  obtain ⟨s, s1, -⟩ := h.st
  have bx := (h.pe x hx).2.2.2.2.2.2.2.2
  have bq := (h.pe q hq).2.2.2.2.2.2.2.2
  have ex := (h.pe x hx).1.2.1
  have eq := (h.pe q hq).1.2.1
  obtain ⟨sx, bsx⟩ := s1 x hx
  obtain ⟨sq, bsq⟩ := s1 q hq
  unfold p_X4_isAhead
  simp only [fv_s, g6_11 x20, g6_11 q20, g6_1 x20, g6_1 q20, ex, eq, sx, sq]
  obtain ⟨l1, l2⟩ := sub_lt_n (a := s x) (b := s q) (by omega) (by omega)
  have l3 := sub_lt_b bx bq
  by_cases a : s x < s q
  · left; rw [if_pos (l1.mpr a)]; exact ⟨rfl, Or.inl (nI_lt a (by omega))⟩
  · have a' : ¬ nI (s x) < nI (s q) := nI_nlt (by omega) (by omega)
    rw [if_neg (fun z => a (l1.mp z))]
    by_cases b : s x = s q
    · rw [if_pos (l2.mpr b)]
      by_cases c : T.2 55 (14 * x + 111) < T.2 55 (14 * q + 111)
      · left; rw [if_pos (l3.mpr c)]; exact ⟨rfl, Or.inr ⟨a', by rw [b], c⟩⟩
      · right; rw [if_neg (fun z => c (l3.mp z))]; exact ⟨rfl, a', fun _ => c⟩
    · right
      rw [if_neg (fun z => b (l2.mp z))]
      exact ⟨rfl, a', fun z => absurd (nI_inj (by omega) (by omega) z).symm b⟩
def E39 (S S' : FS) : Prop := S'.1 = S.1 ∧ ∀ a : Nat, a ≠ 39 → S'.2 a = S.2 a
theorem ins_l {x u : Nat} {r9 : Int32 × FS} (hu : u < 20) (hx : x < K 2) : ∀ (m pos : Nat) (S : FS) (w0 w1 : Nat → Int32), pos ≤ u → pos < m → RelR K S (T.2 55) → r9.1 = S.2 7 (14 * x + 11) → HI K x pos u S w0 w1 → ∃ (S' : FS) (pos' : Nat) (w0' w1' : Nat → Int32), E39 S S' ∧ pos' ≤ u ∧ HI K x pos' u S' w0' w1' ∧ (∀ k, l_X4_enqueue_11 (nI x) k m S (nI pos) = k S' (nI pos')) ∧ ∀ k, l_X12_heir_107 (nI x) r9 k m T (nI pos) w0 w1 = k T (nI pos') w0' w1' := by
  intro m
  induction m with
  | zero => intro pos S w0 w1 _ hm; exact absurd hm (Nat.not_lt_zero _)
  | succ m ih =>
    intro pos S w0 w1 hp hm h er hi
    have c2 := (h.ct 6 2 20 (by decide)).2.2
    have x20 : x < 20 := by omega
    cases pos with
    | zero =>
      refine ⟨S, 0, w0, w1, ⟨rfl, fun _ _ => rfl⟩, hp, hi, fun k => ?_, fun k => ?_⟩
      · rw [l_X4_enqueue_11, if_neg (by decide)]
      · rw [l_X12_heir_107, if_neg (by decide)]
    | succ pos =>
      have z0 : (0 : Int32) < nI (pos + 1) := nI_lt (a := 0) (by omega) (by omega)
      obtain ⟨e1, q, hq, e2, e3⟩ := hi.1 pos (by omega) (by omega)
      have q20 : q < 20 := by omega
      have g1 : fG 38 20 1 S (nI pos) 0 = nI q := by rw [g38_0 (show pos < 20 by omega), e1, e2]
      have sh : ∃ (S' : FS) (pos' : Nat) (w0' w1' : Nat → Int32), E39 S S' ∧ pos' ≤ u ∧ HI K x pos' u S' w0' w1' ∧ (∀ k, l_X4_enqueue_11 (nI x) k m (wA (wA S 39 (pos + 1) (nI q)) 39 pos (nI x)) (nI pos) = k S' (nI pos')) ∧ ∀ k, l_X12_heir_107 (nI x) r9 k m T (nI pos) (upd w0 (pos + 1) (nI q)) (upd w1 (pos + 1) (S.2 7 (14 * q + 11))) = k T (nI pos') w0' w1' := by
        obtain ⟨S', pos', w0', w1', r1, r2, r3, r4, r5⟩ := ih pos (wA (wA S 39 (pos + 1) (nI q)) 39 pos (nI x)) (upd w0 (pos + 1) (nI q)) (upd w1 (pos + 1) (S.2 7 (14 * q + 11))) (by omega) (by omega) (h.cs (fun _ _ => rfl) (fun a ha => by rw [wA_n (fun q => by subst q; revert ha; decide), wA_n (fun q => by subst q; revert ha; decide)])) (by rw [wA_n (by decide), wA_n (by decide)]; exact er) ⟨fun j h1 h2 => by
          rw [wA_e, wA_e, pk_un h2, wA_n (show (7 : Nat) ≠ 39 by decide), wA_n (show (7 : Nat) ≠ 39 by decide)]
          by_cases z : j = pos + 1
          · subst z; rw [pk_us, pk_us, pk_us]; exact ⟨rfl, q, hq, rfl, rfl⟩
          · rw [pk_un z, pk_un z, pk_un z]; exact hi.1 j h1 z, by rw [wA_e, pk_us]⟩
        exact ⟨S', pos', w0', w1', ⟨r1.1, fun a ha => (r1.2 a ha).trans (by rw [wA_n ha, wA_n ha])⟩, r2, r3, r4, r5⟩
      have j1 : ix 20 (nI (pos + 1) - 1) = some pos := by rw [nI_pred]; exact ix_nI (by omega) (by decide)
      have j2 : ix 20 (nI (pos + 1)) = some (pos + 1) := ix_nI (by omega) (by decide)
      rcases ahead_c h hx hq with ⟨a1, a2⟩ | ⟨a1, a2, a3⟩
      · obtain ⟨S', pos', w0', w1', r1, r2, r3, r4, r5⟩ := sh
        refine ⟨S', pos', w0', w1', r1, r2, r3, fun k => ?_, fun k => ?_⟩
        · rw [l_X4_enqueue_11]
          simp only [z0, nI_pred, g1, a1, i10, s38_0 (show pos + 1 < 20 by omega), s38_0 (show pos < 20 by omega), fl_s, pk_m1, ↓reduceIte]; exact r4 k
        · rw [l_X12_heir_107]
          rcases a2 with b | ⟨b1, b2, b3⟩
          · simp only [z0, j1, j2, fb_s, e2, e3, er, b, fw_s, pk_m1, ↓reduceIte]; exact r5 k
          · rw [b2] at b1 r5
            simp only [z0, j1, j2, fb_s, e2, e3, er, b1, b2, man_1 q20, man_1 x20, b3, fw_s, pk_m1, ↓reduceIte]; exact r5 k
      · refine ⟨S, pos + 1, w0, w1, ⟨rfl, fun _ _ => rfl⟩, hp, hi, fun k => ?_, fun k => ?_⟩
        · rw [l_X4_enqueue_11]
          simp only [z0, nI_pred, g1, a1, ↓reduceIte]
        · rw [l_X12_heir_107]
          by_cases b : S.2 7 (14 * q + 11) = S.2 7 (14 * x + 11)
          · have a4 := a3 b
            rw [b] at a2
            simp only [z0, j1, fb_s, e2, e3, er, a2, b, man_1 q20, man_1 x20, a4, ↓reduceIte]
          · simp only [z0, j1, fb_s, e2, e3, er, a2, b, ↓reduceIte]
theorem heir_l : ∀ (d i u : Nat) (S T : FS) (w0 w1 : Nat → Int32) (m m' : Nat), i + d = K 2 → 1 ≤ i → d < m → d < m' → u < i → RelR K S (T.2 55) → S.1 38 = nI u → HL K u S w0 w1 → ∃ (S' T' : FS) (u' : Nat) (w0' w1' : Nat → Int32), CE S S' ∧ ME T T' ∧ u' < 20 ∧ S'.1 38 = nI u' ∧ HL K u' S' w0' w1' ∧ (∀ k, l_X4_follower_20 (nI (K 2)) k m S (nI i) = k S' (nI (K 2))) ∧ ∀ k, l_X12_heir_47 (lg (T.2 55) 2 (nI (K 8)) (nI (K 8)) (K 4)) k m' T (nI u) (nI i) w0 w1 = k T' (nI u') (nI (K 2)) w0' w1' := by
  intro d
  induction d with
  | zero =>
    intro i u S T w0 w1 m m' hd hi hm hm' hu h e8 hl
    obtain ⟨k1, k2, c2⟩ := h.ct 6 2 20 (by decide)
    obtain rfl : i = K 2 := by omega
    cases m with
    | zero => exact absurd hm (Nat.not_lt_zero _)
    | succ m =>
      cases m' with
      | zero => exact absurd hm' (Nat.not_lt_zero _)
      | succ m' =>
        refine ⟨S, T, u, w0, w1, CE.rf, ME.rf, by omega, e8, hl, fun k => ?_, fun k => ?_⟩
        · rw [l_X4_follower_20, if_neg (nI_nlt (Nat.le_refl _) (by omega))]
        · rw [l_X12_heir_47, k2, if_neg (nI_nlt (Nat.le_refl _) (by omega))]
  | succ d ih =>
    intro i u S T w0 w1 m m' hd hi hm hm' hu h e8 hl
    obtain ⟨k1, k2, c2⟩ := h.ct 6 2 20 (by decide)
    obtain ⟨d1, d2, d3⟩ := h.ct 102 8 2000 (by decide)
    have ci : i < K 2 := by omega
    have i20 : i < 20 := by omega
    have lt := nI_lt ci (show K 2 < 2 ^ 31 by omega)
    have n0 : ¬ nI i = 0 := nI_ne0 (by omega) (by omega)
    cases m with
    | zero => exact absurd hm (Nat.not_lt_zero _)
    | succ m =>
      cases m' with
      | zero => exact absurd hm' (Nat.not_lt_zero _)
      | succ m' =>
        obtain ⟨T1, t1, t2⟩ := h.steps ci
        have tn : T1.2 55 = T.2 55 := t1.2 55 (by decide)
        have h1 : RelR K S (T1.2 55) := by rw [tn]; exact h
        have skip : ∀ (S1 T2 : FS), CE S S1 → ME T T2 → S1.1 38 = S.1 38 → S1.2 39 = S.2 39 → ∃ (S' T' : FS) (u' : Nat) (w0' w1' : Nat → Int32), CE S S' ∧ ME T T' ∧ u' < 20 ∧ S'.1 38 = nI u' ∧ HL K u' S' w0' w1' ∧ (∀ k, l_X4_follower_20 (nI (K 2)) k m S1 (nI (i + 1)) = k S' (nI (K 2))) ∧ ∀ k, l_X12_heir_47 (lg (T.2 55) 2 (nI (K 8)) (nI (K 8)) (K 4)) k m' T2 (nI u) (nI (i + 1)) w0 w1 = k T' (nI u') (nI (K 2)) w0' w1' := by
          intro S1 T2 c1 c3 e38 e39
          obtain ⟨S', T', u', w0', w1', r1, r2, r3, r4, r5, r6, r7⟩ := ih (i + 1) u S1 T2 w0 w1 m m' (by omega) (by omega) (by omega) (by omega) (by omega) (by rw [c3.2]; exact h.ce c1) (by rw [e38]; exact e8) (fun j hj => by rw [e39, c1.2.2 7 (by decide)]; exact hl j hj)
          rw [c3.2] at r7
          exact ⟨S', T', u', w0', w1', c1.tr r1, c3.tr r2, r3, r4, r5, r6, r7⟩
        rcases h.liv ci with ⟨v1, v2, v3⟩ | ⟨v1, v2, v5, v3, v4⟩
        · have lv : q_X12_lives T1 (nI i) = some 1 := by
            rw [← v3]; unfold q_X12_lives; rw [man_9 i20, man_9 i20, tn]
          by_cases s9 : S.2 7 (14 * i + 11) = 99
          · obtain ⟨S', T', u', w0', w1', r1, r2, r3, r4, r5, r6, r7⟩ := skip S T1 CE.rf t1.me rfl rfl
            refine ⟨S', T', u', w0', w1', r1, r2, r3, r4, r5, fun k => ?_, fun k => ?_⟩
            · rw [l_X4_follower_20]
              unfold f_X4_isFollower
              simp only [lt, n0, v2, i10, g6_11 i20, s9, fb_s, nI_1, ↓reduceIte]; exact r6 k
            · rw [l_X12_heir_47]
              simp only [k2, lt, t2, fb_s, lv, i10, s9, nI_1, ↓reduceIte]; exact r7 k
          · obtain ⟨v, w, S1, T2, r1, r2, r3, r4, r5⟩ := h1.rul (zb := nI i) (zc := -1) 2 (nI (K 8)) (nI (K 8)) (Or.inr ⟨i, ci, rfl⟩) (Or.inl rfl)
            have vw := r5 (h1.taL ci (by rw [tn]; exact v1))
            subst vw
            rw [tn] at r2
            have d2' : T1.2 55 8 = nI (K 8) := by rw [tn]; exact d2
            by_cases y0 : v = 0
            · obtain ⟨S', T', u', w0', w1', x1, x2, x3, x4, x5, x6, x7⟩ := skip S1 T2 r3.ce (t1.me.tr r4.me) (r3.1 38 (by decide)) (r3.2 39 (by decide))
              refine ⟨S', T', u', w0', w1', x1, x2, x3, x4, x5, fun k => ?_, fun k => ?_⟩
              · rw [l_X4_follower_20]
                unfold f_X4_isFollower
                simp only [lt, n0, v2, i10, g6_11 i20, s9, d1, r1, y0, fb_s, nI_1, ↓reduceIte]; exact x6 k
              · rw [l_X12_heir_47]
                simp only [k2, lt, t2, fb_s, lv, i10, s9, d2', r2, y0, nI_1, ↓reduceIte]; exact x7 k
            · have h2 : RelR K S1 (T2.2 55) := by rw [r4.me.2]; exact h1.ce r3.ce
              have e38 : S1.1 38 = nI u := (r3.1 38 (by decide)).trans e8
              have u20 : u < 20 := by omega
              have ap : fApp 38 20 1 S1 (nI i) = some (nI u, (ui S1.1 38 (nI (u + 1)), ua S1.2 39 (pm_apf 1 u (nI i) (S1.2 39)))) := fApp_f e38 u20 (by decide)
              generalize hS2 : ((ui S1.1 38 (nI (u + 1)), ua S1.2 39 (pm_apf 1 u (nI i) (S1.2 39))) : FS) = S2 at ap
              have s2A : ∀ a : Nat, a ≠ 39 → S2.2 a = S1.2 a := fun a ha => by rw [← hS2]; exact ua_ne ha
              have s2I : ∀ k : Nat, k ≠ 38 → S2.1 k = S1.1 k := fun k hk => by rw [← hS2]; exact ui_ne hk
              have s39 : S2.2 39 = pm_apf 1 u (nI i) (S1.2 39) := by rw [← hS2]; show ua S1.2 39 _ 39 = _; exact ua_eq
              have s38 : S2.1 38 = nI (u + 1) := by rw [← hS2]; show ui S1.1 38 _ 38 = _; exact ui_eq
              have h3 : RelR K S2 (T2.2 55) := h2.cs (fun k hk => s2I k (fun q => by subst q; revert hk; decide)) (fun a ha => s2A a (fun q => by subst q; revert ha; decide))
              have s7 : S2.2 7 = S.2 7 := (s2A 7 (by decide)).trans (r3.2 7 (by decide))
              obtain ⟨S3, pos, w0', w1', p1, p2, p3, p4, p5⟩ := ins_l (K := K) (T := T2) (x := i) (u := u) (r9 := (S.2 7 (14 * i + 11), T1)) u20 ci FU u S2 w0 w1 (Nat.le_refl _) (FU_lt (by omega)) h3 (by rw [s7]) ⟨fun j h1 h2 => by
                rw [s39, s7, apf_o (by omega), r3.2 39 (by decide)]; exact hl j (by omega), by rw [s39, apf_0 (by omega) (by decide)]⟩
              have cs3 : CE S S3 := by
                refine CE.tr r3.ce ⟨⟨⟨?_, ?_, ?_, ?_⟩, ?_, ?_⟩, fun k hk => ?_, fun a ha => ?_⟩
                · rw [p1.2 _ (by decide), s2A _ (by decide)]
                · rw [p1.2 _ (by decide), s2A _ (by decide)]
                · rw [p1.2 _ (by decide), s2A _ (by decide)]
                · rw [p1.2 _ (by decide), s2A _ (by decide)]
                · rw [p1.1, s2I _ (by decide)]
                · rw [p1.1, s2I _ (by decide)]
                · rw [p1.1, s2I _ (fun q => by subst q; revert hk; decide)]
                · rw [p1.2 _ (fun q => by subst q; revert ha; decide), s2A _ (fun q => by subst q; revert ha; decide)]
              have s37 : S3.2 7 = S.2 7 := (p1.2 7 (by decide)).trans s7
              obtain ⟨S', T', u', z0', z1', x1, x2, x3, x4, x5, x6, x7⟩ := ih (i + 1) (u + 1) S3 T2 (upd w0' pos (nI i)) (upd w1' pos (S.2 7 (14 * i + 11))) m m' (by omega) (by omega) (by omega) (by omega) (by omega) (by rw [r4.me.2, tn]; exact h.ce cs3) (by rw [p1.1]; exact s38) (fun j hj => by
                by_cases z : j = pos
                · subst z; rw [pk_us, pk_us, s37]; exact ⟨p3.2, i, ci, rfl, rfl⟩
                · rw [pk_un z, pk_un z]; exact p3.1 j (by omega) z)
              rw [r4.me.2, tn] at x7
              refine ⟨S', T', u', z0', z1', cs3.tr x1, (t1.me.tr r4.me).tr x2, x3, x4, x5, fun k => ?_, fun k => ?_⟩
              · rw [l_X4_follower_20]
                unfold f_X4_isFollower f_X4_enqueue
                simp only [lt, n0, v2, i10, g6_11 i20, s9, d1, r1, y0, ap, fb_s, nI_1, ↓reduceIte]
                rw [p4]; exact x6 k
              · rw [l_X12_heir_47]
                simp only [k2, lt, t2, fb_s, lv, i10, s9, d2', r2, y0, nI_1, ↓reduceIte]
                rw [p5]
                simp only [ix_nI (show pos < 20 by omega) (show 20 ≤ 2 ^ 31 by decide), fb_s, fw_s]; exact x7 k
        · have lv : q_X12_lives T1 (nI i) = some 0 := by
            rw [← v4]; unfold q_X12_lives; rw [man_9 i20, man_9 i20, tn]
          obtain ⟨S', T', u', w0', w1', r1, r2, r3, r4, r5, r6, r7⟩ := skip S T1 CE.rf t1.me rfl rfl
          refine ⟨S', T', u', w0', w1', r1, r2, r3, r4, r5, fun k => ?_, fun k => ?_⟩
          · rw [l_X4_follower_20]
            unfold f_X4_isFollower
            simp only [lt, n0, v3, fb_s, nI_1, ↓reduceIte]; exact r6 k
          · rw [l_X12_heir_47]
            simp only [k2, lt, t2, fb_s, lv, nI_1, ↓reduceIte]; exact r7 k
theorem op_heir (h : RelR K S (T.2 55)) : OK2 S T (f_X11_heir S za) (f_X12_heir T za) := by
  unfold f_X11_heir f_X12_heir f_X4_follower
  simp only [fb_id, fl_s, fv_s, fw_s]
  obtain ⟨k1, k2, c2⟩ := h.ct 6 2 20 (by decide)
  obtain ⟨d1, d2, d3⟩ := h.ct 102 8 2000 (by decide)
  by_cases z : za < 0
  · rw [if_pos z, if_pos z]; exact ok_1 h
  · obtain ⟨a, ha, rfl⟩ := nI_of z
    rw [if_neg z, if_neg z, d2, (h.inF 2 (nI (K 8)) (nI (K 8))).2, fb_s, wI_n (show (6 : Nat) ≠ 38 by decide), k1]
    have c0 : CE S (wI S 38 0) := CE.wI (by decide)
    have fin : ∀ (S' T' : FS) (u' : Nat) (w0' w1' : Nat → Int32), CE S S' → ME T T' → u' < 20 → S'.1 38 = nI u' → HL K u' S' w0' w1' → OK2 S T (fb (if fHas 38 S' (nI a) = 0 then some (-1000002, S') else some (fG 38 20 1 S' (nI a) 0, S')) fun r3 => f_X11_told r3.2 r3.1) (if nI a < nI u' then fb (ix 20 (nI a)) fun j41 => some (w0' j41, T') else f_X12_finds T' 2) := by
      intro S' T' u' w0' w1' r1 r2 r3 r4 r5
      have h' : RelR K S' (T'.2 55) := by rw [r2.2]; exact h.ce r1
      by_cases c : a < u'
      · rw [fHas_t r4 c (by omega), if_neg (by decide), fb_s, if_pos (nI_lt c (by omega)), ix_nI (show a < 20 by omega) (by decide), fb_s, g38_0 (show a < 20 by omega), (r5 a c).1]
        exact okt h' r1.1 r2.1
      · rw [fHas_f r4 (Or.inr (nI_le (by omega) ha)), if_pos rfl, fb_s, if_neg (nI_nlt (by omega) ha)]
        exact okf h' r1.1 r2.1 (finds_2 T')
    by_cases p0 : K 2 = 0
    · rw [show l_X4_follower_20 (nI (K 2)) = l_X4_follower_20 (nI 0) by rw [p0]]
      have e1 : ∀ k, l_X4_follower_20 (nI 0) k FU (wI S 38 0) 0 = k (wI S 38 0) 0 := fun k => by
        show l_X4_follower_20 (nI 0) k (4999 + 1) (wI S 38 0) 0 = _
        rw [l_X4_follower_20, if_neg (by decide)]
      have e2 : ∀ (x : Int32) k w0 w1, l_X12_heir_47 x k FU T 0 1 w0 w1 = k T 0 1 w0 w1 := fun x k w0 w1 => by
        show l_X12_heir_47 x k (4999 + 1) T 0 1 w0 w1 = _
        rw [l_X12_heir_47, k2, p0, if_neg (by decide)]
      rw [e1, e2]
      exact fin (wI S 38 0) T 0 (fun _ => 0) (fun _ => 0) c0 ME.rf (by decide) wI_e (fun j hj => absurd hj (Nat.not_lt_zero _))
    · obtain ⟨S', T', u', w0', w1', r1, r2, r3, r4, r5, r6, r7⟩ := heir_l (K := K) (K 2 - 1) 1 0 (wI S 38 0) T (fun _ => 0) (fun _ => 0) 4999 FU (by omega) (by omega) (by omega) (FU_lt (by omega)) (by omega) (h.ce c0) wI_e (fun j hj => absurd hj (Nat.not_lt_zero _))
      have e1 : ∀ k, l_X4_follower_20 (nI (K 2)) k FU (wI S 38 0) 0 = k S' (nI (K 2)) := fun k => by
        show l_X4_follower_20 (nI (K 2)) k (4999 + 1) (wI S 38 0) (nI 0) = _
        rw [l_X4_follower_20, if_pos (nI_lt (by omega) (by omega)), if_pos (show nI 0 = 0 from rfl), nI_1]
        exact r6 k
      rw [e1, show ∀ k, l_X12_heir_47 (lg (T.2 55) 2 (nI (K 8)) (nI (K 8)) (K 4)) k FU T 0 1 (fun _ => 0) (fun _ => 0) = k T' (nI u') (nI (K 2)) w0' w1' from r7]
      exact fin S' T' u' w0' w1' (c0.tr r1) r2 r3 r4 r5
end HEI
end
section
/-! ===== pure: of age, after (both answer) ===== -/
section AGE
variable {K : Nat → Nat} {S T : FS} {za zb zc zd ze : Int32}
theorem nb_l {x : Int32} : ∀ (m i : Nat) (y : Int32), i ≤ K 4 → K 4 - i < m → K 4 ≤ 12 → ∃ v : Int32, l_X2_nextBeginning_19 3 x S (nI (K 4)) (fun x8_3 x8_5 => some x8_3) m y (nI i) = some v := by
  intro m
  induction m with
  | zero => intro i y _ hm; exact absurd hm (Nat.not_lt_zero _)
  | succ m ih =>
    intro i y hi hm c4
    rw [l_X2_nextBeginning_19]
    by_cases c : i < K 4
    · rw [if_pos (nI_lt c (by omega)), fv_s, nI_1]
      split
      · split
        · rw [fv_s]; exact ih (i + 1) _ (by omega) (by omega) c4
        · exact ih (i + 1) _ (by omega) (by omega) c4
      · exact ih (i + 1) _ (by omega) (by omega) c4
    · obtain rfl : i = K 4 := by omega
      rw [if_neg (nI_nlt (Nat.le_refl _) (by omega))]; exact ⟨y, rfl⟩
theorem ageC_l {x2 : Int32} : ∀ (m i : Nat) (lw nx : Int32) (S : FS), i ≤ 2001 → 2001 - i < m → RelR K S (T.2 55) → 1 ≤ K 2 → (lw = -1 ∨ ∃ l : Nat, l < K 4 ∧ lw = nI l) → ∃ (v : Int32) (S' : FS), CE S S' ∧ l_X4_dayOfAge_49 x2 (fun S26 x26_2 x26_3 x26_4 => some ((-1000002), S26)) m S lw nx (nI i) = some (v, S') ∧ (v = -1000002 ∨ ∃ j : Nat, j ≤ 2000 ∧ v = nI j) := by
  intro m
  induction m with
  | zero => intro i lw nx S _ hm; exact absurd hm (Nat.not_lt_zero _)
  | succ m ih =>
    intro i lw nx S hi hm h h2 hl
    obtain ⟨k1, k2, c4⟩ := h.ct 10 4 12 (by decide)
    obtain ⟨d1, d2, d3⟩ := h.ct 102 8 2000 (by decide)
    rw [l_X4_dayOfAge_49]
    by_cases c : i < 2001
    · have z2 : ¬ (2000 : Int32) < nI i := nI_nlt (a := 2000) (by omega) (by decide)
      rw [if_neg z2]
      have use : ∀ (lw' nx' : Int32), (lw' = -1 ∨ ∃ l : Nat, l < K 4 ∧ lw' = nI l) → ∃ (v : Int32) (S' : FS), CE S S' ∧ (if lw' < 0 then some (nI i, S) else fb (f_X2_comesTo S lw' 0 (-1) (nI i)) fun r24 => if r24.1 = 0 then l_X4_dayOfAge_49 x2 (fun S26 x26_2 x26_3 x26_4 => some ((-1000002), S26)) m r24.2 lw' nx' (nI i + 1) else some (nI i, r24.2)) = some (v, S') ∧ (v = -1000002 ∨ ∃ j : Nat, j ≤ 2000 ∧ v = nI j) := by
        intro lw' nx' hl'
        rcases hl' with rfl | ⟨l, hl', rfl⟩
        · rw [if_pos (by decide)]; exact ⟨nI i, S, CE.rf, rfl, Or.inr ⟨i, by omega, rfl⟩⟩
        · rw [if_neg (nI_pos (by omega))]
          obtain ⟨v, w, S', T', r1, r2, r3, r4, -⟩ := h.comes (zb := 0) (zc := -1) (zd := nI i) hl' (Or.inr ⟨0, by omega, rfl⟩) (Or.inl rfl)
          rw [r1, fb_s]
          by_cases z : v = 0
          · rw [if_pos z, nI_1]
            obtain ⟨v', S2, q1, q2, q3⟩ := ih (i + 1) (nI l) nx' S' (by omega) (by omega) (h.ce r3.ce) h2 (Or.inr ⟨l, hl', rfl⟩)
            exact ⟨v', S2, r3.ce.tr q1, q2, q3⟩
          · rw [if_neg z]; exact ⟨nI i, S', r3.ce, rfl, Or.inr ⟨i, by omega, rfl⟩⟩
      by_cases e : nI i = nx
      · rw [if_pos e, (h.inF 3 (nI i) (S.1 102)).1, fb_s]
        obtain ⟨nv, hn⟩ := nb_l (K := K) (S := S) (x := nI i) FU 0 2001 (Nat.zero_le _) (FU_lt (by omega)) c4
        have en : q_X2_nextBeginning S 3 (nI i) = some nv := by
          unfold q_X2_nextBeginning; rw [fv_s, k1]; exact hn
        rw [en, fb_s]
        exact use _ _ (lg_c (K 4))
      · rw [if_neg e]
        split
        · exact use lw nx hl
        · split
          · rw [nI_1]; exact ih (i + 1) lw nx S (by omega) (by omega) h h2 hl
          · exact use lw nx hl
    · obtain rfl : i = 2001 := by omega
      rw [if_pos (show (2000 : Int32) < nI 2001 from by decide)]
      exact ⟨_, S, CE.rf, rfl, Or.inl rfl⟩
theorem ageM_l : ∀ (m i : Nat) (T : FS), i ≤ 2001 → 2001 - i < m → RelR K S (T.2 55) → 1 ≤ K 2 → ∃ (v : Int32) (T' : FS), ME T T' ∧ l_X12_ageDay_19 (fun S10 x10_1 => some ((-1), S10)) m T (nI i) = some (v, T') ∧ (v = -1 ∨ ∃ j : Nat, j ≤ 2000 ∧ v = nI j) := by
  intro m
  induction m with
  | zero => intro i T _ hm; exact absurd hm (Nat.not_lt_zero _)
  | succ m ih =>
    intro i T hi hm h h2
    rw [l_X12_ageDay_19]
    by_cases c : i < 2001
    · rw [if_neg (show ¬ (2000 : Int32) < nI i from nI_nlt (a := 2000) (by omega) (by decide)), (h.inF 3 (nI i) (T.2 55 8)).2, fb_s]
      obtain ⟨v, w, S', T', r1, r2, r3, r4, -⟩ := h.rul (zb := 0) (zc := -1) 3 (nI i) (T.2 55 8) (Or.inr ⟨0, by omega, rfl⟩) (Or.inl rfl)
      rw [r2, fb_s]
      by_cases z : w = 0
      · rw [if_pos z, nI_1]
        obtain ⟨v', T2, q1, q2, q3⟩ := ih (i + 1) T' (by omega) (by omega) (by rw [r4.me.2]; exact h) h2
        exact ⟨v', T2, r4.me.tr q1, q2, q3⟩
      · rw [if_neg z]; exact ⟨nI i, T', r4.me, rfl, Or.inr ⟨i, by omega, rfl⟩⟩
    · obtain rfl : i = 2001 := by omega
      rw [if_pos (show (2000 : Int32) < nI 2001 from by decide)]
      exact ⟨_, T, ME.rf, rfl, Or.inl rfl⟩
theorem RelR.ageC (h : RelR K S (T.2 55)) : ∃ (v : Int32) (S' : FS), CE S S' ∧ f_X4_dayOfAge S = some (v, S') ∧ (v = -1000002 ∨ ∃ j : Nat, j ≤ 2000 ∧ v = nI j) := by
  obtain ⟨k1, k2, c2⟩ := h.ct 6 2 20 (by decide)
  obtain ⟨d1, d2, d3⟩ := h.ct 102 8 2000 (by decide)
  unfold f_X4_dayOfAge
  by_cases c : 1 ≤ K 2
  · rw [show fHas 6 S 0 = 1 from fHas_t (r := 0) k1 (by omega) (by omega), if_neg (by decide), fv_s, fv_s, fv_s, d1]
    exact ageC_l (T := T) FU (K 8) (-1) _ S (by omega) (FU_lt (by omega)) h c (Or.inl rfl)
  · rw [fHas_f k1 (Or.inr (by rw [show K 2 = 0 by omega]; decide)), if_pos rfl]
    exact ⟨_, S, CE.rf, rfl, Or.inl rfl⟩
theorem RelR.ageM (h : RelR K S (T.2 55)) : ∃ (v : Int32) (T' : FS), ME T T' ∧ f_X12_ageDay T = some (v, T') ∧ (v = -1 ∨ ∃ j : Nat, j ≤ 2000 ∧ v = nI j) := by
  obtain ⟨k1, k2, c2⟩ := h.ct 6 2 20 (by decide)
  obtain ⟨d1, d2, d3⟩ := h.ct 102 8 2000 (by decide)
  unfold f_X12_ageDay
  by_cases c : 1 ≤ K 2
  · rw [k2, if_neg (nI_ne0 (by omega) (by omega)), fv_s, d2]
    exact ageM_l (S := S) FU (K 8) T (by omega) (FU_lt (by omega)) h c
  · rw [k2, show K 2 = 0 by omega, if_pos (show nI 0 = 0 from rfl)]
    exact ⟨_, T, ME.rf, rfl, Or.inl rfl⟩
theorem op_age (h : RelR K S (T.2 55)) : OK1 S T (f_X11_age S) (f_X12_age T) := by
  unfold f_X11_age f_X12_age
  simp only [fb_id]
  obtain ⟨v, S', a1, a2, a3⟩ := h.ageC
  obtain ⟨w, T', b1, b2, b3⟩ := h.ageM
  rw [a2, b2, fb_s, fb_s]
  obtain ⟨S2, e1, e2⟩ := told_e S' v
  have c1 := a1.tr e2
  rcases b3 with rfl | ⟨j, hj, rfl⟩
  · rw [if_pos (show (-1 : Int32) < 0 by decide)]
    obtain ⟨T2, f1, f2⟩ := finds_2 T'
    have c2 := b1.tr f2
    exact ⟨_, _, S2, T2, e1, f1, ⟨K, by rw [c2.2]; exact h.ce c1⟩, c1.1, c2.1⟩
  · rw [if_neg (nI_pos (by omega))]
    exact ⟨_, _, S2, T', e1, rfl, ⟨K, by rw [b1.2]; exact h.ce c1⟩, c1.1, b1.1⟩
theorem op_after (h : RelR K S (T.2 55)) : OK1 S T (f_X11_after S za) (f_X12_after T za) := by
  unfold f_X11_after f_X12_after f_X4_fateOf
  simp only [fb_id]
  rcases h.pow za with ⟨c1, m1⟩ | ⟨w, hw, rfl, c1, m1⟩
  · simp only [c1, m1, ↓reduceIte]; exact (ok_1 h).one
  · obtain ⟨w20, ⟨e0, e1, e2, e3, e4⟩, a1, a2⟩ := h.pwc hw
    have hv := (h.pw w hw).2.2.2.2.1.vP
    simp only [c1, m1, i10, ↓reduceIte]
    obtain ⟨v, S', p1, p2, p3⟩ := h.ageC
    obtain ⟨x, T', b1, b2, b3⟩ := h.ageM
    have cls : ∃ (y : Int32) (S2 : FS), CE S S2 ∧ fb (fb (f_X4_dayOfAge S) fun r2 => if r2.1 < 0 then some (-1000002, r2.2) else fv (fG 8 20 6 r2.2 (nI w) 2) fun x4 => fb (f_X2_ruling r2.2 4 r2.1 (r2.2.1 102) x4 (-1)) fun r6 => if r6.1 = 0 then some (r6.1, r6.2) else if r6.1 = 1 then some (r6.1, r6.2) else some (2, r6.2)) (fun r5 => f_X11_told r5.2 r5.1) = some (y, S2) := by
      rw [p2, fb_s]
      rcases p3 with rfl | ⟨j, hj, rfl⟩
      · rw [if_pos (show (-1000002 : Int32) < 0 by decide), fb_s]
        obtain ⟨S2, f1, f2⟩ := told_e S' (-1000002)
        exact ⟨_, S2, p1.tr f2, f1⟩
      · have h1 : RelR K S' (T.2 55) := h.ce p1
        have f9 : S'.2 9 (6 * w + 2) = T.2 55 (6 * w + 391) := (h1.pwc hw).2.1.2.2.1
        rw [if_neg (nI_pos (by omega)), fv_s, g8_2 w20]
        show ∃ (y : Int32) (S2 : FS), CE S S2 ∧ fb (fb (f_X2_ruling S' 4 (nI j) (S'.1 102) (S'.2 9 (6 * w + 2)) (-1)) _) _ = _
        rw [f9]
        obtain ⟨y, -, S2, -, r1, -, r3, -, -⟩ := h1.rul (zb := T.2 55 (6 * w + 391)) (zc := -1) 4 (nI j) (S'.1 102) hv (Or.inl rfl)
        rw [r1, fb_s]
        have go : ∀ q : Int32, ∃ (y : Int32) (S3 : FS), CE S S3 ∧ f_X11_told S2 q = some (y, S3) := fun q => by
          obtain ⟨S3, f1, f2⟩ := told_e S2 q
          exact ⟨_, S3, (p1.tr r3.ce).tr f2, f1⟩
        by_cases z0 : y = 0
        · rw [if_pos z0, fb_s]; exact go _
        · rw [if_neg z0]
          by_cases z1 : y = 1
          · rw [if_pos z1, fb_s]; exact go _
          · rw [if_neg z1, fb_s]; exact go _
    have mdl : ∃ (y : Int32) (T2 : FS), ME T T2 ∧ (fb (f_X12_ageDay T) fun r3 => if r3.1 < 0 then f_X12_finds r3.2 2 else fb (q_X12_inForce r3.2 4 r3.1 (r3.2.2 55 8)) fun x6 => fb (q_X12_its r3.2 (nI w) 1) fun x8 => fb (f_X12_comesTo r3.2 x6 x8 (-1) r3.1) fun r10 => if r10.1 = 0 then some (r10.1, r10.2) else if r10.1 = 1 then some (r10.1, r10.2) else some (2, r10.2)) = some (y, T2) := by
      rw [b2, fb_s]
      rcases b3 with rfl | ⟨j, hj, rfl⟩
      · rw [if_pos (show (-1 : Int32) < 0 by decide)]
        obtain ⟨T2, f1, f2⟩ := finds_2 T'
        exact ⟨_, T2, b1.tr f2, f1⟩
      · have h1 : RelR K S (T'.2 55) := by rw [b1.2]; exact h
        rw [if_neg (nI_pos (by omega)), its_1 w20]
        show ∃ (y : Int32) (T2 : FS), ME T T2 ∧ (fb (q_X12_inForce T' 4 (nI j) (T'.2 55 8)) _) = _
        rw [(h1.inF 4 (nI j) (T'.2 55 8)).2, fb_s, fb_s]
        have hv1 : vP (K 2) (T'.2 55 (6 * w + 391)) := by rw [b1.2]; exact hv
        obtain ⟨-, y, -, T2, -, r2, -, r4, -⟩ := h1.rul (zb := T'.2 55 (6 * w + 391)) (zc := -1) 4 (nI j) (T'.2 55 8) hv1 (Or.inl rfl)
        show ∃ (y : Int32) (T2 : FS), ME T T2 ∧ (fb (f_X12_comesTo T' _ (T'.2 55 (6 * w + 391)) (-1) (nI j)) _) = _
        rw [r2, fb_s]
        by_cases z0 : y = 0
        · rw [if_pos z0]; exact ⟨_, T2, b1.tr r4.me, rfl⟩
        · rw [if_neg z0]
          by_cases z1 : y = 1
          · rw [if_pos z1]; exact ⟨_, T2, b1.tr r4.me, rfl⟩
          · rw [if_neg z1]; exact ⟨_, T2, b1.tr r4.me, rfl⟩
    obtain ⟨y, S2, q1, q2⟩ := cls
    obtain ⟨y', T2, q3, q4⟩ := mdl
    exact ⟨y, y', S2, T2, q2, q4, ⟨K, by rw [q3.2]; exact h.ce q1⟩, q1.1, q3.1⟩
end AGE
end
section
/-! ===== pure: voices ===== -/
section VOI
variable {K : Nat → Nat} {S T S0 T0 : FS} {za zb zc zd ze : Int32} {w : Nat}
def VS (S0 T0 : FS) (w : Nat) (S T : FS) : Prop := ((∀ k : Nat, k ≠ 115 → k ≠ 116 → k ≠ 117 → k ≠ 118 → S.1 k = S0.1 k) ∧ ∀ a : Nat, a ≠ 47 → S.2 a = S0.2 a) ∧ (S.1 116 = T0.2 55 (6 * w + 390) ∧ S.1 117 = nI w ∧ S.1 118 = T0.2 55 (6 * w + 394)) ∧ ((∀ k : Nat, k ≠ 22 → T.1 k = T0.1 k) ∧ ∀ a : Nat, a ≠ 69 → T.2 a = T0.2 a) ∧ (∃ a : Nat, a ≤ 40 ∧ S.1 115 = nI a ∧ T.1 22 = nI a) ∧ ∀ j : Nat, j < 40 → S.2 47 j = T.2 69 j
def VO (S0 T0 : FS) (w : Nat) (x y : Option (Int32 × FS)) : Prop := ∃ (v : Int32) (S T : FS), x = some (v, S) ∧ y = some (v, T) ∧ VS S0 T0 w S T
theorem VS.note (h : VS S0 T0 w S T) (c : Int32) : ∃ S' T' : FS, f_X10_note S c = some (0, S') ∧ f_X12_ran T c = some (0, T') ∧ VS S0 T0 w S' T' := by
  obtain ⟨⟨h1, h2⟩, h3, ⟨h4, h5⟩, ⟨a, ha, h6, h7⟩, h8⟩ := id h
  unfold f_X10_note f_X12_ran
  rw [h6, h7, if_neg (nI_pos (by omega))]
  by_cases z : a < 40
  · have z' : nI a < 40 := nI_lt (b := 40) z (by decide)
    rw [if_pos z', if_pos z', ix_nI z (by decide)]
    simp only [fb_s, fl_s, wA_1, h6, h7, nI_1]
    refine ⟨_, _, rfl, rfl, ⟨fun k k1 k2 k3 k4 => (wI_n k1).trans (h1 k k1 k2 k3 k4), fun q hq => (wA_n hq).trans (h2 q hq)⟩, ⟨h3.1, h3.2.1, h3.2.2⟩, ⟨fun k hk => (wI_n hk).trans (h4 k hk), fun q hq => (wA_n hq).trans (h5 q hq)⟩, ⟨a + 1, by omega, wI_e, wI_e⟩, fun j hj => ?_⟩
    show (wA S 47 a c).2 47 j = (wA T 69 a c).2 69 j
    rw [wA_e, wA_e]
    by_cases y : j = a
    · subst y; rw [pk_us, pk_us]
    · rw [pk_un y, pk_un y]; exact h8 j hj
  · have z' : ¬ nI a < 40 := nI_nlt (b := 40) (by omega) (by omega)
    rw [if_neg z', if_neg z']
    exact ⟨S, T, rfl, rfl, h⟩
theorem VS.kd (h : VS S0 T0 w S T) (w20 : w < 20) : q_X12_its T (nI w) 0 = some (S.1 116) ∧ q_X12_its T (nI w) 4 = some (S.1 118) := by
  rw [its_0 w20, its_4 w20, h.2.1.1, h.2.1.2.2, h.2.2.1.2 55 (by decide)]; exact ⟨rfl, rfl⟩
theorem VS.e6 {S' T' : FS} (h : VS S0 T0 w S T) (g : VS S0 T0 w S' T') : S'.1 116 = S.1 116 ∧ S'.1 117 = S.1 117 ∧ S'.1 118 = S.1 118 := ⟨g.2.1.1.trans h.2.1.1.symm, g.2.1.2.1.trans h.2.1.2.1.symm, g.2.1.2.2.trans h.2.1.2.2.symm⟩
theorem VS.actP (h : VS S0 T0 w S T) (w20 : w < 20) (x : Int32) : VO S0 T0 w (f_X10_actOf_k0 S x) (f_X12_actsPower T (nI w) x) := by
  unfold f_X10_actOf_k0 f_X12_actsPower
  obtain ⟨S', T', a1, a2, a3⟩ := h.note 10
  rw [a1, a2, fb_s, fb_s, (a3.kd w20).2, fb_s]
  exact ⟨_, S', T', rfl, rfl, a3⟩
theorem VS.actO (h : VS S0 T0 w S T) (w20 : w < 20) (x : Int32) : VO S0 T0 w (f_X10_actOf_k3 S x) (f_X12_actsOffice T (nI w) x) := by
  unfold f_X10_actOf_k3 f_X12_actsOffice
  obtain ⟨S', T', a1, a2, a3⟩ := h.note 20
  obtain ⟨v, S2, T2, b1, b2, b3⟩ := a3.actP w20 x
  simp only [a1, a2, fb_s, b1, b2, b3.2.1.2.1]
  exact ⟨_, S2, T2, rfl, rfl, b3⟩
theorem VS.act (h : VS S0 T0 w S T) (w20 : w < 20) (x : Int32) : VO S0 T0 w (f_X10_actOf S (S.1 116) x) (f_X12_actsOf T (nI w) x) := by
  have po := h.actP w20 x
  have of := h.actO w20 x
  unfold f_X10_actOf f_X12_actsOf
  rw [(h.kd w20).1, fb_s]
  unfold f_X10_actOf_k0 at po
  unfold f_X10_actOf_k3 at of
  simp only [fb_id]
  by_cases k1 : S.1 116 = 1
  · simp only [k1, ↓reduceIte]; exact of
  · by_cases k2 : S.1 116 = 2
    · simp only [k2, show ((2 : Int32) = 1) = False from eq_false (by decide), show ((2 : Int32) = 3) = False from eq_false (by decide), show ((2 : Int32) = 4) = False from eq_false (by decide), ↓reduceIte]; exact po
    · by_cases k3 : S.1 116 = 3
      · simp only [k3, show ((3 : Int32) = 1) = False from eq_false (by decide), show ((3 : Int32) = 2) = False from eq_false (by decide), ↓reduceIte]; exact of
      · by_cases k4 : S.1 116 = 4
        · simp only [k4, show ((4 : Int32) = 1) = False from eq_false (by decide), show ((4 : Int32) = 2) = False from eq_false (by decide), show ((4 : Int32) = 3) = False from eq_false (by decide), ↓reduceIte]
          obtain ⟨S', T', a1, a2, a3⟩ := h.note 50
          rw [a1, a2, fb_s, fb_s, (a3.kd w20).2, fb_s]
          exact a3.actO w20 _
        · simp only [k1, k2, k3, k4, ↓reduceIte]; exact po
theorem VS.bindP (h : VS S0 T0 w S T) (w20 : w < 20) (x : Int32) : VO S0 T0 w (f_X10_bindOf_k0 S x) (f_X12_bindsPower T (nI w) x) := by
  unfold f_X10_bindOf_k0 f_X12_bindsPower
  obtain ⟨S', T', a1, a2, a3⟩ := h.note 11
  obtain ⟨v, S2, T2, b1, b2, b3⟩ := a3.act w20 x
  simp only [a1, a2, fb_s, b1, b2]
  exact ⟨_, S2, T2, rfl, rfl, b3⟩
theorem VS.bind (h : VS S0 T0 w S T) (w20 : w < 20) (x : Int32) : VO S0 T0 w (f_X10_bindOf S (S.1 116) x) (f_X12_bindsOf T (nI w) x) := by
  have po := h.bindP w20 x
  have gd : VO S0 T0 w (fb (f_X10_note S 40) fun r3 => fb (f_X10_bindOf_k1 r3.2 x) fun r5 => fb (f_X10_actOf r5.2 (r5.2.1 116) x) fun r7 => some (r5.1 - r7.1, r7.2)) (fb (f_X12_ran T 40) fun r5 => fb (f_X12_bindsPower r5.2 (nI w) x) fun r7 => fb (f_X12_actsOf r7.2 (nI w) x) fun r9 => some (r7.1 - r9.1, r9.2)) := by
    obtain ⟨S', T', a1, a2, a3⟩ := h.note 40
    obtain ⟨v, S2, T2, b1, b2, b3⟩ := a3.bindP w20 x
    obtain ⟨u, S3, T3, c1, c2, c3⟩ := b3.act w20 x
    simp only [a1, a2, fb_s, show f_X10_bindOf_k1 S' x = some (v, S2) from b1, b2, c1, c2]
    exact ⟨_, S3, T3, rfl, rfl, c3⟩
  unfold f_X10_bindOf f_X12_bindsOf
  rw [(h.kd w20).1, fb_s]
  unfold f_X10_bindOf_k0 at po
  simp only [fb_id]
  by_cases k3 : S.1 116 = 3
  · simp only [k3, ↓reduceIte]; exact gd
  · by_cases k4 : S.1 116 = 4
    · simp only [k4, show ((4 : Int32) = 3) = False from eq_false (by decide), ↓reduceIte]; exact gd
    · by_cases k5 : S.1 116 = 5
      · simp only [k5, show ((5 : Int32) = 3) = False from eq_false (by decide), show ((5 : Int32) = 4) = False from eq_false (by decide), ↓reduceIte]
        obtain ⟨S', T', a1, a2, a3⟩ := h.note 60
        obtain ⟨v, S2, T2, b1, b2, b3⟩ := a3.bindP w20 x
        simp only [a1, a2, fb_s, b1, b2, (b3.kd w20).2]
        exact ⟨_, S2, T2, rfl, rfl, b3⟩
      · simp only [k3, k4, k5, ↓reduceIte]; exact po
theorem VS.rankP (h : VS S0 T0 w S T) (x : Int32) : VO S0 T0 w (f_X10_rankOf_k0 S x) (f_X12_ranksPower T (nI w) x) := by
  unfold f_X10_rankOf_k0 f_X12_ranksPower
  obtain ⟨S', T', a1, a2, a3⟩ := h.note 12
  simp only [a1, a2, fb_s, a3.2.1.2.1]
  exact ⟨_, S', T', rfl, rfl, a3⟩
theorem VS.rank (h : VS S0 T0 w S T) (w20 : w < 20) (x : Int32) : VO S0 T0 w (f_X10_rankOf S (S.1 116) x) (f_X12_ranksOf T (nI w) x) := by
  have po := h.rankP x
  unfold f_X10_rankOf f_X12_ranksOf
  rw [(h.kd w20).1, fb_s]
  unfold f_X10_rankOf_k0 at po
  simp only [fb_id]
  by_cases k2 : S.1 116 = 2
  · simp only [k2, ↓reduceIte]
    obtain ⟨S', T', a1, a2, a3⟩ := h.note 30
    obtain ⟨v, S2, T2, b1, b2, b3⟩ := a3.rankP x
    simp only [a1, a2, fb_s, b1, b2]
    exact ⟨_, S2, T2, rfl, rfl, b3⟩
  · simp only [k2, ↓reduceIte]; exact po
theorem VS.tellP (h : VS S0 T0 w S T) (w20 : w < 20) (x : Int32) : VO S0 T0 w (f_X10_tellOf_k0 S x) (f_X12_tellsPower T (nI w) x) := by
  unfold f_X10_tellOf_k0 f_X12_tellsPower
  obtain ⟨S', T', a1, a2, a3⟩ := h.note 13
  obtain ⟨v, S2, T2, b1, b2, b3⟩ := a3.bind w20 x
  obtain ⟨u, S3, T3, c1, c2, c3⟩ := b3.rank w20 x
  simp only [a1, a2, fb_s, b1, b2, c1, c2]
  exact ⟨_, S3, T3, rfl, rfl, c3⟩
theorem VS.tellO (h : VS S0 T0 w S T) (w20 : w < 20) (x : Int32) : VO S0 T0 w (f_X10_tellOf_k3 S x) (f_X12_tellsOffice T (nI w) x) := by
  unfold f_X10_tellOf_k3 f_X12_tellsOffice
  simp only [fb_id]
  obtain ⟨S', T', a1, a2, a3⟩ := h.note 21
  rw [a1, a2, fb_s, fb_s]
  exact a3.tellP w20 (x + 1)
theorem VS.tell (h : VS S0 T0 w S T) (w20 : w < 20) (x : Int32) : VO S0 T0 w (f_X10_tellOf S (S.1 116) x) (f_X12_tellsOf T (nI w) x) := by
  have po := h.tellP w20 x
  have of := h.tellO w20 x
  unfold f_X10_tellOf f_X12_tellsOf
  rw [(h.kd w20).1, fb_s]
  unfold f_X10_tellOf_k0 at po
  unfold f_X10_tellOf_k3 at of
  simp only [fb_id] at of ⊢
  by_cases k1 : S.1 116 = 1
  · simp only [k1, ↓reduceIte]; exact of
  · by_cases k2 : S.1 116 = 2
    · simp only [k2, show ((2 : Int32) = 1) = False from eq_false (by decide), show ((2 : Int32) = 3) = False from eq_false (by decide), show ((2 : Int32) = 4) = False from eq_false (by decide), ↓reduceIte]; exact po
    · by_cases k3 : S.1 116 = 3
      · simp only [k3, show ((3 : Int32) = 1) = False from eq_false (by decide), show ((3 : Int32) = 2) = False from eq_false (by decide), ↓reduceIte]; exact of
      · by_cases k4 : S.1 116 = 4
        · simp only [k4, show ((4 : Int32) = 1) = False from eq_false (by decide), show ((4 : Int32) = 2) = False from eq_false (by decide), show ((4 : Int32) = 3) = False from eq_false (by decide), ↓reduceIte]
          obtain ⟨S', T', a1, a2, a3⟩ := h.note 51
          obtain ⟨v, S2, T2, b1, b2, b3⟩ := a3.rank w20 x
          obtain ⟨u, S3, T3, c1, c2, c3⟩ := b3.tellO w20 x
          simp only [a1, a2, fb_s, b1, b2, c1, c2]
          exact ⟨_, S3, T3, rfl, rfl, c3⟩
        · simp only [k1, k2, k3, k4, ↓reduceIte]; exact po
theorem op_voice (h : RelR K S (T.2 55)) (hx : RX S T) : OK3 S T (f_X11_voice S za zb zc) (f_X12_voice T za zb zc) := by
  unfold f_X11_voice f_X12_voice f_X10_begin f_X10_speak
  simp only [fb_id, fl_s, fb_s]
  rcases h.pow za with ⟨c1, m1⟩ | ⟨w, hw, rfl, c1, m1⟩
  · simp only [c1, m1, ↓reduceIte]; exact (ok_1 h).x hx
  · obtain ⟨w20, ⟨e0, e1, -, -, -⟩, -, -⟩ := h.pwc hw
    rcases out_c zb 0 3 with ⟨b1, b2⟩ | ⟨b1, b2⟩
    · simp only [c1, m1, b1, b2, i10, g8_0 w20, g8_1 w20, e0, e1, ↓reduceIte]
      have vs : VS S T w (wI (wI (wI (wI S 115 0) 116 (T.2 55 (6 * w + 390))) 117 (nI w)) 118 (T.2 55 (6 * w + 394))) (wI T 22 0) := by
        refine ⟨⟨fun k k1 k2 k3 k4 => by rw [wI_n k4, wI_n k3, wI_n k2, wI_n k1], fun _ _ => rfl⟩, ⟨rfl, rfl, rfl⟩, ⟨fun k hk => wI_n hk, fun _ _ => rfl⟩, ⟨0, by decide, rfl, wI_e⟩, hx.2.2.2.2⟩
      have fin : ∀ x y : Option (Int32 × FS), VO S T w x y → OK3 S T x y := by
        rintro x y ⟨v, S', T', r1, r2, ⟨q1, q2⟩, q3, ⟨q4, q5⟩, ⟨a, qa, q6, q7⟩, q8⟩
        obtain ⟨x1, x2, x3, x4, x5⟩ := hx
        refine ⟨v, S', T', r1, r2, ⟨K, ?_⟩, ⟨fun s hs => ?_, ?_, by rw [q6, q7], ⟨a, qa, q7⟩, q8⟩, q1 100 (by decide) (by decide) (by decide) (by decide), q5 56 (by decide), q4 3 (by decide)⟩
        · rw [q5 55 (by decide)]
          exact h.cs (fun k hk => q1 k (fun q => by subst q; revert hk; decide) (fun q => by subst q; revert hk; decide) (fun q => by subst q; revert hk; decide) (fun q => by subst q; revert hk; decide)) (fun b hb => q2 b (fun q => by subst q; revert hb; decide))
        · rw [q2 49 (by decide), q2 50 (by decide), q5 70 (by decide), q5 71 (by decide)]; exact x1 s hs
        · rw [q2 52 (by decide), q5 72 (by decide)]; exact x2
      by_cases z0 : zb = 0
      · simp only [z0, ↓reduceIte]; exact fin _ _ (vs.act w20 zc)
      · by_cases z1 : zb = 1
        · simp only [z1, i10, ↓reduceIte]; exact fin _ _ (vs.bind w20 zc)
        · by_cases z2 : zb = 2
          · simp only [z2, show ((2 : Int32) = 0) = False from eq_false (by decide), show ((2 : Int32) = 1) = False from eq_false (by decide), ↓reduceIte]; exact fin _ _ (vs.rank w20 zc)
          · simp only [z0, z1, z2, ↓reduceIte]; exact fin _ _ (vs.tell w20 zc)
    · simp only [c1, m1, b1, b2, i10, ↓reduceIte]; exact (ok_1 h).x hx
end VOI
end
section
/-! ===== pure: weights (both answer) ===== -/
section WEI
variable {K : Nat → Nat} {S T : FS} {za zb zc zd ze : Int32}
def EW (S S' : FS) : Prop := (∀ k : Nat, k ≠ 34 → k ≠ 104 → k ≠ 107 → k ≠ 108 → k ≠ 109 → k ≠ 110 → S'.1 k = S.1 k) ∧ ∀ a : Nat, a ≠ 30 → a ≠ 33 → a ≠ 35 → S'.2 a = S.2 a
theorem EW.rf : EW S S := ⟨fun _ _ _ _ _ _ _ => rfl, fun _ _ _ _ => rfl⟩
theorem EW.tr {A B C : FS} (h : EW A B) (g : EW B C) : EW A C := ⟨fun k h1 h2 h3 h4 h5 h6 => (g.1 k h1 h2 h3 h4 h5 h6).trans (h.1 k h1 h2 h3 h4 h5 h6), fun a h1 h2 h3 => (g.2 a h1 h2 h3).trans (h.2 a h1 h2 h3)⟩
theorem EW.ec {A B : FS} (h : EC A B) : EW A B := ⟨fun k _ h2 _ _ _ _ => h.1 k h2, fun a h1 _ _ => h.2 a h1⟩
theorem EW.wI {k : Nat} {v : Int32} (h : k = 34 ∨ k = 107 ∨ k = 108 ∨ k = 109 ∨ k = 110) : EW S (wI S k v) := ⟨fun j h1 _ h3 h4 h5 h6 => wI_n (by omega), fun _ _ _ _ => rfl⟩
theorem EW.wA {a j : Nat} {v : Int32} (h : a = 33 ∨ a = 35) : EW S (wA S a j v) := ⟨fun _ _ _ _ _ _ _ => rfl, fun b _ h2 h3 => wA_n (by omega)⟩
theorem EW.ce {A B : FS} (h : EW A B) : CE A B := by
  refine ⟨⟨⟨h.2 _ (by decide) (by decide) (by decide), h.2 _ (by decide) (by decide) (by decide), h.2 _ (by decide) (by decide) (by decide), h.2 _ (by decide) (by decide) (by decide)⟩, h.1 _ (by decide) (by decide) (by decide) (by decide) (by decide) (by decide), h.1 _ (by decide) (by decide) (by decide) (by decide) (by decide) (by decide)⟩, fun k hk => h.1 k ?_ ?_ ?_ ?_ ?_ ?_, fun a ha => h.2 a ?_ ?_ ?_⟩
  all_goals (intro q; subst q; first | (revert hk; decide) | (revert ha; decide))
theorem wt_l (h : RelR K S (T.2 55)) {p : Nat} : ∀ (m i : Nat) (x : Int32), i ≤ K 3 → K 3 - i < m → ∃ v : Int32, ∀ k, l_X0_weightOf_43 (nI p) (nI (K 3)) k m S x (nI i) = k S v (nI (K 3)) := by
  have c3 := (h.ct 8 3 20 (by decide)).2.2
  intro m
  induction m with
  | zero => intro i x _ hm; exact absurd hm (Nat.not_lt_zero _)
  | succ m ih =>
    intro i x hi hm
    by_cases c : i < K 3
    · have kk : q_X7_isOfKind S (nI i) 1 = some (p_X12_isUnder T (T.2 55 (6 * i + 390)) 1) := h.kind c (z := 1) (by decide)
      obtain ⟨v0, r0⟩ := ih (i + 1) x (by omega) (by omega)
      obtain ⟨v1, r1⟩ := ih (i + 1) (x + 1) (by omega) (by omega)
      by_cases a : fG 8 20 6 S (nI i) 2 = nI p
      · by_cases b : p_X12_isUnder T (T.2 55 (6 * i + 390)) 1 = 0
        · refine ⟨v0, fun k => ?_⟩
          rw [l_X0_weightOf_43]
          simp only [nI_lt c (show K 3 < 2 ^ 31 by omega), a, kk, fb_s, b, nI_1, ↓reduceIte]; exact r0 k
        · refine ⟨v1, fun k => ?_⟩
          rw [l_X0_weightOf_43]
          simp only [nI_lt c (show K 3 < 2 ^ 31 by omega), a, kk, fb_s, b, nI_1, ↓reduceIte]; exact r1 k
      · refine ⟨v0, fun k => ?_⟩
        rw [l_X0_weightOf_43]
        simp only [nI_lt c (show K 3 < 2 ^ 31 by omega), a, nI_1, ↓reduceIte]; exact r0 k
    · obtain rfl : i = K 3 := by omega
      refine ⟨x, fun k => ?_⟩
      rw [l_X0_weightOf_43, if_neg (nI_nlt (Nat.le_refl _) (by omega))]
theorem RelR.wtC (h : RelR K S (T.2 55)) {p : Nat} {lw : Int32} (hp : p < K 2) (hl : lw = -1 ∨ ∃ l : Nat, l < K 4 ∧ lw = nI l) : ∃ (v : Int32) (S' : FS), EC S S' ∧ f_X0_weightOf S (nI p) lw = some (v, S') := by
  have c4 := (h.ct 10 4 12 (by decide)).2.2
  have c3 := (h.ct 8 3 20 (by decide))
  have jn : ∀ S1 : FS, EC S S1 → ∃ v : Int32, j_X0_weightOf_26 (nI p) S1 = some (v, S1) := fun S1 e => by
    have h1 : RelR K S1 (T.2 55) := h.ce e.ce
    obtain ⟨v, r⟩ := wt_l (p := p) h1 FU 0 1 (Nat.zero_le _) (FU_lt (by omega))
    refine ⟨v, ?_⟩
    unfold j_X0_weightOf_26
    rw [fv_s, (h1.ct 8 3 20 (by decide)).1]; exact r _
  unfold f_X0_weightOf
  rcases hl with rfl | ⟨l, hl, rfl⟩
  · rw [if_pos (by decide)]
    obtain ⟨v, r⟩ := jn S EC.rf
    exact ⟨v, S, EC.rf, r⟩
  · rw [if_neg (nI_pos (by omega))]
    obtain ⟨v, x, S', T', r1, r2, r3, r4, -⟩ := h.comes (zb := nI p) (zc := -1) (zd := S.1 102) hl (Or.inr ⟨p, hp, rfl⟩) (Or.inl rfl)
    rw [r1, fb_s]
    by_cases z : v = 0
    · rw [if_pos z]; exact ⟨0, S', r3, rfl⟩
    · rw [if_neg z]
      obtain ⟨y, r⟩ := jn S' r3
      exact ⟨y, S', r3, r⟩
theorem pf_l {p : Nat} {x : Int32} (c7 : K 7 ≤ 30) : ∀ (m i : Nat), i ≤ K 7 → K 7 - i < m → ∃ v : Int32, l_X0_isPromisedFor_11 (nI p) x S (nI (K 7)) (fun x8_4 => some 0) m (nI i) = some v := by
  intro m
  induction m with
  | zero => intro i _ hm; exact absurd hm (Nat.not_lt_zero _)
  | succ m ih =>
    intro i hi hm
    rw [l_X0_isPromisedFor_11]
    by_cases c : i < K 7
    · rw [if_pos (nI_lt c (by omega)), nI_1]
      have r := ih (i + 1) (by omega) (by omega)
      split
      · split
        · split
          · split
            · exact r
            · exact ⟨1, rfl⟩
          · exact r
        · exact r
      · exact r
    · obtain rfl : i = K 7 := by omega
      rw [if_neg (nI_nlt (Nat.le_refl _) (by omega))]; exact ⟨0, rfl⟩
theorem RelR.oneC (h : RelR K S (T.2 55)) {p u : Nat} {x y : Int32} (hp : p < K 2) (hu : u ≤ 9) (eu : S.1 34 = nI u) : ∃ (S' : FS), EW S S' ∧ f_X0_weighOne S (nI p) x y = some (0, S') ∧ ∃ u' : Nat, u' ≤ 9 ∧ S'.1 34 = nI u' := by
  have c2 := (h.ct 6 2 20 (by decide)).2.2
  obtain ⟨k1, k2, c7⟩ := h.ct 18 7 30 (by decide)
  unfold f_X0_weighOne
  rw [fl_s, fl_s, s32_0 (show p < 20 by omega)]
  have e0 : EW S (wI (wA S 33 p y) 108 ((wA S 33 p y).1 108 + y)) := (EW.wA (Or.inl rfl)).tr (EW.wI (by omega))
  generalize hS2 : wI (wA S 33 p y) 108 ((wA S 33 p y).1 108 + y) = S2 at e0
  have e34 : S2.1 34 = nI u := by rw [← hS2]; exact eu
  have e18 : S2.1 18 = nI (K 7) := by rw [e0.1 18 (by decide) (by decide) (by decide) (by decide) (by decide) (by decide)]; exact k1
  obtain ⟨v, r⟩ := pf_l (K := K) (S := S2) (p := p) (x := x) c7 FU 0 (Nat.zero_le _) (FU_lt (by omega))
  have pf : q_X0_isPromisedFor S2 (nI p) x = some v := by
    unfold q_X0_isPromisedFor; rw [fv_s, e18]; exact r
  rw [pf, fb_s]
  by_cases z : v = 0
  · rw [if_pos z]
    unfold fApp
    rw [e34, iN_nI (by decide) hu, fb_s]
    by_cases y : u = 9
    · rw [if_pos y, fb_s]; exact ⟨S2, e0, rfl, u, hu, e34⟩
    · rw [if_neg y, fb_s]
      refine ⟨_, e0.tr ⟨fun k h1 _ _ _ _ _ => ui_ne h1, fun a _ _ h3 => ua_ne h3⟩, rfl, u + 1, by omega, (ui_eq : ui S2.1 34 (nI (u + 1)) 34 = nI (u + 1))⟩
  · rw [if_neg z, fl_s]
    exact ⟨_, e0.tr (EW.wI (by omega)), rfl, u, hu, e34⟩
theorem weiC_l {x lw : Int32} (hl : lw = -1 ∨ ∃ l : Nat, l < K 4 ∧ lw = nI l) : ∀ (m i u : Nat) (S : FS), i ≤ K 2 → K 2 - i < m → RelR K S (T.2 55) → u ≤ 9 → S.1 34 = nI u → ∃ S' : FS, EW S S' ∧ (∃ u' : Nat, u' ≤ 9 ∧ S'.1 34 = nI u') ∧ ∀ k, l_X0_weigh_36 x lw (nI (K 2)) k m S (nI i) = k S' (nI (K 2)) := by
  intro m
  induction m with
  | zero => intro i u S _ hm; exact absurd hm (Nat.not_lt_zero _)
  | succ m ih =>
    intro i u S hi hm h hu eu
    have c2 := (h.ct 6 2 20 (by decide)).2.2
    by_cases c : i < K 2
    · have lt := nI_lt c (show K 2 < 2 ^ 31 by omega)
      by_cases a : fG 6 20 14 S (nI i) 13 = 0
      · obtain ⟨S', r1, r2, r3⟩ := ih (i + 1) u S (by omega) (by omega) h hu eu
        refine ⟨S', r1, r2, fun k => ?_⟩
        rw [l_X0_weigh_36]
        simp only [lt, a, nI_1, ↓reduceIte]; exact r3 k
      · obtain ⟨v, S1, a1, a2⟩ := h.wtC c hl
        have h1 : RelR K S1 (T.2 55) := h.ce a1.ce
        obtain ⟨S2, b1, b2, u', b3, b4⟩ := h1.oneC (x := x) (y := v) c hu (by rw [a1.1 34 (by decide)]; exact eu)
        obtain ⟨S', r1, r2, r3⟩ := ih (i + 1) u' S2 (by omega) (by omega) (h1.ce b1.ce) b3 b4
        refine ⟨S', ((EW.ec a1).tr b1).tr r1, r2, fun k => ?_⟩
        rw [l_X0_weigh_36]
        simp only [lt, a, a2, b2, fb_s, nI_1, ↓reduceIte]; exact r3 k
    · obtain rfl : i = K 2 := by omega
      refine ⟨S, EW.rf, ⟨u, hu, eu⟩, fun k => ?_⟩
      rw [l_X0_weigh_36, if_neg (nI_nlt (Nat.le_refl _) (by omega))]
theorem rif_l (h : RelR K S (T.2 55)) : ∀ (m i : Nat), i ≤ K 2 → K 2 - i < m → ∃ lw : Int32, l_X0_ruleInForce_13 S (nI (K 2)) (fun x7_2 => some (-1)) m (nI i) = some lw ∧ (lw = -1 ∨ ∃ l : Nat, l < K 4 ∧ lw = nI l) := by
  have c2 := (h.ct 6 2 20 (by decide)).2.2
  intro m
  induction m with
  | zero => intro i _ hm; exact absurd hm (Nat.not_lt_zero _)
  | succ m ih =>
    intro i hi hm
    rw [l_X0_ruleInForce_13]
    by_cases c : i < K 2
    · rw [if_pos (nI_lt c (by omega))]
      by_cases a : fG 6 20 14 S (nI i) 13 = 0
      · rw [if_pos a, nI_1]; exact ih (i + 1) (by omega) (by omega)
      · rw [if_neg a, (h.inF 0 (S.1 102) (p_X7_knownTo S (nI i))).1, fb_s]
        exact ⟨_, rfl, lg_c (K 4)⟩
    · obtain rfl : i = K 2 := by omega
      rw [if_neg (nI_nlt (Nat.le_refl _) (by omega))]; exact ⟨-1, rfl, Or.inl rfl⟩
theorem RelR.weiC (h : RelR K S (T.2 55)) (x : Int32) : ∃ S' : FS, EW S S' ∧ f_X0_weigh S x = some (0, S') ∧ ∃ u' : Nat, u' ≤ 9 ∧ S'.1 34 = nI u' := by
  have c2 := (h.ct 6 2 20 (by decide)).2.2
  unfold f_X0_weigh
  rw [fl_s, fl_s, fl_s]
  have e0 : EW S (wI (wI (wI S 107 0) 108 0) 34 0) := ((EW.wI (by omega)).tr (EW.wI (by omega))).tr (EW.wI (by omega))
  generalize hS3 : wI (wI (wI S 107 0) 108 0) 34 0 = S3 at e0
  have h3 : RelR K S3 (T.2 55) := h.ce e0.ce
  have e34 : S3.1 34 = nI 0 := by rw [← hS3]; exact wI_e
  obtain ⟨lw, r1, r2⟩ := rif_l h3 FU 0 (Nat.zero_le _) (FU_lt (by omega))
  have k1 := (h3.ct 6 2 20 (by decide)).1
  have ri : q_X0_ruleInForce S3 = some lw := by
    unfold q_X0_ruleInForce; rw [fv_s, k1]; exact r1
  obtain ⟨S', a1, a2, a3⟩ := weiC_l (T := T) (x := x) r2 FU 0 0 S3 (Nat.zero_le _) (FU_lt (by omega)) h3 (by omega) e34
  refine ⟨S', e0.tr a1, ?_, a2⟩
  rw [ri, fb_s, fv_s, k1]; exact a3 _
/-! the model -/
def EV (T T' : FS) : Prop := T'.1 = T.1 ∧ ∀ a : Nat, a ≠ 58 → a ≠ 59 → a ≠ 62 → a ≠ 63 → a ≠ 64 → a ≠ 65 → T'.2 a = T.2 a
theorem EV.rf : EV T T := ⟨rfl, fun _ _ _ _ _ _ _ => rfl⟩
theorem EV.tr {A B C : FS} (h : EV A B) (g : EV B C) : EV A C := ⟨g.1.trans h.1, fun a h1 h2 h3 h4 h5 h6 => (g.2 a h1 h2 h3 h4 h5 h6).trans (h.2 a h1 h2 h3 h4 h5 h6)⟩
theorem EV.em {A B : FS} (h : EM A B) : EV A B := ⟨h.1, fun a _ h2 h3 h4 _ _ => h.2 a h2 h3 h4⟩
theorem EV.wA {a j : Nat} {v : Int32} (h : a = 64 ∨ a = 65) : EV T (wA T a j v) := ⟨rfl, fun b _ _ _ _ h5 h6 => wA_n (by omega)⟩
theorem EV.me {A B : FS} (h : EV A B) : ME A B := ⟨⟨⟨h.2 _ (by decide) (by decide) (by decide) (by decide) (by decide) (by decide), h.2 _ (by decide) (by decide) (by decide) (by decide) (by decide) (by decide), h.2 _ (by decide) (by decide) (by decide) (by decide) (by decide) (by decide), h.2 _ (by decide) (by decide) (by decide) (by decide) (by decide) (by decide), h.2 _ (by decide) (by decide) (by decide) (by decide) (by decide) (by decide)⟩, by rw [h.1], by rw [h.1]⟩, h.2 _ (by decide) (by decide) (by decide) (by decide) (by decide) (by decide)⟩
theorem lst_l (h : RelR K S (T.2 55)) : ∀ (m i : Nat) (x : Int32), i ≤ K 2 → i < m → vP (K 2) x → ∃ v : Int32, vP (K 2) v ∧ ∀ k, l_X12_weigh_11 k m T x (nI i - 1) = k T v (-1) := by
  have c2 := (h.ct 6 2 20 (by decide)).2.2
  intro m
  induction m with
  | zero => intro i x _ hm; exact absurd hm (Nat.not_lt_zero _)
  | succ m ih =>
    intro i x hi hm hx
    cases i with
    | zero =>
      refine ⟨x, hx, fun k => ?_⟩
      rw [l_X12_weigh_11, if_pos (by decide)]; rfl
    | succ j =>
      have j20 : j < 20 := by omega
      by_cases a : T.2 55 (14 * j + 121) = 1
      · obtain ⟨v, r1, r2⟩ := ih j (nI j) (by omega) (by omega) (Or.inr ⟨j, by omega, rfl⟩)
        refine ⟨v, r1, fun k => ?_⟩
        rw [l_X12_weigh_11, nI_pred, if_neg (nI_pos (by omega)), man_11 j20, fb_s, if_pos a, ← Int32.sub_eq_add_neg]; exact r2 k
      · obtain ⟨v, r1, r2⟩ := ih j x (by omega) (by omega) hx
        refine ⟨v, r1, fun k => ?_⟩
        rw [l_X12_weigh_11, nI_pred, if_neg (nI_pos (by omega)), man_11 j20, fb_s, if_neg a, ← Int32.sub_eq_add_neg]; exact r2 k
theorem wtM_l (h : RelR K S (T.2 55)) {p : Nat} : ∀ (m i : Nat) (x : Int32), i ≤ K 3 → K 3 - i < m → ∃ v : Int32, ∀ k, l_X12_weigh_84 (nI p) k m T x (nI i) = k T v (nI (K 3)) := by
  obtain ⟨k1, k2, c3⟩ := h.ct 8 3 20 (by decide)
  intro m
  induction m with
  | zero => intro i x _ hm; exact absurd hm (Nat.not_lt_zero _)
  | succ m ih =>
    intro i x hi hm
    by_cases c : i < K 3
    · have i20 : i < 20 := by omega
      have lt := nI_lt c (show K 3 < 2 ^ 31 by omega)
      obtain ⟨v0, r0⟩ := ih (i + 1) (x + 0) (by omega) (by omega)
      obtain ⟨v1, r1⟩ := ih (i + 1) (x + 1) (by omega) (by omega)
      by_cases a : T.2 55 (6 * i + 391) = nI p
      · by_cases b : p_X12_isUnder T (T.2 55 (6 * i + 390)) 1 = 0
        · refine ⟨v0, fun k => ?_⟩
          rw [l_X12_weigh_84]
          simp only [k2, lt, its_1 i20, its_0 i20, fb_s, fv_s, a, b, nI_1, ↓reduceIte]; exact r0 k
        · refine ⟨v1, fun k => ?_⟩
          rw [l_X12_weigh_84]
          simp only [k2, lt, its_1 i20, its_0 i20, fb_s, fv_s, a, b, nI_1, ↓reduceIte]; exact r1 k
      · refine ⟨v0, fun k => ?_⟩
        rw [l_X12_weigh_84]
        simp only [k2, lt, its_1 i20, fb_s, fv_s, a, nI_1, ↓reduceIte]; exact r0 k
    · obtain rfl : i = K 3 := by omega
      refine ⟨x, fun k => ?_⟩
      rw [l_X12_weigh_84, k2, if_neg (nI_nlt (Nat.le_refl _) (by omega))]
theorem weiM_l {lw : Int32} (hl : lw = -1 ∨ ∃ l : Nat, l < K 4 ∧ lw = nI l) : ∀ (m i : Nat) (T : FS), i ≤ K 2 → K 2 - i < m → RelR K S (T.2 55) → ∃ T' : FS, EV T T' ∧ ∀ k, l_X12_weigh_67 lw k m T (nI i) = k T' (nI (K 2)) := by
  intro m
  induction m with
  | zero => intro i T _ hm; exact absurd hm (Nat.not_lt_zero _)
  | succ m ih =>
    intro i T hi hm h
    obtain ⟨k1, k2, c2⟩ := h.ct 6 2 20 (by decide)
    have c3 := (h.ct 8 3 20 (by decide)).2.2
    have c4 := (h.ct 10 4 12 (by decide)).2.2
    by_cases c : i < K 2
    · have i20 : i < 20 := by omega
      have lt := nI_lt c (show K 2 < 2 ^ 31 by omega)
      obtain ⟨x, rx⟩ := wtM_l (p := i) h FU 0 1 (Nat.zero_le _) (FU_lt (by omega))
      have rx' : ∀ k, l_X12_weigh_84 (nI i) k FU T 1 0 = k T x (nI (K 3)) := rx
      have j20 := ix_nI i20 (show 20 ≤ 2 ^ 31 by decide)
      have nx : ∀ (T1 : FS) (y : Int32), EV T T1 → ∃ T' : FS, EV T T' ∧ ∀ k, l_X12_weigh_67 lw k m (wA (wA T1 64 i y) 65 i 0) (nI (i + 1)) = k T' (nI (K 2)) := by
        intro T1 y e
        have e2 : EV T (wA (wA T1 64 i y) 65 i 0) := (e.tr (EV.wA (Or.inl rfl))).tr (EV.wA (Or.inr rfl))
        obtain ⟨T', r1, r2⟩ := ih (i + 1) (wA (wA T1 64 i y) 65 i 0) (by omega) (by omega) (by rw [e2.me.2]; exact h)
        exact ⟨T', e2.tr r1, r2⟩
      by_cases a : T.2 55 (14 * i + 121) = 0
      · obtain ⟨T', r1, r2⟩ := nx T 0 EV.rf
        refine ⟨T', r1, fun k => ?_⟩
        rw [l_X12_weigh_67, k2, if_pos lt, rx']
        simp only [man_11 i20, fb_s, a, j20, fl_s, nI_1, ↓reduceIte]; exact r2 k
      · have cm : ∃ (v : Int32) (T1 : FS), EV T T1 ∧ f_X12_comesTo T lw (nI i) (-1) (T.2 55 8) = some (v, T1) := by
          rcases hl with rfl | ⟨l, hl, rfl⟩
          · refine ⟨1, T, EV.rf, ?_⟩
            unfold f_X12_comesTo; rw [if_pos (by decide)]
          · obtain ⟨v, w, S', T1, r1, r2, r3, r4, -⟩ := h.comes (zb := nI i) (zc := -1) (zd := T.2 55 8) hl (Or.inr ⟨i, c, rfl⟩) (Or.inl rfl)
            exact ⟨w, T1, EV.em r4, r2⟩
        obtain ⟨v, T1, v1, v2⟩ := cm
        by_cases z : v = 0
        · obtain ⟨T', r1, r2⟩ := nx T1 0 v1
          refine ⟨T', r1, fun k => ?_⟩
          rw [l_X12_weigh_67, k2, if_pos lt, rx']
          simp only [man_11 i20, fb_s, a, v2, z, j20, fl_s, nI_1, ↓reduceIte]; exact r2 k
        · obtain ⟨T', r1, r2⟩ := nx T1 x v1
          refine ⟨T', r1, fun k => ?_⟩
          rw [l_X12_weigh_67, k2, if_pos lt, rx']
          simp only [man_11 i20, fb_s, a, v2, z, j20, fl_s, nI_1, ↓reduceIte]; exact r2 k
    · obtain rfl : i = K 2 := by omega
      refine ⟨T, EV.rf, fun k => ?_⟩
      rw [l_X12_weigh_67, k2, if_neg (nI_nlt (Nat.le_refl _) (by omega))]
theorem sgn_l {x : Int32} : ∀ (m i : Nat) (T : FS), i ≤ K 7 → K 7 - i < m → RelR K S (T.2 55) → ∃ T' : FS, EV T T' ∧ ∀ k, l_X12_weigh_196 x k m T (nI i) = k T' (nI (K 7)) := by
  intro m
  induction m with
  | zero => intro i T _ hm; exact absurd hm (Nat.not_lt_zero _)
  | succ m ih =>
    intro i T hi hm h
    obtain ⟨k1, k2, c7⟩ := h.ct 18 7 30 (by decide)
    have c2 := (h.ct 6 2 20 (by decide)).2.2
    by_cases c : i < K 7
    · have lt := nI_lt c (show K 7 < 2 ^ 31 by omega)
      obtain ⟨i30, hs⟩ := h.stn c
      obtain ⟨p, hp, ep⟩ := (h.pr i c).2.2.2.1
      have nx : ∀ y : Int32, ∃ T' : FS, EV T T' ∧ ∀ k, l_X12_weigh_196 x k m (wA T 65 p y) (nI (i + 1)) = k T' (nI (K 7)) := fun y => by
        have e2 : EV T (wA T 65 p y) := EV.wA (Or.inr rfl)
        obtain ⟨T', r1, r2⟩ := ih (i + 1) (wA T 65 p y) (by omega) (by omega) (by rw [e2.me.2]; exact h)
        exact ⟨T', e2.tr r1, r2⟩
      obtain ⟨T0, s1, s2⟩ := ih (i + 1) T (by omega) (by omega) h
      by_cases a : T.2 55 (6 * i + 1807) = x
      · rcases hs with ⟨-, q2, -⟩ | ⟨-, q2, -⟩
        · by_cases b : T.2 55 (6 * i + 1809) = 1
          · obtain ⟨T', r1, r2⟩ := nx 1
            refine ⟨T', r1, fun k => ?_⟩
            rw [l_X12_weigh_196]
            simp only [k2, lt, promised_1 i30, promised_0 i30, promised_3 i30, fb_s, a, q2, i10, ep, b, ix_nI (show p < 20 by omega) (show 20 ≤ 2 ^ 31 by decide), fl_s, nI_1, ↓reduceIte]; exact r2 k
          · obtain ⟨T', r1, r2⟩ := nx (-1)
            refine ⟨T', r1, fun k => ?_⟩
            rw [l_X12_weigh_196]
            simp only [k2, lt, promised_1 i30, promised_0 i30, promised_3 i30, fb_s, a, q2, i10, ep, b, ix_nI (show p < 20 by omega) (show 20 ≤ 2 ^ 31 by decide), fl_s, nI_1, ↓reduceIte]; exact r2 k
        · refine ⟨T0, s1, fun k => ?_⟩
          rw [l_X12_weigh_196]
          simp only [k2, lt, promised_1 i30, fb_s, a, q2, nI_1, ↓reduceIte]; exact s2 k
      · refine ⟨T0, s1, fun k => ?_⟩
        rw [l_X12_weigh_196]
        simp only [k2, lt, promised_1 i30, fb_s, a, nI_1, ↓reduceIte]; exact s2 k
    · obtain rfl : i = K 7 := by omega
      refine ⟨T, EV.rf, fun k => ?_⟩
      rw [l_X12_weigh_196, k2, if_neg (nI_nlt (Nat.le_refl _) (by omega))]
theorem RelR.weiM (h : RelR K S (T.2 55)) (x : Int32) : ∃ T' : FS, EV T T' ∧ f_X12_weigh T x = some (0, T') := by
  obtain ⟨k1, k2, c2⟩ := h.ct 6 2 20 (by decide)
  have c7 := (h.ct 18 7 30 (by decide)).2.2
  unfold f_X12_weigh
  rw [fv_s, k2]
  obtain ⟨v, v1, v2⟩ := lst_l h FU (K 2) (-1) (Nat.le_refl _) (FU_lt (by omega)) (Or.inl rfl)
  rw [v2]
  have go : ∀ (T1 : FS) (lw : Int32), EV T T1 → (lw = -1 ∨ ∃ l : Nat, l < K 4 ∧ lw = nI l) → ∃ T' : FS, EV T T' ∧ j_X12_weigh_64 x T1 lw = some (0, T') := by
    intro T1 lw e hl
    have h1 : RelR K S (T1.2 55) := by rw [e.me.2]; exact h
    obtain ⟨T2, a1, a2⟩ := weiM_l (S := S) hl FU 0 T1 (Nat.zero_le _) (FU_lt (by omega)) h1
    obtain ⟨T3, b1, b2⟩ := sgn_l (K := K) (S := S) (x := x) FU 0 T2 (Nat.zero_le _) (FU_lt (by omega)) (by rw [a1.me.2]; exact h1)
    refine ⟨T3, (e.tr a1).tr b1, ?_⟩
    unfold j_X12_weigh_64
    rw [show ∀ k, l_X12_weigh_67 lw k FU T1 0 = k T2 (nI (K 2)) from a2]
    exact b2 _
  rcases v1 with rfl | ⟨p, hp, rfl⟩
  · rw [if_pos (by decide)]; exact go T (-1) EV.rf (Or.inl rfl)
  · rw [if_neg (nI_pos (by omega))]
    obtain ⟨T1, e1, e2⟩ := h.knw hp
    have en := e1.2 55 (by decide)
    rw [e2, fb_s]
    have h1 : RelR K S (T1.2 55) := by rw [en]; exact h
    show ∃ T' : FS, EV T T' ∧ fb (q_X12_inForce T1 0 (T.2 55 8) (p_X7_knownTo S (nI p))) _ = _
    rw [(h1.inF 0 (T.2 55 8) (p_X7_knownTo S (nI p))).2, fb_s]
    exact go T1 _ ⟨e1.1, fun a h1 _ _ _ _ _ => e1.2 a h1⟩ (lg_c (K 4))
theorem wof_l (h : RelR K S (T.2 55)) {x : Int32} : ∀ (m i : Nat) (y : Int32), i ≤ K 2 → K 2 - i < m → ∃ v : Int32, l_X12_weightOf_4 x T (fun a b => some a) m y (nI i) = some v := by
  obtain ⟨k1, k2, c2⟩ := h.ct 6 2 20 (by decide)
  intro m
  induction m with
  | zero => intro i y _ hm; exact absurd hm (Nat.not_lt_zero _)
  | succ m ih =>
    intro i y hi hm
    rw [l_X12_weightOf_4, k2]
    by_cases c : i < K 2
    · rw [if_pos (nI_lt c (by omega)), ix_nI (show i < 20 by omega) (by decide), nI_1]
      simp only [fb_s, fv_s]
      split
      · split
        · exact ih (i + 1) _ (by omega) (by omega)
        · exact ih (i + 1) _ (by omega) (by omega)
      · exact ih (i + 1) _ (by omega) (by omega)
    · obtain rfl : i = K 2 := by omega
      rw [if_neg (nI_nlt (Nat.le_refl _) (by omega))]; exact ⟨y, rfl⟩
theorem RelR.wof (h : RelR K S (T.2 55)) (x : Int32) : ∃ v : Int32, q_X12_weightOf T x = some v := by
  have c2 := (h.ct 6 2 20 (by decide)).2.2
  obtain ⟨v, r⟩ := wof_l h (x := x) FU 0 0 (Nat.zero_le _) (FU_lt (by omega))
  exact ⟨v, r⟩
theorem fbk_l (h : RelR K S (T.2 55)) {x : Int32} : ∀ (m i : Nat), i ≤ K 7 → K 7 - i < m → ∃ v : Int32, l_X0_firstBroken_10 x S (nI (K 7)) (fun x7_3 => some (-1)) m (nI i) = some v ∧ l_X12_cause_31 x (fun S26 x26_3 => some ((-1), S26)) m T (nI i) = some (v, T) := by
  obtain ⟨k1, k2, c7⟩ := h.ct 18 7 30 (by decide)
  intro m
  induction m with
  | zero => intro i _ hm; exact absurd hm (Nat.not_lt_zero _)
  | succ m ih =>
    intro i hi hm
    rw [l_X0_firstBroken_10, l_X12_cause_31, k2]
    by_cases c : i < K 7
    · have lt := nI_lt c (show K 7 < 2 ^ 31 by omega)
      have i30 : i < 30 := by omega
      obtain ⟨⟨e0, e1, e2, e3⟩, f1, -⟩ := h.pr i c
      have r := ih (i + 1) (by omega) (by omega)
      simp only [lt, g18_4 i30, g18_1 i30, g18_3 i30, e1, e3, promised_1 i30, promised_3 i30, promised_4 i30, fb_s, nI_1, ↓reduceIte]
      by_cases a1 : T.2 55 (6 * i + 1807) = x
      · by_cases a2 : T.2 55 (6 * i + 1809) = 1
        · by_cases a3 : T.2 55 (6 * i + 1810) = 1
          · simp only [a1, a2, a3, f1.mpr a3, ↓reduceIte]; exact ⟨_, rfl, rfl⟩
          · simp only [a1, a2, a3, show ¬ S.2 19 (5 * i + 4) = 2 from fun q => a3 (f1.mp q), ↓reduceIte]; exact r
        · simp only [a1, a2, ite_self, ↓reduceIte]; exact r
      · simp only [a1, ite_self, ↓reduceIte]; exact r
    · obtain rfl : i = K 7 := by omega
      rw [if_neg (nI_nlt (Nat.le_refl _) (by omega)), if_neg (nI_nlt (Nat.le_refl _) (by omega))]; exact ⟨_, rfl, rfl⟩
theorem op_cause (h : RelR K S (T.2 55)) : OK1 S T (f_X11_cause S za zb) (f_X12_cause T za zb) := by
  unfold f_X11_cause f_X12_cause
  simp only [fb_id]
  obtain ⟨k1, k2, c7⟩ := h.ct 18 7 30 (by decide)
  rcases out_c za 0 5 with ⟨a1, a2⟩ | ⟨a1, a2⟩
  · rcases out_c zb 0 3 with ⟨b1, b2⟩ | ⟨b1, b2⟩
    · simp only [a1, a2, b1, b2, i10, ↓reduceIte]
      by_cases z : zb = 3
      · simp only [z, ↓reduceIte]
        obtain ⟨v, r1, r2⟩ := fbk_l h (x := za) FU 0 (Nat.zero_le _) (FU_lt (by omega))
        have fb' : q_X0_firstBroken S za = some v := by unfold q_X0_firstBroken; rw [fv_s, k1]; exact r1
        rw [fb', fb_s, show l_X12_cause_31 za (fun S26 x26_3 => some ((-1), S26)) FU T 0 = some (v, T) from r2]
        exact (ok0 h CX.rf MX.rf).one
      · simp only [z, ↓reduceIte]
        obtain ⟨S', c1, c2, -⟩ := h.weiC za
        obtain ⟨T', d1, d2⟩ := h.weiM za
        have h1 : RelR K S' (T'.2 55) := by rw [d1.me.2]; exact h.ce c1.ce
        obtain ⟨x, x1⟩ := h1.wof 0
        obtain ⟨y, y1⟩ := h1.wof 1
        simp only [c2, d2, fb_s, x1, y1]
        have fin : ∀ v w : Int32, OK1 S T (some (v, S')) (some (w, T')) := fun v w => ⟨v, w, S', T', rfl, rfl, ⟨K, h1⟩, c1.ce.1, d1.me.1⟩
        by_cases z0 : zb = 0
        · simp only [z0, ↓reduceIte]; exact fin _ _
        · by_cases z1 : zb = 1
          · simp only [z1, i10, ↓reduceIte]; exact fin _ _
          · simp only [z0, z1, ↓reduceIte]
            split
            · split
              · exact fin _ _
              · exact fin _ _
            · split
              · exact fin _ _
              · exact fin _ _
    · simp only [a1, a2, b1, b2, i10, ↓reduceIte]; exact (ok_1 h).one
  · simp only [a1, a2, i10, ↓reduceIte]; exact (ok_1 h).one
end WEI
end
section
/-! ===== pure: buying (both answer) ===== -/
section BUY
variable {K : Nat → Nat} {S T : FS} {za zb zc zd ze : Int32}
theorem keep_t (S : FS) (a b : Int32) : ∃ S' : FS, EW S S' ∧ f_X0_keepIfBetter S a b = some (0, S') := by
  unfold f_X0_keepIfBetter
  rw [fv_s]
  simp only [fl_s]
  repeat' split
  all_goals first | exact ⟨_, EW.rf, rfl⟩ | exact ⟨_, (EW.wI (by omega)).tr (EW.wI (by omega)), rfl⟩
theorem ch9 (S : FS) (a b c : Int32) : ∃ S' : FS, EW S S' ∧ f_X0_choose_k9 S a b c = some (0, S') := by
  unfold f_X0_choose_k9
  split
  · exact ⟨S, EW.rf, rfl⟩
  · split
    · exact ⟨S, EW.rf, rfl⟩
    · obtain ⟨S1, p1, p2⟩ := keep_t S a b
      rw [p2, fb_s]; exact ⟨S1, p1, rfl⟩
theorem ch8 (S : FS) (a b c : Int32) : ∃ S' : FS, EW S S' ∧ f_X0_choose_k8 S a b c = some (0, S') := by
  unfold f_X0_choose_k8
  split
  · exact ⟨S, EW.rf, rfl⟩
  · split
    · split
      · exact ⟨S, EW.rf, rfl⟩
      · obtain ⟨S1, p1, p2⟩ := ch9 S a b c
        obtain ⟨S2, q1, q2⟩ := ch9 S1 (a ||| ((1 : Int32) <<< (fG 34 9 1 S 8 0 &&& 31))) (b + (fG 6 20 14 S1 (fG 34 9 1 S 8 0) 12)) (c + (fG 32 20 1 S1 (fG 34 9 1 S 8 0) 0))
        simp only [fv_s, p2, fb_s, q2]; exact ⟨S2, p1.tr q1, rfl⟩
    · obtain ⟨S0, r1, r2⟩ := keep_t S a b
      rw [r2, fb_s]
      split
      · exact ⟨S0, r1, rfl⟩
      · obtain ⟨S1, p1, p2⟩ := ch9 S0 a b c
        obtain ⟨S2, q1, q2⟩ := ch9 S1 (a ||| ((1 : Int32) <<< (fG 34 9 1 S0 8 0 &&& 31))) (b + (fG 6 20 14 S1 (fG 34 9 1 S0 8 0) 12)) (c + (fG 32 20 1 S1 (fG 34 9 1 S0 8 0) 0))
        simp only [fv_s, p2, fb_s, q2]; exact ⟨S2, (r1.tr p1).tr q1, rfl⟩
theorem ch7 (S : FS) (a b c : Int32) : ∃ S' : FS, EW S S' ∧ f_X0_choose_k7 S a b c = some (0, S') := by
  unfold f_X0_choose_k7
  split
  · exact ⟨S, EW.rf, rfl⟩
  · split
    · split
      · exact ⟨S, EW.rf, rfl⟩
      · obtain ⟨S1, p1, p2⟩ := ch8 S a b c
        obtain ⟨S2, q1, q2⟩ := ch8 S1 (a ||| ((1 : Int32) <<< (fG 34 9 1 S 7 0 &&& 31))) (b + (fG 6 20 14 S1 (fG 34 9 1 S 7 0) 12)) (c + (fG 32 20 1 S1 (fG 34 9 1 S 7 0) 0))
        simp only [fv_s, p2, fb_s, q2]; exact ⟨S2, p1.tr q1, rfl⟩
    · obtain ⟨S0, r1, r2⟩ := keep_t S a b
      rw [r2, fb_s]
      split
      · exact ⟨S0, r1, rfl⟩
      · obtain ⟨S1, p1, p2⟩ := ch8 S0 a b c
        obtain ⟨S2, q1, q2⟩ := ch8 S1 (a ||| ((1 : Int32) <<< (fG 34 9 1 S0 7 0 &&& 31))) (b + (fG 6 20 14 S1 (fG 34 9 1 S0 7 0) 12)) (c + (fG 32 20 1 S1 (fG 34 9 1 S0 7 0) 0))
        simp only [fv_s, p2, fb_s, q2]; exact ⟨S2, (r1.tr p1).tr q1, rfl⟩
theorem ch6 (S : FS) (a b c : Int32) : ∃ S' : FS, EW S S' ∧ f_X0_choose_k6 S a b c = some (0, S') := by
  unfold f_X0_choose_k6
  split
  · exact ⟨S, EW.rf, rfl⟩
  · split
    · split
      · exact ⟨S, EW.rf, rfl⟩
      · obtain ⟨S1, p1, p2⟩ := ch7 S a b c
        obtain ⟨S2, q1, q2⟩ := ch7 S1 (a ||| ((1 : Int32) <<< (fG 34 9 1 S 6 0 &&& 31))) (b + (fG 6 20 14 S1 (fG 34 9 1 S 6 0) 12)) (c + (fG 32 20 1 S1 (fG 34 9 1 S 6 0) 0))
        simp only [fv_s, p2, fb_s, q2]; exact ⟨S2, p1.tr q1, rfl⟩
    · obtain ⟨S0, r1, r2⟩ := keep_t S a b
      rw [r2, fb_s]
      split
      · exact ⟨S0, r1, rfl⟩
      · obtain ⟨S1, p1, p2⟩ := ch7 S0 a b c
        obtain ⟨S2, q1, q2⟩ := ch7 S1 (a ||| ((1 : Int32) <<< (fG 34 9 1 S0 6 0 &&& 31))) (b + (fG 6 20 14 S1 (fG 34 9 1 S0 6 0) 12)) (c + (fG 32 20 1 S1 (fG 34 9 1 S0 6 0) 0))
        simp only [fv_s, p2, fb_s, q2]; exact ⟨S2, (r1.tr p1).tr q1, rfl⟩
theorem ch5 (S : FS) (a b c : Int32) : ∃ S' : FS, EW S S' ∧ f_X0_choose_k5 S a b c = some (0, S') := by
  unfold f_X0_choose_k5
  split
  · exact ⟨S, EW.rf, rfl⟩
  · split
    · split
      · exact ⟨S, EW.rf, rfl⟩
      · obtain ⟨S1, p1, p2⟩ := ch6 S a b c
        obtain ⟨S2, q1, q2⟩ := ch6 S1 (a ||| ((1 : Int32) <<< (fG 34 9 1 S 5 0 &&& 31))) (b + (fG 6 20 14 S1 (fG 34 9 1 S 5 0) 12)) (c + (fG 32 20 1 S1 (fG 34 9 1 S 5 0) 0))
        simp only [fv_s, p2, fb_s, q2]; exact ⟨S2, p1.tr q1, rfl⟩
    · obtain ⟨S0, r1, r2⟩ := keep_t S a b
      rw [r2, fb_s]
      split
      · exact ⟨S0, r1, rfl⟩
      · obtain ⟨S1, p1, p2⟩ := ch6 S0 a b c
        obtain ⟨S2, q1, q2⟩ := ch6 S1 (a ||| ((1 : Int32) <<< (fG 34 9 1 S0 5 0 &&& 31))) (b + (fG 6 20 14 S1 (fG 34 9 1 S0 5 0) 12)) (c + (fG 32 20 1 S1 (fG 34 9 1 S0 5 0) 0))
        simp only [fv_s, p2, fb_s, q2]; exact ⟨S2, (r1.tr p1).tr q1, rfl⟩
theorem ch4 (S : FS) (a b c : Int32) : ∃ S' : FS, EW S S' ∧ f_X0_choose_k4 S a b c = some (0, S') := by
  unfold f_X0_choose_k4
  split
  · exact ⟨S, EW.rf, rfl⟩
  · split
    · split
      · exact ⟨S, EW.rf, rfl⟩
      · obtain ⟨S1, p1, p2⟩ := ch5 S a b c
        obtain ⟨S2, q1, q2⟩ := ch5 S1 (a ||| ((1 : Int32) <<< (fG 34 9 1 S 4 0 &&& 31))) (b + (fG 6 20 14 S1 (fG 34 9 1 S 4 0) 12)) (c + (fG 32 20 1 S1 (fG 34 9 1 S 4 0) 0))
        simp only [fv_s, p2, fb_s, q2]; exact ⟨S2, p1.tr q1, rfl⟩
    · obtain ⟨S0, r1, r2⟩ := keep_t S a b
      rw [r2, fb_s]
      split
      · exact ⟨S0, r1, rfl⟩
      · obtain ⟨S1, p1, p2⟩ := ch5 S0 a b c
        obtain ⟨S2, q1, q2⟩ := ch5 S1 (a ||| ((1 : Int32) <<< (fG 34 9 1 S0 4 0 &&& 31))) (b + (fG 6 20 14 S1 (fG 34 9 1 S0 4 0) 12)) (c + (fG 32 20 1 S1 (fG 34 9 1 S0 4 0) 0))
        simp only [fv_s, p2, fb_s, q2]; exact ⟨S2, (r1.tr p1).tr q1, rfl⟩
theorem ch3 (S : FS) (a b c : Int32) : ∃ S' : FS, EW S S' ∧ f_X0_choose_k3 S a b c = some (0, S') := by
  unfold f_X0_choose_k3
  split
  · exact ⟨S, EW.rf, rfl⟩
  · split
    · split
      · exact ⟨S, EW.rf, rfl⟩
      · obtain ⟨S1, p1, p2⟩ := ch4 S a b c
        obtain ⟨S2, q1, q2⟩ := ch4 S1 (a ||| ((1 : Int32) <<< (fG 34 9 1 S 3 0 &&& 31))) (b + (fG 6 20 14 S1 (fG 34 9 1 S 3 0) 12)) (c + (fG 32 20 1 S1 (fG 34 9 1 S 3 0) 0))
        simp only [fv_s, p2, fb_s, q2]; exact ⟨S2, p1.tr q1, rfl⟩
    · obtain ⟨S0, r1, r2⟩ := keep_t S a b
      rw [r2, fb_s]
      split
      · exact ⟨S0, r1, rfl⟩
      · obtain ⟨S1, p1, p2⟩ := ch4 S0 a b c
        obtain ⟨S2, q1, q2⟩ := ch4 S1 (a ||| ((1 : Int32) <<< (fG 34 9 1 S0 3 0 &&& 31))) (b + (fG 6 20 14 S1 (fG 34 9 1 S0 3 0) 12)) (c + (fG 32 20 1 S1 (fG 34 9 1 S0 3 0) 0))
        simp only [fv_s, p2, fb_s, q2]; exact ⟨S2, (r1.tr p1).tr q1, rfl⟩
theorem ch2 (S : FS) (a b c : Int32) : ∃ S' : FS, EW S S' ∧ f_X0_choose_k2 S a b c = some (0, S') := by
  unfold f_X0_choose_k2
  split
  · exact ⟨S, EW.rf, rfl⟩
  · split
    · split
      · exact ⟨S, EW.rf, rfl⟩
      · obtain ⟨S1, p1, p2⟩ := ch3 S a b c
        obtain ⟨S2, q1, q2⟩ := ch3 S1 (a ||| ((1 : Int32) <<< (fG 34 9 1 S 2 0 &&& 31))) (b + (fG 6 20 14 S1 (fG 34 9 1 S 2 0) 12)) (c + (fG 32 20 1 S1 (fG 34 9 1 S 2 0) 0))
        simp only [fv_s, p2, fb_s, q2]; exact ⟨S2, p1.tr q1, rfl⟩
    · obtain ⟨S0, r1, r2⟩ := keep_t S a b
      rw [r2, fb_s]
      split
      · exact ⟨S0, r1, rfl⟩
      · obtain ⟨S1, p1, p2⟩ := ch3 S0 a b c
        obtain ⟨S2, q1, q2⟩ := ch3 S1 (a ||| ((1 : Int32) <<< (fG 34 9 1 S0 2 0 &&& 31))) (b + (fG 6 20 14 S1 (fG 34 9 1 S0 2 0) 12)) (c + (fG 32 20 1 S1 (fG 34 9 1 S0 2 0) 0))
        simp only [fv_s, p2, fb_s, q2]; exact ⟨S2, (r1.tr p1).tr q1, rfl⟩
theorem ch1 (S : FS) (a b c : Int32) : ∃ S' : FS, EW S S' ∧ f_X0_choose_k1 S a b c = some (0, S') := by
  unfold f_X0_choose_k1
  split
  · exact ⟨S, EW.rf, rfl⟩
  · split
    · split
      · exact ⟨S, EW.rf, rfl⟩
      · obtain ⟨S1, p1, p2⟩ := ch2 S a b c
        obtain ⟨S2, q1, q2⟩ := ch2 S1 (a ||| ((1 : Int32) <<< (fG 34 9 1 S 1 0 &&& 31))) (b + (fG 6 20 14 S1 (fG 34 9 1 S 1 0) 12)) (c + (fG 32 20 1 S1 (fG 34 9 1 S 1 0) 0))
        simp only [fv_s, p2, fb_s, q2]; exact ⟨S2, p1.tr q1, rfl⟩
    · obtain ⟨S0, r1, r2⟩ := keep_t S a b
      rw [r2, fb_s]
      split
      · exact ⟨S0, r1, rfl⟩
      · obtain ⟨S1, p1, p2⟩ := ch2 S0 a b c
        obtain ⟨S2, q1, q2⟩ := ch2 S1 (a ||| ((1 : Int32) <<< (fG 34 9 1 S0 1 0 &&& 31))) (b + (fG 6 20 14 S1 (fG 34 9 1 S0 1 0) 12)) (c + (fG 32 20 1 S1 (fG 34 9 1 S0 1 0) 0))
        simp only [fv_s, p2, fb_s, q2]; exact ⟨S2, (r1.tr p1).tr q1, rfl⟩
theorem ch0 (S : FS) (a b c : Int32) : ∃ S' : FS, EW S S' ∧ f_X0_choose_k0 S a b c = some (0, S') := by
  unfold f_X0_choose_k0
  split
  · exact ⟨S, EW.rf, rfl⟩
  · split
    · split
      · exact ⟨S, EW.rf, rfl⟩
      · obtain ⟨S1, p1, p2⟩ := ch1 S a b c
        obtain ⟨S2, q1, q2⟩ := ch1 S1 (a ||| ((1 : Int32) <<< (fG 34 9 1 S 0 0 &&& 31))) (b + (fG 6 20 14 S1 (fG 34 9 1 S 0 0) 12)) (c + (fG 32 20 1 S1 (fG 34 9 1 S 0 0) 0))
        simp only [fv_s, p2, fb_s, q2]; exact ⟨S2, p1.tr q1, rfl⟩
    · obtain ⟨S0, r1, r2⟩ := keep_t S a b
      rw [r2, fb_s]
      split
      · exact ⟨S0, r1, rfl⟩
      · obtain ⟨S1, p1, p2⟩ := ch1 S0 a b c
        obtain ⟨S2, q1, q2⟩ := ch1 S1 (a ||| ((1 : Int32) <<< (fG 34 9 1 S0 0 0 &&& 31))) (b + (fG 6 20 14 S1 (fG 34 9 1 S0 0 0) 12)) (c + (fG 32 20 1 S1 (fG 34 9 1 S0 0 0) 0))
        simp only [fv_s, p2, fb_s, q2]; exact ⟨S2, (r1.tr p1).tr q1, rfl⟩
theorem RelR.cheap (h : RelR K S (T.2 55)) (x : Int32) : ∃ (v : Int32) (S' : FS), EW S S' ∧ f_X0_findCheapest S x = some (v, S') := by
  unfold f_X0_findCheapest
  obtain ⟨S1, a1, a2, -⟩ := h.weiC x
  simp only [a2, fb_s, fl_s]
  obtain ⟨S2, b1, b2⟩ := ch0 (wI (wI S1 109 1000000) 110 0) 0 0 0
  rw [b2, fb_s]
  have e := (a1.tr ((EW.wI (k := 109) (v := 1000000) (by omega)).tr (EW.wI (k := 110) (v := 0) (by omega)))).tr b1
  split
  · exact ⟨_, S2, e, rfl⟩
  · exact ⟨_, S2, e, rfl⟩
theorem cnt_le {p : Nat → Bool} : ∀ (d i : Nat), pm_cnt p i ≤ pm_cnt p (i + d)
  | 0, i => Nat.le_refl _
  | d + 1, i => by
    have := cnt_le (p := p) d i
    rw [show i + (d + 1) = (i + d) + 1 by omega, cnt_s]; omega
theorem buyers_l (h : RelR K S (T.2 55)) : ∀ (m i u : Nat) (w : Nat → Int32), i ≤ K 2 → K 2 - i < m → u ≤ sc (T.2 55) i → (∀ j : Nat, j < u → ∃ q : Nat, q < K 2 ∧ w j = nI q) → ∃ (u' : Nat) (w' : Nat → Int32), u' ≤ 9 ∧ (∀ j : Nat, j < u' → ∃ q : Nat, q < K 2 ∧ w' j = nI q) ∧ ∀ k, l_X12_buying_40 k m T (nI u) (nI i) w = k T (nI u') (nI (K 2)) w' := by
  obtain ⟨k1, k2, c2⟩ := h.ct 6 2 20 (by decide)
  have s9 : sc (T.2 55) (K 2) ≤ 9 := h.se.1
  intro m
  induction m with
  | zero => intro i u w _ hm; exact absurd hm (Nat.not_lt_zero _)
  | succ m ih =>
    intro i u w hi hm hu hw
    by_cases c : i < K 2
    · have i20 : i < 20 := by omega
      have lt := nI_lt c (show K 2 < 2 ^ 31 by omega)
      obtain ⟨v, hv, ev⟩ := (h.pe i c).2.2.2.2.2.2.1
      have sm : sc (T.2 55) i ≤ sc (T.2 55) (i + 1) := cnt_le 1 i
      have skip : ∃ (u' : Nat) (w' : Nat → Int32), u' ≤ 9 ∧ (∀ j : Nat, j < u' → ∃ q : Nat, q < K 2 ∧ w' j = nI q) ∧ ∀ k, l_X12_buying_40 k m T (nI u) (nI (i + 1)) w = k T (nI u') (nI (K 2)) w' := ih (i + 1) u w (by omega) (by omega) (by omega) hw
      obtain ⟨u0, w0, s1, s2, s3⟩ := skip
      rcases (show v = 0 ∨ v = 1 by omega) with rfl | rfl
      · refine ⟨u0, w0, s1, s2, fun k => ?_⟩
        rw [l_X12_buying_40]
        simp only [k2, lt, man_11 i20, fb_s, ev, show (nI 0 = 0) = True from eq_true rfl, nI_1, ↓reduceIte]; exact s3 k
      · have e1 : T.2 55 (14 * i + 121) = 1 := ev
        have st : sc (T.2 55) (i + 1) = sc (T.2 55) i + 1 := by
          unfold sc; rw [cnt_s, e1]; rfl
        have sl : sc (T.2 55) (i + 1) ≤ sc (T.2 55) (K 2) := by
          have := cnt_le (p := fun p => T.2 55 (14 * p + 121) == 1) (K 2 - (i + 1)) (i + 1)
          rw [show i + 1 + (K 2 - (i + 1)) = K 2 by omega] at this; exact this
        by_cases a : T.2 65 i = 1
        · refine ⟨u0, w0, s1, s2, fun k => ?_⟩
          rw [l_X12_buying_40]
          simp only [k2, lt, man_11 i20, fb_s, ev, show (nI 1 = 0) = False from eq_false (by decide), ix_nI i20 (show 20 ≤ 2 ^ 31 by decide), a, nI_1, ↓reduceIte]; exact s3 k
        · obtain ⟨u1, w1, r1, r2, r3⟩ := ih (i + 1) (u + 1) (upd w u (nI i)) (by omega) (by omega) (by omega) (fun j hj => by
            by_cases z : j = u
            · subst z; rw [pk_us]; exact ⟨i, c, rfl⟩
            · rw [pk_un z]; exact hw j (by omega))
          refine ⟨u1, w1, r1, r2, fun k => ?_⟩
          rw [l_X12_buying_40]
          simp only [k2, lt, man_11 i20, fb_s, ev, show (nI 1 = 0) = False from eq_false (by decide), ix_nI i20 (show 20 ≤ 2 ^ 31 by decide), a, ix_nI (show u < 9 by omega) (show 9 ≤ 2 ^ 31 by decide), fw_s, nI_1, ↓reduceIte]; exact r3 k
    · obtain rfl : i = K 2 := by omega
      refine ⟨u, w, by omega, hw, fun k => ?_⟩
      rw [l_X12_buying_40, k2, if_neg (nI_nlt (Nat.le_refl _) (by omega))]
theorem set_l (c2 : K 2 ≤ 20) {u : Nat} {w : Nat → Int32} {x : Int32} (hu : u ≤ 9) (hw : ∀ j : Nat, j < u → ∃ q : Nat, q < K 2 ∧ w j = nI q) : ∀ (m i : Nat) (a b c : Int32), i ≤ u → u - i < m → ∃ a' b' c' : Int32, ∀ k, l_X12_buying_136 (nI u) w x k m T a b c (nI i) = k T a' b' c' (nI u) := by
  intro m
  induction m with
  | zero => intro i a b c _ hm; exact absurd hm (Nat.not_lt_zero _)
  | succ m ih =>
    intro i a b c hi hm
    by_cases ci : i < u
    · have lt := nI_lt ci (show u < 2 ^ 31 by omega)
      obtain ⟨q, hq, eq⟩ := hw i ci
      by_cases z : (x >>> (nI i &&& 31)) &&& 1 = 0
      · obtain ⟨a', b', c', r⟩ := ih (i + 1) a b c (by omega) (by omega)
        refine ⟨a', b', c', fun k => ?_⟩
        rw [l_X12_buying_136]
        simp only [lt, z, nI_1, ↓reduceIte]; exact r k
      · obtain ⟨a', b', c', r⟩ := ih (i + 1) (a + T.2 64 q) (b + T.2 55 (14 * q + 122)) (c ||| ((1 : Int32) <<< (nI q &&& 31))) (by omega) (by omega)
        refine ⟨a', b', c', fun k => ?_⟩
        rw [l_X12_buying_136]
        simp only [lt, z, ix_nI (show i < 9 by omega) (show 9 ≤ 2 ^ 31 by decide), fb_s, eq, ix_nI (show q < 20 by omega) (show 20 ≤ 2 ^ 31 by decide), fv_s, man_12 (show q < 20 by omega), nI_1, ↓reduceIte]; exact r k
    · obtain rfl : i = u := by omega
      refine ⟨a, b, c, fun k => ?_⟩
      rw [l_X12_buying_136, if_neg (nI_nlt (Nat.le_refl _) (by omega))]
theorem shl9 : ∀ u : Fin 10, (1 : Int32) <<< (nI u.val &&& 31) = nI (2 ^ u.val) := by decide +kernel
theorem sets_l (c2 : K 2 ≤ 20) {u : Nat} {w : Nat → Int32} {x y : Int32} (hu : u ≤ 9) (hw : ∀ j : Nat, j < u → ∃ q : Nat, q < K 2 ∧ w j = nI q) : ∀ (m i : Nat) (a b : Int32), i ≤ 2 ^ u → 2 ^ u - i < m → ∃ a' b' : Int32, ∀ k, l_X12_buying_114 (nI u) w x y k m T a b (nI i) = k T a' b' (nI (2 ^ u)) := by
  have u512 : 2 ^ u ≤ 512 := Nat.pow_le_pow_right (n := 2) (by decide) hu
  have sh : (1 : Int32) <<< (nI u &&& 31) = nI (2 ^ u) := shl9 ⟨u, by omega⟩
  intro m
  induction m with
  | zero => intro i a b _ hm; exact absurd hm (Nat.not_lt_zero _)
  | succ m ih =>
    intro i a b hi hm
    by_cases ci : i < 2 ^ u
    · obtain ⟨p, q, r, hr⟩ := set_l (T := T) c2 (x := nI i) hu hw FU 0 x 0 0 (Nat.zero_le _) (FU_lt (by omega))
      have hr' : ∀ k, l_X12_buying_136 (nI u) w (nI i) k FU T x 0 0 0 = k T p q r (nI u) := hr
      obtain ⟨a1, b1, r1⟩ := ih (i + 1) r q (by omega) (by omega)
      obtain ⟨a2, b2, r2⟩ := ih (i + 1) a b (by omega) (by omega)
      have key : (∀ k, l_X12_buying_114 (nI u) w x y k (m + 1) T a b (nI i) = l_X12_buying_114 (nI u) w x y k m T r q (nI (i + 1))) ∨ ∀ k, l_X12_buying_114 (nI u) w x y k (m + 1) T a b (nI i) = l_X12_buying_114 (nI u) w x y k m T a b (nI (i + 1)) := by
        have st : ∀ k, l_X12_buying_114 (nI u) w x y k (m + 1) T a b (nI i) = if y < 2 * p then (if a < 0 then (l_X12_buying_114 (nI u) w x y k m T r q (nI (i + 1))) else (if b < q then (l_X12_buying_114 (nI u) w x y k m T a b (nI (i + 1))) else (if q = b then (if p_J6_bitCount_0f7a4 T a < p_J6_bitCount_0f7a4 T r then (l_X12_buying_114 (nI u) w x y k m T a b (nI (i + 1))) else (if p_J6_bitCount_0f7a4 T r = p_J6_bitCount_0f7a4 T a then (if r < a then (l_X12_buying_114 (nI u) w x y k m T r q (nI (i + 1))) else (l_X12_buying_114 (nI u) w x y k m T a b (nI (i + 1)))) else (l_X12_buying_114 (nI u) w x y k m T r q (nI (i + 1))))) else (l_X12_buying_114 (nI u) w x y k m T r q (nI (i + 1)))))) else (l_X12_buying_114 (nI u) w x y k m T a b (nI (i + 1))) := fun k => by
          rw [l_X12_buying_114, sh, if_pos (nI_lt ci (by omega)), hr']
          simp only [bits_e (S := T), fb_s, nI_1]
        simp only [st]
        repeat' split
        all_goals first | exact Or.inl (fun _ => rfl) | exact Or.inr (fun _ => rfl)
      rcases key with e | e
      · exact ⟨a1, b1, fun k => (e k).trans (r1 k)⟩
      · exact ⟨a2, b2, fun k => (e k).trans (r2 k)⟩
    · obtain rfl : i = 2 ^ u := by omega
      refine ⟨a, b, fun k => ?_⟩
      rw [l_X12_buying_114, sh, if_neg (nI_nlt (Nat.le_refl _) (by omega))]
theorem op_buying (h : RelR K S (T.2 55)) : OK1 S T (f_X11_buying S za zb) (f_X12_buying T za zb) := by
  unfold f_X11_buying f_X12_buying
  simp only [fb_id]
  have c2 := (h.ct 6 2 20 (by decide)).2.2
  rcases out_c za 0 5 with ⟨a1, a2⟩ | ⟨a1, a2⟩
  · rcases out_c zb 0 1 with ⟨b1, b2⟩ | ⟨b1, b2⟩
    · simp only [a1, a2, b1, b2, i10, ↓reduceIte]
      obtain ⟨v, S', c1, c3⟩ := h.cheap za
      obtain ⟨T', d1, d2⟩ := h.weiM za
      have h1 : RelR K S' (T'.2 55) := by rw [d1.me.2]; exact h.ce c1.ce
      obtain ⟨u, w, e1, e2, e3⟩ := buyers_l h1 FU 0 0 (fun _ => 0) (Nat.zero_le _) (FU_lt (by omega)) (Nat.zero_le _) (fun j hj => absurd hj (Nat.not_lt_zero _))
      obtain ⟨x, x1⟩ := h1.wof 0
      obtain ⟨y, y1⟩ := h1.wof 1
      have u512 : 2 ^ u ≤ 512 := Nat.pow_le_pow_right (n := 2) (by decide) e1
      obtain ⟨p, q, r⟩ := sets_l (K := K) (T := T') (x := x) (y := y) c2 e1 e2 FU 0 (-1) 0 (Nat.zero_le _) (FU_lt (by omega))
      have cls : ∃ (v : Int32) (S2 : FS), CE S S2 ∧ (fb (f_X0_findCheapest S za) fun r6 => if r6.1 = 0 then f_X11_told r6.2 (-1000002) else if zb = 0 then some (r6.2.1 109, r6.2) else some (r6.2.1 110, r6.2)) = some (v, S2) := by
        rw [c3, fb_s]
        split
        · obtain ⟨S2, f1, f2⟩ := told_e S' (-1000002)
          exact ⟨_, S2, c1.ce.tr f2, f1⟩
        · split
          · exact ⟨_, S', c1.ce, rfl⟩
          · exact ⟨_, S', c1.ce, rfl⟩
      obtain ⟨v1, S2, p1, p2⟩ := cls
      rw [p2, d2]
      simp only [fb_s, fw_s]
      rw [show ∀ k, l_X12_buying_40 k FU T' 0 0 (fun _ => 0) = k T' (nI u) (nI (K 2)) w from e3, x1, fb_s, y1, fb_s, show ∀ k, l_X12_buying_114 (nI u) w x y k FU T' (-1) 0 0 = k T' p q (nI (2 ^ u)) from r]
      have fin : ∀ (T2 : FS) (z : Int32), ME T T2 → OK1 S T (some (v1, S2)) (some (z, T2)) := fun T2 z e => ⟨v1, z, S2, T2, rfl, rfl, ⟨K, by rw [e.2]; exact h.ce p1⟩, p1.1, e.1⟩
      split
      · obtain ⟨T2, f1, f2⟩ := finds_2 T'
        rw [f1]; exact fin T2 _ (d1.me.tr f2)
      · split
        · exact fin T' _ d1.me
        · exact fin T' _ d1.me
    · simp only [a1, a2, b1, b2, i10, ↓reduceIte]; exact (ok_1 h).one
  · simp only [a1, a2, i10, ↓reduceIte]; exact (ok_1 h).one
end BUY
end
section
/-! ===== pure: a night (both answer) ===== -/
section NIG
variable {K : Nat → Nat} {S T : FS} {za zb zc zd ze : Int32}
def B01 (v : Int32) : Prop := v = 0 ∨ v = 1
theorem bz_b {v : Int32} (h : B01 v) : bz v = some v := by unfold bz; exact if_pos h
theorem ix5 {x : Int32} (h1 : ¬ x < 0) (h2 : x < 5) : ∃ j : Nat, j < 5 ∧ x = nI j ∧ ix 5 x = some j := by
  obtain ⟨j, hj, rfl⟩ := nI_of h1
  have : j < 5 := (nI_ltI hj (by decide)).mp h2
  exact ⟨j, this, rfl, ix_nI this (by decide)⟩
def EA (c : Nat) (S S' : FS) : Prop := S'.1 = S.1 ∧ ∀ a : Nat, a ≠ c → S'.2 a = S.2 a
theorem EA.rf {c : Nat} : EA c S S := ⟨rfl, fun _ _ => rfl⟩
theorem EA.tr {c : Nat} {A B C : FS} (h : EA c A B) (g : EA c B C) : EA c A C := ⟨g.1.trans h.1, fun a ha => (g.2 a ha).trans (h.2 a ha)⟩
theorem EA.w {c j : Nat} {v : Int32} : EA c S (wA S c j v) := ⟨rfl, fun _ ha => wA_n ha⟩
def TT (c : Nat) (S : FS) (x : Option (Int32 × FS)) : Prop := ∃ (v : Int32) (S' : FS), B01 v ∧ EA c S S' ∧ x = some (v, S')
theorem TT.of {c : Nat} {v : Int32} (h : B01 v) : TT c S (some (v, S)) := ⟨v, S, h, EA.rf, rfl⟩
theorem b1 : B01 1 := Or.inr rfl
theorem b0 : B01 0 := Or.inl rfl
theorem nD_0 (S : FS) (za zb zd ze : Int32) : TT 41 S (f_X1_winsDespite_k0 S za zb zd ze) := by
  unfold f_X1_winsDespite_k0
  by_cases a1 : za < 0
  · rw [if_pos a1]; exact TT.of b1
  · rw [if_neg a1]
    by_cases a2 : za < 5
    · rw [if_pos a2]
      by_cases c1 : zb < 0
      · rw [if_pos c1]; exact TT.of b1
      · rw [if_neg c1]
        by_cases c2 : zb < 5
        · rw [if_pos c2]
          obtain ⟨i, hi, -, ei⟩ := ix5 a1 a2
          obtain ⟨j, hj, -, ej⟩ := ix5 c1 c2
          rw [ei, fb_s]
          by_cases d1 : S.2 41 i < 1
          · rw [if_pos d1]; exact TT.of b1
          · rw [if_neg d1, ej, fb_s]
            by_cases d2 : S.2 41 j < 6
            · rw [if_pos d2]
              simp only [p_X1_winsWithin_k0, fv_s, fl_s, bz_0, fb_s]
              exact ⟨0, _, b0, ((EA.w.tr EA.w).tr EA.w).tr EA.w, rfl⟩
            · rw [if_neg d2]; exact TT.of b1
        · rw [if_neg c2]; exact TT.of b1
    · rw [if_neg a2]; exact TT.of b1
theorem nL_0 {zb zc : Int32} : ∀ (m j : Nat) (S : FS) (v : Int32), B01 v → j < 2 ^ 31 → 4 - j < m → ∃ (S' : FS) (v' x' : Int32), EA 41 S S' ∧ B01 v' ∧ ∀ k, l_X1_winsWhatever_k0_16 zb zc k m S v (nI j) = k S' v' x' := by
  intro m
  induction m with
  | zero => intro j S v _ _ hm; exact absurd hm (Nat.not_lt_zero _)
  | succ m ih =>
    intro j S v hv hj hm
    by_cases c : j < 4
    · have lt : nI j < 4 := nI_lt (b := 4) c (by decide)
      rcases hv with rfl | rfl
      · refine ⟨S, 0, nI j, EA.rf, b0, fun k => ?_⟩
        rw [l_X1_winsWhatever_k0_16, if_pos lt, if_pos rfl]
      · obtain ⟨v1, S1, p1, p2, p3⟩ := nD_0 S (nI j) (nI j + 1) zb zc
        by_cases z : v1 = 0
        · obtain ⟨S', v', x', r1, r2, r3⟩ := ih (j + 1) S1 0 b0 (by omega) (by omega)
          refine ⟨S', v', x', p2.tr r1, r2, fun k => ?_⟩
          rw [l_X1_winsWhatever_k0_16, if_pos lt, if_neg (by decide), p3, fb_s, if_pos z, nI_1]; exact r3 k
        · obtain ⟨v2, S2, q1, q2, q3⟩ := nD_0 S1 (nI j + 1) (nI j) zb zc
          by_cases y : v2 = 0
          · obtain ⟨S', v', x', r1, r2, r3⟩ := ih (j + 1) S2 0 b0 (by omega) (by omega)
            refine ⟨S', v', x', (p2.tr q2).tr r1, r2, fun k => ?_⟩
            rw [l_X1_winsWhatever_k0_16, if_pos lt, if_neg (by decide), p3, fb_s, if_neg z, q3, fb_s, if_pos y, nI_1]; exact r3 k
          · obtain ⟨S', v', x', r1, r2, r3⟩ := ih (j + 1) S2 1 b1 (by omega) (by omega)
            refine ⟨S', v', x', (p2.tr q2).tr r1, r2, fun k => ?_⟩
            rw [l_X1_winsWhatever_k0_16, if_pos lt, if_neg (by decide), p3, fb_s, if_neg z, q3, fb_s, if_neg y, nI_1]; exact r3 k
    · refine ⟨S, v, nI j, EA.rf, hv, fun k => ?_⟩
      rw [l_X1_winsWhatever_k0_16, if_neg (show ¬ nI j < 4 from nI_nlt (b := 4) (by omega) hj)]
theorem nA_0 (S : FS) (zb zc : Int32) : TT 41 S (f_X1_winsWhatever_k0 S zb zc) := by
  unfold f_X1_winsWhatever_k0
  obtain ⟨j, hj, ej⟩ : ∃ j : Nat, j < 2 ^ 31 ∧ imax 0 zb = nI j := by
    unfold imax
    by_cases z : 0 < zb
    · rw [if_pos z]; exact nI_of (fun q => Int32.lt_irrefl (Int32.lt_trans q z))
    · rw [if_neg z]; exact ⟨0, by decide, rfl⟩
  obtain ⟨S', v', x', r1, r2, r3⟩ := nL_0 (zb := zb) (zc := zc) FU j S 0 b0 hj (FU_lt (by omega))
  simp only [fv_s, show p_X1_winsWithin_k0 S zb zc = 0 from rfl, fv_s, ej]
  rw [r3, bz_b r2, fb_s]
  exact ⟨v', S', r2, r1, rfl⟩
theorem nT_1 (S : FS) (zb zc : Int32) : TT 41 S (f_X1_winsByTaking_k1 S zb zc) := by
  unfold f_X1_winsByTaking_k1
  by_cases a1 : zb < 0
  · rw [if_pos a1]; exact TT.of b0
  · rw [if_neg a1]
    by_cases a2 : zb < 5
    · rw [if_pos a2]
      obtain ⟨i, hi, -, ei⟩ := ix5 a1 a2
      rw [ei, fb_s]
      by_cases c1 : S.2 41 i < zc
      · rw [if_pos c1]
        by_cases c2 : zb = S.1 111
        · rw [if_pos c2]; exact TT.of b1
        · rw [if_neg c2]
          obtain ⟨v, S1, p1, p2, p3⟩ := nA_0 S (zb + 1) (zc - S.2 41 i)
          rw [p3, fb_s]
          split
          · exact ⟨0, S1, b0, p2, rfl⟩
          · exact ⟨1, S1, b1, p2, rfl⟩
      · rw [if_neg c1]; exact TT.of b0
    · rw [if_neg a2]; exact TT.of b0
theorem nB_1 (S : FS) (zb zc : Int32) : TT 41 S (f_X1_winsByWaiting_k1 S zb zc) := by
  unfold f_X1_winsByWaiting_k1
  obtain ⟨v, S1, p1, p2, p3⟩ := nA_0 S zb zc
  rw [p3, fb_s, bz_b p1, fb_s]; exact ⟨v, S1, p1, p2, rfl⟩
theorem nW_1 (S : FS) (zb zc : Int32) : TT 41 S (f_X1_winsWithin_k1 S zb zc) := by
  unfold f_X1_winsWithin_k1
  obtain ⟨v, S1, p1, p2, p3⟩ := nT_1 S zb zc
  rw [p3, fb_s]
  split
  · obtain ⟨w, S2, q1, q2, q3⟩ := nB_1 S1 zb zc
    rw [q3, fb_s]
    split
    · exact ⟨0, S2, b0, p2.tr q2, rfl⟩
    · exact ⟨1, S2, b1, p2.tr q2, rfl⟩
  · exact ⟨1, S1, b1, p2, rfl⟩
theorem nD_1 (S : FS) (za zb zd ze : Int32) : TT 41 S (f_X1_winsDespite_k1 S za zb zd ze) := by
  unfold f_X1_winsDespite_k1
  by_cases a1 : za < 0
  · rw [if_pos a1]; exact TT.of b1
  · rw [if_neg a1]
    by_cases a2 : za < 5
    · rw [if_pos a2]
      by_cases c1 : zb < 0
      · rw [if_pos c1]; exact TT.of b1
      · rw [if_neg c1]
        by_cases c2 : zb < 5
        · rw [if_pos c2]
          obtain ⟨i, hi, -, ei⟩ := ix5 a1 a2
          obtain ⟨j, hj, -, ej⟩ := ix5 c1 c2
          rw [ei, fb_s]
          by_cases d1 : S.2 41 i < 1
          · rw [if_pos d1]; exact TT.of b1
          · rw [if_neg d1, ej, fb_s]
            by_cases d2 : S.2 41 j < 6
            · rw [if_pos d2]
              obtain ⟨v, S1, w1, w2, w3⟩ := nW_1 (wA (wA S 41 i (S.2 41 i - 1)) 41 j ((wA S 41 i (S.2 41 i - 1)).2 41 j + 1)) zd ze
              simp only [fl_s, w3, fb_s, bz_b w1]
              exact ⟨v, _, w1, (((EA.w.tr EA.w).tr w2).tr EA.w).tr EA.w, rfl⟩
            · rw [if_neg d2]; exact TT.of b1
        · rw [if_neg c2]; exact TT.of b1
    · rw [if_neg a2]; exact TT.of b1
theorem nL_1 {zb zc : Int32} : ∀ (m j : Nat) (S : FS) (v : Int32), B01 v → j < 2 ^ 31 → 4 - j < m → ∃ (S' : FS) (v' x' : Int32), EA 41 S S' ∧ B01 v' ∧ ∀ k, l_X1_winsWhatever_k1_16 zb zc k m S v (nI j) = k S' v' x' := by
  intro m
  induction m with
  | zero => intro j S v _ _ hm; exact absurd hm (Nat.not_lt_zero _)
  | succ m ih =>
    intro j S v hv hj hm
    by_cases c : j < 4
    · have lt : nI j < 4 := nI_lt (b := 4) c (by decide)
      rcases hv with rfl | rfl
      · refine ⟨S, 0, nI j, EA.rf, b0, fun k => ?_⟩
        rw [l_X1_winsWhatever_k1_16, if_pos lt, if_pos rfl]
      · obtain ⟨v1, S1, p1, p2, p3⟩ := nD_1 S (nI j) (nI j + 1) zb zc
        by_cases z : v1 = 0
        · obtain ⟨S', v', x', r1, r2, r3⟩ := ih (j + 1) S1 0 b0 (by omega) (by omega)
          refine ⟨S', v', x', p2.tr r1, r2, fun k => ?_⟩
          rw [l_X1_winsWhatever_k1_16, if_pos lt, if_neg (by decide), p3, fb_s, if_pos z, nI_1]; exact r3 k
        · obtain ⟨v2, S2, q1, q2, q3⟩ := nD_1 S1 (nI j + 1) (nI j) zb zc
          by_cases y : v2 = 0
          · obtain ⟨S', v', x', r1, r2, r3⟩ := ih (j + 1) S2 0 b0 (by omega) (by omega)
            refine ⟨S', v', x', (p2.tr q2).tr r1, r2, fun k => ?_⟩
            rw [l_X1_winsWhatever_k1_16, if_pos lt, if_neg (by decide), p3, fb_s, if_neg z, q3, fb_s, if_pos y, nI_1]; exact r3 k
          · obtain ⟨S', v', x', r1, r2, r3⟩ := ih (j + 1) S2 1 b1 (by omega) (by omega)
            refine ⟨S', v', x', (p2.tr q2).tr r1, r2, fun k => ?_⟩
            rw [l_X1_winsWhatever_k1_16, if_pos lt, if_neg (by decide), p3, fb_s, if_neg z, q3, fb_s, if_neg y, nI_1]; exact r3 k
    · refine ⟨S, v, nI j, EA.rf, hv, fun k => ?_⟩
      rw [l_X1_winsWhatever_k1_16, if_neg (show ¬ nI j < 4 from nI_nlt (b := 4) (by omega) hj)]
theorem nA_1 (S : FS) (zb zc : Int32) : TT 41 S (f_X1_winsWhatever_k1 S zb zc) := by
  unfold f_X1_winsWhatever_k1
  obtain ⟨v, S1, w1, w2, w3⟩ := nW_1 S zb zc
  obtain ⟨j, hj, ej⟩ : ∃ j : Nat, j < 2 ^ 31 ∧ imax 0 zb = nI j := by
    unfold imax
    by_cases z : 0 < zb
    · rw [if_pos z]; exact nI_of (fun q => Int32.lt_irrefl (Int32.lt_trans q z))
    · rw [if_neg z]; exact ⟨0, by decide, rfl⟩
  obtain ⟨S', v', x', r1, r2, r3⟩ := nL_1 (zb := zb) (zc := zc) FU j S1 v w1 hj (FU_lt (by omega))
  simp only [w3, fb_s, fv_s, ej]
  rw [r3, bz_b r2, fb_s]
  exact ⟨v', S', r2, w2.tr r1, rfl⟩
theorem nT_2 (S : FS) (zb zc : Int32) : TT 41 S (f_X1_winsByTaking_k2 S zb zc) := by
  unfold f_X1_winsByTaking_k2
  by_cases a1 : zb < 0
  · rw [if_pos a1]; exact TT.of b0
  · rw [if_neg a1]
    by_cases a2 : zb < 5
    · rw [if_pos a2]
      obtain ⟨i, hi, -, ei⟩ := ix5 a1 a2
      rw [ei, fb_s]
      by_cases c1 : S.2 41 i < zc
      · rw [if_pos c1]
        by_cases c2 : zb = S.1 111
        · rw [if_pos c2]; exact TT.of b1
        · rw [if_neg c2]
          obtain ⟨v, S1, p1, p2, p3⟩ := nA_1 S (zb + 1) (zc - S.2 41 i)
          rw [p3, fb_s]
          split
          · exact ⟨0, S1, b0, p2, rfl⟩
          · exact ⟨1, S1, b1, p2, rfl⟩
      · rw [if_neg c1]; exact TT.of b0
    · rw [if_neg a2]; exact TT.of b0
theorem nB_2 (S : FS) (zb zc : Int32) : TT 41 S (f_X1_winsByWaiting_k2 S zb zc) := by
  unfold f_X1_winsByWaiting_k2
  obtain ⟨v, S1, p1, p2, p3⟩ := nA_1 S zb zc
  rw [p3, fb_s, bz_b p1, fb_s]; exact ⟨v, S1, p1, p2, rfl⟩
theorem nW_2 (S : FS) (zb zc : Int32) : TT 41 S (f_X1_winsWithin_k2 S zb zc) := by
  unfold f_X1_winsWithin_k2
  obtain ⟨v, S1, p1, p2, p3⟩ := nT_2 S zb zc
  rw [p3, fb_s]
  split
  · obtain ⟨w, S2, q1, q2, q3⟩ := nB_2 S1 zb zc
    rw [q3, fb_s]
    split
    · exact ⟨0, S2, b0, p2.tr q2, rfl⟩
    · exact ⟨1, S2, b1, p2.tr q2, rfl⟩
  · exact ⟨1, S1, b1, p2, rfl⟩
theorem nD_2 (S : FS) (za zb zd ze : Int32) : TT 41 S (f_X1_winsDespite_k2 S za zb zd ze) := by
  unfold f_X1_winsDespite_k2
  by_cases a1 : za < 0
  · rw [if_pos a1]; exact TT.of b1
  · rw [if_neg a1]
    by_cases a2 : za < 5
    · rw [if_pos a2]
      by_cases c1 : zb < 0
      · rw [if_pos c1]; exact TT.of b1
      · rw [if_neg c1]
        by_cases c2 : zb < 5
        · rw [if_pos c2]
          obtain ⟨i, hi, -, ei⟩ := ix5 a1 a2
          obtain ⟨j, hj, -, ej⟩ := ix5 c1 c2
          rw [ei, fb_s]
          by_cases d1 : S.2 41 i < 1
          · rw [if_pos d1]; exact TT.of b1
          · rw [if_neg d1, ej, fb_s]
            by_cases d2 : S.2 41 j < 6
            · rw [if_pos d2]
              obtain ⟨v, S1, w1, w2, w3⟩ := nW_2 (wA (wA S 41 i (S.2 41 i - 1)) 41 j ((wA S 41 i (S.2 41 i - 1)).2 41 j + 1)) zd ze
              simp only [fl_s, w3, fb_s, bz_b w1]
              exact ⟨v, _, w1, (((EA.w.tr EA.w).tr w2).tr EA.w).tr EA.w, rfl⟩
            · rw [if_neg d2]; exact TT.of b1
        · rw [if_neg c2]; exact TT.of b1
    · rw [if_neg a2]; exact TT.of b1
theorem nL_2 {zb zc : Int32} : ∀ (m j : Nat) (S : FS) (v : Int32), B01 v → j < 2 ^ 31 → 4 - j < m → ∃ (S' : FS) (v' x' : Int32), EA 41 S S' ∧ B01 v' ∧ ∀ k, l_X1_winsWhatever_k2_16 zb zc k m S v (nI j) = k S' v' x' := by
  intro m
  induction m with
  | zero => intro j S v _ _ hm; exact absurd hm (Nat.not_lt_zero _)
  | succ m ih =>
    intro j S v hv hj hm
    by_cases c : j < 4
    · have lt : nI j < 4 := nI_lt (b := 4) c (by decide)
      rcases hv with rfl | rfl
      · refine ⟨S, 0, nI j, EA.rf, b0, fun k => ?_⟩
        rw [l_X1_winsWhatever_k2_16, if_pos lt, if_pos rfl]
      · obtain ⟨v1, S1, p1, p2, p3⟩ := nD_2 S (nI j) (nI j + 1) zb zc
        by_cases z : v1 = 0
        · obtain ⟨S', v', x', r1, r2, r3⟩ := ih (j + 1) S1 0 b0 (by omega) (by omega)
          refine ⟨S', v', x', p2.tr r1, r2, fun k => ?_⟩
          rw [l_X1_winsWhatever_k2_16, if_pos lt, if_neg (by decide), p3, fb_s, if_pos z, nI_1]; exact r3 k
        · obtain ⟨v2, S2, q1, q2, q3⟩ := nD_2 S1 (nI j + 1) (nI j) zb zc
          by_cases y : v2 = 0
          · obtain ⟨S', v', x', r1, r2, r3⟩ := ih (j + 1) S2 0 b0 (by omega) (by omega)
            refine ⟨S', v', x', (p2.tr q2).tr r1, r2, fun k => ?_⟩
            rw [l_X1_winsWhatever_k2_16, if_pos lt, if_neg (by decide), p3, fb_s, if_neg z, q3, fb_s, if_pos y, nI_1]; exact r3 k
          · obtain ⟨S', v', x', r1, r2, r3⟩ := ih (j + 1) S2 1 b1 (by omega) (by omega)
            refine ⟨S', v', x', (p2.tr q2).tr r1, r2, fun k => ?_⟩
            rw [l_X1_winsWhatever_k2_16, if_pos lt, if_neg (by decide), p3, fb_s, if_neg z, q3, fb_s, if_neg y, nI_1]; exact r3 k
    · refine ⟨S, v, nI j, EA.rf, hv, fun k => ?_⟩
      rw [l_X1_winsWhatever_k2_16, if_neg (show ¬ nI j < 4 from nI_nlt (b := 4) (by omega) hj)]
theorem nA_2 (S : FS) (zb zc : Int32) : TT 41 S (f_X1_winsWhatever_k2 S zb zc) := by
  unfold f_X1_winsWhatever_k2
  obtain ⟨v, S1, w1, w2, w3⟩ := nW_2 S zb zc
  obtain ⟨j, hj, ej⟩ : ∃ j : Nat, j < 2 ^ 31 ∧ imax 0 zb = nI j := by
    unfold imax
    by_cases z : 0 < zb
    · rw [if_pos z]; exact nI_of (fun q => Int32.lt_irrefl (Int32.lt_trans q z))
    · rw [if_neg z]; exact ⟨0, by decide, rfl⟩
  obtain ⟨S', v', x', r1, r2, r3⟩ := nL_2 (zb := zb) (zc := zc) FU j S1 v w1 hj (FU_lt (by omega))
  simp only [w3, fb_s, fv_s, ej]
  rw [r3, bz_b r2, fb_s]
  exact ⟨v', S', r2, w2.tr r1, rfl⟩
theorem nT_3 (S : FS) (zb zc : Int32) : TT 41 S (f_X1_winsByTaking_k3 S zb zc) := by
  unfold f_X1_winsByTaking_k3
  by_cases a1 : zb < 0
  · rw [if_pos a1]; exact TT.of b0
  · rw [if_neg a1]
    by_cases a2 : zb < 5
    · rw [if_pos a2]
      obtain ⟨i, hi, -, ei⟩ := ix5 a1 a2
      rw [ei, fb_s]
      by_cases c1 : S.2 41 i < zc
      · rw [if_pos c1]
        by_cases c2 : zb = S.1 111
        · rw [if_pos c2]; exact TT.of b1
        · rw [if_neg c2]
          obtain ⟨v, S1, p1, p2, p3⟩ := nA_2 S (zb + 1) (zc - S.2 41 i)
          rw [p3, fb_s]
          split
          · exact ⟨0, S1, b0, p2, rfl⟩
          · exact ⟨1, S1, b1, p2, rfl⟩
      · rw [if_neg c1]; exact TT.of b0
    · rw [if_neg a2]; exact TT.of b0
theorem nB_3 (S : FS) (zb zc : Int32) : TT 41 S (f_X1_winsByWaiting_k3 S zb zc) := by
  unfold f_X1_winsByWaiting_k3
  obtain ⟨v, S1, p1, p2, p3⟩ := nA_2 S zb zc
  rw [p3, fb_s, bz_b p1, fb_s]; exact ⟨v, S1, p1, p2, rfl⟩
theorem nW_3 (S : FS) (zb zc : Int32) : TT 41 S (f_X1_winsWithin_k3 S zb zc) := by
  unfold f_X1_winsWithin_k3
  obtain ⟨v, S1, p1, p2, p3⟩ := nT_3 S zb zc
  rw [p3, fb_s]
  split
  · obtain ⟨w, S2, q1, q2, q3⟩ := nB_3 S1 zb zc
    rw [q3, fb_s]
    split
    · exact ⟨0, S2, b0, p2.tr q2, rfl⟩
    · exact ⟨1, S2, b1, p2.tr q2, rfl⟩
  · exact ⟨1, S1, b1, p2, rfl⟩
theorem can_t (T : FS) (a b : Int32) {i : Nat} (hi : i < 5) : ∃ v : Int32, q_X12_canTake T a b (nI i) = some v := by
  unfold q_X12_canTake
  rw [ix_nI hi (by decide)]
  simp only [fb_s]
  repeat' split
  all_goals exact ⟨_, rfl⟩
theorem w1_l {zb zc zd : Int32} : ∀ (m i : Nat) (v : Int32), B01 v → i ≤ 5 → 5 - i < m → ∃ (v' x' : Int32), B01 v' ∧ ∀ k, l_X12_wins_k1_15 zb zc zd T k m v (nI i) = k v' x' := by
  intro m
  induction m with
  | zero => intro i v _ _ hm; exact absurd hm (Nat.not_lt_zero _)
  | succ m ih =>
    intro i v hv hi hm
    by_cases c : i < 5
    · have lt : nI i < 5 := nI_lt (b := 5) c (by decide)
      rcases hv with rfl | rfl
      · obtain ⟨x, ex⟩ := can_t T zb zc c
        obtain ⟨v0, x0, s1, s2⟩ := ih (i + 1) 0 b0 (by omega) (by omega)
        obtain ⟨v1, x1, t1, t2⟩ := ih (i + 1) 1 b1 (by omega) (by omega)
        by_cases z : x = 0
        · refine ⟨v0, x0, s1, fun k => ?_⟩
          rw [l_X12_wins_k1_15, if_pos lt, if_pos rfl, ex, fb_s, if_pos z, nI_1]; exact s2 k
        · by_cases y : p_X12_winsBy_k1 T (nI i) zb zc zd = 0
          · refine ⟨v0, x0, s1, fun k => ?_⟩
            rw [l_X12_wins_k1_15, if_pos lt, if_pos rfl, ex, fb_s, if_neg z, if_pos y, nI_1]; exact s2 k
          · refine ⟨v1, x1, t1, fun k => ?_⟩
            rw [l_X12_wins_k1_15, if_pos lt, if_pos rfl, ex, fb_s, if_neg z, if_neg y, nI_1]; exact t2 k
      · refine ⟨1, nI i, b1, fun k => ?_⟩
        rw [l_X12_wins_k1_15, if_pos lt, if_neg (by decide)]
    · obtain rfl : i = 5 := by omega
      refine ⟨v, nI 5, hv, fun k => ?_⟩
      rw [l_X12_wins_k1_15, if_neg (by decide)]
theorem w1_t (T : FS) (zb zc zd : Int32) : ∃ v : Int32, B01 v ∧ q_X12_wins_k1 T zb zc zd = some v := by
  unfold q_X12_wins_k1
  have hb : B01 (p_X12_winsBy_k1 T (-1) zb zc zd) := by
    unfold p_X12_winsBy_k1; split
    · exact b1
    · exact b0
  obtain ⟨v', x', r1, r2⟩ := w1_l (T := T) (zb := zb) (zc := zc) (zd := zd) FU 0 _ hb (by omega) (FU_lt (by omega))
  refine ⟨v', r1, ?_⟩
  rw [fv_s, show ∀ k, l_X12_wins_k1_15 zb zc zd T k FU (p_X12_winsBy_k1 T (-1) zb zc zd) 0 = k v' x' from r2, bz_b r1, fb_s]
theorem s82_2 {ze v6 v7 : Int32} {i : Nat} (hi : i < 5) (m : Nat) (T : FS) (v y : Int32) (hy : ¬ 1 < y) (hv : B01 v) : (v = 0 ∧ ∀ k, l_X12_winsBy_k2_82 ze v6 v7 (nI i) k (m + 1) T v y = k T v y) ∨ ∃ (T' : FS) (v' : Int32), EA 66 T T' ∧ B01 v' ∧ ∀ k, l_X12_winsBy_k2_82 ze v6 v7 (nI i) k (m + 1) T v y = l_X12_winsBy_k2_82 ze v6 v7 (nI i) k m T' v' (y + 2) := by
  rcases hv with rfl | rfl
  · left
    refine ⟨rfl, fun k => ?_⟩
    rw [l_X12_winsBy_k2_82, if_neg hy, if_pos rfl]
  · right
    have st : ∀ k, l_X12_winsBy_k2_82 ze v6 v7 (nI i) k (m + 1) T 1 y = _ := fun k => by
      rw [l_X12_winsBy_k2_82, if_neg hy, if_neg (show ¬ (1 : Int32) = 0 by decide), fv_s]
    have skip : (∀ k, l_X12_winsBy_k2_82 ze v6 v7 (nI i) k (m + 1) T 1 y = l_X12_winsBy_k2_82 ze v6 v7 (nI i) k m T 1 (y + 2)) → ∃ (T' : FS) (v' : Int32), EA 66 T T' ∧ B01 v' ∧ ∀ k, l_X12_winsBy_k2_82 ze v6 v7 (nI i) k (m + 1) T 1 y = l_X12_winsBy_k2_82 ze v6 v7 (nI i) k m T' v' (y + 2) := fun e => ⟨T, 1, EA.rf, b1, e⟩
    by_cases a1 : p_X12_in T (nI i + y) 0 4 = 0
    · exact skip (fun k => by rw [st, if_pos a1])
    · by_cases a2 : p_X12_isTaken T v6 (nI i) = 0
      · by_cases a3 : p_X12_isTaken T v6 (nI i + y) = 0
        · have ei : ix 5 (nI i) = some i := ix_nI hi (by decide)
          by_cases a4 : T.2 66 i = 0
          · exact skip (fun k => by rw [st, if_neg a1, if_pos a2, if_pos a3, ei, fb_s, if_pos a4])
          · obtain ⟨j, hj, ej⟩ : ∃ j : Nat, j < 5 ∧ ix 5 (nI i + y) = some j := by
              have q1 : ¬ nI i + y < 0 := fun q => a1 (by unfold p_X12_in; rw [if_pos q])
              have q2 : ¬ (4 : Int32) < nI i + y := fun q => a1 (by unfold p_X12_in; rw [if_neg q1, if_pos q])
              obtain ⟨j, hj, e⟩ := in_nat (a := 0) (b := 4) (by decide) (by decide) q1 q2
              rw [e]; exact ⟨j, by omega, ix_nI (by omega) (by decide)⟩
            by_cases a5 : T.2 66 j = 6
            · exact skip (fun k => by rw [st, if_neg a1, if_pos a2, if_pos a3, ei, fb_s, if_neg a4, ej, fb_s, if_pos a5])
            · obtain ⟨x, hx, ex⟩ := w1_t (wA (wA T 66 i (T.2 66 i - 1)) 66 j ((wA T 66 i (T.2 66 i - 1)).2 66 j + 1)) v6 v7 ze
              refine ⟨wA (wA (wA (wA T 66 i (T.2 66 i - 1)) 66 j ((wA T 66 i (T.2 66 i - 1)).2 66 j + 1)) 66 i ((wA (wA T 66 i (T.2 66 i - 1)) 66 j ((wA T 66 i (T.2 66 i - 1)).2 66 j + 1)).2 66 i + 1)) 66 j ((wA (wA (wA T 66 i (T.2 66 i - 1)) 66 j ((wA T 66 i (T.2 66 i - 1)).2 66 j + 1)) 66 i ((wA (wA T 66 i (T.2 66 i - 1)) 66 j ((wA T 66 i (T.2 66 i - 1)).2 66 j + 1)).2 66 i + 1)).2 66 j - 1), x, ((EA.w.tr EA.w).tr EA.w).tr EA.w, hx, fun k => ?_⟩
              rw [st, if_neg a1, if_pos a2, if_pos a3, ei, fb_s, if_neg a4, ej, fb_s, if_neg a5, fl_s, fl_s, ex, fb_s, fl_s, fl_s]
        · exact skip (fun k => by rw [st, if_neg a1, if_pos a2, if_neg a3])
      · exact skip (fun k => by rw [st, if_neg a1, if_neg a2])
theorem l82_2 {ze v6 v7 : Int32} {i : Nat} (hi : i < 5) (m : Nat) (hm : 3 ≤ m) (T : FS) (v : Int32) (hv : B01 v) : ∃ (T' : FS) (v' x' : Int32), EA 66 T T' ∧ B01 v' ∧ ∀ k, l_X12_winsBy_k2_82 ze v6 v7 (nI i) k m T v (-1) = k T' v' x' := by
  obtain ⟨m, rfl⟩ : ∃ q : Nat, m = q + 1 + 1 + 1 := ⟨m - 3, by omega⟩
  rcases s82_2 (ze := ze) (v6 := v6) (v7 := v7) hi (m + 1 + 1) T v (-1) (by decide) hv with ⟨z, e⟩ | ⟨T1, v1, p1, p2, p3⟩
  · exact ⟨T, v, -1, EA.rf, hv, e⟩
  · rcases s82_2 (ze := ze) (v6 := v6) (v7 := v7) hi (m + 1) T1 v1 (-1 + 2) (by decide) p2 with ⟨z, e⟩ | ⟨T2, v2, q1, q2, q3⟩
    · exact ⟨T1, v1, -1 + 2, p1, p2, fun k => (p3 k).trans (e k)⟩
    · refine ⟨T2, v2, -1 + 2 + 2, p1.tr q1, q2, fun k => (p3 k).trans ((q3 k).trans ?_)⟩
      rw [l_X12_winsBy_k2_82, if_pos (by decide)]
theorem l68_2 {ze v6 v7 : Int32} : ∀ (m i : Nat) (T : FS) (v : Int32), B01 v → i ≤ 5 → 5 - i < m → ∃ (T' : FS) (v' x' : Int32), EA 66 T T' ∧ B01 v' ∧ ∀ k, l_X12_winsBy_k2_68 ze v6 v7 k m T v (nI i) = k T' v' x' := by
  intro m
  induction m with
  | zero => intro i T v _ _ hm; exact absurd hm (Nat.not_lt_zero _)
  | succ m ih =>
    intro i T v hv hi hm
    by_cases c : i < 5
    · have lt : nI i < 5 := nI_lt (b := 5) c (by decide)
      by_cases z : v = 0
      · refine ⟨T, v, nI i, EA.rf, hv, fun k => ?_⟩
        rw [l_X12_winsBy_k2_68, if_pos lt, if_pos z]
      · obtain ⟨T1, v1, x1, p1, p2, p3⟩ := l82_2 (ze := ze) (v6 := v6) (v7 := v7) c FU (by decide) T v hv
        obtain ⟨T2, v2, x2, q1, q2, q3⟩ := ih (i + 1) T1 v1 p2 (by omega) (by omega)
        refine ⟨T2, v2, x2, p1.tr q1, q2, fun k => ?_⟩
        rw [l_X12_winsBy_k2_68, if_pos lt, if_neg z, p3, nI_1]; exact q3 k
    · obtain rfl : i = 5 := by omega
      refine ⟨T, v, nI 5, EA.rf, hv, fun k => ?_⟩
      rw [l_X12_winsBy_k2_68, if_neg (by decide)]
theorem j50_2 (T : FS) (ze v6 v7 : Int32) : TT 66 T (j_X12_winsBy_k2_50 ze T v6 v7) := by
  unfold j_X12_winsBy_k2_50
  obtain ⟨x, hx, ex⟩ := w1_t T v6 v7 ze
  obtain ⟨T2, v2, x2, q1, q2, q3⟩ := l68_2 (ze := ze) (v6 := v6) (v7 := v7) FU 0 T x hx (by omega) (FU_lt (by omega))
  rw [ex, fb_s]
  show TT 66 T (l_X12_winsBy_k2_68 ze v6 v7 _ FU T x (nI 0))
  rw [q3, bz_b q2, fb_s]
  exact ⟨v2, T2, q2, q1, rfl⟩
theorem wb_2 (T : FS) (za zc zd ze : Int32) (hz : za < 0 ∨ ∃ i : Nat, i < 5 ∧ za = nI i) : TT 66 T (f_X12_winsBy_k2 T za zc zd ze) := by
  unfold f_X12_winsBy_k2
  by_cases a : za = ze
  · rw [if_pos a]; exact TT.of b1
  · rw [if_neg a]
    rcases hz with hz | ⟨i, hi, rfl⟩
    · rw [if_pos hz]; exact j50_2 T ze zc zd
    · rw [if_neg (nI_pos (by omega)), fv_s, ix_nI hi (by decide), fb_s, fv_s]; exact j50_2 T ze _ _
theorem w2_l {zb zc zd : Int32} : ∀ (m i : Nat) (T : FS) (v : Int32), B01 v → i ≤ 5 → 5 - i < m → ∃ (T' : FS) (v' x' : Int32), EA 66 T T' ∧ B01 v' ∧ ∀ k, l_X12_wins_k2_15 zb zc zd k m T v (nI i) = k T' v' x' := by
  intro m
  induction m with
  | zero => intro i T v _ _ hm; exact absurd hm (Nat.not_lt_zero _)
  | succ m ih =>
    intro i T v hv hi hm
    by_cases c : i < 5
    · have lt : nI i < 5 := nI_lt (b := 5) c (by decide)
      rcases hv with rfl | rfl
      · obtain ⟨x, ex⟩ := can_t T zb zc c
        by_cases z : x = 0
        · obtain ⟨T', v', x', r1, r2, r3⟩ := ih (i + 1) T 0 b0 (by omega) (by omega)
          refine ⟨T', v', x', r1, r2, fun k => ?_⟩
          rw [l_X12_wins_k2_15, if_pos lt, if_pos rfl, ex, fb_s, if_pos z, nI_1]; exact r3 k
        · obtain ⟨y, T1, p1, p2, p3⟩ := wb_2 T (nI i) zb zc zd (Or.inr ⟨i, c, rfl⟩)
          by_cases y0 : y = 0
          · obtain ⟨T', v', x', r1, r2, r3⟩ := ih (i + 1) T1 0 b0 (by omega) (by omega)
            refine ⟨T', v', x', p2.tr r1, r2, fun k => ?_⟩
            rw [l_X12_wins_k2_15, if_pos lt, if_pos rfl, ex, fb_s, if_neg z, p3, fb_s, if_pos y0, nI_1]; exact r3 k
          · obtain ⟨T', v', x', r1, r2, r3⟩ := ih (i + 1) T1 1 b1 (by omega) (by omega)
            refine ⟨T', v', x', p2.tr r1, r2, fun k => ?_⟩
            rw [l_X12_wins_k2_15, if_pos lt, if_pos rfl, ex, fb_s, if_neg z, p3, fb_s, if_neg y0, nI_1]; exact r3 k
      · refine ⟨T, 1, nI i, EA.rf, b1, fun k => ?_⟩
        rw [l_X12_wins_k2_15, if_pos lt, if_neg (by decide)]
    · obtain rfl : i = 5 := by omega
      refine ⟨T, v, nI 5, EA.rf, hv, fun k => ?_⟩
      rw [l_X12_wins_k2_15, if_neg (by decide)]
theorem w2_t (T : FS) (zb zc zd : Int32) : TT 66 T (f_X12_wins_k2 T zb zc zd) := by
  unfold f_X12_wins_k2
  obtain ⟨y, T1, p1, p2, p3⟩ := wb_2 T (-1) zb zc zd (Or.inl (by decide))
  obtain ⟨T', v', x', r1, r2, r3⟩ := w2_l (zb := zb) (zc := zc) (zd := zd) FU 0 T1 y p1 (by omega) (FU_lt (by omega))
  rw [p3, fb_s]
  show TT 66 T (l_X12_wins_k2_15 zb zc zd _ FU T1 y (nI 0))
  rw [r3, bz_b r2, fb_s]
  exact ⟨v', T', r2, p2.tr r1, rfl⟩
theorem s82_3 {ze v6 v7 : Int32} {i : Nat} (hi : i < 5) (m : Nat) (T : FS) (v y : Int32) (hy : ¬ 1 < y) (hv : B01 v) : (v = 0 ∧ ∀ k, l_X12_winsBy_k3_82 ze v6 v7 (nI i) k (m + 1) T v y = k T v y) ∨ ∃ (T' : FS) (v' : Int32), EA 66 T T' ∧ B01 v' ∧ ∀ k, l_X12_winsBy_k3_82 ze v6 v7 (nI i) k (m + 1) T v y = l_X12_winsBy_k3_82 ze v6 v7 (nI i) k m T' v' (y + 2) := by
  rcases hv with rfl | rfl
  · left
    refine ⟨rfl, fun k => ?_⟩
    rw [l_X12_winsBy_k3_82, if_neg hy, if_pos rfl]
  · right
    have st : ∀ k, l_X12_winsBy_k3_82 ze v6 v7 (nI i) k (m + 1) T 1 y = _ := fun k => by
      rw [l_X12_winsBy_k3_82, if_neg hy, if_neg (show ¬ (1 : Int32) = 0 by decide), fv_s]
    have skip : (∀ k, l_X12_winsBy_k3_82 ze v6 v7 (nI i) k (m + 1) T 1 y = l_X12_winsBy_k3_82 ze v6 v7 (nI i) k m T 1 (y + 2)) → ∃ (T' : FS) (v' : Int32), EA 66 T T' ∧ B01 v' ∧ ∀ k, l_X12_winsBy_k3_82 ze v6 v7 (nI i) k (m + 1) T 1 y = l_X12_winsBy_k3_82 ze v6 v7 (nI i) k m T' v' (y + 2) := fun e => ⟨T, 1, EA.rf, b1, e⟩
    by_cases a1 : p_X12_in T (nI i + y) 0 4 = 0
    · exact skip (fun k => by rw [st, if_pos a1])
    · by_cases a2 : p_X12_isTaken T v6 (nI i) = 0
      · by_cases a3 : p_X12_isTaken T v6 (nI i + y) = 0
        · have ei : ix 5 (nI i) = some i := ix_nI hi (by decide)
          by_cases a4 : T.2 66 i = 0
          · exact skip (fun k => by rw [st, if_neg a1, if_pos a2, if_pos a3, ei, fb_s, if_pos a4])
          · obtain ⟨j, hj, ej⟩ : ∃ j : Nat, j < 5 ∧ ix 5 (nI i + y) = some j := by
              have q1 : ¬ nI i + y < 0 := fun q => a1 (by unfold p_X12_in; rw [if_pos q])
              have q2 : ¬ (4 : Int32) < nI i + y := fun q => a1 (by unfold p_X12_in; rw [if_neg q1, if_pos q])
              obtain ⟨j, hj, e⟩ := in_nat (a := 0) (b := 4) (by decide) (by decide) q1 q2
              rw [e]; exact ⟨j, by omega, ix_nI (by omega) (by decide)⟩
            by_cases a5 : T.2 66 j = 6
            · exact skip (fun k => by rw [st, if_neg a1, if_pos a2, if_pos a3, ei, fb_s, if_neg a4, ej, fb_s, if_pos a5])
            · obtain ⟨x, T1, hx, tx, ex⟩ := w2_t (wA (wA T 66 i (T.2 66 i - 1)) 66 j ((wA T 66 i (T.2 66 i - 1)).2 66 j + 1)) v6 v7 ze
              refine ⟨wA (wA T1 66 i (T1.2 66 i + 1)) 66 j ((wA T1 66 i (T1.2 66 i + 1)).2 66 j - 1), x, (((EA.w.tr EA.w).tr tx).tr EA.w).tr EA.w, hx, fun k => ?_⟩
              rw [st, if_neg a1, if_pos a2, if_pos a3, ei, fb_s, if_neg a4, ej, fb_s, if_neg a5, fl_s, fl_s, ex, fb_s, fl_s, fl_s]
        · exact skip (fun k => by rw [st, if_neg a1, if_pos a2, if_neg a3])
      · exact skip (fun k => by rw [st, if_neg a1, if_neg a2])
theorem l82_3 {ze v6 v7 : Int32} {i : Nat} (hi : i < 5) (m : Nat) (hm : 3 ≤ m) (T : FS) (v : Int32) (hv : B01 v) : ∃ (T' : FS) (v' x' : Int32), EA 66 T T' ∧ B01 v' ∧ ∀ k, l_X12_winsBy_k3_82 ze v6 v7 (nI i) k m T v (-1) = k T' v' x' := by
  obtain ⟨m, rfl⟩ : ∃ q : Nat, m = q + 1 + 1 + 1 := ⟨m - 3, by omega⟩
  rcases s82_3 (ze := ze) (v6 := v6) (v7 := v7) hi (m + 1 + 1) T v (-1) (by decide) hv with ⟨z, e⟩ | ⟨T1, v1, p1, p2, p3⟩
  · exact ⟨T, v, -1, EA.rf, hv, e⟩
  · rcases s82_3 (ze := ze) (v6 := v6) (v7 := v7) hi (m + 1) T1 v1 (-1 + 2) (by decide) p2 with ⟨z, e⟩ | ⟨T2, v2, q1, q2, q3⟩
    · exact ⟨T1, v1, -1 + 2, p1, p2, fun k => (p3 k).trans (e k)⟩
    · refine ⟨T2, v2, -1 + 2 + 2, p1.tr q1, q2, fun k => (p3 k).trans ((q3 k).trans ?_)⟩
      rw [l_X12_winsBy_k3_82, if_pos (by decide)]
theorem l68_3 {ze v6 v7 : Int32} : ∀ (m i : Nat) (T : FS) (v : Int32), B01 v → i ≤ 5 → 5 - i < m → ∃ (T' : FS) (v' x' : Int32), EA 66 T T' ∧ B01 v' ∧ ∀ k, l_X12_winsBy_k3_68 ze v6 v7 k m T v (nI i) = k T' v' x' := by
  intro m
  induction m with
  | zero => intro i T v _ _ hm; exact absurd hm (Nat.not_lt_zero _)
  | succ m ih =>
    intro i T v hv hi hm
    by_cases c : i < 5
    · have lt : nI i < 5 := nI_lt (b := 5) c (by decide)
      by_cases z : v = 0
      · refine ⟨T, v, nI i, EA.rf, hv, fun k => ?_⟩
        rw [l_X12_winsBy_k3_68, if_pos lt, if_pos z]
      · obtain ⟨T1, v1, x1, p1, p2, p3⟩ := l82_3 (ze := ze) (v6 := v6) (v7 := v7) c FU (by decide) T v hv
        obtain ⟨T2, v2, x2, q1, q2, q3⟩ := ih (i + 1) T1 v1 p2 (by omega) (by omega)
        refine ⟨T2, v2, x2, p1.tr q1, q2, fun k => ?_⟩
        rw [l_X12_winsBy_k3_68, if_pos lt, if_neg z, p3, nI_1]; exact q3 k
    · obtain rfl : i = 5 := by omega
      refine ⟨T, v, nI 5, EA.rf, hv, fun k => ?_⟩
      rw [l_X12_winsBy_k3_68, if_neg (by decide)]
theorem j50_3 (T : FS) (ze v6 v7 : Int32) : TT 66 T (j_X12_winsBy_k3_50 ze T v6 v7) := by
  unfold j_X12_winsBy_k3_50
  obtain ⟨x, T1, hx, tx, ex⟩ := w2_t T v6 v7 ze
  obtain ⟨T2, v2, x2, q1, q2, q3⟩ := l68_3 (ze := ze) (v6 := v6) (v7 := v7) FU 0 T1 x hx (by omega) (FU_lt (by omega))
  rw [ex, fb_s]
  show TT 66 T (l_X12_winsBy_k3_68 ze v6 v7 _ FU T1 x (nI 0))
  rw [q3, bz_b q2, fb_s]
  exact ⟨v2, T2, q2, tx.tr q1, rfl⟩
theorem wb_3 (T : FS) (za zc zd ze : Int32) (hz : za < 0 ∨ ∃ i : Nat, i < 5 ∧ za = nI i) : TT 66 T (f_X12_winsBy_k3 T za zc zd ze) := by
  unfold f_X12_winsBy_k3
  by_cases a : za = ze
  · rw [if_pos a]; exact TT.of b1
  · rw [if_neg a]
    rcases hz with hz | ⟨i, hi, rfl⟩
    · rw [if_pos hz]; exact j50_3 T ze zc zd
    · rw [if_neg (nI_pos (by omega)), fv_s, ix_nI hi (by decide), fb_s, fv_s]; exact j50_3 T ze _ _
theorem prepC_l : ∀ (m i : Nat) (S : FS), i ≤ 5 → 5 - i < m → ∃ S' : FS, EA 41 S S' ∧ ∀ k, l_X1_prepare_7 k m S (nI i) = k S' (nI 5) := by
  intro m
  induction m with
  | zero => intro i S _ hm; exact absurd hm (Nat.not_lt_zero _)
  | succ m ih =>
    intro i S hi hm
    by_cases c : i < 5
    · obtain ⟨S', r1, r2⟩ := ih (i + 1) (wA S 41 i (fG 20 5 1 S (nI i) 0)) (by omega) (by omega)
      refine ⟨S', EA.w.tr r1, fun k => ?_⟩
      rw [l_X1_prepare_7, if_pos (show nI i < 5 from nI_lt (b := 5) c (by decide)), ix_nI c (by decide), fb_s, fl_s, nI_1]; exact r2 k
    · obtain rfl : i = 5 := by omega
      refine ⟨S, EA.rf, fun k => ?_⟩
      rw [l_X1_prepare_7, if_neg (by decide)]
theorem prepM_l : ∀ (m i : Nat) (T : FS), i ≤ 5 → 5 - i < m → ∃ T' : FS, EA 66 T T' ∧ ∀ k, l_X12_night_47 k m T (nI i) = k T' (nI 5) := by
  intro m
  induction m with
  | zero => intro i T _ hm; exact absurd hm (Nat.not_lt_zero _)
  | succ m ih =>
    intro i T hi hm
    by_cases c : i < 5
    · obtain ⟨T', r1, r2⟩ := ih (i + 1) (wA T 66 i (T.2 55 (1986 + i))) (by omega) (by omega)
      refine ⟨T', EA.w.tr r1, fun k => ?_⟩
      rw [l_X12_night_47, if_pos (show nI i < 5 from nI_lt (b := 5) c (by decide)), show (1986 : Int32) + nI i = nI (1986 + i) from nI_add 1986 i, ix_nI (show 1986 + i < 2071 by omega) (by decide), fb_s, ix_nI c (by decide), fb_s, fl_s, nI_1]; exact r2 k
    · obtain rfl : i = 5 := by omega
      refine ⟨T, EA.rf, fun k => ?_⟩
      rw [l_X12_night_47, if_neg (by decide)]
theorem nig_l {za zc : Int32} {zb : Int32} (hb : zb = 1 ∨ zb = 2 ∨ zb = 3) : ∀ (m i : Nat) (T : FS) (x : Int32), i ≤ 5 → i < m → ∃ (T' : FS) (x' : Int32), EA 66 T T' ∧ ∀ k, l_X12_night_84 za zb zc k m T x (nI i - 1) = k T' x' (-1) := by
  intro m
  induction m with
  | zero => intro i T x _ hm; exact absurd hm (Nat.not_lt_zero _)
  | succ m ih =>
    intro i T x hi hm
    cases i with
    | zero =>
      refine ⟨T, x, EA.rf, fun k => ?_⟩
      rw [l_X12_night_84, if_pos (by decide)]; rfl
    | succ j =>
      have j5 : j < 5 := by omega
      obtain ⟨y, ey⟩ := can_t T 0 za j5
      have st : ∀ k, l_X12_night_84 za zb zc k (m + 1) T x (nI (j + 1) - 1) = _ := fun k => by
        rw [l_X12_night_84, nI_pred, if_neg (nI_pos (show j < 2 ^ 31 by omega)), ey, fb_s, ← Int32.sub_eq_add_neg]
      by_cases y0 : y = 0
      · obtain ⟨T', x', r1, r2⟩ := ih j T x (by omega) (by omega)
        exact ⟨T', x', r1, fun k => by rw [st, if_pos y0]; exact r2 k⟩
      · rcases hb with rfl | rfl | rfl
        · by_cases z : p_X12_winsBy_k1 T (nI j) 0 za zc = 0
          · obtain ⟨T', x', r1, r2⟩ := ih j T x (by omega) (by omega)
            exact ⟨T', x', r1, fun k => by rw [st, if_neg y0, if_pos rfl, if_pos z]; exact r2 k⟩
          · obtain ⟨T', x', r1, r2⟩ := ih j T (nI j) (by omega) (by omega)
            exact ⟨T', x', r1, fun k => by rw [st, if_neg y0, if_pos rfl, if_neg z]; exact r2 k⟩
        · obtain ⟨v, T1, p1, p2, p3⟩ := wb_2 T (nI j) 0 za zc (Or.inr ⟨j, j5, rfl⟩)
          by_cases z : v = 0
          · obtain ⟨T', x', r1, r2⟩ := ih j T1 x (by omega) (by omega)
            exact ⟨T', x', p2.tr r1, fun k => by rw [st, if_neg y0, if_neg (by decide), if_pos rfl, p3, fb_s, if_pos z]; exact r2 k⟩
          · obtain ⟨T', x', r1, r2⟩ := ih j T1 (nI j) (by omega) (by omega)
            exact ⟨T', x', p2.tr r1, fun k => by rw [st, if_neg y0, if_neg (by decide), if_pos rfl, p3, fb_s, if_neg z]; exact r2 k⟩
        · obtain ⟨v, T1, p1, p2, p3⟩ := wb_3 T (nI j) 0 za zc (Or.inr ⟨j, j5, rfl⟩)
          by_cases z : v = 0
          · obtain ⟨T', x', r1, r2⟩ := ih j T1 x (by omega) (by omega)
            exact ⟨T', x', p2.tr r1, fun k => by rw [st, if_neg y0, if_neg (by decide), if_neg (by decide), if_pos rfl, p3, fb_s, if_pos z]; exact r2 k⟩
          · obtain ⟨T', x', r1, r2⟩ := ih j T1 (nI j) (by omega) (by omega)
            exact ⟨T', x', p2.tr r1, fun k => by rw [st, if_neg y0, if_neg (by decide), if_neg (by decide), if_pos rfl, p3, fb_s, if_neg z]; exact r2 k⟩
theorem EA.ce {A B : FS} (h : EA 41 A B) : CE A B := by
  refine ⟨⟨⟨h.2 _ (by decide), h.2 _ (by decide), h.2 _ (by decide), h.2 _ (by decide)⟩, by rw [h.1], by rw [h.1]⟩, fun k hk => by rw [h.1], fun a ha => h.2 a ?_⟩
  intro q; subst q; revert ha; decide
theorem EA.me {A B : FS} (h : EA 66 A B) : ME A B := ⟨⟨⟨h.2 _ (by decide), h.2 _ (by decide), h.2 _ (by decide), h.2 _ (by decide), h.2 _ (by decide)⟩, by rw [h.1], by rw [h.1]⟩, h.2 _ (by decide)⟩
theorem nightC (S0 : FS) (za zb zd : Int32) (hb : zb = 1 ∨ zb = 2 ∨ zb = 3) : ∃ (v : Int32) (S' : FS), CE S0 S' ∧ (if zb = 1 then (if zd = 0 then (fb (f_X1_winsWithin_k1 S0 0 za) (fun r27 =>
       if r27.1 = 0 then (some (0, r27.2)) else (some (1, r27.2)))) else (fb (f_X1_winsByTaking_k1 S0 0 za) (fun r17 =>
       if r17.1 = 0 then (fb (f_X1_winsByWaiting_k1 r17.2 0 za) (fun r20 =>
        if r20.1 = 0 then (f_X11_told r20.2 (-1000002)) else (f_X11_told r20.2 (-1)))) else (some (0, r17.2))))) else if zb = 2 then (if zd = 0 then (fb (f_X1_winsWithin_k2 S0 0 za) (fun r43 =>
       if r43.1 = 0 then (some (0, r43.2)) else (some (1, r43.2)))) else (fb (f_X1_winsByTaking_k2 S0 0 za) (fun r33 =>
       if r33.1 = 0 then (fb (f_X1_winsByWaiting_k2 r33.2 0 za) (fun r36 =>
        if r36.1 = 0 then (f_X11_told r36.2 (-1000002)) else (f_X11_told r36.2 (-1)))) else (some (0, r33.2))))) else if zb = 3 then (if zd = 0 then (fb (f_X1_winsWithin_k3 S0 0 za) (fun r59 =>
       if r59.1 = 0 then (some (0, r59.2)) else (some (1, r59.2)))) else (fb (f_X1_winsByTaking_k3 S0 0 za) (fun r49 =>
       if r49.1 = 0 then (fb (f_X1_winsByWaiting_k3 r49.2 0 za) (fun r52 =>
        if r52.1 = 0 then (f_X11_told r52.2 (-1000002)) else (f_X11_told r52.2 (-1)))) else (some (0, r49.2))))) else none) = some (v, S') := by
  have td : ∀ (S1 : FS) (x : Int32), EA 41 S0 S1 → ∃ (v : Int32) (S' : FS), CE S0 S' ∧ f_X11_told S1 x = some (v, S') := fun S1 x e => by
    obtain ⟨S2, f1, f2⟩ := told_e S1 x
    exact ⟨_, S2, e.ce.tr f2, f1⟩
  rcases hb with rfl | rfl | rfl
  · rw [if_pos rfl]
    by_cases z : zd = 0
    · rw [if_pos z]
      obtain ⟨v, S1, p1, p2, p3⟩ := nW_1 S0 0 za
      rw [p3, fb_s]
      split
      · exact ⟨_, S1, p2.ce, rfl⟩
      · exact ⟨_, S1, p2.ce, rfl⟩
    · rw [if_neg z]
      obtain ⟨v, S1, p1, p2, p3⟩ := nT_1 S0 0 za
      rw [p3, fb_s]
      split
      · obtain ⟨w, S2, q1, q2, q3⟩ := nB_1 S1 0 za
        rw [q3, fb_s]
        split
        · exact td S2 _ (p2.tr q2)
        · exact td S2 _ (p2.tr q2)
      · exact ⟨_, S1, p2.ce, rfl⟩
  · rw [if_neg (show ¬ (2 : Int32) = 1 by decide), if_pos rfl]
    by_cases z : zd = 0
    · rw [if_pos z]
      obtain ⟨v, S1, p1, p2, p3⟩ := nW_2 S0 0 za
      rw [p3, fb_s]
      split
      · exact ⟨_, S1, p2.ce, rfl⟩
      · exact ⟨_, S1, p2.ce, rfl⟩
    · rw [if_neg z]
      obtain ⟨v, S1, p1, p2, p3⟩ := nT_2 S0 0 za
      rw [p3, fb_s]
      split
      · obtain ⟨w, S2, q1, q2, q3⟩ := nB_2 S1 0 za
        rw [q3, fb_s]
        split
        · exact td S2 _ (p2.tr q2)
        · exact td S2 _ (p2.tr q2)
      · exact ⟨_, S1, p2.ce, rfl⟩
  · rw [if_neg (show ¬ (3 : Int32) = 1 by decide), if_neg (show ¬ (3 : Int32) = 2 by decide), if_pos rfl]
    by_cases z : zd = 0
    · rw [if_pos z]
      obtain ⟨v, S1, p1, p2, p3⟩ := nW_3 S0 0 za
      rw [p3, fb_s]
      split
      · exact ⟨_, S1, p2.ce, rfl⟩
      · exact ⟨_, S1, p2.ce, rfl⟩
    · rw [if_neg z]
      obtain ⟨v, S1, p1, p2, p3⟩ := nT_3 S0 0 za
      rw [p3, fb_s]
      split
      · obtain ⟨w, S2, q1, q2, q3⟩ := nB_3 S1 0 za
        rw [q3, fb_s]
        split
        · exact td S2 _ (p2.tr q2)
        · exact td S2 _ (p2.tr q2)
      · exact ⟨_, S1, p2.ce, rfl⟩
theorem nightE (T0 T : FS) (e : EA 66 T0 T) (zd x : Int32) : ∃ (v : Int32) (T' : FS), ME T0 T' ∧ (if zd = 0 then (if (-2) < x then (some (1, T)) else (some (0, T))) else (if (-2) < x then (some (x, T)) else (f_X12_finds T 2))) = some (v, T') := by
  split
  · split
    · exact ⟨_, T, e.me, rfl⟩
    · exact ⟨_, T, e.me, rfl⟩
  · split
    · exact ⟨_, T, e.me, rfl⟩
    · obtain ⟨T2, f1, f2⟩ := finds_2 T
      exact ⟨_, T2, e.me.tr f2, f1⟩
theorem op_night (h : RelR K S (T.2 55)) : OK1 S T (f_X11_night S za zb zc zd) (f_X12_night T za zb zc zd) := by
  unfold f_X11_night f_X12_night
  simp only [fb_id]
  rcases out_c za 1 20 with ⟨a1, a2⟩ | ⟨a1, a2⟩
  · rcases out_c zb 1 3 with ⟨c1, c2⟩ | ⟨c1, c2⟩
    · rcases out_c zc 0 4 with ⟨d1, d2⟩ | ⟨d1, d2⟩
      · rcases out_c zd 0 1 with ⟨e1, e2⟩ | ⟨e1, e2⟩
        · simp only [a1, a2, c1, c2, d1, d2, e1, e2, i10, ↓reduceIte]
          have hb : zb = 1 ∨ zb = 2 ∨ zb = 3 := by
            obtain ⟨k, hk, rfl⟩ := out_n 1 3 rfl rfl (by decide) (by decide) c1
            rcases (show k = 1 ∨ k = 2 ∨ k = 3 by omega) with rfl | rfl | rfl
            · exact Or.inl rfl
            · exact Or.inr (Or.inl rfl)
            · exact Or.inr (Or.inr rfl)
          obtain ⟨S1, p1, p2⟩ := prepC_l FU 0 (wI S 111 zc) (by omega) (FU_lt (by omega))
          have pr : f_X1_prepare S zc = some (0, S1) := by
            unfold f_X1_prepare; rw [fl_s]; exact p2 _
          rw [pr, fb_s]
          obtain ⟨v, S2, q1, q2⟩ := nightC S1 za zb zd hb
          have cS : CE S S2 := (CE.tr (CE.wI (k := 111) (v := zc) (by decide)) p1.ce).tr q1
          rw [q2]
          obtain ⟨T1, t1, t2⟩ := prepM_l FU 0 T (by omega) (FU_lt (by omega))
          rw [show ∀ k, l_X12_night_47 k FU T 0 = k T1 (nI 5) from t2]
          obtain ⟨T2, x, u1, u2⟩ := nig_l (za := za) (zc := zc) hb FU 5 T1 (-2) (by omega) (FU_lt (by omega))
          rw [show ∀ k, l_X12_night_84 za zb zc k FU T1 (-2) 4 = k T2 x (-1) from u2]
          have et := t1.tr u1
          have fin : ∀ y : Option (Int32 × FS), (∃ (v : Int32) (T' : FS), ME T T' ∧ y = some (v, T')) → OK1 S T (some (v, S2)) y := by
            rintro y ⟨w, T', m1, rfl⟩
            exact ⟨v, w, S2, T', rfl, rfl, ⟨K, by rw [m1.2]; exact h.ce cS⟩, cS.1, m1.1⟩
          apply fin
          have pn : ∀ T3 : FS, EA 66 T T3 → ∃ (v : Int32) (T' : FS), ME T T' ∧ (if zd = 0 then (some (1, T3)) else (some ((-1), T3))) = some (v, T') := fun T3 e => by
            split
            · exact ⟨_, T3, e.me, rfl⟩
            · exact ⟨_, T3, e.me, rfl⟩
          by_cases x2 : x = -2
          · rw [if_pos x2]
            rcases hb with rfl | rfl | rfl
            · rw [if_pos rfl]
              split
              · exact nightE T T2 et zd x
              · exact pn T2 et
            · rw [if_neg (by decide), if_pos rfl]
              obtain ⟨w, T3, w1, w2, w3⟩ := wb_2 T2 (-1) 0 za zc (Or.inl (by decide))
              rw [w3, fb_s]
              split
              · exact nightE T T3 (et.tr w2) zd x
              · exact pn T3 (et.tr w2)
            · rw [if_neg (by decide), if_neg (by decide), if_pos rfl]
              obtain ⟨w, T3, w1, w2, w3⟩ := wb_3 T2 (-1) 0 za zc (Or.inl (by decide))
              rw [w3, fb_s]
              split
              · exact nightE T T3 (et.tr w2) zd x
              · exact pn T3 (et.tr w2)
          · rw [if_neg x2]; exact nightE T T2 et zd x
        · simp only [a1, a2, c1, c2, d1, d2, e1, e2, i10, ↓reduceIte]; exact (ok_1 h).one
      · simp only [a1, a2, c1, c2, d1, d2, i10, ↓reduceIte]; exact (ok_1 h).one
    · simp only [a1, a2, c1, c2, i10, ↓reduceIte]; exact (ok_1 h).one
  · simp only [a1, a2, i10, ↓reduceIte]; exact (ok_1 h).one
end NIG
end
section
/-! ===== pure: a plan (both answer) ===== -/
section PLA
variable {K : Nat → Nat} {S T : FS} {za zb zc zd ze : Int32}
def EQP (S S' : FS) : Prop := (∀ k : Nat, k ≠ 112 → k ≠ 113 → k ≠ 114 → S'.1 k = S.1 k) ∧ ∀ a : Nat, a ≠ 43 → a ≠ 44 → a ≠ 45 → S'.2 a = S.2 a
theorem EQP.rf : EQP S S := ⟨fun _ _ _ _ => rfl, fun _ _ _ _ => rfl⟩
theorem EQP.tr {A B C : FS} (h : EQP A B) (g : EQP B C) : EQP A C := ⟨fun k h1 h2 h3 => (g.1 k h1 h2 h3).trans (h.1 k h1 h2 h3), fun a h1 h2 h3 => (g.2 a h1 h2 h3).trans (h.2 a h1 h2 h3)⟩
theorem EQP.wI {k : Nat} {v : Int32} (h : k = 112 ∨ k = 113 ∨ k = 114) : EQP S (wI S k v) := ⟨fun j h1 h2 h3 => wI_n (by omega), fun _ _ _ _ => rfl⟩
theorem EQP.wA {a j : Nat} {v : Int32} (h : a = 43 ∨ a = 44 ∨ a = 45) : EQP S (wA S a j v) := ⟨fun _ _ _ _ => rfl, fun b h1 h2 h3 => wA_n (by omega)⟩
theorem EQP.ce {A B : FS} (h : EQP A B) : CE A B := by
  refine ⟨⟨⟨h.2 _ (by decide) (by decide) (by decide), h.2 _ (by decide) (by decide) (by decide), h.2 _ (by decide) (by decide) (by decide), h.2 _ (by decide) (by decide) (by decide)⟩, h.1 _ (by decide) (by decide) (by decide), h.1 _ (by decide) (by decide) (by decide)⟩, fun k hk => h.1 k ?_ ?_ ?_, fun a ha => h.2 a ?_ ?_ ?_⟩
  all_goals (intro q; subst q; first | (revert hk; decide) | (revert ha; decide))
theorem rb_l {x : Int32} : ∀ (m i : Nat) (y : Int32), i ≤ 6 → 6 - i < m → ∃ v : Int32, l_X5_rentsBut_4 x S (fun a b => some a) m y (nI i) = some v := by
  intro m
  induction m with
  | zero => intro i y _ hm; exact absurd hm (Nat.not_lt_zero _)
  | succ m ih =>
    intro i y hi hm
    rw [l_X5_rentsBut_4]
    by_cases c : i < 6
    · rw [if_pos (show nI i < 6 from nI_lt (b := 6) c (by decide)), nI_1]
      split
      · exact ih (i + 1) _ (by omega) (by omega)
      · rw [fv_s]; exact ih (i + 1) _ (by omega) (by omega)
    · obtain rfl : i = 6 := by omega
      rw [if_neg (by decide)]; exact ⟨y, rfl⟩
theorem bg1_l : ∀ (m i : Nat) (S : FS), i ≤ 6 → 6 - i < m → ∃ S' : FS, EQP S S' ∧ ∀ k, l_X5_begin_35 k m S (nI i) = k S' (nI 6) := by
  intro m
  induction m with
  | zero => intro i S _ hm; exact absurd hm (Nat.not_lt_zero _)
  | succ m ih =>
    intro i S hi hm
    by_cases c : i < 6
    · have lt : nI i < 6 := nI_lt (b := 6) c (by decide)
      obtain ⟨S1, p1, p2⟩ := ih (i + 1) (wI S 112 (S.1 112 ||| 0)) (by omega) (by omega)
      obtain ⟨S2, q1, q2⟩ := ih (i + 1) (wI S 112 (S.1 112 ||| ((1 : Int32) <<< (nI i &&& 31)))) (by omega) (by omega)
      have key : (∀ k, l_X5_begin_35 k (m + 1) S (nI i) = l_X5_begin_35 k m (wI S 112 (S.1 112 ||| 0)) (nI (i + 1))) ∨ ∀ k, l_X5_begin_35 k (m + 1) S (nI i) = l_X5_begin_35 k m (wI S 112 (S.1 112 ||| ((1 : Int32) <<< (nI i &&& 31)))) (nI (i + 1)) := by
        have st : ∀ k, l_X5_begin_35 k (m + 1) S (nI i) = if (fHas 2 S (nI i)) = 0 then l_X5_begin_35 k m (wI S 112 (S.1 112 ||| 0)) (nI (i + 1)) else (if (fG 2 10 3 S (nI i) 1) = (-1) then (if (fG 2 10 3 S (nI i) 2) = 0 then l_X5_begin_35 k m (wI S 112 (S.1 112 ||| ((1 : Int32) <<< (nI i &&& 31)))) (nI (i + 1)) else l_X5_begin_35 k m (wI S 112 (S.1 112 ||| 0)) (nI (i + 1))) else l_X5_begin_35 k m (wI S 112 (S.1 112 ||| 0)) (nI (i + 1))) := fun k => by
          rw [l_X5_begin_35, if_pos lt]; simp only [fl_s, nI_1]
        simp only [st]
        repeat' split
        all_goals first | exact Or.inl (fun _ => rfl) | exact Or.inr (fun _ => rfl)
      rcases key with e | e
      · exact ⟨S1, (EQP.wI (by omega)).tr p1, fun k => (e k).trans (p2 k)⟩
      · exact ⟨S2, (EQP.wI (by omega)).tr q1, fun k => (e k).trans (q2 k)⟩
    · obtain rfl : i = 6 := by omega
      refine ⟨S, EQP.rf, fun k => ?_⟩
      rw [l_X5_begin_35, if_neg (by decide)]
theorem bg2_l : ∀ (m i : Nat) (S : FS), i ≤ 64 → 64 - i < m → ∃ S' : FS, EQP S S' ∧ ∀ k, l_X5_begin_120 k m S (nI i) = k S' (nI 64) := by
  intro m
  induction m with
  | zero => intro i S _ hm; exact absurd hm (Nat.not_lt_zero _)
  | succ m ih =>
    intro i S hi hm
    by_cases c : i < 64
    · obtain ⟨v, ev⟩ := rb_l (S := S) (x := nI i) FU 0 0 (by omega) (FU_lt (by omega))
      have ev' : q_X5_rentsBut S (nI i) = some v := ev
      obtain ⟨S', r1, r2⟩ := ih (i + 1) (wA S 45 i v) (by omega) (by omega)
      refine ⟨S', (EQP.wA (by omega)).tr r1, fun k => ?_⟩
      rw [l_X5_begin_120, if_pos (show nI i < 64 from nI_lt (b := 64) c (by decide)), ev', fb_s, ix_nI c (by decide), fb_s, fl_s, nI_1]; exact r2 k
    · obtain rfl : i = 64 := by omega
      refine ⟨S, EQP.rf, fun k => ?_⟩
      rw [l_X5_begin_120, if_neg (by decide)]
theorem bg_t (S : FS) : ∃ S' : FS, EQP S S' ∧ f_X5_begin S = some (0, S') := by
  unfold f_X5_begin
  simp only [fl_s]
  have e0 : EQP S (fFill 43 64 S (-1)) := ⟨fun _ _ _ _ => rfl, fun a h1 _ _ => ua_ne h1⟩
  have e1 : EQP S (wI (wA (wA (fFill 43 64 S (-1)) 43 0 ((fFill 43 64 S (-1)).1 103)) 44 0 0) 112 0) := ((e0.tr (EQP.wA (by omega))).tr (EQP.wA (by omega))).tr (EQP.wI (by omega))
  obtain ⟨S1, p1, p2⟩ := bg1_l FU 0 (wI (wA (wA (fFill 43 64 S (-1)) 43 0 ((fFill 43 64 S (-1)).1 103)) 44 0 0) 112 0) (by omega) (FU_lt (by omega))
  obtain ⟨S2, q1, q2⟩ := bg2_l FU 0 S1 (by omega) (FU_lt (by omega))
  refine ⟨S2, (e1.tr p1).tr q1, ?_⟩
  rw [show ∀ k, l_X5_begin_35 k FU (wI (wA (wA (fFill 43 64 S (-1)) 43 0 ((fFill 43 64 S (-1)).1 103)) 44 0 0) 112 0) 0 = k S1 (nI 6) from p2]
  exact q2 _
theorem bef_t (S : FS) (x y : Int32) : ∃ j : Nat, j < 64 ∧ p_X5_before S x y = nI j := by
  unfold p_X5_before
  by_cases z : y = 0
  · rw [if_pos z]; exact pk_andE x 6 (by decide)
  · rw [if_neg z, fv_s]; exact pk_andE _ 6 (by decide)
theorem lb_t (S : FS) (x y z : Int32) : ∃ v : Int32, q_X5_leftBy S x y z = some v := by
  unfold q_X5_leftBy
  obtain ⟨j, hj, ej⟩ := bef_t S x y
  rw [fv_s, ej, ix_nI hj (by decide)]
  simp only [fb_s, fv_s]
  repeat' split
  all_goals exact ⟨_, rfl⟩
theorem pq1_l {x y : Int32} : ∀ (m i : Nat) (a b : Int32), i ≤ 7 → 7 - i < m → ∃ a' b' : Int32, ∀ k, l_X5_passQuarter_15 x y k m S a b (nI i) = k S a' b' (nI 7) := by
  intro m
  induction m with
  | zero => intro i a b _ hm; exact absurd hm (Nat.not_lt_zero _)
  | succ m ih =>
    intro i a b hi hm
    by_cases c : i < 7
    · obtain ⟨v, ev⟩ := lb_t S y (nI i) x
      obtain ⟨j, hj, ej⟩ := bef_t S y (nI i)
      have key : ∃ a' b' : Int32, ∀ k, l_X5_passQuarter_15 x y k (m + 1) S a b (nI i) = l_X5_passQuarter_15 x y k m S a' b' (nI (i + 1)) := by
        have st : ∀ k, l_X5_passQuarter_15 x y k (m + 1) S a b (nI i) = _ := fun k => by
          rw [l_X5_passQuarter_15, if_pos (show nI i < 7 from nI_lt (b := 7) c (by decide)), ev, fb_s, ej, ix_nI hj (by decide), fb_s, fv_s, nI_1]
        simp only [st]
        repeat' split
        all_goals exact ⟨_, _, fun _ => rfl⟩
      obtain ⟨a1, b1, e⟩ := key
      obtain ⟨a2, b2, r⟩ := ih (i + 1) a1 b1 (by omega) (by omega)
      exact ⟨a2, b2, fun k => (e k).trans (r k)⟩
    · obtain rfl : i = 7 := by omega
      refine ⟨a, b, fun k => ?_⟩
      rw [l_X5_passQuarter_15, if_neg (by decide)]
theorem pq2_l {x : Int32} : ∀ (m i : Nat) (S : FS), i ≤ 64 → i < m → ∃ S' : FS, EQP S S' ∧ ∀ k, l_X5_passQuarter_3 x k m S (nI i - 1) = k S' (-1) := by
  intro m
  induction m with
  | zero => intro i S _ hm; exact absurd hm (Nat.not_lt_zero _)
  | succ m ih =>
    intro i S hi hm
    cases i with
    | zero =>
      refine ⟨S, EQP.rf, fun k => ?_⟩
      rw [l_X5_passQuarter_3, if_pos (by decide)]; rfl
    | succ j =>
      obtain ⟨a, b, r⟩ := pq1_l (S := S) (x := x) (y := nI j) FU 0 (-1) 0 (by omega) (FU_lt (by omega))
      obtain ⟨S', p1, p2⟩ := ih j (wA (wA S 43 j a) 44 j b) (by omega) (by omega)
      refine ⟨S', ((EQP.wA (by omega)).tr (EQP.wA (by omega))).tr p1, fun k => ?_⟩
      rw [l_X5_passQuarter_3, nI_pred, if_neg (nI_pos (by omega)), show ∀ k, l_X5_passQuarter_15 x (nI j) k FU S (-1) 0 0 = k S a b (nI 7) from r, ix_nI (show j < 64 by omega) (by decide), fb_s, fl_s, fl_s, ← Int32.sub_eq_add_neg]; exact p2 k
theorem pq_t (S : FS) (x : Int32) : ∃ S' : FS, EQP S S' ∧ f_X5_passQuarter S x = some (0, S') := by
  obtain ⟨S', p1, p2⟩ := pq2_l (x := x) FU 64 S (by omega) (FU_lt (by omega))
  exact ⟨S', p1, p2 _⟩
theorem fbst_l : ∀ (m i : Nat) (S : FS) (v : Int32), B01 v → i ≤ 64 → 64 - i < m → ∃ (S' : FS) (v' : Int32), EQP S S' ∧ B01 v' ∧ ∀ k, l_X5_findBest_4 k m S v (nI i) = k S' v' (nI 64) := by
  intro m
  induction m with
  | zero => intro i S v _ _ hm; exact absurd hm (Nat.not_lt_zero _)
  | succ m ih =>
    intro i S v hv hi hm
    by_cases c : i < 64
    · obtain ⟨S1, v1, p1, p2, p3⟩ := ih (i + 1) S v hv (by omega) (by omega)
      obtain ⟨S2, v2, q1, q2, q3⟩ := ih (i + 1) (wI (wI S 113 (S.2 43 i + 8 * S.2 45 i)) 114 (S.2 44 i)) 1 b1 (by omega) (by omega)
      have key : (∀ k, l_X5_findBest_4 k (m + 1) S v (nI i) = l_X5_findBest_4 k m S v (nI (i + 1))) ∨ ∀ k, l_X5_findBest_4 k (m + 1) S v (nI i) = l_X5_findBest_4 k m (wI (wI S 113 (S.2 43 i + 8 * S.2 45 i)) 114 (S.2 44 i)) 1 (nI (i + 1)) := by
        have st : ∀ k, l_X5_findBest_4 k (m + 1) S v (nI i) = _ := fun k => by
          rw [l_X5_findBest_4, if_pos (show nI i < 64 from nI_lt (b := 64) c (by decide)), ix_nI c (by decide), fb_s, fv_s]
        simp only [st, fl_s, nI_1, wI_2]
        repeat' split
        all_goals first | exact Or.inl (fun _ => rfl) | exact Or.inr (fun _ => rfl)
      rcases key with e | e
      · exact ⟨S1, v1, p1, p2, fun k => (e k).trans (p3 k)⟩
      · exact ⟨S2, v2, ((EQP.wI (by omega)).tr (EQP.wI (by omega))).tr q1, q2, fun k => (e k).trans (q3 k)⟩
    · obtain rfl : i = 64 := by omega
      refine ⟨S, v, EQP.rf, hv, fun k => ?_⟩
      rw [l_X5_findBest_4, if_neg (by decide)]
theorem fbst_t (S : FS) : ∃ (v : Int32) (S' : FS), EQP S S' ∧ f_X5_findBest S = some (v, S') := by
  obtain ⟨S', v, p1, p2, p3⟩ := fbst_l FU 0 S 0 b0 (by omega) (FU_lt (by omega))
  refine ⟨v, S', p1, ?_⟩
  show l_X5_findBest_4 _ FU S 0 (nI 0) = _
  rw [p3, bz_b p2, fb_s]
theorem pin_l {a : Nat} (ha : a < 2 ^ 30) : ∀ (m i : Nat) (x : Int32), i < 2 ^ 30 → i < m → ∃ v : Int32, l_X5_pledgedIn_10 (nI a) (fun x6_3 x6_4 => some ((x6_3 - x6_3 / 7 * 7) - 1)) m x (nI i) = some v := by
  intro m
  induction m with
  | zero => intro i x _ hm; exact absurd hm (Nat.not_lt_zero _)
  | succ m ih =>
    intro i x hi hm
    rw [l_X5_pledgedIn_10]
    by_cases c : a < i
    · obtain ⟨j, rfl⟩ : ∃ j : Nat, i = j + 1 := ⟨i - 1, by omega⟩
      rw [if_pos (nI_lt c (by omega)), fv_s, pk_m1]; exact ih j _ (by omega) (by omega)
    · rw [if_neg (nI_nlt (by omega) (by omega))]; exact ⟨_, rfl⟩
theorem pl98_l {x : Int32} {sz : Nat} (hz : sz ≤ 8) : ∀ (m i : Nat) (S : FS), i ≤ sz → sz - i < m → ∃ S' : FS, EQP S S' ∧ ∀ k, l_X11_plan_98 x (nI sz) k m S (nI i) = k S' (nI sz) := by
  intro m
  induction m with
  | zero => intro i S _ hm; exact absurd hm (Nat.not_lt_zero _)
  | succ m ih =>
    intro i S hi hm
    by_cases c : i < sz
    · obtain ⟨S1, p1, p2⟩ := pq_t S (p_X8_numberAt S x (nI i))
      obtain ⟨S', r1, r2⟩ := ih (i + 1) S1 (by omega) (by omega)
      refine ⟨S', p1.tr r1, fun k => ?_⟩
      rw [l_X11_plan_98, if_pos (nI_lt c (by omega)), p2, fb_s, nI_1]; exact r2 k
    · obtain rfl : i = sz := by omega
      refine ⟨S, EQP.rf, fun k => ?_⟩
      rw [l_X11_plan_98, if_neg (nI_nlt (Nat.le_refl _) (by omega))]
theorem aaw_l {x a b : Int32} {sz : Nat} (hz : sz ≤ 24) : ∀ (m i : Nat), i ≤ sz → sz - i < m → ∃ v : Int32, l_X8_areAllWithin_10 x a b S (nI sz) (fun _ => some 1) m (nI i) = some v := by
  intro m
  induction m with
  | zero => intro i _ hm; exact absurd hm (Nat.not_lt_zero _)
  | succ m ih =>
    intro i hi hm
    rw [l_X8_areAllWithin_10]
    by_cases c : i < sz
    · rw [if_pos (nI_lt c (by omega)), nI_1]
      split
      · exact ih (i + 1) (by omega) (by omega)
      · exact ⟨0, rfl⟩
    · obtain rfl : i = sz := by omega
      rw [if_neg (nI_nlt (Nat.le_refl _) (by omega))]; exact ⟨1, rfl⟩
theorem planC (hx : RX S T) : ∃ (v : Int32) (S' : FS), CE S S' ∧ f_X11_plan S za zb = some (v, S') := by
  have td : ∀ (S1 : FS) (x : Int32), CE S S1 → ∃ (v : Int32) (S' : FS), CE S S' ∧ f_X11_told S1 x = some (v, S') := fun S1 x e => by
    obtain ⟨S2, f1, f2⟩ := told_e S1 x
    exact ⟨_, S2, e.tr f2, f1⟩
  unfold f_X11_plan q_X8_isMissing q_X8_areAllWithin
  simp only [fb_id]
  rcases sh_c S T za with ⟨a1, a2⟩ | ⟨s, hs, rfl, a1, a2, a3, a4, a5⟩
  · rw [if_pos a1]; exact td S _ CE.rf
  · obtain ⟨⟨y1, y2⟩, ⟨sz, y3, y4⟩, y5⟩ := hx.1 s hs
    rw [y2, y4] at a5
    rw [if_neg (show ¬ p_X8_has S (nI s) = 0 by rw [a1]; decide), a4, fb_s]
    by_cases c0 : S.2 49 s = 0
    · rw [if_pos c0, fb_s, if_neg (by decide)]; exact td S _ CE.rf
    · rw [if_neg c0, fb_s, if_pos rfl, a5, fb_s]
      by_cases c1 : fOut (nI sz) 1 8 = 0
      · obtain ⟨k, hk, ek⟩ := out_n 1 8 rfl rfl (by decide) (by decide) c1
        have s8 : sz = k := nI_inj (by omega) (by omega) ek
        obtain ⟨w, ew⟩ := aaw_l (S := S) (x := nI s) (a := 0) (b := 9999) (sz := sz) (by omega) FU 0 (by omega) (FU_lt (by omega))
        rw [if_pos c1, fb_s, show l_X8_areAllWithin_10 (nI s) 0 9999 S (nI sz) (fun x6_5 => some 1) FU 0 = some w from ew, fb_s]
        split
        · exact td S _ CE.rf
        · by_cases c2 : fOut zb (-1) (nI sz - 1) = 0
          · rw [if_pos c2]
            obtain ⟨S1, p1, p2⟩ := bg_t S
            rw [p2, fb_s]
            obtain ⟨S2, q1, q2⟩ := pl98_l (x := nI s) (sz := sz) (by omega) FU 0 S1 (by omega) (FU_lt (by omega))
            show ∃ (v : Int32) (S' : FS), CE S S' ∧ l_X11_plan_98 (nI s) (nI sz) _ FU S1 (nI 0) = some (v, S')
            rw [q2]
            obtain ⟨v, S3, r1, r2⟩ := fbst_t S2
            have e3 := ((p1.tr q1).tr r1).ce
            rw [r2, fb_s]
            split
            · exact td S3 _ e3
            · by_cases z : zb < 0
              · rw [if_pos z]; exact ⟨_, S3, e3, rfl⟩
              · rw [if_neg z]
                obtain ⟨a, ha, rfl⟩ := nI_of z
                have a8 : a < 2 ^ 30 := by
                  have q : ¬ nI sz - 1 < nI a := fun z2 => by unfold fOut at c2; rw [if_pos (Or.inr z2)] at c2; exact absurd c2 (by decide)
                  obtain ⟨n, rfl⟩ : ∃ n : Nat, sz = n + 1 := ⟨sz - 1, by omega⟩
                  rw [nI_pred] at q
                  apply Classical.byContradiction
                  intro q2; exact q (nI_lt (by omega) (by omega))
                obtain ⟨n, rfl⟩ : ∃ n : Nat, sz = n + 1 := ⟨sz - 1, by omega⟩
                obtain ⟨x, ex⟩ := pin_l a8 FU n (S3.1 114) (by omega) (FU_lt (by omega))
                have pi : q_X5_pledgedIn S3 (nI a) (nI (n + 1)) = some x := by
                  unfold q_X5_pledgedIn; rw [fv_s, fv_s, nI_pred]; exact ex
                show ∃ (v : Int32) (S' : FS), CE S S' ∧ fb (q_X5_pledgedIn S3 (nI a) (nI (n + 1))) _ = some (v, S')
                rw [pi, fb_s]; exact ⟨_, S3, e3, rfl⟩
          · rw [if_neg c2]; exact td S _ CE.rf
      · rw [if_neg c1]; exact td S _ CE.rf
/-! the model's plans -/
def EP (T T' : FS) : Prop := (∀ k : Nat, k ≠ 19 → k ≠ 20 → T'.1 k = T.1 k) ∧ ∀ a : Nat, a ≠ 67 → a ≠ 68 → T'.2 a = T.2 a
theorem EP.rf : EP T T := ⟨fun _ _ _ => rfl, fun _ _ _ => rfl⟩
theorem EP.tr {A B C : FS} (h : EP A B) (g : EP B C) : EP A C := ⟨fun k h1 h2 => (g.1 k h1 h2).trans (h.1 k h1 h2), fun a h1 h2 => (g.2 a h1 h2).trans (h.2 a h1 h2)⟩
theorem EP.wI {k : Nat} {v : Int32} (h : k = 19 ∨ k = 20) : EP T (wI T k v) := ⟨fun j h1 h2 => wI_n (by omega), fun _ _ _ => rfl⟩
theorem EP.wA {a j : Nat} {v : Int32} (h : a = 67 ∨ a = 68) : EP T (wA T a j v) := ⟨fun _ _ _ => rfl, fun b h1 h2 => wA_n (by omega)⟩
theorem p19_8 {x : Int32} : ∀ (m i : Nat) (y : Int32), i ≤ 6 → 6 - i < m → ∃ v : Int32, ∀ k, l_X12_plans_k8_19 x k m T y (nI i) = k T v (nI 6) := by
  intro m
  induction m with
  | zero => intro i y _ hm; exact absurd hm (Nat.not_lt_zero _)
  | succ m ih =>
    intro i y hi hm
    by_cases c : i < 6
    · have lt : nI i < 6 := nI_lt (b := 6) c (by decide)
      by_cases z : ((x >>> (nI i &&& 31)) &&& 1) = 1
      · obtain ⟨v, r⟩ := ih (i + 1) (y + 8 * T.2 55 (3 * i + 20)) (by omega) (by omega)
        refine ⟨v, fun k => ?_⟩
        rw [l_X12_plans_k8_19, if_pos lt, if_pos z, ixT_0 (by omega), fb_s, fv_s, nI_1]; exact r k
      · obtain ⟨v, r⟩ := ih (i + 1) (y + 0) (by omega) (by omega)
        refine ⟨v, fun k => ?_⟩
        rw [l_X12_plans_k8_19, if_pos lt, if_neg z, fv_s, nI_1]; exact r k
    · obtain rfl : i = 6 := by omega
      refine ⟨y, fun k => ?_⟩
      rw [l_X12_plans_k8_19, if_neg (by decide)]
theorem p97_8 : ∀ (m i : Nat) (T : FS), i ≤ 8 → 8 - i < m → ∃ T' : FS, EP T T' ∧ ∀ k, l_X12_plans_k8_97 k m T (nI i) = k T' (nI 8) := by
  intro m
  induction m with
  | zero => intro i T _ hm; exact absurd hm (Nat.not_lt_zero _)
  | succ m ih =>
    intro i T hi hm
    by_cases c : i < 8
    · obtain ⟨T', r1, r2⟩ := ih (i + 1) (wA T 68 i (T.2 67 i)) (by omega) (by omega)
      refine ⟨T', (EP.wA (by omega)).tr r1, fun k => ?_⟩
      rw [l_X12_plans_k8_97, if_pos (show nI i < 8 from nI_lt (b := 8) c (by decide)), ix_nI (show i < 8 by omega) (by decide), fb_s, fl_s, nI_1]; exact r2 k
    · obtain rfl : i = 8 := by omega
      refine ⟨T, EP.rf, fun k => ?_⟩
      rw [l_X12_plans_k8_97, if_neg (by decide)]
theorem p83_8 (T : FS) (x : Int32) : ∃ T' : FS, EP T T' ∧ j_X12_plans_k8_83 x T = some (0, T') := by
  unfold j_X12_plans_k8_83
  simp only [fl_s]
  obtain ⟨T', r1, r2⟩ := p97_8 FU 0 (wI (wI T 20 1) 19 x) (by omega) (FU_lt (by omega))
  exact ⟨T', ((EP.wI (by omega)).tr (EP.wI (by omega))).tr r1, r2 _⟩
theorem pl_8 {s sz : Nat} (hs : s < 4) (hz : sz ≤ 8) (hq : 8 ≤ sz) (T : FS) (x y : Int32) (e8 : T.1 18 = nI s) (ez : T.2 71 s = nI sz) : ∃ T' : FS, EP T T' ∧ f_X12_plans_k8 T x y = some (0, T') := by
  unfold f_X12_plans_k8
  rw [e8, ix_nI hs (by decide), fb_s, ez]
  by_cases c : sz = 8
  · rw [if_pos (show (8 : Int32) = nI sz by rw [c]; rfl)]
    obtain ⟨v, r⟩ := p19_8 (T := T) (x := x) FU 0 y (by omega) (FU_lt (by omega))
    rw [show ∀ k, l_X12_plans_k8_19 x k FU T y 0 = k T v (nI 6) from r]
    split
    · exact p83_8 T v
    · split
      · exact p83_8 T v
      · exact ⟨T, EP.rf, rfl⟩
  · rw [if_neg (show ¬ (8 : Int32) = nI sz from fun q => c (nI_inj (a := sz) (b := 8) (by omega) (by decide) q.symm))]
    omega
theorem p19_7 {x : Int32} : ∀ (m i : Nat) (y : Int32), i ≤ 6 → 6 - i < m → ∃ v : Int32, ∀ k, l_X12_plans_k7_19 x k m T y (nI i) = k T v (nI 6) := by
  intro m
  induction m with
  | zero => intro i y _ hm; exact absurd hm (Nat.not_lt_zero _)
  | succ m ih =>
    intro i y hi hm
    by_cases c : i < 6
    · have lt : nI i < 6 := nI_lt (b := 6) c (by decide)
      by_cases z : ((x >>> (nI i &&& 31)) &&& 1) = 1
      · obtain ⟨v, r⟩ := ih (i + 1) (y + 8 * T.2 55 (3 * i + 20)) (by omega) (by omega)
        refine ⟨v, fun k => ?_⟩
        rw [l_X12_plans_k7_19, if_pos lt, if_pos z, ixT_0 (by omega), fb_s, fv_s, nI_1]; exact r k
      · obtain ⟨v, r⟩ := ih (i + 1) (y + 0) (by omega) (by omega)
        refine ⟨v, fun k => ?_⟩
        rw [l_X12_plans_k7_19, if_pos lt, if_neg z, fv_s, nI_1]; exact r k
    · obtain rfl : i = 6 := by omega
      refine ⟨y, fun k => ?_⟩
      rw [l_X12_plans_k7_19, if_neg (by decide)]
theorem p97_7 : ∀ (m i : Nat) (T : FS), i ≤ 7 → 7 - i < m → ∃ T' : FS, EP T T' ∧ ∀ k, l_X12_plans_k7_97 k m T (nI i) = k T' (nI 7) := by
  intro m
  induction m with
  | zero => intro i T _ hm; exact absurd hm (Nat.not_lt_zero _)
  | succ m ih =>
    intro i T hi hm
    by_cases c : i < 7
    · obtain ⟨T', r1, r2⟩ := ih (i + 1) (wA T 68 i (T.2 67 i)) (by omega) (by omega)
      refine ⟨T', (EP.wA (by omega)).tr r1, fun k => ?_⟩
      rw [l_X12_plans_k7_97, if_pos (show nI i < 7 from nI_lt (b := 7) c (by decide)), ix_nI (show i < 8 by omega) (by decide), fb_s, fl_s, nI_1]; exact r2 k
    · obtain rfl : i = 7 := by omega
      refine ⟨T, EP.rf, fun k => ?_⟩
      rw [l_X12_plans_k7_97, if_neg (by decide)]
theorem p83_7 (T : FS) (x : Int32) : ∃ T' : FS, EP T T' ∧ j_X12_plans_k7_83 x T = some (0, T') := by
  unfold j_X12_plans_k7_83
  simp only [fl_s]
  obtain ⟨T', r1, r2⟩ := p97_7 FU 0 (wI (wI T 20 1) 19 x) (by omega) (FU_lt (by omega))
  exact ⟨T', ((EP.wI (by omega)).tr (EP.wI (by omega))).tr r1, r2 _⟩
theorem p130_7 {x : Int32} : ∀ (m i : Nat) (y : Int32), i ≤ 6 → 6 - i < m → ∃ v : Int32, ∀ k, l_X12_plans_k7_130 x k m T y (nI i) = k T v (nI 6) := by
  intro m
  induction m with
  | zero => intro i y _ hm; exact absurd hm (Nat.not_lt_zero _)
  | succ m ih =>
    intro i y hi hm
    by_cases c : i < 6
    · have lt : nI i < 6 := nI_lt (b := 6) c (by decide)
      by_cases z : ((x >>> (nI i &&& 31)) &&& 1) = 1
      · obtain ⟨v, r⟩ := ih (i + 1) (y + T.2 55 (3 * i + 20)) (by omega) (by omega)
        refine ⟨v, fun k => ?_⟩
        rw [l_X12_plans_k7_130, if_pos lt, if_pos z, ixT_0 (by omega), fb_s, fv_s, nI_1]; exact r k
      · obtain ⟨v, r⟩ := ih (i + 1) (y + 0) (by omega) (by omega)
        refine ⟨v, fun k => ?_⟩
        rw [l_X12_plans_k7_130, if_pos lt, if_neg z, fv_s, nI_1]; exact r k
    · obtain rfl : i = 6 := by omega
      refine ⟨y, fun k => ?_⟩
      rw [l_X12_plans_k7_130, if_neg (by decide)]
theorem p177_7 {x y : Int32} {s sz : Nat} (hs : s < 4) (hz : sz ≤ 8) (hq : 8 ≤ sz) : ∀ (m i : Nat) (T : FS), i ≤ 7 → 7 - i < m → T.1 18 = nI s → T.2 71 s = nI sz → ∃ T' : FS, EP T T' ∧ ∀ k, l_X12_plans_k7_177 x y k m T (nI i - 1) = k T' (nI 6) := by
  intro m
  induction m with
  | zero => intro i T _ hm; exact absurd hm (Nat.not_lt_zero _)
  | succ m ih =>
    intro i T hi hm e8 ez
    have jx : ix 96 ((24 : Int32) * T.1 18 + 7) = some (24 * s + 7) := by rw [e8]; exact ix96 (i := 7) hs (by decide)
    have nx : i < 7 → ∀ (T1 : FS), EP T T1 → ∃ T' : FS, EP T T' ∧ ∀ k, l_X12_plans_k7_177 x y k m T1 (nI (i + 1) - 1) = k T' (nI 6) := fun hi7 T1 e => by
      by_cases c : i + 1 ≤ 7
      · obtain ⟨T', r1, r2⟩ := ih (i + 1) T1 c (by omega) (by rw [e.1 18 (by decide) (by decide)]; exact e8) (by rw [e.2 71 (by decide) (by decide)]; exact ez)
        exact ⟨T', e.tr r1, r2⟩
      · exact absurd hi7 (by omega)
    cases i with
    | zero =>
      have st : ∀ k, l_X12_plans_k7_177 x y k (m + 1) T (nI 0 - 1) = _ := fun k => by
        rw [l_X12_plans_k7_177, if_pos (by decide), if_pos (by decide), jx, fb_s, fv_s, show (nI 0 - 1 + 1 : Int32) = nI (0 + 1) - 1 from by decide]
      by_cases z : y - T.2 72 (24 * s + 7) + 0 < 0
      · obtain ⟨T', r1, r2⟩ := nx (by omega) T EP.rf
        exact ⟨T', r1, fun k => by rw [st, if_pos z]; exact r2 k⟩
      · obtain ⟨T1, p1, p2⟩ := pl_8 hs hz hq (wA T 67 7 (nI 0 - 1)) x (y - T.2 72 (24 * s + 7) + 0) e8 ez
        obtain ⟨T', r1, r2⟩ := nx (by omega) T1 ((EP.wA (by omega)).tr p1)
        exact ⟨T', r1, fun k => by rw [st, if_neg z, fl_s, p2, fb_s]; exact r2 k⟩
    | succ j =>
      by_cases c : j < 6
      · have lt : nI j < 6 := nI_lt (b := 6) c (by decide)
        have st : ∀ k, l_X12_plans_k7_177 x y k (m + 1) T (nI (j + 1) - 1) = _ := fun k => by
          rw [l_X12_plans_k7_177, nI_pred, if_pos lt, if_neg (nI_pos (show j < 2 ^ 31 by omega)), jx, ixT_0 (show j < 10 by omega), fb_s, fb_s, fv_s, nI_1, ← nI_pred (j + 1)]
        by_cases b : ((x >>> (nI j &&& 31)) &&& 1) = 0
        · obtain ⟨T', r1, r2⟩ := nx (by omega) T EP.rf
          exact ⟨T', r1, fun k => by rw [st, if_pos b]; exact r2 k⟩
        · by_cases z : y - T.2 72 (24 * s + 7) + 4 * T.2 55 (3 * j + 20) < 0
          · obtain ⟨T', r1, r2⟩ := nx (by omega) T EP.rf
            exact ⟨T', r1, fun k => by rw [st, if_neg b, if_pos z]; exact r2 k⟩
          · obtain ⟨T1, p1, p2⟩ := pl_8 hs hz hq (wA T 67 7 (nI j)) (x &&& (((1 : Int32) <<< (nI j &&& 31)) ^^^ (-1))) (y - T.2 72 (24 * s + 7) + 4 * T.2 55 (3 * j + 20)) e8 ez
            obtain ⟨T', r1, r2⟩ := nx (by omega) T1 ((EP.wA (by omega)).tr p1)
            exact ⟨T', r1, fun k => by rw [st, if_neg b, if_neg z, fl_s, p2, fb_s]; exact r2 k⟩
      · obtain rfl : j = 6 := by omega
        refine ⟨T, EP.rf, fun k => ?_⟩
        rw [l_X12_plans_k7_177, nI_pred, if_neg (by decide)]
theorem pl_7 {s sz : Nat} (hs : s < 4) (hz : sz ≤ 8) (hq : 7 ≤ sz) (T : FS) (x y : Int32) (e8 : T.1 18 = nI s) (ez : T.2 71 s = nI sz) : ∃ T' : FS, EP T T' ∧ f_X12_plans_k7 T x y = some (0, T') := by
  unfold f_X12_plans_k7
  rw [e8, ix_nI hs (by decide), fb_s, ez]
  by_cases c : sz = 7
  · rw [if_pos (show (7 : Int32) = nI sz by rw [c]; rfl)]
    obtain ⟨v, r⟩ := p19_7 (T := T) (x := x) FU 0 y (by omega) (FU_lt (by omega))
    rw [show ∀ k, l_X12_plans_k7_19 x k FU T y 0 = k T v (nI 6) from r]
    split
    · exact p83_7 T v
    · split
      · exact p83_7 T v
      · exact ⟨T, EP.rf, rfl⟩
  · rw [if_neg (show ¬ (7 : Int32) = nI sz from fun q => c (nI_inj (a := sz) (b := 7) (by omega) (by decide) q.symm))]
    obtain ⟨v, r⟩ := p130_7 (T := T) (x := x) FU 0 y (by omega) (FU_lt (by omega))
    obtain ⟨T', p1, p2⟩ := p177_7 (x := x) (y := v) hs hz (show 8 ≤ sz by omega) FU 0 T (by omega) (FU_lt (by omega)) e8 ez
    refine ⟨T', p1, ?_⟩
    rw [show ∀ k, l_X12_plans_k7_130 x k FU T y 0 = k T v (nI 6) from r]
    exact p2 _
theorem p19_6 {x : Int32} : ∀ (m i : Nat) (y : Int32), i ≤ 6 → 6 - i < m → ∃ v : Int32, ∀ k, l_X12_plans_k6_19 x k m T y (nI i) = k T v (nI 6) := by
  intro m
  induction m with
  | zero => intro i y _ hm; exact absurd hm (Nat.not_lt_zero _)
  | succ m ih =>
    intro i y hi hm
    by_cases c : i < 6
    · have lt : nI i < 6 := nI_lt (b := 6) c (by decide)
      by_cases z : ((x >>> (nI i &&& 31)) &&& 1) = 1
      · obtain ⟨v, r⟩ := ih (i + 1) (y + 8 * T.2 55 (3 * i + 20)) (by omega) (by omega)
        refine ⟨v, fun k => ?_⟩
        rw [l_X12_plans_k6_19, if_pos lt, if_pos z, ixT_0 (by omega), fb_s, fv_s, nI_1]; exact r k
      · obtain ⟨v, r⟩ := ih (i + 1) (y + 0) (by omega) (by omega)
        refine ⟨v, fun k => ?_⟩
        rw [l_X12_plans_k6_19, if_pos lt, if_neg z, fv_s, nI_1]; exact r k
    · obtain rfl : i = 6 := by omega
      refine ⟨y, fun k => ?_⟩
      rw [l_X12_plans_k6_19, if_neg (by decide)]
theorem p97_6 : ∀ (m i : Nat) (T : FS), i ≤ 6 → 6 - i < m → ∃ T' : FS, EP T T' ∧ ∀ k, l_X12_plans_k6_97 k m T (nI i) = k T' (nI 6) := by
  intro m
  induction m with
  | zero => intro i T _ hm; exact absurd hm (Nat.not_lt_zero _)
  | succ m ih =>
    intro i T hi hm
    by_cases c : i < 6
    · obtain ⟨T', r1, r2⟩ := ih (i + 1) (wA T 68 i (T.2 67 i)) (by omega) (by omega)
      refine ⟨T', (EP.wA (by omega)).tr r1, fun k => ?_⟩
      rw [l_X12_plans_k6_97, if_pos (show nI i < 6 from nI_lt (b := 6) c (by decide)), ix_nI (show i < 8 by omega) (by decide), fb_s, fl_s, nI_1]; exact r2 k
    · obtain rfl : i = 6 := by omega
      refine ⟨T, EP.rf, fun k => ?_⟩
      rw [l_X12_plans_k6_97, if_neg (by decide)]
theorem p83_6 (T : FS) (x : Int32) : ∃ T' : FS, EP T T' ∧ j_X12_plans_k6_83 x T = some (0, T') := by
  unfold j_X12_plans_k6_83
  simp only [fl_s]
  obtain ⟨T', r1, r2⟩ := p97_6 FU 0 (wI (wI T 20 1) 19 x) (by omega) (FU_lt (by omega))
  exact ⟨T', ((EP.wI (by omega)).tr (EP.wI (by omega))).tr r1, r2 _⟩
theorem p130_6 {x : Int32} : ∀ (m i : Nat) (y : Int32), i ≤ 6 → 6 - i < m → ∃ v : Int32, ∀ k, l_X12_plans_k6_130 x k m T y (nI i) = k T v (nI 6) := by
  intro m
  induction m with
  | zero => intro i y _ hm; exact absurd hm (Nat.not_lt_zero _)
  | succ m ih =>
    intro i y hi hm
    by_cases c : i < 6
    · have lt : nI i < 6 := nI_lt (b := 6) c (by decide)
      by_cases z : ((x >>> (nI i &&& 31)) &&& 1) = 1
      · obtain ⟨v, r⟩ := ih (i + 1) (y + T.2 55 (3 * i + 20)) (by omega) (by omega)
        refine ⟨v, fun k => ?_⟩
        rw [l_X12_plans_k6_130, if_pos lt, if_pos z, ixT_0 (by omega), fb_s, fv_s, nI_1]; exact r k
      · obtain ⟨v, r⟩ := ih (i + 1) (y + 0) (by omega) (by omega)
        refine ⟨v, fun k => ?_⟩
        rw [l_X12_plans_k6_130, if_pos lt, if_neg z, fv_s, nI_1]; exact r k
    · obtain rfl : i = 6 := by omega
      refine ⟨y, fun k => ?_⟩
      rw [l_X12_plans_k6_130, if_neg (by decide)]
theorem p177_6 {x y : Int32} {s sz : Nat} (hs : s < 4) (hz : sz ≤ 8) (hq : 7 ≤ sz) : ∀ (m i : Nat) (T : FS), i ≤ 7 → 7 - i < m → T.1 18 = nI s → T.2 71 s = nI sz → ∃ T' : FS, EP T T' ∧ ∀ k, l_X12_plans_k6_177 x y k m T (nI i - 1) = k T' (nI 6) := by
  intro m
  induction m with
  | zero => intro i T _ hm; exact absurd hm (Nat.not_lt_zero _)
  | succ m ih =>
    intro i T hi hm e8 ez
    have jx : ix 96 ((24 : Int32) * T.1 18 + 6) = some (24 * s + 6) := by rw [e8]; exact ix96 (i := 6) hs (by decide)
    have nx : i < 7 → ∀ (T1 : FS), EP T T1 → ∃ T' : FS, EP T T' ∧ ∀ k, l_X12_plans_k6_177 x y k m T1 (nI (i + 1) - 1) = k T' (nI 6) := fun hi7 T1 e => by
      by_cases c : i + 1 ≤ 7
      · obtain ⟨T', r1, r2⟩ := ih (i + 1) T1 c (by omega) (by rw [e.1 18 (by decide) (by decide)]; exact e8) (by rw [e.2 71 (by decide) (by decide)]; exact ez)
        exact ⟨T', e.tr r1, r2⟩
      · exact absurd hi7 (by omega)
    cases i with
    | zero =>
      have st : ∀ k, l_X12_plans_k6_177 x y k (m + 1) T (nI 0 - 1) = _ := fun k => by
        rw [l_X12_plans_k6_177, if_pos (by decide), if_pos (by decide), jx, fb_s, fv_s, show (nI 0 - 1 + 1 : Int32) = nI (0 + 1) - 1 from by decide]
      by_cases z : y - T.2 72 (24 * s + 6) + 0 < 0
      · obtain ⟨T', r1, r2⟩ := nx (by omega) T EP.rf
        exact ⟨T', r1, fun k => by rw [st, if_pos z]; exact r2 k⟩
      · obtain ⟨T1, p1, p2⟩ := pl_7 hs hz hq (wA T 67 6 (nI 0 - 1)) x (y - T.2 72 (24 * s + 6) + 0) e8 ez
        obtain ⟨T', r1, r2⟩ := nx (by omega) T1 ((EP.wA (by omega)).tr p1)
        exact ⟨T', r1, fun k => by rw [st, if_neg z, fl_s, p2, fb_s]; exact r2 k⟩
    | succ j =>
      by_cases c : j < 6
      · have lt : nI j < 6 := nI_lt (b := 6) c (by decide)
        have st : ∀ k, l_X12_plans_k6_177 x y k (m + 1) T (nI (j + 1) - 1) = _ := fun k => by
          rw [l_X12_plans_k6_177, nI_pred, if_pos lt, if_neg (nI_pos (show j < 2 ^ 31 by omega)), jx, ixT_0 (show j < 10 by omega), fb_s, fb_s, fv_s, nI_1, ← nI_pred (j + 1)]
        by_cases b : ((x >>> (nI j &&& 31)) &&& 1) = 0
        · obtain ⟨T', r1, r2⟩ := nx (by omega) T EP.rf
          exact ⟨T', r1, fun k => by rw [st, if_pos b]; exact r2 k⟩
        · by_cases z : y - T.2 72 (24 * s + 6) + 4 * T.2 55 (3 * j + 20) < 0
          · obtain ⟨T', r1, r2⟩ := nx (by omega) T EP.rf
            exact ⟨T', r1, fun k => by rw [st, if_neg b, if_pos z]; exact r2 k⟩
          · obtain ⟨T1, p1, p2⟩ := pl_7 hs hz hq (wA T 67 6 (nI j)) (x &&& (((1 : Int32) <<< (nI j &&& 31)) ^^^ (-1))) (y - T.2 72 (24 * s + 6) + 4 * T.2 55 (3 * j + 20)) e8 ez
            obtain ⟨T', r1, r2⟩ := nx (by omega) T1 ((EP.wA (by omega)).tr p1)
            exact ⟨T', r1, fun k => by rw [st, if_neg b, if_neg z, fl_s, p2, fb_s]; exact r2 k⟩
      · obtain rfl : j = 6 := by omega
        refine ⟨T, EP.rf, fun k => ?_⟩
        rw [l_X12_plans_k6_177, nI_pred, if_neg (by decide)]
theorem pl_6 {s sz : Nat} (hs : s < 4) (hz : sz ≤ 8) (hq : 6 ≤ sz) (T : FS) (x y : Int32) (e8 : T.1 18 = nI s) (ez : T.2 71 s = nI sz) : ∃ T' : FS, EP T T' ∧ f_X12_plans_k6 T x y = some (0, T') := by
  unfold f_X12_plans_k6
  rw [e8, ix_nI hs (by decide), fb_s, ez]
  by_cases c : sz = 6
  · rw [if_pos (show (6 : Int32) = nI sz by rw [c]; rfl)]
    obtain ⟨v, r⟩ := p19_6 (T := T) (x := x) FU 0 y (by omega) (FU_lt (by omega))
    rw [show ∀ k, l_X12_plans_k6_19 x k FU T y 0 = k T v (nI 6) from r]
    split
    · exact p83_6 T v
    · split
      · exact p83_6 T v
      · exact ⟨T, EP.rf, rfl⟩
  · rw [if_neg (show ¬ (6 : Int32) = nI sz from fun q => c (nI_inj (a := sz) (b := 6) (by omega) (by decide) q.symm))]
    obtain ⟨v, r⟩ := p130_6 (T := T) (x := x) FU 0 y (by omega) (FU_lt (by omega))
    obtain ⟨T', p1, p2⟩ := p177_6 (x := x) (y := v) hs hz (show 7 ≤ sz by omega) FU 0 T (by omega) (FU_lt (by omega)) e8 ez
    refine ⟨T', p1, ?_⟩
    rw [show ∀ k, l_X12_plans_k6_130 x k FU T y 0 = k T v (nI 6) from r]
    exact p2 _
theorem p19_5 {x : Int32} : ∀ (m i : Nat) (y : Int32), i ≤ 6 → 6 - i < m → ∃ v : Int32, ∀ k, l_X12_plans_k5_19 x k m T y (nI i) = k T v (nI 6) := by
  intro m
  induction m with
  | zero => intro i y _ hm; exact absurd hm (Nat.not_lt_zero _)
  | succ m ih =>
    intro i y hi hm
    by_cases c : i < 6
    · have lt : nI i < 6 := nI_lt (b := 6) c (by decide)
      by_cases z : ((x >>> (nI i &&& 31)) &&& 1) = 1
      · obtain ⟨v, r⟩ := ih (i + 1) (y + 8 * T.2 55 (3 * i + 20)) (by omega) (by omega)
        refine ⟨v, fun k => ?_⟩
        rw [l_X12_plans_k5_19, if_pos lt, if_pos z, ixT_0 (by omega), fb_s, fv_s, nI_1]; exact r k
      · obtain ⟨v, r⟩ := ih (i + 1) (y + 0) (by omega) (by omega)
        refine ⟨v, fun k => ?_⟩
        rw [l_X12_plans_k5_19, if_pos lt, if_neg z, fv_s, nI_1]; exact r k
    · obtain rfl : i = 6 := by omega
      refine ⟨y, fun k => ?_⟩
      rw [l_X12_plans_k5_19, if_neg (by decide)]
theorem p97_5 : ∀ (m i : Nat) (T : FS), i ≤ 5 → 5 - i < m → ∃ T' : FS, EP T T' ∧ ∀ k, l_X12_plans_k5_97 k m T (nI i) = k T' (nI 5) := by
  intro m
  induction m with
  | zero => intro i T _ hm; exact absurd hm (Nat.not_lt_zero _)
  | succ m ih =>
    intro i T hi hm
    by_cases c : i < 5
    · obtain ⟨T', r1, r2⟩ := ih (i + 1) (wA T 68 i (T.2 67 i)) (by omega) (by omega)
      refine ⟨T', (EP.wA (by omega)).tr r1, fun k => ?_⟩
      rw [l_X12_plans_k5_97, if_pos (show nI i < 5 from nI_lt (b := 5) c (by decide)), ix_nI (show i < 8 by omega) (by decide), fb_s, fl_s, nI_1]; exact r2 k
    · obtain rfl : i = 5 := by omega
      refine ⟨T, EP.rf, fun k => ?_⟩
      rw [l_X12_plans_k5_97, if_neg (by decide)]
theorem p83_5 (T : FS) (x : Int32) : ∃ T' : FS, EP T T' ∧ j_X12_plans_k5_83 x T = some (0, T') := by
  unfold j_X12_plans_k5_83
  simp only [fl_s]
  obtain ⟨T', r1, r2⟩ := p97_5 FU 0 (wI (wI T 20 1) 19 x) (by omega) (FU_lt (by omega))
  exact ⟨T', ((EP.wI (by omega)).tr (EP.wI (by omega))).tr r1, r2 _⟩
theorem p130_5 {x : Int32} : ∀ (m i : Nat) (y : Int32), i ≤ 6 → 6 - i < m → ∃ v : Int32, ∀ k, l_X12_plans_k5_130 x k m T y (nI i) = k T v (nI 6) := by
  intro m
  induction m with
  | zero => intro i y _ hm; exact absurd hm (Nat.not_lt_zero _)
  | succ m ih =>
    intro i y hi hm
    by_cases c : i < 6
    · have lt : nI i < 6 := nI_lt (b := 6) c (by decide)
      by_cases z : ((x >>> (nI i &&& 31)) &&& 1) = 1
      · obtain ⟨v, r⟩ := ih (i + 1) (y + T.2 55 (3 * i + 20)) (by omega) (by omega)
        refine ⟨v, fun k => ?_⟩
        rw [l_X12_plans_k5_130, if_pos lt, if_pos z, ixT_0 (by omega), fb_s, fv_s, nI_1]; exact r k
      · obtain ⟨v, r⟩ := ih (i + 1) (y + 0) (by omega) (by omega)
        refine ⟨v, fun k => ?_⟩
        rw [l_X12_plans_k5_130, if_pos lt, if_neg z, fv_s, nI_1]; exact r k
    · obtain rfl : i = 6 := by omega
      refine ⟨y, fun k => ?_⟩
      rw [l_X12_plans_k5_130, if_neg (by decide)]
theorem p177_5 {x y : Int32} {s sz : Nat} (hs : s < 4) (hz : sz ≤ 8) (hq : 6 ≤ sz) : ∀ (m i : Nat) (T : FS), i ≤ 7 → 7 - i < m → T.1 18 = nI s → T.2 71 s = nI sz → ∃ T' : FS, EP T T' ∧ ∀ k, l_X12_plans_k5_177 x y k m T (nI i - 1) = k T' (nI 6) := by
  intro m
  induction m with
  | zero => intro i T _ hm; exact absurd hm (Nat.not_lt_zero _)
  | succ m ih =>
    intro i T hi hm e8 ez
    have jx : ix 96 ((24 : Int32) * T.1 18 + 5) = some (24 * s + 5) := by rw [e8]; exact ix96 (i := 5) hs (by decide)
    have nx : i < 7 → ∀ (T1 : FS), EP T T1 → ∃ T' : FS, EP T T' ∧ ∀ k, l_X12_plans_k5_177 x y k m T1 (nI (i + 1) - 1) = k T' (nI 6) := fun hi7 T1 e => by
      by_cases c : i + 1 ≤ 7
      · obtain ⟨T', r1, r2⟩ := ih (i + 1) T1 c (by omega) (by rw [e.1 18 (by decide) (by decide)]; exact e8) (by rw [e.2 71 (by decide) (by decide)]; exact ez)
        exact ⟨T', e.tr r1, r2⟩
      · exact absurd hi7 (by omega)
    cases i with
    | zero =>
      have st : ∀ k, l_X12_plans_k5_177 x y k (m + 1) T (nI 0 - 1) = _ := fun k => by
        rw [l_X12_plans_k5_177, if_pos (by decide), if_pos (by decide), jx, fb_s, fv_s, show (nI 0 - 1 + 1 : Int32) = nI (0 + 1) - 1 from by decide]
      by_cases z : y - T.2 72 (24 * s + 5) + 0 < 0
      · obtain ⟨T', r1, r2⟩ := nx (by omega) T EP.rf
        exact ⟨T', r1, fun k => by rw [st, if_pos z]; exact r2 k⟩
      · obtain ⟨T1, p1, p2⟩ := pl_6 hs hz hq (wA T 67 5 (nI 0 - 1)) x (y - T.2 72 (24 * s + 5) + 0) e8 ez
        obtain ⟨T', r1, r2⟩ := nx (by omega) T1 ((EP.wA (by omega)).tr p1)
        exact ⟨T', r1, fun k => by rw [st, if_neg z, fl_s, p2, fb_s]; exact r2 k⟩
    | succ j =>
      by_cases c : j < 6
      · have lt : nI j < 6 := nI_lt (b := 6) c (by decide)
        have st : ∀ k, l_X12_plans_k5_177 x y k (m + 1) T (nI (j + 1) - 1) = _ := fun k => by
          rw [l_X12_plans_k5_177, nI_pred, if_pos lt, if_neg (nI_pos (show j < 2 ^ 31 by omega)), jx, ixT_0 (show j < 10 by omega), fb_s, fb_s, fv_s, nI_1, ← nI_pred (j + 1)]
        by_cases b : ((x >>> (nI j &&& 31)) &&& 1) = 0
        · obtain ⟨T', r1, r2⟩ := nx (by omega) T EP.rf
          exact ⟨T', r1, fun k => by rw [st, if_pos b]; exact r2 k⟩
        · by_cases z : y - T.2 72 (24 * s + 5) + 4 * T.2 55 (3 * j + 20) < 0
          · obtain ⟨T', r1, r2⟩ := nx (by omega) T EP.rf
            exact ⟨T', r1, fun k => by rw [st, if_neg b, if_pos z]; exact r2 k⟩
          · obtain ⟨T1, p1, p2⟩ := pl_6 hs hz hq (wA T 67 5 (nI j)) (x &&& (((1 : Int32) <<< (nI j &&& 31)) ^^^ (-1))) (y - T.2 72 (24 * s + 5) + 4 * T.2 55 (3 * j + 20)) e8 ez
            obtain ⟨T', r1, r2⟩ := nx (by omega) T1 ((EP.wA (by omega)).tr p1)
            exact ⟨T', r1, fun k => by rw [st, if_neg b, if_neg z, fl_s, p2, fb_s]; exact r2 k⟩
      · obtain rfl : j = 6 := by omega
        refine ⟨T, EP.rf, fun k => ?_⟩
        rw [l_X12_plans_k5_177, nI_pred, if_neg (by decide)]
theorem pl_5 {s sz : Nat} (hs : s < 4) (hz : sz ≤ 8) (hq : 5 ≤ sz) (T : FS) (x y : Int32) (e8 : T.1 18 = nI s) (ez : T.2 71 s = nI sz) : ∃ T' : FS, EP T T' ∧ f_X12_plans_k5 T x y = some (0, T') := by
  unfold f_X12_plans_k5
  rw [e8, ix_nI hs (by decide), fb_s, ez]
  by_cases c : sz = 5
  · rw [if_pos (show (5 : Int32) = nI sz by rw [c]; rfl)]
    obtain ⟨v, r⟩ := p19_5 (T := T) (x := x) FU 0 y (by omega) (FU_lt (by omega))
    rw [show ∀ k, l_X12_plans_k5_19 x k FU T y 0 = k T v (nI 6) from r]
    split
    · exact p83_5 T v
    · split
      · exact p83_5 T v
      · exact ⟨T, EP.rf, rfl⟩
  · rw [if_neg (show ¬ (5 : Int32) = nI sz from fun q => c (nI_inj (a := sz) (b := 5) (by omega) (by decide) q.symm))]
    obtain ⟨v, r⟩ := p130_5 (T := T) (x := x) FU 0 y (by omega) (FU_lt (by omega))
    obtain ⟨T', p1, p2⟩ := p177_5 (x := x) (y := v) hs hz (show 6 ≤ sz by omega) FU 0 T (by omega) (FU_lt (by omega)) e8 ez
    refine ⟨T', p1, ?_⟩
    rw [show ∀ k, l_X12_plans_k5_130 x k FU T y 0 = k T v (nI 6) from r]
    exact p2 _
theorem p19_4 {x : Int32} : ∀ (m i : Nat) (y : Int32), i ≤ 6 → 6 - i < m → ∃ v : Int32, ∀ k, l_X12_plans_k4_19 x k m T y (nI i) = k T v (nI 6) := by
  intro m
  induction m with
  | zero => intro i y _ hm; exact absurd hm (Nat.not_lt_zero _)
  | succ m ih =>
    intro i y hi hm
    by_cases c : i < 6
    · have lt : nI i < 6 := nI_lt (b := 6) c (by decide)
      by_cases z : ((x >>> (nI i &&& 31)) &&& 1) = 1
      · obtain ⟨v, r⟩ := ih (i + 1) (y + 8 * T.2 55 (3 * i + 20)) (by omega) (by omega)
        refine ⟨v, fun k => ?_⟩
        rw [l_X12_plans_k4_19, if_pos lt, if_pos z, ixT_0 (by omega), fb_s, fv_s, nI_1]; exact r k
      · obtain ⟨v, r⟩ := ih (i + 1) (y + 0) (by omega) (by omega)
        refine ⟨v, fun k => ?_⟩
        rw [l_X12_plans_k4_19, if_pos lt, if_neg z, fv_s, nI_1]; exact r k
    · obtain rfl : i = 6 := by omega
      refine ⟨y, fun k => ?_⟩
      rw [l_X12_plans_k4_19, if_neg (by decide)]
theorem p97_4 : ∀ (m i : Nat) (T : FS), i ≤ 4 → 4 - i < m → ∃ T' : FS, EP T T' ∧ ∀ k, l_X12_plans_k4_97 k m T (nI i) = k T' (nI 4) := by
  intro m
  induction m with
  | zero => intro i T _ hm; exact absurd hm (Nat.not_lt_zero _)
  | succ m ih =>
    intro i T hi hm
    by_cases c : i < 4
    · obtain ⟨T', r1, r2⟩ := ih (i + 1) (wA T 68 i (T.2 67 i)) (by omega) (by omega)
      refine ⟨T', (EP.wA (by omega)).tr r1, fun k => ?_⟩
      rw [l_X12_plans_k4_97, if_pos (show nI i < 4 from nI_lt (b := 4) c (by decide)), ix_nI (show i < 8 by omega) (by decide), fb_s, fl_s, nI_1]; exact r2 k
    · obtain rfl : i = 4 := by omega
      refine ⟨T, EP.rf, fun k => ?_⟩
      rw [l_X12_plans_k4_97, if_neg (by decide)]
theorem p83_4 (T : FS) (x : Int32) : ∃ T' : FS, EP T T' ∧ j_X12_plans_k4_83 x T = some (0, T') := by
  unfold j_X12_plans_k4_83
  simp only [fl_s]
  obtain ⟨T', r1, r2⟩ := p97_4 FU 0 (wI (wI T 20 1) 19 x) (by omega) (FU_lt (by omega))
  exact ⟨T', ((EP.wI (by omega)).tr (EP.wI (by omega))).tr r1, r2 _⟩
theorem p130_4 {x : Int32} : ∀ (m i : Nat) (y : Int32), i ≤ 6 → 6 - i < m → ∃ v : Int32, ∀ k, l_X12_plans_k4_130 x k m T y (nI i) = k T v (nI 6) := by
  intro m
  induction m with
  | zero => intro i y _ hm; exact absurd hm (Nat.not_lt_zero _)
  | succ m ih =>
    intro i y hi hm
    by_cases c : i < 6
    · have lt : nI i < 6 := nI_lt (b := 6) c (by decide)
      by_cases z : ((x >>> (nI i &&& 31)) &&& 1) = 1
      · obtain ⟨v, r⟩ := ih (i + 1) (y + T.2 55 (3 * i + 20)) (by omega) (by omega)
        refine ⟨v, fun k => ?_⟩
        rw [l_X12_plans_k4_130, if_pos lt, if_pos z, ixT_0 (by omega), fb_s, fv_s, nI_1]; exact r k
      · obtain ⟨v, r⟩ := ih (i + 1) (y + 0) (by omega) (by omega)
        refine ⟨v, fun k => ?_⟩
        rw [l_X12_plans_k4_130, if_pos lt, if_neg z, fv_s, nI_1]; exact r k
    · obtain rfl : i = 6 := by omega
      refine ⟨y, fun k => ?_⟩
      rw [l_X12_plans_k4_130, if_neg (by decide)]
theorem p177_4 {x y : Int32} {s sz : Nat} (hs : s < 4) (hz : sz ≤ 8) (hq : 5 ≤ sz) : ∀ (m i : Nat) (T : FS), i ≤ 7 → 7 - i < m → T.1 18 = nI s → T.2 71 s = nI sz → ∃ T' : FS, EP T T' ∧ ∀ k, l_X12_plans_k4_177 x y k m T (nI i - 1) = k T' (nI 6) := by
  intro m
  induction m with
  | zero => intro i T _ hm; exact absurd hm (Nat.not_lt_zero _)
  | succ m ih =>
    intro i T hi hm e8 ez
    have jx : ix 96 ((24 : Int32) * T.1 18 + 4) = some (24 * s + 4) := by rw [e8]; exact ix96 (i := 4) hs (by decide)
    have nx : i < 7 → ∀ (T1 : FS), EP T T1 → ∃ T' : FS, EP T T' ∧ ∀ k, l_X12_plans_k4_177 x y k m T1 (nI (i + 1) - 1) = k T' (nI 6) := fun hi7 T1 e => by
      by_cases c : i + 1 ≤ 7
      · obtain ⟨T', r1, r2⟩ := ih (i + 1) T1 c (by omega) (by rw [e.1 18 (by decide) (by decide)]; exact e8) (by rw [e.2 71 (by decide) (by decide)]; exact ez)
        exact ⟨T', e.tr r1, r2⟩
      · exact absurd hi7 (by omega)
    cases i with
    | zero =>
      have st : ∀ k, l_X12_plans_k4_177 x y k (m + 1) T (nI 0 - 1) = _ := fun k => by
        rw [l_X12_plans_k4_177, if_pos (by decide), if_pos (by decide), jx, fb_s, fv_s, show (nI 0 - 1 + 1 : Int32) = nI (0 + 1) - 1 from by decide]
      by_cases z : y - T.2 72 (24 * s + 4) + 0 < 0
      · obtain ⟨T', r1, r2⟩ := nx (by omega) T EP.rf
        exact ⟨T', r1, fun k => by rw [st, if_pos z]; exact r2 k⟩
      · obtain ⟨T1, p1, p2⟩ := pl_5 hs hz hq (wA T 67 4 (nI 0 - 1)) x (y - T.2 72 (24 * s + 4) + 0) e8 ez
        obtain ⟨T', r1, r2⟩ := nx (by omega) T1 ((EP.wA (by omega)).tr p1)
        exact ⟨T', r1, fun k => by rw [st, if_neg z, fl_s, p2, fb_s]; exact r2 k⟩
    | succ j =>
      by_cases c : j < 6
      · have lt : nI j < 6 := nI_lt (b := 6) c (by decide)
        have st : ∀ k, l_X12_plans_k4_177 x y k (m + 1) T (nI (j + 1) - 1) = _ := fun k => by
          rw [l_X12_plans_k4_177, nI_pred, if_pos lt, if_neg (nI_pos (show j < 2 ^ 31 by omega)), jx, ixT_0 (show j < 10 by omega), fb_s, fb_s, fv_s, nI_1, ← nI_pred (j + 1)]
        by_cases b : ((x >>> (nI j &&& 31)) &&& 1) = 0
        · obtain ⟨T', r1, r2⟩ := nx (by omega) T EP.rf
          exact ⟨T', r1, fun k => by rw [st, if_pos b]; exact r2 k⟩
        · by_cases z : y - T.2 72 (24 * s + 4) + 4 * T.2 55 (3 * j + 20) < 0
          · obtain ⟨T', r1, r2⟩ := nx (by omega) T EP.rf
            exact ⟨T', r1, fun k => by rw [st, if_neg b, if_pos z]; exact r2 k⟩
          · obtain ⟨T1, p1, p2⟩ := pl_5 hs hz hq (wA T 67 4 (nI j)) (x &&& (((1 : Int32) <<< (nI j &&& 31)) ^^^ (-1))) (y - T.2 72 (24 * s + 4) + 4 * T.2 55 (3 * j + 20)) e8 ez
            obtain ⟨T', r1, r2⟩ := nx (by omega) T1 ((EP.wA (by omega)).tr p1)
            exact ⟨T', r1, fun k => by rw [st, if_neg b, if_neg z, fl_s, p2, fb_s]; exact r2 k⟩
      · obtain rfl : j = 6 := by omega
        refine ⟨T, EP.rf, fun k => ?_⟩
        rw [l_X12_plans_k4_177, nI_pred, if_neg (by decide)]
theorem pl_4 {s sz : Nat} (hs : s < 4) (hz : sz ≤ 8) (hq : 4 ≤ sz) (T : FS) (x y : Int32) (e8 : T.1 18 = nI s) (ez : T.2 71 s = nI sz) : ∃ T' : FS, EP T T' ∧ f_X12_plans_k4 T x y = some (0, T') := by
  unfold f_X12_plans_k4
  rw [e8, ix_nI hs (by decide), fb_s, ez]
  by_cases c : sz = 4
  · rw [if_pos (show (4 : Int32) = nI sz by rw [c]; rfl)]
    obtain ⟨v, r⟩ := p19_4 (T := T) (x := x) FU 0 y (by omega) (FU_lt (by omega))
    rw [show ∀ k, l_X12_plans_k4_19 x k FU T y 0 = k T v (nI 6) from r]
    split
    · exact p83_4 T v
    · split
      · exact p83_4 T v
      · exact ⟨T, EP.rf, rfl⟩
  · rw [if_neg (show ¬ (4 : Int32) = nI sz from fun q => c (nI_inj (a := sz) (b := 4) (by omega) (by decide) q.symm))]
    obtain ⟨v, r⟩ := p130_4 (T := T) (x := x) FU 0 y (by omega) (FU_lt (by omega))
    obtain ⟨T', p1, p2⟩ := p177_4 (x := x) (y := v) hs hz (show 5 ≤ sz by omega) FU 0 T (by omega) (FU_lt (by omega)) e8 ez
    refine ⟨T', p1, ?_⟩
    rw [show ∀ k, l_X12_plans_k4_130 x k FU T y 0 = k T v (nI 6) from r]
    exact p2 _
theorem p19_3 {x : Int32} : ∀ (m i : Nat) (y : Int32), i ≤ 6 → 6 - i < m → ∃ v : Int32, ∀ k, l_X12_plans_k3_19 x k m T y (nI i) = k T v (nI 6) := by
  intro m
  induction m with
  | zero => intro i y _ hm; exact absurd hm (Nat.not_lt_zero _)
  | succ m ih =>
    intro i y hi hm
    by_cases c : i < 6
    · have lt : nI i < 6 := nI_lt (b := 6) c (by decide)
      by_cases z : ((x >>> (nI i &&& 31)) &&& 1) = 1
      · obtain ⟨v, r⟩ := ih (i + 1) (y + 8 * T.2 55 (3 * i + 20)) (by omega) (by omega)
        refine ⟨v, fun k => ?_⟩
        rw [l_X12_plans_k3_19, if_pos lt, if_pos z, ixT_0 (by omega), fb_s, fv_s, nI_1]; exact r k
      · obtain ⟨v, r⟩ := ih (i + 1) (y + 0) (by omega) (by omega)
        refine ⟨v, fun k => ?_⟩
        rw [l_X12_plans_k3_19, if_pos lt, if_neg z, fv_s, nI_1]; exact r k
    · obtain rfl : i = 6 := by omega
      refine ⟨y, fun k => ?_⟩
      rw [l_X12_plans_k3_19, if_neg (by decide)]
theorem p97_3 : ∀ (m i : Nat) (T : FS), i ≤ 3 → 3 - i < m → ∃ T' : FS, EP T T' ∧ ∀ k, l_X12_plans_k3_97 k m T (nI i) = k T' (nI 3) := by
  intro m
  induction m with
  | zero => intro i T _ hm; exact absurd hm (Nat.not_lt_zero _)
  | succ m ih =>
    intro i T hi hm
    by_cases c : i < 3
    · obtain ⟨T', r1, r2⟩ := ih (i + 1) (wA T 68 i (T.2 67 i)) (by omega) (by omega)
      refine ⟨T', (EP.wA (by omega)).tr r1, fun k => ?_⟩
      rw [l_X12_plans_k3_97, if_pos (show nI i < 3 from nI_lt (b := 3) c (by decide)), ix_nI (show i < 8 by omega) (by decide), fb_s, fl_s, nI_1]; exact r2 k
    · obtain rfl : i = 3 := by omega
      refine ⟨T, EP.rf, fun k => ?_⟩
      rw [l_X12_plans_k3_97, if_neg (by decide)]
theorem p83_3 (T : FS) (x : Int32) : ∃ T' : FS, EP T T' ∧ j_X12_plans_k3_83 x T = some (0, T') := by
  unfold j_X12_plans_k3_83
  simp only [fl_s]
  obtain ⟨T', r1, r2⟩ := p97_3 FU 0 (wI (wI T 20 1) 19 x) (by omega) (FU_lt (by omega))
  exact ⟨T', ((EP.wI (by omega)).tr (EP.wI (by omega))).tr r1, r2 _⟩
theorem p130_3 {x : Int32} : ∀ (m i : Nat) (y : Int32), i ≤ 6 → 6 - i < m → ∃ v : Int32, ∀ k, l_X12_plans_k3_130 x k m T y (nI i) = k T v (nI 6) := by
  intro m
  induction m with
  | zero => intro i y _ hm; exact absurd hm (Nat.not_lt_zero _)
  | succ m ih =>
    intro i y hi hm
    by_cases c : i < 6
    · have lt : nI i < 6 := nI_lt (b := 6) c (by decide)
      by_cases z : ((x >>> (nI i &&& 31)) &&& 1) = 1
      · obtain ⟨v, r⟩ := ih (i + 1) (y + T.2 55 (3 * i + 20)) (by omega) (by omega)
        refine ⟨v, fun k => ?_⟩
        rw [l_X12_plans_k3_130, if_pos lt, if_pos z, ixT_0 (by omega), fb_s, fv_s, nI_1]; exact r k
      · obtain ⟨v, r⟩ := ih (i + 1) (y + 0) (by omega) (by omega)
        refine ⟨v, fun k => ?_⟩
        rw [l_X12_plans_k3_130, if_pos lt, if_neg z, fv_s, nI_1]; exact r k
    · obtain rfl : i = 6 := by omega
      refine ⟨y, fun k => ?_⟩
      rw [l_X12_plans_k3_130, if_neg (by decide)]
theorem p177_3 {x y : Int32} {s sz : Nat} (hs : s < 4) (hz : sz ≤ 8) (hq : 4 ≤ sz) : ∀ (m i : Nat) (T : FS), i ≤ 7 → 7 - i < m → T.1 18 = nI s → T.2 71 s = nI sz → ∃ T' : FS, EP T T' ∧ ∀ k, l_X12_plans_k3_177 x y k m T (nI i - 1) = k T' (nI 6) := by
  intro m
  induction m with
  | zero => intro i T _ hm; exact absurd hm (Nat.not_lt_zero _)
  | succ m ih =>
    intro i T hi hm e8 ez
    have jx : ix 96 ((24 : Int32) * T.1 18 + 3) = some (24 * s + 3) := by rw [e8]; exact ix96 (i := 3) hs (by decide)
    have nx : i < 7 → ∀ (T1 : FS), EP T T1 → ∃ T' : FS, EP T T' ∧ ∀ k, l_X12_plans_k3_177 x y k m T1 (nI (i + 1) - 1) = k T' (nI 6) := fun hi7 T1 e => by
      by_cases c : i + 1 ≤ 7
      · obtain ⟨T', r1, r2⟩ := ih (i + 1) T1 c (by omega) (by rw [e.1 18 (by decide) (by decide)]; exact e8) (by rw [e.2 71 (by decide) (by decide)]; exact ez)
        exact ⟨T', e.tr r1, r2⟩
      · exact absurd hi7 (by omega)
    cases i with
    | zero =>
      have st : ∀ k, l_X12_plans_k3_177 x y k (m + 1) T (nI 0 - 1) = _ := fun k => by
        rw [l_X12_plans_k3_177, if_pos (by decide), if_pos (by decide), jx, fb_s, fv_s, show (nI 0 - 1 + 1 : Int32) = nI (0 + 1) - 1 from by decide]
      by_cases z : y - T.2 72 (24 * s + 3) + 0 < 0
      · obtain ⟨T', r1, r2⟩ := nx (by omega) T EP.rf
        exact ⟨T', r1, fun k => by rw [st, if_pos z]; exact r2 k⟩
      · obtain ⟨T1, p1, p2⟩ := pl_4 hs hz hq (wA T 67 3 (nI 0 - 1)) x (y - T.2 72 (24 * s + 3) + 0) e8 ez
        obtain ⟨T', r1, r2⟩ := nx (by omega) T1 ((EP.wA (by omega)).tr p1)
        exact ⟨T', r1, fun k => by rw [st, if_neg z, fl_s, p2, fb_s]; exact r2 k⟩
    | succ j =>
      by_cases c : j < 6
      · have lt : nI j < 6 := nI_lt (b := 6) c (by decide)
        have st : ∀ k, l_X12_plans_k3_177 x y k (m + 1) T (nI (j + 1) - 1) = _ := fun k => by
          rw [l_X12_plans_k3_177, nI_pred, if_pos lt, if_neg (nI_pos (show j < 2 ^ 31 by omega)), jx, ixT_0 (show j < 10 by omega), fb_s, fb_s, fv_s, nI_1, ← nI_pred (j + 1)]
        by_cases b : ((x >>> (nI j &&& 31)) &&& 1) = 0
        · obtain ⟨T', r1, r2⟩ := nx (by omega) T EP.rf
          exact ⟨T', r1, fun k => by rw [st, if_pos b]; exact r2 k⟩
        · by_cases z : y - T.2 72 (24 * s + 3) + 4 * T.2 55 (3 * j + 20) < 0
          · obtain ⟨T', r1, r2⟩ := nx (by omega) T EP.rf
            exact ⟨T', r1, fun k => by rw [st, if_neg b, if_pos z]; exact r2 k⟩
          · obtain ⟨T1, p1, p2⟩ := pl_4 hs hz hq (wA T 67 3 (nI j)) (x &&& (((1 : Int32) <<< (nI j &&& 31)) ^^^ (-1))) (y - T.2 72 (24 * s + 3) + 4 * T.2 55 (3 * j + 20)) e8 ez
            obtain ⟨T', r1, r2⟩ := nx (by omega) T1 ((EP.wA (by omega)).tr p1)
            exact ⟨T', r1, fun k => by rw [st, if_neg b, if_neg z, fl_s, p2, fb_s]; exact r2 k⟩
      · obtain rfl : j = 6 := by omega
        refine ⟨T, EP.rf, fun k => ?_⟩
        rw [l_X12_plans_k3_177, nI_pred, if_neg (by decide)]
theorem pl_3 {s sz : Nat} (hs : s < 4) (hz : sz ≤ 8) (hq : 3 ≤ sz) (T : FS) (x y : Int32) (e8 : T.1 18 = nI s) (ez : T.2 71 s = nI sz) : ∃ T' : FS, EP T T' ∧ f_X12_plans_k3 T x y = some (0, T') := by
  unfold f_X12_plans_k3
  rw [e8, ix_nI hs (by decide), fb_s, ez]
  by_cases c : sz = 3
  · rw [if_pos (show (3 : Int32) = nI sz by rw [c]; rfl)]
    obtain ⟨v, r⟩ := p19_3 (T := T) (x := x) FU 0 y (by omega) (FU_lt (by omega))
    rw [show ∀ k, l_X12_plans_k3_19 x k FU T y 0 = k T v (nI 6) from r]
    split
    · exact p83_3 T v
    · split
      · exact p83_3 T v
      · exact ⟨T, EP.rf, rfl⟩
  · rw [if_neg (show ¬ (3 : Int32) = nI sz from fun q => c (nI_inj (a := sz) (b := 3) (by omega) (by decide) q.symm))]
    obtain ⟨v, r⟩ := p130_3 (T := T) (x := x) FU 0 y (by omega) (FU_lt (by omega))
    obtain ⟨T', p1, p2⟩ := p177_3 (x := x) (y := v) hs hz (show 4 ≤ sz by omega) FU 0 T (by omega) (FU_lt (by omega)) e8 ez
    refine ⟨T', p1, ?_⟩
    rw [show ∀ k, l_X12_plans_k3_130 x k FU T y 0 = k T v (nI 6) from r]
    exact p2 _
theorem p19_2 {x : Int32} : ∀ (m i : Nat) (y : Int32), i ≤ 6 → 6 - i < m → ∃ v : Int32, ∀ k, l_X12_plans_k2_19 x k m T y (nI i) = k T v (nI 6) := by
  intro m
  induction m with
  | zero => intro i y _ hm; exact absurd hm (Nat.not_lt_zero _)
  | succ m ih =>
    intro i y hi hm
    by_cases c : i < 6
    · have lt : nI i < 6 := nI_lt (b := 6) c (by decide)
      by_cases z : ((x >>> (nI i &&& 31)) &&& 1) = 1
      · obtain ⟨v, r⟩ := ih (i + 1) (y + 8 * T.2 55 (3 * i + 20)) (by omega) (by omega)
        refine ⟨v, fun k => ?_⟩
        rw [l_X12_plans_k2_19, if_pos lt, if_pos z, ixT_0 (by omega), fb_s, fv_s, nI_1]; exact r k
      · obtain ⟨v, r⟩ := ih (i + 1) (y + 0) (by omega) (by omega)
        refine ⟨v, fun k => ?_⟩
        rw [l_X12_plans_k2_19, if_pos lt, if_neg z, fv_s, nI_1]; exact r k
    · obtain rfl : i = 6 := by omega
      refine ⟨y, fun k => ?_⟩
      rw [l_X12_plans_k2_19, if_neg (by decide)]
theorem p97_2 : ∀ (m i : Nat) (T : FS), i ≤ 2 → 2 - i < m → ∃ T' : FS, EP T T' ∧ ∀ k, l_X12_plans_k2_97 k m T (nI i) = k T' (nI 2) := by
  intro m
  induction m with
  | zero => intro i T _ hm; exact absurd hm (Nat.not_lt_zero _)
  | succ m ih =>
    intro i T hi hm
    by_cases c : i < 2
    · obtain ⟨T', r1, r2⟩ := ih (i + 1) (wA T 68 i (T.2 67 i)) (by omega) (by omega)
      refine ⟨T', (EP.wA (by omega)).tr r1, fun k => ?_⟩
      rw [l_X12_plans_k2_97, if_pos (show nI i < 2 from nI_lt (b := 2) c (by decide)), ix_nI (show i < 8 by omega) (by decide), fb_s, fl_s, nI_1]; exact r2 k
    · obtain rfl : i = 2 := by omega
      refine ⟨T, EP.rf, fun k => ?_⟩
      rw [l_X12_plans_k2_97, if_neg (by decide)]
theorem p83_2 (T : FS) (x : Int32) : ∃ T' : FS, EP T T' ∧ j_X12_plans_k2_83 x T = some (0, T') := by
  unfold j_X12_plans_k2_83
  simp only [fl_s]
  obtain ⟨T', r1, r2⟩ := p97_2 FU 0 (wI (wI T 20 1) 19 x) (by omega) (FU_lt (by omega))
  exact ⟨T', ((EP.wI (by omega)).tr (EP.wI (by omega))).tr r1, r2 _⟩
theorem p130_2 {x : Int32} : ∀ (m i : Nat) (y : Int32), i ≤ 6 → 6 - i < m → ∃ v : Int32, ∀ k, l_X12_plans_k2_130 x k m T y (nI i) = k T v (nI 6) := by
  intro m
  induction m with
  | zero => intro i y _ hm; exact absurd hm (Nat.not_lt_zero _)
  | succ m ih =>
    intro i y hi hm
    by_cases c : i < 6
    · have lt : nI i < 6 := nI_lt (b := 6) c (by decide)
      by_cases z : ((x >>> (nI i &&& 31)) &&& 1) = 1
      · obtain ⟨v, r⟩ := ih (i + 1) (y + T.2 55 (3 * i + 20)) (by omega) (by omega)
        refine ⟨v, fun k => ?_⟩
        rw [l_X12_plans_k2_130, if_pos lt, if_pos z, ixT_0 (by omega), fb_s, fv_s, nI_1]; exact r k
      · obtain ⟨v, r⟩ := ih (i + 1) (y + 0) (by omega) (by omega)
        refine ⟨v, fun k => ?_⟩
        rw [l_X12_plans_k2_130, if_pos lt, if_neg z, fv_s, nI_1]; exact r k
    · obtain rfl : i = 6 := by omega
      refine ⟨y, fun k => ?_⟩
      rw [l_X12_plans_k2_130, if_neg (by decide)]
theorem p177_2 {x y : Int32} {s sz : Nat} (hs : s < 4) (hz : sz ≤ 8) (hq : 3 ≤ sz) : ∀ (m i : Nat) (T : FS), i ≤ 7 → 7 - i < m → T.1 18 = nI s → T.2 71 s = nI sz → ∃ T' : FS, EP T T' ∧ ∀ k, l_X12_plans_k2_177 x y k m T (nI i - 1) = k T' (nI 6) := by
  intro m
  induction m with
  | zero => intro i T _ hm; exact absurd hm (Nat.not_lt_zero _)
  | succ m ih =>
    intro i T hi hm e8 ez
    have jx : ix 96 ((24 : Int32) * T.1 18 + 2) = some (24 * s + 2) := by rw [e8]; exact ix96 (i := 2) hs (by decide)
    have nx : i < 7 → ∀ (T1 : FS), EP T T1 → ∃ T' : FS, EP T T' ∧ ∀ k, l_X12_plans_k2_177 x y k m T1 (nI (i + 1) - 1) = k T' (nI 6) := fun hi7 T1 e => by
      by_cases c : i + 1 ≤ 7
      · obtain ⟨T', r1, r2⟩ := ih (i + 1) T1 c (by omega) (by rw [e.1 18 (by decide) (by decide)]; exact e8) (by rw [e.2 71 (by decide) (by decide)]; exact ez)
        exact ⟨T', e.tr r1, r2⟩
      · exact absurd hi7 (by omega)
    cases i with
    | zero =>
      have st : ∀ k, l_X12_plans_k2_177 x y k (m + 1) T (nI 0 - 1) = _ := fun k => by
        rw [l_X12_plans_k2_177, if_pos (by decide), if_pos (by decide), jx, fb_s, fv_s, show (nI 0 - 1 + 1 : Int32) = nI (0 + 1) - 1 from by decide]
      by_cases z : y - T.2 72 (24 * s + 2) + 0 < 0
      · obtain ⟨T', r1, r2⟩ := nx (by omega) T EP.rf
        exact ⟨T', r1, fun k => by rw [st, if_pos z]; exact r2 k⟩
      · obtain ⟨T1, p1, p2⟩ := pl_3 hs hz hq (wA T 67 2 (nI 0 - 1)) x (y - T.2 72 (24 * s + 2) + 0) e8 ez
        obtain ⟨T', r1, r2⟩ := nx (by omega) T1 ((EP.wA (by omega)).tr p1)
        exact ⟨T', r1, fun k => by rw [st, if_neg z, fl_s, p2, fb_s]; exact r2 k⟩
    | succ j =>
      by_cases c : j < 6
      · have lt : nI j < 6 := nI_lt (b := 6) c (by decide)
        have st : ∀ k, l_X12_plans_k2_177 x y k (m + 1) T (nI (j + 1) - 1) = _ := fun k => by
          rw [l_X12_plans_k2_177, nI_pred, if_pos lt, if_neg (nI_pos (show j < 2 ^ 31 by omega)), jx, ixT_0 (show j < 10 by omega), fb_s, fb_s, fv_s, nI_1, ← nI_pred (j + 1)]
        by_cases b : ((x >>> (nI j &&& 31)) &&& 1) = 0
        · obtain ⟨T', r1, r2⟩ := nx (by omega) T EP.rf
          exact ⟨T', r1, fun k => by rw [st, if_pos b]; exact r2 k⟩
        · by_cases z : y - T.2 72 (24 * s + 2) + 4 * T.2 55 (3 * j + 20) < 0
          · obtain ⟨T', r1, r2⟩ := nx (by omega) T EP.rf
            exact ⟨T', r1, fun k => by rw [st, if_neg b, if_pos z]; exact r2 k⟩
          · obtain ⟨T1, p1, p2⟩ := pl_3 hs hz hq (wA T 67 2 (nI j)) (x &&& (((1 : Int32) <<< (nI j &&& 31)) ^^^ (-1))) (y - T.2 72 (24 * s + 2) + 4 * T.2 55 (3 * j + 20)) e8 ez
            obtain ⟨T', r1, r2⟩ := nx (by omega) T1 ((EP.wA (by omega)).tr p1)
            exact ⟨T', r1, fun k => by rw [st, if_neg b, if_neg z, fl_s, p2, fb_s]; exact r2 k⟩
      · obtain rfl : j = 6 := by omega
        refine ⟨T, EP.rf, fun k => ?_⟩
        rw [l_X12_plans_k2_177, nI_pred, if_neg (by decide)]
theorem pl_2 {s sz : Nat} (hs : s < 4) (hz : sz ≤ 8) (hq : 2 ≤ sz) (T : FS) (x y : Int32) (e8 : T.1 18 = nI s) (ez : T.2 71 s = nI sz) : ∃ T' : FS, EP T T' ∧ f_X12_plans_k2 T x y = some (0, T') := by
  unfold f_X12_plans_k2
  rw [e8, ix_nI hs (by decide), fb_s, ez]
  by_cases c : sz = 2
  · rw [if_pos (show (2 : Int32) = nI sz by rw [c]; rfl)]
    obtain ⟨v, r⟩ := p19_2 (T := T) (x := x) FU 0 y (by omega) (FU_lt (by omega))
    rw [show ∀ k, l_X12_plans_k2_19 x k FU T y 0 = k T v (nI 6) from r]
    split
    · exact p83_2 T v
    · split
      · exact p83_2 T v
      · exact ⟨T, EP.rf, rfl⟩
  · rw [if_neg (show ¬ (2 : Int32) = nI sz from fun q => c (nI_inj (a := sz) (b := 2) (by omega) (by decide) q.symm))]
    obtain ⟨v, r⟩ := p130_2 (T := T) (x := x) FU 0 y (by omega) (FU_lt (by omega))
    obtain ⟨T', p1, p2⟩ := p177_2 (x := x) (y := v) hs hz (show 3 ≤ sz by omega) FU 0 T (by omega) (FU_lt (by omega)) e8 ez
    refine ⟨T', p1, ?_⟩
    rw [show ∀ k, l_X12_plans_k2_130 x k FU T y 0 = k T v (nI 6) from r]
    exact p2 _
theorem p19_1 {x : Int32} : ∀ (m i : Nat) (y : Int32), i ≤ 6 → 6 - i < m → ∃ v : Int32, ∀ k, l_X12_plans_k1_19 x k m T y (nI i) = k T v (nI 6) := by
  intro m
  induction m with
  | zero => intro i y _ hm; exact absurd hm (Nat.not_lt_zero _)
  | succ m ih =>
    intro i y hi hm
    by_cases c : i < 6
    · have lt : nI i < 6 := nI_lt (b := 6) c (by decide)
      by_cases z : ((x >>> (nI i &&& 31)) &&& 1) = 1
      · obtain ⟨v, r⟩ := ih (i + 1) (y + 8 * T.2 55 (3 * i + 20)) (by omega) (by omega)
        refine ⟨v, fun k => ?_⟩
        rw [l_X12_plans_k1_19, if_pos lt, if_pos z, ixT_0 (by omega), fb_s, fv_s, nI_1]; exact r k
      · obtain ⟨v, r⟩ := ih (i + 1) (y + 0) (by omega) (by omega)
        refine ⟨v, fun k => ?_⟩
        rw [l_X12_plans_k1_19, if_pos lt, if_neg z, fv_s, nI_1]; exact r k
    · obtain rfl : i = 6 := by omega
      refine ⟨y, fun k => ?_⟩
      rw [l_X12_plans_k1_19, if_neg (by decide)]
theorem p97_1 : ∀ (m i : Nat) (T : FS), i ≤ 1 → 1 - i < m → ∃ T' : FS, EP T T' ∧ ∀ k, l_X12_plans_k1_97 k m T (nI i) = k T' (nI 1) := by
  intro m
  induction m with
  | zero => intro i T _ hm; exact absurd hm (Nat.not_lt_zero _)
  | succ m ih =>
    intro i T hi hm
    by_cases c : i < 1
    · obtain ⟨T', r1, r2⟩ := ih (i + 1) (wA T 68 i (T.2 67 i)) (by omega) (by omega)
      refine ⟨T', (EP.wA (by omega)).tr r1, fun k => ?_⟩
      rw [l_X12_plans_k1_97, if_pos (show nI i < 1 from nI_lt (b := 1) c (by decide)), ix_nI (show i < 8 by omega) (by decide), fb_s, fl_s, nI_1]; exact r2 k
    · obtain rfl : i = 1 := by omega
      refine ⟨T, EP.rf, fun k => ?_⟩
      rw [l_X12_plans_k1_97, if_neg (by decide)]
theorem p83_1 (T : FS) (x : Int32) : ∃ T' : FS, EP T T' ∧ j_X12_plans_k1_83 x T = some (0, T') := by
  unfold j_X12_plans_k1_83
  simp only [fl_s]
  obtain ⟨T', r1, r2⟩ := p97_1 FU 0 (wI (wI T 20 1) 19 x) (by omega) (FU_lt (by omega))
  exact ⟨T', ((EP.wI (by omega)).tr (EP.wI (by omega))).tr r1, r2 _⟩
theorem p130_1 {x : Int32} : ∀ (m i : Nat) (y : Int32), i ≤ 6 → 6 - i < m → ∃ v : Int32, ∀ k, l_X12_plans_k1_130 x k m T y (nI i) = k T v (nI 6) := by
  intro m
  induction m with
  | zero => intro i y _ hm; exact absurd hm (Nat.not_lt_zero _)
  | succ m ih =>
    intro i y hi hm
    by_cases c : i < 6
    · have lt : nI i < 6 := nI_lt (b := 6) c (by decide)
      by_cases z : ((x >>> (nI i &&& 31)) &&& 1) = 1
      · obtain ⟨v, r⟩ := ih (i + 1) (y + T.2 55 (3 * i + 20)) (by omega) (by omega)
        refine ⟨v, fun k => ?_⟩
        rw [l_X12_plans_k1_130, if_pos lt, if_pos z, ixT_0 (by omega), fb_s, fv_s, nI_1]; exact r k
      · obtain ⟨v, r⟩ := ih (i + 1) (y + 0) (by omega) (by omega)
        refine ⟨v, fun k => ?_⟩
        rw [l_X12_plans_k1_130, if_pos lt, if_neg z, fv_s, nI_1]; exact r k
    · obtain rfl : i = 6 := by omega
      refine ⟨y, fun k => ?_⟩
      rw [l_X12_plans_k1_130, if_neg (by decide)]
theorem p177_1 {x y : Int32} {s sz : Nat} (hs : s < 4) (hz : sz ≤ 8) (hq : 2 ≤ sz) : ∀ (m i : Nat) (T : FS), i ≤ 7 → 7 - i < m → T.1 18 = nI s → T.2 71 s = nI sz → ∃ T' : FS, EP T T' ∧ ∀ k, l_X12_plans_k1_177 x y k m T (nI i - 1) = k T' (nI 6) := by
  intro m
  induction m with
  | zero => intro i T _ hm; exact absurd hm (Nat.not_lt_zero _)
  | succ m ih =>
    intro i T hi hm e8 ez
    have jx : ix 96 ((24 : Int32) * T.1 18 + 1) = some (24 * s + 1) := by rw [e8]; exact ix96 (i := 1) hs (by decide)
    have nx : i < 7 → ∀ (T1 : FS), EP T T1 → ∃ T' : FS, EP T T' ∧ ∀ k, l_X12_plans_k1_177 x y k m T1 (nI (i + 1) - 1) = k T' (nI 6) := fun hi7 T1 e => by
      by_cases c : i + 1 ≤ 7
      · obtain ⟨T', r1, r2⟩ := ih (i + 1) T1 c (by omega) (by rw [e.1 18 (by decide) (by decide)]; exact e8) (by rw [e.2 71 (by decide) (by decide)]; exact ez)
        exact ⟨T', e.tr r1, r2⟩
      · exact absurd hi7 (by omega)
    cases i with
    | zero =>
      have st : ∀ k, l_X12_plans_k1_177 x y k (m + 1) T (nI 0 - 1) = _ := fun k => by
        rw [l_X12_plans_k1_177, if_pos (by decide), if_pos (by decide), jx, fb_s, fv_s, show (nI 0 - 1 + 1 : Int32) = nI (0 + 1) - 1 from by decide]
      by_cases z : y - T.2 72 (24 * s + 1) + 0 < 0
      · obtain ⟨T', r1, r2⟩ := nx (by omega) T EP.rf
        exact ⟨T', r1, fun k => by rw [st, if_pos z]; exact r2 k⟩
      · obtain ⟨T1, p1, p2⟩ := pl_2 hs hz hq (wA T 67 1 (nI 0 - 1)) x (y - T.2 72 (24 * s + 1) + 0) e8 ez
        obtain ⟨T', r1, r2⟩ := nx (by omega) T1 ((EP.wA (by omega)).tr p1)
        exact ⟨T', r1, fun k => by rw [st, if_neg z, fl_s, p2, fb_s]; exact r2 k⟩
    | succ j =>
      by_cases c : j < 6
      · have lt : nI j < 6 := nI_lt (b := 6) c (by decide)
        have st : ∀ k, l_X12_plans_k1_177 x y k (m + 1) T (nI (j + 1) - 1) = _ := fun k => by
          rw [l_X12_plans_k1_177, nI_pred, if_pos lt, if_neg (nI_pos (show j < 2 ^ 31 by omega)), jx, ixT_0 (show j < 10 by omega), fb_s, fb_s, fv_s, nI_1, ← nI_pred (j + 1)]
        by_cases b : ((x >>> (nI j &&& 31)) &&& 1) = 0
        · obtain ⟨T', r1, r2⟩ := nx (by omega) T EP.rf
          exact ⟨T', r1, fun k => by rw [st, if_pos b]; exact r2 k⟩
        · by_cases z : y - T.2 72 (24 * s + 1) + 4 * T.2 55 (3 * j + 20) < 0
          · obtain ⟨T', r1, r2⟩ := nx (by omega) T EP.rf
            exact ⟨T', r1, fun k => by rw [st, if_neg b, if_pos z]; exact r2 k⟩
          · obtain ⟨T1, p1, p2⟩ := pl_2 hs hz hq (wA T 67 1 (nI j)) (x &&& (((1 : Int32) <<< (nI j &&& 31)) ^^^ (-1))) (y - T.2 72 (24 * s + 1) + 4 * T.2 55 (3 * j + 20)) e8 ez
            obtain ⟨T', r1, r2⟩ := nx (by omega) T1 ((EP.wA (by omega)).tr p1)
            exact ⟨T', r1, fun k => by rw [st, if_neg b, if_neg z, fl_s, p2, fb_s]; exact r2 k⟩
      · obtain rfl : j = 6 := by omega
        refine ⟨T, EP.rf, fun k => ?_⟩
        rw [l_X12_plans_k1_177, nI_pred, if_neg (by decide)]
theorem pl_1 {s sz : Nat} (hs : s < 4) (hz : sz ≤ 8) (hq : 1 ≤ sz) (T : FS) (x y : Int32) (e8 : T.1 18 = nI s) (ez : T.2 71 s = nI sz) : ∃ T' : FS, EP T T' ∧ f_X12_plans_k1 T x y = some (0, T') := by
  unfold f_X12_plans_k1
  rw [e8, ix_nI hs (by decide), fb_s, ez]
  by_cases c : sz = 1
  · rw [if_pos (show (1 : Int32) = nI sz by rw [c]; rfl)]
    obtain ⟨v, r⟩ := p19_1 (T := T) (x := x) FU 0 y (by omega) (FU_lt (by omega))
    rw [show ∀ k, l_X12_plans_k1_19 x k FU T y 0 = k T v (nI 6) from r]
    split
    · exact p83_1 T v
    · split
      · exact p83_1 T v
      · exact ⟨T, EP.rf, rfl⟩
  · rw [if_neg (show ¬ (1 : Int32) = nI sz from fun q => c (nI_inj (a := sz) (b := 1) (by omega) (by decide) q.symm))]
    obtain ⟨v, r⟩ := p130_1 (T := T) (x := x) FU 0 y (by omega) (FU_lt (by omega))
    obtain ⟨T', p1, p2⟩ := p177_1 (x := x) (y := v) hs hz (show 2 ≤ sz by omega) FU 0 T (by omega) (FU_lt (by omega)) e8 ez
    refine ⟨T', p1, ?_⟩
    rw [show ∀ k, l_X12_plans_k1_130 x k FU T y 0 = k T v (nI 6) from r]
    exact p2 _
theorem p19_0 {x : Int32} : ∀ (m i : Nat) (y : Int32), i ≤ 6 → 6 - i < m → ∃ v : Int32, ∀ k, l_X12_plans_k0_19 x k m T y (nI i) = k T v (nI 6) := by
  intro m
  induction m with
  | zero => intro i y _ hm; exact absurd hm (Nat.not_lt_zero _)
  | succ m ih =>
    intro i y hi hm
    by_cases c : i < 6
    · have lt : nI i < 6 := nI_lt (b := 6) c (by decide)
      by_cases z : ((x >>> (nI i &&& 31)) &&& 1) = 1
      · obtain ⟨v, r⟩ := ih (i + 1) (y + 8 * T.2 55 (3 * i + 20)) (by omega) (by omega)
        refine ⟨v, fun k => ?_⟩
        rw [l_X12_plans_k0_19, if_pos lt, if_pos z, ixT_0 (by omega), fb_s, fv_s, nI_1]; exact r k
      · obtain ⟨v, r⟩ := ih (i + 1) (y + 0) (by omega) (by omega)
        refine ⟨v, fun k => ?_⟩
        rw [l_X12_plans_k0_19, if_pos lt, if_neg z, fv_s, nI_1]; exact r k
    · obtain rfl : i = 6 := by omega
      refine ⟨y, fun k => ?_⟩
      rw [l_X12_plans_k0_19, if_neg (by decide)]
theorem p97_0 : ∀ (m i : Nat) (T : FS), i ≤ 0 → 0 - i < m → ∃ T' : FS, EP T T' ∧ ∀ k, l_X12_plans_k0_97 k m T (nI i) = k T' (nI 0) := by
  intro m
  induction m with
  | zero => intro i T _ hm; exact absurd hm (Nat.not_lt_zero _)
  | succ m ih =>
    intro i T hi hm
    by_cases c : i < 0
    · obtain ⟨T', r1, r2⟩ := ih (i + 1) (wA T 68 i (T.2 67 i)) (by omega) (by omega)
      refine ⟨T', (EP.wA (by omega)).tr r1, fun k => ?_⟩
      rw [l_X12_plans_k0_97, if_pos (show nI i < 0 from nI_lt (b := 0) c (by decide)), ix_nI (show i < 8 by omega) (by decide), fb_s, fl_s, nI_1]; exact r2 k
    · obtain rfl : i = 0 := by omega
      refine ⟨T, EP.rf, fun k => ?_⟩
      rw [l_X12_plans_k0_97, if_neg (by decide)]
theorem p83_0 (T : FS) (x : Int32) : ∃ T' : FS, EP T T' ∧ j_X12_plans_k0_83 x T = some (0, T') := by
  unfold j_X12_plans_k0_83
  simp only [fl_s]
  obtain ⟨T', r1, r2⟩ := p97_0 FU 0 (wI (wI T 20 1) 19 x) (by omega) (FU_lt (by omega))
  exact ⟨T', ((EP.wI (by omega)).tr (EP.wI (by omega))).tr r1, r2 _⟩
theorem p130_0 {x : Int32} : ∀ (m i : Nat) (y : Int32), i ≤ 6 → 6 - i < m → ∃ v : Int32, ∀ k, l_X12_plans_k0_130 x k m T y (nI i) = k T v (nI 6) := by
  intro m
  induction m with
  | zero => intro i y _ hm; exact absurd hm (Nat.not_lt_zero _)
  | succ m ih =>
    intro i y hi hm
    by_cases c : i < 6
    · have lt : nI i < 6 := nI_lt (b := 6) c (by decide)
      by_cases z : ((x >>> (nI i &&& 31)) &&& 1) = 1
      · obtain ⟨v, r⟩ := ih (i + 1) (y + T.2 55 (3 * i + 20)) (by omega) (by omega)
        refine ⟨v, fun k => ?_⟩
        rw [l_X12_plans_k0_130, if_pos lt, if_pos z, ixT_0 (by omega), fb_s, fv_s, nI_1]; exact r k
      · obtain ⟨v, r⟩ := ih (i + 1) (y + 0) (by omega) (by omega)
        refine ⟨v, fun k => ?_⟩
        rw [l_X12_plans_k0_130, if_pos lt, if_neg z, fv_s, nI_1]; exact r k
    · obtain rfl : i = 6 := by omega
      refine ⟨y, fun k => ?_⟩
      rw [l_X12_plans_k0_130, if_neg (by decide)]
theorem p177_0 {x y : Int32} {s sz : Nat} (hs : s < 4) (hz : sz ≤ 8) (hq : 1 ≤ sz) : ∀ (m i : Nat) (T : FS), i ≤ 7 → 7 - i < m → T.1 18 = nI s → T.2 71 s = nI sz → ∃ T' : FS, EP T T' ∧ ∀ k, l_X12_plans_k0_177 x y k m T (nI i - 1) = k T' (nI 6) := by
  intro m
  induction m with
  | zero => intro i T _ hm; exact absurd hm (Nat.not_lt_zero _)
  | succ m ih =>
    intro i T hi hm e8 ez
    have jx : ix 96 ((24 : Int32) * T.1 18 + 0) = some (24 * s + 0) := by rw [e8]; exact ix96 (i := 0) hs (by decide)
    have nx : i < 7 → ∀ (T1 : FS), EP T T1 → ∃ T' : FS, EP T T' ∧ ∀ k, l_X12_plans_k0_177 x y k m T1 (nI (i + 1) - 1) = k T' (nI 6) := fun hi7 T1 e => by
      by_cases c : i + 1 ≤ 7
      · obtain ⟨T', r1, r2⟩ := ih (i + 1) T1 c (by omega) (by rw [e.1 18 (by decide) (by decide)]; exact e8) (by rw [e.2 71 (by decide) (by decide)]; exact ez)
        exact ⟨T', e.tr r1, r2⟩
      · exact absurd hi7 (by omega)
    cases i with
    | zero =>
      have st : ∀ k, l_X12_plans_k0_177 x y k (m + 1) T (nI 0 - 1) = _ := fun k => by
        rw [l_X12_plans_k0_177, if_pos (by decide), if_pos (by decide), jx, fb_s, fv_s, show (nI 0 - 1 + 1 : Int32) = nI (0 + 1) - 1 from by decide]
      by_cases z : y - T.2 72 (24 * s + 0) + 0 < 0
      · obtain ⟨T', r1, r2⟩ := nx (by omega) T EP.rf
        exact ⟨T', r1, fun k => by rw [st, if_pos z]; exact r2 k⟩
      · obtain ⟨T1, p1, p2⟩ := pl_1 hs hz hq (wA T 67 0 (nI 0 - 1)) x (y - T.2 72 (24 * s + 0) + 0) e8 ez
        obtain ⟨T', r1, r2⟩ := nx (by omega) T1 ((EP.wA (by omega)).tr p1)
        exact ⟨T', r1, fun k => by rw [st, if_neg z, fl_s, p2, fb_s]; exact r2 k⟩
    | succ j =>
      by_cases c : j < 6
      · have lt : nI j < 6 := nI_lt (b := 6) c (by decide)
        have st : ∀ k, l_X12_plans_k0_177 x y k (m + 1) T (nI (j + 1) - 1) = _ := fun k => by
          rw [l_X12_plans_k0_177, nI_pred, if_pos lt, if_neg (nI_pos (show j < 2 ^ 31 by omega)), jx, ixT_0 (show j < 10 by omega), fb_s, fb_s, fv_s, nI_1, ← nI_pred (j + 1)]
        by_cases b : ((x >>> (nI j &&& 31)) &&& 1) = 0
        · obtain ⟨T', r1, r2⟩ := nx (by omega) T EP.rf
          exact ⟨T', r1, fun k => by rw [st, if_pos b]; exact r2 k⟩
        · by_cases z : y - T.2 72 (24 * s + 0) + 4 * T.2 55 (3 * j + 20) < 0
          · obtain ⟨T', r1, r2⟩ := nx (by omega) T EP.rf
            exact ⟨T', r1, fun k => by rw [st, if_neg b, if_pos z]; exact r2 k⟩
          · obtain ⟨T1, p1, p2⟩ := pl_1 hs hz hq (wA T 67 0 (nI j)) (x &&& (((1 : Int32) <<< (nI j &&& 31)) ^^^ (-1))) (y - T.2 72 (24 * s + 0) + 4 * T.2 55 (3 * j + 20)) e8 ez
            obtain ⟨T', r1, r2⟩ := nx (by omega) T1 ((EP.wA (by omega)).tr p1)
            exact ⟨T', r1, fun k => by rw [st, if_neg b, if_neg z, fl_s, p2, fb_s]; exact r2 k⟩
      · obtain rfl : j = 6 := by omega
        refine ⟨T, EP.rf, fun k => ?_⟩
        rw [l_X12_plans_k0_177, nI_pred, if_neg (by decide)]
theorem pl_0 {s sz : Nat} (hs : s < 4) (hz : sz ≤ 8) (hq : 0 ≤ sz) (T : FS) (x y : Int32) (e8 : T.1 18 = nI s) (ez : T.2 71 s = nI sz) : ∃ T' : FS, EP T T' ∧ f_X12_plans_k0 T x y = some (0, T') := by
  unfold f_X12_plans_k0
  rw [e8, ix_nI hs (by decide), fb_s, ez]
  by_cases c : sz = 0
  · rw [if_pos (show (0 : Int32) = nI sz by rw [c]; rfl)]
    obtain ⟨v, r⟩ := p19_0 (T := T) (x := x) FU 0 y (by omega) (FU_lt (by omega))
    rw [show ∀ k, l_X12_plans_k0_19 x k FU T y 0 = k T v (nI 6) from r]
    split
    · exact p83_0 T v
    · split
      · exact p83_0 T v
      · exact ⟨T, EP.rf, rfl⟩
  · rw [if_neg (show ¬ (0 : Int32) = nI sz from fun q => c (nI_inj (a := sz) (b := 0) (by omega) (by decide) q.symm))]
    obtain ⟨v, r⟩ := p130_0 (T := T) (x := x) FU 0 y (by omega) (FU_lt (by omega))
    obtain ⟨T', p1, p2⟩ := p177_0 (x := x) (y := v) hs hz (show 1 ≤ sz by omega) FU 0 T (by omega) (FU_lt (by omega)) e8 ez
    refine ⟨T', p1, ?_⟩
    rw [show ∀ k, l_X12_plans_k0_130 x k FU T y 0 = k T v (nI 6) from r]
    exact p2 _
theorem p68_l {s sz : Nat} (hs : s < 4) (hz : sz ≤ 24) (ez : T.2 71 s = nI sz) : ∀ (m i : Nat) (v : Int32), i ≤ sz → sz - i < m → ∃ v' : Int32, (v = 0 → v' = 0) ∧ ∀ k, l_X12_plan_68 (nI s) k m T v (nI i) = k T v' (nI sz) := by
  intro m
  induction m with
  | zero => intro i v _ hm; exact absurd hm (Nat.not_lt_zero _)
  | succ m ih =>
    intro i v hi hm
    have e4 := ix_nI hs (show 4 ≤ 2 ^ 31 by decide)
    by_cases c : i < sz
    · obtain ⟨v0, p1, p2⟩ := ih (i + 1) 0 (by omega) (by omega)
      obtain ⟨v1, q1, q2⟩ := ih (i + 1) 1 (by omega) (by omega)
      by_cases z : v = 0
      · refine ⟨v0, fun _ => p1 rfl, fun k => ?_⟩
        rw [l_X12_plan_68, e4, fb_s, ez, if_pos (nI_lt c (by omega)), if_pos z, nI_1]; exact p2 k
      · by_cases y : p_X12_in T (T.2 72 (24 * s + i)) 0 9999 = 0
        · refine ⟨v0, fun _ => p1 rfl, fun k => ?_⟩
          rw [l_X12_plan_68, e4, fb_s, ez, if_pos (nI_lt c (by omega)), if_neg z, ix96 hs (show i < 24 by omega), fb_s, if_pos y, nI_1]; exact p2 k
        · refine ⟨v1, fun q => absurd q z, fun k => ?_⟩
          rw [l_X12_plan_68, e4, fb_s, ez, if_pos (nI_lt c (by omega)), if_neg z, ix96 hs (show i < 24 by omega), fb_s, if_neg y, nI_1]; exact q2 k
    · obtain rfl : i = sz := by omega
      refine ⟨v, fun q => q, fun k => ?_⟩
      rw [l_X12_plan_68, e4, fb_s, ez, if_neg (nI_nlt (Nat.le_refl _) (by omega))]
theorem p133_l (h : RelR K S (T.2 55)) : ∀ (m i : Nat) (x : Int32), i ≤ 6 → 6 - i < m → ∃ v y : Int32, ∀ k, l_X12_plan_133 k m T x (nI i) = k T v y := by
  intro m
  induction m with
  | zero => intro i x _ hm; exact absurd hm (Nat.not_lt_zero _)
  | succ m ih =>
    intro i x hi hm
    by_cases c : i < 6
    · have lt : nI i < 6 := nI_lt (b := 6) c (by decide)
      by_cases a : nI i < T.2 55 0
      · obtain ⟨v0, y0, p⟩ := ih (i + 1) (x ||| 0) (by omega) (by omega)
        obtain ⟨v1, y1, q⟩ := ih (i + 1) (x ||| ((1 : Int32) <<< (nI i &&& 31))) (by omega) (by omega)
        by_cases b : T.2 55 (3 * i + 21) = -1
        · by_cases d : T.2 55 (3 * i + 22) = 0
          · refine ⟨v1, y1, fun k => ?_⟩
            rw [l_X12_plan_133, if_pos lt, if_pos a, ixT_1 (by omega), fb_s, if_pos b, ixT_2 (by omega), fb_s, if_pos d, fv_s, nI_1]; exact q k
          · refine ⟨v0, y0, fun k => ?_⟩
            rw [l_X12_plan_133, if_pos lt, if_pos a, ixT_1 (by omega), fb_s, if_pos b, ixT_2 (by omega), fb_s, if_neg d, fv_s, nI_1]; exact p k
        · refine ⟨v0, y0, fun k => ?_⟩
          rw [l_X12_plan_133, if_pos lt, if_pos a, ixT_1 (by omega), fb_s, if_neg b, fv_s, nI_1]; exact p k
      · refine ⟨x, nI i, fun k => ?_⟩
        rw [l_X12_plan_133, if_pos lt, if_neg a]
    · obtain rfl : i = 6 := by omega
      refine ⟨x, nI 6, fun k => ?_⟩
      rw [l_X12_plan_133, if_neg (by decide)]
def EPP (T T' : FS) : Prop := (∀ k : Nat, k ≠ 18 → k ≠ 19 → k ≠ 20 → T'.1 k = T.1 k) ∧ ∀ a : Nat, a ≠ 67 → a ≠ 68 → T'.2 a = T.2 a
theorem EPP.me {A B : FS} (h : EPP A B) : ME A B := ⟨⟨⟨h.2 _ (by decide) (by decide), h.2 _ (by decide) (by decide), h.2 _ (by decide) (by decide), h.2 _ (by decide) (by decide), h.2 _ (by decide) (by decide)⟩, h.1 _ (by decide) (by decide) (by decide), h.1 _ (by decide) (by decide) (by decide)⟩, h.2 _ (by decide) (by decide)⟩
theorem planM (h : RelR K S (T.2 55)) (hx : RX S T) : ∃ (v : Int32) (T' : FS), ME T T' ∧ f_X12_plan T za zb = some (v, T') := by
  have td1 : ∃ (v : Int32) (T' : FS), ME T T' ∧ f_X12_finds T 1 = some (v, T') := by
    obtain ⟨T2, f1, f2⟩ := finds_1 T
    exact ⟨_, T2, f2, f1⟩
  unfold f_X12_plan
  simp only [fb_id]
  rcases sh_c S T za with ⟨a1, a2⟩ | ⟨s, hs, rfl, a1, a2, a3, a4, a5⟩
  · rw [if_pos a2]; exact td1
  · obtain ⟨⟨y1, y2⟩, ⟨sz, y3, y4⟩, y5⟩ := hx.1 s hs
    rw [if_neg (show ¬ p_X12_isSheet T (nI s) = 0 by rw [a2]; decide), a3, fb_s, y4]
    by_cases c0 : T.2 70 s = 0
    · rw [if_pos c0]
      obtain ⟨T2, f1, f2⟩ := finds_2 T
      exact ⟨_, T2, f2, f1⟩
    · rw [if_neg c0]
      have go : ∀ v : Int32, (v = 0 ∨ (p_X12_in T (nI sz) 1 8 ≠ 0 ∧ p_X12_in T zb (-1) (nI sz - 1) ≠ 0)) → ∃ (v' : Int32) (T' : FS), ME T T' ∧ j_X12_plan_65 (nI s) zb T v = some (v', T') := by
        intro v hv
        unfold j_X12_plan_65
        simp only [fb_id]
        obtain ⟨v', p1, p2⟩ := p68_l hs (show sz ≤ 24 by omega) y4 FU 0 v (by omega) (FU_lt (by omega))
        show ∃ (v' : Int32) (T' : FS), ME T T' ∧ l_X12_plan_68 (nI s) _ FU T v (nI 0) = some (v', T')
        rw [p2]
        by_cases z : v' = 0
        · rw [if_pos z]; exact td1
        · rw [if_neg z]
          rcases hv with hv | ⟨q1, q2⟩
          · exact absurd (p1 hv) z
          · rcases out_c (nI sz) 1 8 with ⟨o1, o2⟩ | ⟨o1, o2⟩
            · obtain ⟨k, hk, ek⟩ := out_n 1 8 rfl rfl (by decide) (by decide) o1
              have s8 : sz = k := nI_inj (by omega) (by omega) ek
              obtain ⟨x, y, r⟩ := p133_l h FU 0 0 (by omega) (FU_lt (by omega))
              show ∃ (v' : Int32) (T' : FS), ME T T' ∧ l_X12_plan_133 _ FU T 0 (nI 0) = some (v', T')
              rw [r]
              simp only [fl_s]
              obtain ⟨T1, t1, t2⟩ := pl_0 hs (show sz ≤ 8 by omega) (Nat.zero_le _) (wI (wI T 18 (nI s)) 20 0) x ((wI (wI T 18 (nI s)) 20 0).2 55 9) rfl y4
              have ep : EPP T T1 := ⟨fun k k1 k2 k3 => by rw [t1.1 k k2 k3, wI_n k3, wI_n k1], t1.2⟩
              rw [t2, fb_s]
              split
              · obtain ⟨T2, f1, f2⟩ := finds_3 T1
                exact ⟨_, T2, ep.me.tr f2, f1⟩
              · by_cases z2 : zb < 0
                · rw [if_pos z2]; exact ⟨_, T1, ep.me, rfl⟩
                · rw [if_neg z2]
                  obtain ⟨a, ha, rfl⟩ := nI_of z2
                  have a8 : a < 8 := by
                    have q : ¬ nI sz - 1 < nI a := fun z3 => q2 (by unfold p_X12_in; rw [if_neg (fun q => nI_pos ha (Int32.lt_trans q (by decide))), if_pos z3])
                    obtain ⟨n, rfl⟩ : ∃ n : Nat, sz = n + 1 := ⟨sz - 1, by omega⟩
                    rw [nI_pred] at q
                    have : a ≤ n := by
                      apply Classical.byContradiction
                      intro q3; exact q (nI_lt (by omega) ha)
                    omega
                  rw [ix_nI a8 (by decide), fb_s]; exact ⟨_, T1, ep.me, rfl⟩
            · exact absurd (o2 T) q1
      by_cases c1 : p_X12_in T (nI sz) 1 8 = 0
      · rw [if_pos c1]; exact go 0 (Or.inl rfl)
      · rw [if_neg c1]
        by_cases c2 : p_X12_in T zb (-1) (nI sz - 1) = 0
        · rw [if_pos c2]; exact go 0 (Or.inl rfl)
        · rw [if_neg c2]; exact go 1 (Or.inr ⟨c1, c2⟩)
theorem op_plan (h : RelR K S (T.2 55)) (hx : RX S T) : OK1 S T (f_X11_plan S za zb) (f_X12_plan T za zb) := by
  obtain ⟨v, S', a1, a2⟩ := planC (za := za) (zb := zb) hx
  obtain ⟨w, T', b1, b2⟩ := planM (za := za) (zb := zb) h hx
  exact ⟨v, w, S', T', a2, b2, ⟨K, by rw [b1.2]; exact h.ce a1⟩, a1.1, b1.1⟩
end PLA
end
