/-! ===== pure: draw, found, count ===== -/
section OPK
variable {K : Nat → Nat} {S T : FS} {za zb zc zd : Int32}
theorem in_l {P : Nat} {z : Int32} (hP : P ≤ 20) (h2 : T.2 55 2 = nI P) (h6 : S.1 6 = nI P) (hp : ∀ p : Nat, p < P → (q_X12_lives T (nI p) = some 1 ∧ p_X7_isLiving S (nI p) = 1 ∧ S.2 7 (14 * p + 4) = T.2 55 (14 * p + 114)) ∨ (q_X12_lives T (nI p) = some 0 ∧ p_X7_isLiving S (nI p) = 0)) : ∀ (m i : Nat) (x : Int32), i ≤ P → P - i < m → ∃ v : Int32, (∀ k, l_X7_livingIn_13 z S (nI P) k m x (nI i) = k v (nI P)) ∧ ∀ k, l_X12_thoseIn_4 z T k m x (nI i) = k v (nI P) := by
  intro m
  induction m with
  | zero => intro i x _ h; exact absurd h (Nat.not_lt_zero _)
  | succ m ih =>
    intro i x hi hm
    by_cases c : i < P
    · have i20 : i < 20 := by omega
      rcases hp i c with ⟨a1, a2, a3⟩ | ⟨a1, a2⟩
      · by_cases z1 : T.2 55 (14 * i + 114) = z
        · obtain ⟨v, v1, v2⟩ := ih (i + 1) (x ||| ((1 : Int32) <<< (nI i &&& 31))) (by omega) (by omega)
          refine ⟨v, fun k => ?_, fun k => ?_⟩
          · rw [l_X7_livingIn_13]
            simp only [nI_lt c (show P < 2 ^ 31 by omega), a2, i10, g6_4 i20, a3, z1, fv_s, nI_1, ↓reduceIte]; exact v1 k
          · rw [l_X12_thoseIn_4]
            simp only [h2, nI_lt c (show P < 2 ^ 31 by omega), a1, fb_s, i10, man_4 i20, z1, fv_s, nI_1, ↓reduceIte]; exact v2 k
        · obtain ⟨v, v1, v2⟩ := ih (i + 1) x (by omega) (by omega)
          refine ⟨v, fun k => ?_, fun k => ?_⟩
          · rw [l_X7_livingIn_13]
            simp only [nI_lt c (show P < 2 ^ 31 by omega), a2, i10, g6_4 i20, a3, z1, fv_s, nI_1, ↓reduceIte]; exact v1 k
          · rw [l_X12_thoseIn_4]
            simp only [h2, nI_lt c (show P < 2 ^ 31 by omega), a1, fb_s, i10, man_4 i20, z1, fv_s, nI_1, Int32.or_zero, ↓reduceIte]; exact v2 k
      · obtain ⟨v, v1, v2⟩ := ih (i + 1) x (by omega) (by omega)
        refine ⟨v, fun k => ?_, fun k => ?_⟩
        · rw [l_X7_livingIn_13]
          simp only [nI_lt c (show P < 2 ^ 31 by omega), a2, nI_1, ↓reduceIte]; exact v1 k
        · rw [l_X12_thoseIn_4]
          simp only [h2, nI_lt c (show P < 2 ^ 31 by omega), a1, fb_s, fv_s, nI_1, Int32.or_zero, ↓reduceIte]; exact v2 k
    · have ei : i = P := by omega
      subst ei
      refine ⟨x, fun k => ?_, fun k => ?_⟩
      · rw [l_X7_livingIn_13, if_neg (nI_nlt (Nat.le_refl _) (by omega))]
      · rw [l_X12_thoseIn_4, h2, if_neg (nI_nlt (Nat.le_refl _) (by omega))]
/-- those in a town, on both sides -/
theorem RelR.those (h : RelR K S (T.2 55)) (z : Int32) {S' T' : FS} (h6 : S'.1 6 = S.1 6) (h7 : S'.2 7 = S.2 7) (hn : ∀ j : Nat, j = 2 ∨ (110 ≤ j ∧ j < 390) → T'.2 55 j = T.2 55 j) : ∃ v : Int32, q_X7_livingIn S' z = some v ∧ q_X12_thoseIn T' z = some v := by
  obtain ⟨k1, k2, c2⟩ := h.ct 6 2 20 (by decide)
  obtain ⟨v, v1, v2⟩ := in_l (S := S') (T := T') (z := z) c2 ((hn 2 (Or.inl rfl)).trans k2) (h6.trans k1) (fun p hp => by
    have p20 : p < 20 := by omega
    have e1 : q_X12_lives T' (nI p) = q_X12_lives T (nI p) := by
      unfold q_X12_lives; rw [man_9 p20, man_9 p20, hn _ (by omega)]
    have e2 : p_X7_isLiving S' (nI p) = p_X7_isLiving S (nI p) := by
      unfold p_X7_isLiving fHas; rw [g6_9 p20, g6_9 p20, h6, h7]
    rw [e1, e2, h7, hn _ (by omega)]
    rcases h.liv hp with ⟨l1, l2, l3⟩ | ⟨l1, l2, l5, l3, l4⟩
    · left
      refine ⟨l3, l2, ?_⟩
      rcases (h.pe p hp).2.2.1 with ⟨-, -, a3, -⟩ | ⟨-, ⟨d, a1, a2⟩, -⟩
      · exact a3
      · rw [l1] at a2; exact absurd a2.symm (nI_m1 (by omega))
    · exact Or.inr ⟨l4, l3⟩) FU 0 0 (Nat.zero_le _) (FU_lt (by omega))
  refine ⟨v, ?_, v2 _⟩
  unfold q_X7_livingIn
  rw [fv_s, h6, k1]; exact v1 _
theorem writes_g {p c : Nat} {x : Int32} (h : p < 40) (hc : c < 12) : f_X12_writes T (nI p) (nI c) x = some (0, wA T 55 (12 * p + (1290 + c)) x) := by
  unfold f_X12_writes
  rw [show ix 2071 (((1290 : Int32) + (12 : Int32) * nI p) + nI c) = some (12 * p + (1290 + c)) from ix_lin (b := 1290) (s := 12) (by omega) (by omega) (by decide)]; rfl
theorem draw_l {P : Nat} (hP : P < 40) : ∀ (g i : Nat) (T : FS), i ≤ 12 → 12 - i < g → (∀ c : Nat, c < i → T.2 55 (12 * P + (1290 + c)) = if 4 ≤ c ∧ c ≤ 7 then -1 else 0) →
    ∃ T' : FS, (T'.1 = T.1 ∧ (∀ a : Nat, a ≠ 55 → T'.2 a = T.2 a) ∧ ∀ j : Nat, ¬ (12 * P + 1290 ≤ j ∧ j < 12 * P + 1302) → T'.2 55 j = T.2 55 j) ∧ (∀ c : Nat, c < 12 → T'.2 55 (12 * P + (1290 + c)) = if 4 ≤ c ∧ c ≤ 7 then -1 else 0) ∧ ∀ kk, l_X12_draw_91 (nI P) kk g T (nI i) = kk T' (nI 12) := by
  intro g
  induction g with
  | zero => intro i T _ h; exact absurd h (Nat.not_lt_zero _)
  | succ g ih =>
    intro i T hi hg hm
    by_cases c : i < 12
    · obtain ⟨T1, ⟨e1, e2, e3⟩, m1, g1⟩ := ih (i + 1) (wA T 55 (12 * P + (1290 + i)) (if 4 ≤ i ∧ i ≤ 7 then -1 else 0)) (by omega) (by omega) (fun x hx => by
        rw [wA_e]
        by_cases z : x = i
        · subst z; rw [pk_us]
        · rw [pk_un (by omega)]; exact hm x (by omega))
      refine ⟨T1, ⟨e1, fun a ha => (e2 a ha).trans (wA_n ha), fun j hj => (e3 j hj).trans (by rw [wA_e, pk_un (by omega)])⟩, m1, fun kk => ?_⟩
      have lit : ∀ v : Nat, v < 12 → (nI i = nI v) = (i = v) := fun v hv => propext ⟨fun z => nI_inj (by omega) (by omega) z, fun z => by rw [z]⟩
      rw [l_X12_draw_91, if_pos (show nI i < 12 from nI_lt (b := 12) c (by decide))]
      simp only [show (4 : Int32) = nI 4 from rfl, show (5 : Int32) = nI 5 from rfl, show (6 : Int32) = nI 6 from rfl, show (7 : Int32) = nI 7 from rfl, lit 4 (by decide), lit 5 (by decide), lit 6 (by decide), lit 7 (by decide), writes_g hP c, fb_s, nI_1]
      rw [← g1 kk]
      by_cases z4 : i = 4
      · rw [if_pos z4, if_pos (by omega)]
      · rw [if_neg z4]
        by_cases z5 : i = 5
        · rw [if_pos z5, if_pos (by omega)]
        · rw [if_neg z5]
          by_cases z6 : i = 6
          · rw [if_pos z6, if_pos (by omega)]
          · rw [if_neg z6]
            by_cases z7 : i = 7
            · rw [if_pos z7, if_pos (by omega)]
            · rw [if_neg z7, if_neg (by omega)]
    · have ei : i = 12 := by omega
      subst ei
      refine ⟨T, ⟨rfl, fun _ _ => rfl, fun _ _ => rfl⟩, hm, fun kk => ?_⟩
      rw [l_X12_draw_91, if_neg (by decide)]
theorem op_draw (h : RelR K S (T.2 55)) : OK2 S T (f_X11_draw S za zb zc) (f_X12_draw T za zb zc) := by
  unfold f_X11_draw f_X12_draw
  simp only [fb_id]
  obtain ⟨k1, k2, c2⟩ := h.ct 6 2 20 (by decide)
  obtain ⟨e1, e2, c5⟩ := h.ct 14 5 40 (by decide)
  have c0 := (h.ct 2 0 10 (by decide)).2.2
  rcases h.per za with ⟨a1, m1⟩ | ⟨p, hp, rfl, a1, m1⟩
  · simp only [a1, m1, ↓reduceIte]; exact ok_1 h
  · have p20 : p < 20 := by omega
    rcases out_c zb 0 4 with ⟨b1, b2⟩ | ⟨b1, b2⟩
    · rcases out_c zc 0 999 with ⟨b3, b4⟩ | ⟨b3, b4⟩
      · rcases h.liv hp with ⟨l1, l2, l3⟩ | ⟨l1, l2, l5, l3, l4⟩
        · rcases h.town_of hp l1 with ⟨t1, t2⟩ | ⟨c, hc, t1, t3, t2⟩
          · simp only [a1, m1, b1, b2, b3, b4, l3, fb_s, i10, man_4 p20, t2, t1, ltm1, ↓reduceIte]; exact ok_3 h
          · simp only [a1, m1, b1, b2, b3, b4, l3, fb_s, i10, man_4 p20, t2, t1, nI_pos (show c < 2 ^ 31 by omega), fv_s, e2, ↓reduceIte]
            by_cases z : K 5 = 40
            · rw [fFull_t e1 (by omega) (by omega), if_neg (by decide), if_pos (by rw [z]; rfl)]; exact ok_4 h
            · rw [fFull_f e1 (by omega) (by decide), if_pos rfl, if_neg (fun q => z (nI_inj (by omega) (by decide) (q.trans (show (40 : Int32) = nI 40 from rfl))))]
              have e40 : K 5 < 40 := by omega
              unfold f_X3_write
              rw [fApp_f e1 e40 (by decide), g6_4 p20, t3]
              generalize hS0 : (ui S.1 14 (nI (K 5 + 1)), ua S.2 (14 + 1) (pm_apf 12 (K 5) (nI p) (S.2 (14 + 1)))) = S0
              have s0a : S0.1 = ui S.1 14 (nI (K 5 + 1)) := by rw [← hS0]
              have s0b : S0.2 15 = pm_apf 12 (K 5) (nI p) (S.2 15) := by
                rw [← hS0]
                show ua S.2 15 (pm_apf 12 (K 5) (nI p) (S.2 15)) 15 = _
                rw [ua_eq]
              have cq0 : CQ [15] 14 S S0 := by rw [← hS0]; exact CQ.rf.app (by decide) (by decide) (by decide) (by decide)
              simp only [fv_s, fl_s, fb_s, s14_1 e40, s14_2 e40, s14_3 e40, s14_5 e40, s14_6 e40, s14_8 e40, s14_9 e40, s14_10 e40]
              obtain ⟨T1, ⟨f1, f2, f3⟩, f4, f5⟩ := draw_l e40 FU 0 (wA T 55 5 (nI (K 5) + 1)) (Nat.zero_le _) (FU_lt (by omega)) (fun _ z => absurd z (Nat.not_lt_zero _))
              rw [show ∀ kk, l_X12_draw_91 (nI (K 5)) kk FU (wA T 55 5 (nI (K 5) + 1)) 0 = kk T1 (nI 12) from f5]
              have m4 : ∀ v0 v1 v2 : Int32, upd (upd (upd (T1.2 55) (12 * K 5 + 1290) v0) (12 * K 5 + 1291) v1) (12 * K 5 + 1292) v2 (14 * p + 114) = nI c := fun v0 v1 v2 => by
                simp (disch := omega) only [pk_un]; rw [f3 _ (by omega), wA_e, pk_un (by omega), t1]
              have m4' : ∀ v0 v1 v2 v3 : Int32, upd (upd (upd (upd (T1.2 55) (12 * K 5 + 1290) v0) (12 * K 5 + 1291) v1) (12 * K 5 + 1292) v2) (12 * K 5 + 1300) v3 (14 * p + 114) = nI c := fun v0 v1 v2 v3 => by
                simp (disch := omega) only [pk_un]; rw [f3 _ (by omega), wA_e, pk_un (by omega), t1]
              simp only [fb_s, writes_0 e40, writes_1 e40, writes_2 e40, writes_10 e40, man_4 p20, wA_e, m4, m4']
              obtain ⟨v, v1, v2⟩ := h.those (nI c) (S' := wA (wA (wA S0 15 (12 * K 5 + 1) zb) 15 (12 * K 5 + 2) zc) 15 (12 * K 5 + 3) (nI c)) (T' := wA (wA (wA (wA T1 55 (12 * K 5 + 1290) (nI p)) 55 (12 * K 5 + 1291) zb) 55 (12 * K 5 + 1292) zc) 55 (12 * K 5 + 1300) (nI c)) (by show S0.1 6 = S.1 6; rw [s0a]; rfl) (by show S0.2 7 = S.2 7; exact cq0.2.2 7 (by decide) (by decide)) (fun j hj => by
                simp only [wA_e]; simp (disch := omega) only [pk_un]; rw [f3 _ (by omega), wA_e, pk_un (by omega)])
              rw [v1, v2]
              simp only [fb_s, writes_9 e40]
              refine okt (K := kU K 5 (K 5 + 1)) ?_ ((((((((cq0.wA (by decide) (by decide)).wA (by decide) (by decide)).wA (by decide) (by decide)).wA (by decide) (by decide)).wA (by decide) (by decide)).wA (by decide) (by decide)).wA (by decide) (by decide)).wA (by decide) (by decide)).1 ⟨⟨f2 56 (by decide), f2 69 (by decide), f2 70 (by decide), f2 71 (by decide), f2 72 (by decide)⟩, by show T1.1 22 = _; rw [f1]; rfl, by show T1.1 3 = _; rw [f1]; rfl⟩
              simp only [wA_e]
              generalize hn' : upd (upd (upd (upd (upd (T1.2 55) (12 * K 5 + 1290) (nI p)) (12 * K 5 + 1291) zb) (12 * K 5 + 1292) zc) (12 * K 5 + 1300) (nI c)) (12 * K 5 + 1299) v = n'
              have no : ∀ j : Nat, ¬ (12 * K 5 + 1290 ≤ j ∧ j < 12 * K 5 + 1302) → j ≠ 5 → n' j = T.2 55 j := fun j hj j2 => by
                rw [← hn']
                simp (disch := omega) only [pk_un]
                rw [f3 j hj, wA_e, pk_un j2]
              refine h.onE_5 ((((((((cq0.wA (by decide) (by decide)).wA (by decide) (by decide)).wA (by decide) (by decide)).wA (by decide) (by decide)).wA (by decide) (by decide)).wA (by decide) (by decide)).wA (by decide) (by decide)).wA (by decide) (by decide)) (fun j h1 h2 h3 => no j (by omega) h3) (fun i hi => kU_n hi) (by rw [kU_e]; omega) ?_ (onct 14 5 40 (by decide) ?_ ?_ (by rw [kU_e]; omega)) ?_
              · rw [no 9 (by omega) (by decide)]; show S0.1 103 = _; rw [s0a]; exact h.1.2
              · rw [kU_e]; show S0.1 14 = _; rw [s0a]; rfl
              · rw [kU_e, ← hn']; simp (disch := omega) only [pk_un]; rw [f3 _ (by omega), wA_e, pk_us, nI_1]
              · simp only [wA_e]
                intro q hq
                rw [kU_e] at hq
                rw [kU_n (show (2 : Nat) ≠ 5 by decide), kU_n (show (0 : Nat) ≠ 5 by decide)]
                by_cases e : q = K 5
                · subst e
                  rw [← hn', s0b]
                  simp (disch := omega) only [pk_us, pk_un, apf_0, apf_c]
                  rw [show T1.2 55 (12 * K 5 + 1293) = 0 from f4 3 (by decide), show T1.2 55 (12 * K 5 + 1294) = -1 from f4 4 (by decide), show T1.2 55 (12 * K 5 + 1295) = -1 from f4 5 (by decide), show T1.2 55 (12 * K 5 + 1296) = -1 from f4 6 (by decide), show T1.2 55 (12 * K 5 + 1297) = -1 from f4 7 (by decide), show T1.2 55 (12 * K 5 + 1298) = 0 from f4 8 (by decide)]
                  obtain ⟨kb, hkb, ekb⟩ := out_n 0 4 rfl rfl (by decide) (by decide) b1
                  obtain ⟨kc, hkc, ekc⟩ := out_n 0 999 rfl rfl (by decide) (by decide) b3
                  exact ⟨⟨trivial, trivial, trivial, rfl, rfl⟩, ⟨rfl, rfl, rfl, rfl, trivial⟩, fun _ => trivial, fun z => absurd rfl z, ⟨Or.inl rfl, ⟨c, hc, rfl⟩, ⟨kb, hkb.2, ekb⟩, ⟨kc, hkc.2, ekc⟩, ⟨0, by decide, rfl⟩⟩, fun z => absurd (by decide) z⟩
                · have hh := h.le q (by omega)
                  rw [s0b]
                  simp (disch := omega) only [pk_un, apf_o, no]; exact hh
        · unfold p_X7_isInTown
          simp only [a1, m1, b1, b2, b3, b4, l3, l4, fb_s, i10, ↓reduceIte]; exact ok_3 h
      · simp only [a1, m1, b1, b2, b3, b4, i10, ↓reduceIte]; exact ok_1 h
    · simp only [a1, m1, b1, b2, i10, ↓reduceIte]; exact ok_1 h
theorem op_found (h : RelR K S (T.2 55)) : OK1 S T (f_X11_found S za) (f_X12_found T za) := by
  unfold f_X11_found f_X12_found
  simp only [fb_id]
  rcases out_c za 1 5 with ⟨b1, b2⟩ | ⟨b1, b2⟩
  · obtain ⟨k, hk, rfl⟩ := out_n 1 5 rfl rfl (by decide) (by decide) b1
    have z1 : ¬ nI k < 1 := nI_nlt (b := 1) (by omega) (by omega)
    have z2 : ¬ 5 < nI k := nI_nlt (a := 5) (by omega) (by decide)
    have z3 : nI k < 6 := nI_lt (b := 6) (by omega) (by decide)
    simp only [b2, i10, z1, z2, z3, ↓reduceIte, ix_nI (show k < 6 by omega) (by decide), fb_s]
    exact ⟨_, _, S, T, rfl, rfl, ⟨K, h⟩, CX.rf, MX.rf⟩
  · rw [if_pos (b2 T)]
    have : za < 1 ∨ 5 < za := by
      apply Classical.byContradiction
      intro q
      unfold fOut at b1
      rw [if_neg q] at b1
      exact absurd b1 (by decide)
    by_cases z1 : za < 1
    · rw [if_pos z1]; exact (ok_1 h).one
    · rw [if_neg z1, if_pos (this.resolve_left z1)]; exact (ok_1 h).one
end OPK
