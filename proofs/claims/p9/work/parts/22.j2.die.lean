section OPD2
variable {K : Nat → Nat} {S T : FS} {za zb zc zd : Int32}
/-- what one knows lies in these cells -/
theorem known_c {S' : FS} {x : Int32} (h1 : ∀ c : Int32, c = 10 ∨ c = 4 ∨ c = 9 → fG 6 20 14 S' x c = fG 6 20 14 S x c) (h2 : S'.2 5 = S.2 5) (h3 : S'.1 102 = S.1 102) : p_X7_knownTo S' x = p_X7_knownTo S x := by
  unfold p_X7_knownTo
  have e : ∀ y : Int32, fG 4 10 10 S' 0 y = fG 4 10 10 S 0 y := fun y => by unfold fG; rw [show S'.2 (4 + 1) = S.2 (4 + 1) from h2]
  simp only [h1 10 (Or.inl rfl), h1 4 (Or.inr (Or.inl rfl)), h1 9 (Or.inr (Or.inr rfl)), h3, e]
theorem op_die (h : RelR K S (T.2 55)) : OK2 S T (f_X11_die S za) (f_X12_die T za) := by
  unfold f_X11_die f_X12_die
  simp only [fb_id]
  obtain ⟨k1, k2, c2⟩ := h.ct 6 2 20 (by decide)
  obtain ⟨w1, w2, c3⟩ := h.ct 8 3 20 (by decide)
  obtain ⟨d1, d2, d3⟩ := h.ct 102 8 2000 (by decide)
  have c7 := (h.ct 18 7 30 (by decide)).2.2
  rcases h.per za with ⟨a1, m1⟩ | ⟨p, hp, rfl, a1, m1⟩
  · simp only [a1, m1, ↓reduceIte]; exact ok_1 h
  · have p20 : p < 20 := by omega
    rcases h.liv hp with ⟨l1, l2, l3⟩ | ⟨l1, l2, l5, l3, l4⟩
    · obtain ⟨T1, e1, g1⟩ := h.knw hp
      have en := e1.2 55 (by decide)
      obtain ⟨⟨x0, x1, x2, x3⟩, ⟨x7, x8, x10, x12, x13⟩, pl, y2, y3, y4, y11, y12⟩ := h.pe p hp
      have f9 : S.2 7 (14 * p + 9) = 0 := by
        rcases pl with ⟨b1, -⟩ | ⟨-, ⟨d, b1, b2⟩, -⟩
        · exact b1
        · rw [l1] at b2; exact absurd b2.symm (nI_m1 (by omega))
      simp only [a1, m1, l2, l3, fb_s, i10, ↓reduceIte, man_7 p20, g1, sets_10 p20, sets_9 p20, sets_7 p20, sets_8 p20, wA_e, fl_s]
      generalize hkv : p_X7_knownTo S (nI p) = kv
      have e8 : upd (T1.2 55) (14 * p + 120) kv 8 = nI (K 8) := by rw [pk_un (by omega), en, d2]
      have e9 : ∀ v1 v2 v3 v4 : Int32, upd (upd (upd (upd (T1.2 55) (14 * p + 120) v1) (14 * p + 119) v2) (14 * p + 117) v3) (14 * p + 118) v4 9 = T.2 55 9 := fun v1 v2 v3 v4 => by
        simp (disch := omega) only [pk_un]; rw [en]
      rw [e8, e9]
      generalize hT2 : wA (wA (wA (wA (wA T1 55 (14 * p + 120) kv) 55 (14 * p + 119) (nI (K 8))) 55 (14 * p + 117) 0) 55 (14 * p + 118) 0) 55 9 (T.2 55 9 + T.2 55 (14 * p + 117)) = T2
      have n2 : T2.2 55 = upd (upd (upd (upd (upd (T.2 55) (14 * p + 120) kv) (14 * p + 119) (nI (K 8))) (14 * p + 117) 0) (14 * p + 118) 0) 9 (T.2 55 9 + T.2 55 (14 * p + 117)) := by
        rw [← hT2]; simp only [wA_e, en]
      have mx2 : MX T T2 := by rw [← hT2]; exact e1.me.1.tr ⟨⟨rfl, rfl, rfl, rfl, rfl⟩, rfl, rfl⟩
      obtain ⟨S3, T3, u1, u2, ⟨u3, u4, u5⟩, ⟨u6, u7, u8⟩, u9, uu, u10⟩ := die_q h hp T2 (fun j q1 q2 => by rw [n2]; simp (disch := omega) only [pk_un]) (by rw [n2]; simp (disch := omega) only [pk_un]) (by rw [n2]; simp (disch := omega) only [pk_un]) (by rw [n2]; simp (disch := omega) only [pk_un])
      have em : (fb (q_X12_man T2 (nI p) 11) (fun x35 => if x35 = 1 then (fb (f_X12_leaves T2 (nI p)) (fun r38 => j_X12_die_105 (nI p) (T.2 55 (14 * p + 117)) r38.2)) else (j_X12_die_105 (nI p) (T.2 55 (14 * p + 117)) T2))) = j_X12_die_105 (nI p) (T.2 55 (14 * p + 117)) T3 := by
        rw [man_11 p20, fb_s]
        rcases u2 with ⟨z, z2⟩ | ⟨z, z2⟩
        · rw [if_pos z, z2, fb_s]
        · rw [if_neg z, z2]
      rw [em, u1, fb_s]
      -- the model's cells behind all of this
      have n3 : ∀ j : Nat, ¬ (1806 ≤ j ∧ j < 1986) → T3.2 55 j = upd (T2.2 55) (14 * p + 121) 0 j := fun j hj => by
        by_cases z : j = 9
        · subst z; rw [u8, pk_un (by omega)]
        · exact u7 j hj z z
      unfold f_X7_bury j_X12_die_105
      simp only [fv_s, fl_s, s6_7 p20, s6_8 p20, s6_10 p20, s6_9 p20, g6_7 p20]
      have f7 : S3.2 7 (14 * p + 7) = T.2 55 (14 * p + 117) := by rw [u5, pk_un (by omega)]; exact x7
      rw [f7]
      generalize hcn : T.2 55 (14 * p + 117) = cn
      have kn : p_X7_knownTo (wA (wI (wA S3 7 (14 * p + 7) 0) 103 ((wA S3 7 (14 * p + 7) 0).1 103 + cn)) 7 (14 * p + 8) 0) (nI p) = kv := by
        rw [← hkv]
        refine known_c (fun c hc => ?_) ?_ ?_
        · rcases hc with rfl | rfl | rfl
          · rw [g6_10 p20, g6_10 p20]; simp only [wA_e, wI_2, u5]; simp (disch := omega) only [pk_un]
          · rw [g6_4 p20, g6_4 p20]; simp only [wA_e, wI_2, u5]; simp (disch := omega) only [pk_un]
          · rw [g6_9 p20, g6_9 p20]; simp only [wA_e, wI_2, u5]; simp (disch := omega) only [pk_un]
        · exact u4.2.2 5 (by decide) (by decide)
        · show S3.1 102 = S.1 102; rw [u3]
      rw [kn]
      generalize hS4 : wA (wA (wA (wI (wA S3 7 (14 * p + 7) 0) 103 ((wA S3 7 (14 * p + 7) 0).1 103 + cn)) 7 (14 * p + 8) 0) 7 (14 * p + 10) kv) 7 (14 * p + 9) 1 = S4
      have s4a : S4.1 = ui S.1 103 (S.1 103 + cn) := by
        rw [← hS4]; show ui S3.1 103 (S3.1 103 + cn) = _; rw [u3]
      have s4b : S4.2 7 = upd (upd (upd (upd (upd (S.2 7) (14 * p + 13) 0) (14 * p + 7) 0) (14 * p + 8) 0) (14 * p + 10) kv) (14 * p + 9) 1 := by
        rw [← hS4]; simp only [wA_e, wI_2, u5]
      have s4c : ∀ a : Nat, a ≠ 7 → S4.2 a = S3.2 a := fun a ha => by
        rw [← hS4]; simp only [wA_n ha, wI_2]
      have cq4 : CQ [7, 9, 19] 103 S S4 := by
        rw [← hS4]
        refine CQ.wA (CQ.wA (CQ.wA (CQ.wI (CQ.wA (S' := S3) ⟨u4.1, u4.2.1, fun q q1 q2 => u4.2.2 q q1 (fun z => q2 ?_)⟩ ?_ ?_) (Or.inl rfl) ?_ ?_) ?_ ?_) ?_ ?_) ?_ ?_
        · simp only [List.mem_cons, List.not_mem_nil, or_false] at z ⊢; omega
        all_goals decide
      have h3 : T3.2 55 3 = nI (K 3) := by rw [n3 3 (by omega), n2]; simp (disch := omega) only [pk_un]; exact w2
      have hpw : RPw K (S4.2 9) (upd (T3.2 55) (14 * p + 119) (-1)) := by
        rw [s4c 9 (by decide), u4.2.2 9 (by decide) (by decide)]
        refine h.pw.pn c3 c2 (fun j j1 j2 => ?_) (fun q hq => ?_)
        · rw [pk_un (by omega), n3 j (by omega), n2]; simp (disch := omega) only [pk_un]
        · by_cases e : q = p
          · subst e; rw [pk_us, l1]
          · rw [pk_un (by omega), n3 _ (by omega), n2]; simp (disch := omega) only [pk_un]
      have e48 : S4.1 8 = nI (K 3) := by rw [s4a]; exact w1
      obtain ⟨S5, T5, ⟨v1, v2⟩, ⟨v3, v4⟩, v5, v6, v7, v8⟩ := die_l (K := K) p20 c3 c2 FU 0 S4 T3 (Nat.zero_le _) (FU_lt (by omega)) h3 hpw (fun w hw => absurd hw (Nat.not_lt_zero _))
      rw [e48, show ∀ k, l_X7_bury_70 (nI p) (nI (K 3)) k FU S4 0 = k S5 (nI (K 3)) from v7, show ∀ k, l_X12_die_107 (nI p) k FU T3 0 = k T5 (nI (K 3)) from v8, fb_s]
      have n5 : ∀ j : Nat, ¬ (1806 ≤ j ∧ j < 1986) → ¬ (390 ≤ j ∧ j < 510) → T5.2 55 j = upd (upd (upd (upd (upd (upd (T.2 55) (14 * p + 120) kv) (14 * p + 119) (nI (K 8))) (14 * p + 117) 0) (14 * p + 118) 0) 9 (T.2 55 9 + cn)) (14 * p + 121) 0 j := fun j q1 q2 => by
        rw [v4 j q2, n3 j q1, n2, hcn]
      have s5 : ∀ a : Nat, a ∈ ctA → a ≠ 9 → S5.2 a = S4.2 a := fun a ha h9 => v2.2.2 a ha (by simp only [List.mem_singleton]; exact h9)
      refine okt (K := K) ?_ (cq4.1.tr v2.1) ((mx2.tr u6).tr v3)
      refine h.onPWQ (cq4.tr ⟨v2.1, v2.2.1, fun q q1 q2 => v2.2.2 q q1 (fun z => q2 ?_)⟩) (fun j j1 j2 j3 j4 _ => ?_) ?_ ?_ ?_ ?_ ?_ ?_ ?_
      · rw [List.mem_singleton] at z; rw [z]; decide
      · rw [n5 j j3 j2]; simp (disch := omega) only [pk_un]
      · rw [v1, s4a, n5 9 (by omega) (by omega)]
        simp (disch := omega) only [pk_un, pk_us]
        rw [← h.1.2]; rfl
      · rw [s5 7 (by decide) (by decide), s4b]
        intro q hq
        have hh := h.pe q hq
        unfold PLv at hh ⊢
        have o := fun (c : Nat) (_ : c < 14) => n5 (14 * q + (110 + c)) (by omega) (by omega)
        rw [show T5.2 55 (14 * q + 110) = _ from o 0 (by decide), show T5.2 55 (14 * q + 111) = _ from o 1 (by decide), show T5.2 55 (14 * q + 112) = _ from o 2 (by decide), show T5.2 55 (14 * q + 113) = _ from o 3 (by decide), show T5.2 55 (14 * q + 114) = _ from o 4 (by decide), show T5.2 55 (14 * q + 115) = _ from o 5 (by decide), show T5.2 55 (14 * q + 116) = _ from o 6 (by decide), show T5.2 55 (14 * q + 117) = _ from o 7 (by decide), show T5.2 55 (14 * q + 118) = _ from o 8 (by decide), show T5.2 55 (14 * q + 119) = _ from o 9 (by decide), show T5.2 55 (14 * q + 120) = _ from o 10 (by decide), show T5.2 55 (14 * q + 121) = _ from o 11 (by decide), show T5.2 55 (14 * q + 122) = _ from o 12 (by decide)]
        by_cases e : q = p
        · subst e
          simp (disch := omega) only [pk_un, pk_us]
          exact ⟨hh.1, ⟨trivial, trivial, trivial, x12, trivial⟩, Or.inr ⟨trivial, ⟨K 8, by omega, rfl⟩, trivial⟩, y2, y3, y4, ⟨0, by decide, rfl⟩, y12⟩
        · simp (disch := omega) only [pk_un]; exact hh
      · refine ⟨?_, h.se.2⟩
        have e1 : pm_cnt (fun q => T5.2 55 (14 * q + 121) == 1) (K 2) = sc (upd (T.2 55) (14 * p + 121) 0) (K 2) := pm_cnt_congr (fun j hj => by
          rw [n5 _ (by omega) (by omega)]
          show (_ == (1 : Int32)) = (upd (T.2 55) (14 * p + 121) 0 (14 * j + 121) == 1)
          by_cases e : j = p
          · subst e; rw [pk_us, pk_us]
          · simp (disch := omega) only [pk_un])
        rw [e1]
        have h9 : sc (T.2 55) (K 2) ≤ 9 := h.se.1
        obtain ⟨v, hv, ev⟩ := y11
        rcases (show v = 0 ∨ v = 1 by omega) with rfl | rfl
        · rw [upd_id (show T.2 55 (14 * p + 121) = 0 from ev)]; exact h9
        · have := sc_0 hp ev; omega
      · rw [s5 7 (by decide) (by decide), s4b]
        refine h.st.same c2 rfl (fun q hq => by simp (disch := omega) only [pk_un]) (fun q hq => ⟨?_, ?_⟩)
        · rw [n5 _ (by omega) (by omega)]; simp (disch := omega) only [pk_un]
        · rw [n5 _ (by omega) (by omega)]; simp (disch := omega) only [pk_un]
      · intro w hw
        have hh := v5 w hw
        simp (disch := omega) only [pk_un] at hh
        obtain ⟨b1, b2⟩ := v6 w hw
        have lv : ∀ x : Int32, x ≠ nI p → vL (K 2) (upd (T5.2 55) (14 * p + 119) (-1)) x → vL (K 2) (T5.2 55) x := fun x hx z => by
          rcases z with z | ⟨q, z1, z2, z3⟩
          · exact Or.inl z
          · refine Or.inr ⟨q, z1, z2, ?_⟩
            rw [pk_un (fun e => hx (by rw [z2, show q = p by omega]))] at z3; exact z3
        exact ⟨hh.1, hh.2.1, hh.2.2.1, hh.2.2.2.1, lv _ b1 hh.2.2.2.2.1, lv _ b2 hh.2.2.2.2.2.1, hh.2.2.2.2.2.2⟩
      · rw [s5 19 (by decide) (by decide), s4c 19 (by decide)]
        exact u9.same c7 rfl (Nat.le_refl _) rfl (fun _ _ => rfl) (fun j j1 j2 => v4 j (by omega))
      · rw [s5 19 (by decide) (by decide), s4c 19 (by decide)]
        refine ⟨?_, uu.same c7 rfl (fun j j1 j2 => v4 j (by omega))⟩
        intro k hk z1 z2
        rw [v4 _ (by omega)] at z2
        obtain ⟨q, q1, q2, q3, q4⟩ := u10 k hk z1 z2
        refine ⟨q, q1, by rw [v4 _ (by omega)]; exact q3, ?_⟩
        rw [n5 _ (by omega) (by omega)]
        simp (disch := omega) only [pk_un]; exact q4
    · simp only [a1, m1, l3, l4, fb_s, i10, ↓reduceIte]; exact ok_3 h
end OPD2
