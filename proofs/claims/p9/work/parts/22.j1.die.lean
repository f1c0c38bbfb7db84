/-! ===== pure: die ===== -/
section OPD
variable {K : Nat → Nat} {S T : FS} {za zb zc zd : Int32}
theorem upd_cm {f : Nat → Int32} {a b : Nat} {x y : Int32} (h : a ≠ b) : upd (upd f a x) b y = upd (upd f b y) a x := by
  funext j
  by_cases c : j = a
  · subst c; rw [pk_un h, pk_us, pk_us]
  · by_cases c2 : j = b
    · subst c2; rw [pk_us, pk_un c, pk_us]
    · rw [pk_un c2, pk_un c, pk_un c, pk_un c2]
/-- nothing of p stands: nothing ends -/
theorem endAll_no (h : PQ K S T) {p : Nat} (hs : ∀ k : Nat, k < K 7 → S.2 19 (5 * k + 4) = 0 → ¬ T.2 55 (6 * k + 1808) < nI (K 8) → T.2 55 (6 * k + 1806) ≠ nI p) : ∀ (m i : Nat) (c : Int32), i ≤ K 7 → K 7 - i < m → ∀ k, l_X0_endAllOf_14 (nI p) 1 (nI (K 7)) k m S c (nI i) = k S c (nI (K 7)) := by
  intro m
  induction m with
  | zero => intro i c _ hm; exact absurd hm (Nat.not_lt_zero _)
  | succ m ih =>
    intro i c hi hm k
    have c7 := h.1
    by_cases ci : i < K 7
    · obtain ⟨i30, st⟩ := h.stn ci
      have e0 : S.2 19 (5 * i) = T.2 55 (6 * i + 1806) := (h.2.2.2.2.2.2 i ci).1.1
      rw [l_X0_endAllOf_14, if_pos (nI_lt ci (by omega)), nI_1]
      rcases st with ⟨s1, s2, s3, s4, s5, s6⟩ | ⟨s1, s2, s3⟩
      · rw [s1, if_neg (by decide), g18_0 i30, e0, if_neg (hs i ci s3 s6)]; exact ih (i + 1) c (by omega) (by omega) k
      · rw [s1, if_pos rfl]; exact ih (i + 1) c (by omega) (by omega) k
    · have ei : i = K 7 := by omega
      subst ei
      rw [l_X0_endAllOf_14, if_neg (nI_nlt (Nat.le_refl _) (by omega))]
/-- the powers of one who died -/
theorem die_l {p : Nat} (hp : p < 20) (c3 : K 3 ≤ 20) (c2 : K 2 ≤ 20) : ∀ (m i : Nat) (S T : FS), i ≤ K 3 → K 3 - i < m → T.2 55 3 = nI (K 3) → RPw K (S.2 9) (upd (T.2 55) (14 * p + 119) (-1)) → (∀ w : Nat, w < i → T.2 55 (6 * w + 391) ≠ nI p ∧ T.2 55 (6 * w + 392) ≠ nI p) →
    ∃ S' T' : FS, (S'.1 = S.1 ∧ CQ [9] 103 S S') ∧ (MX T T' ∧ ∀ j : Nat, ¬ (390 ≤ j ∧ j < 510) → T'.2 55 j = T.2 55 j) ∧ RPw K (S'.2 9) (upd (T'.2 55) (14 * p + 119) (-1)) ∧ (∀ w : Nat, w < K 3 → T'.2 55 (6 * w + 391) ≠ nI p ∧ T'.2 55 (6 * w + 392) ≠ nI p) ∧ (∀ k, l_X7_bury_70 (nI p) (nI (K 3)) k m S (nI i) = k S' (nI (K 3))) ∧ ∀ k, l_X12_die_107 (nI p) k m T (nI i) = k T' (nI (K 3)) := by
  intro m
  induction m with
  | zero => intro i S T _ h; exact absurd h (Nat.not_lt_zero _)
  | succ m ih =>
    intro i S T hi hm h3 hr hd
    by_cases ci : i < K 3
    · have i20 : i < 20 := by omega
      have hri := (hr i ci).1
      have ei1 : S.2 9 (6 * i + 2) = T.2 55 (6 * i + 391) := hri.2.2.1.trans (pk_un (by omega))
      have ei2 : S.2 9 (6 * i + 3) = T.2 55 (6 * i + 392) := hri.2.2.2.1.trans (pk_un (by omega))
      by_cases z1 : T.2 55 (6 * i + 391) = nI p
      · obtain ⟨S1, T1, ⟨a1, a2⟩, ⟨b1, b2⟩, r1, d1, g1, g2⟩ := ih (i + 1) (wA (wA (wA S 9 (6 * i + 3) (-1)) 9 (6 * i + 4) (-1)) 9 (6 * i + 2) (-1)) (wA (wA (wA T 55 (6 * i + 391) (-1)) 55 (6 * i + 392) (-1)) 55 (6 * i + 393) (-1)) (by omega) (by omega) (by simp only [wA_e]; simp (disch := omega) only [pk_un]; exact h3) (by
            simp only [wA_e]
            have := (hr.lent (w := i) (x := -1) (y := -1) c3 c2 ci (Or.inl rfl) (fun _ => rfl)).hold (w := i) (x := -1) c3 c2 ci (Or.inl rfl)
            rw [show upd (upd (upd (upd (T.2 55) (6 * i + 391) (-1)) (6 * i + 392) (-1)) (6 * i + 393) (-1)) (14 * p + 119) (-1) = upd (upd (upd (upd (T.2 55) (14 * p + 119) (-1)) (6 * i + 392) (-1)) (6 * i + 393) (-1)) (6 * i + 391) (-1) by
              rw [upd_cm (a := 6 * i + 393) (by omega), upd_cm (a := 6 * i + 392) (b := 14 * p + 119) (by omega), upd_cm (a := 6 * i + 391) (b := 14 * p + 119) (by omega), upd_cm (a := 6 * i + 391) (b := 6 * i + 392) (by omega), upd_cm (a := 6 * i + 391) (b := 6 * i + 393) (by omega)]]
            exact this) (fun w hw => by
            simp only [wA_e]
            by_cases e : w = i
            · subst e
              simp (disch := omega) only [pk_us, pk_un]
              exact ⟨fun z => nI_m1 (a := p) (by omega) z.symm, fun z => nI_m1 (a := p) (by omega) z.symm⟩
            · simp (disch := omega) only [pk_un]; exact hd w (by omega))
        refine ⟨S1, T1, ⟨a1, (((CQ.rf.wA (by decide) (by decide)).wA (by decide) (by decide)).wA (by decide) (by decide)).tr a2⟩, ⟨MX.tr ⟨⟨rfl, rfl, rfl, rfl, rfl⟩, rfl, rfl⟩ b1, fun j hj => (b2 j hj).trans (by simp only [wA_e]; simp (disch := omega) only [pk_un])⟩, r1, d1, fun k => ?_, fun k => ?_⟩
        · rw [l_X7_bury_70, if_pos (nI_lt ci (by omega)), g8_2 i20, ei1, if_pos z1]
          unfold f_X7_handOver f_X7_setLent
          simp only [fb_s, fl_s, s8_3 i20, s8_4 i20, s8_2 i20, nI_1]; exact g1 k
        · rw [l_X12_die_107, h3, if_pos (nI_lt ci (by omega)), its_1 i20, fb_s, if_pos z1]
          unfold f_X12_comesBack
          simp only [fb_s, makes_1 i20, makes_2 i20, makes_3 i20, nI_1]; exact g2 k
      · by_cases z2 : T.2 55 (6 * i + 392) = nI p
        · obtain ⟨S1, T1, ⟨a1, a2⟩, ⟨b1, b2⟩, r1, d1, g1, g2⟩ := ih (i + 1) (wA (wA S 9 (6 * i + 3) (-1)) 9 (6 * i + 4) (-1)) (wA (wA T 55 (6 * i + 392) (-1)) 55 (6 * i + 393) (-1)) (by omega) (by omega) (by simp only [wA_e]; simp (disch := omega) only [pk_un]; exact h3) (by
            simp only [wA_e]
            have := hr.lent (w := i) (x := -1) (y := -1) c3 c2 ci (Or.inl rfl) (fun _ => rfl)
            rw [show upd (upd (upd (T.2 55) (6 * i + 392) (-1)) (6 * i + 393) (-1)) (14 * p + 119) (-1) = upd (upd (upd (T.2 55) (14 * p + 119) (-1)) (6 * i + 392) (-1)) (6 * i + 393) (-1) by
              rw [upd_cm (a := 6 * i + 393) (by omega), upd_cm (a := 6 * i + 392) (b := 14 * p + 119) (by omega)]]
            exact this) (fun w hw => by
            simp only [wA_e]
            by_cases e : w = i
            · subst e
              simp (disch := omega) only [pk_us, pk_un]
              exact ⟨z1, fun z => nI_m1 (a := p) (by omega) z.symm⟩
            · simp (disch := omega) only [pk_un]; exact hd w (by omega))
          refine ⟨S1, T1, ⟨a1, ((CQ.rf.wA (by decide) (by decide)).wA (by decide) (by decide)).tr a2⟩, ⟨MX.tr ⟨⟨rfl, rfl, rfl, rfl, rfl⟩, rfl, rfl⟩ b1, fun j hj => (b2 j hj).trans (by simp only [wA_e]; simp (disch := omega) only [pk_un])⟩, r1, d1, fun k => ?_, fun k => ?_⟩
          · rw [l_X7_bury_70, if_pos (nI_lt ci (by omega)), g8_2 i20, ei1, if_neg z1, g8_3 i20, ei2, if_pos z2]
            unfold f_X7_setLent
            simp only [fb_s, fl_s, s8_3 i20, s8_4 i20, nI_1]; exact g1 k
          · rw [l_X12_die_107, h3, if_pos (nI_lt ci (by omega)), its_1 i20, fb_s, if_neg z1, its_2 i20, fb_s, if_pos z2]
            unfold f_X12_comesBack
            simp only [fb_s, makes_2 i20, makes_3 i20, nI_1]; exact g2 k
        · obtain ⟨S1, T1, ⟨a1, a2⟩, ⟨b1, b2⟩, r1, d1, g1, g2⟩ := ih (i + 1) S T (by omega) (by omega) h3 hr (fun w hw => by
            by_cases e : w = i
            · subst e; exact ⟨z1, z2⟩
            · exact hd w (by omega))
          refine ⟨S1, T1, ⟨a1, a2⟩, ⟨b1, b2⟩, r1, d1, fun k => ?_, fun k => ?_⟩
          · rw [l_X7_bury_70, if_pos (nI_lt ci (by omega)), g8_2 i20, ei1, if_neg z1, g8_3 i20, ei2, if_neg z2, nI_1]; exact g1 k
          · rw [l_X12_die_107, h3, if_pos (nI_lt ci (by omega)), its_1 i20, fb_s, if_neg z1, its_2 i20, fb_s, if_neg z2, nI_1]; exact g2 k
    · have ei : i = K 3 := by omega
      subst ei
      refine ⟨S, T, ⟨rfl, CQ.rf⟩, ⟨MX.rf, fun _ _ => rfl⟩, hr, hd, fun k => ?_, fun k => ?_⟩
      · rw [l_X7_bury_70, if_neg (nI_nlt (Nat.le_refl _) (by omega))]
      · rw [l_X12_die_107, h3, if_neg (nI_nlt (Nat.le_refl _) (by omega))]
/-- the promises of one who died: class ends them always, the model where one was seated -/
theorem die_q {p : Nat} (h : RelR K S (T.2 55)) (hp : p < K 2) (T1 : FS) (hq : ∀ j : Nat, 1806 ≤ j → j < 1986 → T1.2 55 j = T.2 55 j) (h7 : T1.2 55 7 = T.2 55 7) (h8 : T1.2 55 8 = T.2 55 8) (h11 : T1.2 55 (14 * p + 121) = T.2 55 (14 * p + 121)) :
    ∃ S' T' : FS, f_X0_unseat S (nI p) = some (0, S') ∧ ((T1.2 55 (14 * p + 121) = 1 ∧ f_X12_leaves T1 (nI p) = some (0, T')) ∨ (T1.2 55 (14 * p + 121) ≠ 1 ∧ T' = T1)) ∧ (S'.1 = S.1 ∧ CQ [7, 19] 103 S S' ∧ S'.2 7 = upd (S.2 7) (14 * p + 13) 0) ∧ (MX T1 T' ∧ NQ 1806 1986 9 (upd (T1.2 55) (14 * p + 121) 0) (T'.2 55) ∧ T'.2 55 9 = T1.2 55 9) ∧ RPr K (S'.2 19) (T'.2 55) ∧ RPu K (T'.2 55) ∧ ∀ k : Nat, k < K 7 → S'.2 19 (5 * k + 4) = 0 → ¬ T'.2 55 (6 * k + 1808) < nI (K 8) → ∃ q : Nat, q < K 2 ∧ q ≠ p ∧ T'.2 55 (6 * k + 1806) = nI q ∧ T.2 55 (14 * q + 121) = 1 := by
  have c20 := (h.ct 6 2 20 (by decide)).2.2
  obtain ⟨k1, k2, c7⟩ := h.ct 18 7 30 (by decide)
  have p20 : p < 20 := by omega
  obtain ⟨v, hv, ev⟩ := (h.pe p hp).2.2.2.2.2.2.1
  have e18 : (wA S 7 (14 * p + 13) 0).1 18 = nI (K 7) := k1
  have hq0 : ∀ x : Int32, PQ K (wA S 7 (14 * p + 13) 0) (wA T1 55 (14 * p + 121) x) := fun x => by
    obtain ⟨c7, c8, a1, a2, a3, a4, hr⟩ := PQ.of h
    refine ⟨c7, c8, a1, a2, ?_, ?_, ?_⟩
    · rw [wA_e, pk_un (by omega), h7]; exact a3
    · rw [wA_e, pk_un (by omega), h8]; exact a4
    · rw [wA_e, wA_n (by decide)]; exact hr.same c7 rfl (Nat.le_refl _) rfl (fun _ _ => rfl) (fun j j1 j2 => by rw [pk_un (by omega), hq j j1 j2])
  by_cases s1 : T.2 55 (14 * p + 121) = 1
  · obtain ⟨S', T', c', r1, r2, r3, r4, r5, r6⟩ := leave_loop (K := K) p20 FU 0 _ _ _ _ 0 (Nat.zero_le _) (FU_lt (by omega)) (hq0 0) ⟨CQ.rf, rfl⟩ FR.rf (fun k hk => absurd hk (Nat.not_lt_zero _))
    have r5' := r5 (fun S7 x7_3 x7_5 => some (x7_3, S7))
    have r6' := r6 (fun S10 x10_2 => some (0, S10))
    obtain ⟨n1, n2, n3, n4, n5⟩ := r3
    rw [wA_e] at n1 n3 n4 n5
    refine ⟨S', T', ?_, Or.inl ⟨h11.trans s1, ?_⟩, ⟨r2.2, ?_, ?_⟩, ⟨MX.tr ⟨⟨rfl, rfl, rfl, rfl, rfl⟩, rfl, rfl⟩ n2, n1, by rw [n4, pk_un (by omega)]⟩, r1.2.2.2.2.2.2, h.ps.2.mono c7 rfl (fun k hk => ⟨by rw [(n3 k hk).1, pk_un (by omega), hq _ (by omega) (by omega)], by rw [(n3 k hk).2.1, pk_un (by omega), hq _ (by omega) (by omega)]⟩) (fun k hk z => n5 k hk (by rw [pk_un (by omega), hq _ (by omega) (by omega)]; exact z)), fun k hk z1 z2 => ?_⟩
    · unfold f_X0_unseat f_X0_endAllOf
      rw [s6_13 p20]
      simp only [fl_s, fv_s, e18]
      rw [show l_X0_endAllOf_14 (nI p) 1 (nI (K 7)) (fun S7 x7_3 x7_5 => some (x7_3, S7)) FU (wA S 7 (14 * p + 13) 0) 0 0 = some (c', S') from r5']; rfl
    · unfold f_X12_leaves
      rw [sets_11 p20, fb_s]; exact r6'
    · refine CQ.tr (CQ.rf.wA (a := 7) (j := 14 * p + 13) (v := 0) (by decide) (by decide)) ⟨r2.1.1, r2.1.2.1, fun q q1 q2 => r2.1.2.2 q q1 (fun z => q2 ?_)⟩
      rw [List.mem_singleton] at z; rw [z]; decide
    · rw [r2.1.2.2 7 (by decide) (by decide), wA_e]
    · obtain ⟨y1, y2⟩ := r4 k hk z1
      have y3 := y2 z2
      obtain ⟨t1, t2, t3⟩ := n3 k (by omega)
      rw [wA_n (by decide)] at y1
      rw [t3, pk_un (by omega), hq _ (by omega) (by omega)] at z2
      rw [t1, pk_un (by omega), hq _ (by omega) (by omega)] at y3 ⊢
      obtain ⟨q, x1, x2, x3⟩ := h.ps.1 k hk y1 z2
      exact ⟨q, x1, fun e => y3 (by rw [x2, e]), x2, x3⟩
  · have v0 : T.2 55 (14 * p + 121) = 0 := by
      rcases (show v = 0 ∨ v = 1 by omega) with rfl | rfl
      · exact ev
      · exact absurd ev s1
    have eT : wA T1 55 (14 * p + 121) 0 = T1 := by
      have : upd (T1.2 55) (14 * p + 121) 0 = T1.2 55 := upd_id (h11.trans v0)
      refine Prod.ext rfl (funext fun a => ?_)
      by_cases ea : a = 55
      · subst ea; rw [wA_e, this]
      · exact wA_n ea
    have hqq := hq0 0
    rw [eT] at hqq
    have none_p : ∀ k : Nat, k < K 7 → S.2 19 (5 * k + 4) = 0 → ¬ T.2 55 (6 * k + 1808) < nI (K 8) → T.2 55 (6 * k + 1806) ≠ nI p := fun k hk z1 z2 e => by
      obtain ⟨q, x1, x2, x3⟩ := h.ps.1 k hk z1 z2
      have : q = p := nI_inj (by omega) (by omega) (x2.symm.trans e)
      subst this
      exact s1 x3
    have el := endAll_no hqq (p := p) (fun k hk z1 z2 => by
      rw [wA_n (by decide)] at z1
      rw [hq _ (by omega) (by omega)] at z2 ⊢
      exact none_p k hk z1 z2) FU 0 0 (Nat.zero_le _) (FU_lt (by omega)) (fun S7 x7_3 x7_5 => some (x7_3, S7))
    refine ⟨wA S 7 (14 * p + 13) 0, T1, ?_, Or.inr ⟨by rw [h11]; exact s1, rfl⟩, ⟨rfl, CQ.rf.wA (by decide) (by decide), wA_e⟩, ⟨MX.rf, ?_, rfl⟩, hqq.2.2.2.2.2.2, h.ps.2.same c7 rfl hq, fun k hk z1 z2 => ?_⟩
    · unfold f_X0_unseat f_X0_endAllOf
      rw [s6_13 p20]
      simp only [fl_s, fv_s, e18]
      rw [show l_X0_endAllOf_14 (nI p) 1 (nI (K 7)) (fun S7 x7_3 x7_5 => some (x7_3, S7)) FU (wA S 7 (14 * p + 13) 0) 0 0 = _ from el]; rfl
    · rw [upd_id (h11.trans v0)]; exact NQ.rf
    · rw [wA_n (by decide)] at z1
      rw [hq _ (by omega) (by omega)] at z2 ⊢
      obtain ⟨q, x1, x2, x3⟩ := h.ps.1 k hk z1 z2
      exact ⟨q, x1, fun e => none_p k hk z1 z2 (by rw [x2, e]), x2, x3⟩
end OPD
