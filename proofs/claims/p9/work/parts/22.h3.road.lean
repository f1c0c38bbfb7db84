/-! ===== pure: road ===== -/
section OPR
variable {K : Nat → Nat} {S T : FS} {za zb zc zd : Int32}
def E5 (T T' : FS) : Prop := T'.1 = T.1 ∧ ∀ a : Nat, a ≠ 5 → T'.2 a = T.2 a
theorem E5.rf : E5 T T := ⟨rfl, fun _ _ => rfl⟩
theorem E5.tr {A B C : FS} (h : E5 A B) (g : E5 B C) : E5 A C := ⟨g.1.trans h.1, fun a ha => (g.2 a ha).trans (h.2 a ha)⟩
theorem E5.w {j : Nat} {v : Int32} : E5 T (wA T 5 j v) := ⟨rfl, fun _ ha => wA_n ha⟩
theorem imin_n {A B : Nat} (hA : A < 2 ^ 31) (hB : B < 2 ^ 31) : imin (nI A) (nI B) = nI (min A B) := mmN hA hB
theorem join_in {W : Nat → Int32} {u a b d i : Nat} (hu : u ≤ 10) (ha : a < u) (hb : b < u) (hi : i < u) (hd : d < 10) : ∀ (g j : Nat) (S : FS), j ≤ u → u - j < g → JI W (S.2 5) u a b d i j →
    ∃ S' : FS, E5 S S' ∧ JI W (S'.2 5) u a b d i u ∧ ∀ k, l_X7_join_22 (nI a) (nI b) (nI d) (nI u) (nI i) k g S (nI j) = k S' (nI u) := by
  intro g
  induction g with
  | zero => intro j S _ h; exact absurd h (Nat.not_lt_zero _)
  | succ g ih =>
    intro j S hj hg h
    by_cases c : j < u
    · have v1 := h.1.at (i := i) (j := a) (by omega) (by omega)
      have v2 := h.1.at (i := b) (j := j) (by omega) (by omega)
      have v3 := h.1.at (i := i) (j := b) (by omega) (by omega)
      have v4 := h.1.at (i := a) (j := j) (by omega) (by omega)
      have v5 := h.1.at (i := i) (j := j) (by omega) (by omega)
      obtain ⟨S1, e1, j1, g1⟩ := ih (j + 1) (wA S 5 (i * 10 + j) (nI (mC (S.2 5) a b d i j))) (by omega) (by omega) (by rw [wA_e]; exact h.step hu ha hb hi c)
      refine ⟨S1, E5.w.tr e1, j1, fun k => ?_⟩
      rw [l_X7_join_22, if_pos (nI_lt c (by omega))]
      simp only [g4 (show i < 10 by omega) (show a < 10 by omega), g4 (show b < 10 by omega) (show j < 10 by omega), g4 (show i < 10 by omega) (show b < 10 by omega), g4 (show a < 10 by omega) (show j < 10 by omega), g4 (show i < 10 by omega) (show j < 10 by omega), s4 (show i < 10 by omega) (show j < 10 by omega), Nat.mul_comm 10, v1.1, v2.1, v3.1, v4.1, v5.1, nI_add, fv_s, fl_s, nI_1]
      rw [imin_n (by omega) (by omega), imin_n (by omega) (by omega)]
      exact g1 k
    · have ej : j = u := by omega
      subst ej
      refine ⟨S, E5.rf, h, fun k => ?_⟩
      rw [l_X7_join_22, if_neg (nI_nlt (Nat.le_refl _) (by omega))]
theorem join_out {W : Nat → Int32} {u a b d : Nat} (hu : u ≤ 10) (ha : a < u) (hb : b < u) (hd : d < 10) : ∀ (g i : Nat) (S : FS), i ≤ u → u - i < g → JI W (S.2 5) u a b d i 0 →
    ∃ S' : FS, E5 S S' ∧ JI W (S'.2 5) u a b d u 0 ∧ ∀ k, l_X7_join_12 (nI a) (nI b) (nI d) (nI u) k g S (nI i) = k S' (nI u) := by
  intro g
  induction g with
  | zero => intro i S _ h; exact absurd h (Nat.not_lt_zero _)
  | succ g ih =>
    intro i S hi hg h
    by_cases c : i < u
    · obtain ⟨S1, e1, j1, g1⟩ := join_in hu ha hb c hd FU 0 S (Nat.zero_le _) (FU_lt (by omega)) h
      obtain ⟨S2, e2, j2, g2⟩ := ih (i + 1) S1 (by omega) (by omega) j1.row
      refine ⟨S2, e1.tr e2, j2, fun k => ?_⟩
      rw [l_X7_join_12, if_pos (nI_lt c (by omega)), nI_1, show ∀ k, l_X7_join_22 (nI a) (nI b) (nI d) (nI u) (nI i) k FU S 0 = k S1 (nI u) from g1]; exact g2 k
    · have ei : i = u := by omega
      subst ei
      refine ⟨S, E5.rf, h, fun k => ?_⟩
      rw [l_X7_join_12, if_neg (nI_nlt (Nat.le_refl _) (by omega))]
theorem op_road (h : RelR K S (T.2 55)) : OK2 S T (f_X11_road S za zb zc) (f_X12_road T za zb zc) := by
  unfold f_X11_road f_X12_road
  simp only [fb_id]
  obtain ⟨k1, k2, c1⟩ := h.ct 101 1 20 (by decide)
  obtain ⟨t1, t2, c0⟩ := h.ct 2 0 10 (by decide)
  rcases h.twn za with ⟨a1, m1⟩ | ⟨a, ha, rfl, a1, m1⟩
  · simp only [a1, m1, ↓reduceIte]; exact ok_1 h
  · rcases h.twn zb with ⟨a2, m2⟩ | ⟨b, hb, rfl, a2, m2⟩
    · simp only [a1, m1, a2, m2, i10, ↓reduceIte]; exact ok_1 h
    · simp only [a1, m1, a2, m2, i10, ↓reduceIte]
      by_cases z : nI a = nI b
      · simp only [z, ↓reduceIte]; exact ok_1 h
      · simp only [z, ↓reduceIte]
        have hab : a ≠ b := fun q => z (by rw [q])
        rcases out_c zc 1 9 with ⟨o1, o2⟩ | ⟨o1, o2⟩
        · simp only [o1, o2, i10, ↓reduceIte, k1, k2, fv_s]
          by_cases c : K 1 = 20
          · rw [if_neg (show ¬ nI (K 1) < 20 from nI_nlt (b := 20) (by omega) (by omega)), if_pos (by rw [c]; rfl)]; exact ok_4 h
          · rw [if_pos (show nI (K 1) < 20 from nI_lt (b := 20) (by omega) (by decide)), if_neg (fun q => c (nI_inj (by omega) (by decide) (q.trans (show (20 : Int32) = nI 20 from rfl))))]
            have r20 : K 1 < 20 := by omega
            obtain ⟨d, ⟨hd1, hd2⟩, rfl⟩ := out_n 1 9 rfl rfl (by decide) (by decide) o1
            obtain ⟨S1, e1, j1, g1⟩ := join_out (W := S.2 5) c0 ha hb (show d < 10 by omega) FU 0 S (Nat.zero_le _) (FU_lt (by omega)) (JI.nil h.wy.1)
            unfold f_X7_join
            simp only [fv_s, t1]
            rw [show ∀ k, l_X7_join_12 (nI a) (nI b) (nI d) (nI (K 0)) k FU S 0 = k S1 (nI (K 0)) from g1]
            simp only [fl_s, fb_s, wI_e, e1.1, k1, nI_1, ixR_0 r20, ixR_1 r20, ixR_2 r20]
            refine okt (K := kU K 1 (K 1 + 1)) ?_ ?_ ⟨⟨rfl, rfl, rfl, rfl, rfl⟩, rfl, rfl⟩
            · simp only [wA_e]
              have cq : CQ [5] 101 S S1 := ⟨⟨⟨e1.2 _ (by decide), e1.2 _ (by decide), e1.2 _ (by decide), e1.2 _ (by decide)⟩, by rw [e1.1], by rw [e1.1]⟩, fun _ _ _ _ => by rw [e1.1], fun q hq h3 => e1.2 q (fun z => h3 (by rw [z]; decide))⟩
              refine h.onR_1 (cq.wI (Or.inr rfl) (by decide) (by decide)) ((((NQ.rf.w (Or.inr (Or.inr rfl))).w (Or.inl (by omega))).w (Or.inl (by omega))).w (Or.inl (by omega))) (fun i hi => kU_n hi) (by rw [kU_e]; omega) ?_ (onct 101 1 20 (by decide) ?_ ?_ (by rw [kU_e]; omega)) ?_
              · rw [wI_n (by decide), e1.1]
                simp (disch := omega) only [pk_un]; exact h.1.2
              · rw [kU_e, wI_e]
              · rw [kU_e]; simp (disch := omega) only [pk_un, pk_us]
              · rw [kU_e, kU_n (by decide), wI_2]
                refine h.wy.join j1.fin c0 ha hb hab (fun j q1 q2 => ?_) ?_ ?_ ?_ (by omega)
                · simp (disch := omega) only [pk_un]
                · simp (disch := omega) only [pk_un, pk_us]
                · simp (disch := omega) only [pk_un, pk_us]
                · simp (disch := omega) only [pk_un, pk_us]
            · exact ⟨⟨e1.2 _ (by decide), e1.2 _ (by decide), e1.2 _ (by decide), e1.2 _ (by decide)⟩, by rw [wI_n (by decide), e1.1], by rw [wI_n (by decide), e1.1]⟩
        · simp only [o1, o2, i10, ↓reduceIte]; exact ok_1 h
end OPR
