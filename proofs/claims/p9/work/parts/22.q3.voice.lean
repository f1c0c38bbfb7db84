/-! ===== pure: voices ===== -/
section VOI
variable {K : Nat → Nat} {S T S0 T0 : FS} {za zb zc zd ze : Int32} {w : Nat}
def VS (S0 T0 : FS) (w : Nat) (S T : FS) : Prop := ((∀ k : Nat, k ≠ 115 → k ≠ 116 → k ≠ 117 → k ≠ 118 → S.1 k = S0.1 k) ∧ ∀ a : Nat, a ≠ 47 → S.2 a = S0.2 a) ∧ (S.1 116 = T0.2 55 (6 * w + 390) ∧ S.1 117 = nI w ∧ S.1 118 = T0.2 55 (6 * w + 394)) ∧ ((∀ k : Nat, k ≠ 22 → T.1 k = T0.1 k) ∧ ∀ a : Nat, a ≠ 69 → T.2 a = T0.2 a) ∧ (∃ a : Nat, a ≤ 40 ∧ S.1 115 = nI a ∧ T.1 22 = nI a) ∧ ∀ j : Nat, j < 40 → S.2 47 j = T.2 69 j
def VO (S0 T0 : FS) (w : Nat) (x y : Option (Int32 × FS)) : Prop := ∃ (v : Int32) (S T : FS), x = some (v, S) ∧ y = some (v, T) ∧ VS S0 T0 w S T
theorem VS.note (h : VS S0 T0 w S T) (c : Int32) : ∃ S' T' : FS, f_X10_note S c = some (0, S') ∧ f_X12_ran T c = some (0, T') ∧ VS S0 T0 w S' T' := by
  obtain ⟨⟨h1, h2⟩, h3, ⟨h4, h5⟩, ⟨a, ha, h6, h7⟩, h8⟩ := id h
  unfold f_X10_note f_X12_ran
  rw [h6, h7, if_neg (nI_pos (by omega))]
  by_cases z : a < 40
  · have z' : nI a < 40 := nI_lt (b := 40) z (by decide)
    rw [if_pos z', if_pos z', ix_nI z (by decide)]
    simp only [fb_s, fl_s, wA_1, h6, h7, nI_1]
    refine ⟨_, _, rfl, rfl, ⟨fun k k1 k2 k3 k4 => (wI_n k1).trans (h1 k k1 k2 k3 k4), fun q hq => (wA_n hq).trans (h2 q hq)⟩, ⟨h3.1, h3.2.1, h3.2.2⟩, ⟨fun k hk => (wI_n hk).trans (h4 k hk), fun q hq => (wA_n hq).trans (h5 q hq)⟩, ⟨a + 1, by omega, wI_e, wI_e⟩, fun j hj => ?_⟩
    show (wA S 47 a c).2 47 j = (wA T 69 a c).2 69 j
    rw [wA_e, wA_e]
    by_cases y : j = a
    · subst y; rw [pk_us, pk_us]
    · rw [pk_un y, pk_un y]; exact h8 j hj
  · have z' : ¬ nI a < 40 := nI_nlt (b := 40) (by omega) (by omega)
    rw [if_neg z', if_neg z']
    exact ⟨S, T, rfl, rfl, h⟩
theorem VS.kd (h : VS S0 T0 w S T) (w20 : w < 20) : q_X12_its T (nI w) 0 = some (S.1 116) ∧ q_X12_its T (nI w) 4 = some (S.1 118) := by
  rw [its_0 w20, its_4 w20, h.2.1.1, h.2.1.2.2, h.2.2.1.2 55 (by decide)]; exact ⟨rfl, rfl⟩
theorem VS.e6 {S' T' : FS} (h : VS S0 T0 w S T) (g : VS S0 T0 w S' T') : S'.1 116 = S.1 116 ∧ S'.1 117 = S.1 117 ∧ S'.1 118 = S.1 118 := ⟨g.2.1.1.trans h.2.1.1.symm, g.2.1.2.1.trans h.2.1.2.1.symm, g.2.1.2.2.trans h.2.1.2.2.symm⟩
theorem VS.actP (h : VS S0 T0 w S T) (w20 : w < 20) (x : Int32) : VO S0 T0 w (f_X10_actOf_k0 S x) (f_X12_actsPower T (nI w) x) := by
  unfold f_X10_actOf_k0 f_X12_actsPower
  obtain ⟨S', T', a1, a2, a3⟩ := h.note 10
  rw [a1, a2, fb_s, fb_s, (a3.kd w20).2, fb_s]
  exact ⟨_, S', T', rfl, rfl, a3⟩
theorem VS.actO (h : VS S0 T0 w S T) (w20 : w < 20) (x : Int32) : VO S0 T0 w (f_X10_actOf_k3 S x) (f_X12_actsOffice T (nI w) x) := by
  unfold f_X10_actOf_k3 f_X12_actsOffice
  obtain ⟨S', T', a1, a2, a3⟩ := h.note 20
  obtain ⟨v, S2, T2, b1, b2, b3⟩ := a3.actP w20 x
  simp only [a1, a2, fb_s, b1, b2, b3.2.1.2.1]
  exact ⟨_, S2, T2, rfl, rfl, b3⟩
theorem VS.act (h : VS S0 T0 w S T) (w20 : w < 20) (x : Int32) : VO S0 T0 w (f_X10_actOf S (S.1 116) x) (f_X12_actsOf T (nI w) x) := by
  have po := h.actP w20 x
  have of := h.actO w20 x
  unfold f_X10_actOf f_X12_actsOf
  rw [(h.kd w20).1, fb_s]
  unfold f_X10_actOf_k0 at po
  unfold f_X10_actOf_k3 at of
  simp only [fb_id]
  by_cases k1 : S.1 116 = 1
  · simp only [k1, ↓reduceIte]; exact of
  · by_cases k2 : S.1 116 = 2
    · simp only [k2, show ((2 : Int32) = 1) = False from eq_false (by decide), show ((2 : Int32) = 3) = False from eq_false (by decide), show ((2 : Int32) = 4) = False from eq_false (by decide), ↓reduceIte]; exact po
    · by_cases k3 : S.1 116 = 3
      · simp only [k3, show ((3 : Int32) = 1) = False from eq_false (by decide), show ((3 : Int32) = 2) = False from eq_false (by decide), ↓reduceIte]; exact of
      · by_cases k4 : S.1 116 = 4
        · simp only [k4, show ((4 : Int32) = 1) = False from eq_false (by decide), show ((4 : Int32) = 2) = False from eq_false (by decide), show ((4 : Int32) = 3) = False from eq_false (by decide), ↓reduceIte]
          obtain ⟨S', T', a1, a2, a3⟩ := h.note 50
          rw [a1, a2, fb_s, fb_s, (a3.kd w20).2, fb_s]
          exact a3.actO w20 _
        · simp only [k1, k2, k3, k4, ↓reduceIte]; exact po
theorem VS.bindP (h : VS S0 T0 w S T) (w20 : w < 20) (x : Int32) : VO S0 T0 w (f_X10_bindOf_k0 S x) (f_X12_bindsPower T (nI w) x) := by
  unfold f_X10_bindOf_k0 f_X12_bindsPower
  obtain ⟨S', T', a1, a2, a3⟩ := h.note 11
  obtain ⟨v, S2, T2, b1, b2, b3⟩ := a3.act w20 x
  simp only [a1, a2, fb_s, b1, b2]
  exact ⟨_, S2, T2, rfl, rfl, b3⟩
theorem VS.bind (h : VS S0 T0 w S T) (w20 : w < 20) (x : Int32) : VO S0 T0 w (f_X10_bindOf S (S.1 116) x) (f_X12_bindsOf T (nI w) x) := by
  have po := h.bindP w20 x
  have gd : VO S0 T0 w (fb (f_X10_note S 40) fun r3 => fb (f_X10_bindOf_k1 r3.2 x) fun r5 => fb (f_X10_actOf r5.2 (r5.2.1 116) x) fun r7 => some (r5.1 - r7.1, r7.2)) (fb (f_X12_ran T 40) fun r5 => fb (f_X12_bindsPower r5.2 (nI w) x) fun r7 => fb (f_X12_actsOf r7.2 (nI w) x) fun r9 => some (r7.1 - r9.1, r9.2)) := by
    obtain ⟨S', T', a1, a2, a3⟩ := h.note 40
    obtain ⟨v, S2, T2, b1, b2, b3⟩ := a3.bindP w20 x
    obtain ⟨u, S3, T3, c1, c2, c3⟩ := b3.act w20 x
    simp only [a1, a2, fb_s, show f_X10_bindOf_k1 S' x = some (v, S2) from b1, b2, c1, c2]
    exact ⟨_, S3, T3, rfl, rfl, c3⟩
  unfold f_X10_bindOf f_X12_bindsOf
  rw [(h.kd w20).1, fb_s]
  unfold f_X10_bindOf_k0 at po
  simp only [fb_id]
  by_cases k3 : S.1 116 = 3
  · simp only [k3, ↓reduceIte]; exact gd
  · by_cases k4 : S.1 116 = 4
    · simp only [k4, show ((4 : Int32) = 3) = False from eq_false (by decide), ↓reduceIte]; exact gd
    · by_cases k5 : S.1 116 = 5
      · simp only [k5, show ((5 : Int32) = 3) = False from eq_false (by decide), show ((5 : Int32) = 4) = False from eq_false (by decide), ↓reduceIte]
        obtain ⟨S', T', a1, a2, a3⟩ := h.note 60
        obtain ⟨v, S2, T2, b1, b2, b3⟩ := a3.bindP w20 x
        simp only [a1, a2, fb_s, b1, b2, (b3.kd w20).2]
        exact ⟨_, S2, T2, rfl, rfl, b3⟩
      · simp only [k3, k4, k5, ↓reduceIte]; exact po
theorem VS.rankP (h : VS S0 T0 w S T) (x : Int32) : VO S0 T0 w (f_X10_rankOf_k0 S x) (f_X12_ranksPower T (nI w) x) := by
  unfold f_X10_rankOf_k0 f_X12_ranksPower
  obtain ⟨S', T', a1, a2, a3⟩ := h.note 12
  simp only [a1, a2, fb_s, a3.2.1.2.1]
  exact ⟨_, S', T', rfl, rfl, a3⟩
theorem VS.rank (h : VS S0 T0 w S T) (w20 : w < 20) (x : Int32) : VO S0 T0 w (f_X10_rankOf S (S.1 116) x) (f_X12_ranksOf T (nI w) x) := by
  have po := h.rankP x
  unfold f_X10_rankOf f_X12_ranksOf
  rw [(h.kd w20).1, fb_s]
  unfold f_X10_rankOf_k0 at po
  simp only [fb_id]
  by_cases k2 : S.1 116 = 2
  · simp only [k2, ↓reduceIte]
    obtain ⟨S', T', a1, a2, a3⟩ := h.note 30
    obtain ⟨v, S2, T2, b1, b2, b3⟩ := a3.rankP x
    simp only [a1, a2, fb_s, b1, b2]
    exact ⟨_, S2, T2, rfl, rfl, b3⟩
  · simp only [k2, ↓reduceIte]; exact po
theorem VS.tellP (h : VS S0 T0 w S T) (w20 : w < 20) (x : Int32) : VO S0 T0 w (f_X10_tellOf_k0 S x) (f_X12_tellsPower T (nI w) x) := by
  unfold f_X10_tellOf_k0 f_X12_tellsPower
  obtain ⟨S', T', a1, a2, a3⟩ := h.note 13
  obtain ⟨v, S2, T2, b1, b2, b3⟩ := a3.bind w20 x
  obtain ⟨u, S3, T3, c1, c2, c3⟩ := b3.rank w20 x
  simp only [a1, a2, fb_s, b1, b2, c1, c2]
  exact ⟨_, S3, T3, rfl, rfl, c3⟩
theorem VS.tellO (h : VS S0 T0 w S T) (w20 : w < 20) (x : Int32) : VO S0 T0 w (f_X10_tellOf_k3 S x) (f_X12_tellsOffice T (nI w) x) := by
  unfold f_X10_tellOf_k3 f_X12_tellsOffice
  simp only [fb_id]
  obtain ⟨S', T', a1, a2, a3⟩ := h.note 21
  rw [a1, a2, fb_s, fb_s]
  exact a3.tellP w20 (x + 1)
theorem VS.tell (h : VS S0 T0 w S T) (w20 : w < 20) (x : Int32) : VO S0 T0 w (f_X10_tellOf S (S.1 116) x) (f_X12_tellsOf T (nI w) x) := by
  have po := h.tellP w20 x
  have of := h.tellO w20 x
  unfold f_X10_tellOf f_X12_tellsOf
  rw [(h.kd w20).1, fb_s]
  unfold f_X10_tellOf_k0 at po
  unfold f_X10_tellOf_k3 at of
  simp only [fb_id] at of ⊢
  by_cases k1 : S.1 116 = 1
  · simp only [k1, ↓reduceIte]; exact of
  · by_cases k2 : S.1 116 = 2
    · simp only [k2, show ((2 : Int32) = 1) = False from eq_false (by decide), show ((2 : Int32) = 3) = False from eq_false (by decide), show ((2 : Int32) = 4) = False from eq_false (by decide), ↓reduceIte]; exact po
    · by_cases k3 : S.1 116 = 3
      · simp only [k3, show ((3 : Int32) = 1) = False from eq_false (by decide), show ((3 : Int32) = 2) = False from eq_false (by decide), ↓reduceIte]; exact of
      · by_cases k4 : S.1 116 = 4
        · simp only [k4, show ((4 : Int32) = 1) = False from eq_false (by decide), show ((4 : Int32) = 2) = False from eq_false (by decide), show ((4 : Int32) = 3) = False from eq_false (by decide), ↓reduceIte]
          obtain ⟨S', T', a1, a2, a3⟩ := h.note 51
          obtain ⟨v, S2, T2, b1, b2, b3⟩ := a3.rank w20 x
          obtain ⟨u, S3, T3, c1, c2, c3⟩ := b3.tellO w20 x
          simp only [a1, a2, fb_s, b1, b2, c1, c2]
          exact ⟨_, S3, T3, rfl, rfl, c3⟩
        · simp only [k1, k2, k3, k4, ↓reduceIte]; exact po
theorem op_voice (h : RelR K S (T.2 55)) (hx : RX S T) : OK3 S T (f_X11_voice S za zb zc) (f_X12_voice T za zb zc) := by
  unfold f_X11_voice f_X12_voice f_X10_begin f_X10_speak
  simp only [fb_id, fl_s, fb_s]
  rcases h.pow za with ⟨c1, m1⟩ | ⟨w, hw, rfl, c1, m1⟩
  · simp only [c1, m1, ↓reduceIte]; exact (ok_1 h).x hx
  · obtain ⟨w20, ⟨e0, e1, -, -, -⟩, -, -⟩ := h.pwc hw
    rcases out_c zb 0 3 with ⟨b1, b2⟩ | ⟨b1, b2⟩
    · simp only [c1, m1, b1, b2, i10, g8_0 w20, g8_1 w20, e0, e1, ↓reduceIte]
      have vs : VS S T w (wI (wI (wI (wI S 115 0) 116 (T.2 55 (6 * w + 390))) 117 (nI w)) 118 (T.2 55 (6 * w + 394))) (wI T 22 0) := by
        refine ⟨⟨fun k k1 k2 k3 k4 => by rw [wI_n k4, wI_n k3, wI_n k2, wI_n k1], fun _ _ => rfl⟩, ⟨rfl, rfl, rfl⟩, ⟨fun k hk => wI_n hk, fun _ _ => rfl⟩, ⟨0, by decide, rfl, wI_e⟩, hx.2.2.2.2⟩
      have fin : ∀ x y : Option (Int32 × FS), VO S T w x y → OK3 S T x y := by
        rintro x y ⟨v, S', T', r1, r2, ⟨q1, q2⟩, q3, ⟨q4, q5⟩, ⟨a, qa, q6, q7⟩, q8⟩
        obtain ⟨x1, x2, x3, x4, x5⟩ := hx
        refine ⟨v, S', T', r1, r2, ⟨K, ?_⟩, ⟨fun s hs => ?_, ?_, by rw [q6, q7], ⟨a, qa, q7⟩, q8⟩, q1 100 (by decide) (by decide) (by decide) (by decide), q5 56 (by decide), q4 3 (by decide)⟩
        · rw [q5 55 (by decide)]
          exact h.cs (fun k hk => q1 k (fun q => by subst q; revert hk; decide) (fun q => by subst q; revert hk; decide) (fun q => by subst q; revert hk; decide) (fun q => by subst q; revert hk; decide)) (fun b hb => q2 b (fun q => by subst q; revert hb; decide))
        · rw [q2 49 (by decide), q2 50 (by decide), q5 70 (by decide), q5 71 (by decide)]; exact x1 s hs
        · rw [q2 52 (by decide), q5 72 (by decide)]; exact x2
      by_cases z0 : zb = 0
      · simp only [z0, ↓reduceIte]; exact fin _ _ (vs.act w20 zc)
      · by_cases z1 : zb = 1
        · simp only [z1, i10, ↓reduceIte]; exact fin _ _ (vs.bind w20 zc)
        · by_cases z2 : zb = 2
          · simp only [z2, show ((2 : Int32) = 0) = False from eq_false (by decide), show ((2 : Int32) = 1) = False from eq_false (by decide), ↓reduceIte]; exact fin _ _ (vs.rank w20 zc)
          · simp only [z0, z1, z2, ↓reduceIte]; exact fin _ _ (vs.tell w20 zc)
    · simp only [c1, m1, b1, b2, i10, ↓reduceIte]; exact (ok_1 h).x hx
end VOI
