/-! ===== pure: the law in force ===== -/
section LAW1
variable {K : Nat → Nat} {S T : FS} {za zb zc zd : Int32}
/-- one law is of that use, made by then, not struck by then, for that day -/
abbrev gL (n : Nat → Int32) (za zb zc : Int32) (i : Nat) : Prop := n (65 * i + 510) = za ∧ ¬ zb < n (65 * i + 511) ∧ ¬ zc < n (65 * i + 512) ∧ (n (65 * i + 513) < 0 ∨ zc < n (65 * i + 513))
/-- the last of the first i -/
def lg (n : Nat → Int32) (za zb zc : Int32) : Nat → Int32
  | 0 => -1
  | i + 1 => if gL n za zb zc i then nI i else lg n za zb zc i
theorem lg_c {n : Nat → Int32} : ∀ i : Nat, lg n za zb zc i = -1 ∨ ∃ j : Nat, j < i ∧ lg n za zb zc i = nI j
  | 0 => Or.inl rfl
  | i + 1 => by
    unfold lg
    by_cases c : gL n za zb zc i
    · rw [if_pos c]; exact Or.inr ⟨i, by omega, rfl⟩
    · rw [if_neg c]
      rcases lg_c i with e | ⟨j, hj, e⟩
      · exact Or.inl e
      · exact Or.inr ⟨j, by omega, e⟩
theorem lg_p {n : Nat → Int32} {i : Nat} (c : gL n za zb zc i) : lg n za zb zc (i + 1) = nI i := if_pos c
theorem lg_n {n : Nat → Int32} {i : Nat} (c : ¬ gL n za zb zc i) : lg n za zb zc (i + 1) = lg n za zb zc i := if_neg c
theorem inF_c (h : RelR K S (T.2 55)) : ∀ (m i : Nat), i ≤ K 4 → i < m → l_X2_inForce_14 za zb zc S (fun _ => some (-1)) m (nI i - 1) = some (lg (T.2 55) za zb zc i) := by
  have c4 := (h.ct 10 4 12 (by decide)).2.2
  intro m
  induction m with
  | zero => intro i _ hm; exact absurd hm (Nat.not_lt_zero _)
  | succ m ih =>
    intro i hi hm
    rw [l_X2_inForce_14]
    cases i with
    | zero => rw [if_pos (by decide)]; rfl
    | succ j =>
      have j12 : j < 12 := by omega
      obtain ⟨⟨e0, e1, e2, e3⟩, -⟩ := h.la j (by omega)
      have go : ∀ c : ¬ gL (T.2 55) za zb zc j, l_X2_inForce_14 za zb zc S (fun _ => some (-1)) m (nI j + (-1)) = some (lg (T.2 55) za zb zc (j + 1)) := fun c => by
        rw [lg_n c, ← ih j (by omega) (by omega)]
        exact congrArg _ (Int32.sub_eq_add_neg _ _).symm
      rw [nI_pred, if_neg (nI_pos (by omega))]
      simp only [fv_s, g10_0 j12, g10_1 j12, g10_2 j12, g10_3 j12, e0, e1, e2, e3]
      by_cases a0 : T.2 55 (65 * j + 510) = za
      · rw [if_pos a0]
        by_cases a2 : zc < T.2 55 (65 * j + 512)
        · rw [if_pos a2]; exact go (fun q => q.2.2.1 a2)
        · rw [if_neg a2]
          by_cases a1 : zb < T.2 55 (65 * j + 511)
          · simp only [a1, ↓reduceIte]
            have g := go (fun q => q.2.1 a1)
            by_cases a3 : T.2 55 (65 * j + 513) < 0
            · rw [if_pos a3]; exact g
            · rw [if_neg a3]
              by_cases a4 : zc < T.2 55 (65 * j + 513)
              · rw [if_pos a4]; exact g
              · rw [if_neg a4]; exact g
          · simp only [a1, ↓reduceIte]
            by_cases a3 : T.2 55 (65 * j + 513) < 0
            · rw [if_pos a3, lg_p ⟨a0, a1, a2, Or.inl a3⟩]
            · rw [if_neg a3]
              by_cases a4 : zc < T.2 55 (65 * j + 513)
              · rw [if_pos a4, lg_p ⟨a0, a1, a2, Or.inr a4⟩]
              · rw [if_neg a4]; exact go (fun q => q.2.2.2.elim a3 a4)
      · rw [if_neg a0]; exact go (fun q => a0 q.1)
theorem inF_m (h : RelR K S (T.2 55)) : ∀ (m i : Nat), i ≤ K 4 → K 4 - i < m → ∀ k, l_X12_inForce_6 za zb zc T k m (lg (T.2 55) za zb zc i) (nI i) = k (lg (T.2 55) za zb zc (K 4)) (nI (K 4)) := by
  obtain ⟨k1, k2, c4⟩ := h.ct 10 4 12 (by decide)
  intro m
  induction m with
  | zero => intro i _ hm; exact absurd hm (Nat.not_lt_zero _)
  | succ m ih =>
    intro i hi hm k
    rw [l_X12_inForce_6, k2]
    by_cases c : i < K 4
    · have i12 : i < 12 := by omega
      rw [if_pos (nI_lt c (by omega))]
      have g := ih (i + 1) (by omega) (by omega) k
      simp only [fv_s, ixL_0 i12, ixL_1 i12, ixL_2 i12, ixL_3 i12, fb_s, nI_1]
      by_cases a0 : T.2 55 (65 * i + 510) = za
      · rw [if_pos a0]
        by_cases a1 : zb < T.2 55 (65 * i + 511)
        · rw [if_pos a1, ← lg_n (i := i) (fun q => q.2.1 a1)]; exact g
        · rw [if_neg a1]
          by_cases a2 : zc < T.2 55 (65 * i + 512)
          · rw [if_pos a2, ← lg_n (i := i) (fun q => q.2.2.1 a2)]; exact g
          · rw [if_neg a2]
            by_cases a3 : T.2 55 (65 * i + 513) < 0 ∨ zc < T.2 55 (65 * i + 513)
            · have p0 : p_X12_in T (T.2 55 (65 * i + 513)) 0 zc = 0 := by
                unfold p_X12_in
                by_cases a4 : T.2 55 (65 * i + 513) < 0
                · rw [if_pos a4]
                · rw [if_neg a4, if_pos (a3.resolve_left a4)]
              rw [if_pos p0]
              rw [lg_p (n := T.2 55) (i := i) ⟨a0, a1, a2, a3⟩] at g
              rcases lg_c (n := T.2 55) (za := za) (zb := zb) (zc := zc) i with e | ⟨j, hj, e⟩
              · rw [e, if_pos (by decide)]; exact g
              · rw [e, if_neg (nI_pos (by omega)), ixL_2 (show j < 12 by omega), fb_s]
                obtain ⟨-, ⟨d, d1, d2, d3⟩, -⟩ := h.la i c
                obtain ⟨d', d4, d5⟩ := d3 j hj
                have c8 := (h.ct 102 8 2000 (by decide)).2.2
                rw [d2, d5, if_neg (nI_nlt d4 (by omega))]; exact g
            · have p1 : p_X12_in T (T.2 55 (65 * i + 513)) 0 zc ≠ 0 := by
                unfold p_X12_in
                rw [if_neg (fun q => a3 (Or.inl q)), if_neg (fun q => a3 (Or.inr q))]; decide
              rw [if_neg p1, ← lg_n (i := i) (fun q => a3 q.2.2.2)]; exact g
      · rw [if_neg a0, ← lg_n (i := i) (fun q => a0 q.1)]; exact g
    · have ei : i = K 4 := by omega
      subst ei
      rw [if_neg (nI_nlt (Nat.le_refl _) (by omega))]
/-- the law in force, on both sides -/
theorem RelR.inF (h : RelR K S (T.2 55)) (za zb zc : Int32) : q_X2_inForce S za zb zc = some (lg (T.2 55) za zb zc (K 4)) ∧ q_X12_inForce T za zb zc = some (lg (T.2 55) za zb zc (K 4)) := by
  obtain ⟨k1, k2, c4⟩ := h.ct 10 4 12 (by decide)
  constructor
  · unfold q_X2_inForce
    rw [fv_s, k1]; exact inF_c h FU (K 4) (Nat.le_refl _) (FU_lt (by omega))
  · exact inF_m h FU 0 (Nat.zero_le _) (FU_lt (by omega)) _
theorem op_force (h : RelR K S (T.2 55)) : OK2 S T (f_X11_force S za zb zc) (f_X12_force T za zb zc) := by
  unfold f_X11_force f_X12_force p_X12_isDay
  simp only [fb_id]
  rcases out_c za 0 4 with ⟨a1, a2⟩ | ⟨a1, a2⟩
  · rcases out_c zb 0 2000 with ⟨b1, b2⟩ | ⟨b1, b2⟩
    · rcases out_c zc (-1) 2000 with ⟨c1, c2⟩ | ⟨c1, c2⟩
      · obtain ⟨q1, q2⟩ := h.inF za zb zc
        simp only [a1, a2, b1, b2, c1, c2, q1, q2, i10, fb_s, ↓reduceIte]
        by_cases z : lg (T.2 55) za zb zc (K 4) < 0
        · rw [if_pos z, if_pos z]; exact ok_2 h
        · rw [if_neg z, if_neg z]; exact okt h CX.rf MX.rf
      · simp only [a1, a2, b1, b2, c1, c2, i10, ↓reduceIte]; exact ok_1 h
    · simp only [a1, a2, b1, b2, i10, ↓reduceIte]; exact ok_1 h
  · simp only [a1, a2, i10, ↓reduceIte]; exact ok_1 h
end LAW1
