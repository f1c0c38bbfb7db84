/-! ===== pure: a night (both answer) ===== -/
section NIG
variable {K : Nat → Nat} {S T : FS} {za zb zc zd ze : Int32}
def B01 (v : Int32) : Prop := v = 0 ∨ v = 1
theorem bz_b {v : Int32} (h : B01 v) : bz v = some v := by unfold bz; exact if_pos h
theorem ix5 {x : Int32} (h1 : ¬ x < 0) (h2 : x < 5) : ∃ j : Nat, j < 5 ∧ x = nI j ∧ ix 5 x = some j := by
  obtain ⟨j, hj, rfl⟩ := nI_of h1
  have : j < 5 := (nI_ltI hj (by decide)).mp h2
  exact ⟨j, this, rfl, ix_nI this (by decide)⟩
def EA (c : Nat) (S S' : FS) : Prop := S'.1 = S.1 ∧ ∀ a : Nat, a ≠ c → S'.2 a = S.2 a
theorem EA.rf {c : Nat} : EA c S S := ⟨rfl, fun _ _ => rfl⟩
theorem EA.tr {c : Nat} {A B C : FS} (h : EA c A B) (g : EA c B C) : EA c A C := ⟨g.1.trans h.1, fun a ha => (g.2 a ha).trans (h.2 a ha)⟩
theorem EA.w {c j : Nat} {v : Int32} : EA c S (wA S c j v) := ⟨rfl, fun _ ha => wA_n ha⟩
def TT (c : Nat) (S : FS) (x : Option (Int32 × FS)) : Prop := ∃ (v : Int32) (S' : FS), B01 v ∧ EA c S S' ∧ x = some (v, S')
theorem TT.of {c : Nat} {v : Int32} (h : B01 v) : TT c S (some (v, S)) := ⟨v, S, h, EA.rf, rfl⟩
theorem b1 : B01 1 := Or.inr rfl
theorem b0 : B01 0 := Or.inl rfl
theorem nD_0 (S : FS) (za zb zd ze : Int32) : TT 41 S (f_X1_winsDespite_k0 S za zb zd ze) := by
  unfold f_X1_winsDespite_k0
  by_cases a1 : za < 0
  · rw [if_pos a1]; exact TT.of b1
  · rw [if_neg a1]
    by_cases a2 : za < 5
    · rw [if_pos a2]
      by_cases c1 : zb < 0
      · rw [if_pos c1]; exact TT.of b1
      · rw [if_neg c1]
        by_cases c2 : zb < 5
        · rw [if_pos c2]
          obtain ⟨i, hi, -, ei⟩ := ix5 a1 a2
          obtain ⟨j, hj, -, ej⟩ := ix5 c1 c2
          rw [ei, fb_s]
          by_cases d1 : S.2 41 i < 1
          · rw [if_pos d1]; exact TT.of b1
          · rw [if_neg d1, ej, fb_s]
            by_cases d2 : S.2 41 j < 6
            · rw [if_pos d2]
              simp only [p_X1_winsWithin_k0, fv_s, fl_s, bz_0, fb_s]
              exact ⟨0, _, b0, ((EA.w.tr EA.w).tr EA.w).tr EA.w, rfl⟩
            · rw [if_neg d2]; exact TT.of b1
        · rw [if_neg c2]; exact TT.of b1
    · rw [if_neg a2]; exact TT.of b1
theorem nL_0 {zb zc : Int32} : ∀ (m j : Nat) (S : FS) (v : Int32), B01 v → j < 2 ^ 31 → 4 - j < m → ∃ (S' : FS) (v' x' : Int32), EA 41 S S' ∧ B01 v' ∧ ∀ k, l_X1_winsWhatever_k0_16 zb zc k m S v (nI j) = k S' v' x' := by
  intro m
  induction m with
  | zero => intro j S v _ _ hm; exact absurd hm (Nat.not_lt_zero _)
  | succ m ih =>
    intro j S v hv hj hm
    by_cases c : j < 4
    · have lt : nI j < 4 := nI_lt (b := 4) c (by decide)
      rcases hv with rfl | rfl
      · refine ⟨S, 0, nI j, EA.rf, b0, fun k => ?_⟩
        rw [l_X1_winsWhatever_k0_16, if_pos lt, if_pos rfl]
      · obtain ⟨v1, S1, p1, p2, p3⟩ := nD_0 S (nI j) (nI j + 1) zb zc
        by_cases z : v1 = 0
        · obtain ⟨S', v', x', r1, r2, r3⟩ := ih (j + 1) S1 0 b0 (by omega) (by omega)
          refine ⟨S', v', x', p2.tr r1, r2, fun k => ?_⟩
          rw [l_X1_winsWhatever_k0_16, if_pos lt, if_neg (by decide), p3, fb_s, if_pos z, nI_1]; exact r3 k
        · obtain ⟨v2, S2, q1, q2, q3⟩ := nD_0 S1 (nI j + 1) (nI j) zb zc
          by_cases y : v2 = 0
          · obtain ⟨S', v', x', r1, r2, r3⟩ := ih (j + 1) S2 0 b0 (by omega) (by omega)
            refine ⟨S', v', x', (p2.tr q2).tr r1, r2, fun k => ?_⟩
            rw [l_X1_winsWhatever_k0_16, if_pos lt, if_neg (by decide), p3, fb_s, if_neg z, q3, fb_s, if_pos y, nI_1]; exact r3 k
          · obtain ⟨S', v', x', r1, r2, r3⟩ := ih (j + 1) S2 1 b1 (by omega) (by omega)
            refine ⟨S', v', x', (p2.tr q2).tr r1, r2, fun k => ?_⟩
            rw [l_X1_winsWhatever_k0_16, if_pos lt, if_neg (by decide), p3, fb_s, if_neg z, q3, fb_s, if_neg y, nI_1]; exact r3 k
    · refine ⟨S, v, nI j, EA.rf, hv, fun k => ?_⟩
      rw [l_X1_winsWhatever_k0_16, if_neg (show ¬ nI j < 4 from nI_nlt (b := 4) (by omega) hj)]
theorem nA_0 (S : FS) (zb zc : Int32) : TT 41 S (f_X1_winsWhatever_k0 S zb zc) := by
  unfold f_X1_winsWhatever_k0
  obtain ⟨j, hj, ej⟩ : ∃ j : Nat, j < 2 ^ 31 ∧ imax 0 zb = nI j := by
    unfold imax
    by_cases z : 0 < zb
    · rw [if_pos z]; exact nI_of (fun q => Int32.lt_irrefl (Int32.lt_trans q z))
    · rw [if_neg z]; exact ⟨0, by decide, rfl⟩
  obtain ⟨S', v', x', r1, r2, r3⟩ := nL_0 (zb := zb) (zc := zc) FU j S 0 b0 hj (FU_lt (by omega))
  simp only [fv_s, show p_X1_winsWithin_k0 S zb zc = 0 from rfl, fv_s, ej]
  rw [r3, bz_b r2, fb_s]
  exact ⟨v', S', r2, r1, rfl⟩
theorem nT_1 (S : FS) (zb zc : Int32) : TT 41 S (f_X1_winsByTaking_k1 S zb zc) := by
  unfold f_X1_winsByTaking_k1
  by_cases a1 : zb < 0
  · rw [if_pos a1]; exact TT.of b0
  · rw [if_neg a1]
    by_cases a2 : zb < 5
    · rw [if_pos a2]
      obtain ⟨i, hi, -, ei⟩ := ix5 a1 a2
      rw [ei, fb_s]
      by_cases c1 : S.2 41 i < zc
      · rw [if_pos c1]
        by_cases c2 : zb = S.1 111
        · rw [if_pos c2]; exact TT.of b1
        · rw [if_neg c2]
          obtain ⟨v, S1, p1, p2, p3⟩ := nA_0 S (zb + 1) (zc - S.2 41 i)
          rw [p3, fb_s]
          split
          · exact ⟨0, S1, b0, p2, rfl⟩
          · exact ⟨1, S1, b1, p2, rfl⟩
      · rw [if_neg c1]; exact TT.of b0
    · rw [if_neg a2]; exact TT.of b0
theorem nB_1 (S : FS) (zb zc : Int32) : TT 41 S (f_X1_winsByWaiting_k1 S zb zc) := by
  unfold f_X1_winsByWaiting_k1
  obtain ⟨v, S1, p1, p2, p3⟩ := nA_0 S zb zc
  rw [p3, fb_s, bz_b p1, fb_s]; exact ⟨v, S1, p1, p2, rfl⟩
theorem nW_1 (S : FS) (zb zc : Int32) : TT 41 S (f_X1_winsWithin_k1 S zb zc) := by
  unfold f_X1_winsWithin_k1
  obtain ⟨v, S1, p1, p2, p3⟩ := nT_1 S zb zc
  rw [p3, fb_s]
  split
  · obtain ⟨w, S2, q1, q2, q3⟩ := nB_1 S1 zb zc
    rw [q3, fb_s]
    split
    · exact ⟨0, S2, b0, p2.tr q2, rfl⟩
    · exact ⟨1, S2, b1, p2.tr q2, rfl⟩
  · exact ⟨1, S1, b1, p2, rfl⟩
theorem nD_1 (S : FS) (za zb zd ze : Int32) : TT 41 S (f_X1_winsDespite_k1 S za zb zd ze) := by
  unfold f_X1_winsDespite_k1
  by_cases a1 : za < 0
  · rw [if_pos a1]; exact TT.of b1
  · rw [if_neg a1]
    by_cases a2 : za < 5
    · rw [if_pos a2]
      by_cases c1 : zb < 0
      · rw [if_pos c1]; exact TT.of b1
      · rw [if_neg c1]
        by_cases c2 : zb < 5
        · rw [if_pos c2]
          obtain ⟨i, hi, -, ei⟩ := ix5 a1 a2
          obtain ⟨j, hj, -, ej⟩ := ix5 c1 c2
          rw [ei, fb_s]
          by_cases d1 : S.2 41 i < 1
          · rw [if_pos d1]; exact TT.of b1
          · rw [if_neg d1, ej, fb_s]
            by_cases d2 : S.2 41 j < 6
            · rw [if_pos d2]
              obtain ⟨v, S1, w1, w2, w3⟩ := nW_1 (wA (wA S 41 i (S.2 41 i - 1)) 41 j ((wA S 41 i (S.2 41 i - 1)).2 41 j + 1)) zd ze
              simp only [fl_s, w3, fb_s, bz_b w1]
              exact ⟨v, _, w1, (((EA.w.tr EA.w).tr w2).tr EA.w).tr EA.w, rfl⟩
            · rw [if_neg d2]; exact TT.of b1
        · rw [if_neg c2]; exact TT.of b1
    · rw [if_neg a2]; exact TT.of b1
theorem nL_1 {zb zc : Int32} : ∀ (m j : Nat) (S : FS) (v : Int32), B01 v → j < 2 ^ 31 → 4 - j < m → ∃ (S' : FS) (v' x' : Int32), EA 41 S S' ∧ B01 v' ∧ ∀ k, l_X1_winsWhatever_k1_16 zb zc k m S v (nI j) = k S' v' x' := by
  intro m
  induction m with
  | zero => intro j S v _ _ hm; exact absurd hm (Nat.not_lt_zero _)
  | succ m ih =>
    intro j S v hv hj hm
    by_cases c : j < 4
    · have lt : nI j < 4 := nI_lt (b := 4) c (by decide)
      rcases hv with rfl | rfl
      · refine ⟨S, 0, nI j, EA.rf, b0, fun k => ?_⟩
        rw [l_X1_winsWhatever_k1_16, if_pos lt, if_pos rfl]
      · obtain ⟨v1, S1, p1, p2, p3⟩ := nD_1 S (nI j) (nI j + 1) zb zc
        by_cases z : v1 = 0
        · obtain ⟨S', v', x', r1, r2, r3⟩ := ih (j + 1) S1 0 b0 (by omega) (by omega)
          refine ⟨S', v', x', p2.tr r1, r2, fun k => ?_⟩
          rw [l_X1_winsWhatever_k1_16, if_pos lt, if_neg (by decide), p3, fb_s, if_pos z, nI_1]; exact r3 k
        · obtain ⟨v2, S2, q1, q2, q3⟩ := nD_1 S1 (nI j + 1) (nI j) zb zc
          by_cases y : v2 = 0
          · obtain ⟨S', v', x', r1, r2, r3⟩ := ih (j + 1) S2 0 b0 (by omega) (by omega)
            refine ⟨S', v', x', (p2.tr q2).tr r1, r2, fun k => ?_⟩
            rw [l_X1_winsWhatever_k1_16, if_pos lt, if_neg (by decide), p3, fb_s, if_neg z, q3, fb_s, if_pos y, nI_1]; exact r3 k
          · obtain ⟨S', v', x', r1, r2, r3⟩ := ih (j + 1) S2 1 b1 (by omega) (by omega)
            refine ⟨S', v', x', (p2.tr q2).tr r1, r2, fun k => ?_⟩
            rw [l_X1_winsWhatever_k1_16, if_pos lt, if_neg (by decide), p3, fb_s, if_neg z, q3, fb_s, if_neg y, nI_1]; exact r3 k
    · refine ⟨S, v, nI j, EA.rf, hv, fun k => ?_⟩
      rw [l_X1_winsWhatever_k1_16, if_neg (show ¬ nI j < 4 from nI_nlt (b := 4) (by omega) hj)]
theorem nA_1 (S : FS) (zb zc : Int32) : TT 41 S (f_X1_winsWhatever_k1 S zb zc) := by
  unfold f_X1_winsWhatever_k1
  obtain ⟨v, S1, w1, w2, w3⟩ := nW_1 S zb zc
  obtain ⟨j, hj, ej⟩ : ∃ j : Nat, j < 2 ^ 31 ∧ imax 0 zb = nI j := by
    unfold imax
    by_cases z : 0 < zb
    · rw [if_pos z]; exact nI_of (fun q => Int32.lt_irrefl (Int32.lt_trans q z))
    · rw [if_neg z]; exact ⟨0, by decide, rfl⟩
  obtain ⟨S', v', x', r1, r2, r3⟩ := nL_1 (zb := zb) (zc := zc) FU j S1 v w1 hj (FU_lt (by omega))
  simp only [w3, fb_s, fv_s, ej]
  rw [r3, bz_b r2, fb_s]
  exact ⟨v', S', r2, w2.tr r1, rfl⟩
theorem nT_2 (S : FS) (zb zc : Int32) : TT 41 S (f_X1_winsByTaking_k2 S zb zc) := by
  unfold f_X1_winsByTaking_k2
  by_cases a1 : zb < 0
  · rw [if_pos a1]; exact TT.of b0
  · rw [if_neg a1]
    by_cases a2 : zb < 5
    · rw [if_pos a2]
      obtain ⟨i, hi, -, ei⟩ := ix5 a1 a2
      rw [ei, fb_s]
      by_cases c1 : S.2 41 i < zc
      · rw [if_pos c1]
        by_cases c2 : zb = S.1 111
        · rw [if_pos c2]; exact TT.of b1
        · rw [if_neg c2]
          obtain ⟨v, S1, p1, p2, p3⟩ := nA_1 S (zb + 1) (zc - S.2 41 i)
          rw [p3, fb_s]
          split
          · exact ⟨0, S1, b0, p2, rfl⟩
          · exact ⟨1, S1, b1, p2, rfl⟩
      · rw [if_neg c1]; exact TT.of b0
    · rw [if_neg a2]; exact TT.of b0
theorem nB_2 (S : FS) (zb zc : Int32) : TT 41 S (f_X1_winsByWaiting_k2 S zb zc) := by
  unfold f_X1_winsByWaiting_k2
  obtain ⟨v, S1, p1, p2, p3⟩ := nA_1 S zb zc
  rw [p3, fb_s, bz_b p1, fb_s]; exact ⟨v, S1, p1, p2, rfl⟩
theorem nW_2 (S : FS) (zb zc : Int32) : TT 41 S (f_X1_winsWithin_k2 S zb zc) := by
  unfold f_X1_winsWithin_k2
  obtain ⟨v, S1, p1, p2, p3⟩ := nT_2 S zb zc
  rw [p3, fb_s]
  split
  · obtain ⟨w, S2, q1, q2, q3⟩ := nB_2 S1 zb zc
    rw [q3, fb_s]
    split
    · exact ⟨0, S2, b0, p2.tr q2, rfl⟩
    · exact ⟨1, S2, b1, p2.tr q2, rfl⟩
  · exact ⟨1, S1, b1, p2, rfl⟩
theorem nD_2 (S : FS) (za zb zd ze : Int32) : TT 41 S (f_X1_winsDespite_k2 S za zb zd ze) := by
  unfold f_X1_winsDespite_k2
  by_cases a1 : za < 0
  · rw [if_pos a1]; exact TT.of b1
  · rw [if_neg a1]
    by_cases a2 : za < 5
    · rw [if_pos a2]
      by_cases c1 : zb < 0
      · rw [if_pos c1]; exact TT.of b1
      · rw [if_neg c1]
        by_cases c2 : zb < 5
        · rw [if_pos c2]
          obtain ⟨i, hi, -, ei⟩ := ix5 a1 a2
          obtain ⟨j, hj, -, ej⟩ := ix5 c1 c2
          rw [ei, fb_s]
          by_cases d1 : S.2 41 i < 1
          · rw [if_pos d1]; exact TT.of b1
          · rw [if_neg d1, ej, fb_s]
            by_cases d2 : S.2 41 j < 6
            · rw [if_pos d2]
              obtain ⟨v, S1, w1, w2, w3⟩ := nW_2 (wA (wA S 41 i (S.2 41 i - 1)) 41 j ((wA S 41 i (S.2 41 i - 1)).2 41 j + 1)) zd ze
              simp only [fl_s, w3, fb_s, bz_b w1]
              exact ⟨v, _, w1, (((EA.w.tr EA.w).tr w2).tr EA.w).tr EA.w, rfl⟩
            · rw [if_neg d2]; exact TT.of b1
        · rw [if_neg c2]; exact TT.of b1
    · rw [if_neg a2]; exact TT.of b1
theorem nL_2 {zb zc : Int32} : ∀ (m j : Nat) (S : FS) (v : Int32), B01 v → j < 2 ^ 31 → 4 - j < m → ∃ (S' : FS) (v' x' : Int32), EA 41 S S' ∧ B01 v' ∧ ∀ k, l_X1_winsWhatever_k2_16 zb zc k m S v (nI j) = k S' v' x' := by
  intro m
  induction m with
  | zero => intro j S v _ _ hm; exact absurd hm (Nat.not_lt_zero _)
  | succ m ih =>
    intro j S v hv hj hm
    by_cases c : j < 4
    · have lt : nI j < 4 := nI_lt (b := 4) c (by decide)
      rcases hv with rfl | rfl
      · refine ⟨S, 0, nI j, EA.rf, b0, fun k => ?_⟩
        rw [l_X1_winsWhatever_k2_16, if_pos lt, if_pos rfl]
      · obtain ⟨v1, S1, p1, p2, p3⟩ := nD_2 S (nI j) (nI j + 1) zb zc
        by_cases z : v1 = 0
        · obtain ⟨S', v', x', r1, r2, r3⟩ := ih (j + 1) S1 0 b0 (by omega) (by omega)
          refine ⟨S', v', x', p2.tr r1, r2, fun k => ?_⟩
          rw [l_X1_winsWhatever_k2_16, if_pos lt, if_neg (by decide), p3, fb_s, if_pos z, nI_1]; exact r3 k
        · obtain ⟨v2, S2, q1, q2, q3⟩ := nD_2 S1 (nI j + 1) (nI j) zb zc
          by_cases y : v2 = 0
          · obtain ⟨S', v', x', r1, r2, r3⟩ := ih (j + 1) S2 0 b0 (by omega) (by omega)
            refine ⟨S', v', x', (p2.tr q2).tr r1, r2, fun k => ?_⟩
            rw [l_X1_winsWhatever_k2_16, if_pos lt, if_neg (by decide), p3, fb_s, if_neg z, q3, fb_s, if_pos y, nI_1]; exact r3 k
          · obtain ⟨S', v', x', r1, r2, r3⟩ := ih (j + 1) S2 1 b1 (by omega) (by omega)
            refine ⟨S', v', x', (p2.tr q2).tr r1, r2, fun k => ?_⟩
            rw [l_X1_winsWhatever_k2_16, if_pos lt, if_neg (by decide), p3, fb_s, if_neg z, q3, fb_s, if_neg y, nI_1]; exact r3 k
    · refine ⟨S, v, nI j, EA.rf, hv, fun k => ?_⟩
      rw [l_X1_winsWhatever_k2_16, if_neg (show ¬ nI j < 4 from nI_nlt (b := 4) (by omega) hj)]
theorem nA_2 (S : FS) (zb zc : Int32) : TT 41 S (f_X1_winsWhatever_k2 S zb zc) := by
  unfold f_X1_winsWhatever_k2
  obtain ⟨v, S1, w1, w2, w3⟩ := nW_2 S zb zc
  obtain ⟨j, hj, ej⟩ : ∃ j : Nat, j < 2 ^ 31 ∧ imax 0 zb = nI j := by
    unfold imax
    by_cases z : 0 < zb
    · rw [if_pos z]; exact nI_of (fun q => Int32.lt_irrefl (Int32.lt_trans q z))
    · rw [if_neg z]; exact ⟨0, by decide, rfl⟩
  obtain ⟨S', v', x', r1, r2, r3⟩ := nL_2 (zb := zb) (zc := zc) FU j S1 v w1 hj (FU_lt (by omega))
  simp only [w3, fb_s, fv_s, ej]
  rw [r3, bz_b r2, fb_s]
  exact ⟨v', S', r2, w2.tr r1, rfl⟩
theorem nT_3 (S : FS) (zb zc : Int32) : TT 41 S (f_X1_winsByTaking_k3 S zb zc) := by
  unfold f_X1_winsByTaking_k3
  by_cases a1 : zb < 0
  · rw [if_pos a1]; exact TT.of b0
  · rw [if_neg a1]
    by_cases a2 : zb < 5
    · rw [if_pos a2]
      obtain ⟨i, hi, -, ei⟩ := ix5 a1 a2
      rw [ei, fb_s]
      by_cases c1 : S.2 41 i < zc
      · rw [if_pos c1]
        by_cases c2 : zb = S.1 111
        · rw [if_pos c2]; exact TT.of b1
        · rw [if_neg c2]
          obtain ⟨v, S1, p1, p2, p3⟩ := nA_2 S (zb + 1) (zc - S.2 41 i)
          rw [p3, fb_s]
          split
          · exact ⟨0, S1, b0, p2, rfl⟩
          · exact ⟨1, S1, b1, p2, rfl⟩
      · rw [if_neg c1]; exact TT.of b0
    · rw [if_neg a2]; exact TT.of b0
theorem nB_3 (S : FS) (zb zc : Int32) : TT 41 S (f_X1_winsByWaiting_k3 S zb zc) := by
  unfold f_X1_winsByWaiting_k3
  obtain ⟨v, S1, p1, p2, p3⟩ := nA_2 S zb zc
  rw [p3, fb_s, bz_b p1, fb_s]; exact ⟨v, S1, p1, p2, rfl⟩
theorem nW_3 (S : FS) (zb zc : Int32) : TT 41 S (f_X1_winsWithin_k3 S zb zc) := by
  unfold f_X1_winsWithin_k3
  obtain ⟨v, S1, p1, p2, p3⟩ := nT_3 S zb zc
  rw [p3, fb_s]
  split
  · obtain ⟨w, S2, q1, q2, q3⟩ := nB_3 S1 zb zc
    rw [q3, fb_s]
    split
    · exact ⟨0, S2, b0, p2.tr q2, rfl⟩
    · exact ⟨1, S2, b1, p2.tr q2, rfl⟩
  · exact ⟨1, S1, b1, p2, rfl⟩
theorem can_t (T : FS) (a b : Int32) {i : Nat} (hi : i < 5) : ∃ v : Int32, q_X12_canTake T a b (nI i) = some v := by
  unfold q_X12_canTake
  rw [ix_nI hi (by decide)]
  simp only [fb_s]
  repeat' split
  all_goals exact ⟨_, rfl⟩
theorem w1_l {zb zc zd : Int32} : ∀ (m i : Nat) (v : Int32), B01 v → i ≤ 5 → 5 - i < m → ∃ (v' x' : Int32), B01 v' ∧ ∀ k, l_X12_wins_k1_15 zb zc zd T k m v (nI i) = k v' x' := by
  intro m
  induction m with
  | zero => intro i v _ _ hm; exact absurd hm (Nat.not_lt_zero _)
  | succ m ih =>
    intro i v hv hi hm
    by_cases c : i < 5
    · have lt : nI i < 5 := nI_lt (b := 5) c (by decide)
      rcases hv with rfl | rfl
      · obtain ⟨x, ex⟩ := can_t T zb zc c
        obtain ⟨v0, x0, s1, s2⟩ := ih (i + 1) 0 b0 (by omega) (by omega)
        obtain ⟨v1, x1, t1, t2⟩ := ih (i + 1) 1 b1 (by omega) (by omega)
        by_cases z : x = 0
        · refine ⟨v0, x0, s1, fun k => ?_⟩
          rw [l_X12_wins_k1_15, if_pos lt, if_pos rfl, ex, fb_s, if_pos z, nI_1]; exact s2 k
        · by_cases y : p_X12_winsBy_k1 T (nI i) zb zc zd = 0
          · refine ⟨v0, x0, s1, fun k => ?_⟩
            rw [l_X12_wins_k1_15, if_pos lt, if_pos rfl, ex, fb_s, if_neg z, if_pos y, nI_1]; exact s2 k
          · refine ⟨v1, x1, t1, fun k => ?_⟩
            rw [l_X12_wins_k1_15, if_pos lt, if_pos rfl, ex, fb_s, if_neg z, if_neg y, nI_1]; exact t2 k
      · refine ⟨1, nI i, b1, fun k => ?_⟩
        rw [l_X12_wins_k1_15, if_pos lt, if_neg (by decide)]
    · obtain rfl : i = 5 := by omega
      refine ⟨v, nI 5, hv, fun k => ?_⟩
      rw [l_X12_wins_k1_15, if_neg (by decide)]
theorem w1_t (T : FS) (zb zc zd : Int32) : ∃ v : Int32, B01 v ∧ q_X12_wins_k1 T zb zc zd = some v := by
  unfold q_X12_wins_k1
  have hb : B01 (p_X12_winsBy_k1 T (-1) zb zc zd) := by
    unfold p_X12_winsBy_k1; split
    · exact b1
    · exact b0
  obtain ⟨v', x', r1, r2⟩ := w1_l (T := T) (zb := zb) (zc := zc) (zd := zd) FU 0 _ hb (by omega) (FU_lt (by omega))
  refine ⟨v', r1, ?_⟩
  rw [fv_s, show ∀ k, l_X12_wins_k1_15 zb zc zd T k FU (p_X12_winsBy_k1 T (-1) zb zc zd) 0 = k v' x' from r2, bz_b r1, fb_s]
theorem s82_2 {ze v6 v7 : Int32} {i : Nat} (hi : i < 5) (m : Nat) (T : FS) (v y : Int32) (hy : ¬ 1 < y) (hv : B01 v) : (v = 0 ∧ ∀ k, l_X12_winsBy_k2_82 ze v6 v7 (nI i) k (m + 1) T v y = k T v y) ∨ ∃ (T' : FS) (v' : Int32), EA 66 T T' ∧ B01 v' ∧ ∀ k, l_X12_winsBy_k2_82 ze v6 v7 (nI i) k (m + 1) T v y = l_X12_winsBy_k2_82 ze v6 v7 (nI i) k m T' v' (y + 2) := by
  rcases hv with rfl | rfl
  · left
    refine ⟨rfl, fun k => ?_⟩
    rw [l_X12_winsBy_k2_82, if_neg hy, if_pos rfl]
  · right
    have st : ∀ k, l_X12_winsBy_k2_82 ze v6 v7 (nI i) k (m + 1) T 1 y = _ := fun k => by
      rw [l_X12_winsBy_k2_82, if_neg hy, if_neg (show ¬ (1 : Int32) = 0 by decide), fv_s]
    have skip : (∀ k, l_X12_winsBy_k2_82 ze v6 v7 (nI i) k (m + 1) T 1 y = l_X12_winsBy_k2_82 ze v6 v7 (nI i) k m T 1 (y + 2)) → ∃ (T' : FS) (v' : Int32), EA 66 T T' ∧ B01 v' ∧ ∀ k, l_X12_winsBy_k2_82 ze v6 v7 (nI i) k (m + 1) T 1 y = l_X12_winsBy_k2_82 ze v6 v7 (nI i) k m T' v' (y + 2) := fun e => ⟨T, 1, EA.rf, b1, e⟩
    by_cases a1 : p_X12_in T (nI i + y) 0 4 = 0
    · exact skip (fun k => by rw [st, if_pos a1])
    · by_cases a2 : p_X12_isTaken T v6 (nI i) = 0
      · by_cases a3 : p_X12_isTaken T v6 (nI i + y) = 0
        · have ei : ix 5 (nI i) = some i := ix_nI hi (by decide)
          by_cases a4 : T.2 66 i = 0
          · exact skip (fun k => by rw [st, if_neg a1, if_pos a2, if_pos a3, ei, fb_s, if_pos a4])
          · obtain ⟨j, hj, ej⟩ : ∃ j : Nat, j < 5 ∧ ix 5 (nI i + y) = some j := by
              have q1 : ¬ nI i + y < 0 := fun q => a1 (by unfold p_X12_in; rw [if_pos q])
              have q2 : ¬ (4 : Int32) < nI i + y := fun q => a1 (by unfold p_X12_in; rw [if_neg q1, if_pos q])
              obtain ⟨j, hj, e⟩ := in_nat (a := 0) (b := 4) (by decide) (by decide) q1 q2
              rw [e]; exact ⟨j, by omega, ix_nI (by omega) (by decide)⟩
            by_cases a5 : T.2 66 j = 6
            · exact skip (fun k => by rw [st, if_neg a1, if_pos a2, if_pos a3, ei, fb_s, if_neg a4, ej, fb_s, if_pos a5])
            · obtain ⟨x, hx, ex⟩ := w1_t (wA (wA T 66 i (T.2 66 i - 1)) 66 j ((wA T 66 i (T.2 66 i - 1)).2 66 j + 1)) v6 v7 ze
              refine ⟨wA (wA (wA (wA T 66 i (T.2 66 i - 1)) 66 j ((wA T 66 i (T.2 66 i - 1)).2 66 j + 1)) 66 i ((wA (wA T 66 i (T.2 66 i - 1)) 66 j ((wA T 66 i (T.2 66 i - 1)).2 66 j + 1)).2 66 i + 1)) 66 j ((wA (wA (wA T 66 i (T.2 66 i - 1)) 66 j ((wA T 66 i (T.2 66 i - 1)).2 66 j + 1)) 66 i ((wA (wA T 66 i (T.2 66 i - 1)) 66 j ((wA T 66 i (T.2 66 i - 1)).2 66 j + 1)).2 66 i + 1)).2 66 j - 1), x, ((EA.w.tr EA.w).tr EA.w).tr EA.w, hx, fun k => ?_⟩
              rw [st, if_neg a1, if_pos a2, if_pos a3, ei, fb_s, if_neg a4, ej, fb_s, if_neg a5, fl_s, fl_s, ex, fb_s, fl_s, fl_s]
        · exact skip (fun k => by rw [st, if_neg a1, if_pos a2, if_neg a3])
      · exact skip (fun k => by rw [st, if_neg a1, if_neg a2])
theorem l82_2 {ze v6 v7 : Int32} {i : Nat} (hi : i < 5) (m : Nat) (hm : 3 ≤ m) (T : FS) (v : Int32) (hv : B01 v) : ∃ (T' : FS) (v' x' : Int32), EA 66 T T' ∧ B01 v' ∧ ∀ k, l_X12_winsBy_k2_82 ze v6 v7 (nI i) k m T v (-1) = k T' v' x' := by
  obtain ⟨m, rfl⟩ : ∃ q : Nat, m = q + 1 + 1 + 1 := ⟨m - 3, by omega⟩
  rcases s82_2 (ze := ze) (v6 := v6) (v7 := v7) hi (m + 1 + 1) T v (-1) (by decide) hv with ⟨z, e⟩ | ⟨T1, v1, p1, p2, p3⟩
  · exact ⟨T, v, -1, EA.rf, hv, e⟩
  · rcases s82_2 (ze := ze) (v6 := v6) (v7 := v7) hi (m + 1) T1 v1 (-1 + 2) (by decide) p2 with ⟨z, e⟩ | ⟨T2, v2, q1, q2, q3⟩
    · exact ⟨T1, v1, -1 + 2, p1, p2, fun k => (p3 k).trans (e k)⟩
    · refine ⟨T2, v2, -1 + 2 + 2, p1.tr q1, q2, fun k => (p3 k).trans ((q3 k).trans ?_)⟩
      rw [l_X12_winsBy_k2_82, if_pos (by decide)]
theorem l68_2 {ze v6 v7 : Int32} : ∀ (m i : Nat) (T : FS) (v : Int32), B01 v → i ≤ 5 → 5 - i < m → ∃ (T' : FS) (v' x' : Int32), EA 66 T T' ∧ B01 v' ∧ ∀ k, l_X12_winsBy_k2_68 ze v6 v7 k m T v (nI i) = k T' v' x' := by
  intro m
  induction m with
  | zero => intro i T v _ _ hm; exact absurd hm (Nat.not_lt_zero _)
  | succ m ih =>
    intro i T v hv hi hm
    by_cases c : i < 5
    · have lt : nI i < 5 := nI_lt (b := 5) c (by decide)
      by_cases z : v = 0
      · refine ⟨T, v, nI i, EA.rf, hv, fun k => ?_⟩
        rw [l_X12_winsBy_k2_68, if_pos lt, if_pos z]
      · obtain ⟨T1, v1, x1, p1, p2, p3⟩ := l82_2 (ze := ze) (v6 := v6) (v7 := v7) c FU (by decide) T v hv
        obtain ⟨T2, v2, x2, q1, q2, q3⟩ := ih (i + 1) T1 v1 p2 (by omega) (by omega)
        refine ⟨T2, v2, x2, p1.tr q1, q2, fun k => ?_⟩
        rw [l_X12_winsBy_k2_68, if_pos lt, if_neg z, p3, nI_1]; exact q3 k
    · obtain rfl : i = 5 := by omega
      refine ⟨T, v, nI 5, EA.rf, hv, fun k => ?_⟩
      rw [l_X12_winsBy_k2_68, if_neg (by decide)]
theorem j50_2 (T : FS) (ze v6 v7 : Int32) : TT 66 T (j_X12_winsBy_k2_50 ze T v6 v7) := by
  unfold j_X12_winsBy_k2_50
  obtain ⟨x, hx, ex⟩ := w1_t T v6 v7 ze
  obtain ⟨T2, v2, x2, q1, q2, q3⟩ := l68_2 (ze := ze) (v6 := v6) (v7 := v7) FU 0 T x hx (by omega) (FU_lt (by omega))
  rw [ex, fb_s]
  show TT 66 T (l_X12_winsBy_k2_68 ze v6 v7 _ FU T x (nI 0))
  rw [q3, bz_b q2, fb_s]
  exact ⟨v2, T2, q2, q1, rfl⟩
theorem wb_2 (T : FS) (za zc zd ze : Int32) (hz : za < 0 ∨ ∃ i : Nat, i < 5 ∧ za = nI i) : TT 66 T (f_X12_winsBy_k2 T za zc zd ze) := by
  unfold f_X12_winsBy_k2
  by_cases a : za = ze
  · rw [if_pos a]; exact TT.of b1
  · rw [if_neg a]
    rcases hz with hz | ⟨i, hi, rfl⟩
    · rw [if_pos hz]; exact j50_2 T ze zc zd
    · rw [if_neg (nI_pos (by omega)), fv_s, ix_nI hi (by decide), fb_s, fv_s]; exact j50_2 T ze _ _
theorem w2_l {zb zc zd : Int32} : ∀ (m i : Nat) (T : FS) (v : Int32), B01 v → i ≤ 5 → 5 - i < m → ∃ (T' : FS) (v' x' : Int32), EA 66 T T' ∧ B01 v' ∧ ∀ k, l_X12_wins_k2_15 zb zc zd k m T v (nI i) = k T' v' x' := by
  intro m
  induction m with
  | zero => intro i T v _ _ hm; exact absurd hm (Nat.not_lt_zero _)
  | succ m ih =>
    intro i T v hv hi hm
    by_cases c : i < 5
    · have lt : nI i < 5 := nI_lt (b := 5) c (by decide)
      rcases hv with rfl | rfl
      · obtain ⟨x, ex⟩ := can_t T zb zc c
        by_cases z : x = 0
        · obtain ⟨T', v', x', r1, r2, r3⟩ := ih (i + 1) T 0 b0 (by omega) (by omega)
          refine ⟨T', v', x', r1, r2, fun k => ?_⟩
          rw [l_X12_wins_k2_15, if_pos lt, if_pos rfl, ex, fb_s, if_pos z, nI_1]; exact r3 k
        · obtain ⟨y, T1, p1, p2, p3⟩ := wb_2 T (nI i) zb zc zd (Or.inr ⟨i, c, rfl⟩)
          by_cases y0 : y = 0
          · obtain ⟨T', v', x', r1, r2, r3⟩ := ih (i + 1) T1 0 b0 (by omega) (by omega)
            refine ⟨T', v', x', p2.tr r1, r2, fun k => ?_⟩
            rw [l_X12_wins_k2_15, if_pos lt, if_pos rfl, ex, fb_s, if_neg z, p3, fb_s, if_pos y0, nI_1]; exact r3 k
          · obtain ⟨T', v', x', r1, r2, r3⟩ := ih (i + 1) T1 1 b1 (by omega) (by omega)
            refine ⟨T', v', x', p2.tr r1, r2, fun k => ?_⟩
            rw [l_X12_wins_k2_15, if_pos lt, if_pos rfl, ex, fb_s, if_neg z, p3, fb_s, if_neg y0, nI_1]; exact r3 k
      · refine ⟨T, 1, nI i, EA.rf, b1, fun k => ?_⟩
        rw [l_X12_wins_k2_15, if_pos lt, if_neg (by decide)]
    · obtain rfl : i = 5 := by omega
      refine ⟨T, v, nI 5, EA.rf, hv, fun k => ?_⟩
      rw [l_X12_wins_k2_15, if_neg (by decide)]
theorem w2_t (T : FS) (zb zc zd : Int32) : TT 66 T (f_X12_wins_k2 T zb zc zd) := by
  unfold f_X12_wins_k2
  obtain ⟨y, T1, p1, p2, p3⟩ := wb_2 T (-1) zb zc zd (Or.inl (by decide))
  obtain ⟨T', v', x', r1, r2, r3⟩ := w2_l (zb := zb) (zc := zc) (zd := zd) FU 0 T1 y p1 (by omega) (FU_lt (by omega))
  rw [p3, fb_s]
  show TT 66 T (l_X12_wins_k2_15 zb zc zd _ FU T1 y (nI 0))
  rw [r3, bz_b r2, fb_s]
  exact ⟨v', T', r2, p2.tr r1, rfl⟩
theorem s82_3 {ze v6 v7 : Int32} {i : Nat} (hi : i < 5) (m : Nat) (T : FS) (v y : Int32) (hy : ¬ 1 < y) (hv : B01 v) : (v = 0 ∧ ∀ k, l_X12_winsBy_k3_82 ze v6 v7 (nI i) k (m + 1) T v y = k T v y) ∨ ∃ (T' : FS) (v' : Int32), EA 66 T T' ∧ B01 v' ∧ ∀ k, l_X12_winsBy_k3_82 ze v6 v7 (nI i) k (m + 1) T v y = l_X12_winsBy_k3_82 ze v6 v7 (nI i) k m T' v' (y + 2) := by
  rcases hv with rfl | rfl
  · left
    refine ⟨rfl, fun k => ?_⟩
    rw [l_X12_winsBy_k3_82, if_neg hy, if_pos rfl]
  · right
    have st : ∀ k, l_X12_winsBy_k3_82 ze v6 v7 (nI i) k (m + 1) T 1 y = _ := fun k => by
      rw [l_X12_winsBy_k3_82, if_neg hy, if_neg (show ¬ (1 : Int32) = 0 by decide), fv_s]
    have skip : (∀ k, l_X12_winsBy_k3_82 ze v6 v7 (nI i) k (m + 1) T 1 y = l_X12_winsBy_k3_82 ze v6 v7 (nI i) k m T 1 (y + 2)) → ∃ (T' : FS) (v' : Int32), EA 66 T T' ∧ B01 v' ∧ ∀ k, l_X12_winsBy_k3_82 ze v6 v7 (nI i) k (m + 1) T 1 y = l_X12_winsBy_k3_82 ze v6 v7 (nI i) k m T' v' (y + 2) := fun e => ⟨T, 1, EA.rf, b1, e⟩
    by_cases a1 : p_X12_in T (nI i + y) 0 4 = 0
    · exact skip (fun k => by rw [st, if_pos a1])
    · by_cases a2 : p_X12_isTaken T v6 (nI i) = 0
      · by_cases a3 : p_X12_isTaken T v6 (nI i + y) = 0
        · have ei : ix 5 (nI i) = some i := ix_nI hi (by decide)
          by_cases a4 : T.2 66 i = 0
          · exact skip (fun k => by rw [st, if_neg a1, if_pos a2, if_pos a3, ei, fb_s, if_pos a4])
          · obtain ⟨j, hj, ej⟩ : ∃ j : Nat, j < 5 ∧ ix 5 (nI i + y) = some j := by
              have q1 : ¬ nI i + y < 0 := fun q => a1 (by unfold p_X12_in; rw [if_pos q])
              have q2 : ¬ (4 : Int32) < nI i + y := fun q => a1 (by unfold p_X12_in; rw [if_neg q1, if_pos q])
              obtain ⟨j, hj, e⟩ := in_nat (a := 0) (b := 4) (by decide) (by decide) q1 q2
              rw [e]; exact ⟨j, by omega, ix_nI (by omega) (by decide)⟩
            by_cases a5 : T.2 66 j = 6
            · exact skip (fun k => by rw [st, if_neg a1, if_pos a2, if_pos a3, ei, fb_s, if_neg a4, ej, fb_s, if_pos a5])
            · obtain ⟨x, T1, hx, tx, ex⟩ := w2_t (wA (wA T 66 i (T.2 66 i - 1)) 66 j ((wA T 66 i (T.2 66 i - 1)).2 66 j + 1)) v6 v7 ze
              refine ⟨wA (wA T1 66 i (T1.2 66 i + 1)) 66 j ((wA T1 66 i (T1.2 66 i + 1)).2 66 j - 1), x, (((EA.w.tr EA.w).tr tx).tr EA.w).tr EA.w, hx, fun k => ?_⟩
              rw [st, if_neg a1, if_pos a2, if_pos a3, ei, fb_s, if_neg a4, ej, fb_s, if_neg a5, fl_s, fl_s, ex, fb_s, fl_s, fl_s]
        · exact skip (fun k => by rw [st, if_neg a1, if_pos a2, if_neg a3])
      · exact skip (fun k => by rw [st, if_neg a1, if_neg a2])
theorem l82_3 {ze v6 v7 : Int32} {i : Nat} (hi : i < 5) (m : Nat) (hm : 3 ≤ m) (T : FS) (v : Int32) (hv : B01 v) : ∃ (T' : FS) (v' x' : Int32), EA 66 T T' ∧ B01 v' ∧ ∀ k, l_X12_winsBy_k3_82 ze v6 v7 (nI i) k m T v (-1) = k T' v' x' := by
  obtain ⟨m, rfl⟩ : ∃ q : Nat, m = q + 1 + 1 + 1 := ⟨m - 3, by omega⟩
  rcases s82_3 (ze := ze) (v6 := v6) (v7 := v7) hi (m + 1 + 1) T v (-1) (by decide) hv with ⟨z, e⟩ | ⟨T1, v1, p1, p2, p3⟩
  · exact ⟨T, v, -1, EA.rf, hv, e⟩
  · rcases s82_3 (ze := ze) (v6 := v6) (v7 := v7) hi (m + 1) T1 v1 (-1 + 2) (by decide) p2 with ⟨z, e⟩ | ⟨T2, v2, q1, q2, q3⟩
    · exact ⟨T1, v1, -1 + 2, p1, p2, fun k => (p3 k).trans (e k)⟩
    · refine ⟨T2, v2, -1 + 2 + 2, p1.tr q1, q2, fun k => (p3 k).trans ((q3 k).trans ?_)⟩
      rw [l_X12_winsBy_k3_82, if_pos (by decide)]
theorem l68_3 {ze v6 v7 : Int32} : ∀ (m i : Nat) (T : FS) (v : Int32), B01 v → i ≤ 5 → 5 - i < m → ∃ (T' : FS) (v' x' : Int32), EA 66 T T' ∧ B01 v' ∧ ∀ k, l_X12_winsBy_k3_68 ze v6 v7 k m T v (nI i) = k T' v' x' := by
  intro m
  induction m with
  | zero => intro i T v _ _ hm; exact absurd hm (Nat.not_lt_zero _)
  | succ m ih =>
    intro i T v hv hi hm
    by_cases c : i < 5
    · have lt : nI i < 5 := nI_lt (b := 5) c (by decide)
      by_cases z : v = 0
      · refine ⟨T, v, nI i, EA.rf, hv, fun k => ?_⟩
        rw [l_X12_winsBy_k3_68, if_pos lt, if_pos z]
      · obtain ⟨T1, v1, x1, p1, p2, p3⟩ := l82_3 (ze := ze) (v6 := v6) (v7 := v7) c FU (by decide) T v hv
        obtain ⟨T2, v2, x2, q1, q2, q3⟩ := ih (i + 1) T1 v1 p2 (by omega) (by omega)
        refine ⟨T2, v2, x2, p1.tr q1, q2, fun k => ?_⟩
        rw [l_X12_winsBy_k3_68, if_pos lt, if_neg z, p3, nI_1]; exact q3 k
    · obtain rfl : i = 5 := by omega
      refine ⟨T, v, nI 5, EA.rf, hv, fun k => ?_⟩
      rw [l_X12_winsBy_k3_68, if_neg (by decide)]
theorem j50_3 (T : FS) (ze v6 v7 : Int32) : TT 66 T (j_X12_winsBy_k3_50 ze T v6 v7) := by
  unfold j_X12_winsBy_k3_50
  obtain ⟨x, T1, hx, tx, ex⟩ := w2_t T v6 v7 ze
  obtain ⟨T2, v2, x2, q1, q2, q3⟩ := l68_3 (ze := ze) (v6 := v6) (v7 := v7) FU 0 T1 x hx (by omega) (FU_lt (by omega))
  rw [ex, fb_s]
  show TT 66 T (l_X12_winsBy_k3_68 ze v6 v7 _ FU T1 x (nI 0))
  rw [q3, bz_b q2, fb_s]
  exact ⟨v2, T2, q2, tx.tr q1, rfl⟩
theorem wb_3 (T : FS) (za zc zd ze : Int32) (hz : za < 0 ∨ ∃ i : Nat, i < 5 ∧ za = nI i) : TT 66 T (f_X12_winsBy_k3 T za zc zd ze) := by
  unfold f_X12_winsBy_k3
  by_cases a : za = ze
  · rw [if_pos a]; exact TT.of b1
  · rw [if_neg a]
    rcases hz with hz | ⟨i, hi, rfl⟩
    · rw [if_pos hz]; exact j50_3 T ze zc zd
    · rw [if_neg (nI_pos (by omega)), fv_s, ix_nI hi (by decide), fb_s, fv_s]; exact j50_3 T ze _ _
theorem prepC_l : ∀ (m i : Nat) (S : FS), i ≤ 5 → 5 - i < m → ∃ S' : FS, EA 41 S S' ∧ ∀ k, l_X1_prepare_7 k m S (nI i) = k S' (nI 5) := by
  intro m
  induction m with
  | zero => intro i S _ hm; exact absurd hm (Nat.not_lt_zero _)
  | succ m ih =>
    intro i S hi hm
    by_cases c : i < 5
    · obtain ⟨S', r1, r2⟩ := ih (i + 1) (wA S 41 i (fG 20 5 1 S (nI i) 0)) (by omega) (by omega)
      refine ⟨S', EA.w.tr r1, fun k => ?_⟩
      rw [l_X1_prepare_7, if_pos (show nI i < 5 from nI_lt (b := 5) c (by decide)), ix_nI c (by decide), fb_s, fl_s, nI_1]; exact r2 k
    · obtain rfl : i = 5 := by omega
      refine ⟨S, EA.rf, fun k => ?_⟩
      rw [l_X1_prepare_7, if_neg (by decide)]
theorem prepM_l : ∀ (m i : Nat) (T : FS), i ≤ 5 → 5 - i < m → ∃ T' : FS, EA 66 T T' ∧ ∀ k, l_X12_night_47 k m T (nI i) = k T' (nI 5) := by
  intro m
  induction m with
  | zero => intro i T _ hm; exact absurd hm (Nat.not_lt_zero _)
  | succ m ih =>
    intro i T hi hm
    by_cases c : i < 5
    · obtain ⟨T', r1, r2⟩ := ih (i + 1) (wA T 66 i (T.2 55 (1986 + i))) (by omega) (by omega)
      refine ⟨T', EA.w.tr r1, fun k => ?_⟩
      rw [l_X12_night_47, if_pos (show nI i < 5 from nI_lt (b := 5) c (by decide)), show (1986 : Int32) + nI i = nI (1986 + i) from nI_add 1986 i, ix_nI (show 1986 + i < 2071 by omega) (by decide), fb_s, ix_nI c (by decide), fb_s, fl_s, nI_1]; exact r2 k
    · obtain rfl : i = 5 := by omega
      refine ⟨T, EA.rf, fun k => ?_⟩
      rw [l_X12_night_47, if_neg (by decide)]
theorem nig_l {za zc : Int32} {zb : Int32} (hb : zb = 1 ∨ zb = 2 ∨ zb = 3) : ∀ (m i : Nat) (T : FS) (x : Int32), i ≤ 5 → i < m → ∃ (T' : FS) (x' : Int32), EA 66 T T' ∧ ∀ k, l_X12_night_84 za zb zc k m T x (nI i - 1) = k T' x' (-1) := by
  intro m
  induction m with
  | zero => intro i T x _ hm; exact absurd hm (Nat.not_lt_zero _)
  | succ m ih =>
    intro i T x hi hm
    cases i with
    | zero =>
      refine ⟨T, x, EA.rf, fun k => ?_⟩
      rw [l_X12_night_84, if_pos (by decide)]; rfl
    | succ j =>
      have j5 : j < 5 := by omega
      obtain ⟨y, ey⟩ := can_t T 0 za j5
      have st : ∀ k, l_X12_night_84 za zb zc k (m + 1) T x (nI (j + 1) - 1) = _ := fun k => by
        rw [l_X12_night_84, nI_pred, if_neg (nI_pos (show j < 2 ^ 31 by omega)), ey, fb_s, ← Int32.sub_eq_add_neg]
      by_cases y0 : y = 0
      · obtain ⟨T', x', r1, r2⟩ := ih j T x (by omega) (by omega)
        exact ⟨T', x', r1, fun k => by rw [st, if_pos y0]; exact r2 k⟩
      · rcases hb with rfl | rfl | rfl
        · by_cases z : p_X12_winsBy_k1 T (nI j) 0 za zc = 0
          · obtain ⟨T', x', r1, r2⟩ := ih j T x (by omega) (by omega)
            exact ⟨T', x', r1, fun k => by rw [st, if_neg y0, if_pos rfl, if_pos z]; exact r2 k⟩
          · obtain ⟨T', x', r1, r2⟩ := ih j T (nI j) (by omega) (by omega)
            exact ⟨T', x', r1, fun k => by rw [st, if_neg y0, if_pos rfl, if_neg z]; exact r2 k⟩
        · obtain ⟨v, T1, p1, p2, p3⟩ := wb_2 T (nI j) 0 za zc (Or.inr ⟨j, j5, rfl⟩)
          by_cases z : v = 0
          · obtain ⟨T', x', r1, r2⟩ := ih j T1 x (by omega) (by omega)
            exact ⟨T', x', p2.tr r1, fun k => by rw [st, if_neg y0, if_neg (by decide), if_pos rfl, p3, fb_s, if_pos z]; exact r2 k⟩
          · obtain ⟨T', x', r1, r2⟩ := ih j T1 (nI j) (by omega) (by omega)
            exact ⟨T', x', p2.tr r1, fun k => by rw [st, if_neg y0, if_neg (by decide), if_pos rfl, p3, fb_s, if_neg z]; exact r2 k⟩
        · obtain ⟨v, T1, p1, p2, p3⟩ := wb_3 T (nI j) 0 za zc (Or.inr ⟨j, j5, rfl⟩)
          by_cases z : v = 0
          · obtain ⟨T', x', r1, r2⟩ := ih j T1 x (by omega) (by omega)
            exact ⟨T', x', p2.tr r1, fun k => by rw [st, if_neg y0, if_neg (by decide), if_neg (by decide), if_pos rfl, p3, fb_s, if_pos z]; exact r2 k⟩
          · obtain ⟨T', x', r1, r2⟩ := ih j T1 (nI j) (by omega) (by omega)
            exact ⟨T', x', p2.tr r1, fun k => by rw [st, if_neg y0, if_neg (by decide), if_neg (by decide), if_pos rfl, p3, fb_s, if_neg z]; exact r2 k⟩
theorem EA.ce {A B : FS} (h : EA 41 A B) : CE A B := by
  refine ⟨⟨⟨h.2 _ (by decide), h.2 _ (by decide), h.2 _ (by decide), h.2 _ (by decide)⟩, by rw [h.1], by rw [h.1]⟩, fun k hk => by rw [h.1], fun a ha => h.2 a ?_⟩
  intro q; subst q; revert ha; decide
theorem EA.me {A B : FS} (h : EA 66 A B) : ME A B := ⟨⟨⟨h.2 _ (by decide), h.2 _ (by decide), h.2 _ (by decide), h.2 _ (by decide), h.2 _ (by decide)⟩, by rw [h.1], by rw [h.1]⟩, h.2 _ (by decide)⟩
theorem nightC (S0 : FS) (za zb zd : Int32) (hb : zb = 1 ∨ zb = 2 ∨ zb = 3) : ∃ (v : Int32) (S' : FS), CE S0 S' ∧ (if zb = 1 then (if zd = 0 then (fb (f_X1_winsWithin_k1 S0 0 za) (fun r27 =>
       if r27.1 = 0 then (some (0, r27.2)) else (some (1, r27.2)))) else (fb (f_X1_winsByTaking_k1 S0 0 za) (fun r17 =>
       if r17.1 = 0 then (fb (f_X1_winsByWaiting_k1 r17.2 0 za) (fun r20 =>
        if r20.1 = 0 then (f_X11_told r20.2 (-1000002)) else (f_X11_told r20.2 (-1)))) else (some (0, r17.2))))) else if zb = 2 then (if zd = 0 then (fb (f_X1_winsWithin_k2 S0 0 za) (fun r43 =>
       if r43.1 = 0 then (some (0, r43.2)) else (some (1, r43.2)))) else (fb (f_X1_winsByTaking_k2 S0 0 za) (fun r33 =>
       if r33.1 = 0 then (fb (f_X1_winsByWaiting_k2 r33.2 0 za) (fun r36 =>
        if r36.1 = 0 then (f_X11_told r36.2 (-1000002)) else (f_X11_told r36.2 (-1)))) else (some (0, r33.2))))) else if zb = 3 then (if zd = 0 then (fb (f_X1_winsWithin_k3 S0 0 za) (fun r59 =>
       if r59.1 = 0 then (some (0, r59.2)) else (some (1, r59.2)))) else (fb (f_X1_winsByTaking_k3 S0 0 za) (fun r49 =>
       if r49.1 = 0 then (fb (f_X1_winsByWaiting_k3 r49.2 0 za) (fun r52 =>
        if r52.1 = 0 then (f_X11_told r52.2 (-1000002)) else (f_X11_told r52.2 (-1)))) else (some (0, r49.2))))) else none) = some (v, S') := by
  have td : ∀ (S1 : FS) (x : Int32), EA 41 S0 S1 → ∃ (v : Int32) (S' : FS), CE S0 S' ∧ f_X11_told S1 x = some (v, S') := fun S1 x e => by
    obtain ⟨S2, f1, f2⟩ := told_e S1 x
    exact ⟨_, S2, e.ce.tr f2, f1⟩
  rcases hb with rfl | rfl | rfl
  · rw [if_pos rfl]
    by_cases z : zd = 0
    · rw [if_pos z]
      obtain ⟨v, S1, p1, p2, p3⟩ := nW_1 S0 0 za
      rw [p3, fb_s]
      split
      · exact ⟨_, S1, p2.ce, rfl⟩
      · exact ⟨_, S1, p2.ce, rfl⟩
    · rw [if_neg z]
      obtain ⟨v, S1, p1, p2, p3⟩ := nT_1 S0 0 za
      rw [p3, fb_s]
      split
      · obtain ⟨w, S2, q1, q2, q3⟩ := nB_1 S1 0 za
        rw [q3, fb_s]
        split
        · exact td S2 _ (p2.tr q2)
        · exact td S2 _ (p2.tr q2)
      · exact ⟨_, S1, p2.ce, rfl⟩
  · rw [if_neg (show ¬ (2 : Int32) = 1 by decide), if_pos rfl]
    by_cases z : zd = 0
    · rw [if_pos z]
      obtain ⟨v, S1, p1, p2, p3⟩ := nW_2 S0 0 za
      rw [p3, fb_s]
      split
      · exact ⟨_, S1, p2.ce, rfl⟩
      · exact ⟨_, S1, p2.ce, rfl⟩
    · rw [if_neg z]
      obtain ⟨v, S1, p1, p2, p3⟩ := nT_2 S0 0 za
      rw [p3, fb_s]
      split
      · obtain ⟨w, S2, q1, q2, q3⟩ := nB_2 S1 0 za
        rw [q3, fb_s]
        split
        · exact td S2 _ (p2.tr q2)
        · exact td S2 _ (p2.tr q2)
      · exact ⟨_, S1, p2.ce, rfl⟩
  · rw [if_neg (show ¬ (3 : Int32) = 1 by decide), if_neg (show ¬ (3 : Int32) = 2 by decide), if_pos rfl]
    by_cases z : zd = 0
    · rw [if_pos z]
      obtain ⟨v, S1, p1, p2, p3⟩ := nW_3 S0 0 za
      rw [p3, fb_s]
      split
      · exact ⟨_, S1, p2.ce, rfl⟩
      · exact ⟨_, S1, p2.ce, rfl⟩
    · rw [if_neg z]
      obtain ⟨v, S1, p1, p2, p3⟩ := nT_3 S0 0 za
      rw [p3, fb_s]
      split
      · obtain ⟨w, S2, q1, q2, q3⟩ := nB_3 S1 0 za
        rw [q3, fb_s]
        split
        · exact td S2 _ (p2.tr q2)
        · exact td S2 _ (p2.tr q2)
      · exact ⟨_, S1, p2.ce, rfl⟩
theorem nightE (T0 T : FS) (e : EA 66 T0 T) (zd x : Int32) : ∃ (v : Int32) (T' : FS), ME T0 T' ∧ (if zd = 0 then (if (-2) < x then (some (1, T)) else (some (0, T))) else (if (-2) < x then (some (x, T)) else (f_X12_finds T 2))) = some (v, T') := by
  split
  · split
    · exact ⟨_, T, e.me, rfl⟩
    · exact ⟨_, T, e.me, rfl⟩
  · split
    · exact ⟨_, T, e.me, rfl⟩
    · obtain ⟨T2, f1, f2⟩ := finds_2 T
      exact ⟨_, T2, e.me.tr f2, f1⟩
theorem op_night (h : RelR K S (T.2 55)) : OK1 S T (f_X11_night S za zb zc zd) (f_X12_night T za zb zc zd) := by
  unfold f_X11_night f_X12_night
  simp only [fb_id]
  rcases out_c za 1 20 with ⟨a1, a2⟩ | ⟨a1, a2⟩
  · rcases out_c zb 1 3 with ⟨c1, c2⟩ | ⟨c1, c2⟩
    · rcases out_c zc 0 4 with ⟨d1, d2⟩ | ⟨d1, d2⟩
      · rcases out_c zd 0 1 with ⟨e1, e2⟩ | ⟨e1, e2⟩
        · simp only [a1, a2, c1, c2, d1, d2, e1, e2, i10, ↓reduceIte]
          have hb : zb = 1 ∨ zb = 2 ∨ zb = 3 := by
            obtain ⟨k, hk, rfl⟩ := out_n 1 3 rfl rfl (by decide) (by decide) c1
            rcases (show k = 1 ∨ k = 2 ∨ k = 3 by omega) with rfl | rfl | rfl
            · exact Or.inl rfl
            · exact Or.inr (Or.inl rfl)
            · exact Or.inr (Or.inr rfl)
          obtain ⟨S1, p1, p2⟩ := prepC_l FU 0 (wI S 111 zc) (by omega) (FU_lt (by omega))
          have pr : f_X1_prepare S zc = some (0, S1) := by
            unfold f_X1_prepare; rw [fl_s]; exact p2 _
          rw [pr, fb_s]
          obtain ⟨v, S2, q1, q2⟩ := nightC S1 za zb zd hb
          have cS : CE S S2 := (CE.tr (CE.wI (k := 111) (v := zc) (by decide)) p1.ce).tr q1
          rw [q2]
          obtain ⟨T1, t1, t2⟩ := prepM_l FU 0 T (by omega) (FU_lt (by omega))
          rw [show ∀ k, l_X12_night_47 k FU T 0 = k T1 (nI 5) from t2]
          obtain ⟨T2, x, u1, u2⟩ := nig_l (za := za) (zc := zc) hb FU 5 T1 (-2) (by omega) (FU_lt (by omega))
          rw [show ∀ k, l_X12_night_84 za zb zc k FU T1 (-2) 4 = k T2 x (-1) from u2]
          have et := t1.tr u1
          have fin : ∀ y : Option (Int32 × FS), (∃ (v : Int32) (T' : FS), ME T T' ∧ y = some (v, T')) → OK1 S T (some (v, S2)) y := by
            rintro y ⟨w, T', m1, rfl⟩
            exact ⟨v, w, S2, T', rfl, rfl, ⟨K, by rw [m1.2]; exact h.ce cS⟩, cS.1, m1.1⟩
          apply fin
          have pn : ∀ T3 : FS, EA 66 T T3 → ∃ (v : Int32) (T' : FS), ME T T' ∧ (if zd = 0 then (some (1, T3)) else (some ((-1), T3))) = some (v, T') := fun T3 e => by
            split
            · exact ⟨_, T3, e.me, rfl⟩
            · exact ⟨_, T3, e.me, rfl⟩
          by_cases x2 : x = -2
          · rw [if_pos x2]
            rcases hb with rfl | rfl | rfl
            · rw [if_pos rfl]
              split
              · exact nightE T T2 et zd x
              · exact pn T2 et
            · rw [if_neg (by decide), if_pos rfl]
              obtain ⟨w, T3, w1, w2, w3⟩ := wb_2 T2 (-1) 0 za zc (Or.inl (by decide))
              rw [w3, fb_s]
              split
              · exact nightE T T3 (et.tr w2) zd x
              · exact pn T3 (et.tr w2)
            · rw [if_neg (by decide), if_neg (by decide), if_pos rfl]
              obtain ⟨w, T3, w1, w2, w3⟩ := wb_3 T2 (-1) 0 za zc (Or.inl (by decide))
              rw [w3, fb_s]
              split
              · exact nightE T T3 (et.tr w2) zd x
              · exact pn T3 (et.tr w2)
          · rw [if_neg x2]; exact nightE T T2 et zd x
        · simp only [a1, a2, c1, c2, d1, d2, e1, e2, i10, ↓reduceIte]; exact (ok_1 h).one
      · simp only [a1, a2, c1, c2, d1, d2, i10, ↓reduceIte]; exact (ok_1 h).one
    · simp only [a1, a2, c1, c2, i10, ↓reduceIte]; exact (ok_1 h).one
  · simp only [a1, a2, i10, ↓reduceIte]; exact (ok_1 h).one
end NIG
