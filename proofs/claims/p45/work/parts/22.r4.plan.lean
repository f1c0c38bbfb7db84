section
/-! ===== pure: a plan (both answer) ===== -/
section PLA
variable {K : Nat → Nat} {S T : FS} {za zb zc zd ze : Int32}
def EQP (S S' : FS) : Prop := (∀ k : Nat, k ≠ 112 → k ≠ 113 → k ≠ 114 → S'.1 k = S.1 k) ∧ ∀ a : Nat, a ≠ 43 → a ≠ 44 → a ≠ 45 → S'.2 a = S.2 a
theorem EQP.rf : EQP S S := ⟨fun _ _ _ _ => rfl, fun _ _ _ _ => rfl⟩
theorem EQP.tr {A B C : FS} (h : EQP A B) (g : EQP B C) : EQP A C := ⟨fun k h1 h2 h3 => (g.1 k h1 h2 h3).trans (h.1 k h1 h2 h3), fun a h1 h2 h3 => (g.2 a h1 h2 h3).trans (h.2 a h1 h2 h3)⟩
theorem EQP.wI {k : Nat} {v : Int32} (h : k = 112 ∨ k = 113 ∨ k = 114) : EQP S (wI S k v) := ⟨fun j h1 h2 h3 => wI_n (by omega), fun _ _ _ _ => rfl⟩
theorem EQP.wA {a j : Nat} {v : Int32} (h : a = 43 ∨ a = 44 ∨ a = 45) : EQP S (wA S a j v) := ⟨fun _ _ _ _ => rfl, fun b h1 h2 h3 => wA_n (by omega)⟩
theorem EQP.ce {A B : FS} (h : EQP A B) : CE A B := by
  refine ⟨⟨⟨h.2 _ (by decide) (by decide) (by decide), h.2 _ (by decide) (by decide) (by decide), h.2 _ (by decide) (by decide) (by decide), h.2 _ (by decide) (by decide) (by decide)⟩, h.1 _ (by decide) (by decide) (by decide), h.1 _ (by decide) (by decide) (by decide)⟩, fun k hk => h.1 k ?_ ?_ ?_, fun a ha => h.2 a ?_ ?_ ?_⟩
  all_goals (intro q; subst q; first | (revert hk; decide) | (revert ha; decide))
theorem rb_l {x : Int32} : ∀ (m i : Nat) (y : Int32), i ≤ 6 → 6 - i < m → ∃ v : Int32, l_X5_rentsBut_4 x S (fun a b => some a) m y (nI i) = some v := by
  intro m
  induction m with
  | zero => intro i y _ hm; exact absurd hm (Nat.not_lt_zero _)
  | succ m ih =>
    intro i y hi hm
    rw [l_X5_rentsBut_4]
    by_cases c : i < 6
    · rw [if_pos (show nI i < 6 from nI_lt (b := 6) c (by decide)), nI_1]
      split
      · exact ih (i + 1) _ (by omega) (by omega)
      · rw [fv_s]; exact ih (i + 1) _ (by omega) (by omega)
    · obtain rfl : i = 6 := by omega
      rw [if_neg (by decide)]; exact ⟨y, rfl⟩
theorem bg1_l : ∀ (m i : Nat) (S : FS), i ≤ 6 → 6 - i < m → ∃ S' : FS, EQP S S' ∧ ∀ k, l_X5_begin_35 k m S (nI i) = k S' (nI 6) := by
  intro m
  induction m with
  | zero => intro i S _ hm; exact absurd hm (Nat.not_lt_zero _)
  | succ m ih =>
    intro i S hi hm
    by_cases c : i < 6
    · have lt : nI i < 6 := nI_lt (b := 6) c (by decide)
      obtain ⟨S1, p1, p2⟩ := ih (i + 1) (wI S 112 (S.1 112 ||| 0)) (by omega) (by omega)
      obtain ⟨S2, q1, q2⟩ := ih (i + 1) (wI S 112 (S.1 112 ||| ((1 : Int32) <<< (nI i &&& 31)))) (by omega) (by omega)
      have key : (∀ k, l_X5_begin_35 k (m + 1) S (nI i) = l_X5_begin_35 k m (wI S 112 (S.1 112 ||| 0)) (nI (i + 1))) ∨ ∀ k, l_X5_begin_35 k (m + 1) S (nI i) = l_X5_begin_35 k m (wI S 112 (S.1 112 ||| ((1 : Int32) <<< (nI i &&& 31)))) (nI (i + 1)) := by
        have st : ∀ k, l_X5_begin_35 k (m + 1) S (nI i) = if (fHas 2 S (nI i)) = 0 then l_X5_begin_35 k m (wI S 112 (S.1 112 ||| 0)) (nI (i + 1)) else (if (fG 2 10 3 S (nI i) 1) = (-1) then (if (fG 2 10 3 S (nI i) 2) = 0 then l_X5_begin_35 k m (wI S 112 (S.1 112 ||| ((1 : Int32) <<< (nI i &&& 31)))) (nI (i + 1)) else l_X5_begin_35 k m (wI S 112 (S.1 112 ||| 0)) (nI (i + 1))) else l_X5_begin_35 k m (wI S 112 (S.1 112 ||| 0)) (nI (i + 1))) := fun k => by
          rw [l_X5_begin_35, if_pos lt]; simp only [fl_s, nI_1]
        simp only [st]
        repeat' split
        all_goals first | exact Or.inl (fun _ => rfl) | exact Or.inr (fun _ => rfl)
      rcases key with e | e
      · exact ⟨S1, (EQP.wI (by omega)).tr p1, fun k => (e k).trans (p2 k)⟩
      · exact ⟨S2, (EQP.wI (by omega)).tr q1, fun k => (e k).trans (q2 k)⟩
    · obtain rfl : i = 6 := by omega
      refine ⟨S, EQP.rf, fun k => ?_⟩
      rw [l_X5_begin_35, if_neg (by decide)]
theorem bg2_l : ∀ (m i : Nat) (S : FS), i ≤ 64 → 64 - i < m → ∃ S' : FS, EQP S S' ∧ ∀ k, l_X5_begin_120 k m S (nI i) = k S' (nI 64) := by
  intro m
  induction m with
  | zero => intro i S _ hm; exact absurd hm (Nat.not_lt_zero _)
  | succ m ih =>
    intro i S hi hm
    by_cases c : i < 64
    · obtain ⟨v, ev⟩ := rb_l (S := S) (x := nI i) FU 0 0 (by omega) (FU_lt (by omega))
      have ev' : q_X5_rentsBut S (nI i) = some v := ev
      obtain ⟨S', r1, r2⟩ := ih (i + 1) (wA S 45 i v) (by omega) (by omega)
      refine ⟨S', (EQP.wA (by omega)).tr r1, fun k => ?_⟩
      rw [l_X5_begin_120, if_pos (show nI i < 64 from nI_lt (b := 64) c (by decide)), ev', fb_s, ix_nI c (by decide), fb_s, fl_s, nI_1]; exact r2 k
    · obtain rfl : i = 64 := by omega
      refine ⟨S, EQP.rf, fun k => ?_⟩
      rw [l_X5_begin_120, if_neg (by decide)]
theorem bg_t (S : FS) : ∃ S' : FS, EQP S S' ∧ f_X5_begin S = some (0, S') := by
  unfold f_X5_begin
  simp only [fl_s]
  have e0 : EQP S (fFill 43 64 S (-1)) := ⟨fun _ _ _ _ => rfl, fun a h1 _ _ => ua_ne h1⟩
  have e1 : EQP S (wI (wA (wA (fFill 43 64 S (-1)) 43 0 ((fFill 43 64 S (-1)).1 103)) 44 0 0) 112 0) := ((e0.tr (EQP.wA (by omega))).tr (EQP.wA (by omega))).tr (EQP.wI (by omega))
  obtain ⟨S1, p1, p2⟩ := bg1_l FU 0 (wI (wA (wA (fFill 43 64 S (-1)) 43 0 ((fFill 43 64 S (-1)).1 103)) 44 0 0) 112 0) (by omega) (FU_lt (by omega))
  obtain ⟨S2, q1, q2⟩ := bg2_l FU 0 S1 (by omega) (FU_lt (by omega))
  refine ⟨S2, (e1.tr p1).tr q1, ?_⟩
  rw [show ∀ k, l_X5_begin_35 k FU (wI (wA (wA (fFill 43 64 S (-1)) 43 0 ((fFill 43 64 S (-1)).1 103)) 44 0 0) 112 0) 0 = k S1 (nI 6) from p2]
  exact q2 _
theorem bef_t (S : FS) (x y : Int32) : ∃ j : Nat, j < 64 ∧ p_X5_before S x y = nI j := by
  unfold p_X5_before
  by_cases z : y = 0
  · rw [if_pos z]; exact pk_andE x 6 (by decide)
  · rw [if_neg z, fv_s]; exact pk_andE _ 6 (by decide)
theorem lb_t (S : FS) (x y z : Int32) : ∃ v : Int32, q_X5_leftBy S x y z = some v := by
  unfold q_X5_leftBy
  obtain ⟨j, hj, ej⟩ := bef_t S x y
  rw [fv_s, ej, ix_nI hj (by decide)]
  simp only [fb_s, fv_s]
  repeat' split
  all_goals exact ⟨_, rfl⟩
theorem pq1_l {x y : Int32} : ∀ (m i : Nat) (a b : Int32), i ≤ 7 → 7 - i < m → ∃ a' b' : Int32, ∀ k, l_X5_passQuarter_15 x y k m S a b (nI i) = k S a' b' (nI 7) := by
  intro m
  induction m with
  | zero => intro i a b _ hm; exact absurd hm (Nat.not_lt_zero _)
  | succ m ih =>
    intro i a b hi hm
    by_cases c : i < 7
    · obtain ⟨v, ev⟩ := lb_t S y (nI i) x
      obtain ⟨j, hj, ej⟩ := bef_t S y (nI i)
      have key : ∃ a' b' : Int32, ∀ k, l_X5_passQuarter_15 x y k (m + 1) S a b (nI i) = l_X5_passQuarter_15 x y k m S a' b' (nI (i + 1)) := by
        have st : ∀ k, l_X5_passQuarter_15 x y k (m + 1) S a b (nI i) = _ := fun k => by
          rw [l_X5_passQuarter_15, if_pos (show nI i < 7 from nI_lt (b := 7) c (by decide)), ev, fb_s, ej, ix_nI hj (by decide), fb_s, fv_s, nI_1]
        simp only [st]
        repeat' split
        all_goals exact ⟨_, _, fun _ => rfl⟩
      obtain ⟨a1, b1, e⟩ := key
      obtain ⟨a2, b2, r⟩ := ih (i + 1) a1 b1 (by omega) (by omega)
      exact ⟨a2, b2, fun k => (e k).trans (r k)⟩
    · obtain rfl : i = 7 := by omega
      refine ⟨a, b, fun k => ?_⟩
      rw [l_X5_passQuarter_15, if_neg (by decide)]
theorem pq2_l {x : Int32} : ∀ (m i : Nat) (S : FS), i ≤ 64 → i < m → ∃ S' : FS, EQP S S' ∧ ∀ k, l_X5_passQuarter_3 x k m S (nI i - 1) = k S' (-1) := by
  intro m
  induction m with
  | zero => intro i S _ hm; exact absurd hm (Nat.not_lt_zero _)
  | succ m ih =>
    intro i S hi hm
    cases i with
    | zero =>
      refine ⟨S, EQP.rf, fun k => ?_⟩
      rw [l_X5_passQuarter_3, if_pos (by decide)]; rfl
    | succ j =>
      obtain ⟨a, b, r⟩ := pq1_l (S := S) (x := x) (y := nI j) FU 0 (-1) 0 (by omega) (FU_lt (by omega))
      obtain ⟨S', p1, p2⟩ := ih j (wA (wA S 43 j a) 44 j b) (by omega) (by omega)
      refine ⟨S', ((EQP.wA (by omega)).tr (EQP.wA (by omega))).tr p1, fun k => ?_⟩
      rw [l_X5_passQuarter_3, nI_pred, if_neg (nI_pos (by omega)), show ∀ k, l_X5_passQuarter_15 x (nI j) k FU S (-1) 0 0 = k S a b (nI 7) from r, ix_nI (show j < 64 by omega) (by decide), fb_s, fl_s, fl_s, ← Int32.sub_eq_add_neg]; exact p2 k
theorem pq_t (S : FS) (x : Int32) : ∃ S' : FS, EQP S S' ∧ f_X5_passQuarter S x = some (0, S') := by
  obtain ⟨S', p1, p2⟩ := pq2_l (x := x) FU 64 S (by omega) (FU_lt (by omega))
  exact ⟨S', p1, p2 _⟩
theorem fbst_l : ∀ (m i : Nat) (S : FS) (v : Int32), B01 v → i ≤ 64 → 64 - i < m → ∃ (S' : FS) (v' : Int32), EQP S S' ∧ B01 v' ∧ ∀ k, l_X5_findBest_4 k m S v (nI i) = k S' v' (nI 64) := by
  intro m
  induction m with
  | zero => intro i S v _ _ hm; exact absurd hm (Nat.not_lt_zero _)
  | succ m ih =>
    intro i S v hv hi hm
    by_cases c : i < 64
    · obtain ⟨S1, v1, p1, p2, p3⟩ := ih (i + 1) S v hv (by omega) (by omega)
      obtain ⟨S2, v2, q1, q2, q3⟩ := ih (i + 1) (wI (wI S 113 (S.2 43 i + 8 * S.2 45 i)) 114 (S.2 44 i)) 1 b1 (by omega) (by omega)
      have key : (∀ k, l_X5_findBest_4 k (m + 1) S v (nI i) = l_X5_findBest_4 k m S v (nI (i + 1))) ∨ ∀ k, l_X5_findBest_4 k (m + 1) S v (nI i) = l_X5_findBest_4 k m (wI (wI S 113 (S.2 43 i + 8 * S.2 45 i)) 114 (S.2 44 i)) 1 (nI (i + 1)) := by
        have st : ∀ k, l_X5_findBest_4 k (m + 1) S v (nI i) = _ := fun k => by
          rw [l_X5_findBest_4, if_pos (show nI i < 64 from nI_lt (b := 64) c (by decide)), ix_nI c (by decide), fb_s, fv_s]
        simp only [st, fl_s, nI_1, wI_2]
        repeat' split
        all_goals first | exact Or.inl (fun _ => rfl) | exact Or.inr (fun _ => rfl)
      rcases key with e | e
      · exact ⟨S1, v1, p1, p2, fun k => (e k).trans (p3 k)⟩
      · exact ⟨S2, v2, ((EQP.wI (by omega)).tr (EQP.wI (by omega))).tr q1, q2, fun k => (e k).trans (q3 k)⟩
    · obtain rfl : i = 64 := by omega
      refine ⟨S, v, EQP.rf, hv, fun k => ?_⟩
      rw [l_X5_findBest_4, if_neg (by decide)]
theorem fbst_t (S : FS) : ∃ (v : Int32) (S' : FS), EQP S S' ∧ f_X5_findBest S = some (v, S') := by
  obtain ⟨S', v, p1, p2, p3⟩ := fbst_l FU 0 S 0 b0 (by omega) (FU_lt (by omega))
  refine ⟨v, S', p1, ?_⟩
  show l_X5_findBest_4 _ FU S 0 (nI 0) = _
  rw [p3, bz_b p2, fb_s]
theorem pin_l {a : Nat} (ha : a < 2 ^ 30) : ∀ (m i : Nat) (x : Int32), i < 2 ^ 30 → i < m → ∃ v : Int32, l_X5_pledgedIn_10 (nI a) (fun x6_3 x6_4 => some ((x6_3 - x6_3 / 7 * 7) - 1)) m x (nI i) = some v := by
  intro m
  induction m with
  | zero => intro i x _ hm; exact absurd hm (Nat.not_lt_zero _)
  | succ m ih =>
    intro i x hi hm
    rw [l_X5_pledgedIn_10]
    by_cases c : a < i
    · obtain ⟨j, rfl⟩ : ∃ j : Nat, i = j + 1 := ⟨i - 1, by omega⟩
      rw [if_pos (nI_lt c (by omega)), fv_s, pk_m1]; exact ih j _ (by omega) (by omega)
    · rw [if_neg (nI_nlt (by omega) (by omega))]; exact ⟨_, rfl⟩
theorem pl98_l {x : Int32} {sz : Nat} (hz : sz ≤ 8) : ∀ (m i : Nat) (S : FS), i ≤ sz → sz - i < m → ∃ S' : FS, EQP S S' ∧ ∀ k, l_X11_plan_98 x (nI sz) k m S (nI i) = k S' (nI sz) := by
  intro m
  induction m with
  | zero => intro i S _ hm; exact absurd hm (Nat.not_lt_zero _)
  | succ m ih =>
    intro i S hi hm
    by_cases c : i < sz
    · obtain ⟨S1, p1, p2⟩ := pq_t S (p_X8_numberAt S x (nI i))
      obtain ⟨S', r1, r2⟩ := ih (i + 1) S1 (by omega) (by omega)
      refine ⟨S', p1.tr r1, fun k => ?_⟩
      rw [l_X11_plan_98, if_pos (nI_lt c (by omega)), p2, fb_s, nI_1]; exact r2 k
    · obtain rfl : i = sz := by omega
      refine ⟨S, EQP.rf, fun k => ?_⟩
      rw [l_X11_plan_98, if_neg (nI_nlt (Nat.le_refl _) (by omega))]
theorem aaw_l {x a b : Int32} {sz : Nat} (hz : sz ≤ 24) : ∀ (m i : Nat), i ≤ sz → sz - i < m → ∃ v : Int32, l_X8_areAllWithin_10 x a b S (nI sz) (fun _ => some 1) m (nI i) = some v := by
  intro m
  induction m with
  | zero => intro i _ hm; exact absurd hm (Nat.not_lt_zero _)
  | succ m ih =>
    intro i hi hm
    rw [l_X8_areAllWithin_10]
    by_cases c : i < sz
    · rw [if_pos (nI_lt c (by omega)), nI_1]
      split
      · exact ih (i + 1) (by omega) (by omega)
      · exact ⟨0, rfl⟩
    · obtain rfl : i = sz := by omega
      rw [if_neg (nI_nlt (Nat.le_refl _) (by omega))]; exact ⟨1, rfl⟩
theorem planC (hx : RX S T) : ∃ (v : Int32) (S' : FS), CE S S' ∧ f_X11_plan S za zb = some (v, S') := by
  have td : ∀ (S1 : FS) (x : Int32), CE S S1 → ∃ (v : Int32) (S' : FS), CE S S' ∧ f_X11_told S1 x = some (v, S') := fun S1 x e => by
    obtain ⟨S2, f1, f2⟩ := told_e S1 x
    exact ⟨_, S2, e.tr f2, f1⟩
  unfold f_X11_plan q_X8_isMissing q_X8_areAllWithin
  simp only [fb_id]
  rcases sh_c S T za with ⟨a1, a2⟩ | ⟨s, hs, rfl, a1, a2, a3, a4, a5⟩
  · rw [if_pos a1]; exact td S _ CE.rf
  · obtain ⟨⟨y1, y2⟩, ⟨sz, y3, y4⟩, y5⟩ := hx.1 s hs
    rw [y2, y4] at a5
    rw [if_neg (show ¬ p_X8_has S (nI s) = 0 by rw [a1]; decide), a4, fb_s]
    by_cases c0 : S.2 49 s = 0
    · rw [if_pos c0, fb_s, if_neg (by decide)]; exact td S _ CE.rf
    · rw [if_neg c0, fb_s, if_pos rfl, a5, fb_s]
      by_cases c1 : fOut (nI sz) 1 8 = 0
      · obtain ⟨k, hk, ek⟩ := out_n 1 8 rfl rfl (by decide) (by decide) c1
        have s8 : sz = k := nI_inj (by omega) (by omega) ek
        obtain ⟨w, ew⟩ := aaw_l (S := S) (x := nI s) (a := 0) (b := 9999) (sz := sz) (by omega) FU 0 (by omega) (FU_lt (by omega))
        rw [if_pos c1, fb_s, show l_X8_areAllWithin_10 (nI s) 0 9999 S (nI sz) (fun x6_5 => some 1) FU 0 = some w from ew, fb_s]
        split
        · exact td S _ CE.rf
        · by_cases c2 : fOut zb (-1) (nI sz - 1) = 0
          · rw [if_pos c2]
            obtain ⟨S1, p1, p2⟩ := bg_t S
            rw [p2, fb_s]
            obtain ⟨S2, q1, q2⟩ := pl98_l (x := nI s) (sz := sz) (by omega) FU 0 S1 (by omega) (FU_lt (by omega))
            show ∃ (v : Int32) (S' : FS), CE S S' ∧ l_X11_plan_98 (nI s) (nI sz) _ FU S1 (nI 0) = some (v, S')
            rw [q2]
            obtain ⟨v, S3, r1, r2⟩ := fbst_t S2
            have e3 := ((p1.tr q1).tr r1).ce
            rw [r2, fb_s]
            split
            · exact td S3 _ e3
            · by_cases z : zb < 0
              · rw [if_pos z]; exact ⟨_, S3, e3, rfl⟩
              · rw [if_neg z]
                obtain ⟨a, ha, rfl⟩ := nI_of z
                have a8 : a < 2 ^ 30 := by
                  have q : ¬ nI sz - 1 < nI a := fun z2 => by unfold fOut at c2; rw [if_pos (Or.inr z2)] at c2; exact absurd c2 (by decide)
                  obtain ⟨n, rfl⟩ : ∃ n : Nat, sz = n + 1 := ⟨sz - 1, by omega⟩
                  rw [nI_pred] at q
                  apply Classical.byContradiction
                  intro q2; exact q (nI_lt (by omega) (by omega))
                obtain ⟨n, rfl⟩ : ∃ n : Nat, sz = n + 1 := ⟨sz - 1, by omega⟩
                obtain ⟨x, ex⟩ := pin_l a8 FU n (S3.1 114) (by omega) (FU_lt (by omega))
                have pi : q_X5_pledgedIn S3 (nI a) (nI (n + 1)) = some x := by
                  unfold q_X5_pledgedIn; rw [fv_s, fv_s, nI_pred]; exact ex
                show ∃ (v : Int32) (S' : FS), CE S S' ∧ fb (q_X5_pledgedIn S3 (nI a) (nI (n + 1))) _ = some (v, S')
                rw [pi, fb_s]; exact ⟨_, S3, e3, rfl⟩
          · rw [if_neg c2]; exact td S _ CE.rf
      · rw [if_neg c1]; exact td S _ CE.rf
/-! the model's plans -/
def EP (T T' : FS) : Prop := (∀ k : Nat, k ≠ 19 → k ≠ 20 → T'.1 k = T.1 k) ∧ ∀ a : Nat, a ≠ 67 → a ≠ 68 → T'.2 a = T.2 a
theorem EP.rf : EP T T := ⟨fun _ _ _ => rfl, fun _ _ _ => rfl⟩
theorem EP.tr {A B C : FS} (h : EP A B) (g : EP B C) : EP A C := ⟨fun k h1 h2 => (g.1 k h1 h2).trans (h.1 k h1 h2), fun a h1 h2 => (g.2 a h1 h2).trans (h.2 a h1 h2)⟩
theorem EP.wI {k : Nat} {v : Int32} (h : k = 19 ∨ k = 20) : EP T (wI T k v) := ⟨fun j h1 h2 => wI_n (by omega), fun _ _ _ => rfl⟩
theorem EP.wA {a j : Nat} {v : Int32} (h : a = 67 ∨ a = 68) : EP T (wA T a j v) := ⟨fun _ _ _ => rfl, fun b h1 h2 => wA_n (by omega)⟩
theorem p19_8 {x : Int32} : ∀ (m i : Nat) (y : Int32), i ≤ 6 → 6 - i < m → ∃ v : Int32, ∀ k, l_X12_plans_k8_19 x k m T y (nI i) = k T v (nI 6) := by
  intro m
  induction m with
  | zero => intro i y _ hm; exact absurd hm (Nat.not_lt_zero _)
  | succ m ih =>
    intro i y hi hm
    by_cases c : i < 6
    · have lt : nI i < 6 := nI_lt (b := 6) c (by decide)
      by_cases z : ((x >>> (nI i &&& 31)) &&& 1) = 1
      · obtain ⟨v, r⟩ := ih (i + 1) (y + 8 * T.2 55 (3 * i + 20)) (by omega) (by omega)
        refine ⟨v, fun k => ?_⟩
        rw [l_X12_plans_k8_19, if_pos lt, if_pos z, ixT_0 (by omega), fb_s, fv_s, nI_1]; exact r k
      · obtain ⟨v, r⟩ := ih (i + 1) (y + 0) (by omega) (by omega)
        refine ⟨v, fun k => ?_⟩
        rw [l_X12_plans_k8_19, if_pos lt, if_neg z, fv_s, nI_1]; exact r k
    · obtain rfl : i = 6 := by omega
      refine ⟨y, fun k => ?_⟩
      rw [l_X12_plans_k8_19, if_neg (by decide)]
theorem p97_8 : ∀ (m i : Nat) (T : FS), i ≤ 8 → 8 - i < m → ∃ T' : FS, EP T T' ∧ ∀ k, l_X12_plans_k8_97 k m T (nI i) = k T' (nI 8) := by
  intro m
  induction m with
  | zero => intro i T _ hm; exact absurd hm (Nat.not_lt_zero _)
  | succ m ih =>
    intro i T hi hm
    by_cases c : i < 8
    · obtain ⟨T', r1, r2⟩ := ih (i + 1) (wA T 68 i (T.2 67 i)) (by omega) (by omega)
      refine ⟨T', (EP.wA (by omega)).tr r1, fun k => ?_⟩
      rw [l_X12_plans_k8_97, if_pos (show nI i < 8 from nI_lt (b := 8) c (by decide)), ix_nI (show i < 8 by omega) (by decide), fb_s, fl_s, nI_1]; exact r2 k
    · obtain rfl : i = 8 := by omega
      refine ⟨T, EP.rf, fun k => ?_⟩
      rw [l_X12_plans_k8_97, if_neg (by decide)]
theorem p83_8 (T : FS) (x : Int32) : ∃ T' : FS, EP T T' ∧ j_X12_plans_k8_83 x T = some (0, T') := by
  unfold j_X12_plans_k8_83
  simp only [fl_s]
  obtain ⟨T', r1, r2⟩ := p97_8 FU 0 (wI (wI T 20 1) 19 x) (by omega) (FU_lt (by omega))
  exact ⟨T', ((EP.wI (by omega)).tr (EP.wI (by omega))).tr r1, r2 _⟩
theorem pl_8 {s sz : Nat} (hs : s < 4) (hz : sz ≤ 8) (hq : 8 ≤ sz) (T : FS) (x y : Int32) (e8 : T.1 18 = nI s) (ez : T.2 71 s = nI sz) : ∃ T' : FS, EP T T' ∧ f_X12_plans_k8 T x y = some (0, T') := by
  unfold f_X12_plans_k8
  rw [e8, ix_nI hs (by decide), fb_s, ez]
  by_cases c : sz = 8
  · rw [if_pos (show (8 : Int32) = nI sz by rw [c]; rfl)]
    obtain ⟨v, r⟩ := p19_8 (T := T) (x := x) FU 0 y (by omega) (FU_lt (by omega))
    rw [show ∀ k, l_X12_plans_k8_19 x k FU T y 0 = k T v (nI 6) from r]
    split
    · exact p83_8 T v
    · split
      · exact p83_8 T v
      · exact ⟨T, EP.rf, rfl⟩
  · rw [if_neg (show ¬ (8 : Int32) = nI sz from fun q => c (nI_inj (a := sz) (b := 8) (by omega) (by decide) q.symm))]
    omega
theorem p19_7 {x : Int32} : ∀ (m i : Nat) (y : Int32), i ≤ 6 → 6 - i < m → ∃ v : Int32, ∀ k, l_X12_plans_k7_19 x k m T y (nI i) = k T v (nI 6) := by
  intro m
  induction m with
  | zero => intro i y _ hm; exact absurd hm (Nat.not_lt_zero _)
  | succ m ih =>
    intro i y hi hm
    by_cases c : i < 6
    · have lt : nI i < 6 := nI_lt (b := 6) c (by decide)
      by_cases z : ((x >>> (nI i &&& 31)) &&& 1) = 1
      · obtain ⟨v, r⟩ := ih (i + 1) (y + 8 * T.2 55 (3 * i + 20)) (by omega) (by omega)
        refine ⟨v, fun k => ?_⟩
        rw [l_X12_plans_k7_19, if_pos lt, if_pos z, ixT_0 (by omega), fb_s, fv_s, nI_1]; exact r k
      · obtain ⟨v, r⟩ := ih (i + 1) (y + 0) (by omega) (by omega)
        refine ⟨v, fun k => ?_⟩
        rw [l_X12_plans_k7_19, if_pos lt, if_neg z, fv_s, nI_1]; exact r k
    · obtain rfl : i = 6 := by omega
      refine ⟨y, fun k => ?_⟩
      rw [l_X12_plans_k7_19, if_neg (by decide)]
theorem p97_7 : ∀ (m i : Nat) (T : FS), i ≤ 7 → 7 - i < m → ∃ T' : FS, EP T T' ∧ ∀ k, l_X12_plans_k7_97 k m T (nI i) = k T' (nI 7) := by
  intro m
  induction m with
  | zero => intro i T _ hm; exact absurd hm (Nat.not_lt_zero _)
  | succ m ih =>
    intro i T hi hm
    by_cases c : i < 7
    · obtain ⟨T', r1, r2⟩ := ih (i + 1) (wA T 68 i (T.2 67 i)) (by omega) (by omega)
      refine ⟨T', (EP.wA (by omega)).tr r1, fun k => ?_⟩
      rw [l_X12_plans_k7_97, if_pos (show nI i < 7 from nI_lt (b := 7) c (by decide)), ix_nI (show i < 8 by omega) (by decide), fb_s, fl_s, nI_1]; exact r2 k
    · obtain rfl : i = 7 := by omega
      refine ⟨T, EP.rf, fun k => ?_⟩
      rw [l_X12_plans_k7_97, if_neg (by decide)]
theorem p83_7 (T : FS) (x : Int32) : ∃ T' : FS, EP T T' ∧ j_X12_plans_k7_83 x T = some (0, T') := by
  unfold j_X12_plans_k7_83
  simp only [fl_s]
  obtain ⟨T', r1, r2⟩ := p97_7 FU 0 (wI (wI T 20 1) 19 x) (by omega) (FU_lt (by omega))
  exact ⟨T', ((EP.wI (by omega)).tr (EP.wI (by omega))).tr r1, r2 _⟩
theorem p130_7 {x : Int32} : ∀ (m i : Nat) (y : Int32), i ≤ 6 → 6 - i < m → ∃ v : Int32, ∀ k, l_X12_plans_k7_130 x k m T y (nI i) = k T v (nI 6) := by
  intro m
  induction m with
  | zero => intro i y _ hm; exact absurd hm (Nat.not_lt_zero _)
  | succ m ih =>
    intro i y hi hm
    by_cases c : i < 6
    · have lt : nI i < 6 := nI_lt (b := 6) c (by decide)
      by_cases z : ((x >>> (nI i &&& 31)) &&& 1) = 1
      · obtain ⟨v, r⟩ := ih (i + 1) (y + T.2 55 (3 * i + 20)) (by omega) (by omega)
        refine ⟨v, fun k => ?_⟩
        rw [l_X12_plans_k7_130, if_pos lt, if_pos z, ixT_0 (by omega), fb_s, fv_s, nI_1]; exact r k
      · obtain ⟨v, r⟩ := ih (i + 1) (y + 0) (by omega) (by omega)
        refine ⟨v, fun k => ?_⟩
        rw [l_X12_plans_k7_130, if_pos lt, if_neg z, fv_s, nI_1]; exact r k
    · obtain rfl : i = 6 := by omega
      refine ⟨y, fun k => ?_⟩
      rw [l_X12_plans_k7_130, if_neg (by decide)]
theorem p177_7 {x y : Int32} {s sz : Nat} (hs : s < 4) (hz : sz ≤ 8) (hq : 8 ≤ sz) : ∀ (m i : Nat) (T : FS), i ≤ 7 → 7 - i < m → T.1 18 = nI s → T.2 71 s = nI sz → ∃ T' : FS, EP T T' ∧ ∀ k, l_X12_plans_k7_177 x y k m T (nI i - 1) = k T' (nI 6) := by
  intro m
  induction m with
  | zero => intro i T _ hm; exact absurd hm (Nat.not_lt_zero _)
  | succ m ih =>
    intro i T hi hm e8 ez
    have jx : ix 96 ((24 : Int32) * T.1 18 + 7) = some (24 * s + 7) := by rw [e8]; exact ix96 (i := 7) hs (by decide)
    have nx : i < 7 → ∀ (T1 : FS), EP T T1 → ∃ T' : FS, EP T T' ∧ ∀ k, l_X12_plans_k7_177 x y k m T1 (nI (i + 1) - 1) = k T' (nI 6) := fun hi7 T1 e => by
      by_cases c : i + 1 ≤ 7
      · obtain ⟨T', r1, r2⟩ := ih (i + 1) T1 c (by omega) (by rw [e.1 18 (by decide) (by decide)]; exact e8) (by rw [e.2 71 (by decide) (by decide)]; exact ez)
        exact ⟨T', e.tr r1, r2⟩
      · exact absurd hi7 (by omega)
    cases i with
    | zero =>
      have st : ∀ k, l_X12_plans_k7_177 x y k (m + 1) T (nI 0 - 1) = _ := fun k => by
        rw [l_X12_plans_k7_177, if_pos (by decide), if_pos (by decide), jx, fb_s, fv_s, show (nI 0 - 1 + 1 : Int32) = nI (0 + 1) - 1 from by decide]
      by_cases z : y - T.2 72 (24 * s + 7) + 0 < 0
      · obtain ⟨T', r1, r2⟩ := nx (by omega) T EP.rf
        exact ⟨T', r1, fun k => by rw [st, if_pos z]; exact r2 k⟩
      · obtain ⟨T1, p1, p2⟩ := pl_8 hs hz hq (wA T 67 7 (nI 0 - 1)) x (y - T.2 72 (24 * s + 7) + 0) e8 ez
        obtain ⟨T', r1, r2⟩ := nx (by omega) T1 ((EP.wA (by omega)).tr p1)
        exact ⟨T', r1, fun k => by rw [st, if_neg z, fl_s, p2, fb_s]; exact r2 k⟩
    | succ j =>
      by_cases c : j < 6
      · have lt : nI j < 6 := nI_lt (b := 6) c (by decide)
        have st : ∀ k, l_X12_plans_k7_177 x y k (m + 1) T (nI (j + 1) - 1) = _ := fun k => by
          rw [l_X12_plans_k7_177, nI_pred, if_pos lt, if_neg (nI_pos (show j < 2 ^ 31 by omega)), jx, ixT_0 (show j < 10 by omega), fb_s, fb_s, fv_s, nI_1, ← nI_pred (j + 1)]
        by_cases b : ((x >>> (nI j &&& 31)) &&& 1) = 0
        · obtain ⟨T', r1, r2⟩ := nx (by omega) T EP.rf
          exact ⟨T', r1, fun k => by rw [st, if_pos b]; exact r2 k⟩
        · by_cases z : y - T.2 72 (24 * s + 7) + 4 * T.2 55 (3 * j + 20) < 0
          · obtain ⟨T', r1, r2⟩ := nx (by omega) T EP.rf
            exact ⟨T', r1, fun k => by rw [st, if_neg b, if_pos z]; exact r2 k⟩
          · obtain ⟨T1, p1, p2⟩ := pl_8 hs hz hq (wA T 67 7 (nI j)) (x &&& (((1 : Int32) <<< (nI j &&& 31)) ^^^ (-1))) (y - T.2 72 (24 * s + 7) + 4 * T.2 55 (3 * j + 20)) e8 ez
            obtain ⟨T', r1, r2⟩ := nx (by omega) T1 ((EP.wA (by omega)).tr p1)
            exact ⟨T', r1, fun k => by rw [st, if_neg b, if_neg z, fl_s, p2, fb_s]; exact r2 k⟩
      · obtain rfl : j = 6 := by omega
        refine ⟨T, EP.rf, fun k => ?_⟩
        rw [l_X12_plans_k7_177, nI_pred, if_neg (by decide)]
theorem pl_7 {s sz : Nat} (hs : s < 4) (hz : sz ≤ 8) (hq : 7 ≤ sz) (T : FS) (x y : Int32) (e8 : T.1 18 = nI s) (ez : T.2 71 s = nI sz) : ∃ T' : FS, EP T T' ∧ f_X12_plans_k7 T x y = some (0, T') := by
  unfold f_X12_plans_k7
  rw [e8, ix_nI hs (by decide), fb_s, ez]
  by_cases c : sz = 7
  · rw [if_pos (show (7 : Int32) = nI sz by rw [c]; rfl)]
    obtain ⟨v, r⟩ := p19_7 (T := T) (x := x) FU 0 y (by omega) (FU_lt (by omega))
    rw [show ∀ k, l_X12_plans_k7_19 x k FU T y 0 = k T v (nI 6) from r]
    split
    · exact p83_7 T v
    · split
      · exact p83_7 T v
      · exact ⟨T, EP.rf, rfl⟩
  · rw [if_neg (show ¬ (7 : Int32) = nI sz from fun q => c (nI_inj (a := sz) (b := 7) (by omega) (by decide) q.symm))]
    obtain ⟨v, r⟩ := p130_7 (T := T) (x := x) FU 0 y (by omega) (FU_lt (by omega))
    obtain ⟨T', p1, p2⟩ := p177_7 (x := x) (y := v) hs hz (show 8 ≤ sz by omega) FU 0 T (by omega) (FU_lt (by omega)) e8 ez
    refine ⟨T', p1, ?_⟩
    rw [show ∀ k, l_X12_plans_k7_130 x k FU T y 0 = k T v (nI 6) from r]
    exact p2 _
theorem p19_6 {x : Int32} : ∀ (m i : Nat) (y : Int32), i ≤ 6 → 6 - i < m → ∃ v : Int32, ∀ k, l_X12_plans_k6_19 x k m T y (nI i) = k T v (nI 6) := by
  intro m
  induction m with
  | zero => intro i y _ hm; exact absurd hm (Nat.not_lt_zero _)
  | succ m ih =>
    intro i y hi hm
    by_cases c : i < 6
    · have lt : nI i < 6 := nI_lt (b := 6) c (by decide)
      by_cases z : ((x >>> (nI i &&& 31)) &&& 1) = 1
      · obtain ⟨v, r⟩ := ih (i + 1) (y + 8 * T.2 55 (3 * i + 20)) (by omega) (by omega)
        refine ⟨v, fun k => ?_⟩
        rw [l_X12_plans_k6_19, if_pos lt, if_pos z, ixT_0 (by omega), fb_s, fv_s, nI_1]; exact r k
      · obtain ⟨v, r⟩ := ih (i + 1) (y + 0) (by omega) (by omega)
        refine ⟨v, fun k => ?_⟩
        rw [l_X12_plans_k6_19, if_pos lt, if_neg z, fv_s, nI_1]; exact r k
    · obtain rfl : i = 6 := by omega
      refine ⟨y, fun k => ?_⟩
      rw [l_X12_plans_k6_19, if_neg (by decide)]
theorem p97_6 : ∀ (m i : Nat) (T : FS), i ≤ 6 → 6 - i < m → ∃ T' : FS, EP T T' ∧ ∀ k, l_X12_plans_k6_97 k m T (nI i) = k T' (nI 6) := by
  intro m
  induction m with
  | zero => intro i T _ hm; exact absurd hm (Nat.not_lt_zero _)
  | succ m ih =>
    intro i T hi hm
    by_cases c : i < 6
    · obtain ⟨T', r1, r2⟩ := ih (i + 1) (wA T 68 i (T.2 67 i)) (by omega) (by omega)
      refine ⟨T', (EP.wA (by omega)).tr r1, fun k => ?_⟩
      rw [l_X12_plans_k6_97, if_pos (show nI i < 6 from nI_lt (b := 6) c (by decide)), ix_nI (show i < 8 by omega) (by decide), fb_s, fl_s, nI_1]; exact r2 k
    · obtain rfl : i = 6 := by omega
      refine ⟨T, EP.rf, fun k => ?_⟩
      rw [l_X12_plans_k6_97, if_neg (by decide)]
theorem p83_6 (T : FS) (x : Int32) : ∃ T' : FS, EP T T' ∧ j_X12_plans_k6_83 x T = some (0, T') := by
  unfold j_X12_plans_k6_83
  simp only [fl_s]
  obtain ⟨T', r1, r2⟩ := p97_6 FU 0 (wI (wI T 20 1) 19 x) (by omega) (FU_lt (by omega))
  exact ⟨T', ((EP.wI (by omega)).tr (EP.wI (by omega))).tr r1, r2 _⟩
theorem p130_6 {x : Int32} : ∀ (m i : Nat) (y : Int32), i ≤ 6 → 6 - i < m → ∃ v : Int32, ∀ k, l_X12_plans_k6_130 x k m T y (nI i) = k T v (nI 6) := by
  intro m
  induction m with
  | zero => intro i y _ hm; exact absurd hm (Nat.not_lt_zero _)
  | succ m ih =>
    intro i y hi hm
    by_cases c : i < 6
    · have lt : nI i < 6 := nI_lt (b := 6) c (by decide)
      by_cases z : ((x >>> (nI i &&& 31)) &&& 1) = 1
      · obtain ⟨v, r⟩ := ih (i + 1) (y + T.2 55 (3 * i + 20)) (by omega) (by omega)
        refine ⟨v, fun k => ?_⟩
        rw [l_X12_plans_k6_130, if_pos lt, if_pos z, ixT_0 (by omega), fb_s, fv_s, nI_1]; exact r k
      · obtain ⟨v, r⟩ := ih (i + 1) (y + 0) (by omega) (by omega)
        refine ⟨v, fun k => ?_⟩
        rw [l_X12_plans_k6_130, if_pos lt, if_neg z, fv_s, nI_1]; exact r k
    · obtain rfl : i = 6 := by omega
      refine ⟨y, fun k => ?_⟩
      rw [l_X12_plans_k6_130, if_neg (by decide)]
theorem p177_6 {x y : Int32} {s sz : Nat} (hs : s < 4) (hz : sz ≤ 8) (hq : 7 ≤ sz) : ∀ (m i : Nat) (T : FS), i ≤ 7 → 7 - i < m → T.1 18 = nI s → T.2 71 s = nI sz → ∃ T' : FS, EP T T' ∧ ∀ k, l_X12_plans_k6_177 x y k m T (nI i - 1) = k T' (nI 6) := by
  intro m
  induction m with
  | zero => intro i T _ hm; exact absurd hm (Nat.not_lt_zero _)
  | succ m ih =>
    intro i T hi hm e8 ez
    have jx : ix 96 ((24 : Int32) * T.1 18 + 6) = some (24 * s + 6) := by rw [e8]; exact ix96 (i := 6) hs (by decide)
    have nx : i < 7 → ∀ (T1 : FS), EP T T1 → ∃ T' : FS, EP T T' ∧ ∀ k, l_X12_plans_k6_177 x y k m T1 (nI (i + 1) - 1) = k T' (nI 6) := fun hi7 T1 e => by
      by_cases c : i + 1 ≤ 7
      · obtain ⟨T', r1, r2⟩ := ih (i + 1) T1 c (by omega) (by rw [e.1 18 (by decide) (by decide)]; exact e8) (by rw [e.2 71 (by decide) (by decide)]; exact ez)
        exact ⟨T', e.tr r1, r2⟩
      · exact absurd hi7 (by omega)
    cases i with
    | zero =>
      have st : ∀ k, l_X12_plans_k6_177 x y k (m + 1) T (nI 0 - 1) = _ := fun k => by
        rw [l_X12_plans_k6_177, if_pos (by decide), if_pos (by decide), jx, fb_s, fv_s, show (nI 0 - 1 + 1 : Int32) = nI (0 + 1) - 1 from by decide]
      by_cases z : y - T.2 72 (24 * s + 6) + 0 < 0
      · obtain ⟨T', r1, r2⟩ := nx (by omega) T EP.rf
        exact ⟨T', r1, fun k => by rw [st, if_pos z]; exact r2 k⟩
      · obtain ⟨T1, p1, p2⟩ := pl_7 hs hz hq (wA T 67 6 (nI 0 - 1)) x (y - T.2 72 (24 * s + 6) + 0) e8 ez
        obtain ⟨T', r1, r2⟩ := nx (by omega) T1 ((EP.wA (by omega)).tr p1)
        exact ⟨T', r1, fun k => by rw [st, if_neg z, fl_s, p2, fb_s]; exact r2 k⟩
    | succ j =>
      by_cases c : j < 6
      · have lt : nI j < 6 := nI_lt (b := 6) c (by decide)
        have st : ∀ k, l_X12_plans_k6_177 x y k (m + 1) T (nI (j + 1) - 1) = _ := fun k => by
          rw [l_X12_plans_k6_177, nI_pred, if_pos lt, if_neg (nI_pos (show j < 2 ^ 31 by omega)), jx, ixT_0 (show j < 10 by omega), fb_s, fb_s, fv_s, nI_1, ← nI_pred (j + 1)]
        by_cases b : ((x >>> (nI j &&& 31)) &&& 1) = 0
        · obtain ⟨T', r1, r2⟩ := nx (by omega) T EP.rf
          exact ⟨T', r1, fun k => by rw [st, if_pos b]; exact r2 k⟩
        · by_cases z : y - T.2 72 (24 * s + 6) + 4 * T.2 55 (3 * j + 20) < 0
          · obtain ⟨T', r1, r2⟩ := nx (by omega) T EP.rf
            exact ⟨T', r1, fun k => by rw [st, if_neg b, if_pos z]; exact r2 k⟩
          · obtain ⟨T1, p1, p2⟩ := pl_7 hs hz hq (wA T 67 6 (nI j)) (x &&& (((1 : Int32) <<< (nI j &&& 31)) ^^^ (-1))) (y - T.2 72 (24 * s + 6) + 4 * T.2 55 (3 * j + 20)) e8 ez
            obtain ⟨T', r1, r2⟩ := nx (by omega) T1 ((EP.wA (by omega)).tr p1)
            exact ⟨T', r1, fun k => by rw [st, if_neg b, if_neg z, fl_s, p2, fb_s]; exact r2 k⟩
      · obtain rfl : j = 6 := by omega
        refine ⟨T, EP.rf, fun k => ?_⟩
        rw [l_X12_plans_k6_177, nI_pred, if_neg (by decide)]
theorem pl_6 {s sz : Nat} (hs : s < 4) (hz : sz ≤ 8) (hq : 6 ≤ sz) (T : FS) (x y : Int32) (e8 : T.1 18 = nI s) (ez : T.2 71 s = nI sz) : ∃ T' : FS, EP T T' ∧ f_X12_plans_k6 T x y = some (0, T') := by
  unfold f_X12_plans_k6
  rw [e8, ix_nI hs (by decide), fb_s, ez]
  by_cases c : sz = 6
  · rw [if_pos (show (6 : Int32) = nI sz by rw [c]; rfl)]
    obtain ⟨v, r⟩ := p19_6 (T := T) (x := x) FU 0 y (by omega) (FU_lt (by omega))
    rw [show ∀ k, l_X12_plans_k6_19 x k FU T y 0 = k T v (nI 6) from r]
    split
    · exact p83_6 T v
    · split
      · exact p83_6 T v
      · exact ⟨T, EP.rf, rfl⟩
  · rw [if_neg (show ¬ (6 : Int32) = nI sz from fun q => c (nI_inj (a := sz) (b := 6) (by omega) (by decide) q.symm))]
    obtain ⟨v, r⟩ := p130_6 (T := T) (x := x) FU 0 y (by omega) (FU_lt (by omega))
    obtain ⟨T', p1, p2⟩ := p177_6 (x := x) (y := v) hs hz (show 7 ≤ sz by omega) FU 0 T (by omega) (FU_lt (by omega)) e8 ez
    refine ⟨T', p1, ?_⟩
    rw [show ∀ k, l_X12_plans_k6_130 x k FU T y 0 = k T v (nI 6) from r]
    exact p2 _
theorem p19_5 {x : Int32} : ∀ (m i : Nat) (y : Int32), i ≤ 6 → 6 - i < m → ∃ v : Int32, ∀ k, l_X12_plans_k5_19 x k m T y (nI i) = k T v (nI 6) := by
  intro m
  induction m with
  | zero => intro i y _ hm; exact absurd hm (Nat.not_lt_zero _)
  | succ m ih =>
    intro i y hi hm
    by_cases c : i < 6
    · have lt : nI i < 6 := nI_lt (b := 6) c (by decide)
      by_cases z : ((x >>> (nI i &&& 31)) &&& 1) = 1
      · obtain ⟨v, r⟩ := ih (i + 1) (y + 8 * T.2 55 (3 * i + 20)) (by omega) (by omega)
        refine ⟨v, fun k => ?_⟩
        rw [l_X12_plans_k5_19, if_pos lt, if_pos z, ixT_0 (by omega), fb_s, fv_s, nI_1]; exact r k
      · obtain ⟨v, r⟩ := ih (i + 1) (y + 0) (by omega) (by omega)
        refine ⟨v, fun k => ?_⟩
        rw [l_X12_plans_k5_19, if_pos lt, if_neg z, fv_s, nI_1]; exact r k
    · obtain rfl : i = 6 := by omega
      refine ⟨y, fun k => ?_⟩
      rw [l_X12_plans_k5_19, if_neg (by decide)]
theorem p97_5 : ∀ (m i : Nat) (T : FS), i ≤ 5 → 5 - i < m → ∃ T' : FS, EP T T' ∧ ∀ k, l_X12_plans_k5_97 k m T (nI i) = k T' (nI 5) := by
  intro m
  induction m with
  | zero => intro i T _ hm; exact absurd hm (Nat.not_lt_zero _)
  | succ m ih =>
    intro i T hi hm
    by_cases c : i < 5
    · obtain ⟨T', r1, r2⟩ := ih (i + 1) (wA T 68 i (T.2 67 i)) (by omega) (by omega)
      refine ⟨T', (EP.wA (by omega)).tr r1, fun k => ?_⟩
      rw [l_X12_plans_k5_97, if_pos (show nI i < 5 from nI_lt (b := 5) c (by decide)), ix_nI (show i < 8 by omega) (by decide), fb_s, fl_s, nI_1]; exact r2 k
    · obtain rfl : i = 5 := by omega
      refine ⟨T, EP.rf, fun k => ?_⟩
      rw [l_X12_plans_k5_97, if_neg (by decide)]
theorem p83_5 (T : FS) (x : Int32) : ∃ T' : FS, EP T T' ∧ j_X12_plans_k5_83 x T = some (0, T') := by
  unfold j_X12_plans_k5_83
  simp only [fl_s]
  obtain ⟨T', r1, r2⟩ := p97_5 FU 0 (wI (wI T 20 1) 19 x) (by omega) (FU_lt (by omega))
  exact ⟨T', ((EP.wI (by omega)).tr (EP.wI (by omega))).tr r1, r2 _⟩
theorem p130_5 {x : Int32} : ∀ (m i : Nat) (y : Int32), i ≤ 6 → 6 - i < m → ∃ v : Int32, ∀ k, l_X12_plans_k5_130 x k m T y (nI i) = k T v (nI 6) := by
  intro m
  induction m with
  | zero => intro i y _ hm; exact absurd hm (Nat.not_lt_zero _)
  | succ m ih =>
    intro i y hi hm
    by_cases c : i < 6
    · have lt : nI i < 6 := nI_lt (b := 6) c (by decide)
      by_cases z : ((x >>> (nI i &&& 31)) &&& 1) = 1
      · obtain ⟨v, r⟩ := ih (i + 1) (y + T.2 55 (3 * i + 20)) (by omega) (by omega)
        refine ⟨v, fun k => ?_⟩
        rw [l_X12_plans_k5_130, if_pos lt, if_pos z, ixT_0 (by omega), fb_s, fv_s, nI_1]; exact r k
      · obtain ⟨v, r⟩ := ih (i + 1) (y + 0) (by omega) (by omega)
        refine ⟨v, fun k => ?_⟩
        rw [l_X12_plans_k5_130, if_pos lt, if_neg z, fv_s, nI_1]; exact r k
    · obtain rfl : i = 6 := by omega
      refine ⟨y, fun k => ?_⟩
      rw [l_X12_plans_k5_130, if_neg (by decide)]
theorem p177_5 {x y : Int32} {s sz : Nat} (hs : s < 4) (hz : sz ≤ 8) (hq : 6 ≤ sz) : ∀ (m i : Nat) (T : FS), i ≤ 7 → 7 - i < m → T.1 18 = nI s → T.2 71 s = nI sz → ∃ T' : FS, EP T T' ∧ ∀ k, l_X12_plans_k5_177 x y k m T (nI i - 1) = k T' (nI 6) := by
  intro m
  induction m with
  | zero => intro i T _ hm; exact absurd hm (Nat.not_lt_zero _)
  | succ m ih =>
    intro i T hi hm e8 ez
    have jx : ix 96 ((24 : Int32) * T.1 18 + 5) = some (24 * s + 5) := by rw [e8]; exact ix96 (i := 5) hs (by decide)
    have nx : i < 7 → ∀ (T1 : FS), EP T T1 → ∃ T' : FS, EP T T' ∧ ∀ k, l_X12_plans_k5_177 x y k m T1 (nI (i + 1) - 1) = k T' (nI 6) := fun hi7 T1 e => by
      by_cases c : i + 1 ≤ 7
      · obtain ⟨T', r1, r2⟩ := ih (i + 1) T1 c (by omega) (by rw [e.1 18 (by decide) (by decide)]; exact e8) (by rw [e.2 71 (by decide) (by decide)]; exact ez)
        exact ⟨T', e.tr r1, r2⟩
      · exact absurd hi7 (by omega)
    cases i with
    | zero =>
      have st : ∀ k, l_X12_plans_k5_177 x y k (m + 1) T (nI 0 - 1) = _ := fun k => by
        rw [l_X12_plans_k5_177, if_pos (by decide), if_pos (by decide), jx, fb_s, fv_s, show (nI 0 - 1 + 1 : Int32) = nI (0 + 1) - 1 from by decide]
      by_cases z : y - T.2 72 (24 * s + 5) + 0 < 0
      · obtain ⟨T', r1, r2⟩ := nx (by omega) T EP.rf
        exact ⟨T', r1, fun k => by rw [st, if_pos z]; exact r2 k⟩
      · obtain ⟨T1, p1, p2⟩ := pl_6 hs hz hq (wA T 67 5 (nI 0 - 1)) x (y - T.2 72 (24 * s + 5) + 0) e8 ez
        obtain ⟨T', r1, r2⟩ := nx (by omega) T1 ((EP.wA (by omega)).tr p1)
        exact ⟨T', r1, fun k => by rw [st, if_neg z, fl_s, p2, fb_s]; exact r2 k⟩
    | succ j =>
      by_cases c : j < 6
      · have lt : nI j < 6 := nI_lt (b := 6) c (by decide)
        have st : ∀ k, l_X12_plans_k5_177 x y k (m + 1) T (nI (j + 1) - 1) = _ := fun k => by
          rw [l_X12_plans_k5_177, nI_pred, if_pos lt, if_neg (nI_pos (show j < 2 ^ 31 by omega)), jx, ixT_0 (show j < 10 by omega), fb_s, fb_s, fv_s, nI_1, ← nI_pred (j + 1)]
        by_cases b : ((x >>> (nI j &&& 31)) &&& 1) = 0
        · obtain ⟨T', r1, r2⟩ := nx (by omega) T EP.rf
          exact ⟨T', r1, fun k => by rw [st, if_pos b]; exact r2 k⟩
        · by_cases z : y - T.2 72 (24 * s + 5) + 4 * T.2 55 (3 * j + 20) < 0
          · obtain ⟨T', r1, r2⟩ := nx (by omega) T EP.rf
            exact ⟨T', r1, fun k => by rw [st, if_neg b, if_pos z]; exact r2 k⟩
          · obtain ⟨T1, p1, p2⟩ := pl_6 hs hz hq (wA T 67 5 (nI j)) (x &&& (((1 : Int32) <<< (nI j &&& 31)) ^^^ (-1))) (y - T.2 72 (24 * s + 5) + 4 * T.2 55 (3 * j + 20)) e8 ez
            obtain ⟨T', r1, r2⟩ := nx (by omega) T1 ((EP.wA (by omega)).tr p1)
            exact ⟨T', r1, fun k => by rw [st, if_neg b, if_neg z, fl_s, p2, fb_s]; exact r2 k⟩
      · obtain rfl : j = 6 := by omega
        refine ⟨T, EP.rf, fun k => ?_⟩
        rw [l_X12_plans_k5_177, nI_pred, if_neg (by decide)]
theorem pl_5 {s sz : Nat} (hs : s < 4) (hz : sz ≤ 8) (hq : 5 ≤ sz) (T : FS) (x y : Int32) (e8 : T.1 18 = nI s) (ez : T.2 71 s = nI sz) : ∃ T' : FS, EP T T' ∧ f_X12_plans_k5 T x y = some (0, T') := by
  unfold f_X12_plans_k5
  rw [e8, ix_nI hs (by decide), fb_s, ez]
  by_cases c : sz = 5
  · rw [if_pos (show (5 : Int32) = nI sz by rw [c]; rfl)]
    obtain ⟨v, r⟩ := p19_5 (T := T) (x := x) FU 0 y (by omega) (FU_lt (by omega))
    rw [show ∀ k, l_X12_plans_k5_19 x k FU T y 0 = k T v (nI 6) from r]
    split
    · exact p83_5 T v
    · split
      · exact p83_5 T v
      · exact ⟨T, EP.rf, rfl⟩
  · rw [if_neg (show ¬ (5 : Int32) = nI sz from fun q => c (nI_inj (a := sz) (b := 5) (by omega) (by decide) q.symm))]
    obtain ⟨v, r⟩ := p130_5 (T := T) (x := x) FU 0 y (by omega) (FU_lt (by omega))
    obtain ⟨T', p1, p2⟩ := p177_5 (x := x) (y := v) hs hz (show 6 ≤ sz by omega) FU 0 T (by omega) (FU_lt (by omega)) e8 ez
    refine ⟨T', p1, ?_⟩
    rw [show ∀ k, l_X12_plans_k5_130 x k FU T y 0 = k T v (nI 6) from r]
    exact p2 _
theorem p19_4 {x : Int32} : ∀ (m i : Nat) (y : Int32), i ≤ 6 → 6 - i < m → ∃ v : Int32, ∀ k, l_X12_plans_k4_19 x k m T y (nI i) = k T v (nI 6) := by
  intro m
  induction m with
  | zero => intro i y _ hm; exact absurd hm (Nat.not_lt_zero _)
  | succ m ih =>
    intro i y hi hm
    by_cases c : i < 6
    · have lt : nI i < 6 := nI_lt (b := 6) c (by decide)
      by_cases z : ((x >>> (nI i &&& 31)) &&& 1) = 1
      · obtain ⟨v, r⟩ := ih (i + 1) (y + 8 * T.2 55 (3 * i + 20)) (by omega) (by omega)
        refine ⟨v, fun k => ?_⟩
        rw [l_X12_plans_k4_19, if_pos lt, if_pos z, ixT_0 (by omega), fb_s, fv_s, nI_1]; exact r k
      · obtain ⟨v, r⟩ := ih (i + 1) (y + 0) (by omega) (by omega)
        refine ⟨v, fun k => ?_⟩
        rw [l_X12_plans_k4_19, if_pos lt, if_neg z, fv_s, nI_1]; exact r k
    · obtain rfl : i = 6 := by omega
      refine ⟨y, fun k => ?_⟩
      rw [l_X12_plans_k4_19, if_neg (by decide)]
theorem p97_4 : ∀ (m i : Nat) (T : FS), i ≤ 4 → 4 - i < m → ∃ T' : FS, EP T T' ∧ ∀ k, l_X12_plans_k4_97 k m T (nI i) = k T' (nI 4) := by
  intro m
  induction m with
  | zero => intro i T _ hm; exact absurd hm (Nat.not_lt_zero _)
  | succ m ih =>
    intro i T hi hm
    by_cases c : i < 4
    · obtain ⟨T', r1, r2⟩ := ih (i + 1) (wA T 68 i (T.2 67 i)) (by omega) (by omega)
      refine ⟨T', (EP.wA (by omega)).tr r1, fun k => ?_⟩
      rw [l_X12_plans_k4_97, if_pos (show nI i < 4 from nI_lt (b := 4) c (by decide)), ix_nI (show i < 8 by omega) (by decide), fb_s, fl_s, nI_1]; exact r2 k
    · obtain rfl : i = 4 := by omega
      refine ⟨T, EP.rf, fun k => ?_⟩
      rw [l_X12_plans_k4_97, if_neg (by decide)]
theorem p83_4 (T : FS) (x : Int32) : ∃ T' : FS, EP T T' ∧ j_X12_plans_k4_83 x T = some (0, T') := by
  unfold j_X12_plans_k4_83
  simp only [fl_s]
  obtain ⟨T', r1, r2⟩ := p97_4 FU 0 (wI (wI T 20 1) 19 x) (by omega) (FU_lt (by omega))
  exact ⟨T', ((EP.wI (by omega)).tr (EP.wI (by omega))).tr r1, r2 _⟩
theorem p130_4 {x : Int32} : ∀ (m i : Nat) (y : Int32), i ≤ 6 → 6 - i < m → ∃ v : Int32, ∀ k, l_X12_plans_k4_130 x k m T y (nI i) = k T v (nI 6) := by
  intro m
  induction m with
  | zero => intro i y _ hm; exact absurd hm (Nat.not_lt_zero _)
  | succ m ih =>
    intro i y hi hm
    by_cases c : i < 6
    · have lt : nI i < 6 := nI_lt (b := 6) c (by decide)
      by_cases z : ((x >>> (nI i &&& 31)) &&& 1) = 1
      · obtain ⟨v, r⟩ := ih (i + 1) (y + T.2 55 (3 * i + 20)) (by omega) (by omega)
        refine ⟨v, fun k => ?_⟩
        rw [l_X12_plans_k4_130, if_pos lt, if_pos z, ixT_0 (by omega), fb_s, fv_s, nI_1]; exact r k
      · obtain ⟨v, r⟩ := ih (i + 1) (y + 0) (by omega) (by omega)
        refine ⟨v, fun k => ?_⟩
        rw [l_X12_plans_k4_130, if_pos lt, if_neg z, fv_s, nI_1]; exact r k
    · obtain rfl : i = 6 := by omega
      refine ⟨y, fun k => ?_⟩
      rw [l_X12_plans_k4_130, if_neg (by decide)]
theorem p177_4 {x y : Int32} {s sz : Nat} (hs : s < 4) (hz : sz ≤ 8) (hq : 5 ≤ sz) : ∀ (m i : Nat) (T : FS), i ≤ 7 → 7 - i < m → T.1 18 = nI s → T.2 71 s = nI sz → ∃ T' : FS, EP T T' ∧ ∀ k, l_X12_plans_k4_177 x y k m T (nI i - 1) = k T' (nI 6) := by
  intro m
  induction m with
  | zero => intro i T _ hm; exact absurd hm (Nat.not_lt_zero _)
  | succ m ih =>
    intro i T hi hm e8 ez
    have jx : ix 96 ((24 : Int32) * T.1 18 + 4) = some (24 * s + 4) := by rw [e8]; exact ix96 (i := 4) hs (by decide)
    have nx : i < 7 → ∀ (T1 : FS), EP T T1 → ∃ T' : FS, EP T T' ∧ ∀ k, l_X12_plans_k4_177 x y k m T1 (nI (i + 1) - 1) = k T' (nI 6) := fun hi7 T1 e => by
      by_cases c : i + 1 ≤ 7
      · obtain ⟨T', r1, r2⟩ := ih (i + 1) T1 c (by omega) (by rw [e.1 18 (by decide) (by decide)]; exact e8) (by rw [e.2 71 (by decide) (by decide)]; exact ez)
        exact ⟨T', e.tr r1, r2⟩
      · exact absurd hi7 (by omega)
    cases i with
    | zero =>
      have st : ∀ k, l_X12_plans_k4_177 x y k (m + 1) T (nI 0 - 1) = _ := fun k => by
        rw [l_X12_plans_k4_177, if_pos (by decide), if_pos (by decide), jx, fb_s, fv_s, show (nI 0 - 1 + 1 : Int32) = nI (0 + 1) - 1 from by decide]
      by_cases z : y - T.2 72 (24 * s + 4) + 0 < 0
      · obtain ⟨T', r1, r2⟩ := nx (by omega) T EP.rf
        exact ⟨T', r1, fun k => by rw [st, if_pos z]; exact r2 k⟩
      · obtain ⟨T1, p1, p2⟩ := pl_5 hs hz hq (wA T 67 4 (nI 0 - 1)) x (y - T.2 72 (24 * s + 4) + 0) e8 ez
        obtain ⟨T', r1, r2⟩ := nx (by omega) T1 ((EP.wA (by omega)).tr p1)
        exact ⟨T', r1, fun k => by rw [st, if_neg z, fl_s, p2, fb_s]; exact r2 k⟩
    | succ j =>
      by_cases c : j < 6
      · have lt : nI j < 6 := nI_lt (b := 6) c (by decide)
        have st : ∀ k, l_X12_plans_k4_177 x y k (m + 1) T (nI (j + 1) - 1) = _ := fun k => by
          rw [l_X12_plans_k4_177, nI_pred, if_pos lt, if_neg (nI_pos (show j < 2 ^ 31 by omega)), jx, ixT_0 (show j < 10 by omega), fb_s, fb_s, fv_s, nI_1, ← nI_pred (j + 1)]
        by_cases b : ((x >>> (nI j &&& 31)) &&& 1) = 0
        · obtain ⟨T', r1, r2⟩ := nx (by omega) T EP.rf
          exact ⟨T', r1, fun k => by rw [st, if_pos b]; exact r2 k⟩
        · by_cases z : y - T.2 72 (24 * s + 4) + 4 * T.2 55 (3 * j + 20) < 0
          · obtain ⟨T', r1, r2⟩ := nx (by omega) T EP.rf
            exact ⟨T', r1, fun k => by rw [st, if_neg b, if_pos z]; exact r2 k⟩
          · obtain ⟨T1, p1, p2⟩ := pl_5 hs hz hq (wA T 67 4 (nI j)) (x &&& (((1 : Int32) <<< (nI j &&& 31)) ^^^ (-1))) (y - T.2 72 (24 * s + 4) + 4 * T.2 55 (3 * j + 20)) e8 ez
            obtain ⟨T', r1, r2⟩ := nx (by omega) T1 ((EP.wA (by omega)).tr p1)
            exact ⟨T', r1, fun k => by rw [st, if_neg b, if_neg z, fl_s, p2, fb_s]; exact r2 k⟩
      · obtain rfl : j = 6 := by omega
        refine ⟨T, EP.rf, fun k => ?_⟩
        rw [l_X12_plans_k4_177, nI_pred, if_neg (by decide)]
theorem pl_4 {s sz : Nat} (hs : s < 4) (hz : sz ≤ 8) (hq : 4 ≤ sz) (T : FS) (x y : Int32) (e8 : T.1 18 = nI s) (ez : T.2 71 s = nI sz) : ∃ T' : FS, EP T T' ∧ f_X12_plans_k4 T x y = some (0, T') := by
  unfold f_X12_plans_k4
  rw [e8, ix_nI hs (by decide), fb_s, ez]
  by_cases c : sz = 4
  · rw [if_pos (show (4 : Int32) = nI sz by rw [c]; rfl)]
    obtain ⟨v, r⟩ := p19_4 (T := T) (x := x) FU 0 y (by omega) (FU_lt (by omega))
    rw [show ∀ k, l_X12_plans_k4_19 x k FU T y 0 = k T v (nI 6) from r]
    split
    · exact p83_4 T v
    · split
      · exact p83_4 T v
      · exact ⟨T, EP.rf, rfl⟩
  · rw [if_neg (show ¬ (4 : Int32) = nI sz from fun q => c (nI_inj (a := sz) (b := 4) (by omega) (by decide) q.symm))]
    obtain ⟨v, r⟩ := p130_4 (T := T) (x := x) FU 0 y (by omega) (FU_lt (by omega))
    obtain ⟨T', p1, p2⟩ := p177_4 (x := x) (y := v) hs hz (show 5 ≤ sz by omega) FU 0 T (by omega) (FU_lt (by omega)) e8 ez
    refine ⟨T', p1, ?_⟩
    rw [show ∀ k, l_X12_plans_k4_130 x k FU T y 0 = k T v (nI 6) from r]
    exact p2 _
theorem p19_3 {x : Int32} : ∀ (m i : Nat) (y : Int32), i ≤ 6 → 6 - i < m → ∃ v : Int32, ∀ k, l_X12_plans_k3_19 x k m T y (nI i) = k T v (nI 6) := by
  intro m
  induction m with
  | zero => intro i y _ hm; exact absurd hm (Nat.not_lt_zero _)
  | succ m ih =>
    intro i y hi hm
    by_cases c : i < 6
    · have lt : nI i < 6 := nI_lt (b := 6) c (by decide)
      by_cases z : ((x >>> (nI i &&& 31)) &&& 1) = 1
      · obtain ⟨v, r⟩ := ih (i + 1) (y + 8 * T.2 55 (3 * i + 20)) (by omega) (by omega)
        refine ⟨v, fun k => ?_⟩
        rw [l_X12_plans_k3_19, if_pos lt, if_pos z, ixT_0 (by omega), fb_s, fv_s, nI_1]; exact r k
      · obtain ⟨v, r⟩ := ih (i + 1) (y + 0) (by omega) (by omega)
        refine ⟨v, fun k => ?_⟩
        rw [l_X12_plans_k3_19, if_pos lt, if_neg z, fv_s, nI_1]; exact r k
    · obtain rfl : i = 6 := by omega
      refine ⟨y, fun k => ?_⟩
      rw [l_X12_plans_k3_19, if_neg (by decide)]
theorem p97_3 : ∀ (m i : Nat) (T : FS), i ≤ 3 → 3 - i < m → ∃ T' : FS, EP T T' ∧ ∀ k, l_X12_plans_k3_97 k m T (nI i) = k T' (nI 3) := by
  intro m
  induction m with
  | zero => intro i T _ hm; exact absurd hm (Nat.not_lt_zero _)
  | succ m ih =>
    intro i T hi hm
    by_cases c : i < 3
    · obtain ⟨T', r1, r2⟩ := ih (i + 1) (wA T 68 i (T.2 67 i)) (by omega) (by omega)
      refine ⟨T', (EP.wA (by omega)).tr r1, fun k => ?_⟩
      rw [l_X12_plans_k3_97, if_pos (show nI i < 3 from nI_lt (b := 3) c (by decide)), ix_nI (show i < 8 by omega) (by decide), fb_s, fl_s, nI_1]; exact r2 k
    · obtain rfl : i = 3 := by omega
      refine ⟨T, EP.rf, fun k => ?_⟩
      rw [l_X12_plans_k3_97, if_neg (by decide)]
theorem p83_3 (T : FS) (x : Int32) : ∃ T' : FS, EP T T' ∧ j_X12_plans_k3_83 x T = some (0, T') := by
  unfold j_X12_plans_k3_83
  simp only [fl_s]
  obtain ⟨T', r1, r2⟩ := p97_3 FU 0 (wI (wI T 20 1) 19 x) (by omega) (FU_lt (by omega))
  exact ⟨T', ((EP.wI (by omega)).tr (EP.wI (by omega))).tr r1, r2 _⟩
theorem p130_3 {x : Int32} : ∀ (m i : Nat) (y : Int32), i ≤ 6 → 6 - i < m → ∃ v : Int32, ∀ k, l_X12_plans_k3_130 x k m T y (nI i) = k T v (nI 6) := by
  intro m
  induction m with
  | zero => intro i y _ hm; exact absurd hm (Nat.not_lt_zero _)
  | succ m ih =>
    intro i y hi hm
    by_cases c : i < 6
    · have lt : nI i < 6 := nI_lt (b := 6) c (by decide)
      by_cases z : ((x >>> (nI i &&& 31)) &&& 1) = 1
      · obtain ⟨v, r⟩ := ih (i + 1) (y + T.2 55 (3 * i + 20)) (by omega) (by omega)
        refine ⟨v, fun k => ?_⟩
        rw [l_X12_plans_k3_130, if_pos lt, if_pos z, ixT_0 (by omega), fb_s, fv_s, nI_1]; exact r k
      · obtain ⟨v, r⟩ := ih (i + 1) (y + 0) (by omega) (by omega)
        refine ⟨v, fun k => ?_⟩
        rw [l_X12_plans_k3_130, if_pos lt, if_neg z, fv_s, nI_1]; exact r k
    · obtain rfl : i = 6 := by omega
      refine ⟨y, fun k => ?_⟩
      rw [l_X12_plans_k3_130, if_neg (by decide)]
theorem p177_3 {x y : Int32} {s sz : Nat} (hs : s < 4) (hz : sz ≤ 8) (hq : 4 ≤ sz) : ∀ (m i : Nat) (T : FS), i ≤ 7 → 7 - i < m → T.1 18 = nI s → T.2 71 s = nI sz → ∃ T' : FS, EP T T' ∧ ∀ k, l_X12_plans_k3_177 x y k m T (nI i - 1) = k T' (nI 6) := by
  intro m
  induction m with
  | zero => intro i T _ hm; exact absurd hm (Nat.not_lt_zero _)
  | succ m ih =>
    intro i T hi hm e8 ez
    have jx : ix 96 ((24 : Int32) * T.1 18 + 3) = some (24 * s + 3) := by rw [e8]; exact ix96 (i := 3) hs (by decide)
    have nx : i < 7 → ∀ (T1 : FS), EP T T1 → ∃ T' : FS, EP T T' ∧ ∀ k, l_X12_plans_k3_177 x y k m T1 (nI (i + 1) - 1) = k T' (nI 6) := fun hi7 T1 e => by
      by_cases c : i + 1 ≤ 7
      · obtain ⟨T', r1, r2⟩ := ih (i + 1) T1 c (by omega) (by rw [e.1 18 (by decide) (by decide)]; exact e8) (by rw [e.2 71 (by decide) (by decide)]; exact ez)
        exact ⟨T', e.tr r1, r2⟩
      · exact absurd hi7 (by omega)
    cases i with
    | zero =>
      have st : ∀ k, l_X12_plans_k3_177 x y k (m + 1) T (nI 0 - 1) = _ := fun k => by
        rw [l_X12_plans_k3_177, if_pos (by decide), if_pos (by decide), jx, fb_s, fv_s, show (nI 0 - 1 + 1 : Int32) = nI (0 + 1) - 1 from by decide]
      by_cases z : y - T.2 72 (24 * s + 3) + 0 < 0
      · obtain ⟨T', r1, r2⟩ := nx (by omega) T EP.rf
        exact ⟨T', r1, fun k => by rw [st, if_pos z]; exact r2 k⟩
      · obtain ⟨T1, p1, p2⟩ := pl_4 hs hz hq (wA T 67 3 (nI 0 - 1)) x (y - T.2 72 (24 * s + 3) + 0) e8 ez
        obtain ⟨T', r1, r2⟩ := nx (by omega) T1 ((EP.wA (by omega)).tr p1)
        exact ⟨T', r1, fun k => by rw [st, if_neg z, fl_s, p2, fb_s]; exact r2 k⟩
    | succ j =>
      by_cases c : j < 6
      · have lt : nI j < 6 := nI_lt (b := 6) c (by decide)
        have st : ∀ k, l_X12_plans_k3_177 x y k (m + 1) T (nI (j + 1) - 1) = _ := fun k => by
          rw [l_X12_plans_k3_177, nI_pred, if_pos lt, if_neg (nI_pos (show j < 2 ^ 31 by omega)), jx, ixT_0 (show j < 10 by omega), fb_s, fb_s, fv_s, nI_1, ← nI_pred (j + 1)]
        by_cases b : ((x >>> (nI j &&& 31)) &&& 1) = 0
        · obtain ⟨T', r1, r2⟩ := nx (by omega) T EP.rf
          exact ⟨T', r1, fun k => by rw [st, if_pos b]; exact r2 k⟩
        · by_cases z : y - T.2 72 (24 * s + 3) + 4 * T.2 55 (3 * j + 20) < 0
          · obtain ⟨T', r1, r2⟩ := nx (by omega) T EP.rf
            exact ⟨T', r1, fun k => by rw [st, if_neg b, if_pos z]; exact r2 k⟩
          · obtain ⟨T1, p1, p2⟩ := pl_4 hs hz hq (wA T 67 3 (nI j)) (x &&& (((1 : Int32) <<< (nI j &&& 31)) ^^^ (-1))) (y - T.2 72 (24 * s + 3) + 4 * T.2 55 (3 * j + 20)) e8 ez
            obtain ⟨T', r1, r2⟩ := nx (by omega) T1 ((EP.wA (by omega)).tr p1)
            exact ⟨T', r1, fun k => by rw [st, if_neg b, if_neg z, fl_s, p2, fb_s]; exact r2 k⟩
      · obtain rfl : j = 6 := by omega
        refine ⟨T, EP.rf, fun k => ?_⟩
        rw [l_X12_plans_k3_177, nI_pred, if_neg (by decide)]
theorem pl_3 {s sz : Nat} (hs : s < 4) (hz : sz ≤ 8) (hq : 3 ≤ sz) (T : FS) (x y : Int32) (e8 : T.1 18 = nI s) (ez : T.2 71 s = nI sz) : ∃ T' : FS, EP T T' ∧ f_X12_plans_k3 T x y = some (0, T') := by
  unfold f_X12_plans_k3
  rw [e8, ix_nI hs (by decide), fb_s, ez]
  by_cases c : sz = 3
  · rw [if_pos (show (3 : Int32) = nI sz by rw [c]; rfl)]
    obtain ⟨v, r⟩ := p19_3 (T := T) (x := x) FU 0 y (by omega) (FU_lt (by omega))
    rw [show ∀ k, l_X12_plans_k3_19 x k FU T y 0 = k T v (nI 6) from r]
    split
    · exact p83_3 T v
    · split
      · exact p83_3 T v
      · exact ⟨T, EP.rf, rfl⟩
  · rw [if_neg (show ¬ (3 : Int32) = nI sz from fun q => c (nI_inj (a := sz) (b := 3) (by omega) (by decide) q.symm))]
    obtain ⟨v, r⟩ := p130_3 (T := T) (x := x) FU 0 y (by omega) (FU_lt (by omega))
    obtain ⟨T', p1, p2⟩ := p177_3 (x := x) (y := v) hs hz (show 4 ≤ sz by omega) FU 0 T (by omega) (FU_lt (by omega)) e8 ez
    refine ⟨T', p1, ?_⟩
    rw [show ∀ k, l_X12_plans_k3_130 x k FU T y 0 = k T v (nI 6) from r]
    exact p2 _
theorem p19_2 {x : Int32} : ∀ (m i : Nat) (y : Int32), i ≤ 6 → 6 - i < m → ∃ v : Int32, ∀ k, l_X12_plans_k2_19 x k m T y (nI i) = k T v (nI 6) := by
  intro m
  induction m with
  | zero => intro i y _ hm; exact absurd hm (Nat.not_lt_zero _)
  | succ m ih =>
    intro i y hi hm
    by_cases c : i < 6
    · have lt : nI i < 6 := nI_lt (b := 6) c (by decide)
      by_cases z : ((x >>> (nI i &&& 31)) &&& 1) = 1
      · obtain ⟨v, r⟩ := ih (i + 1) (y + 8 * T.2 55 (3 * i + 20)) (by omega) (by omega)
        refine ⟨v, fun k => ?_⟩
        rw [l_X12_plans_k2_19, if_pos lt, if_pos z, ixT_0 (by omega), fb_s, fv_s, nI_1]; exact r k
      · obtain ⟨v, r⟩ := ih (i + 1) (y + 0) (by omega) (by omega)
        refine ⟨v, fun k => ?_⟩
        rw [l_X12_plans_k2_19, if_pos lt, if_neg z, fv_s, nI_1]; exact r k
    · obtain rfl : i = 6 := by omega
      refine ⟨y, fun k => ?_⟩
      rw [l_X12_plans_k2_19, if_neg (by decide)]
theorem p97_2 : ∀ (m i : Nat) (T : FS), i ≤ 2 → 2 - i < m → ∃ T' : FS, EP T T' ∧ ∀ k, l_X12_plans_k2_97 k m T (nI i) = k T' (nI 2) := by
  intro m
  induction m with
  | zero => intro i T _ hm; exact absurd hm (Nat.not_lt_zero _)
  | succ m ih =>
    intro i T hi hm
    by_cases c : i < 2
    · obtain ⟨T', r1, r2⟩ := ih (i + 1) (wA T 68 i (T.2 67 i)) (by omega) (by omega)
      refine ⟨T', (EP.wA (by omega)).tr r1, fun k => ?_⟩
      rw [l_X12_plans_k2_97, if_pos (show nI i < 2 from nI_lt (b := 2) c (by decide)), ix_nI (show i < 8 by omega) (by decide), fb_s, fl_s, nI_1]; exact r2 k
    · obtain rfl : i = 2 := by omega
      refine ⟨T, EP.rf, fun k => ?_⟩
      rw [l_X12_plans_k2_97, if_neg (by decide)]
theorem p83_2 (T : FS) (x : Int32) : ∃ T' : FS, EP T T' ∧ j_X12_plans_k2_83 x T = some (0, T') := by
  unfold j_X12_plans_k2_83
  simp only [fl_s]
  obtain ⟨T', r1, r2⟩ := p97_2 FU 0 (wI (wI T 20 1) 19 x) (by omega) (FU_lt (by omega))
  exact ⟨T', ((EP.wI (by omega)).tr (EP.wI (by omega))).tr r1, r2 _⟩
theorem p130_2 {x : Int32} : ∀ (m i : Nat) (y : Int32), i ≤ 6 → 6 - i < m → ∃ v : Int32, ∀ k, l_X12_plans_k2_130 x k m T y (nI i) = k T v (nI 6) := by
  intro m
  induction m with
  | zero => intro i y _ hm; exact absurd hm (Nat.not_lt_zero _)
  | succ m ih =>
    intro i y hi hm
    by_cases c : i < 6
    · have lt : nI i < 6 := nI_lt (b := 6) c (by decide)
      by_cases z : ((x >>> (nI i &&& 31)) &&& 1) = 1
      · obtain ⟨v, r⟩ := ih (i + 1) (y + T.2 55 (3 * i + 20)) (by omega) (by omega)
        refine ⟨v, fun k => ?_⟩
        rw [l_X12_plans_k2_130, if_pos lt, if_pos z, ixT_0 (by omega), fb_s, fv_s, nI_1]; exact r k
      · obtain ⟨v, r⟩ := ih (i + 1) (y + 0) (by omega) (by omega)
        refine ⟨v, fun k => ?_⟩
        rw [l_X12_plans_k2_130, if_pos lt, if_neg z, fv_s, nI_1]; exact r k
    · obtain rfl : i = 6 := by omega
      refine ⟨y, fun k => ?_⟩
      rw [l_X12_plans_k2_130, if_neg (by decide)]
theorem p177_2 {x y : Int32} {s sz : Nat} (hs : s < 4) (hz : sz ≤ 8) (hq : 3 ≤ sz) : ∀ (m i : Nat) (T : FS), i ≤ 7 → 7 - i < m → T.1 18 = nI s → T.2 71 s = nI sz → ∃ T' : FS, EP T T' ∧ ∀ k, l_X12_plans_k2_177 x y k m T (nI i - 1) = k T' (nI 6) := by
  intro m
  induction m with
  | zero => intro i T _ hm; exact absurd hm (Nat.not_lt_zero _)
  | succ m ih =>
    intro i T hi hm e8 ez
    have jx : ix 96 ((24 : Int32) * T.1 18 + 2) = some (24 * s + 2) := by rw [e8]; exact ix96 (i := 2) hs (by decide)
    have nx : i < 7 → ∀ (T1 : FS), EP T T1 → ∃ T' : FS, EP T T' ∧ ∀ k, l_X12_plans_k2_177 x y k m T1 (nI (i + 1) - 1) = k T' (nI 6) := fun hi7 T1 e => by
      by_cases c : i + 1 ≤ 7
      · obtain ⟨T', r1, r2⟩ := ih (i + 1) T1 c (by omega) (by rw [e.1 18 (by decide) (by decide)]; exact e8) (by rw [e.2 71 (by decide) (by decide)]; exact ez)
        exact ⟨T', e.tr r1, r2⟩
      · exact absurd hi7 (by omega)
    cases i with
    | zero =>
      have st : ∀ k, l_X12_plans_k2_177 x y k (m + 1) T (nI 0 - 1) = _ := fun k => by
        rw [l_X12_plans_k2_177, if_pos (by decide), if_pos (by decide), jx, fb_s, fv_s, show (nI 0 - 1 + 1 : Int32) = nI (0 + 1) - 1 from by decide]
      by_cases z : y - T.2 72 (24 * s + 2) + 0 < 0
      · obtain ⟨T', r1, r2⟩ := nx (by omega) T EP.rf
        exact ⟨T', r1, fun k => by rw [st, if_pos z]; exact r2 k⟩
      · obtain ⟨T1, p1, p2⟩ := pl_3 hs hz hq (wA T 67 2 (nI 0 - 1)) x (y - T.2 72 (24 * s + 2) + 0) e8 ez
        obtain ⟨T', r1, r2⟩ := nx (by omega) T1 ((EP.wA (by omega)).tr p1)
        exact ⟨T', r1, fun k => by rw [st, if_neg z, fl_s, p2, fb_s]; exact r2 k⟩
    | succ j =>
      by_cases c : j < 6
      · have lt : nI j < 6 := nI_lt (b := 6) c (by decide)
        have st : ∀ k, l_X12_plans_k2_177 x y k (m + 1) T (nI (j + 1) - 1) = _ := fun k => by
          rw [l_X12_plans_k2_177, nI_pred, if_pos lt, if_neg (nI_pos (show j < 2 ^ 31 by omega)), jx, ixT_0 (show j < 10 by omega), fb_s, fb_s, fv_s, nI_1, ← nI_pred (j + 1)]
        by_cases b : ((x >>> (nI j &&& 31)) &&& 1) = 0
        · obtain ⟨T', r1, r2⟩ := nx (by omega) T EP.rf
          exact ⟨T', r1, fun k => by rw [st, if_pos b]; exact r2 k⟩
        · by_cases z : y - T.2 72 (24 * s + 2) + 4 * T.2 55 (3 * j + 20) < 0
          · obtain ⟨T', r1, r2⟩ := nx (by omega) T EP.rf
            exact ⟨T', r1, fun k => by rw [st, if_neg b, if_pos z]; exact r2 k⟩
          · obtain ⟨T1, p1, p2⟩ := pl_3 hs hz hq (wA T 67 2 (nI j)) (x &&& (((1 : Int32) <<< (nI j &&& 31)) ^^^ (-1))) (y - T.2 72 (24 * s + 2) + 4 * T.2 55 (3 * j + 20)) e8 ez
            obtain ⟨T', r1, r2⟩ := nx (by omega) T1 ((EP.wA (by omega)).tr p1)
            exact ⟨T', r1, fun k => by rw [st, if_neg b, if_neg z, fl_s, p2, fb_s]; exact r2 k⟩
      · obtain rfl : j = 6 := by omega
        refine ⟨T, EP.rf, fun k => ?_⟩
        rw [l_X12_plans_k2_177, nI_pred, if_neg (by decide)]
theorem pl_2 {s sz : Nat} (hs : s < 4) (hz : sz ≤ 8) (hq : 2 ≤ sz) (T : FS) (x y : Int32) (e8 : T.1 18 = nI s) (ez : T.2 71 s = nI sz) : ∃ T' : FS, EP T T' ∧ f_X12_plans_k2 T x y = some (0, T') := by
  unfold f_X12_plans_k2
  rw [e8, ix_nI hs (by decide), fb_s, ez]
  by_cases c : sz = 2
  · rw [if_pos (show (2 : Int32) = nI sz by rw [c]; rfl)]
    obtain ⟨v, r⟩ := p19_2 (T := T) (x := x) FU 0 y (by omega) (FU_lt (by omega))
    rw [show ∀ k, l_X12_plans_k2_19 x k FU T y 0 = k T v (nI 6) from r]
    split
    · exact p83_2 T v
    · split
      · exact p83_2 T v
      · exact ⟨T, EP.rf, rfl⟩
  · rw [if_neg (show ¬ (2 : Int32) = nI sz from fun q => c (nI_inj (a := sz) (b := 2) (by omega) (by decide) q.symm))]
    obtain ⟨v, r⟩ := p130_2 (T := T) (x := x) FU 0 y (by omega) (FU_lt (by omega))
    obtain ⟨T', p1, p2⟩ := p177_2 (x := x) (y := v) hs hz (show 3 ≤ sz by omega) FU 0 T (by omega) (FU_lt (by omega)) e8 ez
    refine ⟨T', p1, ?_⟩
    rw [show ∀ k, l_X12_plans_k2_130 x k FU T y 0 = k T v (nI 6) from r]
    exact p2 _
theorem p19_1 {x : Int32} : ∀ (m i : Nat) (y : Int32), i ≤ 6 → 6 - i < m → ∃ v : Int32, ∀ k, l_X12_plans_k1_19 x k m T y (nI i) = k T v (nI 6) := by
  intro m
  induction m with
  | zero => intro i y _ hm; exact absurd hm (Nat.not_lt_zero _)
  | succ m ih =>
    intro i y hi hm
    by_cases c : i < 6
    · have lt : nI i < 6 := nI_lt (b := 6) c (by decide)
      by_cases z : ((x >>> (nI i &&& 31)) &&& 1) = 1
      · obtain ⟨v, r⟩ := ih (i + 1) (y + 8 * T.2 55 (3 * i + 20)) (by omega) (by omega)
        refine ⟨v, fun k => ?_⟩
        rw [l_X12_plans_k1_19, if_pos lt, if_pos z, ixT_0 (by omega), fb_s, fv_s, nI_1]; exact r k
      · obtain ⟨v, r⟩ := ih (i + 1) (y + 0) (by omega) (by omega)
        refine ⟨v, fun k => ?_⟩
        rw [l_X12_plans_k1_19, if_pos lt, if_neg z, fv_s, nI_1]; exact r k
    · obtain rfl : i = 6 := by omega
      refine ⟨y, fun k => ?_⟩
      rw [l_X12_plans_k1_19, if_neg (by decide)]
theorem p97_1 : ∀ (m i : Nat) (T : FS), i ≤ 1 → 1 - i < m → ∃ T' : FS, EP T T' ∧ ∀ k, l_X12_plans_k1_97 k m T (nI i) = k T' (nI 1) := by
  intro m
  induction m with
  | zero => intro i T _ hm; exact absurd hm (Nat.not_lt_zero _)
  | succ m ih =>
    intro i T hi hm
    by_cases c : i < 1
    · obtain ⟨T', r1, r2⟩ := ih (i + 1) (wA T 68 i (T.2 67 i)) (by omega) (by omega)
      refine ⟨T', (EP.wA (by omega)).tr r1, fun k => ?_⟩
      rw [l_X12_plans_k1_97, if_pos (show nI i < 1 from nI_lt (b := 1) c (by decide)), ix_nI (show i < 8 by omega) (by decide), fb_s, fl_s, nI_1]; exact r2 k
    · obtain rfl : i = 1 := by omega
      refine ⟨T, EP.rf, fun k => ?_⟩
      rw [l_X12_plans_k1_97, if_neg (by decide)]
theorem p83_1 (T : FS) (x : Int32) : ∃ T' : FS, EP T T' ∧ j_X12_plans_k1_83 x T = some (0, T') := by
  unfold j_X12_plans_k1_83
  simp only [fl_s]
  obtain ⟨T', r1, r2⟩ := p97_1 FU 0 (wI (wI T 20 1) 19 x) (by omega) (FU_lt (by omega))
  exact ⟨T', ((EP.wI (by omega)).tr (EP.wI (by omega))).tr r1, r2 _⟩
theorem p130_1 {x : Int32} : ∀ (m i : Nat) (y : Int32), i ≤ 6 → 6 - i < m → ∃ v : Int32, ∀ k, l_X12_plans_k1_130 x k m T y (nI i) = k T v (nI 6) := by
  intro m
  induction m with
  | zero => intro i y _ hm; exact absurd hm (Nat.not_lt_zero _)
  | succ m ih =>
    intro i y hi hm
    by_cases c : i < 6
    · have lt : nI i < 6 := nI_lt (b := 6) c (by decide)
      by_cases z : ((x >>> (nI i &&& 31)) &&& 1) = 1
      · obtain ⟨v, r⟩ := ih (i + 1) (y + T.2 55 (3 * i + 20)) (by omega) (by omega)
        refine ⟨v, fun k => ?_⟩
        rw [l_X12_plans_k1_130, if_pos lt, if_pos z, ixT_0 (by omega), fb_s, fv_s, nI_1]; exact r k
      · obtain ⟨v, r⟩ := ih (i + 1) (y + 0) (by omega) (by omega)
        refine ⟨v, fun k => ?_⟩
        rw [l_X12_plans_k1_130, if_pos lt, if_neg z, fv_s, nI_1]; exact r k
    · obtain rfl : i = 6 := by omega
      refine ⟨y, fun k => ?_⟩
      rw [l_X12_plans_k1_130, if_neg (by decide)]
theorem p177_1 {x y : Int32} {s sz : Nat} (hs : s < 4) (hz : sz ≤ 8) (hq : 2 ≤ sz) : ∀ (m i : Nat) (T : FS), i ≤ 7 → 7 - i < m → T.1 18 = nI s → T.2 71 s = nI sz → ∃ T' : FS, EP T T' ∧ ∀ k, l_X12_plans_k1_177 x y k m T (nI i - 1) = k T' (nI 6) := by
  intro m
  induction m with
  | zero => intro i T _ hm; exact absurd hm (Nat.not_lt_zero _)
  | succ m ih =>
    intro i T hi hm e8 ez
    have jx : ix 96 ((24 : Int32) * T.1 18 + 1) = some (24 * s + 1) := by rw [e8]; exact ix96 (i := 1) hs (by decide)
    have nx : i < 7 → ∀ (T1 : FS), EP T T1 → ∃ T' : FS, EP T T' ∧ ∀ k, l_X12_plans_k1_177 x y k m T1 (nI (i + 1) - 1) = k T' (nI 6) := fun hi7 T1 e => by
      by_cases c : i + 1 ≤ 7
      · obtain ⟨T', r1, r2⟩ := ih (i + 1) T1 c (by omega) (by rw [e.1 18 (by decide) (by decide)]; exact e8) (by rw [e.2 71 (by decide) (by decide)]; exact ez)
        exact ⟨T', e.tr r1, r2⟩
      · exact absurd hi7 (by omega)
    cases i with
    | zero =>
      have st : ∀ k, l_X12_plans_k1_177 x y k (m + 1) T (nI 0 - 1) = _ := fun k => by
        rw [l_X12_plans_k1_177, if_pos (by decide), if_pos (by decide), jx, fb_s, fv_s, show (nI 0 - 1 + 1 : Int32) = nI (0 + 1) - 1 from by decide]
      by_cases z : y - T.2 72 (24 * s + 1) + 0 < 0
      · obtain ⟨T', r1, r2⟩ := nx (by omega) T EP.rf
        exact ⟨T', r1, fun k => by rw [st, if_pos z]; exact r2 k⟩
      · obtain ⟨T1, p1, p2⟩ := pl_2 hs hz hq (wA T 67 1 (nI 0 - 1)) x (y - T.2 72 (24 * s + 1) + 0) e8 ez
        obtain ⟨T', r1, r2⟩ := nx (by omega) T1 ((EP.wA (by omega)).tr p1)
        exact ⟨T', r1, fun k => by rw [st, if_neg z, fl_s, p2, fb_s]; exact r2 k⟩
    | succ j =>
      by_cases c : j < 6
      · have lt : nI j < 6 := nI_lt (b := 6) c (by decide)
        have st : ∀ k, l_X12_plans_k1_177 x y k (m + 1) T (nI (j + 1) - 1) = _ := fun k => by
          rw [l_X12_plans_k1_177, nI_pred, if_pos lt, if_neg (nI_pos (show j < 2 ^ 31 by omega)), jx, ixT_0 (show j < 10 by omega), fb_s, fb_s, fv_s, nI_1, ← nI_pred (j + 1)]
        by_cases b : ((x >>> (nI j &&& 31)) &&& 1) = 0
        · obtain ⟨T', r1, r2⟩ := nx (by omega) T EP.rf
          exact ⟨T', r1, fun k => by rw [st, if_pos b]; exact r2 k⟩
        · by_cases z : y - T.2 72 (24 * s + 1) + 4 * T.2 55 (3 * j + 20) < 0
          · obtain ⟨T', r1, r2⟩ := nx (by omega) T EP.rf
            exact ⟨T', r1, fun k => by rw [st, if_neg b, if_pos z]; exact r2 k⟩
          · obtain ⟨T1, p1, p2⟩ := pl_2 hs hz hq (wA T 67 1 (nI j)) (x &&& (((1 : Int32) <<< (nI j &&& 31)) ^^^ (-1))) (y - T.2 72 (24 * s + 1) + 4 * T.2 55 (3 * j + 20)) e8 ez
            obtain ⟨T', r1, r2⟩ := nx (by omega) T1 ((EP.wA (by omega)).tr p1)
            exact ⟨T', r1, fun k => by rw [st, if_neg b, if_neg z, fl_s, p2, fb_s]; exact r2 k⟩
      · obtain rfl : j = 6 := by omega
        refine ⟨T, EP.rf, fun k => ?_⟩
        rw [l_X12_plans_k1_177, nI_pred, if_neg (by decide)]
theorem pl_1 {s sz : Nat} (hs : s < 4) (hz : sz ≤ 8) (hq : 1 ≤ sz) (T : FS) (x y : Int32) (e8 : T.1 18 = nI s) (ez : T.2 71 s = nI sz) : ∃ T' : FS, EP T T' ∧ f_X12_plans_k1 T x y = some (0, T') := by
  unfold f_X12_plans_k1
  rw [e8, ix_nI hs (by decide), fb_s, ez]
  by_cases c : sz = 1
  · rw [if_pos (show (1 : Int32) = nI sz by rw [c]; rfl)]
    obtain ⟨v, r⟩ := p19_1 (T := T) (x := x) FU 0 y (by omega) (FU_lt (by omega))
    rw [show ∀ k, l_X12_plans_k1_19 x k FU T y 0 = k T v (nI 6) from r]
    split
    · exact p83_1 T v
    · split
      · exact p83_1 T v
      · exact ⟨T, EP.rf, rfl⟩
  · rw [if_neg (show ¬ (1 : Int32) = nI sz from fun q => c (nI_inj (a := sz) (b := 1) (by omega) (by decide) q.symm))]
    obtain ⟨v, r⟩ := p130_1 (T := T) (x := x) FU 0 y (by omega) (FU_lt (by omega))
    obtain ⟨T', p1, p2⟩ := p177_1 (x := x) (y := v) hs hz (show 2 ≤ sz by omega) FU 0 T (by omega) (FU_lt (by omega)) e8 ez
    refine ⟨T', p1, ?_⟩
    rw [show ∀ k, l_X12_plans_k1_130 x k FU T y 0 = k T v (nI 6) from r]
    exact p2 _
theorem p19_0 {x : Int32} : ∀ (m i : Nat) (y : Int32), i ≤ 6 → 6 - i < m → ∃ v : Int32, ∀ k, l_X12_plans_k0_19 x k m T y (nI i) = k T v (nI 6) := by
  intro m
  induction m with
  | zero => intro i y _ hm; exact absurd hm (Nat.not_lt_zero _)
  | succ m ih =>
    intro i y hi hm
    by_cases c : i < 6
    · have lt : nI i < 6 := nI_lt (b := 6) c (by decide)
      by_cases z : ((x >>> (nI i &&& 31)) &&& 1) = 1
      · obtain ⟨v, r⟩ := ih (i + 1) (y + 8 * T.2 55 (3 * i + 20)) (by omega) (by omega)
        refine ⟨v, fun k => ?_⟩
        rw [l_X12_plans_k0_19, if_pos lt, if_pos z, ixT_0 (by omega), fb_s, fv_s, nI_1]; exact r k
      · obtain ⟨v, r⟩ := ih (i + 1) (y + 0) (by omega) (by omega)
        refine ⟨v, fun k => ?_⟩
        rw [l_X12_plans_k0_19, if_pos lt, if_neg z, fv_s, nI_1]; exact r k
    · obtain rfl : i = 6 := by omega
      refine ⟨y, fun k => ?_⟩
      rw [l_X12_plans_k0_19, if_neg (by decide)]
theorem p97_0 : ∀ (m i : Nat) (T : FS), i ≤ 0 → 0 - i < m → ∃ T' : FS, EP T T' ∧ ∀ k, l_X12_plans_k0_97 k m T (nI i) = k T' (nI 0) := by
  intro m
  induction m with
  | zero => intro i T _ hm; exact absurd hm (Nat.not_lt_zero _)
  | succ m ih =>
    intro i T hi hm
    by_cases c : i < 0
    · obtain ⟨T', r1, r2⟩ := ih (i + 1) (wA T 68 i (T.2 67 i)) (by omega) (by omega)
      refine ⟨T', (EP.wA (by omega)).tr r1, fun k => ?_⟩
      rw [l_X12_plans_k0_97, if_pos (show nI i < 0 from nI_lt (b := 0) c (by decide)), ix_nI (show i < 8 by omega) (by decide), fb_s, fl_s, nI_1]; exact r2 k
    · obtain rfl : i = 0 := by omega
      refine ⟨T, EP.rf, fun k => ?_⟩
      rw [l_X12_plans_k0_97, if_neg (by decide)]
theorem p83_0 (T : FS) (x : Int32) : ∃ T' : FS, EP T T' ∧ j_X12_plans_k0_83 x T = some (0, T') := by
  unfold j_X12_plans_k0_83
  simp only [fl_s]
  obtain ⟨T', r1, r2⟩ := p97_0 FU 0 (wI (wI T 20 1) 19 x) (by omega) (FU_lt (by omega))
  exact ⟨T', ((EP.wI (by omega)).tr (EP.wI (by omega))).tr r1, r2 _⟩
theorem p130_0 {x : Int32} : ∀ (m i : Nat) (y : Int32), i ≤ 6 → 6 - i < m → ∃ v : Int32, ∀ k, l_X12_plans_k0_130 x k m T y (nI i) = k T v (nI 6) := by
  intro m
  induction m with
  | zero => intro i y _ hm; exact absurd hm (Nat.not_lt_zero _)
  | succ m ih =>
    intro i y hi hm
    by_cases c : i < 6
    · have lt : nI i < 6 := nI_lt (b := 6) c (by decide)
      by_cases z : ((x >>> (nI i &&& 31)) &&& 1) = 1
      · obtain ⟨v, r⟩ := ih (i + 1) (y + T.2 55 (3 * i + 20)) (by omega) (by omega)
        refine ⟨v, fun k => ?_⟩
        rw [l_X12_plans_k0_130, if_pos lt, if_pos z, ixT_0 (by omega), fb_s, fv_s, nI_1]; exact r k
      · obtain ⟨v, r⟩ := ih (i + 1) (y + 0) (by omega) (by omega)
        refine ⟨v, fun k => ?_⟩
        rw [l_X12_plans_k0_130, if_pos lt, if_neg z, fv_s, nI_1]; exact r k
    · obtain rfl : i = 6 := by omega
      refine ⟨y, fun k => ?_⟩
      rw [l_X12_plans_k0_130, if_neg (by decide)]
theorem p177_0 {x y : Int32} {s sz : Nat} (hs : s < 4) (hz : sz ≤ 8) (hq : 1 ≤ sz) : ∀ (m i : Nat) (T : FS), i ≤ 7 → 7 - i < m → T.1 18 = nI s → T.2 71 s = nI sz → ∃ T' : FS, EP T T' ∧ ∀ k, l_X12_plans_k0_177 x y k m T (nI i - 1) = k T' (nI 6) := by
  intro m
  induction m with
  | zero => intro i T _ hm; exact absurd hm (Nat.not_lt_zero _)
  | succ m ih =>
    intro i T hi hm e8 ez
    have jx : ix 96 ((24 : Int32) * T.1 18 + 0) = some (24 * s + 0) := by rw [e8]; exact ix96 (i := 0) hs (by decide)
    have nx : i < 7 → ∀ (T1 : FS), EP T T1 → ∃ T' : FS, EP T T' ∧ ∀ k, l_X12_plans_k0_177 x y k m T1 (nI (i + 1) - 1) = k T' (nI 6) := fun hi7 T1 e => by
      by_cases c : i + 1 ≤ 7
      · obtain ⟨T', r1, r2⟩ := ih (i + 1) T1 c (by omega) (by rw [e.1 18 (by decide) (by decide)]; exact e8) (by rw [e.2 71 (by decide) (by decide)]; exact ez)
        exact ⟨T', e.tr r1, r2⟩
      · exact absurd hi7 (by omega)
    cases i with
    | zero =>
      have st : ∀ k, l_X12_plans_k0_177 x y k (m + 1) T (nI 0 - 1) = _ := fun k => by
        rw [l_X12_plans_k0_177, if_pos (by decide), if_pos (by decide), jx, fb_s, fv_s, show (nI 0 - 1 + 1 : Int32) = nI (0 + 1) - 1 from by decide]
      by_cases z : y - T.2 72 (24 * s + 0) + 0 < 0
      · obtain ⟨T', r1, r2⟩ := nx (by omega) T EP.rf
        exact ⟨T', r1, fun k => by rw [st, if_pos z]; exact r2 k⟩
      · obtain ⟨T1, p1, p2⟩ := pl_1 hs hz hq (wA T 67 0 (nI 0 - 1)) x (y - T.2 72 (24 * s + 0) + 0) e8 ez
        obtain ⟨T', r1, r2⟩ := nx (by omega) T1 ((EP.wA (by omega)).tr p1)
        exact ⟨T', r1, fun k => by rw [st, if_neg z, fl_s, p2, fb_s]; exact r2 k⟩
    | succ j =>
      by_cases c : j < 6
      · have lt : nI j < 6 := nI_lt (b := 6) c (by decide)
        have st : ∀ k, l_X12_plans_k0_177 x y k (m + 1) T (nI (j + 1) - 1) = _ := fun k => by
          rw [l_X12_plans_k0_177, nI_pred, if_pos lt, if_neg (nI_pos (show j < 2 ^ 31 by omega)), jx, ixT_0 (show j < 10 by omega), fb_s, fb_s, fv_s, nI_1, ← nI_pred (j + 1)]
        by_cases b : ((x >>> (nI j &&& 31)) &&& 1) = 0
        · obtain ⟨T', r1, r2⟩ := nx (by omega) T EP.rf
          exact ⟨T', r1, fun k => by rw [st, if_pos b]; exact r2 k⟩
        · by_cases z : y - T.2 72 (24 * s + 0) + 4 * T.2 55 (3 * j + 20) < 0
          · obtain ⟨T', r1, r2⟩ := nx (by omega) T EP.rf
            exact ⟨T', r1, fun k => by rw [st, if_neg b, if_pos z]; exact r2 k⟩
          · obtain ⟨T1, p1, p2⟩ := pl_1 hs hz hq (wA T 67 0 (nI j)) (x &&& (((1 : Int32) <<< (nI j &&& 31)) ^^^ (-1))) (y - T.2 72 (24 * s + 0) + 4 * T.2 55 (3 * j + 20)) e8 ez
            obtain ⟨T', r1, r2⟩ := nx (by omega) T1 ((EP.wA (by omega)).tr p1)
            exact ⟨T', r1, fun k => by rw [st, if_neg b, if_neg z, fl_s, p2, fb_s]; exact r2 k⟩
      · obtain rfl : j = 6 := by omega
        refine ⟨T, EP.rf, fun k => ?_⟩
        rw [l_X12_plans_k0_177, nI_pred, if_neg (by decide)]
theorem pl_0 {s sz : Nat} (hs : s < 4) (hz : sz ≤ 8) (hq : 0 ≤ sz) (T : FS) (x y : Int32) (e8 : T.1 18 = nI s) (ez : T.2 71 s = nI sz) : ∃ T' : FS, EP T T' ∧ f_X12_plans_k0 T x y = some (0, T') := by
  unfold f_X12_plans_k0
  rw [e8, ix_nI hs (by decide), fb_s, ez]
  by_cases c : sz = 0
  · rw [if_pos (show (0 : Int32) = nI sz by rw [c]; rfl)]
    obtain ⟨v, r⟩ := p19_0 (T := T) (x := x) FU 0 y (by omega) (FU_lt (by omega))
    rw [show ∀ k, l_X12_plans_k0_19 x k FU T y 0 = k T v (nI 6) from r]
    split
    · exact p83_0 T v
    · split
      · exact p83_0 T v
      · exact ⟨T, EP.rf, rfl⟩
  · rw [if_neg (show ¬ (0 : Int32) = nI sz from fun q => c (nI_inj (a := sz) (b := 0) (by omega) (by decide) q.symm))]
    obtain ⟨v, r⟩ := p130_0 (T := T) (x := x) FU 0 y (by omega) (FU_lt (by omega))
    obtain ⟨T', p1, p2⟩ := p177_0 (x := x) (y := v) hs hz (show 1 ≤ sz by omega) FU 0 T (by omega) (FU_lt (by omega)) e8 ez
    refine ⟨T', p1, ?_⟩
    rw [show ∀ k, l_X12_plans_k0_130 x k FU T y 0 = k T v (nI 6) from r]
    exact p2 _
theorem p68_l {s sz : Nat} (hs : s < 4) (hz : sz ≤ 24) (ez : T.2 71 s = nI sz) : ∀ (m i : Nat) (v : Int32), i ≤ sz → sz - i < m → ∃ v' : Int32, (v = 0 → v' = 0) ∧ ∀ k, l_X12_plan_68 (nI s) k m T v (nI i) = k T v' (nI sz) := by
  intro m
  induction m with
  | zero => intro i v _ hm; exact absurd hm (Nat.not_lt_zero _)
  | succ m ih =>
    intro i v hi hm
    have e4 := ix_nI hs (show 4 ≤ 2 ^ 31 by decide)
    by_cases c : i < sz
    · obtain ⟨v0, p1, p2⟩ := ih (i + 1) 0 (by omega) (by omega)
      obtain ⟨v1, q1, q2⟩ := ih (i + 1) 1 (by omega) (by omega)
      by_cases z : v = 0
      · refine ⟨v0, fun _ => p1 rfl, fun k => ?_⟩
        rw [l_X12_plan_68, e4, fb_s, ez, if_pos (nI_lt c (by omega)), if_pos z, nI_1]; exact p2 k
      · by_cases y : p_X12_in T (T.2 72 (24 * s + i)) 0 9999 = 0
        · refine ⟨v0, fun _ => p1 rfl, fun k => ?_⟩
          rw [l_X12_plan_68, e4, fb_s, ez, if_pos (nI_lt c (by omega)), if_neg z, ix96 hs (show i < 24 by omega), fb_s, if_pos y, nI_1]; exact p2 k
        · refine ⟨v1, fun q => absurd q z, fun k => ?_⟩
          rw [l_X12_plan_68, e4, fb_s, ez, if_pos (nI_lt c (by omega)), if_neg z, ix96 hs (show i < 24 by omega), fb_s, if_neg y, nI_1]; exact q2 k
    · obtain rfl : i = sz := by omega
      refine ⟨v, fun q => q, fun k => ?_⟩
      rw [l_X12_plan_68, e4, fb_s, ez, if_neg (nI_nlt (Nat.le_refl _) (by omega))]
theorem p133_l (h : RelR K S (T.2 55)) : ∀ (m i : Nat) (x : Int32), i ≤ 6 → 6 - i < m → ∃ v y : Int32, ∀ k, l_X12_plan_133 k m T x (nI i) = k T v y := by
  intro m
  induction m with
  | zero => intro i x _ hm; exact absurd hm (Nat.not_lt_zero _)
  | succ m ih =>
    intro i x hi hm
    by_cases c : i < 6
    · have lt : nI i < 6 := nI_lt (b := 6) c (by decide)
      by_cases a : nI i < T.2 55 0
      · obtain ⟨v0, y0, p⟩ := ih (i + 1) (x ||| 0) (by omega) (by omega)
        obtain ⟨v1, y1, q⟩ := ih (i + 1) (x ||| ((1 : Int32) <<< (nI i &&& 31))) (by omega) (by omega)
        by_cases b : T.2 55 (3 * i + 21) = -1
        · by_cases d : T.2 55 (3 * i + 22) = 0
          · refine ⟨v1, y1, fun k => ?_⟩
            rw [l_X12_plan_133, if_pos lt, if_pos a, ixT_1 (by omega), fb_s, if_pos b, ixT_2 (by omega), fb_s, if_pos d, fv_s, nI_1]; exact q k
          · refine ⟨v0, y0, fun k => ?_⟩
            rw [l_X12_plan_133, if_pos lt, if_pos a, ixT_1 (by omega), fb_s, if_pos b, ixT_2 (by omega), fb_s, if_neg d, fv_s, nI_1]; exact p k
        · refine ⟨v0, y0, fun k => ?_⟩
          rw [l_X12_plan_133, if_pos lt, if_pos a, ixT_1 (by omega), fb_s, if_neg b, fv_s, nI_1]; exact p k
      · refine ⟨x, nI i, fun k => ?_⟩
        rw [l_X12_plan_133, if_pos lt, if_neg a]
    · obtain rfl : i = 6 := by omega
      refine ⟨x, nI 6, fun k => ?_⟩
      rw [l_X12_plan_133, if_neg (by decide)]
def EPP (T T' : FS) : Prop := (∀ k : Nat, k ≠ 18 → k ≠ 19 → k ≠ 20 → T'.1 k = T.1 k) ∧ ∀ a : Nat, a ≠ 67 → a ≠ 68 → T'.2 a = T.2 a
theorem EPP.me {A B : FS} (h : EPP A B) : ME A B := ⟨⟨⟨h.2 _ (by decide) (by decide), h.2 _ (by decide) (by decide), h.2 _ (by decide) (by decide), h.2 _ (by decide) (by decide), h.2 _ (by decide) (by decide)⟩, h.1 _ (by decide) (by decide) (by decide), h.1 _ (by decide) (by decide) (by decide)⟩, h.2 _ (by decide) (by decide)⟩
theorem planM (h : RelR K S (T.2 55)) (hx : RX S T) : ∃ (v : Int32) (T' : FS), ME T T' ∧ f_X12_plan T za zb = some (v, T') := by
  have td1 : ∃ (v : Int32) (T' : FS), ME T T' ∧ f_X12_finds T 1 = some (v, T') := by
    obtain ⟨T2, f1, f2⟩ := finds_1 T
    exact ⟨_, T2, f2, f1⟩
  unfold f_X12_plan
  simp only [fb_id]
  rcases sh_c S T za with ⟨a1, a2⟩ | ⟨s, hs, rfl, a1, a2, a3, a4, a5⟩
  · rw [if_pos a2]; exact td1
  · obtain ⟨⟨y1, y2⟩, ⟨sz, y3, y4⟩, y5⟩ := hx.1 s hs
    rw [if_neg (show ¬ p_X12_isSheet T (nI s) = 0 by rw [a2]; decide), a3, fb_s, y4]
    by_cases c0 : T.2 70 s = 0
    · rw [if_pos c0]
      obtain ⟨T2, f1, f2⟩ := finds_2 T
      exact ⟨_, T2, f2, f1⟩
    · rw [if_neg c0]
      have go : ∀ v : Int32, (v = 0 ∨ (p_X12_in T (nI sz) 1 8 ≠ 0 ∧ p_X12_in T zb (-1) (nI sz - 1) ≠ 0)) → ∃ (v' : Int32) (T' : FS), ME T T' ∧ j_X12_plan_65 (nI s) zb T v = some (v', T') := by
        intro v hv
        unfold j_X12_plan_65
        simp only [fb_id]
        obtain ⟨v', p1, p2⟩ := p68_l hs (show sz ≤ 24 by omega) y4 FU 0 v (by omega) (FU_lt (by omega))
        show ∃ (v' : Int32) (T' : FS), ME T T' ∧ l_X12_plan_68 (nI s) _ FU T v (nI 0) = some (v', T')
        rw [p2]
        by_cases z : v' = 0
        · rw [if_pos z]; exact td1
        · rw [if_neg z]
          rcases hv with hv | ⟨q1, q2⟩
          · exact absurd (p1 hv) z
          · rcases out_c (nI sz) 1 8 with ⟨o1, o2⟩ | ⟨o1, o2⟩
            · obtain ⟨k, hk, ek⟩ := out_n 1 8 rfl rfl (by decide) (by decide) o1
              have s8 : sz = k := nI_inj (by omega) (by omega) ek
              obtain ⟨x, y, r⟩ := p133_l h FU 0 0 (by omega) (FU_lt (by omega))
              show ∃ (v' : Int32) (T' : FS), ME T T' ∧ l_X12_plan_133 _ FU T 0 (nI 0) = some (v', T')
              rw [r]
              simp only [fl_s]
              obtain ⟨T1, t1, t2⟩ := pl_0 hs (show sz ≤ 8 by omega) (Nat.zero_le _) (wI (wI T 18 (nI s)) 20 0) x ((wI (wI T 18 (nI s)) 20 0).2 55 9) rfl y4
              have ep : EPP T T1 := ⟨fun k k1 k2 k3 => by rw [t1.1 k k2 k3, wI_n k3, wI_n k1], t1.2⟩
              rw [t2, fb_s]
              split
              · obtain ⟨T2, f1, f2⟩ := finds_3 T1
                exact ⟨_, T2, ep.me.tr f2, f1⟩
              · by_cases z2 : zb < 0
                · rw [if_pos z2]; exact ⟨_, T1, ep.me, rfl⟩
                · rw [if_neg z2]
                  obtain ⟨a, ha, rfl⟩ := nI_of z2
                  have a8 : a < 8 := by
                    have q : ¬ nI sz - 1 < nI a := fun z3 => q2 (by unfold p_X12_in; rw [if_neg (fun q => nI_pos ha (Int32.lt_trans q (by decide))), if_pos z3])
                    obtain ⟨n, rfl⟩ : ∃ n : Nat, sz = n + 1 := ⟨sz - 1, by omega⟩
                    rw [nI_pred] at q
                    have : a ≤ n := by
                      apply Classical.byContradiction
                      intro q3; exact q (nI_lt (by omega) ha)
                    omega
                  rw [ix_nI a8 (by decide), fb_s]; exact ⟨_, T1, ep.me, rfl⟩
            · exact absurd (o2 T) q1
      by_cases c1 : p_X12_in T (nI sz) 1 8 = 0
      · rw [if_pos c1]; exact go 0 (Or.inl rfl)
      · rw [if_neg c1]
        by_cases c2 : p_X12_in T zb (-1) (nI sz - 1) = 0
        · rw [if_pos c2]; exact go 0 (Or.inl rfl)
        · rw [if_neg c2]; exact go 1 (Or.inr ⟨c1, c2⟩)
theorem op_plan (h : RelR K S (T.2 55)) (hx : RX S T) : OK1 S T (f_X11_plan S za zb) (f_X12_plan T za zb) := by
  obtain ⟨v, S', a1, a2⟩ := planC (za := za) (zb := zb) hx
  obtain ⟨w, T', b1, b2⟩ := planM (za := za) (zb := zb) h hx
  exact ⟨v, w, S', T', a2, b2, ⟨K, by rw [b1.2]; exact h.ce a1⟩, a1.1, b1.1⟩
end PLA
end
section
/-! ===== pure: feed ===== -/
section FEE
variable {K : Nat → Nat} {S T : FS}
def fB (x : Int64) (i : Nat) : Int32 := ((x.toUInt64 >>> (((8 : Int32) * nI i).toInt64.toUInt64 &&& Int64.toUInt64 63)).toInt64).toInt32 &&& 255
def mBy (x : Int64) (i : Nat) : Int32 := ((x >>> (((8 : Int32) * nI i).toInt64 &&& 63)) &&& 255).toInt32
theorem bit_lo : ∀ j : Fin 8, (255#32).getLsbD j.val = true ∧ (255#64).getLsbD j.val = true := by decide
theorem bit_hi : ∀ j : Fin 32, 8 ≤ j.val → (255#32).getLsbD j.val = false ∧ (255#64).getLsbD j.val = false := by decide
theorem bvk (b : BitVec 64) (k : Nat) (hk : k ≤ 56) : ((b >>> k).signExtend 32) &&& 255#32 = ((b.sshiftRight k) &&& 255#64).signExtend 32 := by
  apply BitVec.eq_of_getLsbD_eq
  intro j hj
  rw [BitVec.getLsbD_and, BitVec.getLsbD_signExtend, BitVec.getLsbD_signExtend, if_pos (show j < 64 by omega), if_pos (show j < 64 by omega), BitVec.getLsbD_and, BitVec.getLsbD_ushiftRight, BitVec.getLsbD_sshiftRight]
  by_cases c : j < 8
  · have e := bit_lo ⟨j, c⟩
    rw [if_pos (show k + j < 64 by omega), show (255#32).getLsbD j = true from e.1, show (255#64).getLsbD j = true from e.2, decide_eq_false (show ¬ 64 ≤ j by omega), decide_eq_true hj]
    cases b.getLsbD (k + j) <;> rfl
  · have e := bit_hi ⟨j, hj⟩ (by show 8 ≤ j; omega)
    rw [show (255#32).getLsbD j = false from e.1, show (255#64).getLsbD j = false from e.2, Bool.and_false, Bool.and_false, Bool.and_false]
theorem fb1 (x : Int64) (s : UInt64) (k : Nat) (hs : (s.toBitVec % 64).toNat = k) : (((x.toUInt64 >>> s).toInt64).toInt32 &&& 255).toBitVec = ((x.toBitVec >>> k).signExtend 32) &&& 255#32 := by
  subst hs; rfl
theorem mb1 (x s : Int64) (k : Nat) (hs : (s.toBitVec.smod 64).toNat = k) : (((x >>> s) &&& 255).toInt32).toBitVec = ((x.toBitVec.sshiftRight k) &&& 255#64).signExtend 32 := by
  subst hs; rfl
theorem fbs8 : ∀ i : Fin 8, ((((8 : Int32) * nI i.val).toInt64.toUInt64 &&& Int64.toUInt64 63).toBitVec % 64).toNat = 8 * i.val := by decide +kernel
theorem mbs8 : ∀ i : Fin 8, ((((8 : Int32) * nI i.val).toInt64 &&& 63).toBitVec.smod 64).toNat = 8 * i.val := by decide +kernel
theorem fB_mBy (x : Int64) (i : Nat) (h : i < 8) : fB x i = mBy x i := by
  apply Int32.toBitVec_inj.mp
  unfold fB mBy
  exact (fb1 x _ (8 * i) (fbs8 ⟨i, h⟩)).trans ((bvk _ _ (by omega)).trans (mb1 x _ (8 * i) (mbs8 ⟨i, h⟩)).symm)
theorem feed_l {x : Int64} {c : Nat} (hc : c ≤ 8) : ∀ (m i : Nat) (K : Nat → Nat) (S T : FS), i ≤ c → c - i < m → K 10 + (c - i) ≤ 60 → RelR K S (T.2 55) → ∃ (K' : Nat → Nat) (S' T' : FS), RelR K' S' (T'.2 55) ∧ CX S S' ∧ MX T T' ∧ (∀ k, l_X11_feed_44 x (nI c) k m S (nI i) = k S' (nI c)) ∧ ∀ k, l_X12_feed_39 x (nI c) k m T (nI i) = k T' (nI c) := by
  intro m
  induction m with
  | zero => intro i K S T _ hm; exact absurd hm (Nat.not_lt_zero _)
  | succ m ih =>
    intro i K S T hi hm hb h
    by_cases ci : i < c
    · have lt := nI_lt ci (show c < 2 ^ 31 by omega)
      obtain ⟨k1, k2, c10⟩ := h.ct 24 10 60 (by decide)
      have u60 : K 10 < 60 := by omega
      have ap : fApp 24 60 1 S (fB x i) = some (nI (K 10), (ui S.1 24 (nI (K 10 + 1)), ua S.2 25 (pm_apf 1 (K 10) (fB x i) (S.2 25)))) := fApp_f k1 u60 (by decide)
      have jx : ix 2071 ((1991 : Int32) + nI (K 10)) = some (K 10 + 1991) := by
        rw [show (1991 : Int32) + nI (K 10) = nI (K 10 + 1991) from (nI_add 1991 (K 10)).trans (congrArg nI (by omega))]; exact ix_nI (by omega) (by decide)
      have e10 : (wA T 55 (K 10 + 1991) (fB x i)).2 55 10 = nI (K 10) := by rw [wA_e, pk_un (by omega), k2]
      have h2 : RelR (kU K 10 (K 10 + 1)) (ui S.1 24 (nI (K 10 + 1)), ua S.2 25 (pm_apf 1 (K 10) (fB x i) (S.2 25))) ((wA (wA T 55 (K 10 + 1991) (fB x i)) 55 10 (nI (K 10 + 1))).2 55) := by
        simp only [wA_e]
        refine h.onA_10 (CQ.rf.app (by decide) (by decide) (by decide) (by decide)) ((NQ.rf.w (Or.inl (by omega))).w (Or.inr (Or.inr rfl))) (fun j hj => kU_n hj) (by rw [kU_e]; omega) ?_ (onct 24 10 60 (by decide) ?_ ?_ (by rw [kU_e]; omega)) ?_ (by simp (disch := omega) only [pk_un])
        · show ui S.1 24 (nI (K 10 + 1)) 103 = _
          rw [ui_ne (by decide), pk_un (by omega), pk_un (by omega)]; exact h.1.2
        · rw [kU_e]; exact (ui_eq : ui S.1 24 (nI (K 10 + 1)) 24 = _)
        · rw [kU_e, pk_us]
        · show RTa _ (ua S.2 25 (pm_apf 1 (K 10) (fB x i) (S.2 25)) 25) _
          rw [ua_eq]
          intro j hj
          rw [kU_e] at hj
          rw [pk_un (by omega)]
          by_cases z : j = K 10
          · subst z
            rw [apf_0 (by omega) (by decide), pk_us]
            obtain ⟨q, q1, q2⟩ := pk_andE (((x.toUInt64 >>> (((8 : Int32) * nI i).toInt64.toUInt64 &&& Int64.toUInt64 63)).toInt64).toInt32) (m := 255) 8 (by decide)
            exact ⟨rfl, q, by omega, q2⟩
          · rw [apf_o (by omega), pk_un (by omega)]; exact h.ta j (by omega)
      obtain ⟨K', S', T', r1, r2, r3, r4, r5⟩ := ih (i + 1) _ _ _ (by omega) (by omega) (by rw [kU_e]; omega) h2
      refine ⟨K', S', T', r1, CX.tr (CQ.rf.app (as := [25]) (s := 24) (a := 25) (by decide) (by decide) (by decide) (by decide)).1 r2, MX.tr ⟨⟨rfl, rfl, rfl, rfl, rfl⟩, rfl, rfl⟩ r3, fun k => ?_, fun k => ?_⟩
      · rw [l_X11_feed_44, if_pos lt]
        show fb (fApp 24 60 1 S (fB x i)) _ = _
        rw [ap, fb_s, nI_1]; exact r4 k
      · rw [l_X12_feed_39, if_pos lt, k2, jx, fb_s]
        show fl (wA T 55 (K 10 + 1991) (mBy x i)) _ = _
        rw [← fB_mBy x i (by omega), fl_s, fl_s, e10, nI_1, nI_1]; exact r5 k
    · obtain rfl : i = c := by omega
      refine ⟨K, S, T, h, CX.rf, MX.rf, fun k => ?_, fun k => ?_⟩
      · rw [l_X11_feed_44, if_neg (nI_nlt (Nat.le_refl _) (by omega))]
      · rw [l_X12_feed_39, if_neg (nI_nlt (Nat.le_refl _) (by omega))]
theorem op_feed {za : Int64} {zb : Int32} (h : RelR K S (T.2 55)) : OK2 S T (f_X11_feed S za zb) (f_X12_feed T za zb) := by
  unfold f_X11_feed f_X12_feed
  simp only [fb_id]
  obtain ⟨k1, k2, c10⟩ := h.ct 24 10 60 (by decide)
  rcases out_c zb 1 8 with ⟨b1, b2⟩ | ⟨b1, b2⟩
  · obtain ⟨c, hc, rfl⟩ := out_n 1 8 rfl rfl (by decide) (by decide) b1
    simp only [b1, b2, i10, k1, k2, nI_add, ↓reduceIte]
    by_cases z : 60 < K 10 + c
    · have z' : (60 : Int32) < nI (K 10 + c) := nI_lt (a := 60) z (by omega)
      rw [if_pos z', if_pos z']; exact ok_4 h
    · have z' : ¬ (60 : Int32) < nI (K 10 + c) := nI_nlt (a := 60) (by omega) (by decide)
      rw [if_neg z', if_neg z']
      obtain ⟨K', S', T', r1, r2, r3, r4, r5⟩ := feed_l (x := za) (c := c) hc.2 FU 0 K S T (Nat.zero_le _) (FU_lt (by omega)) (by omega) h
      rw [show ∀ k, l_X11_feed_44 za (nI c) k FU S 0 = k S' (nI c) from r4, show ∀ k, l_X12_feed_39 za (nI c) k FU T 0 = k T' (nI c) from r5]
      obtain ⟨y1, y2, -⟩ := r1.ct 24 10 60 (by decide)
      rw [y1, y2]
      exact ok0 r1 r2 r3
  · simp only [b1, b2, ↓reduceIte]
    rw [if_neg (by decide)]; exact ok_1 h
end FEE
end
