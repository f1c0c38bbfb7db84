/-! ===== pure: buying (both answer) ===== -/
section BUY
variable {K : Nat → Nat} {S T : FS} {za zb zc zd ze : Int32}
theorem keep_t (S : FS) (a b : Int32) : ∃ S' : FS, EW S S' ∧ f_X0_keepIfBetter S a b = some (0, S') := by
  unfold f_X0_keepIfBetter
  rw [fv_s]
  simp only [fl_s]
  repeat' split
  all_goals first | exact ⟨_, EW.rf, rfl⟩ | exact ⟨_, (EW.wI (by omega)).tr (EW.wI (by omega)), rfl⟩
theorem ch9 (S : FS) (a b c : Int32) : ∃ S' : FS, EW S S' ∧ f_X0_choose_k9 S a b c = some (0, S') := by
  unfold f_X0_choose_k9
  split
  · exact ⟨S, EW.rf, rfl⟩
  · split
    · exact ⟨S, EW.rf, rfl⟩
    · obtain ⟨S1, p1, p2⟩ := keep_t S a b
      rw [p2, fb_s]; exact ⟨S1, p1, rfl⟩
theorem ch8 (S : FS) (a b c : Int32) : ∃ S' : FS, EW S S' ∧ f_X0_choose_k8 S a b c = some (0, S') := by
  unfold f_X0_choose_k8
  split
  · exact ⟨S, EW.rf, rfl⟩
  · split
    · split
      · exact ⟨S, EW.rf, rfl⟩
      · obtain ⟨S1, p1, p2⟩ := ch9 S a b c
        obtain ⟨S2, q1, q2⟩ := ch9 S1 (a ||| ((1 : Int32) <<< (fG 34 9 1 S 8 0 &&& 31))) (b + (fG 6 20 14 S1 (fG 34 9 1 S 8 0) 12)) (c + (fG 32 20 1 S1 (fG 34 9 1 S 8 0) 0))
        simp only [fv_s, p2, fb_s, q2]; exact ⟨S2, p1.tr q1, rfl⟩
    · obtain ⟨S0, r1, r2⟩ := keep_t S a b
      rw [r2, fb_s]
      split
      · exact ⟨S0, r1, rfl⟩
      · obtain ⟨S1, p1, p2⟩ := ch9 S0 a b c
        obtain ⟨S2, q1, q2⟩ := ch9 S1 (a ||| ((1 : Int32) <<< (fG 34 9 1 S0 8 0 &&& 31))) (b + (fG 6 20 14 S1 (fG 34 9 1 S0 8 0) 12)) (c + (fG 32 20 1 S1 (fG 34 9 1 S0 8 0) 0))
        simp only [fv_s, p2, fb_s, q2]; exact ⟨S2, (r1.tr p1).tr q1, rfl⟩
theorem ch7 (S : FS) (a b c : Int32) : ∃ S' : FS, EW S S' ∧ f_X0_choose_k7 S a b c = some (0, S') := by
  unfold f_X0_choose_k7
  split
  · exact ⟨S, EW.rf, rfl⟩
  · split
    · split
      · exact ⟨S, EW.rf, rfl⟩
      · obtain ⟨S1, p1, p2⟩ := ch8 S a b c
        obtain ⟨S2, q1, q2⟩ := ch8 S1 (a ||| ((1 : Int32) <<< (fG 34 9 1 S 7 0 &&& 31))) (b + (fG 6 20 14 S1 (fG 34 9 1 S 7 0) 12)) (c + (fG 32 20 1 S1 (fG 34 9 1 S 7 0) 0))
        simp only [fv_s, p2, fb_s, q2]; exact ⟨S2, p1.tr q1, rfl⟩
    · obtain ⟨S0, r1, r2⟩ := keep_t S a b
      rw [r2, fb_s]
      split
      · exact ⟨S0, r1, rfl⟩
      · obtain ⟨S1, p1, p2⟩ := ch8 S0 a b c
        obtain ⟨S2, q1, q2⟩ := ch8 S1 (a ||| ((1 : Int32) <<< (fG 34 9 1 S0 7 0 &&& 31))) (b + (fG 6 20 14 S1 (fG 34 9 1 S0 7 0) 12)) (c + (fG 32 20 1 S1 (fG 34 9 1 S0 7 0) 0))
        simp only [fv_s, p2, fb_s, q2]; exact ⟨S2, (r1.tr p1).tr q1, rfl⟩
theorem ch6 (S : FS) (a b c : Int32) : ∃ S' : FS, EW S S' ∧ f_X0_choose_k6 S a b c = some (0, S') := by
  unfold f_X0_choose_k6
  split
  · exact ⟨S, EW.rf, rfl⟩
  · split
    · split
      · exact ⟨S, EW.rf, rfl⟩
      · obtain ⟨S1, p1, p2⟩ := ch7 S a b c
        obtain ⟨S2, q1, q2⟩ := ch7 S1 (a ||| ((1 : Int32) <<< (fG 34 9 1 S 6 0 &&& 31))) (b + (fG 6 20 14 S1 (fG 34 9 1 S 6 0) 12)) (c + (fG 32 20 1 S1 (fG 34 9 1 S 6 0) 0))
        simp only [fv_s, p2, fb_s, q2]; exact ⟨S2, p1.tr q1, rfl⟩
    · obtain ⟨S0, r1, r2⟩ := keep_t S a b
      rw [r2, fb_s]
      split
      · exact ⟨S0, r1, rfl⟩
      · obtain ⟨S1, p1, p2⟩ := ch7 S0 a b c
        obtain ⟨S2, q1, q2⟩ := ch7 S1 (a ||| ((1 : Int32) <<< (fG 34 9 1 S0 6 0 &&& 31))) (b + (fG 6 20 14 S1 (fG 34 9 1 S0 6 0) 12)) (c + (fG 32 20 1 S1 (fG 34 9 1 S0 6 0) 0))
        simp only [fv_s, p2, fb_s, q2]; exact ⟨S2, (r1.tr p1).tr q1, rfl⟩
theorem ch5 (S : FS) (a b c : Int32) : ∃ S' : FS, EW S S' ∧ f_X0_choose_k5 S a b c = some (0, S') := by
  unfold f_X0_choose_k5
  split
  · exact ⟨S, EW.rf, rfl⟩
  · split
    · split
      · exact ⟨S, EW.rf, rfl⟩
      · obtain ⟨S1, p1, p2⟩ := ch6 S a b c
        obtain ⟨S2, q1, q2⟩ := ch6 S1 (a ||| ((1 : Int32) <<< (fG 34 9 1 S 5 0 &&& 31))) (b + (fG 6 20 14 S1 (fG 34 9 1 S 5 0) 12)) (c + (fG 32 20 1 S1 (fG 34 9 1 S 5 0) 0))
        simp only [fv_s, p2, fb_s, q2]; exact ⟨S2, p1.tr q1, rfl⟩
    · obtain ⟨S0, r1, r2⟩ := keep_t S a b
      rw [r2, fb_s]
      split
      · exact ⟨S0, r1, rfl⟩
      · obtain ⟨S1, p1, p2⟩ := ch6 S0 a b c
        obtain ⟨S2, q1, q2⟩ := ch6 S1 (a ||| ((1 : Int32) <<< (fG 34 9 1 S0 5 0 &&& 31))) (b + (fG 6 20 14 S1 (fG 34 9 1 S0 5 0) 12)) (c + (fG 32 20 1 S1 (fG 34 9 1 S0 5 0) 0))
        simp only [fv_s, p2, fb_s, q2]; exact ⟨S2, (r1.tr p1).tr q1, rfl⟩
theorem ch4 (S : FS) (a b c : Int32) : ∃ S' : FS, EW S S' ∧ f_X0_choose_k4 S a b c = some (0, S') := by
  unfold f_X0_choose_k4
  split
  · exact ⟨S, EW.rf, rfl⟩
  · split
    · split
      · exact ⟨S, EW.rf, rfl⟩
      · obtain ⟨S1, p1, p2⟩ := ch5 S a b c
        obtain ⟨S2, q1, q2⟩ := ch5 S1 (a ||| ((1 : Int32) <<< (fG 34 9 1 S 4 0 &&& 31))) (b + (fG 6 20 14 S1 (fG 34 9 1 S 4 0) 12)) (c + (fG 32 20 1 S1 (fG 34 9 1 S 4 0) 0))
        simp only [fv_s, p2, fb_s, q2]; exact ⟨S2, p1.tr q1, rfl⟩
    · obtain ⟨S0, r1, r2⟩ := keep_t S a b
      rw [r2, fb_s]
      split
      · exact ⟨S0, r1, rfl⟩
      · obtain ⟨S1, p1, p2⟩ := ch5 S0 a b c
        obtain ⟨S2, q1, q2⟩ := ch5 S1 (a ||| ((1 : Int32) <<< (fG 34 9 1 S0 4 0 &&& 31))) (b + (fG 6 20 14 S1 (fG 34 9 1 S0 4 0) 12)) (c + (fG 32 20 1 S1 (fG 34 9 1 S0 4 0) 0))
        simp only [fv_s, p2, fb_s, q2]; exact ⟨S2, (r1.tr p1).tr q1, rfl⟩
theorem ch3 (S : FS) (a b c : Int32) : ∃ S' : FS, EW S S' ∧ f_X0_choose_k3 S a b c = some (0, S') := by
  unfold f_X0_choose_k3
  split
  · exact ⟨S, EW.rf, rfl⟩
  · split
    · split
      · exact ⟨S, EW.rf, rfl⟩
      · obtain ⟨S1, p1, p2⟩ := ch4 S a b c
        obtain ⟨S2, q1, q2⟩ := ch4 S1 (a ||| ((1 : Int32) <<< (fG 34 9 1 S 3 0 &&& 31))) (b + (fG 6 20 14 S1 (fG 34 9 1 S 3 0) 12)) (c + (fG 32 20 1 S1 (fG 34 9 1 S 3 0) 0))
        simp only [fv_s, p2, fb_s, q2]; exact ⟨S2, p1.tr q1, rfl⟩
    · obtain ⟨S0, r1, r2⟩ := keep_t S a b
      rw [r2, fb_s]
      split
      · exact ⟨S0, r1, rfl⟩
      · obtain ⟨S1, p1, p2⟩ := ch4 S0 a b c
        obtain ⟨S2, q1, q2⟩ := ch4 S1 (a ||| ((1 : Int32) <<< (fG 34 9 1 S0 3 0 &&& 31))) (b + (fG 6 20 14 S1 (fG 34 9 1 S0 3 0) 12)) (c + (fG 32 20 1 S1 (fG 34 9 1 S0 3 0) 0))
        simp only [fv_s, p2, fb_s, q2]; exact ⟨S2, (r1.tr p1).tr q1, rfl⟩
theorem ch2 (S : FS) (a b c : Int32) : ∃ S' : FS, EW S S' ∧ f_X0_choose_k2 S a b c = some (0, S') := by
  unfold f_X0_choose_k2
  split
  · exact ⟨S, EW.rf, rfl⟩
  · split
    · split
      · exact ⟨S, EW.rf, rfl⟩
      · obtain ⟨S1, p1, p2⟩ := ch3 S a b c
        obtain ⟨S2, q1, q2⟩ := ch3 S1 (a ||| ((1 : Int32) <<< (fG 34 9 1 S 2 0 &&& 31))) (b + (fG 6 20 14 S1 (fG 34 9 1 S 2 0) 12)) (c + (fG 32 20 1 S1 (fG 34 9 1 S 2 0) 0))
        simp only [fv_s, p2, fb_s, q2]; exact ⟨S2, p1.tr q1, rfl⟩
    · obtain ⟨S0, r1, r2⟩ := keep_t S a b
      rw [r2, fb_s]
      split
      · exact ⟨S0, r1, rfl⟩
      · obtain ⟨S1, p1, p2⟩ := ch3 S0 a b c
        obtain ⟨S2, q1, q2⟩ := ch3 S1 (a ||| ((1 : Int32) <<< (fG 34 9 1 S0 2 0 &&& 31))) (b + (fG 6 20 14 S1 (fG 34 9 1 S0 2 0) 12)) (c + (fG 32 20 1 S1 (fG 34 9 1 S0 2 0) 0))
        simp only [fv_s, p2, fb_s, q2]; exact ⟨S2, (r1.tr p1).tr q1, rfl⟩
theorem ch1 (S : FS) (a b c : Int32) : ∃ S' : FS, EW S S' ∧ f_X0_choose_k1 S a b c = some (0, S') := by
  unfold f_X0_choose_k1
  split
  · exact ⟨S, EW.rf, rfl⟩
  · split
    · split
      · exact ⟨S, EW.rf, rfl⟩
      · obtain ⟨S1, p1, p2⟩ := ch2 S a b c
        obtain ⟨S2, q1, q2⟩ := ch2 S1 (a ||| ((1 : Int32) <<< (fG 34 9 1 S 1 0 &&& 31))) (b + (fG 6 20 14 S1 (fG 34 9 1 S 1 0) 12)) (c + (fG 32 20 1 S1 (fG 34 9 1 S 1 0) 0))
        simp only [fv_s, p2, fb_s, q2]; exact ⟨S2, p1.tr q1, rfl⟩
    · obtain ⟨S0, r1, r2⟩ := keep_t S a b
      rw [r2, fb_s]
      split
      · exact ⟨S0, r1, rfl⟩
      · obtain ⟨S1, p1, p2⟩ := ch2 S0 a b c
        obtain ⟨S2, q1, q2⟩ := ch2 S1 (a ||| ((1 : Int32) <<< (fG 34 9 1 S0 1 0 &&& 31))) (b + (fG 6 20 14 S1 (fG 34 9 1 S0 1 0) 12)) (c + (fG 32 20 1 S1 (fG 34 9 1 S0 1 0) 0))
        simp only [fv_s, p2, fb_s, q2]; exact ⟨S2, (r1.tr p1).tr q1, rfl⟩
theorem ch0 (S : FS) (a b c : Int32) : ∃ S' : FS, EW S S' ∧ f_X0_choose_k0 S a b c = some (0, S') := by
  unfold f_X0_choose_k0
  split
  · exact ⟨S, EW.rf, rfl⟩
  · split
    · split
      · exact ⟨S, EW.rf, rfl⟩
      · obtain ⟨S1, p1, p2⟩ := ch1 S a b c
        obtain ⟨S2, q1, q2⟩ := ch1 S1 (a ||| ((1 : Int32) <<< (fG 34 9 1 S 0 0 &&& 31))) (b + (fG 6 20 14 S1 (fG 34 9 1 S 0 0) 12)) (c + (fG 32 20 1 S1 (fG 34 9 1 S 0 0) 0))
        simp only [fv_s, p2, fb_s, q2]; exact ⟨S2, p1.tr q1, rfl⟩
    · obtain ⟨S0, r1, r2⟩ := keep_t S a b
      rw [r2, fb_s]
      split
      · exact ⟨S0, r1, rfl⟩
      · obtain ⟨S1, p1, p2⟩ := ch1 S0 a b c
        obtain ⟨S2, q1, q2⟩ := ch1 S1 (a ||| ((1 : Int32) <<< (fG 34 9 1 S0 0 0 &&& 31))) (b + (fG 6 20 14 S1 (fG 34 9 1 S0 0 0) 12)) (c + (fG 32 20 1 S1 (fG 34 9 1 S0 0 0) 0))
        simp only [fv_s, p2, fb_s, q2]; exact ⟨S2, (r1.tr p1).tr q1, rfl⟩
theorem RelR.cheap (h : RelR K S (T.2 55)) (x : Int32) : ∃ (v : Int32) (S' : FS), EW S S' ∧ f_X0_findCheapest S x = some (v, S') := by
  unfold f_X0_findCheapest
  obtain ⟨S1, a1, a2, -⟩ := h.weiC x
  simp only [a2, fb_s, fl_s]
  obtain ⟨S2, b1, b2⟩ := ch0 (wI (wI S1 109 1000000) 110 0) 0 0 0
  rw [b2, fb_s]
  have e := (a1.tr ((EW.wI (k := 109) (v := 1000000) (by omega)).tr (EW.wI (k := 110) (v := 0) (by omega)))).tr b1
  split
  · exact ⟨_, S2, e, rfl⟩
  · exact ⟨_, S2, e, rfl⟩
theorem cnt_le {p : Nat → Bool} : ∀ (d i : Nat), pm_cnt p i ≤ pm_cnt p (i + d)
  | 0, i => Nat.le_refl _
  | d + 1, i => by
    have := cnt_le (p := p) d i
    rw [show i + (d + 1) = (i + d) + 1 by omega, cnt_s]; omega
theorem buyers_l (h : RelR K S (T.2 55)) : ∀ (m i u : Nat) (w : Nat → Int32), i ≤ K 2 → K 2 - i < m → u ≤ sc (T.2 55) i → (∀ j : Nat, j < u → ∃ q : Nat, q < K 2 ∧ w j = nI q) → ∃ (u' : Nat) (w' : Nat → Int32), u' ≤ 9 ∧ (∀ j : Nat, j < u' → ∃ q : Nat, q < K 2 ∧ w' j = nI q) ∧ ∀ k, l_X12_buying_40 k m T (nI u) (nI i) w = k T (nI u') (nI (K 2)) w' := by
  obtain ⟨k1, k2, c2⟩ := h.ct 6 2 20 (by decide)
  have s9 : sc (T.2 55) (K 2) ≤ 9 := h.se.1
  intro m
  induction m with
  | zero => intro i u w _ hm; exact absurd hm (Nat.not_lt_zero _)
  | succ m ih =>
    intro i u w hi hm hu hw
    by_cases c : i < K 2
    · have i20 : i < 20 := by omega
      have lt := nI_lt c (show K 2 < 2 ^ 31 by omega)
      obtain ⟨v, hv, ev⟩ := (h.pe i c).2.2.2.2.2.2.1
      have sm : sc (T.2 55) i ≤ sc (T.2 55) (i + 1) := cnt_le 1 i
      have skip : ∃ (u' : Nat) (w' : Nat → Int32), u' ≤ 9 ∧ (∀ j : Nat, j < u' → ∃ q : Nat, q < K 2 ∧ w' j = nI q) ∧ ∀ k, l_X12_buying_40 k m T (nI u) (nI (i + 1)) w = k T (nI u') (nI (K 2)) w' := ih (i + 1) u w (by omega) (by omega) (by omega) hw
      obtain ⟨u0, w0, s1, s2, s3⟩ := skip
      rcases (show v = 0 ∨ v = 1 by omega) with rfl | rfl
      · refine ⟨u0, w0, s1, s2, fun k => ?_⟩
        rw [l_X12_buying_40]
        simp only [k2, lt, man_11 i20, fb_s, ev, show (nI 0 = 0) = True from eq_true rfl, nI_1, ↓reduceIte]; exact s3 k
      · have e1 : T.2 55 (14 * i + 121) = 1 := ev
        have st : sc (T.2 55) (i + 1) = sc (T.2 55) i + 1 := by
          unfold sc; rw [cnt_s, e1]; rfl
        have sl : sc (T.2 55) (i + 1) ≤ sc (T.2 55) (K 2) := by
          have := cnt_le (p := fun p => T.2 55 (14 * p + 121) == 1) (K 2 - (i + 1)) (i + 1)
          rw [show i + 1 + (K 2 - (i + 1)) = K 2 by omega] at this; exact this
        by_cases a : T.2 65 i = 1
        · refine ⟨u0, w0, s1, s2, fun k => ?_⟩
          rw [l_X12_buying_40]
          simp only [k2, lt, man_11 i20, fb_s, ev, show (nI 1 = 0) = False from eq_false (by decide), ix_nI i20 (show 20 ≤ 2 ^ 31 by decide), a, nI_1, ↓reduceIte]; exact s3 k
        · obtain ⟨u1, w1, r1, r2, r3⟩ := ih (i + 1) (u + 1) (upd w u (nI i)) (by omega) (by omega) (by omega) (fun j hj => by
            by_cases z : j = u
            · subst z; rw [pk_us]; exact ⟨i, c, rfl⟩
            · rw [pk_un z]; exact hw j (by omega))
          refine ⟨u1, w1, r1, r2, fun k => ?_⟩
          rw [l_X12_buying_40]
          simp only [k2, lt, man_11 i20, fb_s, ev, show (nI 1 = 0) = False from eq_false (by decide), ix_nI i20 (show 20 ≤ 2 ^ 31 by decide), a, ix_nI (show u < 9 by omega) (show 9 ≤ 2 ^ 31 by decide), fw_s, nI_1, ↓reduceIte]; exact r3 k
    · obtain rfl : i = K 2 := by omega
      refine ⟨u, w, by omega, hw, fun k => ?_⟩
      rw [l_X12_buying_40, k2, if_neg (nI_nlt (Nat.le_refl _) (by omega))]
theorem set_l (c2 : K 2 ≤ 20) {u : Nat} {w : Nat → Int32} {x : Int32} (hu : u ≤ 9) (hw : ∀ j : Nat, j < u → ∃ q : Nat, q < K 2 ∧ w j = nI q) : ∀ (m i : Nat) (a b c : Int32), i ≤ u → u - i < m → ∃ a' b' c' : Int32, ∀ k, l_X12_buying_136 (nI u) w x k m T a b c (nI i) = k T a' b' c' (nI u) := by
  intro m
  induction m with
  | zero => intro i a b c _ hm; exact absurd hm (Nat.not_lt_zero _)
  | succ m ih =>
    intro i a b c hi hm
    by_cases ci : i < u
    · have lt := nI_lt ci (show u < 2 ^ 31 by omega)
      obtain ⟨q, hq, eq⟩ := hw i ci
      by_cases z : (x >>> (nI i &&& 31)) &&& 1 = 0
      · obtain ⟨a', b', c', r⟩ := ih (i + 1) a b c (by omega) (by omega)
        refine ⟨a', b', c', fun k => ?_⟩
        rw [l_X12_buying_136]
        simp only [lt, z, nI_1, ↓reduceIte]; exact r k
      · obtain ⟨a', b', c', r⟩ := ih (i + 1) (a + T.2 64 q) (b + T.2 55 (14 * q + 122)) (c ||| ((1 : Int32) <<< (nI q &&& 31))) (by omega) (by omega)
        refine ⟨a', b', c', fun k => ?_⟩
        rw [l_X12_buying_136]
        simp only [lt, z, ix_nI (show i < 9 by omega) (show 9 ≤ 2 ^ 31 by decide), fb_s, eq, ix_nI (show q < 20 by omega) (show 20 ≤ 2 ^ 31 by decide), fv_s, man_12 (show q < 20 by omega), nI_1, ↓reduceIte]; exact r k
    · obtain rfl : i = u := by omega
      refine ⟨a, b, c, fun k => ?_⟩
      rw [l_X12_buying_136, if_neg (nI_nlt (Nat.le_refl _) (by omega))]
theorem shl9 : ∀ u : Fin 10, (1 : Int32) <<< (nI u.val &&& 31) = nI (2 ^ u.val) := by decide +kernel
theorem sets_l (c2 : K 2 ≤ 20) {u : Nat} {w : Nat → Int32} {x y : Int32} (hu : u ≤ 9) (hw : ∀ j : Nat, j < u → ∃ q : Nat, q < K 2 ∧ w j = nI q) : ∀ (m i : Nat) (a b : Int32), i ≤ 2 ^ u → 2 ^ u - i < m → ∃ a' b' : Int32, ∀ k, l_X12_buying_114 (nI u) w x y k m T a b (nI i) = k T a' b' (nI (2 ^ u)) := by
  have u512 : 2 ^ u ≤ 512 := Nat.pow_le_pow_right (n := 2) (by decide) hu
  have sh : (1 : Int32) <<< (nI u &&& 31) = nI (2 ^ u) := shl9 ⟨u, by omega⟩
  intro m
  induction m with
  | zero => intro i a b _ hm; exact absurd hm (Nat.not_lt_zero _)
  | succ m ih =>
    intro i a b hi hm
    by_cases ci : i < 2 ^ u
    · obtain ⟨p, q, r, hr⟩ := set_l (T := T) c2 (x := nI i) hu hw FU 0 x 0 0 (Nat.zero_le _) (FU_lt (by omega))
      have hr' : ∀ k, l_X12_buying_136 (nI u) w (nI i) k FU T x 0 0 0 = k T p q r (nI u) := hr
      obtain ⟨a1, b1, r1⟩ := ih (i + 1) r q (by omega) (by omega)
      obtain ⟨a2, b2, r2⟩ := ih (i + 1) a b (by omega) (by omega)
      have key : (∀ k, l_X12_buying_114 (nI u) w x y k (m + 1) T a b (nI i) = l_X12_buying_114 (nI u) w x y k m T r q (nI (i + 1))) ∨ ∀ k, l_X12_buying_114 (nI u) w x y k (m + 1) T a b (nI i) = l_X12_buying_114 (nI u) w x y k m T a b (nI (i + 1)) := by
        have st : ∀ k, l_X12_buying_114 (nI u) w x y k (m + 1) T a b (nI i) = if y < 2 * p then (if a < 0 then (l_X12_buying_114 (nI u) w x y k m T r q (nI (i + 1))) else (if b < q then (l_X12_buying_114 (nI u) w x y k m T a b (nI (i + 1))) else (if q = b then (if p_J6_bitCount_0f7a4 T a < p_J6_bitCount_0f7a4 T r then (l_X12_buying_114 (nI u) w x y k m T a b (nI (i + 1))) else (if p_J6_bitCount_0f7a4 T r = p_J6_bitCount_0f7a4 T a then (if r < a then (l_X12_buying_114 (nI u) w x y k m T r q (nI (i + 1))) else (l_X12_buying_114 (nI u) w x y k m T a b (nI (i + 1)))) else (l_X12_buying_114 (nI u) w x y k m T r q (nI (i + 1))))) else (l_X12_buying_114 (nI u) w x y k m T r q (nI (i + 1)))))) else (l_X12_buying_114 (nI u) w x y k m T a b (nI (i + 1))) := fun k => by
          rw [l_X12_buying_114, sh, if_pos (nI_lt ci (by omega)), hr']
          simp only [bits_e (S := T), fb_s, nI_1]
        simp only [st]
        repeat' split
        all_goals first | exact Or.inl (fun _ => rfl) | exact Or.inr (fun _ => rfl)
      rcases key with e | e
      · exact ⟨a1, b1, fun k => (e k).trans (r1 k)⟩
      · exact ⟨a2, b2, fun k => (e k).trans (r2 k)⟩
    · obtain rfl : i = 2 ^ u := by omega
      refine ⟨a, b, fun k => ?_⟩
      rw [l_X12_buying_114, sh, if_neg (nI_nlt (Nat.le_refl _) (by omega))]
theorem op_buying (h : RelR K S (T.2 55)) : OK1 S T (f_X11_buying S za zb) (f_X12_buying T za zb) := by
  unfold f_X11_buying f_X12_buying
  simp only [fb_id]
  have c2 := (h.ct 6 2 20 (by decide)).2.2
  rcases out_c za 0 5 with ⟨a1, a2⟩ | ⟨a1, a2⟩
  · rcases out_c zb 0 1 with ⟨b1, b2⟩ | ⟨b1, b2⟩
    · simp only [a1, a2, b1, b2, i10, ↓reduceIte]
      obtain ⟨v, S', c1, c3⟩ := h.cheap za
      obtain ⟨T', d1, d2⟩ := h.weiM za
      have h1 : RelR K S' (T'.2 55) := by rw [d1.me.2]; exact h.ce c1.ce
      obtain ⟨u, w, e1, e2, e3⟩ := buyers_l h1 FU 0 0 (fun _ => 0) (Nat.zero_le _) (FU_lt (by omega)) (Nat.zero_le _) (fun j hj => absurd hj (Nat.not_lt_zero _))
      obtain ⟨x, x1⟩ := h1.wof 0
      obtain ⟨y, y1⟩ := h1.wof 1
      have u512 : 2 ^ u ≤ 512 := Nat.pow_le_pow_right (n := 2) (by decide) e1
      obtain ⟨p, q, r⟩ := sets_l (K := K) (T := T') (x := x) (y := y) c2 e1 e2 FU 0 (-1) 0 (Nat.zero_le _) (FU_lt (by omega))
      have cls : ∃ (v : Int32) (S2 : FS), CE S S2 ∧ (fb (f_X0_findCheapest S za) fun r6 => if r6.1 = 0 then f_X11_told r6.2 (-1000002) else if zb = 0 then some (r6.2.1 109, r6.2) else some (r6.2.1 110, r6.2)) = some (v, S2) := by
        rw [c3, fb_s]
        split
        · obtain ⟨S2, f1, f2⟩ := told_e S' (-1000002)
          exact ⟨_, S2, c1.ce.tr f2, f1⟩
        · split
          · exact ⟨_, S', c1.ce, rfl⟩
          · exact ⟨_, S', c1.ce, rfl⟩
      obtain ⟨v1, S2, p1, p2⟩ := cls
      rw [p2, d2]
      simp only [fb_s, fw_s]
      rw [show ∀ k, l_X12_buying_40 k FU T' 0 0 (fun _ => 0) = k T' (nI u) (nI (K 2)) w from e3, x1, fb_s, y1, fb_s, show ∀ k, l_X12_buying_114 (nI u) w x y k FU T' (-1) 0 0 = k T' p q (nI (2 ^ u)) from r]
      have fin : ∀ (T2 : FS) (z : Int32), ME T T2 → OK1 S T (some (v1, S2)) (some (z, T2)) := fun T2 z e => ⟨v1, z, S2, T2, rfl, rfl, ⟨K, by rw [e.2]; exact h.ce p1⟩, p1.1, e.1⟩
      split
      · obtain ⟨T2, f1, f2⟩ := finds_2 T'
        rw [f1]; exact fin T2 _ (d1.me.tr f2)
      · split
        · exact fin T' _ d1.me
        · exact fin T' _ d1.me
    · simp only [a1, a2, b1, b2, i10, ↓reduceIte]; exact (ok_1 h).one
  · simp only [a1, a2, i10, ↓reduceIte]; exact (ok_1 h).one
end BUY
