/-! ===== pure: what a law comes to ===== -/
section LAW2
variable {K : Nat → Nat} {S T : FS} {za zb zc zd : Int32}
def EC (S S' : FS) : Prop := (∀ k : Nat, k ≠ 104 → S'.1 k = S.1 k) ∧ ∀ a : Nat, a ≠ 30 → S'.2 a = S.2 a
theorem EC.rf : EC S S := ⟨fun _ _ => rfl, fun _ _ => rfl⟩
theorem EC.tr {A B C : FS} (h : EC A B) (g : EC B C) : EC A C := ⟨fun k hk => (g.1 k hk).trans (h.1 k hk), fun a ha => (g.2 a ha).trans (h.2 a ha)⟩
theorem EC.wI {A B : FS} {v : Int32} (h : EC A B) : EC A (wI B 104 v) := ⟨fun k hk => (wI_n hk).trans (h.1 k hk), h.2⟩
theorem EC.wA {A B : FS} {j : Nat} {v : Int32} (h : EC A B) : EC A (wA B 30 j v) := ⟨h.1, fun a ha => (wA_n ha).trans (h.2 a ha)⟩
theorem EC.ce {A B : FS} (h : EC A B) : CE A B := by
  refine ⟨⟨⟨h.2 _ (by decide), h.2 _ (by decide), h.2 _ (by decide), h.2 _ (by decide)⟩, h.1 _ (by decide), h.1 _ (by decide)⟩, fun k hk => h.1 k ?_, fun a ha => h.2 a ?_⟩
  · intro q; subst q; revert hk; decide
  · intro q; subst q; revert ha; decide
def EM (T T' : FS) : Prop := T'.1 = T.1 ∧ ∀ a : Nat, a ≠ 59 → a ≠ 62 → a ≠ 63 → T'.2 a = T.2 a
theorem EM.rf : EM T T := ⟨rfl, fun _ _ _ _ => rfl⟩
theorem EM.tr {A B C : FS} (h : EM A B) (g : EM B C) : EM A C := ⟨g.1.trans h.1, fun a h1 h2 h3 => (g.2 a h1 h2 h3).trans (h.2 a h1 h2 h3)⟩
theorem EM.w {A B : FS} {j : Nat} {v : Int32} (h : EM A B) : EM A (wA B 63 j v) := ⟨h.1, fun a h1 h2 h3 => (wA_n h3).trans (h.2 a h1 h2 h3)⟩
theorem EM.me {A B : FS} (h : EM A B) : ME A B := ⟨⟨⟨h.2 _ (by decide) (by decide) (by decide), h.2 _ (by decide) (by decide) (by decide), h.2 _ (by decide) (by decide) (by decide), h.2 _ (by decide) (by decide) (by decide), h.2 _ (by decide) (by decide) (by decide)⟩, by rw [h.1], by rw [h.1]⟩, h.2 _ (by decide) (by decide) (by decide)⟩
theorem E59.em {A B : FS} (h : E59 A B) : EM A B := ⟨h.1, fun a h1 _ _ => h.2 a h1⟩
def E62 (T T' : FS) : Prop := T'.1 = T.1 ∧ ∀ a : Nat, a ≠ 62 → T'.2 a = T.2 a
theorem E62.rf : E62 T T := ⟨rfl, fun _ _ => rfl⟩
theorem E62.w {A B : FS} {j : Nat} {v : Int32} (h : E62 A B) : E62 A (wA B 62 j v) := ⟨h.1, fun a ha => (wA_n ha).trans (h.2 a ha)⟩
theorem E62.em {A B : FS} (h : E62 A B) : EM A B := ⟨h.1, fun a _ h1 _ => h.2 a h1⟩
theorem push_e {k : Nat} {v : Int32} (hk : k < 60) (e : S.1 104 = nI k) : f_X2_push S v = some (0, wI (wA S 30 k v) 104 (nI (k + 1))) := by
  unfold f_X2_push
  rw [e, if_neg (nI_pos (by omega)), if_pos (show nI k < 60 from nI_lt (b := 60) hk (by decide)), ix_nI hk (by decide), fb_s]
  simp only [fl_s, wA_1, e, nI_1]
theorem pop_e {k : Nat} (hk : k < 60) (e : S.1 104 = nI (k + 1)) : f_X2_pop S = some (S.2 30 k, wI S 104 (nI k)) := by
  unfold f_X2_pop
  rw [e, if_neg (show ¬ nI (k + 1) < 1 from nI_nlt (b := 1) (by omega) (by omega)), if_neg (show ¬ 60 < nI (k + 1) from nI_nlt (a := 60) (by omega) (by decide)), fl_s, nI_pred, wI_e, ix_nI hk (by decide), fb_s]; rfl
/-- the person stands where both sides know it -/
def TA (K : Nat → Nat) (S T : FS) (x : Int32) : Prop := ∀ p : Nat, p < K 2 → x = nI p → S.2 7 (14 * p + 4) = T.2 55 (14 * p + 114)
def lett (X : FS) (zb zc : Int32) : Option (Int32 × FS) := if zb < 0 then some (0, wA (wA (wA (wA X 63 7 0) 63 8 0) 63 9 0) 63 10 zc) else fb (q_X12_of X zb 3) (fun x73 => fb (q_X12_bits X x73) (fun x75 => fb (q_X12_of (wA X 63 7 x75) zb 1) (fun x78 => fb (q_X12_of (wA (wA X 63 7 x75) 63 8 x78) zb 2) (fun x81 => some (0, wA (wA (wA (wA X 63 7 x75) 63 8 x78) 63 9 x81) 63 10 zc)))))
theorem setN_e : f_X12_setNames T za zb zc = if za < 0 then lett (wA (wA (wA (wA (wA (wA (wA T 63 0 0) 63 1 0) 63 2 0) 63 3 0) 63 4 0) 63 5 0) 63 6 0) zb zc else fb (q_X12_man T za 1) (fun x3 => fl (wA T 63 0 ((zc - x3) / 360)) (fun S4 => fb (q_X12_man S4 za 0) (fun x6 => fl (wA S4 63 1 x6) (fun S7 => fb (q_X12_holdsMany S7 za) (fun x9 => fl (wA S7 63 2 x9) (fun S10 => fb (q_X12_man S10 za 7) (fun x12 => fl (wA S10 63 3 x12) (fun S13 => fb (q_X12_man S13 za 8) (fun x15 => fl (wA S13 63 4 x15) (fun S16 => fb (q_X12_man S16 za 4) (fun x18 =>
    if x18 < 0 then fl (wA S16 63 5 10) (fun S43 => fb (f_X12_stepsOf S43 za) (fun r45 => lett (wA r45.2 63 6 r45.1) zb zc)) else fb (q_X12_man S16 za 4) (fun x21 => fl (wA S16 63 5 x21) (fun S22 => fb (f_X12_stepsOf S22 za) (fun r24 => lett (wA r24.2 63 6 r24.1) zb zc)))))))))))))) := rfl
theorem nm_0 : q_X2_named S 0 zb zc zd = if zb < 0 then some 0 else some (p_X11_yearsBetween S (fG 6 20 14 S zb 1) zd) := rfl
theorem nm_1 : q_X2_named S 1 zb zc zd = if zb < 0 then some 0 else some (fG 6 20 14 S zb 0) := rfl
theorem nm_2 : q_X2_named S 2 zb zc zd = if zb < 0 then some 0 else fb (qRows 8 20 6 S 2 zb) (fun x => some x) := rfl
theorem nm_3 : q_X2_named S 3 zb zc zd = if zb < 0 then some 0 else some (fG 6 20 14 S zb 7) := rfl
theorem nm_4 : q_X2_named S 4 zb zc zd = if zb < 0 then some 0 else some (fG 6 20 14 S zb 8) := rfl
theorem nm_5 : q_X2_named S 5 zb zc zd = if zb < 0 then some 0 else some (p_X2_placeNamed S (fG 6 20 14 S zb 4)) := rfl
theorem nm_6 : q_X2_named S 6 zb zc zd = if zb < 0 then some 0 else some (fG 6 20 14 S zb 11) := rfl
theorem nm_7 : q_X2_named S 7 zb zc zd = if zc < 0 then some 0 else some (p_J6_bitCount_0f7a4 S (fG 14 40 12 S zc 4)) := rfl
theorem nm_8 : q_X2_named S 8 zb zc zd = if zc < 0 then some 0 else some (fG 14 40 12 S zc 1) := rfl
theorem nm_9 : q_X2_named S 9 zb zc zd = if zc < 0 then some 0 else some (fG 14 40 12 S zc 2) := rfl
theorem nm_10 : q_X2_named S 10 zb zc zd = some zd := rfl
theorem w63 {X : FS} {j : Nat} {v : Int32} : (wA X 63 j v).2 55 = X.2 55 := wA_n (by decide)
theorem lett_e (h : RelR K S (T.2 55)) (hc : vP (K 5) zc) {X : FS} (e5 : X.2 55 = T.2 55) : ∃ X' : FS, lett X zc zd = some (0, X') ∧ EM X X' ∧ (∀ c : Nat, c < 7 → X'.2 63 c = X.2 63 c) ∧ ∀ c : Nat, 7 ≤ c → c < 11 → q_X2_named S (nI c) zb zc zd = some (X'.2 63 c) := by
  have c5 := (h.ct 14 5 40 (by decide)).2.2
  unfold lett
  rcases hc with rfl | ⟨e, he, rfl⟩
  · refine ⟨_, if_pos (by decide), EM.rf.w.w.w.w, fun c hc => ?_, fun c h7 h11 => ?_⟩
    · simp only [wA_e]; simp (disch := omega) only [pk_un]
    · simp only [wA_e]
      rcases (show c = 7 ∨ c = 8 ∨ c = 9 ∨ c = 10 by omega) with rfl | rfl | rfl | rfl
      · rw [show nI 7 = 7 from rfl, nm_7, if_pos (by decide)]; simp (disch := omega) only [pk_un, pk_us]
      · rw [show nI 8 = 8 from rfl, nm_8, if_pos (by decide)]; simp (disch := omega) only [pk_un, pk_us]
      · rw [show nI 9 = 9 from rfl, nm_9, if_pos (by decide)]; simp (disch := omega) only [pk_un, pk_us]
      · rw [show nI 10 = 10 from rfl, nm_10]; simp (disch := omega) only [pk_un, pk_us]
  · have e40 : e < 40 := by omega
    obtain ⟨⟨-, r1, r2, r4, -⟩, -⟩ := h.le e he
    rw [if_neg (nI_pos (by omega))]
    simp only [of_3 e40, of_1 e40, of_2 e40, fb_s, w63, e5, bits_e (S := S)]
    refine ⟨_, rfl, EM.rf.w.w.w.w, fun c hc => ?_, fun c h7 h11 => ?_⟩
    · simp only [wA_e]; simp (disch := omega) only [pk_un]
    · simp only [wA_e]
      rcases (show c = 7 ∨ c = 8 ∨ c = 9 ∨ c = 10 by omega) with rfl | rfl | rfl | rfl
      · rw [show nI 7 = 7 from rfl, nm_7, if_neg (nI_pos (by omega)), g14_4 e40, r4]; simp (disch := omega) only [pk_un, pk_us]
      · rw [show nI 8 = 8 from rfl, nm_8, if_neg (nI_pos (by omega)), g14_1 e40, r1]; simp (disch := omega) only [pk_un, pk_us]
      · rw [show nI 9 = 9 from rfl, nm_9, if_neg (nI_pos (by omega)), g14_2 e40, r2]; simp (disch := omega) only [pk_un, pk_us]
      · rw [show nI 10 = 10 from rfl, nm_10]; simp (disch := omega) only [pk_un, pk_us]
theorem RelR.names (h : RelR K S (T.2 55)) (hb : vP (K 2) zb) (hc : vP (K 5) zc) : ∃ T1 : FS, EM T T1 ∧ f_X12_setNames T zb zc zd = some (0, T1) ∧ ∀ c : Nat, c < 11 → ∃ v : Int32, q_X2_named S (nI c) zb zc zd = some v ∧ (TA K S T zb → T1.2 63 c = v) := by
  have c2 := (h.ct 6 2 20 (by decide)).2.2
  rw [setN_e]
  rcases hb with rfl | ⟨p, hp, rfl⟩
  · rw [if_pos (by decide)]
    obtain ⟨X', l1, l2, l3, l4⟩ := lett_e (zb := -1) (zd := zd) h hc (X := wA (wA (wA (wA (wA (wA (wA T 63 0 0) 63 1 0) 63 2 0) 63 3 0) 63 4 0) 63 5 0) 63 6 0) (by simp only [w63])
    refine ⟨X', EM.tr EM.rf.w.w.w.w.w.w.w l2, l1, fun c hc => ?_⟩
    by_cases c7 : 7 ≤ c
    · exact ⟨_, l4 c c7 hc, fun _ => rfl⟩
    · refine ⟨0, ?_, fun _ => ?_⟩
      · rcases (show c = 0 ∨ c = 1 ∨ c = 2 ∨ c = 3 ∨ c = 4 ∨ c = 5 ∨ c = 6 by omega) with rfl | rfl | rfl | rfl | rfl | rfl | rfl <;> rfl
      · rw [l3 c (by omega)]; simp only [wA_e]
        rcases (show c = 0 ∨ c = 1 ∨ c = 2 ∨ c = 3 ∨ c = 4 ∨ c = 5 ∨ c = 6 by omega) with rfl | rfl | rfl | rfl | rfl | rfl | rfl <;> simp (disch := omega) only [pk_un, pk_us]
  · have p20 : p < 20 := by omega
    obtain ⟨⟨q0, q1, -⟩, ⟨q7, q8, -⟩, -⟩ := h.pe p hp
    rw [if_neg (nI_pos (by omega))]
    simp only [man_1 p20, man_0 p20, fb_s, fl_s, w63]
    obtain ⟨v, v1, v2⟩ := RelR.holds (K := K) (S := S) (T := wA (wA T 63 0 ((zd - T.2 55 (14 * p + 111)) / 360)) 63 1 (T.2 55 (14 * p + 110))) (by simp only [w63]; exact h) (nI p)
    rw [v1]
    simp only [man_7 p20, man_8 p20, man_4 p20, fb_s, fl_s, w63]
    have fin : ∀ t : Int32, ∃ T1 : FS, EM T T1 ∧ fb (f_X12_stepsOf (wA (wA (wA (wA (wA (wA T 63 0 ((zd - T.2 55 (14 * p + 111)) / 360)) 63 1 (T.2 55 (14 * p + 110))) 63 2 v) 63 3 (T.2 55 (14 * p + 117))) 63 4 (T.2 55 (14 * p + 118))) 63 5 t) (nI p)) (fun r45 => lett (wA r45.2 63 6 r45.1) zc zd) = some (0, T1) ∧ ∀ c : Nat, c < 11 → ∃ w : Int32, q_X2_named S (nI c) (nI p) zc zd = some w ∧ ((TA K S T (nI p) → t = if T.2 55 (14 * p + 114) < 0 then 10 else T.2 55 (14 * p + 114)) → TA K S T (nI p) → T1.2 63 c = w) := by
      intro t
      obtain ⟨T2, s1, s2⟩ := RelR.steps (K := K) (S := S) (T := wA (wA (wA (wA (wA (wA T 63 0 ((zd - T.2 55 (14 * p + 111)) / 360)) 63 1 (T.2 55 (14 * p + 110))) 63 2 v) 63 3 (T.2 55 (14 * p + 117))) 63 4 (T.2 55 (14 * p + 118))) 63 5 t) (by simp only [w63]; exact h) hp
      rw [s2]
      simp only [fb_s]
      obtain ⟨X', l1, l2, l3, l4⟩ := lett_e (zb := nI p) (zd := zd) h hc (X := wA T2 63 6 (S.2 7 (14 * p + 11))) (by rw [w63, s1.2 55 (by decide)]; simp only [w63])
      refine ⟨X', EM.tr (EM.tr EM.rf.w.w.w.w.w.w s1.em) (EM.tr EM.rf.w l2), l1, fun c hc => ?_⟩
      by_cases c7 : 7 ≤ c
      · exact ⟨_, l4 c c7 hc, fun _ _ => rfl⟩
      · have e63 := s1.2 63 (by decide)
        have np : ¬ nI p < 0 := nI_pos (by omega)
        rw [l3 c (by omega), wA_e, e63]
        simp only [wA_e]
        rcases (show c = 0 ∨ c = 1 ∨ c = 2 ∨ c = 3 ∨ c = 4 ∨ c = 5 ∨ c = 6 by omega) with rfl | rfl | rfl | rfl | rfl | rfl | rfl
        · refine ⟨_, by rw [show nI 0 = 0 from rfl, nm_0, if_neg np, g6_1 p20, q1], fun _ _ => ?_⟩
          simp (disch := omega) only [pk_un, pk_us]; rfl
        · refine ⟨_, by rw [show nI 1 = 1 from rfl, nm_1, if_neg np, g6_0 p20, q0], fun _ _ => ?_⟩
          simp (disch := omega) only [pk_un, pk_us]
        · refine ⟨_, by rw [show nI 2 = 2 from rfl, nm_2, if_neg np, v2, fb_s], fun _ _ => ?_⟩
          simp (disch := omega) only [pk_un, pk_us]
        · refine ⟨_, by rw [show nI 3 = 3 from rfl, nm_3, if_neg np, g6_7 p20, q7], fun _ _ => ?_⟩
          simp (disch := omega) only [pk_un, pk_us]
        · refine ⟨_, by rw [show nI 4 = 4 from rfl, nm_4, if_neg np, g6_8 p20, q8], fun _ _ => ?_⟩
          simp (disch := omega) only [pk_un, pk_us]
        · refine ⟨_, by rw [show nI 5 = 5 from rfl, nm_5, if_neg np, g6_4 p20], fun z1 z2 => ?_⟩
          simp (disch := omega) only [pk_un, pk_us]
          rw [z1 z2, z2 p hp rfl]; rfl
        · refine ⟨_, by rw [show nI 6 = 6 from rfl, nm_6, if_neg np, g6_11 p20], fun _ _ => ?_⟩
          simp (disch := omega) only [pk_un, pk_us]
    by_cases tz : T.2 55 (14 * p + 114) < 0
    · rw [if_pos tz]
      obtain ⟨T1, f1, f2, f3⟩ := fin 10
      refine ⟨T1, f1, f2, fun c hc => ?_⟩
      obtain ⟨w, w1, w2⟩ := f3 c hc
      exact ⟨w, w1, w2 (fun _ => by rw [if_pos tz])⟩
    · rw [if_neg tz]
      obtain ⟨T1, f1, f2, f3⟩ := fin (T.2 55 (14 * p + 114))
      refine ⟨T1, f1, f2, fun c hc => ?_⟩
      obtain ⟨w, w1, w2⟩ := f3 c hc
      exact ⟨w, w1, w2 (fun _ => by rw [if_neg tz])⟩
theorem named_ec {S0 : FS} (h : EC S0 S) : q_X2_named S za zb zc zd = q_X2_named S0 za zb zc zd := by
  unfold q_X2_named fG qRows p_X11_yearsBetween p_X2_placeNamed p_J6_bitCount_0f7a4
  simp only [h.1 8 (by decide), h.2 (6 + 1) (by decide), h.2 (8 + 1) (by decide), h.2 (14 + 1) (by decide)]
theorem cdM_c {c m : Int32} (h : cdM c m) : (¬ c < 0 ∧ m = c ∧ -100 < c) ∨ (∃ k : Nat, k < 11 ∧ c < 0 ∧ ¬ -20 < c ∧ -20 - c = nI k ∧ -100 < m ∧ m < 0 ∧ -1 - m = nI k) ∨ (c = -1 ∧ m = -133) ∨ (c < 0 ∧ -20 < c ∧ c ≠ -1 ∧ ¬ -100 < m ∧ m ≠ -133 ∧ ∀ (S T : FS) (x y : Int32), p_X2_joined S c x y = p_X12_done T (-100 - m) x y) := by
  have kk : ∀ k : Fin 11, (-20 - nI k.val : Int32) < 0 ∧ ¬ (-20 : Int32) < -20 - nI k.val ∧ -20 - (-20 - nI k.val) = nI k.val ∧ (-100 : Int32) < -1 - nI k.val ∧ (-1 - nI k.val : Int32) < 0 ∧ -1 - (-1 - nI k.val) = nI k.val := by decide +kernel
  rcases h with ⟨h1, h2⟩ | ⟨k, hk, rfl, rfl⟩ | h | ⟨rfl, rfl⟩ | ⟨rfl, rfl⟩ | ⟨rfl, rfl⟩ | ⟨rfl, rfl⟩ | ⟨rfl, rfl⟩ | ⟨rfl, rfl⟩ | ⟨rfl, rfl⟩
  · exact Or.inl ⟨h1, h2, Int32.lt_of_lt_of_le (by decide) (Int32.not_lt.mp h1)⟩
  · obtain ⟨k1, k2, k3, k4, k5, k6⟩ := kk ⟨k, hk⟩
    exact Or.inr (Or.inl ⟨k, hk, k1, k2, k3, k4, k5, k6⟩)
  · exact Or.inr (Or.inr (Or.inl h))
  all_goals exact Or.inr (Or.inr (Or.inr ⟨by decide, by decide, by decide, by decide, by decide, fun _ _ _ _ => rfl⟩))
theorem cdH_le {c : Nat → Int32} {e r : Nat} (h : cdH c e = some r) : ∀ (d i : Nat), i + d = e → ∃ k : Nat, cdH c i = some k
  | 0, i, q => by rw [show i = e by omega]; exact ⟨r, h⟩
  | d + 1, i, q => by
    obtain ⟨k, hk⟩ := cdH_le h d (i + 1) (by omega)
    cases z : cdH c i with
    | none => simp only [cdH, z] at hk; cases hk
    | some k' => exact ⟨k', rfl⟩
theorem cdH_b {c : Nat → Int32} : ∀ (i k : Nat), cdH c i = some k → k ≤ 60
  | 0, k, h => by obtain rfl := Option.some.inj h; omega
  | i + 1, k, h => by
    cases z : cdH c i with
    | none => simp only [cdH, z] at h; cases h
    | some k' =>
      have := cdH_b i k' z
      simp only [cdH, z] at h
      split at h
      · split at h
        · split at h
          · obtain rfl := Option.some.inj h; omega
          · cases h
        · split at h
          · obtain rfl := Option.some.inj h; omega
          · cases h
      · split at h
        · obtain rfl := Option.some.inj h; omega
        · cases h
theorem ev_l {l e : Nat} {P : Prop} {S0 T0 : FS} (hl : l < 12) (he : e ≤ 60) (hg : ∀ i : Nat, i < e → cdM (S0.2 13 (60 * l + i)) (T0.2 55 (65 * l + (515 + i)))) (h5 : T0.2 55 (65 * l + 514) = nI e) (hcd : cdH (fun i => S0.2 13 (60 * l + i)) e = some 1) (hn : ∀ c : Nat, c < 11 → ∃ v : Int32, q_X2_named S0 (nI c) zb zc zd = some v ∧ (P → T0.2 63 c = v)) :
    ∀ (m i k : Nat) (S T : FS), i ≤ e → e - i < m → cdH (fun i => S0.2 13 (60 * l + i)) i = some k → EC S0 S → E62 T0 T → S.1 104 = nI k → (P → ∀ j : Nat, j < k → S.2 30 j = T.2 62 j) →
    ∃ S' T' : FS, EC S0 S' ∧ E62 T0 T' ∧ S'.1 104 = nI 1 ∧ (P → S'.2 30 0 = T'.2 62 0) ∧ (∀ kk, l_X2_comesTo_22 (nI l) zb zc zd (nI e) kk m S (nI i) = kk S' (nI e)) ∧ ∀ kk, l_X12_comesTo_33 (nI (65 * l + 515)) kk m T (nI k) (nI (65 * l + 515 + i)) = kk T' (nI 1) (nI (65 * l + 515 + e)) := by
  intro m
  induction m with
  | zero => intro i k S T _ hm; exact absurd hm (Nat.not_lt_zero _)
  | succ m ih =>
    intro i k S T hi hm hk ec em e4 hs
    have jm : ix 2071 (nI (65 * l + 515) - 1) = some (65 * l + 514) := by rw [nI_pred]; exact ix_nI (by omega) (by decide)
    have e5 : T.2 55 (65 * l + 514) = nI e := by rw [em.2 55 (by decide)]; exact h5
    by_cases ci : i < e
    · have j2 : ix 2071 (nI (65 * l + 515 + i)) = some (65 * l + (515 + i)) := by rw [show 65 * l + 515 + i = 65 * l + (515 + i) by omega]; exact ix_nI (by omega) (by decide)
      have lc : nI i < nI e := nI_lt ci (by omega)
      have lm : nI (65 * l + 515 + i) < nI (65 * l + 515 + e) := nI_lt (by omega) (by omega)
      have gc : fG 12 12 60 S (nI l) (nI i) = S0.2 13 (60 * l + i) := by rw [g12 hl (show i < 60 by omega), ec.2 13 (by decide)]
      have gm : T.2 55 (65 * l + (515 + i)) = T0.2 55 (65 * l + (515 + i)) := by rw [em.2 55 (by decide)]
      obtain ⟨k', hk'⟩ := cdH_le hcd (e - (i + 1)) (i + 1) (by omega)
      have b60 := cdH_b _ _ hk
      have k0 := hk'
      simp only [cdH, hk] at k0
      have st : ∀ (k1 : Nat) (S1 T1 : FS) (v w : Int32), k' = k1 + 1 → EC S0 S1 → E62 T0 T1 → S1.1 104 = nI (k1 + 1) → S1.2 30 = upd (S.2 30) k1 v → T1.2 62 = upd (T.2 62) k1 w → k1 ≤ k → (P → v = w) → ∃ S' T' : FS, EC S0 S' ∧ E62 T0 T' ∧ S'.1 104 = nI 1 ∧ (P → S'.2 30 0 = T'.2 62 0) ∧ (∀ kk, l_X2_comesTo_22 (nI l) zb zc zd (nI e) kk m S1 (nI (i + 1)) = kk S' (nI e)) ∧ ∀ kk, l_X12_comesTo_33 (nI (65 * l + 515)) kk m T1 (nI (k1 + 1)) (nI (65 * l + 515 + (i + 1))) = kk T' (nI 1) (nI (65 * l + 515 + e)) := by
        intro k1 S1 T1 v w e1 ec1 em1 e41 s1 t1 le1 vw
        refine ih (i + 1) (k1 + 1) S1 T1 (by omega) (by omega) (by rw [hk', e1]) ec1 em1 e41 (fun p j hj => ?_)
        rw [s1, t1]
        by_cases z : j = k1
        · subst z; rw [pk_us, pk_us]; exact vw p
        · rw [pk_un z, pk_un z]; exact hs p j (by omega)
      rcases cdM_c (hg i ci) with ⟨a1, a2, a3⟩ | ⟨q, hq, a1, a2, a3, a4, a5, a6⟩ | ⟨a1, a2⟩ | ⟨a1, a2, a3, a4, a5, a6⟩
      · rw [if_neg (fun z => a1 z.2)] at k0
        by_cases c60 : k < 60
        · rw [if_pos c60] at k0
          obtain ⟨S', T', r1, r2, r3, r4, r5, r6⟩ := st k _ _ (S0.2 13 (60 * l + i)) (S0.2 13 (60 * l + i)) (Option.some.inj k0).symm ((ec.wA (j := k) (v := S0.2 13 (60 * l + i))).wI (v := nI (k + 1))) (em.w (j := k) (v := S0.2 13 (60 * l + i))) wI_e (by simp only [wI_2, wA_e]) wA_e (Nat.le_refl _) (fun _ => rfl)
          refine ⟨S', T', r1, r2, r3, r4, fun kk => ?_, fun kk => ?_⟩
          · rw [l_X2_comesTo_22]
            simp only [lc, gc, fv_s, a1, push_e c60 e4, fb_s, nI_1, ↓reduceIte]; exact r5 kk
          · rw [l_X12_comesTo_33]
            simp only [jm, fb_s, e5, nI_add, lm, j2, gm, a2, fv_s, a3, a1, ix_nI c60 (show 60 ≤ 2 ^ 31 by decide), fl_s, nI_1, ↓reduceIte]; exact r6 kk
        · rw [if_neg c60] at k0; cases k0
      · rw [if_neg (fun z => a2 z.1)] at k0
        by_cases c60 : k < 60
        · rw [if_pos c60] at k0
          obtain ⟨v, v1, v2⟩ := hn q hq
          obtain ⟨S', T', r1, r2, r3, r4, r5, r6⟩ := st k _ _ v (T.2 63 q) (Option.some.inj k0).symm ((ec.wA (j := k) (v := v)).wI (v := nI (k + 1))) (em.w (j := k) (v := T.2 63 q)) wI_e (by simp only [wI_2, wA_e]) wA_e (Nat.le_refl _) (fun p => by rw [em.2 63 (by decide)]; exact (v2 p).symm)
          refine ⟨S', T', r1, r2, r3, r4, fun kk => ?_, fun kk => ?_⟩
          · rw [l_X2_comesTo_22]
            simp only [lc, gc, fv_s, a1, a2, a3, named_ec ec, v1, push_e c60 e4, fb_s, nI_1, ↓reduceIte]; exact r5 kk
          · rw [l_X12_comesTo_33]
            simp only [jm, fb_s, e5, nI_add, lm, j2, gm, fv_s, a4, a5, a6, ix_nI hq (show 11 ≤ 2 ^ 31 by decide), ix_nI c60 (show 60 ≤ 2 ^ 31 by decide), fl_s, nI_1, ↓reduceIte]; exact r6 kk
        · rw [if_neg c60] at k0; cases k0
      · rw [if_pos (show -20 < S0.2 13 (60 * l + i) ∧ S0.2 13 (60 * l + i) < 0 by rw [a1]; decide), if_pos a1] at k0
        by_cases c1 : 1 ≤ k
        · rw [if_pos c1] at k0
          obtain ⟨k1, rfl⟩ : ∃ k1 : Nat, k = k1 + 1 := ⟨k - 1, by omega⟩
          have c60 : k1 < 60 := by omega
          have jk : ix 60 (nI (k1 + 1) - 1) = some k1 := by rw [nI_pred]; exact ix_nI c60 (by decide)
          obtain ⟨S', T', r1, r2, r3, r4, r5, r6⟩ := st k1 _ _ (if S.2 30 k1 = 0 then 1 else 0) (if T.2 62 k1 = 0 then 1 else 0) (Option.some.inj k0).symm (((ec.wI (v := nI k1)).wA (j := k1) (v := if S.2 30 k1 = 0 then 1 else 0)).wI (v := nI (k1 + 1))) (em.w (j := k1) (v := if T.2 62 k1 = 0 then 1 else 0)) wI_e (by simp only [wI_2, wA_e]) wA_e (by omega) (fun p => by rw [hs p k1 (by omega)])
          refine ⟨S', T', r1, r2, r3, r4, fun kk => ?_, fun kk => ?_⟩
          · rw [l_X2_comesTo_22]
            simp only [lc, gc, fv_s, a1, pop_e c60 e4, fb_s, nI_1, show ((-1 : Int32) < 0) = True from eq_true (by decide), show ((-20 : Int32) < -1) = True from eq_true (by decide), push_e c60 (S := wI S 104 (nI k1)) wI_e, ↓reduceIte]
            rw [← r5 kk]
            by_cases z : S.2 30 k1 = 0
            · rw [if_pos z, if_pos z]
            · rw [if_neg z, if_neg z]
          · rw [l_X12_comesTo_33]
            simp only [jm, fb_s, e5, nI_add, lm, j2, gm, a2, fv_s, jk, fl_s, nI_1, show ((-100 : Int32) < -133) = False from eq_false (by decide), ↓reduceIte]
            rw [← r6 kk]
            by_cases z : T.2 62 k1 = 0
            · rw [if_pos z, if_pos z]; rfl
            · rw [if_neg z, if_neg z]; rfl
        · rw [if_neg c1] at k0; cases k0
      · rw [if_pos ⟨a2, a1⟩, if_neg a3] at k0
        by_cases c2 : 2 ≤ k
        · rw [if_pos c2] at k0
          obtain ⟨k1, rfl⟩ : ∃ k1 : Nat, k = k1 + 1 + 1 := ⟨k - 2, by omega⟩
          have c60 : k1 < 60 := by omega
          have c61 : k1 + 1 < 60 := by omega
          have jk : ix 60 (nI (k1 + 1) - 1) = some k1 := by rw [nI_pred]; exact ix_nI c60 (by decide)
          have jk1 : ix 60 (nI (k1 + 1)) = some (k1 + 1) := ix_nI c61 (by decide)
          obtain ⟨S', T', r1, r2, r3, r4, r5, r6⟩ := st k1 _ _ (p_X12_done T (-100 - T0.2 55 (65 * l + (515 + i))) (S.2 30 k1) (S.2 30 (k1 + 1))) (p_X12_done T (-100 - T0.2 55 (65 * l + (515 + i))) (T.2 62 k1) (T.2 62 (k1 + 1))) (by have := Option.some.inj k0; omega) ((((ec.wI (v := nI (k1 + 1))).wI (v := nI k1)).wA (j := k1) (v := p_X12_done T (-100 - T0.2 55 (65 * l + (515 + i))) (S.2 30 k1) (S.2 30 (k1 + 1)))).wI (v := nI (k1 + 1))) (em.w (j := k1) (v := p_X12_done T (-100 - T0.2 55 (65 * l + (515 + i))) (T.2 62 k1) (T.2 62 (k1 + 1)))) wI_e (by simp only [wI_2, wA_e]) wA_e (by omega) (fun p => by rw [hs p k1 (by omega), hs p (k1 + 1) (by omega)])
          refine ⟨S', T', r1, r2, r3, r4, fun kk => ?_, fun kk => ?_⟩
          · rw [l_X2_comesTo_22]
            simp only [lc, gc, fv_s, a1, a2, a3, pop_e c61 e4, pop_e c60 (S := wI S 104 (nI (k1 + 1))) wI_e, fb_s, nI_1, a6 _ T, push_e c60 (S := wI (wI S 104 (nI (k1 + 1))) 104 (nI k1)) wI_e, wI_2, ↓reduceIte]
            exact r5 kk
          · rw [l_X12_comesTo_33]
            simp only [jm, fb_s, e5, nI_add, lm, j2, gm, fv_s, a4, a5, jk, jk1, pk_m1, fl_s, nI_1, ↓reduceIte]
            exact r6 kk
        · rw [if_neg c2] at k0; cases k0
    · have ei : i = e := by omega
      subst ei
      have k1 : k = 1 := Option.some.inj (hk.symm.trans hcd)
      subst k1
      refine ⟨S, T, ec, em, e4, fun p => hs p 0 (by decide), fun kk => ?_, fun kk => ?_⟩
      · rw [l_X2_comesTo_22, if_neg (nI_nlt (Nat.le_refl _) (by omega))]
      · rw [l_X12_comesTo_33]
        simp only [jm, fb_s, e5, nI_add, nI_nlt (Nat.le_refl (65 * l + 515 + i)) (show 65 * l + 515 + i < 2 ^ 31 by omega), ↓reduceIte]
/-- what a law comes to, on both sides -/
theorem RelR.comes (h : RelR K S (T.2 55)) {l : Nat} (hl : l < K 4) (hb : vP (K 2) zb) (hc : vP (K 5) zc) : ∃ (v w : Int32) (S' T' : FS), f_X2_comesTo S (nI l) zb zc zd = some (v, S') ∧ f_X12_comesTo T (nI l) zb zc zd = some (w, T') ∧ EC S S' ∧ EM T T' ∧ (TA K S T zb → v = w) := by
  have c4 := (h.ct 10 4 12 (by decide)).2.2
  have l12 : l < 12 := by omega
  obtain ⟨-, -, -, e, e1, e2, e3, e4, e5⟩ := h.la l hl
  obtain ⟨T1, n1, n2, n3⟩ := h.names (zd := zd) hb hc
  have t55 : T1.2 55 = T.2 55 := n1.2 55 (by decide) (by decide) (by decide)
  obtain ⟨S', T', r1, r2, r3, r4, r5, r6⟩ := ev_l (l := l) (e := e) (P := TA K S T zb) (S0 := S) (T0 := T1) (zb := zb) (zc := zc) (zd := zd) l12 e1 (by rw [t55]; exact e4) (by rw [t55]; exact e3) e5 n3 FU 0 0 (wI S 104 0) T1 (Nat.zero_le _) (FU_lt (by omega)) rfl EC.rf.wI E62.rf wI_e (fun _ j hj => absurd hj (Nat.not_lt_zero _))
  refine ⟨S'.2 30 0, T'.2 62 0, wI S' 104 (nI 0), T', ?_, ?_, r1.wI, n1.tr r2.em, r4⟩
  · unfold f_X2_comesTo
    rw [fv_s, fl_s, g10_4 l12, e2, show ∀ kk, l_X2_comesTo_22 (nI l) zb zc zd (nI e) kk FU (wI S 104 0) 0 = kk S' (nI e) from r5, pop_e (k := 0) (by decide) r3, fb_s]
  · unfold f_X12_comesTo
    rw [if_neg (nI_pos (by omega)), n2, fb_s, fv_s, show (510 : Int32) + 65 * nI l + 5 = nI (65 * l + 515) from by
      rw [show (510 : Int32) = nI 510 from rfl, show (65 : Int32) = nI 65 from rfl, show (5 : Int32) = nI 5 from rfl, pk_mul, nI_add, nI_add]; exact congrArg nI (by omega)]
    exact r6 _
end LAW2
