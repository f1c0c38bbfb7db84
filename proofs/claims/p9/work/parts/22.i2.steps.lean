/-! ===== pure: steps, the model's and the class's ===== -/
section STP
variable {K : Nat → Nat} {S T : FS} {za zb zc zd : Int32}
def E59 (T T' : FS) : Prop := T'.1 = T.1 ∧ ∀ a : Nat, a ≠ 59 → T'.2 a = T.2 a
theorem E59.rf : E59 T T := ⟨rfl, fun _ _ => rfl⟩
theorem E59.tr {A B C : FS} (h : E59 A B) (g : E59 B C) : E59 A C := ⟨g.1.trans h.1, fun a ha => (g.2 a ha).trans (h.2 a ha)⟩
theorem E59.w {j : Nat} {v : Int32} : E59 T (wA T 59 j v) := ⟨rfl, fun _ ha => wA_n ha⟩
theorem E59.me {T' : FS} (h : E59 T T') : ME T T' := ⟨⟨⟨h.2 _ (by decide), h.2 _ (by decide), h.2 _ (by decide), h.2 _ (by decide), h.2 _ (by decide)⟩, by rw [h.1], by rw [h.1]⟩, h.2 _ (by decide)⟩
theorem man_c {p c : Nat} (h : p < 20) (hc : c = 2 ∨ c = 3) : q_X12_man T (nI p) (nI c) = some (T.2 55 (14 * p + (110 + c))) := by
  rcases hc with rfl | rfl
  · exact man_2 h
  · exact man_3 h
theorem m59_w {P q v : Nat} {d : Nat → Nat} (hm : ∀ x : Nat, x < P → T.2 59 x = nI (d x)) : ∀ x : Nat, x < P → (wA T 59 q (nI v)).2 59 x = nI (nU d q v x) := by
  intro x hx
  rw [wA_e]
  by_cases z : x = q
  · subst z; rw [pk_us, nU_e]
  · rw [pk_un z, nU_n z]; exact hm x hx
theorem st_col {n : Nat → Int32} {P k p c : Nat} {d : Nat → Nat} (hn : T.2 55 = n) (hP : P ≤ 20) (hp : p < P) (hc : c = 2 ∨ c = 3) (hk : k < 19) (hb : BI n P k d) (hm : ∀ x : Nat, x < P → T.2 59 x = nI (d x)) (hv : vP P (n (14 * p + (110 + c)))) :
    ∃ (T' : FS) (d' : Nat → Nat), E59 T T' ∧ BI n P k d' ∧ (∀ x : Nat, x < P → T'.2 59 x = nI (d' x)) ∧ (∀ x y : Nat, Dn k d x y → Dn k d' x y) ∧ (∀ q : Nat, q < P → n (14 * p + (110 + c)) = nI q → Dn k d' p q ∧ Dn k d' q p) ∧ ∀ kk g, l_X12_stepsOf_53 (nI (k + 1)) (nI p) kk (g + 1) T (nI c) = l_X12_stepsOf_53 (nI (k + 1)) (nI p) kk g T' (nI (c + 1)) := by
  have hc3 : ¬ (3 : Int32) < nI c := by rcases hc with rfl | rfl <;> decide
  have km1 : nI (k + 1) - 1 = nI k := nI_pred k
  rcases hv with e | ⟨q, hq, e⟩
  · refine ⟨T, d, E59.rf, hb, hm, fun _ _ z => z, fun q hq z => ?_, fun kk g => ?_⟩
    · rw [e] at z; exact absurd z.symm (nI_m1 (by omega))
    · rw [l_X12_stepsOf_53, if_neg hc3, man_c (by omega) hc, fb_s, hn, e, if_pos (by decide), nI_1]
  · have eg : EG n P p q := ⟨⟨hp, hq⟩, Or.inl (by rcases hc with rfl | rfl; exact Or.inl e; exact Or.inr e)⟩
    have d9p := hb.1 p hp
    have d9q := hb.1 q hq
    have ipq := hb.2.2.1 p q eg
    have iqp := hb.2.2.1 q p eg.symm
    have inj : ∀ q' : Nat, q' < P → n (14 * p + (110 + c)) = nI q' → q' = q := fun q' hq' z => nI_inj (by omega) (by omega) (z.symm.trans e)
    have mp := hm p hp
    have mq := hm q hq
    have ixp : ix 20 (nI p) = some p := ix_nI (by omega) (by decide)
    have ixq : ix 20 (nI q) = some q := ix_nI (by omega) (by decide)
    have npq : ¬ nI q < 0 := nI_pos (by omega)
    by_cases c1 : d q = k
    · by_cases c2 : k + 1 < d p
      · have r := hb.rlx eg.symm (by omega)
        rw [c1] at r
        have hpq : q ≠ p := fun z => by subst z; omega
        refine ⟨wA T 59 p (nI (k + 1)), nU d p (k + 1), E59.w, r.1, m59_w hm, r.2.2, fun q' hq' z => ?_, fun kk g => ?_⟩
        · rw [inj q' hq' z]
          exact ⟨fun z => by rw [nU_e] at z; omega, r.2.1⟩
        · rw [l_X12_stepsOf_53]
          have f1 : (nI (k + 1) = nI k) = False := eq_false (fun z => by have := nI_inj (by omega) (by omega) z; omega)
          simp only [hc3, man_c (show p < 20 by omega) hc, fb_s, hn, e, npq, ixq, mq, km1, c1, ixp, mp, nI_lt c2 (show d p < 2 ^ 31 by omega), fl_s, wA_e, pk_us, f1, nI_1, ↓reduceIte]
      · refine ⟨T, d, E59.rf, hb, hm, fun _ _ z => z, fun q' hq' z => ?_, fun kk g => ?_⟩
        · rw [inj q' hq' z]
          exact ⟨fun z => by omega, fun z => by omega⟩
        · rw [l_X12_stepsOf_53]
          simp only [hc3, man_c (show p < 20 by omega) hc, fb_s, hn, e, npq, ixq, mq, km1, c1, ixp, mp, nI_nlt (show d p ≤ k + 1 by omega) (show k + 1 < 2 ^ 31 by omega), nI_nlt (show k ≤ k + 1 by omega) (show k + 1 < 2 ^ 31 by omega), fl_s, nI_1, ↓reduceIte, ite_self]
    · have f1 : (nI (d q) = nI k) = False := eq_false (fun z => c1 (nI_inj (by omega) (by omega) z))
      by_cases c2 : d p = k
      · by_cases c3 : k + 1 < d q
        · have r := hb.rlx eg (by omega)
          rw [c2] at r
          refine ⟨wA T 59 q (nI (k + 1)), nU d q (k + 1), E59.w, r.1, m59_w hm, r.2.2, fun q' hq' z => ?_, fun kk g => ?_⟩
          · rw [inj q' hq' z]
            exact ⟨r.2.1, fun z => by rw [nU_e] at z; omega⟩
          · rw [l_X12_stepsOf_53]
            simp only [hc3, man_c (show p < 20 by omega) hc, fb_s, hn, e, npq, ixq, mq, km1, f1, ixp, mp, c2, nI_lt c3 (show d q < 2 ^ 31 by omega), fl_s, nI_1, ↓reduceIte]
        · refine ⟨T, d, E59.rf, hb, hm, fun _ _ z => z, fun q' hq' z => ?_, fun kk g => ?_⟩
          · rw [inj q' hq' z]
            exact ⟨fun z => by omega, fun z => iqp (by omega)⟩
          · rw [l_X12_stepsOf_53]
            simp only [hc3, man_c (show p < 20 by omega) hc, fb_s, hn, e, npq, ixq, mq, km1, f1, ixp, mp, c2, nI_nlt (show d q ≤ k + 1 by omega) (show k + 1 < 2 ^ 31 by omega), fl_s, nI_1, ↓reduceIte]
      · have f2 : (nI (d p) = nI k) = False := eq_false (fun z => c2 (nI_inj (by omega) (by omega) z))
        refine ⟨T, d, E59.rf, hb, hm, fun _ _ z => z, fun q' hq' z => ?_, fun kk g => ?_⟩
        · rw [inj q' hq' z]
          exact ⟨fun z => ipq (by omega), fun z => iqp (by omega)⟩
        · rw [l_X12_stepsOf_53]
          simp only [hc3, man_c (show p < 20 by omega) hc, fb_s, hn, e, npq, ixq, mq, km1, f1, ixp, mp, f2, fl_s, nI_1, ↓reduceIte]
theorem st_per {n : Nat → Int32} {P k p : Nat} {d : Nat → Nat} (hn : T.2 55 = n) (hP : P ≤ 20) (hp : p < P) (hk : k < 19) (hb : BI n P k d) (hm : ∀ x : Nat, x < P → T.2 59 x = nI (d x)) (hv : vP P (n (14 * p + 112))) (hv3 : vP P (n (14 * p + 113))) :
    ∃ (T' : FS) (d' : Nat → Nat), E59 T T' ∧ BI n P k d' ∧ (∀ x : Nat, x < P → T'.2 59 x = nI (d' x)) ∧ (∀ x y : Nat, Dn k d x y → Dn k d' x y) ∧ (∀ q : Nat, q < P → n (14 * p + 112) = nI q ∨ n (14 * p + 113) = nI q → Dn k d' p q ∧ Dn k d' q p) ∧ ∀ kk, l_X12_stepsOf_53 (nI (k + 1)) (nI p) kk FU T 2 = kk T' 4 := by
  obtain ⟨T1, d1, e1, b1, m1, x1, y1, g1⟩ := st_col (c := 2) hn hP hp (Or.inl rfl) hk hb hm hv
  obtain ⟨T2, d2, e2, b2, m2, x2, y2, g2⟩ := st_col (T := T1) (c := 3) ((e1.2 55 (by decide)).trans hn) hP hp (Or.inr rfl) hk b1 m1 hv3
  refine ⟨T2, d2, e1.tr e2, b2, m2, fun x y z => x2 x y (x1 x y z), fun q hq z => ?_, fun kk => ?_⟩
  · rcases z with z | z
    · exact ⟨x2 _ _ (y1 q hq z).1, x2 _ _ (y1 q hq z).2⟩
    · exact y2 q hq z
  · rw [show l_X12_stepsOf_53 (nI (k + 1)) (nI p) kk FU T 2 = l_X12_stepsOf_53 (nI (k + 1)) (nI p) kk (4999 + 1) T (nI 2) from rfl, g1 kk 4999, show (4999 : Nat) = 4998 + 1 from rfl, g2 kk 4998, show (4998 : Nat) = 4997 + 1 from rfl, l_X12_stepsOf_53, if_pos (by decide)]; rfl
theorem st_rnd {n : Nat → Int32} {P k : Nat} (hP : P ≤ 20) (h2 : n 2 = nI P) (hk : k < 19) (hv : ∀ p : Nat, p < P → vP P (n (14 * p + 112)) ∧ vP P (n (14 * p + 113))) : ∀ (g i : Nat) (T : FS) (d : Nat → Nat), i ≤ P → P - i < g → T.2 55 = n → BI n P k d → (∀ x : Nat, x < P → T.2 59 x = nI (d x)) → (∀ p q : Nat, p < i → q < P → n (14 * p + 112) = nI q ∨ n (14 * p + 113) = nI q → Dn k d p q ∧ Dn k d q p) →
    ∃ (T' : FS) (d' : Nat → Nat), E59 T T' ∧ BI n P (k + 1) d' ∧ (∀ x : Nat, x < P → T'.2 59 x = nI (d' x)) ∧ ∀ kk, l_X12_stepsOf_40 (nI (k + 1)) kk g T (nI i) = kk T' (nI P) := by
  intro g
  induction g with
  | zero => intro i T d _ h; exact absurd h (Nat.not_lt_zero _)
  | succ g ih =>
    intro i T d hi hg hn hb hm hd
    by_cases c : i < P
    · obtain ⟨T1, d1, e1, b1, m1, x1, y1, g1⟩ := st_per hn hP c hk hb hm (hv i c).1 (hv i c).2
      obtain ⟨T2, d2, e2, b2, m2, g2⟩ := ih (i + 1) T1 d1 (by omega) (by omega) ((e1.2 55 (by decide)).trans hn) b1 m1 (fun p q hp hq z => by
        by_cases e : p = i
        · subst e; exact y1 q hq z
        · have := hd p q (by omega) hq z
          exact ⟨x1 _ _ this.1, x1 _ _ this.2⟩)
      refine ⟨T2, d2, e1.tr e2, b2, m2, fun kk => ?_⟩
      rw [l_X12_stepsOf_40, hn, h2, if_pos (nI_lt c (by omega)), g1, nI_1]; exact g2 kk
    · have ei : i = P := by omega
      subst ei
      refine ⟨T, d, E59.rf, hb.next (fun p q e => ?_), hm, fun kk => ?_⟩
      · obtain ⟨⟨hp, hq⟩, e | e⟩ := e
        · exact (hd p q hp hq e).1
        · exact (hd q p hq hp e).2
      · rw [l_X12_stepsOf_40, hn, h2, if_neg (nI_nlt (Nat.le_refl _) (by omega))]
theorem st_all {n : Nat → Int32} {P : Nat} (hP : P ≤ 20) (h2 : n 2 = nI P) (hv : ∀ p : Nat, p < P → vP P (n (14 * p + 112)) ∧ vP P (n (14 * p + 113))) : ∀ (g k : Nat) (T : FS) (d : Nat → Nat), k ≤ 19 → 19 - k < g → T.2 55 = n → BI n P k d → (∀ x : Nat, x < P → T.2 59 x = nI (d x)) →
    ∃ (T' : FS) (d' : Nat → Nat), E59 T T' ∧ BI n P 19 d' ∧ (∀ x : Nat, x < P → T'.2 59 x = nI (d' x)) ∧ ∀ kk, l_X12_stepsOf_32 kk g T (nI (k + 1)) = kk T' (nI 20) := by
  intro g
  induction g with
  | zero => intro k T d _ h; exact absurd h (Nat.not_lt_zero _)
  | succ g ih =>
    intro k T d hi hg hn hb hm
    by_cases c : k < 19
    · obtain ⟨T1, d1, e1, b1, m1, g1⟩ := st_rnd hP h2 c hv FU 0 T d (Nat.zero_le _) (FU_lt (by omega)) hn hb hm (fun p q z => absurd z (Nat.not_lt_zero _))
      obtain ⟨T2, d2, e2, b2, m2, g2⟩ := ih (k + 1) T1 d1 (by omega) (by omega) ((e1.2 55 (by decide)).trans hn) b1 m1
      refine ⟨T2, d2, e1.tr e2, b2, m2, fun kk => ?_⟩
      rw [l_X12_stepsOf_32, if_pos (show nI (k + 1) < 20 from nI_lt (b := 20) (by omega) (by decide)), show ∀ kk, l_X12_stepsOf_40 (nI (k + 1)) kk FU T 0 = kk T1 (nI P) from g1, nI_1]; exact g2 kk
    · have ei : k = 19 := by omega
      subst ei
      refine ⟨T, d, E59.rf, hb, hm, fun kk => ?_⟩
      rw [l_X12_stepsOf_32, if_neg (by decide)]
theorem st_ini : ∀ (g i : Nat) (T : FS), i ≤ 20 → 20 - i < g → (∀ x : Nat, x < i → T.2 59 x = nI (if x = 0 then 0 else 99)) → ∃ T' : FS, E59 T T' ∧ (∀ x : Nat, x < 20 → T'.2 59 x = nI (if x = 0 then 0 else 99)) ∧ ∀ kk, l_X12_stepsOf_2 kk g T (nI i) = kk T' (nI 20) := by
  intro g
  induction g with
  | zero => intro i T _ h; exact absurd h (Nat.not_lt_zero _)
  | succ g ih =>
    intro i T hi hg hm
    by_cases c : i < 20
    · have i20 : nI i < 20 := nI_lt (b := 20) c (by decide)
      obtain ⟨T1, e1, m1, g1⟩ := ih (i + 1) (wA T 59 i (nI (if i = 0 then 0 else 99))) (by omega) (by omega) (fun x hx => by
        rw [wA_e]
        by_cases z : x = i
        · subst z; rw [pk_us]
        · rw [pk_un z]; exact hm x (by omega))
      refine ⟨T1, E59.w.tr e1, m1, fun kk => ?_⟩
      rw [l_X12_stepsOf_2, if_pos i20, ix_nI c (by decide)]
      by_cases z : i = 0
      · subst z
        rw [show nI 0 = 0 from nI_0, if_pos rfl, fb_s, fl_s]; exact g1 kk
      · rw [if_neg (nI_ne0 (by omega) (by omega)), fb_s, fl_s, nI_1]
        rw [if_neg z] at g1; exact g1 kk
    · have ei : i = 20 := by omega
      subst ei
      refine ⟨T, E59.rf, hm, fun kk => ?_⟩
      rw [l_X12_stepsOf_2, if_neg (by decide)]
/-- the model's steps are the class's -/
theorem RelR.steps (h : RelR K S (T.2 55)) {p : Nat} (hp : p < K 2) : ∃ T' : FS, E59 T T' ∧ f_X12_stepsOf T (nI p) = some (S.2 7 (14 * p + 11), T') := by
  obtain ⟨k1, k2, c2⟩ := h.ct 6 2 20 (by decide)
  obtain ⟨s, s1, s2, s3, s4⟩ := h.st
  have hv : ∀ p : Nat, p < K 2 → vP (K 2) (T.2 55 (14 * p + 112)) ∧ vP (K 2) (T.2 55 (14 * p + 113)) := fun p hp => ⟨(h.pe p hp).2.2.2.1, (h.pe p hp).2.2.2.2.1⟩
  obtain ⟨T1, e1, m1, g1⟩ := st_ini FU 0 T (Nat.zero_le _) (FU_lt (by omega)) (fun x hx => absurd hx (Nat.not_lt_zero _))
  have b0 : BI (T.2 55) (K 2) 0 (fun x => if x = 0 then 0 else 99) := by
    refine ⟨fun p _ => by show (if p = 0 then 0 else 99) ≤ 99; split <;> omega, if_pos rfl, fun p q _ z => absurd z (Nat.not_lt_zero _), fun p _ p0 z => ?_, fun D d0 _ p _ z => ?_⟩
    · rw [show (fun x => if x = 0 then 0 else 99) p = 99 from if_neg p0] at z; omega
    · by_cases p0 : p = 0
      · subst p0; rw [d0]; exact Nat.zero_le _
      · rw [show (fun x => if x = 0 then 0 else 99) p = 99 from if_neg p0] at z; omega
  obtain ⟨T2, d2, e2, b2, m2, g2⟩ := st_all c2 k2 hv FU 0 T1 _ (by omega) (FU_lt (by omega)) (e1.2 55 (by decide)) b0 (fun x hx => m1 x (by omega))
  refine ⟨T2, e1.tr e2, ?_⟩
  unfold f_X12_stepsOf
  rw [show ∀ kk, l_X12_stepsOf_2 kk FU T 0 = kk T1 (nI 20) from g1, show ∀ kk, l_X12_stepsOf_32 kk FU T1 1 = kk T2 (nI 20) from g2, ix_nI (by omega) (by decide), fb_s, m2 p hp, (s1 p hp).1]
  have f2 := b2.fin (by omega) (by decide) (by omega)
  have a1 := s4 d2 b2.2.1 f2.1 p hp
  have a2 := b2.2.2.2.2 s (s2 (by omega)) s3 p hp
  have a3 := (s1 p hp).2
  have a4 := f2.2 p hp
  have : d2 p = s p := by omega
  rw [this]
end STP
