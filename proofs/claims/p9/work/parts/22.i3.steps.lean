/-! ===== pure: steps, the class's; about ===== -/
section STC
variable {K : Nat → Nat} {S T : FS} {za zb zc zd : Int32}
def E11 (S S' : FS) : Prop := S'.1 = S.1 ∧ (∀ a : Nat, a ≠ 7 → S'.2 a = S.2 a) ∧ ∀ j : Nat, j % 14 ≠ 11 → S'.2 7 j = S.2 7 j
theorem E11.rf : E11 S S := ⟨rfl, fun _ _ => rfl, fun _ _ => rfl⟩
theorem E11.tr {A B C : FS} (h : E11 A B) (g : E11 B C) : E11 A C := ⟨g.1.trans h.1, fun a ha => (g.2.1 a ha).trans (h.2.1 a ha), fun j hj => (g.2.2 j hj).trans (h.2.2 j hj)⟩
theorem E11.w {p : Nat} {v : Int32} : E11 S (wA S 7 (14 * p + 11) v) := ⟨rfl, fun _ ha => wA_n ha, fun j hj => by rw [wA_e, pk_un (by omega)]⟩
theorem m7_w {P q v : Nat} {d : Nat → Nat} (hm : ∀ x : Nat, x < P → S.2 7 (14 * x + 11) = nI (d x)) : ∀ x : Nat, x < P → (wA S 7 (14 * q + 11) (nI v)).2 7 (14 * x + 11) = nI (nU d q v x) := by
  intro x hx
  rw [wA_e]
  by_cases z : x = q
  · subst z; rw [pk_us, nU_e]
  · rw [pk_un (by omega), nU_n z]; exact hm x hx
theorem bn_one {n : Nat → Int32} {P k p c : Nat} {d : Nat → Nat} (hP : P ≤ 20) (hp : p < P) (hc : c = 112 ∨ c = 113) (hb : BI n P k d) (hm : ∀ x : Nat, x < P → S.2 7 (14 * x + 11) = nI (d x)) (hv : vP P (n (14 * p + c))) :
    ∃ (S' : FS) (d' : Nat → Nat), E11 S S' ∧ BI n P k d' ∧ (∀ x : Nat, x < P → S'.2 7 (14 * x + 11) = nI (d' x)) ∧ (∀ x y : Nat, Dn k d x y → Dn k d' x y) ∧ (∀ q : Nat, q < P → n (14 * p + c) = nI q → Dn k d' p q ∧ Dn k d' q p) ∧ f_X7_bringNearer S (nI p) (n (14 * p + c)) = some (0, S') := by
  unfold f_X7_bringNearer
  rcases hv with e | ⟨q, hq, e⟩
  · refine ⟨S, d, E11.rf, hb, hm, fun _ _ z => z, fun q hq z => ?_, by rw [if_pos e]⟩
    rw [e] at z; exact absurd z.symm (nI_m1 (by omega))
  · have eg : EG n P p q := ⟨⟨hp, hq⟩, Or.inl (by rcases hc with rfl | rfl; exact Or.inl e; exact Or.inr e)⟩
    have d9p := hb.1 p hp
    have d9q := hb.1 q hq
    have inj : ∀ q' : Nat, q' < P → nI q = nI q' → q' = q := fun q' hq' z => (nI_inj (by omega) (by omega) z).symm
    have p20 : p < 20 := by omega
    have q20 : q < 20 := by omega
    rw [if_neg (by rw [e]; exact nI_m1 (by omega)), e]
    simp only [g6_11 p20, g6_11 q20, fv_s, fl_s, s6_11 p20, s6_11 q20, hm p hp, hm q hq, nI_1, imin_n (show d p < 2 ^ 31 by omega) (show d q + 1 < 2 ^ 31 by omega), imin_n (show d q < 2 ^ 31 by omega) (show d p + 1 < 2 ^ 31 by omega)]
    by_cases c1 : d q + 1 < d p
    · have r := hb.rlx eg.symm c1
      have hpq : q ≠ p := fun z => by subst z; omega
      rw [show min (d p) (d q + 1) = d q + 1 by omega, show min (d q) (d p + 1) = d q by omega]
      refine ⟨_, nU d p (d q + 1), E11.w.tr E11.w, r.1, fun x hx => ?_, r.2.2, fun q' hq' z => ?_, rfl⟩
      · have := m7_w (q := q) (v := d q) (m7_w (q := p) (v := d q + 1) hm) x hx
        rw [this]
        by_cases z : x = q
        · subst z; rw [nU_e, nU_n hpq]
        · rw [nU_n z]
      · rw [inj q' hq' z]
        exact ⟨fun z => by rw [nU_e, nU_n hpq]; omega, r.2.1⟩
    · by_cases c2 : d p + 1 < d q
      · have r := hb.rlx eg c2
        have hpq : p ≠ q := fun z => by subst z; omega
        rw [show min (d p) (d q + 1) = d p by omega, show min (d q) (d p + 1) = d p + 1 by omega]
        refine ⟨_, nU d q (d p + 1), E11.w.tr E11.w, r.1, fun x hx => ?_, r.2.2, fun q' hq' z => ?_, rfl⟩
        · have := m7_w (q := q) (v := d p + 1) (m7_w (q := p) (v := d p) hm) x hx
          rw [this]
          by_cases z : x = q
          · subst z; rw [nU_e, nU_e]
          · rw [nU_n z, nU_n z]
            by_cases y : x = p
            · subst y; rw [nU_e]
            · rw [nU_n y]
        · rw [inj q' hq' z]
          exact ⟨r.2.1, fun z => by rw [nU_e, nU_n hpq]; omega⟩
      · rw [show min (d p) (d q + 1) = d p by omega, show min (d q) (d p + 1) = d q by omega]
        refine ⟨_, d, E11.w.tr E11.w, hb, fun x hx => ?_, fun _ _ z => z, fun q' hq' z => ?_, rfl⟩
        · have := m7_w (q := q) (v := d q) (m7_w (q := p) (v := d p) hm) x hx
          rw [this]
          by_cases z : x = q
          · subst z; rw [nU_e]
          · rw [nU_n z]
            by_cases y : x = p
            · subst y; rw [nU_e]
            · rw [nU_n y]
        · rw [inj q' hq' z]
          exact ⟨fun z => by omega, fun z => by omega⟩
theorem bn_rnd {n : Nat → Int32} {P k : Nat} (hP : P ≤ 20) (hv : ∀ p : Nat, p < P → vP P (n (14 * p + 112)) ∧ vP P (n (14 * p + 113))) : ∀ (g i : Nat) (S : FS) (d : Nat → Nat), i ≤ P → P - i < g → (∀ p : Nat, p < P → S.2 7 (14 * p + 2) = n (14 * p + 112) ∧ S.2 7 (14 * p + 3) = n (14 * p + 113)) → BI n P k d → (∀ x : Nat, x < P → S.2 7 (14 * x + 11) = nI (d x)) → (∀ p q : Nat, p < i → q < P → n (14 * p + 112) = nI q ∨ n (14 * p + 113) = nI q → Dn k d p q ∧ Dn k d q p) →
    ∃ (S' : FS) (d' : Nat → Nat), E11 S S' ∧ BI n P (k + 1) d' ∧ (∀ x : Nat, x < P → S'.2 7 (14 * x + 11) = nI (d' x)) ∧ ∀ kk, l_X7_findSteps_17 (nI P) kk g S (nI i) = kk S' (nI P) := by
  intro g
  induction g with
  | zero => intro i S d _ h; exact absurd h (Nat.not_lt_zero _)
  | succ g ih =>
    intro i S d hi hg hn hb hm hd
    by_cases c : i < P
    · obtain ⟨S1, d1, e1, b1, m1, x1, y1, g1⟩ := bn_one hP c (Or.inl rfl) hb hm (hv i c).1
      obtain ⟨S2, d2, e2, b2, m2, x2, y2, g2⟩ := bn_one hP c (Or.inr rfl) b1 m1 (hv i c).2
      have e12 := e1.tr e2
      obtain ⟨S3, d3, e3, b3, m3, g3⟩ := ih (i + 1) S2 d2 (by omega) (by omega) (fun p hp => by rw [e12.2.2 _ (by omega), e12.2.2 _ (by omega)]; exact hn p hp) b2 m2 (fun p q hp hq z => by
        by_cases e : p = i
        · subst e
          rcases z with z | z
          · exact ⟨x2 _ _ (y1 q hq z).1, x2 _ _ (y1 q hq z).2⟩
          · exact y2 q hq z
        · have := hd p q (by omega) hq z
          exact ⟨x2 _ _ (x1 _ _ this.1), x2 _ _ (x1 _ _ this.2)⟩)
      refine ⟨S3, d3, e12.tr e3, b3, m3, fun kk => ?_⟩
      rw [l_X7_findSteps_17, if_pos (nI_lt c (by omega)), g6_2 (by omega), (hn i c).1, g1, fb_s, g6_3 (by omega), e1.2.2 _ (by omega), (hn i c).2, g2, fb_s, nI_1]; exact g3 kk
    · have ei : i = P := by omega
      subst ei
      refine ⟨S, d, E11.rf, hb.next (fun p q e => ?_), hm, fun kk => ?_⟩
      · obtain ⟨⟨hp, hq⟩, e | e⟩ := e
        · exact (hd p q hp hq e).1
        · exact (hd q p hq hp e).2
      · rw [l_X7_findSteps_17, if_neg (nI_nlt (Nat.le_refl _) (by omega))]
theorem bn_all {n : Nat → Int32} {P : Nat} (hP : P ≤ 20) (hv : ∀ p : Nat, p < P → vP P (n (14 * p + 112)) ∧ vP P (n (14 * p + 113))) : ∀ (g k : Nat) (S : FS) (d : Nat → Nat), k ≤ P → P - k < g → (∀ p : Nat, p < P → S.2 7 (14 * p + 2) = n (14 * p + 112) ∧ S.2 7 (14 * p + 3) = n (14 * p + 113)) → BI n P k d → (∀ x : Nat, x < P → S.2 7 (14 * x + 11) = nI (d x)) →
    ∃ (S' : FS) (d' : Nat → Nat), E11 S S' ∧ BI n P P d' ∧ (∀ x : Nat, x < P → S'.2 7 (14 * x + 11) = nI (d' x)) ∧ ∀ kk, l_X7_findSteps_10 (nI P) kk g S (nI k) = kk S' (nI P) := by
  intro g
  induction g with
  | zero => intro k S d _ h; exact absurd h (Nat.not_lt_zero _)
  | succ g ih =>
    intro k S d hi hg hn hb hm
    by_cases c : k < P
    · obtain ⟨S1, d1, e1, b1, m1, g1⟩ := bn_rnd hP hv FU 0 S d (Nat.zero_le _) (FU_lt (by omega)) hn hb hm (fun p q z => absurd z (Nat.not_lt_zero _))
      obtain ⟨S2, d2, e2, b2, m2, g2⟩ := ih (k + 1) S1 d1 (by omega) (by omega) (fun p hp => by rw [e1.2.2 _ (by omega), e1.2.2 _ (by omega)]; exact hn p hp) b1 m1
      refine ⟨S2, d2, e1.tr e2, b2, m2, fun kk => ?_⟩
      rw [l_X7_findSteps_10, if_pos (nI_lt c (by omega)), show ∀ kk, l_X7_findSteps_17 (nI P) kk FU S 0 = kk S1 (nI P) from g1, nI_1]; exact g2 kk
    · have ei : k = P := by omega
      subst ei
      refine ⟨S, d, E11.rf, hb, hm, fun kk => ?_⟩
      rw [l_X7_findSteps_10, if_neg (nI_nlt (Nat.le_refl _) (by omega))]
/-- the class finds the steps anew -/
theorem findSteps_e {n : Nat → Int32} {d : Nat → Nat} (hP : K 2 ≤ 20) (hP1 : 1 ≤ K 2) (h6 : S.1 6 = nI (K 2)) (hv : ∀ p : Nat, p < K 2 → vP (K 2) (n (14 * p + 112)) ∧ vP (K 2) (n (14 * p + 113))) (hn : ∀ p : Nat, p < K 2 → S.2 7 (14 * p + 2) = n (14 * p + 112) ∧ S.2 7 (14 * p + 3) = n (14 * p + 113)) (hb : BI n (K 2) 0 d) (hm : ∀ x : Nat, x < K 2 → S.2 7 (14 * x + 11) = nI (d x)) :
    ∃ S' : FS, E11 S S' ∧ RSt K (S'.2 7) n ∧ f_X7_findSteps S = some (0, S') := by
  obtain ⟨S1, d1, e1, b1, m1, g1⟩ := bn_all hP hv FU 0 S d (Nat.zero_le _) (FU_lt (by omega)) hn hb hm
  have f := b1.fin (by omega) (by omega) hP1
  refine ⟨S1, e1, ⟨d1, fun p hp => ⟨m1 p hp, ?_⟩, fun _ => b1.2.1, f.1, b1.2.2.2.2⟩, ?_⟩
  · have := f.2 p hp; omega
  · unfold f_X7_findSteps
    rw [fv_s, h6, show ∀ kk, l_X7_findSteps_10 (nI (K 2)) kk FU S 0 = kk S1 (nI (K 2)) from g1]
end STC
