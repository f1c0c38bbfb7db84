/-! ===== pure: weights, both sides alike ===== -/
section WEX
variable {K : Nat → Nat} {S T : FS} {za zb zc zd ze : Int32}
def un (x : Int32) : Int32 := p_X12_isUnder ((fun _ => 0), (fun _ _ => 0)) x 1
/-- how many offices p holds among the first i powers -/
def pwn (n : Nat → Int32) (p : Nat) : Nat → Nat
  | 0 => 0
  | i + 1 => if n (6 * i + 391) = nI p then (if un (n (6 * i + 390)) = 0 then pwn n p i else pwn n p i + 1) else pwn n p i
theorem pwn_le {n : Nat → Int32} {p : Nat} : ∀ i : Nat, pwn n p i ≤ i
  | 0 => Nat.le_refl _
  | i + 1 => by
    have := pwn_le (n := n) (p := p) i
    rw [pwn]
    repeat' split
    all_goals omega
theorem wt_x (h : RelR K S (T.2 55)) {p : Nat} : ∀ (m i : Nat), i ≤ K 3 → K 3 - i < m → ∀ k, l_X0_weightOf_43 (nI p) (nI (K 3)) k m S (nI (1 + pwn (T.2 55) p i)) (nI i) = k S (nI (1 + pwn (T.2 55) p (K 3))) (nI (K 3)) := by
  have c3 := (h.ct 8 3 20 (by decide)).2.2
  intro m
  induction m with
  | zero => intro i _ hm; exact absurd hm (Nat.not_lt_zero _)
  | succ m ih =>
    intro i hi hm k
    by_cases c : i < K 3
    · have i20 : i < 20 := by omega
      have kk : q_X7_isOfKind S (nI i) 1 = some (un (T.2 55 (6 * i + 390))) := h.kind c (z := 1) (by decide)
      have e2 : S.2 9 (6 * i + 2) = T.2 55 (6 * i + 391) := (h.pw i c).1.2.2.1
      have r := ih (i + 1) (by omega) (by omega) k
      rw [pwn] at r
      rw [l_X0_weightOf_43]
      by_cases a : T.2 55 (6 * i + 391) = nI p
      · by_cases b : un (T.2 55 (6 * i + 390)) = 0
        · rw [if_pos a, if_pos b] at r
          simp only [nI_lt c (show K 3 < 2 ^ 31 by omega), g8_2 i20, e2, a, kk, fb_s, b, nI_1, ↓reduceIte]; exact r
        · rw [if_pos a, if_neg b, ← Nat.add_assoc] at r
          simp only [nI_lt c (show K 3 < 2 ^ 31 by omega), g8_2 i20, e2, a, kk, fb_s, b, nI_1, ↓reduceIte]; exact r
      · rw [if_neg a] at r
        simp only [nI_lt c (show K 3 < 2 ^ 31 by omega), g8_2 i20, e2, a, nI_1, ↓reduceIte]; exact r
    · obtain rfl : i = K 3 := by omega
      rw [l_X0_weightOf_43, if_neg (nI_nlt (Nat.le_refl _) (by omega))]
theorem wtM_x (h : RelR K S (T.2 55)) {p : Nat} : ∀ (m i : Nat), i ≤ K 3 → K 3 - i < m → ∀ k, l_X12_weigh_84 (nI p) k m T (nI (1 + pwn (T.2 55) p i)) (nI i) = k T (nI (1 + pwn (T.2 55) p (K 3))) (nI (K 3)) := by
  obtain ⟨k1, k2, c3⟩ := h.ct 8 3 20 (by decide)
  intro m
  induction m with
  | zero => intro i _ hm; exact absurd hm (Nat.not_lt_zero _)
  | succ m ih =>
    intro i hi hm k
    by_cases c : i < K 3
    · have i20 : i < 20 := by omega
      have lt := nI_lt c (show K 3 < 2 ^ 31 by omega)
      have r := ih (i + 1) (by omega) (by omega) k
      rw [pwn] at r
      rw [l_X12_weigh_84]
      have ku : p_X12_isUnder T (T.2 55 (6 * i + 390)) 1 = un (T.2 55 (6 * i + 390)) := rfl
      by_cases a : T.2 55 (6 * i + 391) = nI p
      · by_cases b : un (T.2 55 (6 * i + 390)) = 0
        · rw [if_pos a, if_pos b] at r
          simp only [k2, lt, its_1 i20, its_0 i20, fb_s, fv_s, a, ku, b, nI_1, Int32.add_zero, ↓reduceIte]; exact r
        · rw [if_pos a, if_neg b, ← Nat.add_assoc] at r
          simp only [k2, lt, its_1 i20, its_0 i20, fb_s, fv_s, a, ku, b, nI_1, ↓reduceIte]; exact r
      · rw [if_neg a] at r
        simp only [k2, lt, its_1 i20, fb_s, fv_s, a, nI_1, Int32.add_zero, ↓reduceIte]; exact r
    · obtain rfl : i = K 3 := by omega
      rw [l_X12_weigh_84, k2, if_neg (nI_nlt (Nat.le_refl _) (by omega))]
/-- what a law comes to, of one that lives: the same on both sides, wherever the scratch stands -/
theorem RelR.cdet (h : RelR K S (T.2 55)) {l p : Nat} (hl : l < K 4) (hp : p < K 2) (hv : T.2 55 (14 * p + 119) = -1) (d : Int32) : ∃ c : Int32, (∀ S1 : FS, EW S S1 → ∃ S2 : FS, EC S1 S2 ∧ f_X2_comesTo S1 (nI l) (nI p) (-1) d = some (c, S2)) ∧ ∀ T1 : FS, EV T T1 → ∃ T2 : FS, EM T1 T2 ∧ f_X12_comesTo T1 (nI l) (nI p) (-1) d = some (c, T2) := by
  have c2 := (h.ct 6 2 20 (by decide)).2.2
  have e4 : S.2 7 (14 * p + 4) = T.2 55 (14 * p + 114) := by
    rcases (h.pe p hp).2.2.1 with a | a
    · exact a.2.2.1
    · obtain ⟨q, hq, eq⟩ := a.2.1
      rw [hv] at eq
      exact absurd (show nI q < 0 by rw [← eq]; decide) (nI_pos (by omega))
  have ta : ∀ S1 T1 : FS, EW S S1 → EV T T1 → ∃ (v : Int32) (S2 T2 : FS), f_X2_comesTo S1 (nI l) (nI p) (-1) d = some (v, S2) ∧ f_X12_comesTo T1 (nI l) (nI p) (-1) d = some (v, T2) ∧ EC S1 S2 ∧ EM T1 T2 := fun S1 T1 e1 e2 => by
    have h1 : RelR K S1 (T1.2 55) := by rw [e2.me.2]; exact h.ce e1.ce
    obtain ⟨v, w, S2, T2, r1, r2, r3, r4, r5⟩ := h1.comes (zb := nI p) (zc := -1) (zd := d) hl (Or.inr ⟨p, hp, rfl⟩) (Or.inl rfl)
    have q : v = w := r5 (fun q hq e => by
      have : q = p := nI_inj (by omega) (by omega) e.symm
      subst this
      rw [e1.2 7 (by decide) (by decide) (by decide), e2.me.2]; exact e4)
    subst q
    exact ⟨v, S2, T2, r1, r2, r3, r4⟩
  obtain ⟨v, S2, T2, a1, a2, a3, a4⟩ := ta S T EW.rf EV.rf
  refine ⟨v, fun S1 e => ?_, fun T1 e => ?_⟩
  · obtain ⟨w, S3, T3, b1, b2, b3, b4⟩ := ta S1 T e EV.rf
    rw [a2] at b2
    have q : v = w := congrArg Prod.fst (Option.some.inj b2)
    exact ⟨S3, b3, by rw [b1, q]⟩
  · obtain ⟨w, S3, T3, b1, b2, b3, b4⟩ := ta S T1 EW.rf e
    rw [a1] at b1
    have q : v = w := congrArg Prod.fst (Option.some.inj b1)
    exact ⟨T3, b4, by rw [b2, q]⟩
/-- the weight of one that is seated, on both sides -/
def WX (K : Nat → Nat) (S T : FS) (lw : Int32) (p w : Nat) : Prop := w ≤ 21 ∧ (∀ S1 : FS, EW S S1 → ∃ S2 : FS, EC S1 S2 ∧ f_X0_weightOf S1 (nI p) lw = some (nI w, S2)) ∧ ∀ T1 : FS, EV T T1 → ∃ (c : Int32) (T2 : FS), EM T1 T2 ∧ f_X12_comesTo T1 lw (nI p) (-1) (T1.2 55 8) = some (c, T2) ∧ (c = 0 → w = 0) ∧ (c ≠ 0 → w = 1 + pwn (T.2 55) p (K 3))
theorem RelR.wtX (h : RelR K S (T.2 55)) {p : Nat} {lw : Int32} (hp : p < K 2) (hs : T.2 55 (14 * p + 121) ≠ 0) (hl : lw = -1 ∨ ∃ l : Nat, l < K 4 ∧ lw = nI l) : ∃ w : Nat, WX K S T lw p w := by
  have c4 := (h.ct 10 4 12 (by decide)).2.2
  have c3 := (h.ct 8 3 20 (by decide)).2.2
  obtain ⟨d1, d2, d3⟩ := h.ct 102 8 2000 (by decide)
  have hv : T.2 55 (14 * p + 119) = -1 := by
    rcases h.liv hp with ⟨a, -⟩ | ⟨-, a, -⟩
    · exact a
    · exact absurd a hs
  have le := pwn_le (n := T.2 55) (p := p) (K 3)
  have jn : ∀ S1 : FS, EW S S1 → j_X0_weightOf_26 (nI p) S1 = some (nI (1 + pwn (T.2 55) p (K 3)), S1) := fun S1 e => by
    have h1 : RelR K S1 (T.2 55) := h.ce e.ce
    have r := wt_x (p := p) h1 FU 0 (Nat.zero_le _) (FU_lt (by omega)) (fun S9 x9_3 x9_5 => some (x9_3, S9))
    unfold j_X0_weightOf_26
    rw [fv_s, (h1.ct 8 3 20 (by decide)).1]; exact r
  rcases hl with rfl | ⟨l, hl, rfl⟩
  · refine ⟨1 + pwn (T.2 55) p (K 3), by omega, fun S1 e => ⟨S1, EC.rf, ?_⟩, fun T1 e => ⟨1, T1, EM.rf, ?_, fun q => absurd q (by decide), fun _ => rfl⟩⟩
    · unfold f_X0_weightOf; rw [if_pos (by decide)]; exact jn S1 e
    · unfold f_X12_comesTo; rw [if_pos (by decide)]
  · obtain ⟨c, a, b⟩ := h.cdet hl hp hv (nI (K 8))
    have e102 : ∀ S1 : FS, EW S S1 → S1.1 102 = nI (K 8) := fun S1 e => (e.1 102 (by decide) (by decide) (by decide) (by decide) (by decide) (by decide)).trans d1
    have e8 : ∀ T1 : FS, EV T T1 → T1.2 55 8 = nI (K 8) := fun T1 e => by rw [e.me.2]; exact d2
    by_cases z : c = 0
    · refine ⟨0, by omega, fun S1 e => ?_, fun T1 e => ?_⟩
      · obtain ⟨S2, a1, a2⟩ := a S1 e
        refine ⟨S2, a1, ?_⟩
        unfold f_X0_weightOf
        rw [if_neg (nI_pos (by omega)), e102 S1 e, a2, fb_s, if_pos z]; rfl
      · obtain ⟨T2, b1, b2⟩ := b T1 e
        exact ⟨c, T2, b1, by rw [e8 T1 e]; exact b2, fun _ => rfl, fun q => absurd z q⟩
    · refine ⟨1 + pwn (T.2 55) p (K 3), by omega, fun S1 e => ?_, fun T1 e => ?_⟩
      · obtain ⟨S2, a1, a2⟩ := a S1 e
        refine ⟨S2, a1, ?_⟩
        unfold f_X0_weightOf
        rw [if_neg (nI_pos (by omega)), e102 S1 e, a2, fb_s, if_neg z]
        exact jn S2 (e.tr (EW.ec a1))
      · obtain ⟨T2, b1, b2⟩ := b T1 e
        exact ⟨c, T2, b1, by rw [e8 T1 e]; exact b2, fun q => absurd q z, fun _ => rfl⟩
/-! what one has promised -/
abbrev stQ (n : Nat → Int32) (d : Int32) (k : Nat) : Prop := n (6 * k + 1810) = 0 ∧ n (6 * k + 1811) = 0 ∧ ¬ n (6 * k + 1808) < d
theorem RelR.stx (h : RelR K S (T.2 55)) {k : Nat} (hk : k < K 7) : (stQ (T.2 55) (nI (K 8)) k ∧ p_X0_stands S (nI k) = 1 ∧ q_X12_stands T (nI k) = some 1) ∨ (¬ stQ (T.2 55) (nI (K 8)) k ∧ p_X0_stands S (nI k) = 0 ∧ q_X12_stands T (nI k) = some 0) := by
  rcases (h.stn hk).2 with ⟨a1, a2, a3, a4, a5, a6⟩ | ⟨a1, a2, a3⟩
  · exact Or.inl ⟨⟨a4, a5, a6⟩, a1, a2⟩
  · refine Or.inr ⟨fun q => ?_, a1, a2⟩
    rcases a3 with a3 | a3
    · exact q.2.2 a3
    · exact a3 (((h.pr k hk).2.2.1 q.2.2).mpr ⟨q.1, q.2.1⟩)
def vo (n : Nat → Int32) (d x : Int32) (p : Nat) : Nat → Int32
  | 0 => 0
  | k + 1 => if n (6 * k + 1807) = x ∧ stQ n d k ∧ n (6 * k + 1806) = nI p then (if n (6 * k + 1809) = 1 then 1 else -1) else vo n d x p k
theorem vo_1 {n : Nat → Int32} {d x : Int32} {p k : Nat} (hu : RPu K n) (h1 : n (6 * k + 1807) = x) (h2 : stQ n d k) (h3 : n (6 * k + 1806) = nI p) (h4 : n (6 * k + 1809) = 1) : ∀ i : Nat, k < i → i ≤ K 7 → vo n d x p i = 1
  | 0, hk, _ => absurd hk (Nat.not_lt_zero _)
  | i + 1, hk, hi => by
    rw [vo]
    by_cases e : k = i
    · subst e
      rw [if_pos ⟨h1, h2, h3⟩, if_pos h4]
    · by_cases c : n (6 * i + 1807) = x ∧ stQ n d i ∧ n (6 * i + 1806) = nI p
      · have := hu k i (by omega) (by omega) (h3.trans c.2.2.symm) (h1.trans c.1.symm)
        rw [h2.2.1] at this; exact absurd this (by decide)
      · rw [if_neg c]; exact vo_1 hu h1 h2 h3 h4 i (by omega) (by omega)
theorem vo_e {n : Nat → Int32} {d x : Int32} {p : Nat} : ∀ i : Nat, vo n d x p i = 1 → ∃ k : Nat, k < i ∧ n (6 * k + 1807) = x ∧ stQ n d k ∧ n (6 * k + 1806) = nI p ∧ n (6 * k + 1809) = 1
  | 0, h => absurd h (by rw [vo]; decide)
  | i + 1, h => by
    rw [vo] at h
    by_cases c : n (6 * i + 1807) = x ∧ stQ n d i ∧ n (6 * i + 1806) = nI p
    · rw [if_pos c] at h
      by_cases e : n (6 * i + 1809) = 1
      · exact ⟨i, by omega, c.1, c.2.1, c.2.2, e⟩
      · rw [if_neg e] at h; exact absurd h (by decide)
    · rw [if_neg c] at h
      obtain ⟨k, k1, k2⟩ := vo_e i h
      exact ⟨k, by omega, k2⟩
theorem pf_x (h : RelR K S (T.2 55)) {p : Nat} {x : Int32} : ∀ (m i : Nat), i ≤ K 7 → K 7 - i < m → (∀ k : Nat, k < i → ¬ (T.2 55 (6 * k + 1807) = x ∧ stQ (T.2 55) (nI (K 8)) k ∧ T.2 55 (6 * k + 1806) = nI p ∧ T.2 55 (6 * k + 1809) = 1)) → l_X0_isPromisedFor_11 (nI p) x S (nI (K 7)) (fun x8_4 => some 0) m (nI i) = some (if vo (T.2 55) (nI (K 8)) x p (K 7) = 1 then 1 else 0) := by
  have c7 := (h.ct 18 7 30 (by decide)).2.2
  intro m
  induction m with
  | zero => intro i _ hm; exact absurd hm (Nat.not_lt_zero _)
  | succ m ih =>
    intro i hi hm hn
    rw [l_X0_isPromisedFor_11]
    by_cases c : i < K 7
    · have i30 : i < 30 := by omega
      obtain ⟨e0, e1, e2, e3⟩ := (h.pr i c).1
      have go : ¬ (T.2 55 (6 * i + 1807) = x ∧ stQ (T.2 55) (nI (K 8)) i ∧ T.2 55 (6 * i + 1806) = nI p ∧ T.2 55 (6 * i + 1809) = 1) → l_X0_isPromisedFor_11 (nI p) x S (nI (K 7)) (fun x8_4 => some 0) m (nI (i + 1)) = some (if vo (T.2 55) (nI (K 8)) x p (K 7) = 1 then 1 else 0) := fun q => ih (i + 1) (by omega) (by omega) (fun k hk => by
        by_cases e : k = i
        · subst e; exact q
        · exact hn k (by omega))
      rw [if_pos (nI_lt c (by omega)), nI_1, g18_0 i30, g18_1 i30, g18_3 i30, e0, e1, e3]
      by_cases a0 : T.2 55 (6 * i + 1806) = nI p
      · by_cases a1 : T.2 55 (6 * i + 1807) = x
        · by_cases a3 : T.2 55 (6 * i + 1809) = 1
          · rw [if_pos a0, if_pos a1, if_pos a3]
            rcases h.stx c with ⟨s1, s2, s3⟩ | ⟨s1, s2, s3⟩
            · rw [s2, if_neg (by decide), if_pos (vo_1 h.ps.2 a1 s1 a0 a3 (K 7) c (Nat.le_refl _))]
            · rw [s2, if_pos rfl]; exact go (fun q => s1 q.2.1)
          · rw [if_pos a0, if_pos a1, if_neg a3]; exact go (fun q => a3 q.2.2.2)
        · rw [if_pos a0, if_neg a1]; exact go (fun q => a1 q.1)
      · rw [if_neg a0]; exact go (fun q => a0 q.2.2.1)
    · obtain rfl : i = K 7 := by omega
      rw [if_neg (nI_nlt (Nat.le_refl _) (by omega)), if_neg (fun q => by
        obtain ⟨k, k1, k2, k3, k4, k5⟩ := vo_e (K 7) q
        exact hn k k1 ⟨k2, k3, k4, k5⟩)]
/-! sums over the first i persons -/
def aw (n : Nat → Int32) (W : Nat → Nat) : Nat → Nat
  | 0 => 0
  | i + 1 => if n (14 * i + 121) = 0 then aw n W i else aw n W i + W i
def ow (n : Nat → Int32) (F : Nat → Int32) (W : Nat → Nat) : Nat → Nat
  | 0 => 0
  | i + 1 => if n (14 * i + 121) = 0 then ow n F W i else if F i = 1 then ow n F W i + W i else ow n F W i
def bw (n : Nat → Int32) (F : Nat → Int32) : Nat → Nat × (Nat → Nat)
  | 0 => (0, fun _ => 0)
  | i + 1 => if n (14 * i + 121) = 0 then bw n F i else if F i = 1 then bw n F i else ((bw n F i).1 + 1, fun k => if k = (bw n F i).1 then i else (bw n F i).2 k)
theorem bw_sc {F : Nat → Int32} (h : RelR K S (T.2 55)) : ∀ i : Nat, i ≤ K 2 → (bw (T.2 55) F i).1 ≤ sc (T.2 55) i
  | 0, _ => Nat.zero_le _
  | i + 1, hi => by
    have r := bw_sc (F := F) h i (by omega)
    have e : sc (T.2 55) (i + 1) = sc (T.2 55) i + if (T.2 55 (14 * i + 121) == 1) = true then 1 else 0 := rfl
    rw [bw, e]
    obtain ⟨v, hv, ev⟩ := (h.pe i (by omega)).2.2.2.2.2.2.1
    rcases (show v = 0 ∨ v = 1 by omega) with rfl | rfl
    · rw [if_pos (show T.2 55 (14 * i + 121) = 0 from ev)]; omega
    · rw [if_neg (by rw [ev]; decide), show (T.2 55 (14 * i + 121) == 1) = true by rw [ev]; rfl, if_pos rfl]
      split
      · omega
      · show (bw (T.2 55) F i).1 + 1 ≤ _; omega
theorem bw_9 {F : Nat → Int32} (h : RelR K S (T.2 55)) {i : Nat} (hi : i ≤ K 2) : (bw (T.2 55) F i).1 ≤ 9 := by
  have r := bw_sc (F := F) h i hi
  have s9 : sc (T.2 55) (K 2) ≤ 9 := h.se.1
  have := cnt_le (p := fun p => T.2 55 (14 * p + 121) == 1) (K 2 - i) i
  rw [show i + (K 2 - i) = K 2 by omega] at this
  have t : sc (T.2 55) i ≤ sc (T.2 55) (K 2) := this
  omega
theorem bw_w {n F : Nat → Int32} : ∀ (i k : Nat), k < (bw n F i).1 → (bw n F i).2 k < i ∧ n (14 * (bw n F i).2 k + 121) ≠ 0
  | 0, k, hk => absurd hk (Nat.not_lt_zero _)
  | i + 1, k, hk => by
    have r := bw_w (n := n) (F := F) i
    rw [bw] at hk ⊢
    by_cases c : n (14 * i + 121) = 0
    · rw [if_pos c] at hk ⊢
      obtain ⟨r1, r2⟩ := r k hk
      exact ⟨by omega, r2⟩
    · rw [if_neg c] at hk ⊢
      by_cases f : F i = 1
      · rw [if_pos f] at hk ⊢
        obtain ⟨r1, r2⟩ := r k hk
        exact ⟨by omega, r2⟩
      · rw [if_neg f] at hk ⊢
        show (if k = (bw n F i).1 then i else (bw n F i).2 k) < i + 1 ∧ n (14 * (if k = (bw n F i).1 then i else (bw n F i).2 k) + 121) ≠ 0
        have hk' : k < (bw n F i).1 + 1 := hk
        by_cases e : k = (bw n F i).1
        · rw [if_pos e]; exact ⟨by omega, c⟩
        · rw [if_neg e]
          obtain ⟨r1, r2⟩ := r k (by omega)
          exact ⟨by omega, r2⟩
/-- the class behind the first i persons -/
def CW (n F : Nat → Int32) (W : Nat → Nat) (i : Nat) (S : FS) : Prop := S.1 107 = nI (ow n F W i) ∧ S.1 108 = nI (aw n W i) ∧ S.1 34 = nI (bw n F i).1 ∧ (∀ k : Nat, k < (bw n F i).1 → S.2 35 k = nI ((bw n F i).2 k)) ∧ ∀ p : Nat, p < i → n (14 * p + 121) ≠ 0 → S.2 33 p = nI (W p)
theorem CW.ec {n F : Nat → Int32} {W : Nat → Nat} {i : Nat} {S S' : FS} (h : CW n F W i S) (e : EC S S') : CW n F W i S' := by
  obtain ⟨h1, h2, h3, h4, h5⟩ := h
  refine ⟨(e.1 107 (by decide)).trans h1, (e.1 108 (by decide)).trans h2, (e.1 34 (by decide)).trans h3, ?_, ?_⟩
  · rw [e.2 35 (by decide)]; exact h4
  · rw [e.2 33 (by decide)]; exact h5
theorem CW.one {W : Nat → Nat} {i : Nat} {x : Int32} (h : RelR K S (T.2 55)) (hi : i < K 2) (hs : T.2 55 (14 * i + 121) ≠ 0) (hc : CW (T.2 55) (fun p => vo (T.2 55) (nI (K 8)) x p (K 7)) W i S) : ∃ S' : FS, EW S S' ∧ f_X0_weighOne S (nI i) x (nI (W i)) = some (0, S') ∧ CW (T.2 55) (fun p => vo (T.2 55) (nI (K 8)) x p (K 7)) W (i + 1) S' := by
  have c2 := (h.ct 6 2 20 (by decide)).2.2
  obtain ⟨k1, k2, c7⟩ := h.ct 18 7 30 (by decide)
  obtain ⟨h1, h2, h3, h4, h5⟩ := hc
  unfold f_X0_weighOne
  rw [fl_s, fl_s, s32_0 (show i < 20 by omega)]
  have e0 : EW S (wI (wA S 33 i (nI (W i))) 108 ((wA S 33 i (nI (W i))).1 108 + nI (W i))) := (EW.wA (Or.inl rfl)).tr (EW.wI (by omega))
  have a108 : (wI (wA S 33 i (nI (W i))) 108 ((wA S 33 i (nI (W i))).1 108 + nI (W i))).1 108 = nI (aw (T.2 55) W (i + 1)) := by
    rw [wI_e, aw, if_neg hs]
    show S.1 108 + _ = _
    rw [h2, nI_add]
  have a33 : (wI (wA S 33 i (nI (W i))) 108 ((wA S 33 i (nI (W i))).1 108 + nI (W i))).2 33 = upd (S.2 33) i (nI (W i)) := by rw [wI_2, wA_e]
  have a35 : (wI (wA S 33 i (nI (W i))) 108 ((wA S 33 i (nI (W i))).1 108 + nI (W i))).2 35 = S.2 35 := by rw [wI_2, wA_n (by decide)]
  have a107 : (wI (wA S 33 i (nI (W i))) 108 ((wA S 33 i (nI (W i))).1 108 + nI (W i))).1 107 = S.1 107 := wI_n (by decide)
  have a34 : (wI (wA S 33 i (nI (W i))) 108 ((wA S 33 i (nI (W i))).1 108 + nI (W i))).1 34 = S.1 34 := wI_n (by decide)
  generalize wI (wA S 33 i (nI (W i))) 108 ((wA S 33 i (nI (W i))).1 108 + nI (W i)) = S2 at *
  have h2' : RelR K S2 (T.2 55) := h.ce e0.ce
  have e18 : S2.1 18 = nI (K 7) := (h2'.ct 18 7 30 (by decide)).1
  have pf : q_X0_isPromisedFor S2 (nI i) x = some (if vo (T.2 55) (nI (K 8)) x i (K 7) = 1 then 1 else 0) := by
    unfold q_X0_isPromisedFor; rw [fv_s, e18]; exact pf_x h2' FU 0 (Nat.zero_le _) (FU_lt (by omega)) (fun k hk => absurd hk (Nat.not_lt_zero _))
  rw [pf, fb_s]
  have w33 : ∀ p : Nat, p < i + 1 → T.2 55 (14 * p + 121) ≠ 0 → S2.2 33 p = nI (W p) := fun p hp hq => by
    rw [a33]
    by_cases e : p = i
    · subst e; rw [pk_us]
    · rw [pk_un e]; exact h5 p (by omega) hq
  by_cases f : vo (T.2 55) (nI (K 8)) x i (K 7) = 1
  · rw [if_pos f, if_neg (by decide), fl_s]
    refine ⟨_, e0.tr (EW.wI (by omega)), rfl, ?_, ?_, ?_, ?_, w33⟩
    · rw [wI_e, a107, h1, nI_add, ow, if_neg hs, if_pos f]
    · exact (wI_n (by decide)).trans a108
    · rw [bw, if_neg hs, if_pos f]; exact (wI_n (by decide)).trans (a34.trans h3)
    · rw [bw, if_neg hs, if_pos f]
      intro k hk
      show S2.2 35 k = _
      rw [a35]; exact h4 k hk
  · rw [if_neg f, if_pos rfl]
    have u9 : (bw (T.2 55) (fun p => vo (T.2 55) (nI (K 8)) x p (K 7)) i).1 < 9 := by
      have q := bw_9 (F := fun p => vo (T.2 55) (nI (K 8)) x p (K 7)) h (show i + 1 ≤ K 2 by omega)
      rw [bw, if_neg hs, if_neg f] at q
      exact q
    rw [fApp_f (a34.trans h3) u9 (by decide), fb_s]
    refine ⟨(ui S2.1 34 (nI ((bw (T.2 55) (fun p => vo (T.2 55) (nI (K 8)) x p (K 7)) i).1 + 1)), ua S2.2 35 (pm_apf 1 (bw (T.2 55) (fun p => vo (T.2 55) (nI (K 8)) x p (K 7)) i).1 (nI i) (S2.2 35))), e0.tr ⟨fun k q1 _ _ _ _ _ => ui_ne q1, fun a _ _ q3 => ua_ne q3⟩, rfl, ?_, ?_, ?_, ?_, ?_⟩
    · rw [ow, if_neg hs, if_neg f]
      show ui S2.1 34 (nI ((bw (T.2 55) (fun p => vo (T.2 55) (nI (K 8)) x p (K 7)) i).1 + 1)) 107 = _
      exact (ui_ne (by decide)).trans (a107.trans h1)
    · show ui S2.1 34 (nI ((bw (T.2 55) (fun p => vo (T.2 55) (nI (K 8)) x p (K 7)) i).1 + 1)) 108 = _
      exact (ui_ne (by decide)).trans a108
    · rw [bw, if_neg hs, if_neg f]
      show ui S2.1 34 (nI ((bw (T.2 55) (fun p => vo (T.2 55) (nI (K 8)) x p (K 7)) i).1 + 1)) 34 = _
      exact ui_eq
    · rw [bw, if_neg hs, if_neg f]
      intro k hk
      show ua S2.2 35 (pm_apf 1 (bw (T.2 55) (fun p => vo (T.2 55) (nI (K 8)) x p (K 7)) i).1 (nI i) (S2.2 35)) 35 k = nI (if k = (bw (T.2 55) (fun p => vo (T.2 55) (nI (K 8)) x p (K 7)) i).1 then i else (bw (T.2 55) (fun p => vo (T.2 55) (nI (K 8)) x p (K 7)) i).2 k)
      rw [ua_eq]
      have hk' : k < (bw (T.2 55) (fun p => vo (T.2 55) (nI (K 8)) x p (K 7)) i).1 + 1 := hk
      by_cases e : k = (bw (T.2 55) (fun p => vo (T.2 55) (nI (K 8)) x p (K 7)) i).1
      · rw [if_pos e, apf_0 (by omega) (by decide)]
      · rw [if_neg e, apf_o (by omega), a35]; exact h4 k (by omega)
    · intro p hp hq
      show ua S2.2 35 (pm_apf 1 (bw (T.2 55) (fun p => vo (T.2 55) (nI (K 8)) x p (K 7)) i).1 (nI i) (S2.2 35)) 33 p = _
      rw [ua_ne (by decide)]; exact w33 p hp hq
theorem weiC_x {x lw : Int32} {W : Nat → Nat} (h : RelR K S (T.2 55)) (hW : ∀ p : Nat, p < K 2 → T.2 55 (14 * p + 121) ≠ 0 → WX K S T lw p (W p)) : ∀ (m i : Nat) (S1 : FS), i ≤ K 2 → K 2 - i < m → EW S S1 → CW (T.2 55) (fun p => vo (T.2 55) (nI (K 8)) x p (K 7)) W i S1 → ∃ S' : FS, EW S S' ∧ CW (T.2 55) (fun p => vo (T.2 55) (nI (K 8)) x p (K 7)) W (K 2) S' ∧ ∀ k, l_X0_weigh_36 x lw (nI (K 2)) k m S1 (nI i) = k S' (nI (K 2)) := by
  have c2 := (h.ct 6 2 20 (by decide)).2.2
  intro m
  induction m with
  | zero => intro i S1 _ hm; exact absurd hm (Nat.not_lt_zero _)
  | succ m ih =>
    intro i S1 hi hm e hc
    by_cases c : i < K 2
    · have lt := nI_lt c (show K 2 < 2 ^ 31 by omega)
      have e13 : S1.2 7 (14 * i + 13) = T.2 55 (14 * i + 121) := by
        rw [e.2 7 (by decide) (by decide) (by decide)]; exact (h.pe i c).2.1.2.2.2.2
      by_cases a : T.2 55 (14 * i + 121) = 0
      · obtain ⟨S', r1, r2, r3⟩ := ih (i + 1) S1 (by omega) (by omega) e (by
          obtain ⟨h1, h2, h3, h4, h5⟩ := hc
          refine ⟨?_, ?_, ?_, ?_, fun p hp hq => ?_⟩
          · rw [ow, if_pos a]; exact h1
          · rw [aw, if_pos a]; exact h2
          · rw [bw, if_pos a]; exact h3
          · rw [bw, if_pos a]; exact h4
          · by_cases z : p = i
            · subst z; exact absurd a hq
            · exact h5 p (by omega) hq)
        refine ⟨S', r1, r2, fun k => ?_⟩
        rw [l_X0_weigh_36, if_pos lt, g6_13 (by omega), e13, if_pos a, nI_1]; exact r3 k
      · obtain ⟨S2, a1, a2⟩ := (hW i c a).2.1 S1 e
        have e2 := e.tr (EW.ec a1)
        obtain ⟨S3, b1, b2, b3⟩ := CW.one (h.ce e2.ce) c a (hc.ec a1)
        obtain ⟨S', r1, r2, r3⟩ := ih (i + 1) S3 (by omega) (by omega) (e2.tr b1) b3
        refine ⟨S', r1, r2, fun k => ?_⟩
        rw [l_X0_weigh_36, if_pos lt, g6_13 (by omega), e13, if_neg a, a2, fb_s, b2, fb_s, nI_1]; exact r3 k
    · obtain rfl : i = K 2 := by omega
      refine ⟨S1, e, hc, fun k => ?_⟩
      rw [l_X0_weigh_36, if_neg (nI_nlt (Nat.le_refl _) (by omega))]
/-! the model -/
def MW (n : Nat → Int32) (W : Nat → Nat) (i : Nat) (T : FS) : Prop := (∀ p : Nat, p < i → T.2 64 p = if n (14 * p + 121) = 0 then 0 else nI (W p)) ∧ ∀ p : Nat, p < i → T.2 65 p = 0
theorem weiM_x {lw : Int32} {W : Nat → Nat} (h : RelR K S (T.2 55)) (hW : ∀ p : Nat, p < K 2 → T.2 55 (14 * p + 121) ≠ 0 → WX K S T lw p (W p)) : ∀ (m i : Nat) (T1 : FS), i ≤ K 2 → K 2 - i < m → EV T T1 → MW (T.2 55) W i T1 → ∃ T' : FS, EV T T' ∧ MW (T.2 55) W (K 2) T' ∧ ∀ k, l_X12_weigh_67 lw k m T1 (nI i) = k T' (nI (K 2)) := by
  obtain ⟨k1, k2, c2⟩ := h.ct 6 2 20 (by decide)
  have c3 := (h.ct 8 3 20 (by decide)).2.2
  intro m
  induction m with
  | zero => intro i T1 _ hm; exact absurd hm (Nat.not_lt_zero _)
  | succ m ih =>
    intro i T1 hi hm e hc
    have en := e.me.2
    by_cases c : i < K 2
    · have i20 : i < 20 := by omega
      have lt := nI_lt c (show K 2 < 2 ^ 31 by omega)
      have h1 : RelR K S (T1.2 55) := by rw [en]; exact h
      have rx : ∀ k, l_X12_weigh_84 (nI i) k FU T1 1 0 = k T1 (nI (1 + pwn (T1.2 55) i (K 3))) (nI (K 3)) := wtM_x (p := i) h1 FU 0 (Nat.zero_le _) (FU_lt (by omega))
      rw [en] at rx
      have j20 := ix_nI i20 (show 20 ≤ 2 ^ 31 by decide)
      have nx : ∀ (T2 : FS) (y : Int32), EV T1 T2 → (T2.2 64 = T1.2 64 ∧ T2.2 65 = T1.2 65) → (y = if T.2 55 (14 * i + 121) = 0 then 0 else nI (W i)) → ∃ T' : FS, EV T T' ∧ MW (T.2 55) W (K 2) T' ∧ ∀ k, l_X12_weigh_67 lw k m (wA (wA T2 64 i y) 65 i 0) (nI (i + 1)) = k T' (nI (K 2)) := by
        intro T2 y e1 e45 hy
        refine ih (i + 1) (wA (wA T2 64 i y) 65 i 0) (by omega) (by omega) (e.tr ((e1.tr (EV.wA (Or.inl rfl))).tr (EV.wA (Or.inr rfl)))) ⟨fun p hp => ?_, fun p hp => ?_⟩
        · rw [wA_n (by decide), wA_e, e45.1]
          by_cases z : p = i
          · subst z; rw [pk_us]; exact hy
          · rw [pk_un z]; exact hc.1 p (by omega)
        · rw [wA_e, wA_n (by decide), e45.2]
          by_cases z : p = i
          · subst z; rw [pk_us]
          · rw [pk_un z]; exact hc.2 p (by omega)
      by_cases a : T.2 55 (14 * i + 121) = 0
      · obtain ⟨T', r1, r2, r3⟩ := nx T1 0 EV.rf ⟨rfl, rfl⟩ (by rw [if_pos a])
        refine ⟨T', r1, r2, fun k => ?_⟩
        rw [l_X12_weigh_67, en, k2, if_pos lt, rx]
        simp only [man_11 i20, fb_s, en, a, j20, fl_s, nI_1, ↓reduceIte]; exact r3 k
      · obtain ⟨v, T2, v1, v2, v3, v4⟩ := (hW i c a).2.2 T1 e
        have e45 : T2.2 64 = T1.2 64 ∧ T2.2 65 = T1.2 65 := ⟨v1.2 64 (by decide) (by decide) (by decide), v1.2 65 (by decide) (by decide) (by decide)⟩
        rw [en] at v2
        by_cases z : v = 0
        · obtain ⟨T', r1, r2, r3⟩ := nx T2 0 (EV.em v1) e45 (by rw [if_neg a, v3 z]; rfl)
          refine ⟨T', r1, r2, fun k => ?_⟩
          rw [l_X12_weigh_67, en, k2, if_pos lt, rx]
          simp only [man_11 i20, fb_s, en, a, v2, z, j20, fl_s, nI_1, ↓reduceIte]; exact r3 k
        · obtain ⟨T', r1, r2, r3⟩ := nx T2 (nI (1 + pwn (T.2 55) i (K 3))) (EV.em v1) e45 (by rw [if_neg a, v4 z])
          refine ⟨T', r1, r2, fun k => ?_⟩
          rw [l_X12_weigh_67, en, k2, if_pos lt, rx]
          simp only [man_11 i20, fb_s, en, a, v2, z, j20, fl_s, nI_1, ↓reduceIte]; exact r3 k
    · obtain rfl : i = K 2 := by omega
      refine ⟨T1, e, hc, fun k => ?_⟩
      rw [l_X12_weigh_67, en, k2, if_neg (nI_nlt (Nat.le_refl _) (by omega))]
theorem sgn_x {x : Int32} (h : RelR K S (T.2 55)) : ∀ (m i : Nat) (T1 : FS), i ≤ K 7 → K 7 - i < m → EV T T1 → (∀ p : Nat, p < K 2 → T1.2 65 p = vo (T.2 55) (nI (K 8)) x p i) → ∃ T' : FS, EV T T' ∧ T'.2 64 = T1.2 64 ∧ (∀ p : Nat, p < K 2 → T'.2 65 p = vo (T.2 55) (nI (K 8)) x p (K 7)) ∧ ∀ k, l_X12_weigh_196 x k m T1 (nI i) = k T' (nI (K 7)) := by
  obtain ⟨k1, k2, c7⟩ := h.ct 18 7 30 (by decide)
  have c2 := (h.ct 6 2 20 (by decide)).2.2
  intro m
  induction m with
  | zero => intro i T1 _ hm; exact absurd hm (Nat.not_lt_zero _)
  | succ m ih =>
    intro i T1 hi hm e hv
    have en := e.me.2
    by_cases c : i < K 7
    · have lt := nI_lt c (show K 7 < 2 ^ 31 by omega)
      have i30 : i < 30 := by omega
      have h1 : RelR K S (T1.2 55) := by rw [en]; exact h
      have hs := h1.stx c
      rw [en] at hs
      obtain ⟨p, hp, ep⟩ := (h.pr i c).2.2.2.1
      have jp := ix_nI (show p < 20 by omega) (show 20 ≤ 2 ^ 31 by decide)
      have no : ¬ (T.2 55 (6 * i + 1807) = x ∧ stQ (T.2 55) (nI (K 8)) i) → ∃ T' : FS, EV T T' ∧ T'.2 64 = T1.2 64 ∧ (∀ p : Nat, p < K 2 → T'.2 65 p = vo (T.2 55) (nI (K 8)) x p (K 7)) ∧ ∀ k, l_X12_weigh_196 x k m T1 (nI (i + 1)) = k T' (nI (K 7)) := fun q => ih (i + 1) T1 (by omega) (by omega) e (fun r hr => by
        rw [vo, if_neg (fun z => q ⟨z.1, z.2.1⟩)]; exact hv r hr)
      have nx : ∀ y : Int32, T.2 55 (6 * i + 1807) = x → stQ (T.2 55) (nI (K 8)) i → (y = if T.2 55 (6 * i + 1809) = 1 then 1 else -1) → ∃ T' : FS, EV T T' ∧ T'.2 64 = T1.2 64 ∧ (∀ p : Nat, p < K 2 → T'.2 65 p = vo (T.2 55) (nI (K 8)) x p (K 7)) ∧ ∀ k, l_X12_weigh_196 x k m (wA T1 65 p y) (nI (i + 1)) = k T' (nI (K 7)) := fun y q1 q2 hy => by
        obtain ⟨T', r1, r2, r3⟩ := ih (i + 1) (wA T1 65 p y) (by omega) (by omega) (e.tr (EV.wA (Or.inr rfl))) (fun r hr => by
          rw [wA_e, vo]
          by_cases z : r = p
          · subst z; rw [pk_us, if_pos ⟨q1, q2, ep⟩]; exact hy
          · rw [pk_un z, if_neg (fun t => z (nI_inj (by omega) (by omega) (t.2.2.symm.trans ep)))]; exact hv r hr)
        exact ⟨T', r1, by rw [r2, wA_n (by decide)], r3⟩
      by_cases a : T.2 55 (6 * i + 1807) = x
      · rcases hs with ⟨s1, -, q2⟩ | ⟨s1, -, q2⟩
        · by_cases b : T.2 55 (6 * i + 1809) = 1
          · obtain ⟨T', r1, r2, r3, r4⟩ := nx 1 a s1 (by rw [if_pos b])
            refine ⟨T', r1, r2, r3, fun k => ?_⟩
            rw [l_X12_weigh_196]
            simp only [en, k2, lt, promised_1 i30, promised_0 i30, promised_3 i30, fb_s, a, q2, i10, ep, b, jp, fl_s, nI_1, ↓reduceIte]; exact r4 k
          · obtain ⟨T', r1, r2, r3, r4⟩ := nx (-1) a s1 (by rw [if_neg b])
            refine ⟨T', r1, r2, r3, fun k => ?_⟩
            rw [l_X12_weigh_196]
            simp only [en, k2, lt, promised_1 i30, promised_0 i30, promised_3 i30, fb_s, a, q2, i10, ep, b, jp, fl_s, nI_1, ↓reduceIte]; exact r4 k
        · obtain ⟨T', r1, r2, r3, r4⟩ := no (fun q => s1 q.2)
          refine ⟨T', r1, r2, r3, fun k => ?_⟩
          rw [l_X12_weigh_196]
          simp only [en, k2, lt, promised_1 i30, fb_s, a, q2, nI_1, ↓reduceIte]; exact r4 k
      · obtain ⟨T', r1, r2, r3, r4⟩ := no (fun q => a q.1)
        refine ⟨T', r1, r2, r3, fun k => ?_⟩
        rw [l_X12_weigh_196]
        simp only [en, k2, lt, promised_1 i30, fb_s, a, nI_1, ↓reduceIte]; exact r4 k
    · obtain rfl : i = K 7 := by omega
      refine ⟨T1, e, rfl, hv, fun k => ?_⟩
      rw [l_X12_weigh_196, en, k2, if_neg (nI_nlt (Nat.le_refl _) (by omega))]
/-! the first that is seated -/
theorem lst_x (h : RelR K S (T.2 55)) : ∀ (m i : Nat) (x : Int32), i ≤ K 2 → i < m → ((x = -1 ∧ ∀ p : Nat, i ≤ p → p < K 2 → T.2 55 (14 * p + 121) ≠ 1) ∨ ∃ p : Nat, i ≤ p ∧ p < K 2 ∧ x = nI p ∧ T.2 55 (14 * p + 121) = 1 ∧ ∀ q : Nat, i ≤ q → q < p → T.2 55 (14 * q + 121) ≠ 1) → ∃ v : Int32, ((v = -1 ∧ ∀ p : Nat, p < K 2 → T.2 55 (14 * p + 121) ≠ 1) ∨ ∃ p : Nat, p < K 2 ∧ v = nI p ∧ T.2 55 (14 * p + 121) = 1 ∧ ∀ q : Nat, q < p → T.2 55 (14 * q + 121) ≠ 1) ∧ ∀ k, l_X12_weigh_11 k m T x (nI i - 1) = k T v (-1) := by
  have c2 := (h.ct 6 2 20 (by decide)).2.2
  intro m
  induction m with
  | zero => intro i x _ hm; exact absurd hm (Nat.not_lt_zero _)
  | succ m ih =>
    intro i x hi hm hx
    cases i with
    | zero =>
      refine ⟨x, ?_, fun k => ?_⟩
      · rcases hx with ⟨a, b⟩ | ⟨p, a1, a2, a3, a4, a5⟩
        · exact Or.inl ⟨a, fun p hp => b p (Nat.zero_le _) hp⟩
        · exact Or.inr ⟨p, a2, a3, a4, fun q hq => a5 q (Nat.zero_le _) hq⟩
      · rw [l_X12_weigh_11, if_pos (by decide)]; rfl
    | succ j =>
      have j20 : j < 20 := by omega
      by_cases a : T.2 55 (14 * j + 121) = 1
      · obtain ⟨v, r1, r2⟩ := ih j (nI j) (by omega) (by omega) (Or.inr ⟨j, Nat.le_refl _, by omega, rfl, a, fun q q1 q2 => absurd q2 (by omega)⟩)
        refine ⟨v, r1, fun k => ?_⟩
        rw [l_X12_weigh_11, nI_pred, if_neg (nI_pos (by omega)), man_11 j20, fb_s, if_pos a, ← Int32.sub_eq_add_neg]; exact r2 k
      · obtain ⟨v, r1, r2⟩ := ih j x (by omega) (by omega) (by
          rcases hx with ⟨b1, b2⟩ | ⟨p, a1, a2, a3, a4, a5⟩
          · refine Or.inl ⟨b1, fun p hp hq => ?_⟩
            by_cases z : p = j
            · subst z; exact a
            · exact b2 p (by omega) hq
          · refine Or.inr ⟨p, by omega, a2, a3, a4, fun q q1 q2 => ?_⟩
            by_cases z : q = j
            · subst z; exact a
            · exact a5 q (by omega) q2)
        refine ⟨v, r1, fun k => ?_⟩
        rw [l_X12_weigh_11, nI_pred, if_neg (nI_pos (by omega)), man_11 j20, fb_s, if_neg a, ← Int32.sub_eq_add_neg]; exact r2 k
theorem rif_x (h : RelR K S (T.2 55)) {v : Int32} (hv : (v = -1 ∧ ∀ p : Nat, p < K 2 → T.2 55 (14 * p + 121) ≠ 1) ∨ ∃ p : Nat, p < K 2 ∧ v = nI p ∧ T.2 55 (14 * p + 121) = 1 ∧ ∀ q : Nat, q < p → T.2 55 (14 * q + 121) ≠ 1) : ∀ (m i : Nat), i ≤ K 2 → K 2 - i < m → (∀ q : Nat, q < i → T.2 55 (14 * q + 121) ≠ 1) → l_X0_ruleInForce_13 S (nI (K 2)) (fun x7_2 => some (-1)) m (nI i) = some (if v = -1 then -1 else lg (T.2 55) 0 (nI (K 8)) (p_X7_knownTo S v) (K 4)) := by
  have c2 := (h.ct 6 2 20 (by decide)).2.2
  have d1 := (h.ct 102 8 2000 (by decide)).1
  intro m
  induction m with
  | zero => intro i _ hm; exact absurd hm (Nat.not_lt_zero _)
  | succ m ih =>
    intro i hi hm hn
    rw [l_X0_ruleInForce_13]
    by_cases c : i < K 2
    · have e13 : S.2 7 (14 * i + 13) = T.2 55 (14 * i + 121) := (h.pe i c).2.1.2.2.2.2
      obtain ⟨w, hw, ew⟩ := (h.pe i c).2.2.2.2.2.2.1
      rw [if_pos (nI_lt c (by omega)), g6_13 (by omega), e13]
      rcases (show w = 0 ∨ w = 1 by omega) with rfl | rfl
      · rw [if_pos (show T.2 55 (14 * i + 121) = 0 from ew), nI_1]
        exact ih (i + 1) (by omega) (by omega) (fun q hq => by
          by_cases z : q = i
          · subst z; rw [ew]; decide
          · exact hn q (by omega))
      · have e1 : T.2 55 (14 * i + 121) = 1 := ew
        rw [if_neg (by rw [e1]; decide)]
        rcases hv with ⟨a1, a2⟩ | ⟨p, a1, rfl, a3, a4⟩
        · exact absurd e1 (a2 i c)
        · have : p = i := by
            rcases Nat.lt_trichotomy p i with z | z | z
            · exact absurd a3 (hn p z)
            · exact z
            · exact absurd e1 (a4 i z)
          subst this
          rw [(h.inF 0 (S.1 102) (p_X7_knownTo S (nI p))).1, fb_s, d1, if_neg (fun q => absurd (show nI p < 0 by rw [q]; decide) (nI_pos (by omega)))]
    · obtain rfl : i = K 2 := by omega
      rw [if_neg (nI_nlt (Nat.le_refl _) (by omega))]
      rcases hv with ⟨a1, a2⟩ | ⟨p, a1, a2, a3, a4⟩
      · rw [if_pos a1]
      · exact absurd a3 (hn p a1)
/-- both sides weigh alike -/
theorem RelR.weiX (h : RelR K S (T.2 55)) (x : Int32) : ∃ (W : Nat → Nat) (S' T' : FS), EW S S' ∧ EV T T' ∧ f_X0_weigh S x = some (0, S') ∧ f_X12_weigh T x = some (0, T') ∧ CW (T.2 55) (fun p => vo (T.2 55) (nI (K 8)) x p (K 7)) W (K 2) S' ∧ ((∀ p : Nat, p < K 2 → T'.2 64 p = if T.2 55 (14 * p + 121) = 0 then 0 else nI (W p)) ∧ ∀ p : Nat, p < K 2 → T'.2 65 p = vo (T.2 55) (nI (K 8)) x p (K 7)) ∧ ∀ p : Nat, p < K 2 → T.2 55 (14 * p + 121) ≠ 0 → W p ≤ 21 := by
  obtain ⟨k1, k2, c2⟩ := h.ct 6 2 20 (by decide)
  have c7 := (h.ct 18 7 30 (by decide)).2.2
  obtain ⟨d1, d2, d3⟩ := h.ct 102 8 2000 (by decide)
  unfold f_X0_weigh f_X12_weigh
  rw [fl_s, fl_s, fl_s, fv_s, k2]
  have e0 : EW S (wI (wI (wI S 107 0) 108 0) 34 0) := ((EW.wI (by omega)).tr (EW.wI (by omega))).tr (EW.wI (by omega))
  have f34 : (wI (wI (wI S 107 0) 108 0) 34 0).1 34 = 0 := wI_e
  have f108 : (wI (wI (wI S 107 0) 108 0) 34 0).1 108 = 0 := by rw [wI_n (by decide), wI_e]
  have f107 : (wI (wI (wI S 107 0) 108 0) 34 0).1 107 = 0 := by rw [wI_n (by decide), wI_n (by decide), wI_e]
  generalize wI (wI (wI S 107 0) 108 0) 34 0 = S3 at *
  have h3 : RelR K S3 (T.2 55) := h.ce e0.ce
  have k1' := (h3.ct 6 2 20 (by decide)).1
  obtain ⟨v, hv, v2⟩ := lst_x h FU (K 2) (-1) (Nat.le_refl _) (FU_lt (by omega)) (Or.inl ⟨rfl, fun p h1 h2 => absurd h2 (by omega)⟩)
  have ri : q_X0_ruleInForce S3 = some (if v = -1 then -1 else lg (T.2 55) 0 (nI (K 8)) (p_X7_knownTo S3 v) (K 4)) := by
    unfold q_X0_ruleInForce; rw [fv_s, k1']; exact rif_x h3 hv FU 0 (Nat.zero_le _) (FU_lt (by omega)) (fun q hq => absurd hq (Nat.not_lt_zero _))
  have hl : (if v = -1 then (-1 : Int32) else lg (T.2 55) 0 (nI (K 8)) (p_X7_knownTo S3 v) (K 4)) = -1 ∨ ∃ l : Nat, l < K 4 ∧ (if v = -1 then (-1 : Int32) else lg (T.2 55) 0 (nI (K 8)) (p_X7_knownTo S3 v) (K 4)) = nI l := by
    by_cases z : v = -1
    · rw [if_pos z]; exact Or.inl rfl
    · rw [if_neg z]; exact lg_c (K 4)
  have hM : ∃ T1 : FS, EV T T1 ∧ ∀ (k : Int32 → FS → Option (Int32 × FS)), (if v < 0 then k (-1) T else fb (f_X12_knownTo T v) (fun r59 => fb (q_X12_inForce r59.2 0 (T.2 55 8) r59.1) (fun x61 => k x61 r59.2))) = k (if v = -1 then -1 else lg (T.2 55) 0 (nI (K 8)) (p_X7_knownTo S3 v) (K 4)) T1 := by
    rcases hv with ⟨rfl, -⟩ | ⟨p, hp, rfl, -, -⟩
    · exact ⟨T, EV.rf, fun k => by rw [if_pos (by decide), if_pos rfl]⟩
    · obtain ⟨T1, e1, e2⟩ := h3.knw hp
      have en := e1.2 55 (by decide)
      refine ⟨T1, ⟨e1.1, fun a h1 _ _ _ _ _ => e1.2 a h1⟩, fun k => ?_⟩
      rw [if_neg (nI_pos (by omega)), e2, fb_s]
      have h1 : RelR K S3 (T1.2 55) := by rw [en]; exact h3
      have q := (h1.inF 0 (T.2 55 8) (p_X7_knownTo S3 (nI p))).2
      rw [en, d2] at q
      rw [d2]
      show fb (q_X12_inForce T1 0 (nI (K 8)) (p_X7_knownTo S3 (nI p))) _ = _
      rw [q, fb_s, if_neg (fun q => absurd (show nI p < 0 by rw [q]; decide) (nI_pos (by omega)))]
  generalize (if v = -1 then (-1 : Int32) else lg (T.2 55) 0 (nI (K 8)) (p_X7_knownTo S3 v) (K 4)) = lw at *
  obtain ⟨T1, t1, t2⟩ := hM
  have h1 : RelR K S3 (T1.2 55) := by rw [t1.me.2]; exact h3
  have wx : ∀ p : Nat, ∃ w : Nat, p < K 2 → T1.2 55 (14 * p + 121) ≠ 0 → WX K S3 T1 lw p w := fun p => by
    by_cases a : p < K 2 ∧ T1.2 55 (14 * p + 121) ≠ 0
    · obtain ⟨w, hw⟩ := h1.wtX a.1 a.2 hl
      exact ⟨w, fun _ _ => hw⟩
    · exact ⟨0, fun a1 a2 => absurd ⟨a1, a2⟩ a⟩
  obtain ⟨W, hW⟩ := Classical.axiomOfChoice wx
  obtain ⟨S', a1, a2, a3⟩ := weiC_x (x := x) h1 hW FU 0 S3 (Nat.zero_le _) (FU_lt (by omega)) EW.rf ⟨f107, f108, f34, fun k hk => absurd hk (Nat.not_lt_zero _), fun p hp => absurd hp (Nat.not_lt_zero _)⟩
  obtain ⟨T2, b1, b2, b3⟩ := weiM_x h1 hW FU 0 T1 (Nat.zero_le _) (FU_lt (by omega)) EV.rf ⟨fun p hp => absurd hp (Nat.not_lt_zero _), fun p hp => absurd hp (Nat.not_lt_zero _)⟩
  obtain ⟨T3, g1, g2, g3, g4⟩ := sgn_x (x := x) h1 FU 0 T2 (Nat.zero_le _) (FU_lt (by omega)) b1 (fun p hp => b2.2 p hp)
  have en := t1.me.2
  rw [en] at a2 g3 hW
  refine ⟨W, S', T3, e0.tr a1, t1.tr g1, ?_, ?_, a2, ⟨fun p hp => ?_, g3⟩, fun p hp hq => (hW p hp hq).1⟩
  · rw [ri, fb_s, fv_s, k1']; exact a3 _
  · rw [v2]
    refine (t2 (fun y T9 => j_X12_weigh_64 x T9 y)).trans ?_
    unfold j_X12_weigh_64
    rw [show ∀ k, l_X12_weigh_67 lw k FU T1 0 = k T2 (nI (K 2)) from b3]
    exact g4 _
  · rw [g2]; have := b2.1 p hp; rw [en] at this; exact this
theorem wof_0 (h : RelR K S (T.2 55)) {F : Nat → Int32} {W : Nat → Nat} (h4 : ∀ p : Nat, p < K 2 → T.2 64 p = if T.2 55 (14 * p + 121) = 0 then 0 else nI (W p)) (h5 : ∀ p : Nat, p < K 2 → T.2 65 p = F p) : ∀ (m i : Nat), i ≤ K 2 → K 2 - i < m → l_X12_weightOf_4 0 T (fun a b => some a) m (nI (ow (T.2 55) F W i)) (nI i) = some (nI (ow (T.2 55) F W (K 2))) := by
  obtain ⟨k1, k2, c2⟩ := h.ct 6 2 20 (by decide)
  intro m
  induction m with
  | zero => intro i _ hm; exact absurd hm (Nat.not_lt_zero _)
  | succ m ih =>
    intro i hi hm
    rw [l_X12_weightOf_4, k2]
    by_cases c : i < K 2
    · have r := ih (i + 1) (by omega) (by omega)
      rw [ow] at r
      rw [if_pos (nI_lt c (by omega)), if_pos rfl, ix_nI (show i < 20 by omega) (by decide), fb_s, h5 i c, h4 i c, nI_1]
      by_cases a : T.2 55 (14 * i + 121) = 0
      · rw [if_pos a] at r ⊢
        simp only [fv_s, Int32.add_zero, ite_self]; exact r
      · rw [if_neg a] at r ⊢
        by_cases f : F i = 1
        · rw [if_pos f] at r ⊢
          rw [fv_s, nI_add]; exact r
        · rw [if_neg f] at r ⊢
          rw [fv_s, Int32.add_zero]; exact r
    · obtain rfl : i = K 2 := by omega
      rw [if_neg (nI_nlt (Nat.le_refl _) (by omega))]
theorem wof_1 (h : RelR K S (T.2 55)) {W : Nat → Nat} (h4 : ∀ p : Nat, p < K 2 → T.2 64 p = if T.2 55 (14 * p + 121) = 0 then 0 else nI (W p)) : ∀ (m i : Nat), i ≤ K 2 → K 2 - i < m → l_X12_weightOf_4 1 T (fun a b => some a) m (nI (aw (T.2 55) W i)) (nI i) = some (nI (aw (T.2 55) W (K 2))) := by
  obtain ⟨k1, k2, c2⟩ := h.ct 6 2 20 (by decide)
  intro m
  induction m with
  | zero => intro i _ hm; exact absurd hm (Nat.not_lt_zero _)
  | succ m ih =>
    intro i hi hm
    rw [l_X12_weightOf_4, k2]
    by_cases c : i < K 2
    · have r := ih (i + 1) (by omega) (by omega)
      rw [aw] at r
      rw [if_pos (nI_lt c (by omega)), if_neg (by decide), ix_nI (show i < 20 by omega) (by decide), fb_s, h4 i c, nI_1]
      by_cases a : T.2 55 (14 * i + 121) = 0
      · rw [if_pos a] at r ⊢
        rw [fv_s, Int32.add_zero]; exact r
      · rw [if_neg a] at r ⊢
        rw [fv_s, nI_add]; exact r
    · obtain rfl : i = K 2 := by omega
      rw [if_neg (nI_nlt (Nat.le_refl _) (by omega))]
/-- weighed: numbers on both sides -/
theorem RelR.weiY (h : RelR K S (T.2 55)) (x : Int32) : ∃ (W : Nat → Nat) (S' T' : FS), EW S S' ∧ EV T T' ∧ f_X0_weigh S x = some (0, S') ∧ f_X12_weigh T x = some (0, T') ∧ CW (T.2 55) (fun p => vo (T.2 55) (nI (K 8)) x p (K 7)) W (K 2) S' ∧ ((∀ p : Nat, p < K 2 → T'.2 64 p = if T.2 55 (14 * p + 121) = 0 then 0 else nI (W p)) ∧ ∀ p : Nat, p < K 2 → T'.2 65 p = vo (T.2 55) (nI (K 8)) x p (K 7)) ∧ (∀ p : Nat, p < K 2 → T.2 55 (14 * p + 121) ≠ 0 → W p ≤ 21) ∧ q_X12_weightOf T' 0 = some (nI (ow (T.2 55) (fun p => vo (T.2 55) (nI (K 8)) x p (K 7)) W (K 2))) ∧ q_X12_weightOf T' 1 = some (nI (aw (T.2 55) W (K 2))) := by
  have c2 := (h.ct 6 2 20 (by decide)).2.2
  obtain ⟨W, S', T', a1, a2, a3, a4, a5, ⟨a6, a7⟩, a8⟩ := h.weiX x
  have en := a2.me.2
  have h1 : RelR K S (T'.2 55) := by rw [en]; exact h
  refine ⟨W, S', T', a1, a2, a3, a4, a5, ⟨a6, a7⟩, a8, ?_, ?_⟩
  · have r := wof_0 (F := fun p => vo (T.2 55) (nI (K 8)) x p (K 7)) h1 (W := W) (by rw [en]; exact a6) a7 FU 0 (Nat.zero_le _) (FU_lt (by omega))
    rw [en] at r; exact r
  · have r := wof_1 h1 (W := W) (by rw [en]; exact a6) FU 0 (Nat.zero_le _) (FU_lt (by omega))
    rw [en] at r; exact r
theorem op_causeE (h : RelR K S (T.2 55)) : OK2 S T (f_X11_cause S za zb) (f_X12_cause T za zb) := by
  unfold f_X11_cause f_X12_cause
  simp only [fb_id]
  obtain ⟨k1, k2, c7⟩ := h.ct 18 7 30 (by decide)
  rcases out_c za 0 5 with ⟨a1, a2⟩ | ⟨a1, a2⟩
  · rcases out_c zb 0 3 with ⟨b1, b2⟩ | ⟨b1, b2⟩
    · simp only [a1, a2, b1, b2, i10, ↓reduceIte]
      by_cases z : zb = 3
      · simp only [z, ↓reduceIte]
        obtain ⟨v, r1, r2⟩ := fbk_l h (x := za) FU 0 (Nat.zero_le _) (FU_lt (by omega))
        have fb' : q_X0_firstBroken S za = some v := by unfold q_X0_firstBroken; rw [fv_s, k1]; exact r1
        rw [fb', fb_s, show l_X12_cause_31 za (fun S26 x26_3 => some ((-1), S26)) FU T 0 = some (v, T) from r2]
        exact ok0 h CX.rf MX.rf
      · simp only [z, ↓reduceIte]
        obtain ⟨W, S', T', c1, d1, c2, d2, ⟨w1, w2, -⟩, -, -, x1, y1⟩ := h.weiY za
        have h1 : RelR K S' (T'.2 55) := by rw [d1.me.2]; exact h.ce c1.ce
        simp only [c2, d2, fb_s, x1, y1]
        have fin : ∀ v : Int32, OK2 S T (some (v, S')) (some (v, T')) := fun v => ok0 h1 c1.ce.1 d1.me.1
        by_cases z0 : zb = 0
        · simp only [z0, w1, ↓reduceIte]; exact fin _
        · by_cases z1 : zb = 1
          · simp only [z1, i10, w2, ↓reduceIte]; exact fin _
          · simp only [z0, z1, ↓reduceIte]
            unfold p_X0_isCarriedWith
            rw [w1, w2, Int32.add_zero]
            split
            · next q => rw [if_neg (by decide)]; exact fin _
            · next q => rw [if_pos rfl]; exact fin _
    · simp only [a1, a2, b1, b2, i10, ↓reduceIte]; exact ok_1 h
  · simp only [a1, a2, i10, ↓reduceIte]; exact ok_1 h
end WEX
