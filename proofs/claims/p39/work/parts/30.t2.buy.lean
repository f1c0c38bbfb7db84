/-! ===== pure: buying, both sides alike ===== -/
section BUX
variable {K : Nat → Nat} {S T : FS} {za zb zc zd ze : Int32}
theorem nI_or (a b : Nat) : nI a ||| nI b = nI (a ||| b) :=
  Int32.toBitVec_inj.mp (BitVec.eq_of_toNat_eq (by
    show (BitVec.ofNat 32 a ||| BitVec.ofNat 32 b).toNat = (BitVec.ofNat 32 (a ||| b)).toNat
    rw [BitVec.ofNat_or]))
/-- how many bits -/
def bcN (a : Nat) : Nat := pcL 4 a
theorem bcN_le (a : Nat) : bcN a ≤ 32 := pcL_le 4 a
theorem bc_e {S : FS} {a : Nat} (ha : a < 2 ^ 32) : p_J6_bitCount_0f7a4 S (nI a) = nI (bcN a) := by
  have h := bits_e (S := S) (T := S) (nI a)
  have l := pcL_le 4 a
  have e : q_X12_bits S (nI a) = some (nI (0 + pcL 4 a)) := by
    unfold q_X12_bits
    rw [show (0 : Int32) = nI 0 from rfl, kg_l FU a 0 ha (FU_lt (by omega))]
  rw [e, Nat.zero_add] at h
  exact (Option.some.inj h).symm
theorem sh20 : ∀ q : Fin 20, (1 : Int32) <<< (nI q.val &&& 31) = nI (2 ^ q.val) := by decide +kernel
theorem or20 {a q : Nat} (ha : a < 2 ^ 20) (hq : q < 20) : nI a ||| ((1 : Int32) <<< (nI q &&& 31)) = nI (a ||| 2 ^ q) ∧ a ||| 2 ^ q < 2 ^ 20 := by
  refine ⟨?_, Nat.or_lt_two_pow ha (Nat.pow_lt_pow_right (by decide) hq)⟩
  have e : (1 : Int32) <<< (nI q &&& 31) = nI (2 ^ q) := sh20 ⟨q, hq⟩
  rw [e, nI_or]
/-- better: cheaper, else fewer, else the smaller number -/
def kl (b a b' a' : Nat) : Prop := b < b' ∨ (b = b' ∧ (bcN a < bcN a' ∨ (bcN a = bcN a' ∧ a < a')))
theorem kl_ir {b a : Nat} : ¬ kl b a b a := by unfold kl; omega
theorem kl_tr {b a b' a' b2 a2 : Nat} (h : kl b a b' a') (g : kl b' a' b2 a2) : kl b a b2 a2 := by unfold kl at *; omega
theorem kl_eq {b a b' a' : Nat} (h : ¬ kl b a b' a') (g : ¬ kl b' a' b a) : b = b' ∧ a = a' := by unfold kl at *; omega
/-- the best of X -/
def Bt (X : Nat → Nat → Prop) (b a : Nat) : Prop := X b a ∧ ∀ b' a' : Nat, X b' a' → ¬ kl b' a' b a
theorem Bt.uq {X Y : Nat → Nat → Prop} {b a b' a' : Nat} (h : Bt X b a) (g : Bt Y b' a') (e : ∀ x y : Nat, X x y ↔ Y x y) : b = b' ∧ a = a' :=
  kl_eq (fun q => g.2 b a ((e b a).mp h.1) q) (fun q => h.2 b' a' ((e b' a').mpr g.1) q)
theorem Bt.add {X : Nat → Nat → Prop} {b a b' a' : Nat} (h : Bt X b a) : (kl b' a' b a → Bt (fun x y => X x y ∨ (x = b' ∧ y = a')) b' a') ∧ (¬ kl b' a' b a → Bt (fun x y => X x y ∨ (x = b' ∧ y = a')) b a) := by
  refine ⟨fun q => ⟨Or.inr ⟨rfl, rfl⟩, fun x y z => ?_⟩, fun q => ⟨Or.inl h.1, fun x y z => ?_⟩⟩
  · rcases z with z | ⟨rfl, rfl⟩
    · exact fun k => h.2 x y z (kl_tr k q)
    · exact kl_ir
  · rcases z with z | ⟨rfl, rfl⟩
    · exact h.2 x y z
    · exact q
def BB (X : Nat → Nat → Prop) (cp cs : Int32) : Prop := (cp = 1000000 ∧ cs = 0 ∧ ∀ b a : Nat, ¬ X b a) ∨ ∃ b a : Nat, Bt X b a ∧ cp = nI b ∧ cs = nI a ∧ b ≤ 8991 ∧ a < 2 ^ 20
theorem BB.cg {X Y : Nat → Nat → Prop} {cp cs : Int32} (h : BB X cp cs) (e : ∀ x y : Nat, X x y ↔ Y x y) : BB Y cp cs := by
  rcases h with ⟨h1, h2, h3⟩ | ⟨b, a, h1, h2⟩
  · exact Or.inl ⟨h1, h2, fun b a q => h3 b a ((e b a).mpr q)⟩
  · exact Or.inr ⟨b, a, ⟨(e b a).mp h1.1, fun x y q => h1.2 x y ((e x y).mpr q)⟩, h2⟩
/-- subsets of what may be bought, by their numbers: set, price, weight -/
def inc (B P Q : Nat → Nat) (i : Nat) (t : Nat × Nat × Nat) : Nat × Nat × Nat := (t.1 ||| 2 ^ B i, t.2.1 + P i, t.2.2 + Q i)
def rs (B P Q : Nat → Nat) : Nat → Nat → Nat → Nat × Nat × Nat → Nat × Nat × Nat
  | 0, _, _, t => t
  | r + 1, i, s, t => rs B P Q r (i + 1) (s / 2) (if s % 2 = 1 then inc B P Q i t else t)
theorem rs_0 {B P Q : Nat → Nat} : ∀ (r i : Nat) (t : Nat × Nat × Nat), rs B P Q r i 0 t = t
  | 0, _, _ => rfl
  | r + 1, i, t => by rw [rs, if_neg (by decide)]; exact rs_0 r (i + 1) t
theorem rs_p {B P Q : Nat → Nat} : ∀ (r i s : Nat) (t : Nat × Nat × Nat), t.2.1 ≤ (rs B P Q r i s t).2.1
  | 0, _, _, _ => Nat.le_refl _
  | r + 1, i, s, t => by
    have h := rs_p (B := B) (P := P) (Q := Q) r (i + 1) (s / 2) (if s % 2 = 1 then inc B P Q i t else t)
    rw [rs]
    refine Nat.le_trans ?_ h
    split
    · show t.2.1 ≤ t.2.1 + P i; omega
    · exact Nat.le_refl _
def Yq (B P Q : Nat → Nat) (al fo r i : Nat) (t : Nat × Nat × Nat) (b a : Nat) : Prop := ∃ s : Nat, s < 2 ^ r ∧ (rs B P Q r i s t).1 = a ∧ (rs B P Q r i s t).2.1 = b ∧ al < 2 * (fo + (rs B P Q r i s t).2.2)
theorem Yq_s {B P Q : Nat → Nat} {al fo r i : Nat} {t : Nat × Nat × Nat} (b a : Nat) : Yq B P Q al fo (r + 1) i t b a ↔ (Yq B P Q al fo r (i + 1) t b a ∨ Yq B P Q al fo r (i + 1) (inc B P Q i t) b a) := by
  have two : 2 ^ (r + 1) = 2 * 2 ^ r := by rw [Nat.pow_succ]; omega
  constructor
  · rintro ⟨s, hs, h⟩
    rw [rs] at h
    by_cases c : s % 2 = 1
    · rw [if_pos c] at h; exact Or.inr ⟨s / 2, by omega, h⟩
    · rw [if_neg c] at h; exact Or.inl ⟨s / 2, by omega, h⟩
  · rintro (⟨s, hs, h⟩ | ⟨s, hs, h⟩)
    · refine ⟨2 * s, by omega, ?_⟩
      rw [rs, if_neg (by omega), show 2 * s / 2 = s by omega]; exact h
    · refine ⟨2 * s + 1, by omega, ?_⟩
      rw [rs, if_pos (by omega), show (2 * s + 1) / 2 = s by omega]; exact h
theorem Yq_0 {B P Q : Nat → Nat} {al fo i : Nat} {t : Nat × Nat × Nat} (b a : Nat) : Yq B P Q al fo 0 i t b a ↔ (t.1 = a ∧ t.2.1 = b ∧ al < 2 * (fo + t.2.2)) := by
  constructor
  · rintro ⟨s, hs, h⟩; exact h
  · exact fun h => ⟨0, by decide, h⟩
theorem Yq_t {B P Q : Nat → Nat} {al fo r i : Nat} {t : Nat × Nat × Nat} (h : al < 2 * (fo + t.2.2)) : Yq B P Q al fo r i t t.2.1 t.1 :=
  ⟨0, Nat.pow_pos (by decide), by rw [rs_0], by rw [rs_0], by rw [rs_0]; exact h⟩
theorem Yq_p {B P Q : Nat → Nat} {al fo r i b a : Nat} {t : Nat × Nat × Nat} (h : Yq B P Q al fo r i t b a) : t.2.1 ≤ b := by
  obtain ⟨s, -, -, h2, -⟩ := h
  rw [← h2]; exact rs_p r i s t
/-! the class -/
def F9 (S S' : FS) : Prop := (∀ k : Nat, k ≠ 109 → k ≠ 110 → S'.1 k = S.1 k) ∧ S'.2 = S.2
theorem F9.rf : F9 S S := ⟨fun _ _ _ => rfl, rfl⟩
theorem F9.tr {A B C : FS} (h : F9 A B) (g : F9 B C) : F9 A C := ⟨fun k a b => (g.1 k a b).trans (h.1 k a b), g.2.trans h.2⟩
theorem keep_v (S : FS) (a b : Int32) : ∃ S' : FS, f_X0_keepIfBetter S a b = some (0, S') ∧ (((b < S.1 109 ∨ (b = S.1 109 ∧ (p_J6_bitCount_0f7a4 S a - p_J6_bitCount_0f7a4 S (S.1 110) < 0 ∨ (p_J6_bitCount_0f7a4 S a - p_J6_bitCount_0f7a4 S (S.1 110) = 0 ∧ a < S.1 110)))) ∧ S' = wI (wI S 109 b) 110 a) ∨ (¬ (b < S.1 109 ∨ (b = S.1 109 ∧ (p_J6_bitCount_0f7a4 S a - p_J6_bitCount_0f7a4 S (S.1 110) < 0 ∨ (p_J6_bitCount_0f7a4 S a - p_J6_bitCount_0f7a4 S (S.1 110) = 0 ∧ a < S.1 110)))) ∧ S' = S)) := by
  unfold f_X0_keepIfBetter
  rw [fv_s]
  simp only [fl_s]
  generalize p_J6_bitCount_0f7a4 S a - p_J6_bitCount_0f7a4 S (S.1 110) = x1
  repeat' split
  all_goals first
    | exact ⟨_, rfl, Or.inl ⟨Or.inl (by assumption), rfl⟩⟩
    | exact ⟨_, rfl, Or.inl ⟨Or.inr ⟨by assumption, Or.inl (by assumption)⟩, rfl⟩⟩
    | exact ⟨_, rfl, Or.inl ⟨Or.inr ⟨by assumption, Or.inr ⟨by assumption, by assumption⟩⟩, rfl⟩⟩
    | exact ⟨_, rfl, Or.inr ⟨fun q => by
        rcases q with q | ⟨q, q' | ⟨q', q''⟩⟩ <;> contradiction, rfl⟩⟩
theorem bcd {x y : Nat} (hx : x ≤ 32) (hy : y ≤ 32) : (nI x - nI y < 0 ↔ x < y) ∧ (nI x - nI y = 0 ↔ x = y) := by
  have h : ∀ x y : Fin 33, (nI x.val - nI y.val < 0 ↔ x.val < y.val) ∧ (nI x.val - nI y.val = 0 ↔ x.val = y.val) := by decide +kernel
  exact h ⟨x, by omega⟩ ⟨y, by omega⟩
theorem BB.keep {X : Nat → Nat → Prop} {a b : Nat} (h : BB X (S.1 109) (S.1 110)) (ha : a < 2 ^ 20) (hb : b ≤ 8991) : ∃ S' : FS, F9 S S' ∧ f_X0_keepIfBetter S (nI a) (nI b) = some (0, S') ∧ BB (fun x y => X x y ∨ (x = b ∧ y = a)) (S'.1 109) (S'.1 110) := by
  obtain ⟨S', e, g⟩ := keep_v S (nI a) (nI b)
  have f9 : F9 S (wI (wI S 109 (nI b)) 110 (nI a)) := ⟨fun k k1 k2 => by rw [wI_n k2, wI_n k1], rfl⟩
  have w9 : (wI (wI S 109 (nI b)) 110 (nI a)).1 109 = nI b := by rw [wI_n (by decide), wI_e]
  have w0 : (wI (wI S 109 (nI b)) 110 (nI a)).1 110 = nI a := wI_e
  rcases h with ⟨h1, h2, h3⟩ | ⟨b0, a0, h1, h2, h3, h4, h5⟩
  · have c : nI b < S.1 109 := by rw [h1]; exact nI_lt (b := 1000000) (by omega) (by decide)
    rcases g with ⟨-, rfl⟩ | ⟨g1, -⟩
    · refine ⟨_, f9, e, Or.inr ⟨b, a, ⟨Or.inr ⟨rfl, rfl⟩, fun x y z => ?_⟩, w9, w0, hb, ha⟩⟩
      rcases z with z | ⟨rfl, rfl⟩
      · exact absurd z (h3 x y)
      · exact kl_ir
    · exact absurd (Or.inl c) g1
  · have bd := bcd (bcN_le a) (bcN_le a0)
    rw [h2, h3, bc_e (show a < 2 ^ 32 by omega), bc_e (show a0 < 2 ^ 32 by omega), nI_ltI (by omega) (by omega), nI_eq (by omega) (by omega), nI_ltI (by omega) (by omega), bd.1, bd.2] at g
    rcases g with ⟨g1, rfl⟩ | ⟨g1, rfl⟩
    · exact ⟨_, f9, e, Or.inr ⟨b, a, h1.add.1 g1, w9, w0, hb, ha⟩⟩
    · exact ⟨_, F9.rf, e, Or.inr ⟨b0, a0, h1.add.2 g1, h2, h3, h4, h5⟩⟩
/-- what the class looks at while it chooses -/
def CB (u al fo : Nat) (B P Q : Nat → Nat) (S : FS) : Prop := (u ≤ 9 ∧ al ≤ 1000 ∧ fo ≤ 1000) ∧ (S.1 34 = nI u ∧ S.1 107 = nI fo ∧ S.1 108 = nI al) ∧ ∀ k : Nat, k < u → S.2 35 k = nI (B k) ∧ B k < 20 ∧ S.2 7 (14 * B k + 12) = nI (P k) ∧ P k ≤ 999 ∧ S.2 33 (B k) = nI (Q k) ∧ Q k ≤ 21
theorem CB.f9 {u al fo : Nat} {B P Q : Nat → Nat} {S S' : FS} (h : CB u al fo B P Q S) (e : F9 S S') : CB u al fo B P Q S' := by
  refine ⟨h.1, ⟨(e.1 34 (by decide) (by decide)).trans h.2.1.1, (e.1 107 (by decide) (by decide)).trans h.2.1.2.1, (e.1 108 (by decide) (by decide)).trans h.2.1.2.2⟩, ?_⟩
  rw [e.2]; exact h.2.2
theorem CB.car {u al fo c : Nat} {B P Q : Nat → Nat} (h : CB u al fo B P Q S) (hc : c ≤ 1000) : p_X0_isCarriedWith S (nI c) = if al < 2 * (fo + c) then 1 else 0 := by
  obtain ⟨⟨-, h1, h2⟩, ⟨-, h3, h4⟩, -⟩ := h
  unfold p_X0_isCarriedWith
  rw [h3, h4, nI_add, show (2 : Int32) = nI 2 from rfl, pk_mul]
  by_cases z : al < 2 * (fo + c)
  · rw [if_pos (nI_lt z (by omega)), if_pos z]
  · rw [if_neg (nI_nlt (by omega) (by omega)), if_neg z]
def chs (nx : FS → Int32 → Int32 → Int32 → Option (Int32 × FS)) (j : Int32) (S : FS) (zb : Int32) (zc : Int32) (zd : Int32) : Option (Int32 × FS) :=
  if (S.1 109) < zc then (some (0, S)) else (if (p_X0_isCarriedWith S zd) = 0 then (if (fHas 34 S j) = 0 then (some (0, S)) else (fv (fG 34 9 1 S j 0) (fun x4 =>
    fb (nx S zb zc zd) (fun r6 =>
    fb (nx r6.2 (zb ||| ((1 : Int32) <<< (x4 &&& 31))) (zc + (fG 6 20 14 r6.2 x4 12)) (zd + (fG 32 20 1 r6.2 x4 0))) (fun r8 =>
    some (0, r8.2)))))) else (fb (f_X0_keepIfBetter S zb zc) (fun r10 =>
   if (fHas 34 r10.2 j) = 0 then (some (0, r10.2)) else (fv (fG 34 9 1 r10.2 j 0) (fun x12 =>
    fb (nx r10.2 zb zc zd) (fun r14 =>
    fb (nx r14.2 (zb ||| ((1 : Int32) <<< (x12 &&& 31))) (zc + (fG 6 20 14 r14.2 x12 12)) (zd + (fG 32 20 1 r14.2 x12 0))) (fun r16 =>
    some (0, r16.2))))))))
def SPq (u al fo : Nat) (B P Q : Nat → Nat) (j : Nat) (f : FS → Int32 → Int32 → Int32 → Option (Int32 × FS)) : Prop := ∀ (S : FS) (t : Nat × Nat × Nat) (X : Nat → Nat → Prop), CB u al fo B P Q S → j ≤ u → t.1 < 2 ^ 20 → t.2.1 ≤ 999 * j → t.2.2 ≤ 21 * j → BB X (S.1 109) (S.1 110) → ∃ S' : FS, F9 S S' ∧ f S (nI t.1) (nI t.2.1) (nI t.2.2) = some (0, S') ∧ BB (fun b a => X b a ∨ Yq B P Q al fo (u - j) j t b a) (S'.1 109) (S'.1 110)
theorem BB.cut {X : Nat → Nat → Prop} {B P Q : Nat → Nat} {al fo r i : Nat} {t : Nat × Nat × Nat} {cp cs : Int32} (h : BB X cp cs) (hp : t.2.1 ≤ 8991) (c : cp < nI t.2.1) : BB (fun b a => X b a ∨ Yq B P Q al fo r i t b a) cp cs := by
  rcases h with ⟨h1, h2, h3⟩ | ⟨b, a, h1, h2, h3, h4, h5⟩
  · rw [h1] at c
    exact absurd c (nI_nlt (a := 1000000) (by omega) (by decide))
  · rw [h2, nI_ltI (by omega) (by omega)] at c
    refine Or.inr ⟨b, a, ⟨Or.inl h1.1, fun x y q => ?_⟩, h2, h3, h4, h5⟩
    rcases q with q | q
    · exact h1.2 x y q
    · have := Yq_p q
      unfold kl; omega
theorem ch_step {u al fo j : Nat} {B P Q : Nat → Nat} {nx : FS → Int32 → Int32 → Int32 → Option (Int32 × FS)} (hj : j < 9) (hn : SPq u al fo B P Q (j + 1) nx) : SPq u al fo B P Q j (chs nx (nI j)) := by
  intro S t X cb ju ht hp hq bb
  have u9 := cb.1.1
  unfold chs
  by_cases cut : S.1 109 < nI t.2.1
  · rw [if_pos cut]
    exact ⟨S, F9.rf, rfl, bb.cut (by omega) cut⟩
  · rw [if_neg cut, cb.car (show t.2.2 ≤ 1000 by omega)]
    -- what follows behind the look at the set itself
    have go : ∀ (S1 : FS) (X1 : Nat → Nat → Prop), CB u al fo B P Q S1 → BB X1 (S1.1 109) (S1.1 110) → ∃ S' : FS, F9 S1 S' ∧ (if (fHas 34 S1 (nI j)) = 0 then (some ((0 : Int32), S1)) else (fv (fG 34 9 1 S1 (nI j) 0) (fun x12 =>
        fb (nx S1 (nI t.1) (nI t.2.1) (nI t.2.2)) (fun r14 =>
        fb (nx r14.2 (nI t.1 ||| ((1 : Int32) <<< (x12 &&& 31))) (nI t.2.1 + (fG 6 20 14 r14.2 x12 12)) (nI t.2.2 + (fG 32 20 1 r14.2 x12 0))) (fun r16 =>
        some (0, r16.2)))))) = some (0, S') ∧ ((j = u ∧ BB X1 (S'.1 109) (S'.1 110)) ∨ (j < u ∧ BB (fun b a => (X1 b a ∨ Yq B P Q al fo (u - (j + 1)) (j + 1) t b a) ∨ Yq B P Q al fo (u - (j + 1)) (j + 1) (inc B P Q j t) b a) (S'.1 109) (S'.1 110))) := by
      intro S1 X1 cb1 bb1
      by_cases c : j < u
      · obtain ⟨S2, a1, a2, a3⟩ := hn S1 t X1 cb1 (by omega) ht (by omega) (by omega) bb1
        have cb2 := cb1.f9 a1
        obtain ⟨z1, z2, z3, z4, z5, z6⟩ := cb1.2.2 j c
        obtain ⟨o1, o2⟩ := or20 ht z2
        obtain ⟨S3, b1, b2, b3⟩ := hn S2 (inc B P Q j t) _ cb2 (by omega) o2 (by show t.2.1 + P j ≤ _; omega) (by show t.2.2 + Q j ≤ _; omega) a3
        refine ⟨S3, a1.tr b1, ?_, Or.inr ⟨c, b3⟩⟩
        rw [fHas_t cb1.2.1.1 c (by omega), if_neg (by decide), fv_s, g34_0 (by omega), z1, a2, fb_s]
        show fb (nx S2 _ (nI t.2.1 + fG 6 20 14 S2 (nI (B j)) 12) (nI t.2.2 + fG 32 20 1 S2 (nI (B j)) 0)) _ = _
        rw [o1, g6_12 z2, g32_0 z2, a1.2, z3, z5, nI_add, nI_add]
        show fb (nx S2 (nI (inc B P Q j t).1) (nI (inc B P Q j t).2.1) (nI (inc B P Q j t).2.2)) _ = _
        rw [b2, fb_s]
      · refine ⟨S1, F9.rf, ?_, Or.inl ⟨by omega, bb1⟩⟩
        rw [fHas_f cb1.2.1.1 (Or.inr (nI_le (by omega) (by omega))), if_pos rfl]
    by_cases c : al < 2 * (fo + t.2.2)
    · rw [if_pos c, if_neg (by decide)]
      obtain ⟨S1, f1, k1, k2⟩ := bb.keep ht (show t.2.1 ≤ 8991 by omega)
      obtain ⟨S', g1, g2, g3⟩ := go S1 _ (cb.f9 f1) k2
      rw [k1, fb_s]
      refine ⟨S', f1.tr g1, g2, ?_⟩
      rcases g3 with ⟨ju', g3⟩ | ⟨ju', g3⟩
      · refine g3.cg (fun b a => ?_)
        rw [show u - j = 0 by omega, Yq_0]
        constructor
        · rintro (q | ⟨rfl, rfl⟩)
          · exact Or.inl q
          · exact Or.inr ⟨rfl, rfl, c⟩
        · rintro (q | ⟨q1, q2, q3⟩)
          · exact Or.inl q
          · exact Or.inr ⟨q2.symm, q1.symm⟩
      · refine g3.cg (fun b a => ?_)
        rw [show u - j = (u - (j + 1)) + 1 by omega, Yq_s]
        constructor
        · rintro (((q | ⟨rfl, rfl⟩) | q) | q)
          · exact Or.inl q
          · exact Or.inr (Or.inl (Yq_t c))
          · exact Or.inr (Or.inl q)
          · exact Or.inr (Or.inr q)
        · rintro (q | q | q)
          · exact Or.inl (Or.inl (Or.inl q))
          · exact Or.inl (Or.inr q)
          · exact Or.inr q
    · rw [if_neg c, if_pos rfl]
      obtain ⟨S', g1, g2, g3⟩ := go S X cb bb
      refine ⟨S', g1, g2, ?_⟩
      rcases g3 with ⟨ju', g3⟩ | ⟨ju', g3⟩
      · refine g3.cg (fun b a => ?_)
        rw [show u - j = 0 by omega, Yq_0]
        exact ⟨Or.inl, fun q => q.resolve_right (fun z => c z.2.2)⟩
      · refine g3.cg (fun b a => ?_)
        rw [show u - j = (u - (j + 1)) + 1 by omega, Yq_s]
        constructor
        · rintro ((q | q) | q)
          · exact Or.inl q
          · exact Or.inr (Or.inl q)
          · exact Or.inr (Or.inr q)
        · rintro (q | q | q)
          · exact Or.inl (Or.inl q)
          · exact Or.inl (Or.inr q)
          · exact Or.inr q
theorem ch_9 {u al fo : Nat} {B P Q : Nat → Nat} : SPq u al fo B P Q 9 f_X0_choose_k9 := by
  intro S t X cb ju ht hp hq bb
  have u9 := cb.1.1
  unfold f_X0_choose_k9
  by_cases cut : S.1 109 < nI t.2.1
  · rw [if_pos cut]
    exact ⟨S, F9.rf, rfl, bb.cut (by omega) cut⟩
  · rw [if_neg cut, cb.car (show t.2.2 ≤ 1000 by omega)]
    by_cases c : al < 2 * (fo + t.2.2)
    · rw [if_pos c, if_neg (by decide)]
      obtain ⟨S1, f1, k1, k2⟩ := bb.keep ht (show t.2.1 ≤ 8991 by omega)
      rw [k1, fb_s]
      refine ⟨S1, f1, rfl, k2.cg (fun b a => ?_)⟩
      rw [show u - 9 = 0 by omega, Yq_0]
      constructor
      · rintro (q | ⟨rfl, rfl⟩)
        · exact Or.inl q
        · exact Or.inr ⟨rfl, rfl, c⟩
      · rintro (q | ⟨q1, q2, q3⟩)
        · exact Or.inl q
        · exact Or.inr ⟨q2.symm, q1.symm⟩
    · rw [if_neg c, if_pos rfl]
      refine ⟨S, F9.rf, rfl, bb.cg (fun b a => ?_)⟩
      rw [show u - 9 = 0 by omega, Yq_0]
      exact ⟨Or.inl, fun q => q.resolve_right (fun z => c z.2.2)⟩
theorem ch_8 {u al fo : Nat} {B P Q : Nat → Nat} : SPq u al fo B P Q 8 f_X0_choose_k8 := ch_step (j := 8) (nx := f_X0_choose_k9) (by decide) ch_9
theorem ch_7 {u al fo : Nat} {B P Q : Nat → Nat} : SPq u al fo B P Q 7 f_X0_choose_k7 := ch_step (j := 7) (nx := f_X0_choose_k8) (by decide) ch_8
theorem ch_6 {u al fo : Nat} {B P Q : Nat → Nat} : SPq u al fo B P Q 6 f_X0_choose_k6 := ch_step (j := 6) (nx := f_X0_choose_k7) (by decide) ch_7
theorem ch_5 {u al fo : Nat} {B P Q : Nat → Nat} : SPq u al fo B P Q 5 f_X0_choose_k5 := ch_step (j := 5) (nx := f_X0_choose_k6) (by decide) ch_6
theorem ch_4 {u al fo : Nat} {B P Q : Nat → Nat} : SPq u al fo B P Q 4 f_X0_choose_k4 := ch_step (j := 4) (nx := f_X0_choose_k5) (by decide) ch_5
theorem ch_3 {u al fo : Nat} {B P Q : Nat → Nat} : SPq u al fo B P Q 3 f_X0_choose_k3 := ch_step (j := 3) (nx := f_X0_choose_k4) (by decide) ch_4
theorem ch_2 {u al fo : Nat} {B P Q : Nat → Nat} : SPq u al fo B P Q 2 f_X0_choose_k2 := ch_step (j := 2) (nx := f_X0_choose_k3) (by decide) ch_3
theorem ch_1 {u al fo : Nat} {B P Q : Nat → Nat} : SPq u al fo B P Q 1 f_X0_choose_k1 := ch_step (j := 1) (nx := f_X0_choose_k2) (by decide) ch_2
theorem ch_0 {u al fo : Nat} {B P Q : Nat → Nat} : SPq u al fo B P Q 0 f_X0_choose_k0 := ch_step (j := 0) (nx := f_X0_choose_k1) (by decide) ch_1
/-! the model -/
theorem bit9 : ∀ (s : Fin 512) (i : Fin 9), ((nI s.val >>> (nI i.val &&& 31)) &&& 1 = 0) = ((s.val / 2 ^ i.val) % 2 = 0) := by decide +kernel
def MB (u fo : Nat) (B P Q : Nat → Nat) (w : Nat → Int32) (T : FS) : Prop := u ≤ 9 ∧ ∀ k : Nat, k < u → w k = nI (B k) ∧ B k < 20 ∧ T.2 55 (14 * B k + 122) = nI (P k) ∧ P k ≤ 999 ∧ T.2 64 (B k) = nI (Q k) ∧ Q k ≤ 21
theorem set_x {u fo s : Nat} {B P Q : Nat → Nat} {w : Nat → Int32} (h : MB u fo B P Q w T) (hs : s < 512) : ∀ (m i : Nat) (t : Nat × Nat × Nat), i ≤ u → u - i < m → t.1 < 2 ^ 20 → (rs B P Q (u - i) i (s / 2 ^ i) t).1 < 2 ^ 20 ∧ (rs B P Q (u - i) i (s / 2 ^ i) t).2.1 ≤ t.2.1 + 999 * (u - i) ∧ (rs B P Q (u - i) i (s / 2 ^ i) t).2.2 ≤ t.2.2 + 21 * (u - i) ∧ ∀ k, l_X12_buying_136 (nI u) w (nI s) k m T (nI (fo + t.2.2)) (nI t.2.1) (nI t.1) (nI i) = k T (nI (fo + (rs B P Q (u - i) i (s / 2 ^ i) t).2.2)) (nI (rs B P Q (u - i) i (s / 2 ^ i) t).2.1) (nI (rs B P Q (u - i) i (s / 2 ^ i) t).1) (nI u) := by
  obtain ⟨u9, hw⟩ := h
  intro m
  induction m with
  | zero => intro i t _ hm; exact absurd hm (Nat.not_lt_zero _)
  | succ m ih =>
    intro i t hi hm ht
    by_cases ci : i < u
    · have lt := nI_lt ci (show u < 2 ^ 31 by omega)
      obtain ⟨z1, z2, z3, z4, z5, z6⟩ := hw i ci
      obtain ⟨o1, o2⟩ := or20 ht z2
      have b9 := bit9 ⟨s, hs⟩ ⟨i, by omega⟩
      simp only at b9
      have d2 : s / 2 ^ i / 2 = s / 2 ^ (i + 1) := by rw [Nat.pow_succ, Nat.div_div_eq_div_mul]
      rw [show u - i = (u - (i + 1)) + 1 by omega, rs, d2]
      by_cases c : s / 2 ^ i % 2 = 1
      · obtain ⟨r1, r2, r3, r4⟩ := ih (i + 1) (inc B P Q i t) (by omega) (by omega) o2
        rw [if_pos c]
        have r2' : _ ≤ t.2.1 + P i + _ := r2
        have r3' : _ ≤ t.2.2 + Q i + _ := r3
        refine ⟨r1, by omega, by omega, fun k => ?_⟩
        rw [l_X12_buying_136, if_pos lt, if_neg (by rw [b9]; omega), ix_nI (show i < 9 by omega) (by decide), fb_s, z1, ix_nI z2 (by decide), fb_s, fv_s, man_12 z2, fb_s, fv_s, fv_s, z3, z5, o1, nI_add, nI_add, nI_1, Nat.add_assoc]
        exact r4 k
      · obtain ⟨r1, r2, r3, r4⟩ := ih (i + 1) t (by omega) (by omega) ht
        rw [if_neg c]
        refine ⟨r1, by omega, by omega, fun k => ?_⟩
        rw [l_X12_buying_136, if_pos lt, if_pos (by rw [b9]; omega), nI_1]
        exact r4 k
    · obtain rfl : i = u := by omega
      rw [show i - i = 0 by omega]
      refine ⟨ht, by show t.2.1 ≤ _; omega, by show t.2.2 ≤ _; omega, fun k => ?_⟩
      rw [l_X12_buying_136, if_neg (nI_nlt (Nat.le_refl _) (by omega))]
      rfl
def BM (X : Nat → Nat → Prop) (a b : Int32) : Prop := (a = -1 ∧ ∀ x y : Nat, ¬ X x y) ∨ ∃ b0 a0 : Nat, Bt X b0 a0 ∧ a = nI a0 ∧ b = nI b0 ∧ b0 ≤ 8991 ∧ a0 < 2 ^ 20
def Xq (B P Q : Nat → Nat) (al fo u i : Nat) (b a : Nat) : Prop := ∃ s : Nat, s < i ∧ (rs B P Q u 0 s (0, 0, 0)).1 = a ∧ (rs B P Q u 0 s (0, 0, 0)).2.1 = b ∧ al < 2 * (fo + (rs B P Q u 0 s (0, 0, 0)).2.2)
theorem BM.step {X Y : Nat → Nat → Prop} {a b : Int32} {b' a' : Nat} (h : BM X a b) (hb : b' ≤ 8991) (ha : a' < 2 ^ 20) (e : ∀ x y : Nat, Y x y ↔ (X x y ∨ (x = b' ∧ y = a'))) : ((a < 0 ∨ (¬ a < 0 ∧ (nI b' < b ∨ (nI b' = b ∧ (p_J6_bitCount_0f7a4 T (nI a') < p_J6_bitCount_0f7a4 T a ∨ (p_J6_bitCount_0f7a4 T (nI a') = p_J6_bitCount_0f7a4 T a ∧ nI a' < a)))))) → BM Y (nI a') (nI b')) ∧ (¬ (a < 0 ∨ (¬ a < 0 ∧ (nI b' < b ∨ (nI b' = b ∧ (p_J6_bitCount_0f7a4 T (nI a') < p_J6_bitCount_0f7a4 T a ∨ (p_J6_bitCount_0f7a4 T (nI a') = p_J6_bitCount_0f7a4 T a ∧ nI a' < a)))))) → BM Y a b) := by
  have eY : Y = (fun x y => X x y ∨ (x = b' ∧ y = a')) := funext fun x => funext fun y => propext (e x y)
  subst eY
  rcases h with ⟨rfl, h2⟩ | ⟨b0, a0, h1, rfl, rfl, h4, h5⟩
  · refine ⟨fun _ => Or.inr ⟨b', a', ⟨Or.inr ⟨rfl, rfl⟩, fun x y z => ?_⟩, rfl, rfl, hb, ha⟩, fun q => absurd (Or.inl (by decide)) q⟩
    rcases z with z | ⟨rfl, rfl⟩
    · exact absurd z (h2 x y)
    · exact kl_ir
  · have n0 : ¬ nI a0 < 0 := nI_pos (by omega)
    have l1 := bcN_le a'
    have l2 := bcN_le a0
    rw [bc_e (show a' < 2 ^ 32 by omega), bc_e (show a0 < 2 ^ 32 by omega), nI_ltI (by omega) (by omega), nI_eq (by omega) (by omega), nI_ltI (by omega) (by omega), nI_eq (by omega) (by omega), nI_ltI (by omega) (by omega)]
    refine ⟨fun q => ?_, fun q => ?_⟩
    · rcases q with q | ⟨-, q⟩
      · exact absurd q n0
      · exact Or.inr ⟨b', a', h1.add.1 q, rfl, rfl, hb, ha⟩
    · exact Or.inr ⟨b0, a0, h1.add.2 (fun z => q (Or.inr ⟨n0, z⟩)), rfl, rfl, h4, h5⟩
theorem sets_x {u al fo : Nat} {B P Q : Nat → Nat} {w : Nat → Int32} (h : MB u fo B P Q w T) (hal : al ≤ 1000) (hfo : fo ≤ 1000) : ∀ (m i : Nat) (a b : Int32), i ≤ 2 ^ u → 2 ^ u - i < m → BM (Xq B P Q al fo u i) a b → ∃ a' b' : Int32, BM (Xq B P Q al fo u (2 ^ u)) a' b' ∧ ∀ k, l_X12_buying_114 (nI u) w (nI fo) (nI al) k m T a b (nI i) = k T a' b' (nI (2 ^ u)) := by
  have u9 := h.1
  have u512 : 2 ^ u ≤ 512 := Nat.pow_le_pow_right (n := 2) (by decide) u9
  have sh : (1 : Int32) <<< (nI u &&& 31) = nI (2 ^ u) := shl9 ⟨u, by omega⟩
  intro m
  induction m with
  | zero => intro i a b _ hm; exact absurd hm (Nat.not_lt_zero _)
  | succ m ih =>
    intro i a b hi hm bm
    by_cases ci : i < 2 ^ u
    · obtain ⟨g1, g2, g3, hr⟩ := set_x (s := i) h (by omega) FU 0 (0, 0, 0) (Nat.zero_le _) (FU_lt (by omega)) (by decide)
      rw [show u - 0 = u by omega, show i / 2 ^ 0 = i by rw [Nat.pow_zero, Nat.div_one]] at g1 g2 g3
      have hr' : ∀ k, l_X12_buying_136 (nI u) w (nI i) k FU T (nI fo) 0 0 0 = k T (nI (fo + (rs B P Q u 0 i (0, 0, 0)).2.2)) (nI (rs B P Q u 0 i (0, 0, 0)).2.1) (nI (rs B P Q u 0 i (0, 0, 0)).1) (nI u) := fun k => by
        have := hr k
        rw [show u - 0 = u by omega, show i / 2 ^ 0 = i by rw [Nat.pow_zero, Nat.div_one]] at this
        exact this
      have xs : ∀ x y : Nat, Xq B P Q al fo u (i + 1) x y ↔ (Xq B P Q al fo u i x y ∨ ((rs B P Q u 0 i (0, 0, 0)).1 = y ∧ (rs B P Q u 0 i (0, 0, 0)).2.1 = x ∧ al < 2 * (fo + (rs B P Q u 0 i (0, 0, 0)).2.2))) := fun x y => by
        constructor
        · rintro ⟨s, hs, q⟩
          by_cases e : s = i
          · subst e; exact Or.inr q
          · exact Or.inl ⟨s, by omega, q⟩
        · rintro (⟨s, hs, q⟩ | q)
          · exact ⟨s, by omega, q⟩
          · exact ⟨i, by omega, q⟩
      have g2' : (rs B P Q u 0 i (0, 0, 0)).2.1 ≤ 0 + 999 * u := g2
      have g3' : (rs B P Q u 0 i (0, 0, 0)).2.2 ≤ 0 + 21 * u := g3
      generalize (rs B P Q u 0 i (0, 0, 0)).1 = r at *
      generalize (rs B P Q u 0 i (0, 0, 0)).2.1 = q at *
      generalize (rs B P Q u 0 i (0, 0, 0)).2.2 = p at *
      have take : BM (Xq B P Q al fo u (i + 1)) (nI r) (nI q) → ∃ a' b' : Int32, BM (Xq B P Q al fo u (2 ^ u)) a' b' ∧ ∀ k, l_X12_buying_114 (nI u) w (nI fo) (nI al) k m T (nI r) (nI q) (nI (i + 1)) = k T a' b' (nI (2 ^ u)) := ih (i + 1) (nI r) (nI q) (by omega) (by omega)
      have skip : BM (Xq B P Q al fo u (i + 1)) a b → ∃ a' b' : Int32, BM (Xq B P Q al fo u (2 ^ u)) a' b' ∧ ∀ k, l_X12_buying_114 (nI u) w (nI fo) (nI al) k m T a b (nI (i + 1)) = k T a' b' (nI (2 ^ u)) := ih (i + 1) a b (by omega) (by omega)
      have e2 : (2 : Int32) * nI (fo + p) = nI (2 * (fo + p)) := pk_mul 2 (fo + p)
      by_cases c : al < 2 * (fo + p)
      · have stp := bm.step (T := T) (Y := Xq B P Q al fo u (i + 1)) (show q ≤ 8991 by omega) g1 (fun x y => (xs x y).trans ⟨fun z => z.imp id (fun t => ⟨t.2.1.symm, t.1.symm⟩), fun z => z.imp id (fun t => ⟨t.2.symm, t.1.symm, c⟩)⟩)
        have key : (∀ k, l_X12_buying_114 (nI u) w (nI fo) (nI al) k (m + 1) T a b (nI i) = l_X12_buying_114 (nI u) w (nI fo) (nI al) k m T (nI r) (nI q) (nI (i + 1))) ∧ (a < 0 ∨ (¬ a < 0 ∧ (nI q < b ∨ (nI q = b ∧ (p_J6_bitCount_0f7a4 T (nI r) < p_J6_bitCount_0f7a4 T a ∨ (p_J6_bitCount_0f7a4 T (nI r) = p_J6_bitCount_0f7a4 T a ∧ nI r < a)))))) ∨ (∀ k, l_X12_buying_114 (nI u) w (nI fo) (nI al) k (m + 1) T a b (nI i) = l_X12_buying_114 (nI u) w (nI fo) (nI al) k m T a b (nI (i + 1))) ∧ ¬ (a < 0 ∨ (¬ a < 0 ∧ (nI q < b ∨ (nI q = b ∧ (p_J6_bitCount_0f7a4 T (nI r) < p_J6_bitCount_0f7a4 T a ∨ (p_J6_bitCount_0f7a4 T (nI r) = p_J6_bitCount_0f7a4 T a ∧ nI r < a)))))) := by
          have st : ∀ k, l_X12_buying_114 (nI u) w (nI fo) (nI al) k (m + 1) T a b (nI i) = if a < 0 then (l_X12_buying_114 (nI u) w (nI fo) (nI al) k m T (nI r) (nI q) (nI (i + 1))) else (if b < nI q then (l_X12_buying_114 (nI u) w (nI fo) (nI al) k m T a b (nI (i + 1))) else (if nI q = b then (if p_J6_bitCount_0f7a4 T a < p_J6_bitCount_0f7a4 T (nI r) then (l_X12_buying_114 (nI u) w (nI fo) (nI al) k m T a b (nI (i + 1))) else (if p_J6_bitCount_0f7a4 T (nI r) = p_J6_bitCount_0f7a4 T a then (if nI r < a then (l_X12_buying_114 (nI u) w (nI fo) (nI al) k m T (nI r) (nI q) (nI (i + 1))) else (l_X12_buying_114 (nI u) w (nI fo) (nI al) k m T a b (nI (i + 1)))) else (l_X12_buying_114 (nI u) w (nI fo) (nI al) k m T (nI r) (nI q) (nI (i + 1))))) else (l_X12_buying_114 (nI u) w (nI fo) (nI al) k m T (nI r) (nI q) (nI (i + 1))))) := fun k => by
            rw [l_X12_buying_114, sh, if_pos (nI_lt ci (by omega)), hr', e2, if_pos (nI_lt c (by omega))]
            simp only [bits_e (S := T), fb_s, nI_1]
          simp only [st]
          generalize p_J6_bitCount_0f7a4 T (nI r) = br
          generalize p_J6_bitCount_0f7a4 T a = ba
          by_cases c1 : a < 0
          · exact Or.inl ⟨fun k => by rw [if_pos c1], Or.inl c1⟩
          · by_cases c2 : b < nI q
            · refine Or.inr ⟨fun k => by rw [if_neg c1, if_pos c2], fun z => ?_⟩
              rcases z with z | ⟨-, z | ⟨z, -⟩⟩
              · exact c1 z
              · exact Int32.lt_irrefl (Int32.lt_trans z c2)
              · rw [z] at c2; exact Int32.lt_irrefl c2
            · by_cases c3 : nI q = b
              · by_cases c4 : ba < br
                · refine Or.inr ⟨fun k => by rw [if_neg c1, if_neg c2, if_pos c3, if_pos c4], fun z => ?_⟩
                  rcases z with z | ⟨-, z | ⟨-, z | ⟨z, -⟩⟩⟩
                  · exact c1 z
                  · rw [c3] at z; exact Int32.lt_irrefl z
                  · exact Int32.lt_irrefl (Int32.lt_trans z c4)
                  · rw [z] at c4; exact Int32.lt_irrefl c4
                · by_cases c5 : br = ba
                  · by_cases c6 : nI r < a
                    · exact Or.inl ⟨fun k => by rw [if_neg c1, if_neg c2, if_pos c3, if_neg c4, if_pos c5, if_pos c6], Or.inr ⟨c1, Or.inr ⟨c3, Or.inr ⟨c5, c6⟩⟩⟩⟩
                    · refine Or.inr ⟨fun k => by rw [if_neg c1, if_neg c2, if_pos c3, if_neg c4, if_pos c5, if_neg c6], fun z => ?_⟩
                      rcases z with z | ⟨-, z | ⟨-, z | ⟨-, z⟩⟩⟩
                      · exact c1 z
                      · rw [c3] at z; exact Int32.lt_irrefl z
                      · rw [c5] at z; exact Int32.lt_irrefl z
                      · exact c6 z
                  · refine Or.inl ⟨fun k => by rw [if_neg c1, if_neg c2, if_pos c3, if_neg c4, if_neg c5], Or.inr ⟨c1, Or.inr ⟨c3, Or.inl ?_⟩⟩⟩
                    rcases Int32.lt_or_eq_of_le (Int32.not_lt.mp c4) with z | z
                    · exact z
                    · exact absurd z c5
              · refine Or.inl ⟨fun k => by rw [if_neg c1, if_neg c2, if_neg c3], Or.inr ⟨c1, Or.inl ?_⟩⟩
                rcases Int32.lt_or_eq_of_le (Int32.not_lt.mp c2) with z | z
                · exact z
                · exact absurd z c3
        rcases key with ⟨e, z⟩ | ⟨e, z⟩
        · obtain ⟨a1, b1, r1, r2⟩ := take (stp.1 z)
          exact ⟨a1, b1, r1, fun k => (e k).trans (r2 k)⟩
        · obtain ⟨a1, b1, r1, r2⟩ := skip (stp.2 z)
          exact ⟨a1, b1, r1, fun k => (e k).trans (r2 k)⟩
      · have ex : ∀ x y : Nat, Xq B P Q al fo u i x y ↔ Xq B P Q al fo u (i + 1) x y := fun x y => by
          rw [xs x y]; exact ⟨Or.inl, fun z => z.resolve_right (fun t => c t.2.2)⟩
        have bm' : BM (Xq B P Q al fo u (i + 1)) a b := by
          rw [show Xq B P Q al fo u (i + 1) = Xq B P Q al fo u i from funext fun x => funext fun y => propext (ex x y).symm]; exact bm
        obtain ⟨a1, b1, r1, r2⟩ := skip bm'
        refine ⟨a1, b1, r1, fun k => ?_⟩
        rw [l_X12_buying_114, sh, if_pos (nI_lt ci (by omega)), hr', e2, if_neg (nI_nlt (by omega) (by omega)), nI_1]; exact r2 k
    · obtain rfl : i = 2 ^ u := by omega
      refine ⟨a, b, bm, fun k => ?_⟩
      rw [l_X12_buying_114, sh, if_neg (nI_nlt (Nat.le_refl _) (by omega))]
theorem buyers_x {F : Nat → Int32} (h : RelR K S (T.2 55)) (h5 : ∀ p : Nat, p < K 2 → T.2 65 p = F p) : ∀ (m i : Nat) (w : Nat → Int32), i ≤ K 2 → K 2 - i < m → (∀ j : Nat, j < (bw (T.2 55) F i).1 → w j = nI ((bw (T.2 55) F i).2 j)) → ∃ w' : Nat → Int32, (∀ j : Nat, j < (bw (T.2 55) F (K 2)).1 → w' j = nI ((bw (T.2 55) F (K 2)).2 j)) ∧ ∀ k, l_X12_buying_40 k m T (nI (bw (T.2 55) F i).1) (nI i) w = k T (nI (bw (T.2 55) F (K 2)).1) (nI (K 2)) w' := by
  obtain ⟨k1, k2, c2⟩ := h.ct 6 2 20 (by decide)
  intro m
  induction m with
  | zero => intro i w _ hm; exact absurd hm (Nat.not_lt_zero _)
  | succ m ih =>
    intro i w hi hm hw
    by_cases c : i < K 2
    · have i20 : i < 20 := by omega
      have lt := nI_lt c (show K 2 < 2 ^ 31 by omega)
      have r := ih (i + 1)
      have u9 := bw_9 (F := F) h (show i + 1 ≤ K 2 by omega)
      rw [bw] at r u9
      by_cases a : T.2 55 (14 * i + 121) = 0
      · rw [if_pos a] at r
        obtain ⟨w', r1, r2⟩ := r w (by omega) (by omega) hw
        refine ⟨w', r1, fun k => ?_⟩
        rw [l_X12_buying_40, k2, if_pos lt, man_11 i20, fb_s, if_pos a, nI_1]; exact r2 k
      · rw [if_neg a] at r u9
        by_cases f : F i = 1
        · rw [if_pos f] at r
          obtain ⟨w', r1, r2⟩ := r w (by omega) (by omega) hw
          refine ⟨w', r1, fun k => ?_⟩
          rw [l_X12_buying_40, k2, if_pos lt, man_11 i20, fb_s, if_neg a, ix_nI i20 (by decide), fb_s, h5 i c, if_pos f, nI_1]; exact r2 k
        · rw [if_neg f] at r u9
          have u9' : (bw (T.2 55) F i).1 + 1 ≤ 9 := u9
          obtain ⟨w', r1, r2⟩ := r (upd w (bw (T.2 55) F i).1 (nI i)) (by omega) (by omega) (fun j hj => by
            have hj' : j < (bw (T.2 55) F i).1 + 1 := hj
            show _ = nI (if j = (bw (T.2 55) F i).1 then i else (bw (T.2 55) F i).2 j)
            by_cases z : j = (bw (T.2 55) F i).1
            · rw [if_pos z, z, pk_us]
            · rw [if_neg z, pk_un z]; exact hw j (by omega))
          refine ⟨w', r1, fun k => ?_⟩
          rw [l_X12_buying_40, k2, if_pos lt, man_11 i20, fb_s, if_neg a, ix_nI i20 (by decide), fb_s, h5 i c, if_neg f, ix_nI (show (bw (T.2 55) F i).1 < 9 by omega) (by decide), fb_s, fw_s, nI_1, nI_1]; exact r2 k
    · obtain rfl : i = K 2 := by omega
      refine ⟨w, hw, fun k => ?_⟩
      rw [l_X12_buying_40, k2, if_neg (nI_nlt (Nat.le_refl _) (by omega))]
theorem aw_le {n : Nat → Int32} {W : Nat → Nat} : ∀ i : Nat, (∀ p : Nat, p < i → n (14 * p + 121) ≠ 0 → W p ≤ 21) → aw n W i ≤ 21 * i
  | 0, _ => Nat.le_refl _
  | i + 1, h => by
    have r := aw_le (n := n) (W := W) i (fun p hp => h p (by omega))
    rw [aw]
    by_cases a : n (14 * i + 121) = 0
    · rw [if_pos a]; omega
    · rw [if_neg a]; have := h i (by omega) a; omega
theorem ow_le {n F : Nat → Int32} {W : Nat → Nat} : ∀ i : Nat, (∀ p : Nat, p < i → n (14 * p + 121) ≠ 0 → W p ≤ 21) → ow n F W i ≤ 21 * i
  | 0, _ => Nat.le_refl _
  | i + 1, h => by
    have r := ow_le (n := n) (F := F) (W := W) i (fun p hp => h p (by omega))
    rw [ow]
    by_cases a : n (14 * i + 121) = 0
    · rw [if_pos a]; omega
    · rw [if_neg a]; have := h i (by omega) a
      split
      · omega
      · omega
theorem op_buyingE (h : RelR K S (T.2 55)) : OK2 S T (f_X11_buying S za zb) (f_X12_buying T za zb) := by
  unfold f_X11_buying f_X12_buying
  simp only [fb_id]
  have c2 := (h.ct 6 2 20 (by decide)).2.2
  rcases out_c za 0 5 with ⟨a1, a2⟩ | ⟨a1, a2⟩
  · rcases out_c zb 0 1 with ⟨b1, b2⟩ | ⟨b1, b2⟩
    · simp only [a1, a2, b1, b2, i10, ↓reduceIte]
      obtain ⟨W, S1, T1, c1, d1, c3, d2, ⟨w1, w2, w3, w4, w5⟩, ⟨w6, w7⟩, w8, x1, y1⟩ := h.weiY za
      have en := d1.me.2
      have e7 : S1.2 7 = S.2 7 := c1.2 7 (by decide) (by decide) (by decide)
      have al := aw_le (n := T.2 55) (W := W) (K 2) w8
      have fo := ow_le (n := T.2 55) (F := fun p => vo (T.2 55) (nI (K 8)) za p (K 7)) (W := W) (K 2) w8
      have u9 := bw_9 (F := fun p => vo (T.2 55) (nI (K 8)) za p (K 7)) h (Nat.le_refl (K 2))
      have bww := bw_w (n := T.2 55) (F := fun p => vo (T.2 55) (nI (K 8)) za p (K 7)) (K 2)
      have h1 : RelR K S (T1.2 55) := by rw [en]; exact h
      obtain ⟨w, z1, z2⟩ := buyers_x (F := fun p => vo (T.2 55) (nI (K 8)) za p (K 7)) h1 w7 FU 0 (fun _ => 0) (Nat.zero_le _) (FU_lt (by omega)) (fun j hj => absurd hj (Nat.not_lt_zero _))
      rw [en] at z1 z2
      generalize hF : (fun p => vo (T.2 55) (nI (K 8)) za p (K 7)) = F at *
      generalize hbw : bw (T.2 55) F (K 2) = q at *
      have pr : ∀ k : Nat, k < q.1 → T.2 55 (14 * q.2 k + 122) = nI (T.2 55 (14 * q.2 k + 122)).toBitVec.toNat ∧ (T.2 55 (14 * q.2 k + 122)).toBitVec.toNat ≤ 999 := fun k hk => by
        obtain ⟨v, v1, v2⟩ := (h.pe _ (bww k hk).1).2.2.2.2.2.2.2.1
        refine ⟨(nI_tn _).symm, ?_⟩
        rw [v2, pk_tn (by omega)]; exact v1
      have cb : CB q.1 (aw (T.2 55) W (K 2)) (ow (T.2 55) F W (K 2)) q.2 (fun k => (T.2 55 (14 * q.2 k + 122)).toBitVec.toNat) (fun k => W (q.2 k)) (wI (wI S1 109 1000000) 110 0) := by
        refine ⟨⟨u9, by omega, by omega⟩, ⟨?_, ?_, ?_⟩, fun k hk => ?_⟩
        · rw [wI_n (by decide), wI_n (by decide)]; exact w3
        · rw [wI_n (by decide), wI_n (by decide)]; exact w1
        · rw [wI_n (by decide), wI_n (by decide)]; exact w2
        · obtain ⟨p1, p2⟩ := bww k hk
          refine ⟨w4 k hk, by omega, ?_, (pr k hk).2, w5 _ p1 p2, w8 _ p1 p2⟩
          show S1.2 7 _ = _
          rw [e7, ← (pr k hk).1]; exact (h.pe _ p1).2.1.2.2.2.1
      have mb : MB q.1 (ow (T.2 55) F W (K 2)) q.2 (fun k => (T.2 55 (14 * q.2 k + 122)).toBitVec.toNat) (fun k => W (q.2 k)) w T1 := by
        refine ⟨u9, fun k hk => ?_⟩
        obtain ⟨p1, p2⟩ := bww k hk
        refine ⟨z1 k hk, by omega, by rw [en]; exact (pr k hk).1, (pr k hk).2, ?_, w8 _ p1 p2⟩
        rw [w6 _ p1, if_neg p2]
      have u512 : 2 ^ q.1 ≤ 512 := Nat.pow_le_pow_right (n := 2) (by decide) u9
      obtain ⟨S2, f1, f2, f3⟩ := ch_0 (wI (wI S1 109 1000000) 110 0) (0, 0, 0) (fun _ _ => False) cb (Nat.zero_le _) (by decide) (Nat.le_refl _) (Nat.le_refl _) (Or.inl ⟨by rw [wI_n (by decide), wI_e], wI_e, fun _ _ z => z⟩)
      obtain ⟨pa, pb, g1, g2⟩ := sets_x mb (show aw (T.2 55) W (K 2) ≤ 1000 by omega) (by omega) FU 0 (-1) 0 (Nat.zero_le _) (FU_lt (by omega)) (Or.inl ⟨rfl, fun x y z => by obtain ⟨s, hs, -⟩ := z; exact absurd hs (Nat.not_lt_zero _)⟩)
      have ew : EW S S2 := (c1.tr ((EW.wI (k := 109) (v := 1000000) (by omega)).tr (EW.wI (k := 110) (v := 0) (by omega)))).tr ⟨fun k _ _ _ _ k5 k6 => f1.1 k k5 k6, fun a _ _ _ => by rw [f1.2]⟩
      have h2 : RelR K S2 (T1.2 55) := h1.ce ew.ce
      have cls : f_X0_findCheapest S za = if S2.1 109 < 1000000 then some (1, S2) else some (0, S2) := by
        unfold f_X0_findCheapest
        simp only [c3, fb_s, fl_s]
        rw [show f_X0_choose_k0 (wI (wI S1 109 1000000) 110 0) 0 0 0 = some (0, S2) from f2, fb_s]
      rw [cls, d2]
      simp only [fb_s, fw_s]
      rw [show ∀ k, l_X12_buying_40 k FU T1 0 0 (fun _ => 0) = k T1 (nI q.1) (nI (K 2)) w from z2, x1, fb_s, y1, fb_s, show ∀ k, l_X12_buying_114 (nI q.1) w (nI (ow (T.2 55) F W (K 2))) (nI (aw (T.2 55) W (K 2))) k FU T1 (-1) 0 0 = k T1 pa pb (nI (2 ^ q.1)) from g2]
      have same : ∀ x y : Nat, (False ∨ Yq q.2 (fun k => (T.2 55 (14 * q.2 k + 122)).toBitVec.toNat) (fun k => W (q.2 k)) (aw (T.2 55) W (K 2)) (ow (T.2 55) F W (K 2)) (q.1 - 0) 0 (0, 0, 0) x y) ↔ Xq q.2 (fun k => (T.2 55 (14 * q.2 k + 122)).toBitVec.toNat) (fun k => W (q.2 k)) (aw (T.2 55) W (K 2)) (ow (T.2 55) F W (K 2)) q.1 (2 ^ q.1) x y := fun x y => by
        rw [show q.1 - 0 = q.1 by omega]
        exact ⟨fun z => z.resolve_left id, Or.inr⟩
      have fin : ∀ v : Int32, OK2 S T (some (v, S2)) (some (v, T1)) := fun v => ok0 h2 ew.ce.1 d1.me.1
      rcases f3 with ⟨o1, o2, o3⟩ | ⟨b, a, o1, o2, o3, o4, o5⟩
      · rcases g1 with ⟨rfl, -⟩ | ⟨b', a', r1, -⟩
        · rw [o1, if_neg (by decide), fb_s, if_pos rfl, if_pos (by decide)]
          exact okf h2 ew.ce.1 d1.me.1 (finds_2 T1)
        · exact absurd ((same b' a').mpr r1.1) (o3 b' a')
      · rcases g1 with ⟨rfl, r1⟩ | ⟨b', a', r1, rfl, rfl, r4, r5⟩
        · exact absurd ((same b a).mp o1.1) (r1 b a)
        · obtain ⟨rfl, rfl⟩ := o1.uq r1 same
          rw [if_pos (show S2.1 109 < 1000000 by rw [o2]; exact nI_lt (b := 1000000) (by omega) (by decide)), fb_s, if_neg (show ¬ (1 : Int32) = 0 by decide), if_neg (nI_pos (by omega))]
          by_cases z : zb = 0
          · rw [if_pos z, if_pos z]
            show OK2 S T (some (S2.1 109, S2)) _
            rw [o2]; exact fin _
          · rw [if_neg z, if_neg z]
            show OK2 S T (some (S2.1 110, S2)) _
            rw [o3]; exact fin _
    · simp only [a1, a2, b1, b2, i10, ↓reduceIte]; exact ok_1 h
  · simp only [a1, a2, i10, ↓reduceIte]; exact ok_1 h
end BUX
