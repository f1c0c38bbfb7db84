/-! ===== pure: a plan, both sides alike ===== -/
section PLX
variable {K : Nat → Nat} {S T : FS} {za zb zc zd ze : Int32}
theorem ltc_4 {i : Nat} (h : i < 4) : nI i < 4 := nI_lt (b := 4) h (by decide)
theorem ltc_5 {i : Nat} (h : i < 5) : nI i < 5 := nI_lt (b := 5) h (by decide)
theorem ltc_6 {i : Nat} (h : i < 6) : nI i < 6 := nI_lt (b := 6) h (by decide)
theorem ltc_7 {i : Nat} (h : i < 7) : nI i < 7 := nI_lt (b := 7) h (by decide)
theorem ltc_64 {i : Nat} (h : i < 64) : nI i < 64 := nI_lt (b := 64) h (by decide)
theorem nlc_4 {i : Nat} (h : 4 ≤ i) (g : i < 2 ^ 31) : ¬ nI i < 4 := nI_nlt (b := 4) h g
theorem nlc_5 {i : Nat} (h : 5 ≤ i) (g : i < 2 ^ 31) : ¬ nI i < 5 := nI_nlt (b := 5) h g
/-- is t in the set s? -/
abbrev tIn (s t : Nat) : Prop := s / 2 ^ t % 2 = 1
/-- rents of the free towns below t that are not in s -/
def RS (f : Nat) (r : Nat → Nat) (s : Nat) : Nat → Nat
  | 0 => 0
  | t + 1 => if tIn f t ∧ ¬ tIn s t then RS f r s t + r t else RS f r s t
def RO (f : Nat) (r : Nat → Nat) : Prop := ∀ t : Nat, t < 6 → tIn f t → r t ≤ 999
theorem RS_le {f s : Nat} {r : Nat → Nat} (hr : RO f r) : ∀ t : Nat, t ≤ 6 → RS f r s t ≤ 999 * t
  | 0, _ => Nat.le_refl _
  | t + 1, h => by
    have i := RS_le (s := s) hr t (by omega)
    rw [RS]
    by_cases q : tIn f t ∧ ¬ tIn s t
    · rw [if_pos q]; have := hr t (by omega) q.1; omega
    · rw [if_neg q]; omega
/-- a quarter: from set s with coin x by choice d (0: none, t + 1: town t) at cost c -/
def stq (f : Nat) (r : Nat → Nat) (c s x d s' x' : Nat) : Prop := (d = 0 ∧ s' = s ∧ x' + c = x + RS f r s 6) ∨ ∃ t : Nat, t < 6 ∧ d = t + 1 ∧ tIn f t ∧ ¬ tIn s t ∧ s' = s + 2 ^ t ∧ x' + c = x + RS f r s 6 + 4 * r t
theorem stq.sh {f : Nat} {r : Nat → Nat} {c s x d s' x' y : Nat} (h : stq f r c s x d s' x') (hy : x ≤ y) : stq f r c s y d s' (x' + (y - x)) := by
  rcases h with ⟨h1, h2, h3⟩ | ⟨t, h1, h2, h3, h4, h5, h6⟩
  · exact Or.inl ⟨h1, h2, by omega⟩
  · exact Or.inr ⟨t, h1, h2, h3, h4, h5, by omega⟩
theorem stq.d7 {f : Nat} {r : Nat → Nat} {c s x d s' x' : Nat} (h : stq f r c s x d s' x') : d < 7 ∧ s ≤ s' := by
  rcases h with ⟨h1, h2, h3⟩ | ⟨t, h1, h2, h3, h4, h5, h6⟩
  · omega
  · have := Nat.pow_pos (n := t) (show 0 < 2 by decide); omega
theorem bt_add : ∀ (s : Fin 64) (t : Fin 6), ¬ tIn s.val t.val → s.val + 2 ^ t.val < 64 ∧ tIn (s.val + 2 ^ t.val) t.val ∧ ∀ u : Fin 6, u ≠ t → (tIn (s.val + 2 ^ t.val) u.val ↔ tIn s.val u.val) := by decide +kernel
theorem bt_sub : ∀ (s : Fin 64) (t : Fin 6), tIn s.val t.val → 2 ^ t.val ≤ s.val ∧ ¬ tIn (s.val - 2 ^ t.val) t.val ∧ ∀ u : Fin 6, u ≠ t → (tIn (s.val - 2 ^ t.val) u.val ↔ tIn s.val u.val) := by decide +kernel
theorem stq.x {f : Nat} {r : Nat → Nat} {c s x d s' x' : Nat} (hr : RO f r) (hs : s < 64) (h : stq f r c s x d s' x') : s' < 64 ∧ x' ≤ x + 9990 := by
  have l := RS_le (s := s) hr 6 (Nat.le_refl _)
  rcases h with ⟨h1, h2, h3⟩ | ⟨t, h1, h2, h3, h4, h5, h6⟩
  · omega
  · have := hr t h1 h3
    have b := (bt_add ⟨s, hs⟩ ⟨t, h1⟩ h4).1
    simp only at b
    exact ⟨by rw [h5]; exact b, by omega⟩
/-- after k quarters: set, coin, and the choices as a number -/
def Rc (f : Nat) (r c : Nat → Nat) (m0 : Nat) : Nat → Nat → Nat → Nat → Prop
  | 0, s, x, D => s = 0 ∧ x = m0 ∧ D = 0
  | k + 1, s, x, D => ∃ s' x' D' d : Nat, Rc f r c m0 k s' x' D' ∧ stq f r (c k) s' x' d s x ∧ D = 7 * D' + d
theorem Rc_b {f m0 : Nat} {r c : Nat → Nat} (hr : RO f r) : ∀ (k s x D : Nat), Rc f r c m0 k s x D → s < 64 ∧ x ≤ m0 + 9990 * k ∧ D < 7 ^ k
  | 0, s, x, D, h => by
    obtain ⟨rfl, rfl, rfl⟩ := h
    exact ⟨by decide, by omega, by decide⟩
  | k + 1, s, x, D, h => by
    obtain ⟨s', x', D', d, h1, h2, rfl⟩ := h
    obtain ⟨i1, i2, i3⟩ := Rc_b hr k s' x' D' h1
    obtain ⟨j1, j2⟩ := h2.x hr i1
    have := h2.d7.1
    have a : x ≤ m0 + 9990 * (k + 1) := by
      rw [Nat.mul_add, Nat.mul_one, ← Nat.add_assoc]
      exact Nat.le_trans j2 (Nat.add_le_add_right i2 9990)
    refine ⟨j1, a, ?_⟩
    rw [Nat.pow_succ]
    generalize 7 ^ k = z at i3 ⊢
    omega
/-- the most, and of these the least number -/
def Bm (X : Nat → Nat → Prop) (x D : Nat) : Prop := X x D ∧ ∀ x' D' : Nat, X x' D' → x' < x ∨ (x' = x ∧ D ≤ D')
theorem Bm.uq {X Y : Nat → Nat → Prop} {x D x' D' : Nat} (h : Bm X x D) (g : Bm Y x' D') (e : ∀ a b : Nat, X a b ↔ Y a b) : x = x' ∧ D = D' := by
  have a := h.2 x' D' ((e _ _).mpr g.1)
  have b := g.2 x D ((e _ _).mp h.1)
  omega
/-- none, or the best: as two numbers of a machine -/
def Dp (X : Nat → Nat → Prop) (a b : Int32) : Prop := (a = -1 ∧ ∀ x D : Nat, ¬ X x D) ∨ ∃ x D : Nat, a = nI x ∧ b = nI D ∧ Bm X x D ∧ x < 2 ^ 29 ∧ D < 2 ^ 29
theorem Dp.cg {X Y : Nat → Nat → Prop} {a b : Int32} (h : Dp X a b) (e : ∀ x y : Nat, X x y ↔ Y x y) : Dp Y a b := by
  rw [show Y = X from funext fun x => funext fun y => propext (e x y).symm]; exact h
theorem Dp.m1 {X : Nat → Nat → Prop} {a b : Int32} (h : Dp X a b) : ¬ a < -1 := by
  rcases h with ⟨rfl, -⟩ | ⟨x, D, rfl, -, -, h4, -⟩
  · decide
  · exact fun q => nI_pos (show x < 2 ^ 31 by omega) (Int32.lt_trans q (by decide))
theorem m1_lt {x : Nat} (h : x < 2 ^ 31) : (-1 : Int32) < nI x := by
  rw [Int32.lt_iff_toInt_lt, nI_toInt h, show (-1 : Int32).toInt = -1 by decide]; omega
/-- one more comes to X -/
theorem Dp.step {X : Nat → Nat → Prop} {a b : Int32} {x D : Nat} (h : Dp X a b) (hx : x < 2 ^ 29) (hD : D < 2 ^ 29) : ((a < nI x ∨ (nI x = a ∧ nI D < b)) → Dp (fun y E => X y E ∨ (y = x ∧ E = D)) (nI x) (nI D)) ∧ (¬ (a < nI x ∨ (nI x = a ∧ nI D < b)) → Dp (fun y E => X y E ∨ (y = x ∧ E = D)) a b) := by
  rcases h with ⟨rfl, h2⟩ | ⟨x0, D0, rfl, rfl, h3, h4, h5⟩
  · refine ⟨fun _ => Or.inr ⟨x, D, rfl, rfl, ⟨Or.inr ⟨rfl, rfl⟩, fun y E q => ?_⟩, hx, hD⟩, fun q => absurd (Or.inl (m1_lt (by omega))) q⟩
    rcases q with q | ⟨rfl, rfl⟩
    · exact absurd q (h2 y E)
    · omega
  · rw [nI_ltI (by omega) (by omega), nI_eq (by omega) (by omega), nI_ltI (by omega) (by omega)]
    refine ⟨fun q => Or.inr ⟨x, D, rfl, rfl, ⟨Or.inr ⟨rfl, rfl⟩, fun y E z => ?_⟩, hx, hD⟩, fun q => Or.inr ⟨x0, D0, rfl, rfl, ⟨Or.inl h3.1, fun y E z => ?_⟩, h4, h5⟩⟩
    · rcases z with z | ⟨rfl, rfl⟩
      · have := h3.2 y E z; omega
      · omega
    · rcases z with z | ⟨rfl, rfl⟩
      · exact h3.2 y E z
      · omega
theorem imx {a c : Nat} (ha : a < 2 ^ 30) (hc : c < 2 ^ 30) : imax (-1) (nI a - nI c) = if c ≤ a then nI (a - c) else -1 := by
  unfold imax
  by_cases z : c ≤ a
  · rw [pk_sub z, if_pos (m1_lt (by omega)), if_pos z]
  · have e : ¬ (-1 : Int32) < nI a - nI c := by
      rw [Int32.lt_iff_toInt_lt, pk_sub_toInt ha hc, show (-1 : Int32).toInt = -1 by decide]; omega
    rw [if_neg e, if_neg z]
/-! bits of sets -/
theorem bs_1 : ∀ (s : Fin 64) (t : Fin 6), (((nI s.val >>> (nI t.val &&& 31)) &&& 1 = 1) = tIn s.val t.val) ∧ (((nI s.val >>> (nI t.val &&& 31)) &&& 1 = 0) = ¬ tIn s.val t.val) := by decide +kernel
theorem bs_2 : ∀ (s : Fin 64) (t : Fin 6), nI s.val &&& (((1 : Int32) <<< (nI t.val &&& 31)) ^^^ (-1)) = nI (if tIn s.val t.val then s.val - 2 ^ t.val else s.val) := by decide +kernel
theorem bs_3 : ∀ s : Fin 64, nI s.val &&& 63 = nI s.val := by decide +kernel
theorem bs_4 : ∀ f s : Fin 64, nI f.val &&& (nI s.val ^^^ (-1)) = nI (f.val &&& (63 - s.val)) := by decide +kernel
theorem bs_5 : ∀ (h : Fin 64) (t : Fin 6), (nI h.val &&& ((1 : Int32) <<< (nI t.val &&& 31)) = 0) = ¬ tIn h.val t.val := by decide +kernel
theorem bs_6 : ∀ (f s : Fin 64) (t : Fin 6), f.val &&& (63 - s.val) < 64 ∧ (tIn (f.val &&& (63 - s.val)) t.val ↔ (tIn f.val t.val ∧ ¬ tIn s.val t.val)) := by decide +kernel
theorem bs_7 : ∀ (f : Fin 64) (t : Fin 6), f.val < 2 ^ t.val → nI f.val ||| ((1 : Int32) <<< (nI t.val &&& 31)) = nI (f.val + 2 ^ t.val) ∧ f.val + 2 ^ t.val < 2 ^ (t.val + 1) ∧ tIn (f.val + 2 ^ t.val) t.val ∧ ¬ tIn f.val t.val ∧ ∀ u : Fin 6, u.val < t.val → (tIn (f.val + 2 ^ t.val) u.val ↔ tIn f.val u.val) := by decide +kernel
/-! the class -/
def CP (f : Nat) (r : Nat → Nat) (S : FS) : Prop := f < 64 ∧ S.1 112 = nI f ∧ (∀ s : Nat, s < 64 → S.2 45 s = nI (RS f r s 6)) ∧ RO f r ∧ ∀ t : Nat, t < 6 → tIn f t → S.2 3 (3 * t) = nI (r t)
/-- what is left by choice d, and where it comes from -/
theorem left_x {f s d cst : Nat} {r : Nat → Nat} {X : Nat → Nat → Nat → Prop} (cp : CP f r S) (hs : s < 64) (hd : d < 7) (hc : cst ≤ 9999) (dp : ∀ s' : Nat, s' ≤ s → Dp (X s') (S.2 43 s') (S.2 44 s')) : (q_X5_leftBy S (nI s) (nI d) (nI cst) = some (-1) ∧ ∀ s' x' D' x : Nat, s' ≤ s → Bm (X s') x' D' → ¬ stq f r cst s' x' d s x) ∨ ∃ s' x' D' x : Nat, s' < 64 ∧ s' ≤ s ∧ Bm (X s') x' D' ∧ x' < 2 ^ 29 ∧ D' < 2 ^ 29 ∧ stq f r cst s' x' d s x ∧ q_X5_leftBy S (nI s) (nI d) (nI cst) = some (nI x) ∧ p_X5_before S (nI s) (nI d) = nI s' ∧ S.2 44 s' = nI D' := by
  obtain ⟨c1, c2, c3, c4, c5⟩ := cp
  have uq : ∀ {s' x' D' y E : Nat}, Bm (X s') x' D' → Bm (X s') y E → x' = y := fun a b => (a.uq b (fun _ _ => Iff.rfl)).1
  have l := RS_le (s := s) c4 6 (Nat.le_refl _)
  unfold q_X5_leftBy
  rw [fv_s]
  cases d with
  | zero =>
    have bf : p_X5_before S (nI s) (nI 0) = nI s := by
      unfold p_X5_before
      rw [if_pos (show nI 0 = 0 from rfl)]; exact bs_3 ⟨s, hs⟩
    rw [bf, if_pos (show nI 0 = 0 from rfl), ix_nI hs (by decide), fb_s, c3 s hs]
    rcases dp s (Nat.le_refl _) with ⟨e1, e2⟩ | ⟨x0, D0, e1, e2, e3, e4, e5⟩
    · left
      refine ⟨by rw [e1, if_pos (by decide)], fun s' x' D' x h1 h2 h3 => ?_⟩
      rcases h3 with ⟨-, rfl, -⟩ | ⟨t, -, h, -⟩
      · exact e2 _ _ h2.1
      · omega
    · rw [e1, if_neg (nI_pos (by omega)), nI_add, Int32.add_zero, imx (by omega) (by omega)]
      by_cases z : cst ≤ x0 + RS f r s 6
      · right
        rw [if_pos z]
        exact ⟨s, x0, D0, x0 + RS f r s 6 - cst, hs, Nat.le_refl _, e3, e4, e5, Or.inl ⟨rfl, rfl, by omega⟩, rfl, rfl, e2⟩
      · left
        rw [if_neg z]
        refine ⟨rfl, fun s' x' D' x h1 h2 h3 => ?_⟩
        rcases h3 with ⟨-, rfl, h3⟩ | ⟨t, -, h, -⟩
        · have := uq h2 e3; omega
        · omega
  | succ t =>
    have t6 : t < 6 := by omega
    have nz : ¬ nI (t + 1) = 0 := nI_ne0 (by omega) (by omega)
    have bf : p_X5_before S (nI s) (nI (t + 1)) = nI (if tIn s t then s - 2 ^ t else s) := by
      unfold p_X5_before
      rw [if_neg nz, fv_s, nI_pred]
      have e := bs_2 ⟨s, hs⟩ ⟨t, t6⟩
      simp only at e
      rw [e]
      by_cases z : tIn s t
      · rw [if_pos z]; exact bs_3 ⟨s - 2 ^ t, Nat.lt_of_le_of_lt (Nat.sub_le _ _) hs⟩
      · rw [if_neg z]; exact bs_3 ⟨s, hs⟩
    rw [bf, if_neg nz, nI_pred]
    have b1 := (bs_1 ⟨f, c1⟩ ⟨t, t6⟩).2
    simp only at b1
    by_cases z : tIn s t
    · obtain ⟨q1, q2, q3⟩ := bt_sub ⟨s, hs⟩ ⟨t, t6⟩ z
      simp only at q1 q2
      have pp := Nat.pow_pos (n := t) (show 0 < 2 by decide)
      rw [if_pos z, if_neg (fun q => by have := nI_inj (by omega) (by omega) q; omega), c2]
      -- from where it comes: this set alone
      have only : ∀ {s' x' x : Nat}, stq f r cst s' x' (t + 1) s x → s' = s - 2 ^ t ∧ tIn f t ∧ x + cst = x' + RS f r (s - 2 ^ t) 6 + 4 * r t := fun {s' x' x} h => by
        rcases h with ⟨h, -⟩ | ⟨u, -, h2, h3, -, h5, h6⟩
        · omega
        · obtain rfl : u = t := by omega
          obtain rfl : s' = s - 2 ^ u := by omega
          exact ⟨rfl, h3, h6⟩
      by_cases y : tIn f t
      · rw [if_neg (by rw [b1]; exact fun q => q y), ix_nI (show s - 2 ^ t < 64 by omega) (by decide), fb_s, c3 _ (show s - 2 ^ t < 64 by omega)]
        have l2 := RS_le (s := s - 2 ^ t) c4 6 (Nat.le_refl _)
        have r9 := c4 t t6 y
        rcases dp (s - 2 ^ t) (by omega) with ⟨e1, e2⟩ | ⟨x0, D0, e1, e2, e3, e4, e5⟩
        · left
          refine ⟨by rw [e1, if_pos (by decide)], fun s' x' D' x h1 h2 h3 => ?_⟩
          obtain ⟨rfl, -⟩ := only h3
          exact e2 _ _ h2.1
        · rw [e1, if_neg (nI_pos (by omega)), fv_s, g2_0 (by omega), c5 t t6 y, show (4 : Int32) = nI 4 from rfl, pk_mul, nI_add, nI_add, imx (by omega) (by omega)]
          by_cases w : cst ≤ x0 + RS f r (s - 2 ^ t) 6 + 4 * r t
          · right
            rw [if_pos w]
            exact ⟨s - 2 ^ t, x0, D0, x0 + RS f r (s - 2 ^ t) 6 + 4 * r t - cst, by omega, by omega, e3, e4, e5, Or.inr ⟨t, t6, rfl, y, q2, by omega, by omega⟩, rfl, rfl, e2⟩
          · left
            rw [if_neg w]
            refine ⟨rfl, fun s' x' D' x h1 h2 h3 => ?_⟩
            obtain ⟨rfl, -, h4⟩ := only h3
            have := uq h2 e3; omega
      · left
        rw [if_pos (by rw [b1]; exact y)]
        exact ⟨rfl, fun s' x' D' x h1 h2 h3 => y (only h3).2.1⟩
    · left
      rw [if_neg z, if_pos rfl]
      refine ⟨rfl, fun s' x' D' x h1 h2 h3 => ?_⟩
      rcases h3 with ⟨h, -⟩ | ⟨u, -, h5, h6, h7, h8, -⟩
      · omega
      · obtain rfl : u = t := by omega
        have pp := Nat.pow_pos (n := u) (show 0 < 2 by decide)
        have q := (bt_add ⟨s', by omega⟩ ⟨u, t6⟩ h7).2.1
        simp only at q
        rw [← h8] at q; exact z q
/-- what comes to s by the choices below d -/
def Xc (f : Nat) (r : Nat → Nat) (X : Nat → Nat → Nat → Prop) (cst s d x D : Nat) : Prop := ∃ e s' x' D' : Nat, e < d ∧ s' ≤ s ∧ Bm (X s') x' D' ∧ stq f r cst s' x' e s x ∧ D = 7 * D' + e
theorem pq15 {f s cst : Nat} {r : Nat → Nat} {X : Nat → Nat → Nat → Prop} (cp : CP f r S) (hs : s < 64) (hc : cst ≤ 9999) (dp : ∀ s' : Nat, s' ≤ s → Dp (X s') (S.2 43 s') (S.2 44 s')) (hX : ∀ s' x D : Nat, X s' x D → x < 2 ^ 28 ∧ D < 2 ^ 20) : ∀ (m d : Nat) (a b : Int32), d ≤ 7 → 7 - d < m → Dp (Xc f r X cst s d) a b → ∃ a' b' : Int32, Dp (Xc f r X cst s 7) a' b' ∧ ∀ k, l_X5_passQuarter_15 (nI cst) (nI s) k m S a b (nI d) = k S a' b' (nI 7) := by
  intro m
  induction m with
  | zero => intro d a b _ hm; exact absurd hm (Nat.not_lt_zero _)
  | succ m ih =>
    intro d a b hd hm dq
    by_cases c : d < 7
    · have lt := ltc_7 c
      rcases left_x cp hs c hc dp with ⟨e1, e2⟩ | ⟨s', x', D', x, p1, p2, p3, p4, p5, p6, p7, p8, p9⟩
      · have cg : ∀ y E : Nat, Xc f r X cst s d y E ↔ Xc f r X cst s (d + 1) y E := fun y E => by
          constructor
          · rintro ⟨e, s', x', D', h1, h2⟩; exact ⟨e, s', x', D', by omega, h2⟩
          · rintro ⟨e, s', x', D', h1, h2, h3, h4, h5⟩
            by_cases z : e = d
            · subst z; exact absurd h4 (e2 s' x' D' y h2 h3)
            · exact ⟨e, s', x', D', by omega, h2, h3, h4, h5⟩
        obtain ⟨a', b', r1, r2⟩ := ih (d + 1) a b (by omega) (by omega) (dq.cg cg)
        refine ⟨a', b', r1, fun k => ?_⟩
        rw [l_X5_passQuarter_15, if_pos (show nI d < 7 from lt), e1, fb_s, if_pos (by decide), if_neg dq.m1, nI_1]; exact r2 k
      · have hx := hX s' x' D' p3.1
        have xb := (p6.x cp.2.2.2.1 p1).2
        have uq : ∀ {y E : Nat}, Bm (X s') y E → x' = y ∧ D' = E := fun h => p3.uq h (fun _ _ => Iff.rfl)
        have cg : ∀ y E : Nat, (Xc f r X cst s d y E ∨ (y = x ∧ E = 7 * D' + d)) ↔ Xc f r X cst s (d + 1) y E := fun y E => by
          constructor
          · rintro (⟨e, s', x', D', h1, h2⟩ | ⟨rfl, rfl⟩)
            · exact ⟨e, s', x', D', by omega, h2⟩
            · exact ⟨d, s', x', D', by omega, p2, p3, p6, rfl⟩
          · rintro ⟨e, s2, x2, D2, h1, h2, h3, h4, h5⟩
            by_cases z : e = d
            · subst z
              -- a choice tells from where it comes
              have es : s2 = s' := by
                rcases h4 with ⟨q1, q2, -⟩ | ⟨t, q0, q1, -, -, q2, -⟩
                · rcases p6 with ⟨-, w2, -⟩ | ⟨u, -, w1, -⟩
                  · omega
                  · omega
                · rcases p6 with ⟨w1, -⟩ | ⟨u, -, w1, -, -, w2, -⟩
                  · omega
                  · obtain rfl : u = t := by omega
                    omega
              subst es
              obtain ⟨rfl, rfl⟩ := uq h3
              refine Or.inr ⟨?_, h5⟩
              rcases h4 with ⟨q1, q2, q3⟩ | ⟨t, q0, q1, -, -, q2, q3⟩
              · rcases p6 with ⟨-, -, w3⟩ | ⟨u, -, w1, -⟩
                · omega
                · omega
              · rcases p6 with ⟨w1, -⟩ | ⟨u, -, w1, -, -, w2, w3⟩
                · omega
                · obtain rfl : u = t := by omega
                  omega
            · exact Or.inl ⟨e, s2, x2, D2, by omega, h2, h3, h4, h5⟩
        have sp := dq.step (x := x) (D := 7 * D' + d) (by omega) (by omega)
        have st : ∀ k, l_X5_passQuarter_15 (nI cst) (nI s) k (m + 1) S a b (nI d) = if a < nI x then (l_X5_passQuarter_15 (nI cst) (nI s) k m S (nI x) (nI (7 * D' + d)) (nI (d + 1))) else (if nI x = a then (if nI (7 * D' + d) < b then (l_X5_passQuarter_15 (nI cst) (nI s) k m S (nI x) (nI (7 * D' + d)) (nI (d + 1))) else (l_X5_passQuarter_15 (nI cst) (nI s) k m S a b (nI (d + 1)))) else (l_X5_passQuarter_15 (nI cst) (nI s) k m S a b (nI (d + 1)))) := fun k => by
          rw [l_X5_passQuarter_15, if_pos (show nI d < 7 from lt), p7, fb_s, if_neg (nI_pos (by omega)), p8, ix_nI p1 (by decide), fb_s, fv_s, p9, show (7 : Int32) = nI 7 from rfl, pk_mul, nI_add, show D' * 7 + d = 7 * D' + d by omega, nI_1]
        have take : (a < nI x ∨ (nI x = a ∧ nI (7 * D' + d) < b)) → ∃ a' b' : Int32, Dp (Xc f r X cst s 7) a' b' ∧ ∀ k, l_X5_passQuarter_15 (nI cst) (nI s) k m S (nI x) (nI (7 * D' + d)) (nI (d + 1)) = k S a' b' (nI 7) := fun q => ih (d + 1) _ _ (by omega) (by omega) ((sp.1 q).cg cg)
        have skip : ¬ (a < nI x ∨ (nI x = a ∧ nI (7 * D' + d) < b)) → ∃ a' b' : Int32, Dp (Xc f r X cst s 7) a' b' ∧ ∀ k, l_X5_passQuarter_15 (nI cst) (nI s) k m S a b (nI (d + 1)) = k S a' b' (nI 7) := fun q => ih (d + 1) _ _ (by omega) (by omega) ((sp.2 q).cg cg)
        by_cases z1 : a < nI x
        · obtain ⟨a', b', r1, r2⟩ := take (Or.inl z1)
          exact ⟨a', b', r1, fun k => by rw [st, if_pos z1]; exact r2 k⟩
        · by_cases z2 : nI x = a
          · by_cases z3 : nI (7 * D' + d) < b
            · obtain ⟨a', b', r1, r2⟩ := take (Or.inr ⟨z2, z3⟩)
              exact ⟨a', b', r1, fun k => by rw [st, if_neg z1, if_pos z2, if_pos z3]; exact r2 k⟩
            · obtain ⟨a', b', r1, r2⟩ := skip (fun q => q.elim z1 (fun w => z3 w.2))
              exact ⟨a', b', r1, fun k => by rw [st, if_neg z1, if_pos z2, if_neg z3]; exact r2 k⟩
          · obtain ⟨a', b', r1, r2⟩ := skip (fun q => q.elim z1 (fun w => z2 w.1))
            exact ⟨a', b', r1, fun k => by rw [st, if_neg z1, if_neg z2]; exact r2 k⟩
    · obtain rfl : d = 7 := by omega
      refine ⟨a, b, dq, fun k => ?_⟩
      rw [l_X5_passQuarter_15, if_neg (by decide)]
/-- the best of the bests is the best of all -/
theorem Xc_all {f s m0 k : Nat} {r c : Nat → Nat} {a b : Int32} (dp : ∀ s' : Nat, s' ≤ s → ∃ u v : Int32, Dp (Rc f r c m0 k s') u v) (h : Dp (Xc f r (Rc f r c m0 k) (c k) s 7) a b) : Dp (Rc f r c m0 (k + 1) s) a b := by
  have up : ∀ x D : Nat, Rc f r c m0 (k + 1) s x D → ∃ y E : Nat, Xc f r (Rc f r c m0 k) (c k) s 7 y E ∧ (x < y ∨ (x = y ∧ E ≤ D)) := by
    rintro x D ⟨s', x', D', d, h1, h2, rfl⟩
    obtain ⟨d7, ss⟩ := h2.d7
    obtain ⟨u, v, q⟩ := dp s' ss
    rcases q with ⟨-, q⟩ | ⟨x0, D0, -, -, q, -, -⟩
    · exact absurd h1 (q x' D')
    · have g := q.2 x' D' h1
      refine ⟨x + (x0 - x'), 7 * D0 + d, ⟨d, s', x0, D0, d7, ss, q, h2.sh (by omega), rfl⟩, by omega⟩
  have dn : ∀ y E : Nat, Xc f r (Rc f r c m0 k) (c k) s 7 y E → Rc f r c m0 (k + 1) s y E := by
    rintro y E ⟨e, s', x', D', h1, h2, h3, h4, h5⟩
    exact ⟨s', x', D', e, h3.1, h4, h5⟩
  rcases h with ⟨h1, h2⟩ | ⟨x, D, h1, h2, h3, h4, h5⟩
  · refine Or.inl ⟨h1, fun x D q => ?_⟩
    obtain ⟨y, E, z, -⟩ := up x D q
    exact h2 y E z
  · refine Or.inr ⟨x, D, h1, h2, ⟨dn x D h3.1, fun x' D' q => ?_⟩, h4, h5⟩
    obtain ⟨y, E, z1, z2⟩ := up x' D' q
    have := h3.2 y E z1
    omega
theorem CP.eq {f : Nat} {r : Nat → Nat} {S S' : FS} (h : CP f r S) (e1 : S'.1 112 = S.1 112) (e2 : S'.2 45 = S.2 45) (e3 : S'.2 3 = S.2 3) : CP f r S' := by
  obtain ⟨h1, h2, h3, h4, h5⟩ := h
  refine ⟨h1, e1.trans h2, ?_, h4, ?_⟩
  · rw [e2]; exact h3
  · rw [e3]; exact h5
/-- the class's rows behind k quarters -/
def QR (f : Nat) (r c : Nat → Nat) (m0 k : Nat) (S : FS) : Prop := ∀ s : Nat, s < 64 → Dp (Rc f r c m0 k s) (S.2 43 s) (S.2 44 s)
theorem pq3 {f m0 k : Nat} {r c : Nat → Nat} (hm0 : m0 < 2 ^ 27) (hk : k ≤ 7) (hc : c k ≤ 9999) : ∀ (m i : Nat) (S : FS), i ≤ 64 → i < m → CP f r S → (∀ s : Nat, s < i → Dp (Rc f r c m0 k s) (S.2 43 s) (S.2 44 s)) → (∀ s : Nat, i ≤ s → s < 64 → Dp (Rc f r c m0 (k + 1) s) (S.2 43 s) (S.2 44 s)) → ∃ S' : FS, EQP S S' ∧ S'.1 = S.1 ∧ CP f r S' ∧ QR f r c m0 (k + 1) S' ∧ ∀ q, l_X5_passQuarter_3 (nI (c k)) q m S (nI i - 1) = q S' (-1) := by
  intro m
  induction m with
  | zero => intro i S _ hm; exact absurd hm (Nat.not_lt_zero _)
  | succ m ih =>
    intro i S hi hm cp lo hh
    cases i with
    | zero =>
      refine ⟨S, EQP.rf, rfl, cp, fun s hs => hh s (Nat.zero_le _) hs, fun q => ?_⟩
      rw [l_X5_passQuarter_3, if_pos (by decide)]; rfl
    | succ j =>
      have j64 : j < 64 := by omega
      have k7 : 7 ^ k ≤ 7 ^ 7 := Nat.pow_le_pow_right (by decide) hk
      obtain ⟨a, b, q1, q2⟩ := pq15 (X := Rc f r c m0 k) cp j64 hc (fun s' hs' => lo s' (by omega)) (fun s' x D q => by
        obtain ⟨-, z2, z3⟩ := Rc_b cp.2.2.2.1 k s' x D q
        exact ⟨by omega, by omega⟩) FU 0 (-1) 0 (Nat.zero_le _) (FU_lt (by omega)) (Or.inl ⟨rfl, fun x D q => by obtain ⟨e, -, -, -, h, -⟩ := q; exact absurd h (Nat.not_lt_zero _)⟩)
      have dj : Dp (Rc f r c m0 (k + 1) j) a b := Xc_all (fun s' hs' => ⟨_, _, lo s' (by omega)⟩) q1
      obtain ⟨S', r1, r2, r3, r4, r5⟩ := ih j (wA (wA S 43 j a) 44 j b) (by omega) (by omega) (cp.eq rfl (by rw [wA_n (by decide), wA_n (by decide)]) (by rw [wA_n (by decide), wA_n (by decide)])) (fun s hs => by
          rw [wA_n (show (43 : Nat) ≠ 44 by decide), wA_e, wA_e, wA_n (show (44 : Nat) ≠ 43 by decide), pk_un (by omega), pk_un (by omega)]; exact lo s (by omega)) (fun s h1 h2 => by
          rw [wA_n (show (43 : Nat) ≠ 44 by decide), wA_e, wA_e, wA_n (show (44 : Nat) ≠ 43 by decide)]
          by_cases z : s = j
          · subst z; rw [pk_us, pk_us]; exact dj
          · rw [pk_un z, pk_un z]; exact hh s (by omega) h2)
      refine ⟨S', ((EQP.wA (by omega)).tr (EQP.wA (by omega))).tr r1, r2, r3, r4, fun q => ?_⟩
      rw [l_X5_passQuarter_3, nI_pred, if_neg (nI_pos (by omega)), show ∀ q, l_X5_passQuarter_15 (nI (c k)) (nI j) q FU S (-1) 0 0 = q S a b (nI 7) from q2, ix_nI j64 (by decide), fb_s, fl_s, fl_s, ← Int32.sub_eq_add_neg]
      exact r5 q
theorem pq_x {f m0 k : Nat} {r c : Nat → Nat} (hm0 : m0 < 2 ^ 27) (hk : k ≤ 7) (hc : c k ≤ 9999) (cp : CP f r S) (qr : QR f r c m0 k S) : ∃ S' : FS, EQP S S' ∧ S'.1 = S.1 ∧ CP f r S' ∧ QR f r c m0 (k + 1) S' ∧ f_X5_passQuarter S (nI (c k)) = some (0, S') := by
  obtain ⟨S', r1, r2, r3, r4, r5⟩ := pq3 hm0 hk hc FU 64 S (Nat.le_refl _) (FU_lt (by decide)) cp (fun s hs => qr s hs) (fun s h1 h2 => absurd h1 (by omega))
  refine ⟨S', r1, r2, r3, r4, ?_⟩
  unfold f_X5_passQuarter
  exact r5 _
theorem pl98_x {f m0 s sz : Nat} {r c : Nat → Nat} (hm0 : m0 < 2 ^ 27) (hs : s < 4) (hz : sz ≤ 8) (hc : ∀ j : Nat, j < sz → c j ≤ 9999) : ∀ (m i : Nat) (S : FS), i ≤ sz → sz - i < m → CP f r S → QR f r c m0 i S → (∀ j : Nat, j < sz → S.2 52 (24 * s + j) = nI (c j)) → ∃ S' : FS, EQP S S' ∧ CP f r S' ∧ QR f r c m0 sz S' ∧ ∀ q, l_X11_plan_98 (nI s) (nI sz) q m S (nI i) = q S' (nI sz) := by
  intro m
  induction m with
  | zero => intro i S _ hm; exact absurd hm (Nat.not_lt_zero _)
  | succ m ih =>
    intro i S hi hm cp qr hn
    by_cases ci : i < sz
    · have en : p_X8_numberAt S (nI s) (nI i) = nI (c i) := by
        unfold p_X8_numberAt; rw [g51 hs (show i < 24 by omega)]; exact hn i ci
      obtain ⟨S1, p1, p2, p3, p4, p5⟩ := pq_x hm0 (show i ≤ 7 by omega) (hc i ci) cp qr
      obtain ⟨S', r1, r2, r3, r4⟩ := ih (i + 1) S1 (by omega) (by omega) p3 p4 (fun j hj => by rw [p1.2 52 (by decide) (by decide) (by decide)]; exact hn j hj)
      refine ⟨S', p1.tr r1, r2, r3, fun q => ?_⟩
      rw [l_X11_plan_98, if_pos (nI_lt ci (by omega)), en, p5, fb_s, nI_1]; exact r4 q
    · obtain rfl : i = sz := by omega
      refine ⟨S, EQP.rf, cp, qr, fun q => ?_⟩
      rw [l_X11_plan_98, if_neg (nI_nlt (Nat.le_refl _) (by omega))]
/-! the best of all sets -/
def Yb (f : Nat) (r : Nat → Nat) (X : Nat → Nat → Nat → Prop) (n V E : Nat) : Prop := ∃ s x : Nat, s < n ∧ Bm (X s) x E ∧ V = x + 8 * RS f r s 6
def FBq (X : Nat → Nat → Prop) (S : FS) (v : Int32) : Prop := (v = 0 ∧ ∀ V E : Nat, ¬ X V E) ∨ (v = 1 ∧ ∃ V E : Nat, S.1 113 = nI V ∧ S.1 114 = nI E ∧ Bm X V E ∧ V < 2 ^ 30 ∧ E < 2 ^ 29)
theorem fb_x {f : Nat} {r : Nat → Nat} {X : Nat → Nat → Nat → Prop} : ∀ (m i : Nat) (S : FS) (v : Int32), i ≤ 64 → 64 - i < m → CP f r S → (∀ s : Nat, s < 64 → Dp (X s) (S.2 43 s) (S.2 44 s)) → FBq (Yb f r X i) S v → ∃ (S' : FS) (v' : Int32), EQP S S' ∧ FBq (Yb f r X 64) S' v' ∧ ∀ q, l_X5_findBest_4 q m S v (nI i) = q S' v' (nI 64) := by
  intro m
  induction m with
  | zero => intro i S v _ hm; exact absurd hm (Nat.not_lt_zero _)
  | succ m ih =>
    intro i S v hi hm cp dp bst
    by_cases c : i < 64
    · have lt := ltc_64 c
      have l := RS_le (s := i) cp.2.2.2.1 6 (Nat.le_refl _)
      have e45 := cp.2.2.1 i c
      rcases dp i c with ⟨e1, e2⟩ | ⟨x, D, e1, e2, e3, e4, e5⟩
      · -- nothing comes to this set
        have cg : ∀ V E : Nat, Yb f r X i V E ↔ Yb f r X (i + 1) V E := fun V E => by
          constructor
          · rintro ⟨s, x, h1, h2⟩; exact ⟨s, x, by omega, h2⟩
          · rintro ⟨s, x, h1, h2, h3⟩
            by_cases z : s = i
            · subst z; exact absurd h2.1 (e2 _ _)
            · exact ⟨s, x, by omega, h2, h3⟩
        have bst' : FBq (Yb f r X (i + 1)) S v := by
          rw [show Yb f r X (i + 1) = Yb f r X i from funext fun x => funext fun y => propext (cg x y).symm]; exact bst
        obtain ⟨S', v', r1, r2, r3⟩ := ih (i + 1) S v (by omega) (by omega) cp dp bst'
        refine ⟨S', v', r1, r2, fun q => ?_⟩
        rw [l_X5_findBest_4, if_pos (show nI i < 64 from lt), ix_nI c (by decide), fb_s, fv_s, e1, nI_1]
        simp only [show ((-1 : Int32) < 0) = True from eq_true (by decide), ite_self, ↓reduceIte]; exact r3 q
      · have nn : ¬ nI x < 0 := nI_pos (by omega)
        have uq : ∀ {y E : Nat}, Bm (X i) y E → x = y ∧ D = E := fun h => e3.uq h (fun _ _ => Iff.rfl)
        have cg : ∀ V E : Nat, Yb f r X (i + 1) V E ↔ (Yb f r X i V E ∨ (V = x + 8 * RS f r i 6 ∧ E = D)) := fun V E => by
          constructor
          · rintro ⟨s, y, h1, h2, h3⟩
            by_cases z : s = i
            · subst z
              obtain ⟨rfl, rfl⟩ := uq h2
              exact Or.inr ⟨h3, rfl⟩
            · exact Or.inl ⟨s, y, by omega, h2, h3⟩
          · rintro (⟨s, y, h1, h2⟩ | ⟨rfl, rfl⟩)
            · exact ⟨s, y, by omega, h2⟩
            · exact ⟨i, x, by omega, e3, rfl⟩
        have eY : Yb f r X (i + 1) = fun V E => Yb f r X i V E ∨ (V = x + 8 * RS f r i 6 ∧ E = D) := funext fun V => funext fun E => propext (cg V E)
        have take : (∀ V E : Nat, Yb f r X i V E → V < x + 8 * RS f r i 6 ∨ (V = x + 8 * RS f r i 6 ∧ D ≤ E)) → ∃ (S' : FS) (v' : Int32), EQP S S' ∧ FBq (Yb f r X 64) S' v' ∧ ∀ q, l_X5_findBest_4 q m (wI (wI S 113 (nI (x + 8 * RS f r i 6))) 114 (nI D)) 1 (nI (i + 1)) = q S' v' (nI 64) := fun h => by
          obtain ⟨S', v', r1, r2, r3⟩ := ih (i + 1) (wI (wI S 113 (nI (x + 8 * RS f r i 6))) 114 (nI D)) 1 (by omega) (by omega) (cp.eq (by rw [wI_n (by decide), wI_n (by decide)]) rfl rfl) dp (Or.inr ⟨rfl, x + 8 * RS f r i 6, D, by rw [wI_n (by decide), wI_e], wI_e, by
            rw [eY]
            refine ⟨Or.inr ⟨rfl, rfl⟩, fun V E q => ?_⟩
            rcases q with q | ⟨rfl, rfl⟩
            · exact h V E q
            · omega, by omega, by omega⟩)
          exact ⟨S', v', ((EQP.wI (by omega)).tr (EQP.wI (by omega))).tr r1, r2, r3⟩
        have st : ∀ q, l_X5_findBest_4 q (m + 1) S v (nI i) = if v = 0 then (l_X5_findBest_4 q m (wI (wI S 113 (nI (x + 8 * RS f r i 6))) 114 (nI D)) 1 (nI (i + 1))) else (if S.1 113 < nI (x + 8 * RS f r i 6) then (l_X5_findBest_4 q m (wI (wI S 113 (nI (x + 8 * RS f r i 6))) 114 (nI D)) 1 (nI (i + 1))) else (if nI (x + 8 * RS f r i 6) = S.1 113 then (if nI D < S.1 114 then (l_X5_findBest_4 q m (wI (wI S 113 (nI (x + 8 * RS f r i 6))) 114 (nI D)) 1 (nI (i + 1))) else (l_X5_findBest_4 q m S v (nI (i + 1)))) else (l_X5_findBest_4 q m S v (nI (i + 1))))) := fun q => by
          have w44 : ∀ y : Int32, (wI S 113 y).2 44 i = nI D := fun y => e2
          rw [l_X5_findBest_4, if_pos (show nI i < 64 from lt), ix_nI c (by decide), fb_s, fv_s, e1, e45, show (8 : Int32) = nI 8 from rfl, pk_mul, nI_add, nI_1]
          simp only [nn, fl_s, w44, e2, ↓reduceIte, ite_self]
        rcases bst with ⟨rfl, h2⟩ | ⟨rfl, V0, E0, h1, h2, h3, h4, h5⟩
        · obtain ⟨S', v', r1, r2, r3⟩ := take (fun V E q => absurd q (h2 V E))
          exact ⟨S', v', r1, r2, fun q => by rw [st, if_pos rfl]; exact r3 q⟩
        · rw [h1, h2] at st
          by_cases z1 : V0 < x + 8 * RS f r i 6
          · obtain ⟨S', v', r1, r2, r3⟩ := take (fun V E q => by have := h3.2 V E q; omega)
            exact ⟨S', v', r1, r2, fun q => by rw [st, if_neg (by decide), if_pos (nI_lt z1 (by omega))]; exact r3 q⟩
          · have n1 : ¬ nI V0 < nI (x + 8 * RS f r i 6) := nI_nlt (by omega) (by omega)
            have keep : (V0 ≠ x + 8 * RS f r i 6 ∨ E0 ≤ D) → ∃ (S' : FS) (v' : Int32), EQP S S' ∧ FBq (Yb f r X 64) S' v' ∧ ∀ q, l_X5_findBest_4 q m S 1 (nI (i + 1)) = q S' v' (nI 64) := fun h => ih (i + 1) S 1 (by omega) (by omega) cp dp (Or.inr ⟨rfl, V0, E0, h1, h2, by
              rw [eY]
              refine ⟨Or.inl h3.1, fun V E q => ?_⟩
              rcases q with q | ⟨rfl, rfl⟩
              · exact h3.2 V E q
              · omega, h4, h5⟩)
            by_cases z2 : V0 = x + 8 * RS f r i 6
            · by_cases z3 : D < E0
              · obtain ⟨S', v', r1, r2, r3⟩ := take (fun V E q => by have := h3.2 V E q; omega)
                exact ⟨S', v', r1, r2, fun q => by rw [st, if_neg (by decide), if_neg n1, if_pos (by rw [z2]), if_pos (nI_lt z3 (by omega))]; exact r3 q⟩
              · obtain ⟨S', v', r1, r2, r3⟩ := keep (Or.inr (by omega))
                exact ⟨S', v', r1, r2, fun q => by rw [st, if_neg (by decide), if_neg n1, if_pos (by rw [z2]), if_neg (nI_nlt (by omega) (by omega))]; exact r3 q⟩
            · obtain ⟨S', v', r1, r2, r3⟩ := keep (Or.inl z2)
              exact ⟨S', v', r1, r2, fun q => by rw [st, if_neg (by decide), if_neg n1, if_neg (fun y => z2 (nI_inj (by omega) (by omega) y).symm)]; exact r3 q⟩
    · obtain rfl : i = 64 := by omega
      refine ⟨S, v, EQP.rf, bst, fun q => ?_⟩
      rw [l_X5_findBest_4, if_neg (by decide)]
/-- the best of the bests of all sets is the best of all ways -/
def Ya (f : Nat) (r c : Nat → Nat) (m0 N V E : Nat) : Prop := ∃ s x : Nat, Rc f r c m0 N s x E ∧ V = x + 8 * RS f r s 6
theorem Yb_all {f m0 N : Nat} {r c : Nat → Nat} {v : Int32} (hr : RO f r) (qr : ∀ s : Nat, s < 64 → ∃ a b : Int32, Dp (Rc f r c m0 N s) a b) (h : FBq (Yb f r (Rc f r c m0 N) 64) S v) : FBq (Ya f r c m0 N) S v := by
  have up : ∀ V E : Nat, Ya f r c m0 N V E → ∃ V' E' : Nat, Yb f r (Rc f r c m0 N) 64 V' E' ∧ (V < V' ∨ (V = V' ∧ E' ≤ E)) := by
    rintro V E ⟨s, x, h1, rfl⟩
    obtain ⟨s64, -, -⟩ := Rc_b hr N s x E h1
    obtain ⟨a, b, q⟩ := qr s s64
    rcases q with ⟨-, q⟩ | ⟨x0, D0, -, -, q, -, -⟩
    · exact absurd h1 (q x E)
    · have g := q.2 x E h1
      exact ⟨x0 + 8 * RS f r s 6, D0, ⟨s, x0, s64, q, rfl⟩, by omega⟩
  have dn : ∀ V E : Nat, Yb f r (Rc f r c m0 N) 64 V E → Ya f r c m0 N V E := by
    rintro V E ⟨s, x, h1, h2, h3⟩
    exact ⟨s, x, h2.1, h3⟩
  rcases h with ⟨h1, h2⟩ | ⟨h1, V, E, h3, h4, h5, h6, h7⟩
  · refine Or.inl ⟨h1, fun V E q => ?_⟩
    obtain ⟨V', E', z, -⟩ := up V E q
    exact h2 V' E' z
  · refine Or.inr ⟨h1, V, E, h3, h4, ⟨dn V E h5.1, fun V' E' q => ?_⟩, h6, h7⟩
    obtain ⟨V2, E2, z1, z2⟩ := up V' E' q
    have := h5.2 V2 E2 z1
    omega
/-! the beginning -/
theorem rb_x {f s : Nat} {r : Nat → Nat} (hf : f < 64) (hs : s < 64) (e : S.1 112 = nI f) (hr : ∀ t : Nat, t < 6 → tIn f t → S.2 3 (3 * t) = nI (r t)) : ∀ (m i : Nat), i ≤ 6 → 6 - i < m → l_X5_rentsBut_4 (nI s) S (fun a b => some a) m (nI (RS f r s i)) (nI i) = some (nI (RS f r s 6)) := by
  intro m
  induction m with
  | zero => intro i _ hm; exact absurd hm (Nat.not_lt_zero _)
  | succ m ih =>
    intro i hi hm
    rw [l_X5_rentsBut_4]
    by_cases c : i < 6
    · have r' := ih (i + 1) (by omega) (by omega)
      rw [RS] at r'
      have b4 := bs_4 ⟨f, hf⟩ ⟨s, hs⟩
      have b6 := bs_6 ⟨f, hf⟩ ⟨s, hs⟩ ⟨i, c⟩
      simp only at b4 b6
      have b5 := bs_5 ⟨f &&& (63 - s), b6.1⟩ ⟨i, c⟩
      simp only at b5
      rw [if_pos (ltc_6 c), e, b4, nI_1]
      by_cases z : tIn f i ∧ ¬ tIn s i
      · rw [if_pos z] at r'
        rw [if_neg (by rw [b5]; exact fun q => q (b6.2.mpr z)), fv_s, g2_0 (by omega), hr i c z.1, nI_add]; exact r'
      · rw [if_neg z] at r'
        rw [if_pos (by rw [b5]; exact fun q => z (b6.2.mp q))]; exact r'
    · obtain rfl : i = 6 := by omega
      rw [if_neg (by decide)]
theorem bg2_x {f : Nat} {r : Nat → Nat} (hf : f < 64) : ∀ (m i : Nat) (S : FS), i ≤ 64 → 64 - i < m → S.1 112 = nI f → (∀ t : Nat, t < 6 → tIn f t → S.2 3 (3 * t) = nI (r t)) → (∀ s : Nat, s < i → S.2 45 s = nI (RS f r s 6)) → ∃ S' : FS, S'.1 = S.1 ∧ (∀ a : Nat, a ≠ 45 → S'.2 a = S.2 a) ∧ (∀ s : Nat, s < 64 → S'.2 45 s = nI (RS f r s 6)) ∧ ∀ k, l_X5_begin_120 k m S (nI i) = k S' (nI 64) := by
  intro m
  induction m with
  | zero => intro i S _ hm; exact absurd hm (Nat.not_lt_zero _)
  | succ m ih =>
    intro i S hi hm e hr h45
    by_cases c : i < 64
    · have rb : q_X5_rentsBut S (nI i) = some (nI (RS f r i 6)) := by
        unfold q_X5_rentsBut; exact rb_x hf c e hr FU 0 (Nat.zero_le _) (FU_lt (by omega))
      obtain ⟨S', r1, r2, r3, r4⟩ := ih (i + 1) (wA S 45 i (nI (RS f r i 6))) (by omega) (by omega) e (by rw [wA_n (by decide)]; exact hr) (fun s hs => by
        rw [wA_e]
        by_cases z : s = i
        · subst z; rw [pk_us]
        · rw [pk_un z]; exact h45 s (by omega))
      refine ⟨S', r1, fun a ha => (r2 a ha).trans (wA_n ha), r3, fun k => ?_⟩
      rw [l_X5_begin_120, if_pos (ltc_64 c), rb, fb_s, ix_nI c (by decide), fb_s, fl_s, nI_1]; exact r4 k
    · obtain rfl : i = 64 := by omega
      refine ⟨S, rfl, fun _ _ => rfl, h45, fun k => ?_⟩
      rw [l_X5_begin_120, if_neg (by decide)]
/-- which of the first t towns are free -/
def Fr (K : Nat → Nat) (n : Nat → Int32) : Nat → Nat
  | 0 => 0
  | t + 1 => if t < K 0 ∧ n (3 * t + 21) = -1 ∧ n (3 * t + 22) = 0 then Fr K n t + 2 ^ t else Fr K n t
theorem Fr_lt {n : Nat → Int32} : ∀ t : Nat, Fr K n t < 2 ^ t
  | 0 => Nat.one_pos
  | t + 1 => by
    have i := Fr_lt (n := n) t
    rw [Fr, Nat.pow_succ]
    split
    · omega
    · omega
theorem lo_bit : ∀ (f : Fin 64) (t : Fin 6), f.val < 2 ^ t.val → ¬ tIn f.val t.val := by decide +kernel
theorem Fr_in {n : Nat → Int32} : ∀ (t u : Nat), t ≤ 6 → u < 6 → tIn (Fr K n t) u → u < t ∧ u < K 0
  | 0, u, _, hu, h => by
    have : ∀ u : Fin 6, ¬ tIn 0 u.val := by decide +kernel
    exact absurd h (this ⟨u, hu⟩)
  | t + 1, u, ht, hu, h => by
    have l := Fr_lt (K := K) (n := n) t
    have t5 : t < 6 := by omega
    have p64 : 2 ^ t ≤ 2 ^ 5 := Nat.pow_le_pow_right (by decide) (by omega)
    rw [Fr] at h
    by_cases q : t < K 0 ∧ n (3 * t + 21) = -1 ∧ n (3 * t + 22) = 0
    · rw [if_pos q] at h
      by_cases z : u = t
      · exact ⟨by omega, by rw [z]; exact q.1⟩
      · have b := (bt_add ⟨Fr K n t, by omega⟩ ⟨t, t5⟩ (lo_bit ⟨Fr K n t, by omega⟩ ⟨t, t5⟩ l)).2.2 ⟨u, hu⟩ (fun e => z (congrArg Fin.val e))
        obtain ⟨i1, i2⟩ := Fr_in t u (by omega) hu (b.mp h)
        exact ⟨by omega, i2⟩
    · rw [if_neg q] at h
      obtain ⟨i1, i2⟩ := Fr_in t u (by omega) hu h
      exact ⟨by omega, i2⟩
theorem fr_or {n : Nat → Int32} {t : Nat} (ht : t < 6) : nI (Fr K n t) ||| ((1 : Int32) <<< (nI t &&& 31)) = nI (Fr K n t + 2 ^ t) := by
  have l := Fr_lt (K := K) (n := n) t
  have p64 : 2 ^ t ≤ 2 ^ 5 := Nat.pow_le_pow_right (by decide) (by omega)
  exact (bs_7 ⟨Fr K n t, by omega⟩ ⟨t, ht⟩ l).1
theorem or_0 (x : Int32) : x ||| 0 = x := by simp
theorem bg1_x (h : RelR K S (T.2 55)) : ∀ (m i : Nat) (S1 : FS), i ≤ 6 → 6 - i < m → EQP S S1 → S1.1 112 = nI (Fr K (T.2 55) i) → ∃ S' : FS, (∀ k : Nat, k ≠ 112 → S'.1 k = S1.1 k) ∧ S'.2 = S1.2 ∧ S'.1 112 = nI (Fr K (T.2 55) 6) ∧ ∀ k, l_X5_begin_35 k m S1 (nI i) = k S' (nI 6) := by
  obtain ⟨k1, k2, c0⟩ := h.ct 2 0 10 (by decide)
  intro m
  induction m with
  | zero => intro i S1 _ hm; exact absurd hm (Nat.not_lt_zero _)
  | succ m ih =>
    intro i S1 hi hm e e112
    by_cases c : i < 6
    · have lt := ltc_6 c
      have k1' : S1.1 2 = nI (K 0) := (e.1 2 (by decide) (by decide) (by decide)).trans k1
      have e3 : S1.2 3 = S.2 3 := e.2 3 (by decide) (by decide) (by decide)
      have nx : ∀ y : Int32, y = nI (Fr K (T.2 55) (i + 1)) → ∃ S' : FS, (∀ k : Nat, k ≠ 112 → S'.1 k = S1.1 k) ∧ S'.2 = S1.2 ∧ S'.1 112 = nI (Fr K (T.2 55) 6) ∧ ∀ k, l_X5_begin_35 k m (wI S1 112 y) (nI (i + 1)) = k S' (nI 6) := fun y hy => by
        obtain ⟨S', r1, r2, r3, r4⟩ := ih (i + 1) (wI S1 112 y) (by omega) (by omega) (e.tr (EQP.wI (Or.inl rfl))) (by rw [wI_e]; exact hy)
        exact ⟨S', fun k hk => (r1 k hk).trans (wI_n hk), r2, r3, r4⟩
      by_cases a : i < K 0
      · obtain ⟨t0, t1, t2⟩ := (h.tw i a).1
        by_cases b : T.2 55 (3 * i + 21) = -1
        · by_cases d : T.2 55 (3 * i + 22) = 0
          · obtain ⟨S', r1, r2, r3, r4⟩ := nx (S1.1 112 ||| ((1 : Int32) <<< (nI i &&& 31))) (by rw [e112, fr_or c, Fr, if_pos ⟨a, b, d⟩])
            refine ⟨S', r1, r2, r3, fun k => ?_⟩
            rw [l_X5_begin_35, if_pos lt, fHas_t k1' a (by omega), if_neg (by decide), g2_1 (by omega), e3, t1, if_pos b, g2_2 (by omega), e3, t2, if_pos d, fl_s, nI_1]; exact r4 k
          · obtain ⟨S', r1, r2, r3, r4⟩ := nx (S1.1 112 ||| 0) (by rw [e112, or_0, Fr, if_neg (fun q => d q.2.2)])
            refine ⟨S', r1, r2, r3, fun k => ?_⟩
            rw [l_X5_begin_35, if_pos lt, fHas_t k1' a (by omega), if_neg (by decide), g2_1 (by omega), e3, t1, if_pos b, g2_2 (by omega), e3, t2, if_neg d, fl_s, nI_1]; exact r4 k
        · obtain ⟨S', r1, r2, r3, r4⟩ := nx (S1.1 112 ||| 0) (by rw [e112, or_0, Fr, if_neg (fun q => b q.2.1)])
          refine ⟨S', r1, r2, r3, fun k => ?_⟩
          rw [l_X5_begin_35, if_pos lt, fHas_t k1' a (by omega), if_neg (by decide), g2_1 (by omega), e3, t1, if_neg b, fl_s, nI_1]; exact r4 k
      · obtain ⟨S', r1, r2, r3, r4⟩ := nx (S1.1 112 ||| 0) (by rw [e112, or_0, Fr, if_neg (fun q => a q.1)])
        refine ⟨S', r1, r2, r3, fun k => ?_⟩
        rw [l_X5_begin_35, if_pos lt, fHas_f k1' (Or.inr (nI_le (by omega) (by omega))), if_pos rfl, fl_s, nI_1]; exact r4 k
    · obtain rfl : i = 6 := by omega
      refine ⟨S1, fun _ _ => rfl, rfl, e112, fun k => ?_⟩
      rw [l_X5_begin_35, if_neg (by decide)]
/-- rents as numbers -/
def rn2 (n : Nat → Int32) (t : Nat) : Nat := (n (3 * t + 20)).toBitVec.toNat
theorem RelR.ro (h : RelR K S (T.2 55)) : RO (Fr K (T.2 55) 6) (rn2 (T.2 55)) ∧ ∀ t : Nat, t < 6 → tIn (Fr K (T.2 55) 6) t → S.2 3 (3 * t) = nI (rn2 (T.2 55) t) ∧ T.2 55 (3 * t + 20) = nI (rn2 (T.2 55) t) := by
  have ex : ∀ t : Nat, t < 6 → tIn (Fr K (T.2 55) 6) t → t < K 0 := fun t ht q => (Fr_in 6 t (Nat.le_refl _) ht q).2
  refine ⟨fun t ht q => ?_, fun t ht q => ⟨?_, (nI_tn _).symm⟩⟩
  · obtain ⟨v, v1, v2⟩ := (h.tw t (ex t ht q)).2.1
    show (T.2 55 (3 * t + 20)).toBitVec.toNat ≤ 999
    rw [v2, pk_tn (by omega)]; exact v1
  · rw [(h.tw t (ex t ht q)).1.1]; exact (nI_tn _).symm
theorem bg_x (h : RelR K S (T.2 55)) {c : Nat → Nat} {m0 : Nat} (h0 : S.1 103 = nI m0) (hm : m0 < 2 ^ 27) : ∃ S' : FS, EQP S S' ∧ f_X5_begin S = some (0, S') ∧ CP (Fr K (T.2 55) 6) (rn2 (T.2 55)) S' ∧ QR (Fr K (T.2 55) 6) (rn2 (T.2 55)) c m0 0 S' := by
  obtain ⟨ro, rr⟩ := h.ro
  have f64 : Fr K (T.2 55) 6 < 64 := Fr_lt 6
  unfold f_X5_begin
  rw [fl_s, fl_s, fl_s, fl_s]
  have e0 : EQP S (wI (wA (wA (fFill 43 64 S (-1)) 43 0 ((fFill 43 64 S (-1)).1 103)) 44 0 0) 112 0) := by
    have ef : EQP S (fFill 43 64 S (-1)) := ⟨fun _ _ _ _ => rfl, fun a h1 _ _ => ua_ne h1⟩
    exact ((ef.tr (EQP.wA (Or.inl rfl))).tr (EQP.wA (Or.inr (Or.inl rfl)))).tr (EQP.wI (Or.inl rfl))
  have c43 : ∀ s : Nat, s < 64 → (wI (wA (wA (fFill 43 64 S (-1)) 43 0 ((fFill 43 64 S (-1)).1 103)) 44 0 0) 112 0).2 43 s = if s = 0 then nI m0 else -1 := fun s hs => by
    rw [wI_2, wA_n (by decide), wA_e]
    by_cases z : s = 0
    · subst z; rw [pk_us, if_pos rfl]; exact h0
    · rw [pk_un z, if_neg z]
      show ua S.2 43 (fun j => if j < 64 then (-1 : Int32) else S.2 43 j) 43 s = _
      rw [ua_eq, if_pos hs]
  have c44 : (wI (wA (wA (fFill 43 64 S (-1)) 43 0 ((fFill 43 64 S (-1)).1 103)) 44 0 0) 112 0).2 44 0 = 0 := by
    rw [wI_2, wA_e, pk_us]
  have c112 : (wI (wA (wA (fFill 43 64 S (-1)) 43 0 ((fFill 43 64 S (-1)).1 103)) 44 0 0) 112 0).1 112 = 0 := wI_e
  generalize wI (wA (wA (fFill 43 64 S (-1)) 43 0 ((fFill 43 64 S (-1)).1 103)) 44 0 0) 112 0 = S4 at *
  obtain ⟨S5, p1, p2, p3, p4⟩ := bg1_x h FU 0 S4 (Nat.zero_le _) (FU_lt (by omega)) e0 c112
  have e5 : EQP S S5 := e0.tr ⟨fun k k1 _ _ => p1 k k1, fun a _ _ _ => by rw [p2]⟩
  have t3 : S5.2 3 = S.2 3 := e5.2 3 (by decide) (by decide) (by decide)
  obtain ⟨S6, q1, q2, q3, q4⟩ := bg2_x (r := rn2 (T.2 55)) f64 FU 0 S5 (Nat.zero_le _) (FU_lt (by omega)) p3 (fun t ht q => by rw [t3]; exact (rr t ht q).1) (fun s hs => absurd hs (Nat.not_lt_zero _))
  refine ⟨S6, e5.tr ⟨fun k _ _ _ => by rw [q1], fun a _ _ a3 => q2 a a3⟩, ?_, ⟨f64, by rw [q1]; exact p3, q3, ro, fun t ht q => by rw [q2 3 (by decide), t3]; exact (rr t ht q).1⟩, fun s hs => ?_⟩
  · rw [show ∀ k, l_X5_begin_35 k FU S4 0 = k S5 (nI 6) from p4, show ∀ k, l_X5_begin_120 k FU S5 0 = k S6 (nI 64) from q4]
  · rw [q2 43 (by decide), q2 44 (by decide), p2, c43 s hs]
    by_cases z : s = 0
    · subst z
      rw [if_pos rfl, c44]
      exact Or.inr ⟨m0, 0, rfl, rfl, ⟨⟨rfl, rfl, rfl⟩, fun x D q => by obtain ⟨-, rfl, rfl⟩ := q; omega⟩, by omega, by decide⟩
    · rw [if_neg z]
      exact Or.inl ⟨rfl, fun x D q => z q.1⟩
theorem pin_x {a n : Nat} (ha : a ≤ n) (hn : n ≤ 7) : ∀ (m i E : Nat), a ≤ i → i ≤ n → i - a < m → E < 2 ^ 29 → l_X5_pledgedIn_10 (nI a) (fun x6_3 x6_4 => some ((x6_3 - x6_3 / 7 * 7) - 1)) m (nI E) (nI i) = some (nI (E / 7 ^ (i - a) % 7) - 1) := by
  intro m
  induction m with
  | zero => intro i E _ _ hm; exact absurd hm (Nat.not_lt_zero _)
  | succ m ih =>
    intro i E h1 h2 hm hE
    rw [l_X5_pledgedIn_10]
    by_cases c : a < i
    · obtain ⟨j, rfl⟩ : ∃ j : Nat, i = j + 1 := ⟨i - 1, by omega⟩
      rw [if_pos (nI_lt c (by omega)), fv_s, pk_m1, show (7 : Int32) = nI 7 from rfl, pk_div (by omega) (by decide) (by decide)]
      refine (ih j (E / 7) (by omega) (by omega) (by omega) (by omega)).trans ?_
      rw [Nat.div_div_eq_div_mul, show j + 1 - a = (j - a) + 1 by omega, Nat.pow_succ, Nat.mul_comm 7]
    · obtain rfl : i = a := by omega
      rw [if_neg (nI_nlt (Nat.le_refl _) (by omega)), Nat.sub_self, Nat.pow_zero, Nat.div_one, show (7 : Int32) = nI 7 from rfl, pk_div (by omega) (by decide) (by decide), pk_mul, pk_sub (by omega), show E - E / 7 * 7 = E % 7 by omega]
/-! the model: all ways in their order -/
def Ex (f : Nat) (r c : Nat → Nat) : Nat → Nat → Nat → Nat → Nat → Nat → Nat → Prop
  | 0, _, u, x, D, V, E => V = x + 8 * RS f r u 6 ∧ E = D
  | n + 1, k, u, x, D, V, E => ∃ d u' x' : Nat, stq f r (c k) u x d u' x' ∧ Ex f r c n (k + 1) u' x' (7 * D + d) V E
theorem Ex_b {f : Nat} {r c : Nat → Nat} : ∀ (n k u x D V E : Nat), Ex f r c n k u x D V E → D * 7 ^ n ≤ E ∧ E < (D + 1) * 7 ^ n
  | 0, k, u, x, D, V, E, h => by rw [Nat.pow_zero]; have := h.2; omega
  | n + 1, k, u, x, D, V, E, h => by
    obtain ⟨d, u', x', h1, h2⟩ := h
    obtain ⟨i1, i2⟩ := Ex_b n (k + 1) u' x' (7 * D + d) V E h2
    have d7 := h1.d7.1
    have e1 : D * 7 ^ (n + 1) = 7 * D * 7 ^ n := by rw [Nat.pow_succ, Nat.mul_comm (7 ^ n) 7, ← Nat.mul_assoc, Nat.mul_comm D 7]
    have e2 : (D + 1) * 7 ^ (n + 1) = (7 * D + 7) * 7 ^ n := by rw [Nat.pow_succ, Nat.mul_comm (7 ^ n) 7, ← Nat.mul_assoc, show (D + 1) * 7 = 7 * D + 7 by omega]
    rw [e1, e2]
    exact ⟨Nat.le_trans (Nat.mul_le_mul_right _ (by omega)) i1, Nat.lt_of_lt_of_le i2 (Nat.mul_le_mul_right _ (by omega))⟩
theorem stq.uq {f : Nat} {r : Nat → Nat} {c s x d s1 x1 s2 x2 : Nat} (h : stq f r c s x d s1 x1) (g : stq f r c s x d s2 x2) : s1 = s2 ∧ x1 = x2 := by
  rcases h with ⟨h1, h2, h3⟩ | ⟨t, -, h2, -, -, h5, h6⟩
  · rcases g with ⟨g1, g2, g3⟩ | ⟨u, -, g2, -⟩
    · omega
    · omega
  · rcases g with ⟨g1, -⟩ | ⟨u, -, g2, -, -, g5, g6⟩
    · omega
    · obtain rfl : u = t := by omega
      omega
/-- n steps on, from the front -/
def Rf (f : Nat) (r c : Nat → Nat) : Nat → Nat → Nat → Nat → Nat → Nat → Nat → Nat → Prop
  | 0, _, u, x, D, s, y, E => s = u ∧ y = x ∧ E = D
  | n + 1, k, u, x, D, s, y, E => ∃ d u' x' : Nat, stq f r (c k) u x d u' x' ∧ Rf f r c n (k + 1) u' x' (7 * D + d) s y E
theorem Rf_s {f : Nat} {r c : Nat → Nat} : ∀ (n k u x D s y E : Nat), Rf f r c (n + 1) k u x D s y E ↔ ∃ s' y' E' d : Nat, Rf f r c n k u x D s' y' E' ∧ stq f r (c (k + n)) s' y' d s y ∧ E = 7 * E' + d
  | 0, k, u, x, D, s, y, E => by
    constructor
    · rintro ⟨d, u', x', h, rfl, rfl, rfl⟩; exact ⟨u, x, D, d, ⟨rfl, rfl, rfl⟩, h, rfl⟩
    · rintro ⟨s', y', E', d, ⟨rfl, rfl, rfl⟩, h, rfl⟩; exact ⟨d, s, y, h, rfl, rfl, rfl⟩
  | n + 1, k, u, x, D, s, y, E => by
    constructor
    · rintro ⟨d, u', x', h, h2⟩
      obtain ⟨s', y', E', d', q1, q2, q3⟩ := (Rf_s n (k + 1) u' x' (7 * D + d) s y E).mp h2
      exact ⟨s', y', E', d', ⟨d, u', x', h, q1⟩, by rw [show k + (n + 1) = k + 1 + n by omega]; exact q2, q3⟩
    · rintro ⟨s', y', E', d', ⟨d, u', x', h, q1⟩, q2, q3⟩
      exact ⟨d, u', x', h, (Rf_s n (k + 1) u' x' (7 * D + d) s y E).mpr ⟨s', y', E', d', q1, by rw [show k + (n + 1) = k + 1 + n by omega] at q2; exact q2, q3⟩⟩
theorem Rc_f {f m0 : Nat} {r c : Nat → Nat} : ∀ (n s y E : Nat), Rc f r c m0 n s y E ↔ Rf f r c n 0 0 m0 0 s y E
  | 0, s, y, E => Iff.rfl
  | n + 1, s, y, E => by
    rw [Rf_s, Nat.zero_add]
    constructor
    · rintro ⟨s', y', E', d, h1, h2, h3⟩; exact ⟨s', y', E', d, (Rc_f n s' y' E').mp h1, h2, h3⟩
    · rintro ⟨s', y', E', d, h1, h2, h3⟩; exact ⟨s', y', E', d, (Rc_f n s' y' E').mpr h1, h2, h3⟩
theorem Ex_f {f : Nat} {r c : Nat → Nat} : ∀ (n k u x D V E : Nat), Ex f r c n k u x D V E ↔ ∃ s y : Nat, Rf f r c n k u x D s y E ∧ V = y + 8 * RS f r s 6
  | 0, k, u, x, D, V, E => by
    constructor
    · rintro ⟨h1, h2⟩; exact ⟨u, x, ⟨rfl, rfl, h2⟩, h1⟩
    · rintro ⟨s, y, ⟨rfl, rfl, h2⟩, h1⟩; exact ⟨h1, h2⟩
  | n + 1, k, u, x, D, V, E => by
    constructor
    · rintro ⟨d, u', x', h, h2⟩
      obtain ⟨s, y, q1, q2⟩ := (Ex_f n (k + 1) u' x' (7 * D + d) V E).mp h2
      exact ⟨s, y, ⟨d, u', x', h, q1⟩, q2⟩
    · rintro ⟨s, y, ⟨d, u', x', h, q1⟩, q2⟩
      exact ⟨d, u', x', h, (Ex_f n (k + 1) u' x' (7 * D + d) V E).mpr ⟨s, y, q1, q2⟩⟩
theorem Ya_x {f m0 N V E : Nat} {r c : Nat → Nat} : Ya f r c m0 N V E ↔ Ex f r c N 0 0 m0 0 V E := by
  rw [Ex_f]
  constructor
  · rintro ⟨s, x, h1, h2⟩; exact ⟨s, x, (Rc_f N s x E).mp h1, h2⟩
  · rintro ⟨s, x, h1, h2⟩; exact ⟨s, x, (Rc_f N s x E).mpr h1, h2⟩
/-- what the model looks at -/
def MC (f : Nat) (r c : Nat → Nat) (s sz : Nat) (T : FS) : Prop := (T.1 18 = nI s ∧ T.2 71 s = nI sz) ∧ (∀ j : Nat, j < sz → T.2 72 (24 * s + j) = nI (c j) ∧ c j ≤ 9999) ∧ RO f r ∧ ∀ t : Nat, t < 6 → tIn f t → T.2 55 (3 * t + 20) = nI (r t)
theorem MC.ep {f s sz : Nat} {r c : Nat → Nat} {T T' : FS} (h : MC f r c s sz T) (e : EP T T') : MC f r c s sz T' := by
  obtain ⟨⟨h1, h2⟩, h3, h4, h5⟩ := h
  refine ⟨⟨(e.1 18 (by decide) (by decide)).trans h1, by rw [e.2 71 (by decide) (by decide)]; exact h2⟩, ?_, h4, ?_⟩
  · rw [e.2 72 (by decide) (by decide)]; exact h3
  · rw [e.2 55 (by decide) (by decide)]; exact h5
def GU (f g u : Nat) : Prop := g < 64 ∧ u < 64 ∧ ∀ t : Nat, t < 6 → (tIn g t ↔ (tIn f t ∧ ¬ tIn u t))
theorem GU.kid {f g u t : Nat} (h : GU f g u) (ht : t < 6) (hg : tIn g t) : GU f (g - 2 ^ t) (u + 2 ^ t) := by
  obtain ⟨h1, h2, h3⟩ := h
  obtain ⟨q1, q2⟩ := (h3 t ht).mp hg
  obtain ⟨a1, a2, a3⟩ := bt_add ⟨u, h2⟩ ⟨t, ht⟩ q2
  obtain ⟨b1, b2, b3⟩ := bt_sub ⟨g, h1⟩ ⟨t, ht⟩ hg
  simp only at a1 a2 b1 b2
  refine ⟨Nat.lt_of_le_of_lt (Nat.sub_le _ _) h1, a1, fun v hv => ?_⟩
  by_cases e : v = t
  · subst e
    exact ⟨fun q => absurd q b2, fun q => absurd a2 q.2⟩
  · have n : (⟨v, hv⟩ : Fin 6) ≠ ⟨t, ht⟩ := fun q => e (congrArg Fin.val q)
    have a4 := a3 ⟨v, hv⟩ n
    have b4 := b3 ⟨v, hv⟩ n
    simp only at a4 b4
    rw [a4, b4]; exact h3 v hv
def PL (k D : Nat) (T : FS) : Prop := ∀ j : Nat, j < k → T.2 67 j = nI (D / 7 ^ (k - 1 - j) % 7) - 1
theorem PL.kid {k D d : Nat} (h : PL k D T) (hd : d < 7) : PL (k + 1) (7 * D + d) (wA T 67 k (nI d - 1)) := by
  intro j hj
  rw [wA_e]
  by_cases e : j = k
  · subst e
    rw [pk_us, show j + 1 - 1 - j = 0 by omega, Nat.pow_zero, Nat.div_one, show (7 * D + d) % 7 = d by omega]
  · rw [pk_un e, h j (by omega), show k + 1 - 1 - j = (k - 1 - j) + 1 by omega, Nat.pow_succ', ← Nat.div_div_eq_div_mul, show (7 * D + d) / 7 = D by omega]
theorem PL.ep {k D : Nat} {T' : FS} (h : PL k D T) (e : ∀ j : Nat, j < k → T'.2 67 j = T.2 67 j) : PL k D T' := fun j hj => (e j hj).trans (h j hj)
def BS (sz : Nat) (X : Nat → Nat → Prop) (T : FS) : Prop := (T.1 20 = 0 ∧ ∀ V E : Nat, ¬ X V E) ∨ (T.1 20 = 1 ∧ ∃ V E : Nat, T.1 19 = nI V ∧ Bm X V E ∧ V < 2 ^ 30 ∧ ∀ j : Nat, j < sz → T.2 68 j = nI (E / 7 ^ (sz - 1 - j) % 7) - 1)
theorem BS.cg {sz : Nat} {X Y : Nat → Nat → Prop} (h : BS sz X T) (e : ∀ x y : Nat, X x y ↔ Y x y) : BS sz Y T := by
  rw [show Y = X from funext fun x => funext fun y => propext (e x y).symm]; exact h
theorem BS.wA {sz j : Nat} {X : Nat → Nat → Prop} {v : Int32} (h : BS sz X T) : BS sz X (wA T 67 j v) := by
  rcases h with h | ⟨h1, V, E, h2, h3, h4, h5⟩
  · exact Or.inl h
  · exact Or.inr ⟨h1, V, E, h2, h3, h4, fun j hj => by rw [wA_n (by decide)]; exact h5 j hj⟩
/-- a whole way: kept where it is the first or better -/
theorem BS.leaf {sz V D : Nat} {X : Nat → Nat → Prop} (h : BS sz X T) (hV : V < 2 ^ 30) (hX : ∀ V' E' : Nat, X V' E' → E' < D) : ((T.1 20 = 0 ∨ (¬ T.1 20 = 0 ∧ T.1 19 < nI V)) → ∀ T' : FS, T'.1 20 = 1 → T'.1 19 = nI V → (∀ j : Nat, j < sz → T'.2 68 j = nI (D / 7 ^ (sz - 1 - j) % 7) - 1) → BS sz (fun V' E' => X V' E' ∨ (V' = V ∧ E' = D)) T') ∧ (¬ (T.1 20 = 0 ∨ (¬ T.1 20 = 0 ∧ T.1 19 < nI V)) → BS sz (fun V' E' => X V' E' ∨ (V' = V ∧ E' = D)) T) := by
  rcases h with ⟨h1, h2⟩ | ⟨h1, V0, E0, h2, h3, h4, h5⟩
  · refine ⟨fun _ T' a b c => Or.inr ⟨a, V, D, b, ⟨Or.inr ⟨rfl, rfl⟩, fun x y q => ?_⟩, hV, c⟩, fun q => absurd (Or.inl h1) q⟩
    rcases q with q | ⟨rfl, rfl⟩
    · exact absurd q (h2 x y)
    · omega
  · have n0 : ¬ T.1 20 = 0 := by rw [h1]; decide
    rw [h2, nI_ltI (by omega) (by omega)]
    refine ⟨fun q T' a b c => Or.inr ⟨a, V, D, b, ⟨Or.inr ⟨rfl, rfl⟩, fun x y z => ?_⟩, hV, c⟩, fun q => Or.inr ⟨h1, V0, E0, h2, ⟨Or.inl h3.1, fun x y z => ?_⟩, h4, h5⟩⟩
    · have q2 : V0 < V := q.elim (fun w => absurd w n0) (fun w => w.2)
      rcases z with z | ⟨rfl, rfl⟩
      · have := h3.2 x y z; omega
      · omega
    · have q2 : ¬ V0 < V := fun w => q (Or.inr ⟨n0, w⟩)
      rcases z with z | ⟨rfl, rfl⟩
      · exact h3.2 x y z
      · have := hX V0 E0 h3.1; omega
def PLs (f : Nat) (r c : Nat → Nat) (m0 s sz k : Nat) (F : FS → Int32 → Int32 → Option (Int32 × FS)) : Prop := ∀ (T : FS) (g u x D : Nat) (X : Nat → Nat → Prop), MC f r c s sz T → k ≤ sz → GU f g u → x ≤ m0 + 9990 * k → PL k D T → BS sz X T → (∀ V E : Nat, X V E → E < D * 7 ^ (sz - k)) → ∃ T' : FS, EP T T' ∧ (∀ j : Nat, j < k → T'.2 67 j = T.2 67 j) ∧ F T (nI g) (nI x) = some (0, T') ∧ BS sz (fun V E => X V E ∨ Ex f r c (sz - k) k u x D V E) T'
def Xi (f : Nat) (r c : Nat → Nat) (sz k u x D : Nat) (X : Nat → Nat → Prop) (d V E : Nat) : Prop := X V E ∨ ∃ e u' x' : Nat, e < d ∧ stq f r (c k) u x e u' x' ∧ Ex f r c (sz - (k + 1)) (k + 1) u' x' (7 * D + e) V E
theorem Xi_no {f sz k u x D d : Nat} {r c : Nat → Nat} {X : Nat → Nat → Prop} (h : ∀ u' x' : Nat, ¬ stq f r (c k) u x d u' x') (V E : Nat) : Xi f r c sz k u x D X d V E ↔ Xi f r c sz k u x D X (d + 1) V E := by
  constructor
  · rintro (q | ⟨e, u', x', h1, h2⟩)
    · exact Or.inl q
    · exact Or.inr ⟨e, u', x', by omega, h2⟩
  · rintro (q | ⟨e, u', x', h1, h2, h3⟩)
    · exact Or.inl q
    · by_cases z : e = d
      · subst z; exact absurd h2 (h u' x')
      · exact Or.inr ⟨e, u', x', by omega, h2, h3⟩
theorem kid_x {f m0 s sz k u x D d u' x' g' : Nat} {r c : Nat → Nat} {X : Nat → Nat → Prop} {F : FS → Int32 → Int32 → Option (Int32 × FS)} (hn : PLs f r c m0 s sz (k + 1) F) (st : stq f r (c k) u x d u' x') (gu : GU f g' u') (mc : MC f r c s sz T) (ks : k < sz) (hx : x ≤ m0 + 9990 * k) (hu : u < 64) (pl : PL k D T) (bs : BS sz (Xi f r c sz k u x D X d) T) (hX : ∀ V E : Nat, X V E → E < D * 7 ^ (sz - k)) : ∃ T' : FS, EP T T' ∧ (∀ j : Nat, j < k → T'.2 67 j = T.2 67 j) ∧ F (wA T 67 k (nI d - 1)) (nI g') (nI x') = some (0, T') ∧ BS sz (Xi f r c sz k u x D X (d + 1)) T' := by
  have d7 := st.d7.1
  have xb := (st.x mc.2.2.1 hu).2
  have x2 : x' ≤ m0 + 9990 * (k + 1) := by
    rw [Nat.mul_add, Nat.mul_one, ← Nat.add_assoc]
    exact Nat.le_trans xb (Nat.add_le_add_right hx 9990)
  have k1 : k + 1 ≤ sz := ks
  have e1 : D * 7 ^ (sz - k) = 7 * D * 7 ^ (sz - (k + 1)) := by rw [show sz - k = (sz - (k + 1)) + 1 by omega, Nat.pow_succ, Nat.mul_comm (7 ^ _) 7, ← Nat.mul_assoc, Nat.mul_comm D 7]
  obtain ⟨T', a1, a2, a3, a4⟩ := hn (wA T 67 k (nI d - 1)) g' u' x' (7 * D + d) (Xi f r c sz k u x D X d) (mc.ep (EP.wA (Or.inl rfl))) k1 gu x2 (pl.kid d7) bs.wA (fun V E q => by
    rcases q with q | ⟨e, u2, x2, h1, h2, h3⟩
    · have := hX V E q
      rw [e1] at this
      exact Nat.lt_of_lt_of_le this (Nat.mul_le_mul_right _ (by omega))
    · have := (Ex_b _ _ _ _ _ _ _ h3).2
      exact Nat.lt_of_lt_of_le this (Nat.mul_le_mul_right _ (by omega)))
  refine ⟨T', (EP.wA (Or.inl rfl)).tr a1, fun j hj => ?_, a3, a4.cg (fun V E => ?_)⟩
  · rw [a2 j (by omega), wA_e, pk_un (by omega)]
  · constructor
    · rintro ((q | ⟨e, u2, x2, h1, h2⟩) | q)
      · exact Or.inl q
      · exact Or.inr ⟨e, u2, x2, by omega, h2⟩
      · exact Or.inr ⟨d, u', x', by omega, st, q⟩
    · rintro (q | ⟨e, u2, x2, h1, h2, h3⟩)
      · exact Or.inl (Or.inl q)
      · by_cases z : e = d
        · subst z
          obtain ⟨rfl, rfl⟩ := st.uq h2
          exact Or.inr h3
        · exact Or.inl (Or.inr ⟨e, u2, x2, by omega, h2, h3⟩)
theorem mleft {h c p : Nat} (hh : h < 2 ^ 29) (hc : c < 2 ^ 29) (hp : p < 2 ^ 29) : (nI h - nI c + nI p < 0 ↔ h + p < c) ∧ (c ≤ h + p → nI h - nI c + nI p = nI (h + p - c)) := by
  have e : nI h - nI c + nI p = nI (h + p) - nI c := by
    rw [Int32.sub_eq_add_neg, Int32.sub_eq_add_neg, Int32.add_assoc, Int32.add_comm (-nI c), ← Int32.add_assoc, nI_add]
  rw [e]
  refine ⟨?_, fun q => pk_sub q⟩
  rw [Int32.lt_iff_toInt_lt, pk_sub_toInt (by omega) (by omega), show (0 : Int32).toInt = 0 by decide]; omega
theorem q19_8 {f g u s sz : Nat} {r c : Nat → Nat} (mc : MC f r c s sz T) (gu : GU f g u) (x : Nat) : ∀ (m i : Nat), i ≤ 6 → 6 - i < m → ∀ q, l_X12_plans_k8_19 (nI g) q m T (nI (x + 8 * RS f r u i)) (nI i) = q T (nI (x + 8 * RS f r u 6)) (nI 6) := by
  intro m
  induction m with
  | zero => intro i _ hm; exact absurd hm (Nat.not_lt_zero _)
  | succ m ih =>
    intro i hi hm q
    by_cases c : i < 6
    · have rr := ih (i + 1) (by omega) (by omega) q
      rw [RS] at rr
      have b1 := (bs_1 ⟨g, gu.1⟩ ⟨i, c⟩).1
      simp only at b1
      rw [l_X12_plans_k8_19, if_pos (ltc_6 c), nI_1]
      by_cases z : tIn g i
      · have z2 := (gu.2.2 i c).mp z
        rw [if_pos z2] at rr
        rw [if_pos (by rw [b1]; exact z), ixT_0 (by omega), fb_s, fv_s, mc.2.2.2 i c z2.1, show (8 : Int32) = nI 8 from rfl, pk_mul, nI_add, show x + 8 * RS f r u i + 8 * r i = x + 8 * (RS f r u i + r i) by omega]; exact rr
      · rw [if_neg (fun y => z ((gu.2.2 i c).mpr y))] at rr
        rw [if_neg (by rw [b1]; exact z), fv_s, Int32.add_zero]; exact rr
    · obtain rfl : i = 6 := by omega
      rw [l_X12_plans_k8_19, if_neg (by decide)]
theorem q97_8 : ∀ (m i : Nat) (T : FS), i ≤ 8 → 8 - i < m → ∃ T' : FS, T'.1 = T.1 ∧ (∀ a : Nat, a ≠ 68 → T'.2 a = T.2 a) ∧ (∀ j : Nat, (j < i → T'.2 68 j = T.2 68 j) ∧ (i ≤ j → j < 8 → T'.2 68 j = T.2 67 j)) ∧ ∀ q, l_X12_plans_k8_97 q m T (nI i) = q T' (nI 8) := by
  intro m
  induction m with
  | zero => intro i T _ hm; exact absurd hm (Nat.not_lt_zero _)
  | succ m ih =>
    intro i T hi hm
    by_cases c : i < 8
    · obtain ⟨T', r1, r2, r3, r4⟩ := ih (i + 1) (wA T 68 i (T.2 67 i)) (by omega) (by omega)
      refine ⟨T', r1, fun a ha => (r2 a ha).trans (wA_n ha), fun j => ⟨fun h => ?_, fun h1 h2 => ?_⟩, fun q => ?_⟩
      · rw [(r3 j).1 (by omega), wA_e, pk_un (by omega)]
      · by_cases z : j = i
        · subst z; rw [(r3 j).1 (by omega), wA_e, pk_us]
        · rw [(r3 j).2 (by omega) h2, wA_n (by decide)]
      · rw [l_X12_plans_k8_97, if_pos (show nI i < 8 from nI_lt (b := 8) c (by decide)), ix_nI (show i < 8 by omega) (by decide), fb_s, fl_s, nI_1]; exact r4 q
    · obtain rfl : i = 8 := by omega
      refine ⟨T, rfl, fun _ _ => rfl, fun j => ⟨fun _ => rfl, fun h1 h2 => absurd h1 (by omega)⟩, fun q => ?_⟩
      rw [l_X12_plans_k8_97, if_neg (by decide)]
theorem q83_8 {V D sz : Nat} {X : Nat → Nat → Prop} (hz : sz = 8) (pl : PL 8 D T) (hb : ∀ T' : FS, T'.1 20 = 1 → T'.1 19 = nI V → (∀ j : Nat, j < sz → T'.2 68 j = nI (D / 7 ^ (sz - 1 - j) % 7) - 1) → BS sz X T') : ∃ T' : FS, EP T T' ∧ (∀ j : Nat, j < 8 → T'.2 67 j = T.2 67 j) ∧ j_X12_plans_k8_83 (nI V) T = some (0, T') ∧ BS sz X T' := by
  unfold j_X12_plans_k8_83
  simp only [fl_s]
  obtain ⟨T', r1, r2, r3, r4⟩ := q97_8 FU 0 (wI (wI T 20 1) 19 (nI V)) (Nat.zero_le _) (FU_lt (by omega))
  have e67 : T'.2 67 = T.2 67 := r2 67 (by decide)
  refine ⟨T', ((EP.wI (Or.inr rfl)).tr (EP.wI (Or.inl rfl))).tr ⟨fun k _ _ => by rw [r1], fun a _ h2 => r2 a h2⟩, fun j _ => by rw [e67], r4 _, hb T' ?_ ?_ (fun j hj => ?_)⟩
  · rw [r1, wI_n (by decide), wI_e]
  · rw [r1, wI_e]
  · subst hz
    rw [(r3 j).2 (Nat.zero_le _) hj]; exact pl j hj
theorem lf_8 {f m0 s sz g u x D : Nat} {r c : Nat → Nat} {X : Nat → Nat → Prop} (hm : m0 < 2 ^ 27) (mc : MC f r c s sz T) (hz : sz = 8) (gu : GU f g u) (hx : x ≤ m0 + 9990 * 8) (pl : PL 8 D T) (bs : BS sz X T) (hX : ∀ V E : Nat, X V E → E < D) : ∃ T' : FS, EP T T' ∧ (∀ j : Nat, j < 8 → T'.2 67 j = T.2 67 j) ∧ l_X12_plans_k8_19 (nI g) (fun S28 x28_4 x28_5 => if (S28.1 20) = 0 then (j_X12_plans_k8_83 x28_4 S28) else (if (S28.1 19) < x28_4 then (j_X12_plans_k8_83 x28_4 S28) else (some (0, S28)))) FU T (nI x) 0 = some (0, T') ∧ BS sz (fun V E => X V E ∨ (V = x + 8 * RS f r u 6 ∧ E = D)) T' := by
  have l := RS_le (s := u) mc.2.2.1 6 (Nat.le_refl _)
  obtain ⟨y1, y2⟩ := bs.leaf (V := x + 8 * RS f r u 6) (D := D) (by omega) hX
  rw [show ∀ q, l_X12_plans_k8_19 (nI g) q FU T (nI x) 0 = q T (nI (x + 8 * RS f r u 6)) (nI 6) from q19_8 mc gu x FU 0 (Nat.zero_le _) (FU_lt (by omega))]
  by_cases z0 : T.1 20 = 0
  · rw [if_pos z0]; exact q83_8 hz pl (y1 (Or.inl z0))
  · rw [if_neg z0]
    by_cases z1 : T.1 19 < nI (x + 8 * RS f r u 6)
    · rw [if_pos z1]; exact q83_8 hz pl (y1 (Or.inr ⟨z0, z1⟩))
    · rw [if_neg z1]
      exact ⟨T, EP.rf, fun _ _ => rfl, rfl, y2 (fun q => q.elim z0 (fun w => z1 w.2))⟩
theorem plx_8 {f m0 s sz : Nat} {r c : Nat → Nat} (hm : m0 < 2 ^ 27) (hs : s < 4) (hz : sz ≤ 8) : PLs f r c m0 s sz 8 f_X12_plans_k8 := by
  intro T g u x D X mc ks gu hx pl bs hX
  unfold f_X12_plans_k8
  rw [mc.1.1, ix_nI hs (by decide), fb_s, mc.1.2]
  by_cases c : sz = 8
  · rw [if_pos (show (8 : Int32) = nI sz by rw [c]; rfl)]
    obtain ⟨T', a1, a2, a3, a4⟩ := lf_8 hm mc c gu hx pl bs (fun V E q => by have := hX V E q; rw [show sz - 8 = 0 by omega, Nat.pow_zero] at this; omega)
    refine ⟨T', a1, a2, a3, a4.cg (fun V E => ?_)⟩
    rw [show sz - 8 = 0 by omega]
    exact Iff.rfl
  · rw [if_neg (show ¬ (8 : Int32) = nI sz from fun q => c (nI_inj (a := sz) (b := 8) (by omega) (by decide) q.symm))]
    omega
theorem q19_7 {f g u s sz : Nat} {r c : Nat → Nat} (mc : MC f r c s sz T) (gu : GU f g u) (x : Nat) : ∀ (m i : Nat), i ≤ 6 → 6 - i < m → ∀ q, l_X12_plans_k7_19 (nI g) q m T (nI (x + 8 * RS f r u i)) (nI i) = q T (nI (x + 8 * RS f r u 6)) (nI 6) := by
  intro m
  induction m with
  | zero => intro i _ hm; exact absurd hm (Nat.not_lt_zero _)
  | succ m ih =>
    intro i hi hm q
    by_cases c : i < 6
    · have rr := ih (i + 1) (by omega) (by omega) q
      rw [RS] at rr
      have b1 := (bs_1 ⟨g, gu.1⟩ ⟨i, c⟩).1
      simp only at b1
      rw [l_X12_plans_k7_19, if_pos (ltc_6 c), nI_1]
      by_cases z : tIn g i
      · have z2 := (gu.2.2 i c).mp z
        rw [if_pos z2] at rr
        rw [if_pos (by rw [b1]; exact z), ixT_0 (by omega), fb_s, fv_s, mc.2.2.2 i c z2.1, show (8 : Int32) = nI 8 from rfl, pk_mul, nI_add, show x + 8 * RS f r u i + 8 * r i = x + 8 * (RS f r u i + r i) by omega]; exact rr
      · rw [if_neg (fun y => z ((gu.2.2 i c).mpr y))] at rr
        rw [if_neg (by rw [b1]; exact z), fv_s, Int32.add_zero]; exact rr
    · obtain rfl : i = 6 := by omega
      rw [l_X12_plans_k7_19, if_neg (by decide)]
theorem q97_7 : ∀ (m i : Nat) (T : FS), i ≤ 7 → 7 - i < m → ∃ T' : FS, T'.1 = T.1 ∧ (∀ a : Nat, a ≠ 68 → T'.2 a = T.2 a) ∧ (∀ j : Nat, (j < i → T'.2 68 j = T.2 68 j) ∧ (i ≤ j → j < 7 → T'.2 68 j = T.2 67 j)) ∧ ∀ q, l_X12_plans_k7_97 q m T (nI i) = q T' (nI 7) := by
  intro m
  induction m with
  | zero => intro i T _ hm; exact absurd hm (Nat.not_lt_zero _)
  | succ m ih =>
    intro i T hi hm
    by_cases c : i < 7
    · obtain ⟨T', r1, r2, r3, r4⟩ := ih (i + 1) (wA T 68 i (T.2 67 i)) (by omega) (by omega)
      refine ⟨T', r1, fun a ha => (r2 a ha).trans (wA_n ha), fun j => ⟨fun h => ?_, fun h1 h2 => ?_⟩, fun q => ?_⟩
      · rw [(r3 j).1 (by omega), wA_e, pk_un (by omega)]
      · by_cases z : j = i
        · subst z; rw [(r3 j).1 (by omega), wA_e, pk_us]
        · rw [(r3 j).2 (by omega) h2, wA_n (by decide)]
      · rw [l_X12_plans_k7_97, if_pos (show nI i < 7 from nI_lt (b := 7) c (by decide)), ix_nI (show i < 8 by omega) (by decide), fb_s, fl_s, nI_1]; exact r4 q
    · obtain rfl : i = 7 := by omega
      refine ⟨T, rfl, fun _ _ => rfl, fun j => ⟨fun _ => rfl, fun h1 h2 => absurd h1 (by omega)⟩, fun q => ?_⟩
      rw [l_X12_plans_k7_97, if_neg (by decide)]
theorem q83_7 {V D sz : Nat} {X : Nat → Nat → Prop} (hz : sz = 7) (pl : PL 7 D T) (hb : ∀ T' : FS, T'.1 20 = 1 → T'.1 19 = nI V → (∀ j : Nat, j < sz → T'.2 68 j = nI (D / 7 ^ (sz - 1 - j) % 7) - 1) → BS sz X T') : ∃ T' : FS, EP T T' ∧ (∀ j : Nat, j < 7 → T'.2 67 j = T.2 67 j) ∧ j_X12_plans_k7_83 (nI V) T = some (0, T') ∧ BS sz X T' := by
  unfold j_X12_plans_k7_83
  simp only [fl_s]
  obtain ⟨T', r1, r2, r3, r4⟩ := q97_7 FU 0 (wI (wI T 20 1) 19 (nI V)) (Nat.zero_le _) (FU_lt (by omega))
  have e67 : T'.2 67 = T.2 67 := r2 67 (by decide)
  refine ⟨T', ((EP.wI (Or.inr rfl)).tr (EP.wI (Or.inl rfl))).tr ⟨fun k _ _ => by rw [r1], fun a _ h2 => r2 a h2⟩, fun j _ => by rw [e67], r4 _, hb T' ?_ ?_ (fun j hj => ?_)⟩
  · rw [r1, wI_n (by decide), wI_e]
  · rw [r1, wI_e]
  · subst hz
    rw [(r3 j).2 (Nat.zero_le _) hj]; exact pl j hj
theorem lf_7 {f m0 s sz g u x D : Nat} {r c : Nat → Nat} {X : Nat → Nat → Prop} (hm : m0 < 2 ^ 27) (mc : MC f r c s sz T) (hz : sz = 7) (gu : GU f g u) (hx : x ≤ m0 + 9990 * 7) (pl : PL 7 D T) (bs : BS sz X T) (hX : ∀ V E : Nat, X V E → E < D) : ∃ T' : FS, EP T T' ∧ (∀ j : Nat, j < 7 → T'.2 67 j = T.2 67 j) ∧ l_X12_plans_k7_19 (nI g) (fun S28 x28_4 x28_5 => if (S28.1 20) = 0 then (j_X12_plans_k7_83 x28_4 S28) else (if (S28.1 19) < x28_4 then (j_X12_plans_k7_83 x28_4 S28) else (some (0, S28)))) FU T (nI x) 0 = some (0, T') ∧ BS sz (fun V E => X V E ∨ (V = x + 8 * RS f r u 6 ∧ E = D)) T' := by
  have l := RS_le (s := u) mc.2.2.1 6 (Nat.le_refl _)
  obtain ⟨y1, y2⟩ := bs.leaf (V := x + 8 * RS f r u 6) (D := D) (by omega) hX
  rw [show ∀ q, l_X12_plans_k7_19 (nI g) q FU T (nI x) 0 = q T (nI (x + 8 * RS f r u 6)) (nI 6) from q19_7 mc gu x FU 0 (Nat.zero_le _) (FU_lt (by omega))]
  by_cases z0 : T.1 20 = 0
  · rw [if_pos z0]; exact q83_7 hz pl (y1 (Or.inl z0))
  · rw [if_neg z0]
    by_cases z1 : T.1 19 < nI (x + 8 * RS f r u 6)
    · rw [if_pos z1]; exact q83_7 hz pl (y1 (Or.inr ⟨z0, z1⟩))
    · rw [if_neg z1]
      exact ⟨T, EP.rf, fun _ _ => rfl, rfl, y2 (fun q => q.elim z0 (fun w => z1 w.2))⟩
theorem q130_7 {f g u s sz : Nat} {r c : Nat → Nat} (mc : MC f r c s sz T) (gu : GU f g u) (x : Nat) : ∀ (m i : Nat), i ≤ 6 → 6 - i < m → ∀ q, l_X12_plans_k7_130 (nI g) q m T (nI (x + RS f r u i)) (nI i) = q T (nI (x + RS f r u 6)) (nI 6) := by
  intro m
  induction m with
  | zero => intro i _ hm; exact absurd hm (Nat.not_lt_zero _)
  | succ m ih =>
    intro i hi hm q
    by_cases c : i < 6
    · have rr := ih (i + 1) (by omega) (by omega) q
      rw [RS] at rr
      have b1 := (bs_1 ⟨g, gu.1⟩ ⟨i, c⟩).1
      simp only at b1
      rw [l_X12_plans_k7_130, if_pos (ltc_6 c), nI_1]
      by_cases z : tIn g i
      · have z2 := (gu.2.2 i c).mp z
        rw [if_pos z2] at rr
        rw [if_pos (by rw [b1]; exact z), ixT_0 (by omega), fb_s, fv_s, mc.2.2.2 i c z2.1, nI_add, Nat.add_assoc]; exact rr
      · rw [if_neg (fun y => z ((gu.2.2 i c).mpr y))] at rr
        rw [if_neg (by rw [b1]; exact z), fv_s, Int32.add_zero]; exact rr
    · obtain rfl : i = 6 := by omega
      rw [l_X12_plans_k7_130, if_neg (by decide)]
theorem q177_7 {f m0 s sz g u x D : Nat} {r c : Nat → Nat} {X : Nat → Nat → Prop} (hn : PLs f r c m0 s sz 8 f_X12_plans_k8) (hm : m0 < 2 ^ 27) (hs : s < 4) (hz : 7 < sz) (gu : GU f g u) (hx : x ≤ m0 + 9990 * 7) (hX : ∀ V E : Nat, X V E → E < D * 7 ^ (sz - 7)) : ∀ (m i : Nat) (T : FS), i ≤ 7 → 7 - i < m → MC f r c s sz T → PL 7 D T → BS sz (Xi f r c sz 7 u x D X i) T → ∃ T' : FS, EP T T' ∧ (∀ j : Nat, j < 7 → T'.2 67 j = T.2 67 j) ∧ BS sz (Xi f r c sz 7 u x D X 7) T' ∧ ∀ q, l_X12_plans_k7_177 (nI g) (nI (x + RS f r u 6)) q m T (nI i - 1) = q T' (nI 6) := by
  intro m
  induction m with
  | zero => intro i T _ hm; exact absurd hm (Nat.not_lt_zero _)
  | succ m ih =>
    intro i T hi hf mc pl bs
    have jx : ix 96 ((24 : Int32) * T.1 18 + 7) = some (24 * s + 7) := by rw [mc.1.1]; exact ix96 (i := 7) hs (by decide)
    obtain ⟨cj, c9⟩ := mc.2.1 7 hz
    have l := RS_le (s := u) mc.2.2.1 6 (Nat.le_refl _)
    have nx : ∀ (T1 : FS), i < 7 → EP T T1 → (∀ j : Nat, j < 7 → T1.2 67 j = T.2 67 j) → BS sz (Xi f r c sz 7 u x D X (i + 1)) T1 → ∃ T' : FS, EP T T' ∧ (∀ j : Nat, j < 7 → T'.2 67 j = T.2 67 j) ∧ BS sz (Xi f r c sz 7 u x D X 7) T' ∧ ∀ q, l_X12_plans_k7_177 (nI g) (nI (x + RS f r u 6)) q m T1 (nI (i + 1) - 1) = q T' (nI 6) := fun T1 hi7 e1 e2 b => by
      obtain ⟨T', r1, r2, r3, r4⟩ := ih (i + 1) T1 (by omega) (by omega) (mc.ep e1) (pl.ep e2) b
      exact ⟨T', e1.tr r1, fun j hj => (r2 j hj).trans (e2 j hj), r3, r4⟩
    have none : i < 7 → (∀ u' x' : Nat, ¬ stq f r (c 7) u x i u' x') → ∃ T' : FS, EP T T' ∧ (∀ j : Nat, j < 7 → T'.2 67 j = T.2 67 j) ∧ BS sz (Xi f r c sz 7 u x D X 7) T' ∧ ∀ q, l_X12_plans_k7_177 (nI g) (nI (x + RS f r u 6)) q m T (nI (i + 1) - 1) = q T' (nI 6) := fun hi7 h => nx T hi7 EP.rf (fun _ _ => rfl) (bs.cg (Xi_no h))
    cases i with
    | zero =>
      have st : ∀ q, l_X12_plans_k7_177 (nI g) (nI (x + RS f r u 6)) q (m + 1) T (nI 0 - 1) = _ := fun q => by
        rw [l_X12_plans_k7_177, if_pos (by decide), if_pos (by decide), jx, fb_s, fv_s, show (nI 0 - 1 + 1 : Int32) = nI (0 + 1) - 1 from by decide, cj]
      obtain ⟨m1', m2⟩ := mleft (h := x + RS f r u 6) (c := c 7) (p := 0) (by omega) (by omega) (by decide)
      have m1 : nI (x + RS f r u 6) - nI (c 7) + 0 < 0 ↔ x + RS f r u 6 + 0 < c 7 := m1'
      by_cases z : c 7 ≤ x + RS f r u 6
      · have sp : stq f r (c 7) u x 0 u (x + RS f r u 6 - c 7) := Or.inl ⟨rfl, rfl, by omega⟩
        obtain ⟨T1, k1, k2, k3, k4⟩ := kid_x hn sp gu mc hz hx gu.2.1 pl bs hX
        obtain ⟨T', r1, r2, r3, r4⟩ := nx T1 (by decide) k1 k2 k4
        refine ⟨T', r1, r2, r3, fun q => ?_⟩
        rw [st, if_neg (fun w => by have := m1.mp w; omega), show nI (x + RS f r u 6) - nI (c 7) + 0 = nI (x + RS f r u 6 - c 7) from m2 (by omega), fl_s, k3, fb_s]
        exact r4 q
      · obtain ⟨T', r1, r2, r3, r4⟩ := none (by decide) (fun u' x' w => by
          rcases w with ⟨-, -, w⟩ | ⟨t, -, w, -⟩
          · omega
          · omega)
        refine ⟨T', r1, r2, r3, fun q => ?_⟩
        rw [st, if_pos (m1.mpr (by omega))]; exact r4 q
    | succ t =>
      by_cases c6 : t < 6
      · have lt : nI t < 6 := ltc_6 c6
        have b1 := (bs_1 ⟨g, gu.1⟩ ⟨t, c6⟩).2
        have b2 := bs_2 ⟨g, gu.1⟩ ⟨t, c6⟩
        simp only at b1 b2
        have st : ∀ q, l_X12_plans_k7_177 (nI g) (nI (x + RS f r u 6)) q (m + 1) T (nI (t + 1) - 1) = _ := fun q => by
          rw [l_X12_plans_k7_177, nI_pred, if_pos lt, if_neg (nI_pos (show t < 2 ^ 31 by omega)), jx, ixT_0 (show t < 10 by omega), fb_s, fb_s, fv_s, nI_1, ← nI_pred (t + 1), cj]
        by_cases b : tIn g t
        · obtain ⟨g1, g2⟩ := (gu.2.2 t c6).mp b
          have r9 := mc.2.2.1 t c6 g1
          have er := mc.2.2.2 t c6 g1
          obtain ⟨m1, m2⟩ := mleft (h := x + RS f r u 6) (c := c 7) (p := 4 * r t) (by omega) (by omega) (by omega)
          have e4 : nI (x + RS f r u 6) - nI (c 7) + 4 * T.2 55 (3 * t + 20) = nI (x + RS f r u 6) - nI (c 7) + nI (4 * r t) := by rw [er, show (4 : Int32) = nI 4 from rfl, pk_mul]
          by_cases z : c 7 ≤ x + RS f r u 6 + 4 * r t
          · have sp : stq f r (c 7) u x (t + 1) (u + 2 ^ t) (x + RS f r u 6 + 4 * r t - c 7) := Or.inr ⟨t, c6, rfl, g1, g2, rfl, by omega⟩
            obtain ⟨T1, k1, k2, k3, k4⟩ := kid_x hn sp (gu.kid c6 b) mc hz hx gu.2.1 pl bs hX
            obtain ⟨T', r1, r2, r3, r4⟩ := nx T1 (by omega) k1 k2 k4
            refine ⟨T', r1, r2, r3, fun q => ?_⟩
            rw [nI_pred] at k3
            rw [st, if_neg (by rw [b1]; exact fun w => w b), e4, if_neg (fun w => by have := m1.mp w; omega), m2 z, b2, if_pos b, fl_s, k3, fb_s]
            exact r4 q
          · obtain ⟨T', r1, r2, r3, r4⟩ := none (by omega) (fun u' x' w => by
              rcases w with ⟨w, -⟩ | ⟨v, -, w, -, -, -, w2⟩
              · omega
              · obtain rfl : v = t := by omega
                omega)
            refine ⟨T', r1, r2, r3, fun q => ?_⟩
            rw [st, if_neg (by rw [b1]; exact fun w => w b), e4, if_pos (m1.mpr (by omega))]; exact r4 q
        · obtain ⟨T', r1, r2, r3, r4⟩ := none (by omega) (fun u' x' w => by
            rcases w with ⟨w, -⟩ | ⟨v, -, w, w1, w2, -, -⟩
            · omega
            · obtain rfl : v = t := by omega
              exact b ((gu.2.2 v c6).mpr ⟨w1, w2⟩))
          refine ⟨T', r1, r2, r3, fun q => ?_⟩
          rw [st, if_pos (by rw [b1]; exact b)]; exact r4 q
      · obtain rfl : t = 6 := by omega
        refine ⟨T, EP.rf, fun _ _ => rfl, bs, fun q => ?_⟩
        rw [l_X12_plans_k7_177, nI_pred, if_neg (by decide)]
theorem plx_7 {f m0 s sz : Nat} {r c : Nat → Nat} (hm : m0 < 2 ^ 27) (hs : s < 4) (hz : sz ≤ 8) : PLs f r c m0 s sz 7 f_X12_plans_k7 := by
  intro T g u x D X mc ks gu hx pl bs hX
  unfold f_X12_plans_k7
  rw [mc.1.1, ix_nI hs (by decide), fb_s, mc.1.2]
  by_cases c : sz = 7
  · rw [if_pos (show (7 : Int32) = nI sz by rw [c]; rfl)]
    obtain ⟨T', a1, a2, a3, a4⟩ := lf_7 hm mc c gu hx pl bs (fun V E q => by have := hX V E q; rw [show sz - 7 = 0 by omega, Nat.pow_zero] at this; omega)
    refine ⟨T', a1, a2, a3, a4.cg (fun V E => ?_)⟩
    rw [show sz - 7 = 0 by omega]
    exact Iff.rfl
  · rw [if_neg (show ¬ (7 : Int32) = nI sz from fun q => c (nI_inj (a := sz) (b := 7) (by omega) (by decide) q.symm))]
    obtain ⟨T', a1, a2, a3, a4⟩ := q177_7 (plx_8 hm hs hz) hm hs (show 7 < sz by omega) gu hx hX FU 0 T (by omega) (FU_lt (by omega)) mc pl (bs.cg (fun V E => ⟨Or.inl, fun q => q.elim id (fun w => by obtain ⟨e, -, -, h, -⟩ := w; exact absurd h (Nat.not_lt_zero _))⟩))
    refine ⟨T', a1, a2, ?_, a3.cg (fun V E => ?_)⟩
    · rw [show ∀ q, l_X12_plans_k7_130 (nI g) q FU T (nI x) 0 = q T (nI (x + RS f r u 6)) (nI 6) from q130_7 mc gu x FU 0 (Nat.zero_le _) (FU_lt (by omega))]
      exact a4 _
    · rw [show sz - 7 = (sz - 8) + 1 by omega]
      constructor
      · rintro (q | ⟨e, u', x', -, h2, h3⟩)
        · exact Or.inl q
        · exact Or.inr ⟨e, u', x', h2, h3⟩
      · rintro (q | ⟨e, u', x', h2, h3⟩)
        · exact Or.inl q
        · exact Or.inr ⟨e, u', x', h2.d7.1, h2, h3⟩
theorem q19_6 {f g u s sz : Nat} {r c : Nat → Nat} (mc : MC f r c s sz T) (gu : GU f g u) (x : Nat) : ∀ (m i : Nat), i ≤ 6 → 6 - i < m → ∀ q, l_X12_plans_k6_19 (nI g) q m T (nI (x + 8 * RS f r u i)) (nI i) = q T (nI (x + 8 * RS f r u 6)) (nI 6) := by
  intro m
  induction m with
  | zero => intro i _ hm; exact absurd hm (Nat.not_lt_zero _)
  | succ m ih =>
    intro i hi hm q
    by_cases c : i < 6
    · have rr := ih (i + 1) (by omega) (by omega) q
      rw [RS] at rr
      have b1 := (bs_1 ⟨g, gu.1⟩ ⟨i, c⟩).1
      simp only at b1
      rw [l_X12_plans_k6_19, if_pos (ltc_6 c), nI_1]
      by_cases z : tIn g i
      · have z2 := (gu.2.2 i c).mp z
        rw [if_pos z2] at rr
        rw [if_pos (by rw [b1]; exact z), ixT_0 (by omega), fb_s, fv_s, mc.2.2.2 i c z2.1, show (8 : Int32) = nI 8 from rfl, pk_mul, nI_add, show x + 8 * RS f r u i + 8 * r i = x + 8 * (RS f r u i + r i) by omega]; exact rr
      · rw [if_neg (fun y => z ((gu.2.2 i c).mpr y))] at rr
        rw [if_neg (by rw [b1]; exact z), fv_s, Int32.add_zero]; exact rr
    · obtain rfl : i = 6 := by omega
      rw [l_X12_plans_k6_19, if_neg (by decide)]
theorem q97_6 : ∀ (m i : Nat) (T : FS), i ≤ 6 → 6 - i < m → ∃ T' : FS, T'.1 = T.1 ∧ (∀ a : Nat, a ≠ 68 → T'.2 a = T.2 a) ∧ (∀ j : Nat, (j < i → T'.2 68 j = T.2 68 j) ∧ (i ≤ j → j < 6 → T'.2 68 j = T.2 67 j)) ∧ ∀ q, l_X12_plans_k6_97 q m T (nI i) = q T' (nI 6) := by
  intro m
  induction m with
  | zero => intro i T _ hm; exact absurd hm (Nat.not_lt_zero _)
  | succ m ih =>
    intro i T hi hm
    by_cases c : i < 6
    · obtain ⟨T', r1, r2, r3, r4⟩ := ih (i + 1) (wA T 68 i (T.2 67 i)) (by omega) (by omega)
      refine ⟨T', r1, fun a ha => (r2 a ha).trans (wA_n ha), fun j => ⟨fun h => ?_, fun h1 h2 => ?_⟩, fun q => ?_⟩
      · rw [(r3 j).1 (by omega), wA_e, pk_un (by omega)]
      · by_cases z : j = i
        · subst z; rw [(r3 j).1 (by omega), wA_e, pk_us]
        · rw [(r3 j).2 (by omega) h2, wA_n (by decide)]
      · rw [l_X12_plans_k6_97, if_pos (show nI i < 6 from nI_lt (b := 6) c (by decide)), ix_nI (show i < 8 by omega) (by decide), fb_s, fl_s, nI_1]; exact r4 q
    · obtain rfl : i = 6 := by omega
      refine ⟨T, rfl, fun _ _ => rfl, fun j => ⟨fun _ => rfl, fun h1 h2 => absurd h1 (by omega)⟩, fun q => ?_⟩
      rw [l_X12_plans_k6_97, if_neg (by decide)]
theorem q83_6 {V D sz : Nat} {X : Nat → Nat → Prop} (hz : sz = 6) (pl : PL 6 D T) (hb : ∀ T' : FS, T'.1 20 = 1 → T'.1 19 = nI V → (∀ j : Nat, j < sz → T'.2 68 j = nI (D / 7 ^ (sz - 1 - j) % 7) - 1) → BS sz X T') : ∃ T' : FS, EP T T' ∧ (∀ j : Nat, j < 6 → T'.2 67 j = T.2 67 j) ∧ j_X12_plans_k6_83 (nI V) T = some (0, T') ∧ BS sz X T' := by
  unfold j_X12_plans_k6_83
  simp only [fl_s]
  obtain ⟨T', r1, r2, r3, r4⟩ := q97_6 FU 0 (wI (wI T 20 1) 19 (nI V)) (Nat.zero_le _) (FU_lt (by omega))
  have e67 : T'.2 67 = T.2 67 := r2 67 (by decide)
  refine ⟨T', ((EP.wI (Or.inr rfl)).tr (EP.wI (Or.inl rfl))).tr ⟨fun k _ _ => by rw [r1], fun a _ h2 => r2 a h2⟩, fun j _ => by rw [e67], r4 _, hb T' ?_ ?_ (fun j hj => ?_)⟩
  · rw [r1, wI_n (by decide), wI_e]
  · rw [r1, wI_e]
  · subst hz
    rw [(r3 j).2 (Nat.zero_le _) hj]; exact pl j hj
theorem lf_6 {f m0 s sz g u x D : Nat} {r c : Nat → Nat} {X : Nat → Nat → Prop} (hm : m0 < 2 ^ 27) (mc : MC f r c s sz T) (hz : sz = 6) (gu : GU f g u) (hx : x ≤ m0 + 9990 * 6) (pl : PL 6 D T) (bs : BS sz X T) (hX : ∀ V E : Nat, X V E → E < D) : ∃ T' : FS, EP T T' ∧ (∀ j : Nat, j < 6 → T'.2 67 j = T.2 67 j) ∧ l_X12_plans_k6_19 (nI g) (fun S28 x28_4 x28_5 => if (S28.1 20) = 0 then (j_X12_plans_k6_83 x28_4 S28) else (if (S28.1 19) < x28_4 then (j_X12_plans_k6_83 x28_4 S28) else (some (0, S28)))) FU T (nI x) 0 = some (0, T') ∧ BS sz (fun V E => X V E ∨ (V = x + 8 * RS f r u 6 ∧ E = D)) T' := by
  have l := RS_le (s := u) mc.2.2.1 6 (Nat.le_refl _)
  obtain ⟨y1, y2⟩ := bs.leaf (V := x + 8 * RS f r u 6) (D := D) (by omega) hX
  rw [show ∀ q, l_X12_plans_k6_19 (nI g) q FU T (nI x) 0 = q T (nI (x + 8 * RS f r u 6)) (nI 6) from q19_6 mc gu x FU 0 (Nat.zero_le _) (FU_lt (by omega))]
  by_cases z0 : T.1 20 = 0
  · rw [if_pos z0]; exact q83_6 hz pl (y1 (Or.inl z0))
  · rw [if_neg z0]
    by_cases z1 : T.1 19 < nI (x + 8 * RS f r u 6)
    · rw [if_pos z1]; exact q83_6 hz pl (y1 (Or.inr ⟨z0, z1⟩))
    · rw [if_neg z1]
      exact ⟨T, EP.rf, fun _ _ => rfl, rfl, y2 (fun q => q.elim z0 (fun w => z1 w.2))⟩
theorem q130_6 {f g u s sz : Nat} {r c : Nat → Nat} (mc : MC f r c s sz T) (gu : GU f g u) (x : Nat) : ∀ (m i : Nat), i ≤ 6 → 6 - i < m → ∀ q, l_X12_plans_k6_130 (nI g) q m T (nI (x + RS f r u i)) (nI i) = q T (nI (x + RS f r u 6)) (nI 6) := by
  intro m
  induction m with
  | zero => intro i _ hm; exact absurd hm (Nat.not_lt_zero _)
  | succ m ih =>
    intro i hi hm q
    by_cases c : i < 6
    · have rr := ih (i + 1) (by omega) (by omega) q
      rw [RS] at rr
      have b1 := (bs_1 ⟨g, gu.1⟩ ⟨i, c⟩).1
      simp only at b1
      rw [l_X12_plans_k6_130, if_pos (ltc_6 c), nI_1]
      by_cases z : tIn g i
      · have z2 := (gu.2.2 i c).mp z
        rw [if_pos z2] at rr
        rw [if_pos (by rw [b1]; exact z), ixT_0 (by omega), fb_s, fv_s, mc.2.2.2 i c z2.1, nI_add, Nat.add_assoc]; exact rr
      · rw [if_neg (fun y => z ((gu.2.2 i c).mpr y))] at rr
        rw [if_neg (by rw [b1]; exact z), fv_s, Int32.add_zero]; exact rr
    · obtain rfl : i = 6 := by omega
      rw [l_X12_plans_k6_130, if_neg (by decide)]
theorem q177_6 {f m0 s sz g u x D : Nat} {r c : Nat → Nat} {X : Nat → Nat → Prop} (hn : PLs f r c m0 s sz 7 f_X12_plans_k7) (hm : m0 < 2 ^ 27) (hs : s < 4) (hz : 6 < sz) (gu : GU f g u) (hx : x ≤ m0 + 9990 * 6) (hX : ∀ V E : Nat, X V E → E < D * 7 ^ (sz - 6)) : ∀ (m i : Nat) (T : FS), i ≤ 7 → 7 - i < m → MC f r c s sz T → PL 6 D T → BS sz (Xi f r c sz 6 u x D X i) T → ∃ T' : FS, EP T T' ∧ (∀ j : Nat, j < 6 → T'.2 67 j = T.2 67 j) ∧ BS sz (Xi f r c sz 6 u x D X 7) T' ∧ ∀ q, l_X12_plans_k6_177 (nI g) (nI (x + RS f r u 6)) q m T (nI i - 1) = q T' (nI 6) := by
  intro m
  induction m with
  | zero => intro i T _ hm; exact absurd hm (Nat.not_lt_zero _)
  | succ m ih =>
    intro i T hi hf mc pl bs
    have jx : ix 96 ((24 : Int32) * T.1 18 + 6) = some (24 * s + 6) := by rw [mc.1.1]; exact ix96 (i := 6) hs (by decide)
    obtain ⟨cj, c9⟩ := mc.2.1 6 hz
    have l := RS_le (s := u) mc.2.2.1 6 (Nat.le_refl _)
    have nx : ∀ (T1 : FS), i < 7 → EP T T1 → (∀ j : Nat, j < 6 → T1.2 67 j = T.2 67 j) → BS sz (Xi f r c sz 6 u x D X (i + 1)) T1 → ∃ T' : FS, EP T T' ∧ (∀ j : Nat, j < 6 → T'.2 67 j = T.2 67 j) ∧ BS sz (Xi f r c sz 6 u x D X 7) T' ∧ ∀ q, l_X12_plans_k6_177 (nI g) (nI (x + RS f r u 6)) q m T1 (nI (i + 1) - 1) = q T' (nI 6) := fun T1 hi7 e1 e2 b => by
      obtain ⟨T', r1, r2, r3, r4⟩ := ih (i + 1) T1 (by omega) (by omega) (mc.ep e1) (pl.ep e2) b
      exact ⟨T', e1.tr r1, fun j hj => (r2 j hj).trans (e2 j hj), r3, r4⟩
    have none : i < 7 → (∀ u' x' : Nat, ¬ stq f r (c 6) u x i u' x') → ∃ T' : FS, EP T T' ∧ (∀ j : Nat, j < 6 → T'.2 67 j = T.2 67 j) ∧ BS sz (Xi f r c sz 6 u x D X 7) T' ∧ ∀ q, l_X12_plans_k6_177 (nI g) (nI (x + RS f r u 6)) q m T (nI (i + 1) - 1) = q T' (nI 6) := fun hi7 h => nx T hi7 EP.rf (fun _ _ => rfl) (bs.cg (Xi_no h))
    cases i with
    | zero =>
      have st : ∀ q, l_X12_plans_k6_177 (nI g) (nI (x + RS f r u 6)) q (m + 1) T (nI 0 - 1) = _ := fun q => by
        rw [l_X12_plans_k6_177, if_pos (by decide), if_pos (by decide), jx, fb_s, fv_s, show (nI 0 - 1 + 1 : Int32) = nI (0 + 1) - 1 from by decide, cj]
      obtain ⟨m1', m2⟩ := mleft (h := x + RS f r u 6) (c := c 6) (p := 0) (by omega) (by omega) (by decide)
      have m1 : nI (x + RS f r u 6) - nI (c 6) + 0 < 0 ↔ x + RS f r u 6 + 0 < c 6 := m1'
      by_cases z : c 6 ≤ x + RS f r u 6
      · have sp : stq f r (c 6) u x 0 u (x + RS f r u 6 - c 6) := Or.inl ⟨rfl, rfl, by omega⟩
        obtain ⟨T1, k1, k2, k3, k4⟩ := kid_x hn sp gu mc hz hx gu.2.1 pl bs hX
        obtain ⟨T', r1, r2, r3, r4⟩ := nx T1 (by decide) k1 k2 k4
        refine ⟨T', r1, r2, r3, fun q => ?_⟩
        rw [st, if_neg (fun w => by have := m1.mp w; omega), show nI (x + RS f r u 6) - nI (c 6) + 0 = nI (x + RS f r u 6 - c 6) from m2 (by omega), fl_s, k3, fb_s]
        exact r4 q
      · obtain ⟨T', r1, r2, r3, r4⟩ := none (by decide) (fun u' x' w => by
          rcases w with ⟨-, -, w⟩ | ⟨t, -, w, -⟩
          · omega
          · omega)
        refine ⟨T', r1, r2, r3, fun q => ?_⟩
        rw [st, if_pos (m1.mpr (by omega))]; exact r4 q
    | succ t =>
      by_cases c6 : t < 6
      · have lt : nI t < 6 := ltc_6 c6
        have b1 := (bs_1 ⟨g, gu.1⟩ ⟨t, c6⟩).2
        have b2 := bs_2 ⟨g, gu.1⟩ ⟨t, c6⟩
        simp only at b1 b2
        have st : ∀ q, l_X12_plans_k6_177 (nI g) (nI (x + RS f r u 6)) q (m + 1) T (nI (t + 1) - 1) = _ := fun q => by
          rw [l_X12_plans_k6_177, nI_pred, if_pos lt, if_neg (nI_pos (show t < 2 ^ 31 by omega)), jx, ixT_0 (show t < 10 by omega), fb_s, fb_s, fv_s, nI_1, ← nI_pred (t + 1), cj]
        by_cases b : tIn g t
        · obtain ⟨g1, g2⟩ := (gu.2.2 t c6).mp b
          have r9 := mc.2.2.1 t c6 g1
          have er := mc.2.2.2 t c6 g1
          obtain ⟨m1, m2⟩ := mleft (h := x + RS f r u 6) (c := c 6) (p := 4 * r t) (by omega) (by omega) (by omega)
          have e4 : nI (x + RS f r u 6) - nI (c 6) + 4 * T.2 55 (3 * t + 20) = nI (x + RS f r u 6) - nI (c 6) + nI (4 * r t) := by rw [er, show (4 : Int32) = nI 4 from rfl, pk_mul]
          by_cases z : c 6 ≤ x + RS f r u 6 + 4 * r t
          · have sp : stq f r (c 6) u x (t + 1) (u + 2 ^ t) (x + RS f r u 6 + 4 * r t - c 6) := Or.inr ⟨t, c6, rfl, g1, g2, rfl, by omega⟩
            obtain ⟨T1, k1, k2, k3, k4⟩ := kid_x hn sp (gu.kid c6 b) mc hz hx gu.2.1 pl bs hX
            obtain ⟨T', r1, r2, r3, r4⟩ := nx T1 (by omega) k1 k2 k4
            refine ⟨T', r1, r2, r3, fun q => ?_⟩
            rw [nI_pred] at k3
            rw [st, if_neg (by rw [b1]; exact fun w => w b), e4, if_neg (fun w => by have := m1.mp w; omega), m2 z, b2, if_pos b, fl_s, k3, fb_s]
            exact r4 q
          · obtain ⟨T', r1, r2, r3, r4⟩ := none (by omega) (fun u' x' w => by
              rcases w with ⟨w, -⟩ | ⟨v, -, w, -, -, -, w2⟩
              · omega
              · obtain rfl : v = t := by omega
                omega)
            refine ⟨T', r1, r2, r3, fun q => ?_⟩
            rw [st, if_neg (by rw [b1]; exact fun w => w b), e4, if_pos (m1.mpr (by omega))]; exact r4 q
        · obtain ⟨T', r1, r2, r3, r4⟩ := none (by omega) (fun u' x' w => by
            rcases w with ⟨w, -⟩ | ⟨v, -, w, w1, w2, -, -⟩
            · omega
            · obtain rfl : v = t := by omega
              exact b ((gu.2.2 v c6).mpr ⟨w1, w2⟩))
          refine ⟨T', r1, r2, r3, fun q => ?_⟩
          rw [st, if_pos (by rw [b1]; exact b)]; exact r4 q
      · obtain rfl : t = 6 := by omega
        refine ⟨T, EP.rf, fun _ _ => rfl, bs, fun q => ?_⟩
        rw [l_X12_plans_k6_177, nI_pred, if_neg (by decide)]
theorem plx_6 {f m0 s sz : Nat} {r c : Nat → Nat} (hm : m0 < 2 ^ 27) (hs : s < 4) (hz : sz ≤ 8) : PLs f r c m0 s sz 6 f_X12_plans_k6 := by
  intro T g u x D X mc ks gu hx pl bs hX
  unfold f_X12_plans_k6
  rw [mc.1.1, ix_nI hs (by decide), fb_s, mc.1.2]
  by_cases c : sz = 6
  · rw [if_pos (show (6 : Int32) = nI sz by rw [c]; rfl)]
    obtain ⟨T', a1, a2, a3, a4⟩ := lf_6 hm mc c gu hx pl bs (fun V E q => by have := hX V E q; rw [show sz - 6 = 0 by omega, Nat.pow_zero] at this; omega)
    refine ⟨T', a1, a2, a3, a4.cg (fun V E => ?_)⟩
    rw [show sz - 6 = 0 by omega]
    exact Iff.rfl
  · rw [if_neg (show ¬ (6 : Int32) = nI sz from fun q => c (nI_inj (a := sz) (b := 6) (by omega) (by decide) q.symm))]
    obtain ⟨T', a1, a2, a3, a4⟩ := q177_6 (plx_7 hm hs hz) hm hs (show 6 < sz by omega) gu hx hX FU 0 T (by omega) (FU_lt (by omega)) mc pl (bs.cg (fun V E => ⟨Or.inl, fun q => q.elim id (fun w => by obtain ⟨e, -, -, h, -⟩ := w; exact absurd h (Nat.not_lt_zero _))⟩))
    refine ⟨T', a1, a2, ?_, a3.cg (fun V E => ?_)⟩
    · rw [show ∀ q, l_X12_plans_k6_130 (nI g) q FU T (nI x) 0 = q T (nI (x + RS f r u 6)) (nI 6) from q130_6 mc gu x FU 0 (Nat.zero_le _) (FU_lt (by omega))]
      exact a4 _
    · rw [show sz - 6 = (sz - 7) + 1 by omega]
      constructor
      · rintro (q | ⟨e, u', x', -, h2, h3⟩)
        · exact Or.inl q
        · exact Or.inr ⟨e, u', x', h2, h3⟩
      · rintro (q | ⟨e, u', x', h2, h3⟩)
        · exact Or.inl q
        · exact Or.inr ⟨e, u', x', h2.d7.1, h2, h3⟩
theorem q19_5 {f g u s sz : Nat} {r c : Nat → Nat} (mc : MC f r c s sz T) (gu : GU f g u) (x : Nat) : ∀ (m i : Nat), i ≤ 6 → 6 - i < m → ∀ q, l_X12_plans_k5_19 (nI g) q m T (nI (x + 8 * RS f r u i)) (nI i) = q T (nI (x + 8 * RS f r u 6)) (nI 6) := by
  intro m
  induction m with
  | zero => intro i _ hm; exact absurd hm (Nat.not_lt_zero _)
  | succ m ih =>
    intro i hi hm q
    by_cases c : i < 6
    · have rr := ih (i + 1) (by omega) (by omega) q
      rw [RS] at rr
      have b1 := (bs_1 ⟨g, gu.1⟩ ⟨i, c⟩).1
      simp only at b1
      rw [l_X12_plans_k5_19, if_pos (ltc_6 c), nI_1]
      by_cases z : tIn g i
      · have z2 := (gu.2.2 i c).mp z
        rw [if_pos z2] at rr
        rw [if_pos (by rw [b1]; exact z), ixT_0 (by omega), fb_s, fv_s, mc.2.2.2 i c z2.1, show (8 : Int32) = nI 8 from rfl, pk_mul, nI_add, show x + 8 * RS f r u i + 8 * r i = x + 8 * (RS f r u i + r i) by omega]; exact rr
      · rw [if_neg (fun y => z ((gu.2.2 i c).mpr y))] at rr
        rw [if_neg (by rw [b1]; exact z), fv_s, Int32.add_zero]; exact rr
    · obtain rfl : i = 6 := by omega
      rw [l_X12_plans_k5_19, if_neg (by decide)]
theorem q97_5 : ∀ (m i : Nat) (T : FS), i ≤ 5 → 5 - i < m → ∃ T' : FS, T'.1 = T.1 ∧ (∀ a : Nat, a ≠ 68 → T'.2 a = T.2 a) ∧ (∀ j : Nat, (j < i → T'.2 68 j = T.2 68 j) ∧ (i ≤ j → j < 5 → T'.2 68 j = T.2 67 j)) ∧ ∀ q, l_X12_plans_k5_97 q m T (nI i) = q T' (nI 5) := by
  intro m
  induction m with
  | zero => intro i T _ hm; exact absurd hm (Nat.not_lt_zero _)
  | succ m ih =>
    intro i T hi hm
    by_cases c : i < 5
    · obtain ⟨T', r1, r2, r3, r4⟩ := ih (i + 1) (wA T 68 i (T.2 67 i)) (by omega) (by omega)
      refine ⟨T', r1, fun a ha => (r2 a ha).trans (wA_n ha), fun j => ⟨fun h => ?_, fun h1 h2 => ?_⟩, fun q => ?_⟩
      · rw [(r3 j).1 (by omega), wA_e, pk_un (by omega)]
      · by_cases z : j = i
        · subst z; rw [(r3 j).1 (by omega), wA_e, pk_us]
        · rw [(r3 j).2 (by omega) h2, wA_n (by decide)]
      · rw [l_X12_plans_k5_97, if_pos (show nI i < 5 from nI_lt (b := 5) c (by decide)), ix_nI (show i < 8 by omega) (by decide), fb_s, fl_s, nI_1]; exact r4 q
    · obtain rfl : i = 5 := by omega
      refine ⟨T, rfl, fun _ _ => rfl, fun j => ⟨fun _ => rfl, fun h1 h2 => absurd h1 (by omega)⟩, fun q => ?_⟩
      rw [l_X12_plans_k5_97, if_neg (by decide)]
theorem q83_5 {V D sz : Nat} {X : Nat → Nat → Prop} (hz : sz = 5) (pl : PL 5 D T) (hb : ∀ T' : FS, T'.1 20 = 1 → T'.1 19 = nI V → (∀ j : Nat, j < sz → T'.2 68 j = nI (D / 7 ^ (sz - 1 - j) % 7) - 1) → BS sz X T') : ∃ T' : FS, EP T T' ∧ (∀ j : Nat, j < 5 → T'.2 67 j = T.2 67 j) ∧ j_X12_plans_k5_83 (nI V) T = some (0, T') ∧ BS sz X T' := by
  unfold j_X12_plans_k5_83
  simp only [fl_s]
  obtain ⟨T', r1, r2, r3, r4⟩ := q97_5 FU 0 (wI (wI T 20 1) 19 (nI V)) (Nat.zero_le _) (FU_lt (by omega))
  have e67 : T'.2 67 = T.2 67 := r2 67 (by decide)
  refine ⟨T', ((EP.wI (Or.inr rfl)).tr (EP.wI (Or.inl rfl))).tr ⟨fun k _ _ => by rw [r1], fun a _ h2 => r2 a h2⟩, fun j _ => by rw [e67], r4 _, hb T' ?_ ?_ (fun j hj => ?_)⟩
  · rw [r1, wI_n (by decide), wI_e]
  · rw [r1, wI_e]
  · subst hz
    rw [(r3 j).2 (Nat.zero_le _) hj]; exact pl j hj
theorem lf_5 {f m0 s sz g u x D : Nat} {r c : Nat → Nat} {X : Nat → Nat → Prop} (hm : m0 < 2 ^ 27) (mc : MC f r c s sz T) (hz : sz = 5) (gu : GU f g u) (hx : x ≤ m0 + 9990 * 5) (pl : PL 5 D T) (bs : BS sz X T) (hX : ∀ V E : Nat, X V E → E < D) : ∃ T' : FS, EP T T' ∧ (∀ j : Nat, j < 5 → T'.2 67 j = T.2 67 j) ∧ l_X12_plans_k5_19 (nI g) (fun S28 x28_4 x28_5 => if (S28.1 20) = 0 then (j_X12_plans_k5_83 x28_4 S28) else (if (S28.1 19) < x28_4 then (j_X12_plans_k5_83 x28_4 S28) else (some (0, S28)))) FU T (nI x) 0 = some (0, T') ∧ BS sz (fun V E => X V E ∨ (V = x + 8 * RS f r u 6 ∧ E = D)) T' := by
  have l := RS_le (s := u) mc.2.2.1 6 (Nat.le_refl _)
  obtain ⟨y1, y2⟩ := bs.leaf (V := x + 8 * RS f r u 6) (D := D) (by omega) hX
  rw [show ∀ q, l_X12_plans_k5_19 (nI g) q FU T (nI x) 0 = q T (nI (x + 8 * RS f r u 6)) (nI 6) from q19_5 mc gu x FU 0 (Nat.zero_le _) (FU_lt (by omega))]
  by_cases z0 : T.1 20 = 0
  · rw [if_pos z0]; exact q83_5 hz pl (y1 (Or.inl z0))
  · rw [if_neg z0]
    by_cases z1 : T.1 19 < nI (x + 8 * RS f r u 6)
    · rw [if_pos z1]; exact q83_5 hz pl (y1 (Or.inr ⟨z0, z1⟩))
    · rw [if_neg z1]
      exact ⟨T, EP.rf, fun _ _ => rfl, rfl, y2 (fun q => q.elim z0 (fun w => z1 w.2))⟩
theorem q130_5 {f g u s sz : Nat} {r c : Nat → Nat} (mc : MC f r c s sz T) (gu : GU f g u) (x : Nat) : ∀ (m i : Nat), i ≤ 6 → 6 - i < m → ∀ q, l_X12_plans_k5_130 (nI g) q m T (nI (x + RS f r u i)) (nI i) = q T (nI (x + RS f r u 6)) (nI 6) := by
  intro m
  induction m with
  | zero => intro i _ hm; exact absurd hm (Nat.not_lt_zero _)
  | succ m ih =>
    intro i hi hm q
    by_cases c : i < 6
    · have rr := ih (i + 1) (by omega) (by omega) q
      rw [RS] at rr
      have b1 := (bs_1 ⟨g, gu.1⟩ ⟨i, c⟩).1
      simp only at b1
      rw [l_X12_plans_k5_130, if_pos (ltc_6 c), nI_1]
      by_cases z : tIn g i
      · have z2 := (gu.2.2 i c).mp z
        rw [if_pos z2] at rr
        rw [if_pos (by rw [b1]; exact z), ixT_0 (by omega), fb_s, fv_s, mc.2.2.2 i c z2.1, nI_add, Nat.add_assoc]; exact rr
      · rw [if_neg (fun y => z ((gu.2.2 i c).mpr y))] at rr
        rw [if_neg (by rw [b1]; exact z), fv_s, Int32.add_zero]; exact rr
    · obtain rfl : i = 6 := by omega
      rw [l_X12_plans_k5_130, if_neg (by decide)]
theorem q177_5 {f m0 s sz g u x D : Nat} {r c : Nat → Nat} {X : Nat → Nat → Prop} (hn : PLs f r c m0 s sz 6 f_X12_plans_k6) (hm : m0 < 2 ^ 27) (hs : s < 4) (hz : 5 < sz) (gu : GU f g u) (hx : x ≤ m0 + 9990 * 5) (hX : ∀ V E : Nat, X V E → E < D * 7 ^ (sz - 5)) : ∀ (m i : Nat) (T : FS), i ≤ 7 → 7 - i < m → MC f r c s sz T → PL 5 D T → BS sz (Xi f r c sz 5 u x D X i) T → ∃ T' : FS, EP T T' ∧ (∀ j : Nat, j < 5 → T'.2 67 j = T.2 67 j) ∧ BS sz (Xi f r c sz 5 u x D X 7) T' ∧ ∀ q, l_X12_plans_k5_177 (nI g) (nI (x + RS f r u 6)) q m T (nI i - 1) = q T' (nI 6) := by
  intro m
  induction m with
  | zero => intro i T _ hm; exact absurd hm (Nat.not_lt_zero _)
  | succ m ih =>
    intro i T hi hf mc pl bs
    have jx : ix 96 ((24 : Int32) * T.1 18 + 5) = some (24 * s + 5) := by rw [mc.1.1]; exact ix96 (i := 5) hs (by decide)
    obtain ⟨cj, c9⟩ := mc.2.1 5 hz
    have l := RS_le (s := u) mc.2.2.1 6 (Nat.le_refl _)
    have nx : ∀ (T1 : FS), i < 7 → EP T T1 → (∀ j : Nat, j < 5 → T1.2 67 j = T.2 67 j) → BS sz (Xi f r c sz 5 u x D X (i + 1)) T1 → ∃ T' : FS, EP T T' ∧ (∀ j : Nat, j < 5 → T'.2 67 j = T.2 67 j) ∧ BS sz (Xi f r c sz 5 u x D X 7) T' ∧ ∀ q, l_X12_plans_k5_177 (nI g) (nI (x + RS f r u 6)) q m T1 (nI (i + 1) - 1) = q T' (nI 6) := fun T1 hi7 e1 e2 b => by
      obtain ⟨T', r1, r2, r3, r4⟩ := ih (i + 1) T1 (by omega) (by omega) (mc.ep e1) (pl.ep e2) b
      exact ⟨T', e1.tr r1, fun j hj => (r2 j hj).trans (e2 j hj), r3, r4⟩
    have none : i < 7 → (∀ u' x' : Nat, ¬ stq f r (c 5) u x i u' x') → ∃ T' : FS, EP T T' ∧ (∀ j : Nat, j < 5 → T'.2 67 j = T.2 67 j) ∧ BS sz (Xi f r c sz 5 u x D X 7) T' ∧ ∀ q, l_X12_plans_k5_177 (nI g) (nI (x + RS f r u 6)) q m T (nI (i + 1) - 1) = q T' (nI 6) := fun hi7 h => nx T hi7 EP.rf (fun _ _ => rfl) (bs.cg (Xi_no h))
    cases i with
    | zero =>
      have st : ∀ q, l_X12_plans_k5_177 (nI g) (nI (x + RS f r u 6)) q (m + 1) T (nI 0 - 1) = _ := fun q => by
        rw [l_X12_plans_k5_177, if_pos (by decide), if_pos (by decide), jx, fb_s, fv_s, show (nI 0 - 1 + 1 : Int32) = nI (0 + 1) - 1 from by decide, cj]
      obtain ⟨m1', m2⟩ := mleft (h := x + RS f r u 6) (c := c 5) (p := 0) (by omega) (by omega) (by decide)
      have m1 : nI (x + RS f r u 6) - nI (c 5) + 0 < 0 ↔ x + RS f r u 6 + 0 < c 5 := m1'
      by_cases z : c 5 ≤ x + RS f r u 6
      · have sp : stq f r (c 5) u x 0 u (x + RS f r u 6 - c 5) := Or.inl ⟨rfl, rfl, by omega⟩
        obtain ⟨T1, k1, k2, k3, k4⟩ := kid_x hn sp gu mc hz hx gu.2.1 pl bs hX
        obtain ⟨T', r1, r2, r3, r4⟩ := nx T1 (by decide) k1 k2 k4
        refine ⟨T', r1, r2, r3, fun q => ?_⟩
        rw [st, if_neg (fun w => by have := m1.mp w; omega), show nI (x + RS f r u 6) - nI (c 5) + 0 = nI (x + RS f r u 6 - c 5) from m2 (by omega), fl_s, k3, fb_s]
        exact r4 q
      · obtain ⟨T', r1, r2, r3, r4⟩ := none (by decide) (fun u' x' w => by
          rcases w with ⟨-, -, w⟩ | ⟨t, -, w, -⟩
          · omega
          · omega)
        refine ⟨T', r1, r2, r3, fun q => ?_⟩
        rw [st, if_pos (m1.mpr (by omega))]; exact r4 q
    | succ t =>
      by_cases c6 : t < 6
      · have lt : nI t < 6 := ltc_6 c6
        have b1 := (bs_1 ⟨g, gu.1⟩ ⟨t, c6⟩).2
        have b2 := bs_2 ⟨g, gu.1⟩ ⟨t, c6⟩
        simp only at b1 b2
        have st : ∀ q, l_X12_plans_k5_177 (nI g) (nI (x + RS f r u 6)) q (m + 1) T (nI (t + 1) - 1) = _ := fun q => by
          rw [l_X12_plans_k5_177, nI_pred, if_pos lt, if_neg (nI_pos (show t < 2 ^ 31 by omega)), jx, ixT_0 (show t < 10 by omega), fb_s, fb_s, fv_s, nI_1, ← nI_pred (t + 1), cj]
        by_cases b : tIn g t
        · obtain ⟨g1, g2⟩ := (gu.2.2 t c6).mp b
          have r9 := mc.2.2.1 t c6 g1
          have er := mc.2.2.2 t c6 g1
          obtain ⟨m1, m2⟩ := mleft (h := x + RS f r u 6) (c := c 5) (p := 4 * r t) (by omega) (by omega) (by omega)
          have e4 : nI (x + RS f r u 6) - nI (c 5) + 4 * T.2 55 (3 * t + 20) = nI (x + RS f r u 6) - nI (c 5) + nI (4 * r t) := by rw [er, show (4 : Int32) = nI 4 from rfl, pk_mul]
          by_cases z : c 5 ≤ x + RS f r u 6 + 4 * r t
          · have sp : stq f r (c 5) u x (t + 1) (u + 2 ^ t) (x + RS f r u 6 + 4 * r t - c 5) := Or.inr ⟨t, c6, rfl, g1, g2, rfl, by omega⟩
            obtain ⟨T1, k1, k2, k3, k4⟩ := kid_x hn sp (gu.kid c6 b) mc hz hx gu.2.1 pl bs hX
            obtain ⟨T', r1, r2, r3, r4⟩ := nx T1 (by omega) k1 k2 k4
            refine ⟨T', r1, r2, r3, fun q => ?_⟩
            rw [nI_pred] at k3
            rw [st, if_neg (by rw [b1]; exact fun w => w b), e4, if_neg (fun w => by have := m1.mp w; omega), m2 z, b2, if_pos b, fl_s, k3, fb_s]
            exact r4 q
          · obtain ⟨T', r1, r2, r3, r4⟩ := none (by omega) (fun u' x' w => by
              rcases w with ⟨w, -⟩ | ⟨v, -, w, -, -, -, w2⟩
              · omega
              · obtain rfl : v = t := by omega
                omega)
            refine ⟨T', r1, r2, r3, fun q => ?_⟩
            rw [st, if_neg (by rw [b1]; exact fun w => w b), e4, if_pos (m1.mpr (by omega))]; exact r4 q
        · obtain ⟨T', r1, r2, r3, r4⟩ := none (by omega) (fun u' x' w => by
            rcases w with ⟨w, -⟩ | ⟨v, -, w, w1, w2, -, -⟩
            · omega
            · obtain rfl : v = t := by omega
              exact b ((gu.2.2 v c6).mpr ⟨w1, w2⟩))
          refine ⟨T', r1, r2, r3, fun q => ?_⟩
          rw [st, if_pos (by rw [b1]; exact b)]; exact r4 q
      · obtain rfl : t = 6 := by omega
        refine ⟨T, EP.rf, fun _ _ => rfl, bs, fun q => ?_⟩
        rw [l_X12_plans_k5_177, nI_pred, if_neg (by decide)]
theorem plx_5 {f m0 s sz : Nat} {r c : Nat → Nat} (hm : m0 < 2 ^ 27) (hs : s < 4) (hz : sz ≤ 8) : PLs f r c m0 s sz 5 f_X12_plans_k5 := by
  intro T g u x D X mc ks gu hx pl bs hX
  unfold f_X12_plans_k5
  rw [mc.1.1, ix_nI hs (by decide), fb_s, mc.1.2]
  by_cases c : sz = 5
  · rw [if_pos (show (5 : Int32) = nI sz by rw [c]; rfl)]
    obtain ⟨T', a1, a2, a3, a4⟩ := lf_5 hm mc c gu hx pl bs (fun V E q => by have := hX V E q; rw [show sz - 5 = 0 by omega, Nat.pow_zero] at this; omega)
    refine ⟨T', a1, a2, a3, a4.cg (fun V E => ?_)⟩
    rw [show sz - 5 = 0 by omega]
    exact Iff.rfl
  · rw [if_neg (show ¬ (5 : Int32) = nI sz from fun q => c (nI_inj (a := sz) (b := 5) (by omega) (by decide) q.symm))]
    obtain ⟨T', a1, a2, a3, a4⟩ := q177_5 (plx_6 hm hs hz) hm hs (show 5 < sz by omega) gu hx hX FU 0 T (by omega) (FU_lt (by omega)) mc pl (bs.cg (fun V E => ⟨Or.inl, fun q => q.elim id (fun w => by obtain ⟨e, -, -, h, -⟩ := w; exact absurd h (Nat.not_lt_zero _))⟩))
    refine ⟨T', a1, a2, ?_, a3.cg (fun V E => ?_)⟩
    · rw [show ∀ q, l_X12_plans_k5_130 (nI g) q FU T (nI x) 0 = q T (nI (x + RS f r u 6)) (nI 6) from q130_5 mc gu x FU 0 (Nat.zero_le _) (FU_lt (by omega))]
      exact a4 _
    · rw [show sz - 5 = (sz - 6) + 1 by omega]
      constructor
      · rintro (q | ⟨e, u', x', -, h2, h3⟩)
        · exact Or.inl q
        · exact Or.inr ⟨e, u', x', h2, h3⟩
      · rintro (q | ⟨e, u', x', h2, h3⟩)
        · exact Or.inl q
        · exact Or.inr ⟨e, u', x', h2.d7.1, h2, h3⟩
theorem q19_4 {f g u s sz : Nat} {r c : Nat → Nat} (mc : MC f r c s sz T) (gu : GU f g u) (x : Nat) : ∀ (m i : Nat), i ≤ 6 → 6 - i < m → ∀ q, l_X12_plans_k4_19 (nI g) q m T (nI (x + 8 * RS f r u i)) (nI i) = q T (nI (x + 8 * RS f r u 6)) (nI 6) := by
  intro m
  induction m with
  | zero => intro i _ hm; exact absurd hm (Nat.not_lt_zero _)
  | succ m ih =>
    intro i hi hm q
    by_cases c : i < 6
    · have rr := ih (i + 1) (by omega) (by omega) q
      rw [RS] at rr
      have b1 := (bs_1 ⟨g, gu.1⟩ ⟨i, c⟩).1
      simp only at b1
      rw [l_X12_plans_k4_19, if_pos (ltc_6 c), nI_1]
      by_cases z : tIn g i
      · have z2 := (gu.2.2 i c).mp z
        rw [if_pos z2] at rr
        rw [if_pos (by rw [b1]; exact z), ixT_0 (by omega), fb_s, fv_s, mc.2.2.2 i c z2.1, show (8 : Int32) = nI 8 from rfl, pk_mul, nI_add, show x + 8 * RS f r u i + 8 * r i = x + 8 * (RS f r u i + r i) by omega]; exact rr
      · rw [if_neg (fun y => z ((gu.2.2 i c).mpr y))] at rr
        rw [if_neg (by rw [b1]; exact z), fv_s, Int32.add_zero]; exact rr
    · obtain rfl : i = 6 := by omega
      rw [l_X12_plans_k4_19, if_neg (by decide)]
theorem q97_4 : ∀ (m i : Nat) (T : FS), i ≤ 4 → 4 - i < m → ∃ T' : FS, T'.1 = T.1 ∧ (∀ a : Nat, a ≠ 68 → T'.2 a = T.2 a) ∧ (∀ j : Nat, (j < i → T'.2 68 j = T.2 68 j) ∧ (i ≤ j → j < 4 → T'.2 68 j = T.2 67 j)) ∧ ∀ q, l_X12_plans_k4_97 q m T (nI i) = q T' (nI 4) := by
  intro m
  induction m with
  | zero => intro i T _ hm; exact absurd hm (Nat.not_lt_zero _)
  | succ m ih =>
    intro i T hi hm
    by_cases c : i < 4
    · obtain ⟨T', r1, r2, r3, r4⟩ := ih (i + 1) (wA T 68 i (T.2 67 i)) (by omega) (by omega)
      refine ⟨T', r1, fun a ha => (r2 a ha).trans (wA_n ha), fun j => ⟨fun h => ?_, fun h1 h2 => ?_⟩, fun q => ?_⟩
      · rw [(r3 j).1 (by omega), wA_e, pk_un (by omega)]
      · by_cases z : j = i
        · subst z; rw [(r3 j).1 (by omega), wA_e, pk_us]
        · rw [(r3 j).2 (by omega) h2, wA_n (by decide)]
      · rw [l_X12_plans_k4_97, if_pos (show nI i < 4 from nI_lt (b := 4) c (by decide)), ix_nI (show i < 8 by omega) (by decide), fb_s, fl_s, nI_1]; exact r4 q
    · obtain rfl : i = 4 := by omega
      refine ⟨T, rfl, fun _ _ => rfl, fun j => ⟨fun _ => rfl, fun h1 h2 => absurd h1 (by omega)⟩, fun q => ?_⟩
      rw [l_X12_plans_k4_97, if_neg (by decide)]
theorem q83_4 {V D sz : Nat} {X : Nat → Nat → Prop} (hz : sz = 4) (pl : PL 4 D T) (hb : ∀ T' : FS, T'.1 20 = 1 → T'.1 19 = nI V → (∀ j : Nat, j < sz → T'.2 68 j = nI (D / 7 ^ (sz - 1 - j) % 7) - 1) → BS sz X T') : ∃ T' : FS, EP T T' ∧ (∀ j : Nat, j < 4 → T'.2 67 j = T.2 67 j) ∧ j_X12_plans_k4_83 (nI V) T = some (0, T') ∧ BS sz X T' := by
  unfold j_X12_plans_k4_83
  simp only [fl_s]
  obtain ⟨T', r1, r2, r3, r4⟩ := q97_4 FU 0 (wI (wI T 20 1) 19 (nI V)) (Nat.zero_le _) (FU_lt (by omega))
  have e67 : T'.2 67 = T.2 67 := r2 67 (by decide)
  refine ⟨T', ((EP.wI (Or.inr rfl)).tr (EP.wI (Or.inl rfl))).tr ⟨fun k _ _ => by rw [r1], fun a _ h2 => r2 a h2⟩, fun j _ => by rw [e67], r4 _, hb T' ?_ ?_ (fun j hj => ?_)⟩
  · rw [r1, wI_n (by decide), wI_e]
  · rw [r1, wI_e]
  · subst hz
    rw [(r3 j).2 (Nat.zero_le _) hj]; exact pl j hj
theorem lf_4 {f m0 s sz g u x D : Nat} {r c : Nat → Nat} {X : Nat → Nat → Prop} (hm : m0 < 2 ^ 27) (mc : MC f r c s sz T) (hz : sz = 4) (gu : GU f g u) (hx : x ≤ m0 + 9990 * 4) (pl : PL 4 D T) (bs : BS sz X T) (hX : ∀ V E : Nat, X V E → E < D) : ∃ T' : FS, EP T T' ∧ (∀ j : Nat, j < 4 → T'.2 67 j = T.2 67 j) ∧ l_X12_plans_k4_19 (nI g) (fun S28 x28_4 x28_5 => if (S28.1 20) = 0 then (j_X12_plans_k4_83 x28_4 S28) else (if (S28.1 19) < x28_4 then (j_X12_plans_k4_83 x28_4 S28) else (some (0, S28)))) FU T (nI x) 0 = some (0, T') ∧ BS sz (fun V E => X V E ∨ (V = x + 8 * RS f r u 6 ∧ E = D)) T' := by
  have l := RS_le (s := u) mc.2.2.1 6 (Nat.le_refl _)
  obtain ⟨y1, y2⟩ := bs.leaf (V := x + 8 * RS f r u 6) (D := D) (by omega) hX
  rw [show ∀ q, l_X12_plans_k4_19 (nI g) q FU T (nI x) 0 = q T (nI (x + 8 * RS f r u 6)) (nI 6) from q19_4 mc gu x FU 0 (Nat.zero_le _) (FU_lt (by omega))]
  by_cases z0 : T.1 20 = 0
  · rw [if_pos z0]; exact q83_4 hz pl (y1 (Or.inl z0))
  · rw [if_neg z0]
    by_cases z1 : T.1 19 < nI (x + 8 * RS f r u 6)
    · rw [if_pos z1]; exact q83_4 hz pl (y1 (Or.inr ⟨z0, z1⟩))
    · rw [if_neg z1]
      exact ⟨T, EP.rf, fun _ _ => rfl, rfl, y2 (fun q => q.elim z0 (fun w => z1 w.2))⟩
theorem q130_4 {f g u s sz : Nat} {r c : Nat → Nat} (mc : MC f r c s sz T) (gu : GU f g u) (x : Nat) : ∀ (m i : Nat), i ≤ 6 → 6 - i < m → ∀ q, l_X12_plans_k4_130 (nI g) q m T (nI (x + RS f r u i)) (nI i) = q T (nI (x + RS f r u 6)) (nI 6) := by
  intro m
  induction m with
  | zero => intro i _ hm; exact absurd hm (Nat.not_lt_zero _)
  | succ m ih =>
    intro i hi hm q
    by_cases c : i < 6
    · have rr := ih (i + 1) (by omega) (by omega) q
      rw [RS] at rr
      have b1 := (bs_1 ⟨g, gu.1⟩ ⟨i, c⟩).1
      simp only at b1
      rw [l_X12_plans_k4_130, if_pos (ltc_6 c), nI_1]
      by_cases z : tIn g i
      · have z2 := (gu.2.2 i c).mp z
        rw [if_pos z2] at rr
        rw [if_pos (by rw [b1]; exact z), ixT_0 (by omega), fb_s, fv_s, mc.2.2.2 i c z2.1, nI_add, Nat.add_assoc]; exact rr
      · rw [if_neg (fun y => z ((gu.2.2 i c).mpr y))] at rr
        rw [if_neg (by rw [b1]; exact z), fv_s, Int32.add_zero]; exact rr
    · obtain rfl : i = 6 := by omega
      rw [l_X12_plans_k4_130, if_neg (by decide)]
theorem q177_4 {f m0 s sz g u x D : Nat} {r c : Nat → Nat} {X : Nat → Nat → Prop} (hn : PLs f r c m0 s sz 5 f_X12_plans_k5) (hm : m0 < 2 ^ 27) (hs : s < 4) (hz : 4 < sz) (gu : GU f g u) (hx : x ≤ m0 + 9990 * 4) (hX : ∀ V E : Nat, X V E → E < D * 7 ^ (sz - 4)) : ∀ (m i : Nat) (T : FS), i ≤ 7 → 7 - i < m → MC f r c s sz T → PL 4 D T → BS sz (Xi f r c sz 4 u x D X i) T → ∃ T' : FS, EP T T' ∧ (∀ j : Nat, j < 4 → T'.2 67 j = T.2 67 j) ∧ BS sz (Xi f r c sz 4 u x D X 7) T' ∧ ∀ q, l_X12_plans_k4_177 (nI g) (nI (x + RS f r u 6)) q m T (nI i - 1) = q T' (nI 6) := by
  intro m
  induction m with
  | zero => intro i T _ hm; exact absurd hm (Nat.not_lt_zero _)
  | succ m ih =>
    intro i T hi hf mc pl bs
    have jx : ix 96 ((24 : Int32) * T.1 18 + 4) = some (24 * s + 4) := by rw [mc.1.1]; exact ix96 (i := 4) hs (by decide)
    obtain ⟨cj, c9⟩ := mc.2.1 4 hz
    have l := RS_le (s := u) mc.2.2.1 6 (Nat.le_refl _)
    have nx : ∀ (T1 : FS), i < 7 → EP T T1 → (∀ j : Nat, j < 4 → T1.2 67 j = T.2 67 j) → BS sz (Xi f r c sz 4 u x D X (i + 1)) T1 → ∃ T' : FS, EP T T' ∧ (∀ j : Nat, j < 4 → T'.2 67 j = T.2 67 j) ∧ BS sz (Xi f r c sz 4 u x D X 7) T' ∧ ∀ q, l_X12_plans_k4_177 (nI g) (nI (x + RS f r u 6)) q m T1 (nI (i + 1) - 1) = q T' (nI 6) := fun T1 hi7 e1 e2 b => by
      obtain ⟨T', r1, r2, r3, r4⟩ := ih (i + 1) T1 (by omega) (by omega) (mc.ep e1) (pl.ep e2) b
      exact ⟨T', e1.tr r1, fun j hj => (r2 j hj).trans (e2 j hj), r3, r4⟩
    have none : i < 7 → (∀ u' x' : Nat, ¬ stq f r (c 4) u x i u' x') → ∃ T' : FS, EP T T' ∧ (∀ j : Nat, j < 4 → T'.2 67 j = T.2 67 j) ∧ BS sz (Xi f r c sz 4 u x D X 7) T' ∧ ∀ q, l_X12_plans_k4_177 (nI g) (nI (x + RS f r u 6)) q m T (nI (i + 1) - 1) = q T' (nI 6) := fun hi7 h => nx T hi7 EP.rf (fun _ _ => rfl) (bs.cg (Xi_no h))
    cases i with
    | zero =>
      have st : ∀ q, l_X12_plans_k4_177 (nI g) (nI (x + RS f r u 6)) q (m + 1) T (nI 0 - 1) = _ := fun q => by
        rw [l_X12_plans_k4_177, if_pos (by decide), if_pos (by decide), jx, fb_s, fv_s, show (nI 0 - 1 + 1 : Int32) = nI (0 + 1) - 1 from by decide, cj]
      obtain ⟨m1', m2⟩ := mleft (h := x + RS f r u 6) (c := c 4) (p := 0) (by omega) (by omega) (by decide)
      have m1 : nI (x + RS f r u 6) - nI (c 4) + 0 < 0 ↔ x + RS f r u 6 + 0 < c 4 := m1'
      by_cases z : c 4 ≤ x + RS f r u 6
      · have sp : stq f r (c 4) u x 0 u (x + RS f r u 6 - c 4) := Or.inl ⟨rfl, rfl, by omega⟩
        obtain ⟨T1, k1, k2, k3, k4⟩ := kid_x hn sp gu mc hz hx gu.2.1 pl bs hX
        obtain ⟨T', r1, r2, r3, r4⟩ := nx T1 (by decide) k1 k2 k4
        refine ⟨T', r1, r2, r3, fun q => ?_⟩
        rw [st, if_neg (fun w => by have := m1.mp w; omega), show nI (x + RS f r u 6) - nI (c 4) + 0 = nI (x + RS f r u 6 - c 4) from m2 (by omega), fl_s, k3, fb_s]
        exact r4 q
      · obtain ⟨T', r1, r2, r3, r4⟩ := none (by decide) (fun u' x' w => by
          rcases w with ⟨-, -, w⟩ | ⟨t, -, w, -⟩
          · omega
          · omega)
        refine ⟨T', r1, r2, r3, fun q => ?_⟩
        rw [st, if_pos (m1.mpr (by omega))]; exact r4 q
    | succ t =>
      by_cases c6 : t < 6
      · have lt : nI t < 6 := ltc_6 c6
        have b1 := (bs_1 ⟨g, gu.1⟩ ⟨t, c6⟩).2
        have b2 := bs_2 ⟨g, gu.1⟩ ⟨t, c6⟩
        simp only at b1 b2
        have st : ∀ q, l_X12_plans_k4_177 (nI g) (nI (x + RS f r u 6)) q (m + 1) T (nI (t + 1) - 1) = _ := fun q => by
          rw [l_X12_plans_k4_177, nI_pred, if_pos lt, if_neg (nI_pos (show t < 2 ^ 31 by omega)), jx, ixT_0 (show t < 10 by omega), fb_s, fb_s, fv_s, nI_1, ← nI_pred (t + 1), cj]
        by_cases b : tIn g t
        · obtain ⟨g1, g2⟩ := (gu.2.2 t c6).mp b
          have r9 := mc.2.2.1 t c6 g1
          have er := mc.2.2.2 t c6 g1
          obtain ⟨m1, m2⟩ := mleft (h := x + RS f r u 6) (c := c 4) (p := 4 * r t) (by omega) (by omega) (by omega)
          have e4 : nI (x + RS f r u 6) - nI (c 4) + 4 * T.2 55 (3 * t + 20) = nI (x + RS f r u 6) - nI (c 4) + nI (4 * r t) := by rw [er, show (4 : Int32) = nI 4 from rfl, pk_mul]
          by_cases z : c 4 ≤ x + RS f r u 6 + 4 * r t
          · have sp : stq f r (c 4) u x (t + 1) (u + 2 ^ t) (x + RS f r u 6 + 4 * r t - c 4) := Or.inr ⟨t, c6, rfl, g1, g2, rfl, by omega⟩
            obtain ⟨T1, k1, k2, k3, k4⟩ := kid_x hn sp (gu.kid c6 b) mc hz hx gu.2.1 pl bs hX
            obtain ⟨T', r1, r2, r3, r4⟩ := nx T1 (by omega) k1 k2 k4
            refine ⟨T', r1, r2, r3, fun q => ?_⟩
            rw [nI_pred] at k3
            rw [st, if_neg (by rw [b1]; exact fun w => w b), e4, if_neg (fun w => by have := m1.mp w; omega), m2 z, b2, if_pos b, fl_s, k3, fb_s]
            exact r4 q
          · obtain ⟨T', r1, r2, r3, r4⟩ := none (by omega) (fun u' x' w => by
              rcases w with ⟨w, -⟩ | ⟨v, -, w, -, -, -, w2⟩
              · omega
              · obtain rfl : v = t := by omega
                omega)
            refine ⟨T', r1, r2, r3, fun q => ?_⟩
            rw [st, if_neg (by rw [b1]; exact fun w => w b), e4, if_pos (m1.mpr (by omega))]; exact r4 q
        · obtain ⟨T', r1, r2, r3, r4⟩ := none (by omega) (fun u' x' w => by
            rcases w with ⟨w, -⟩ | ⟨v, -, w, w1, w2, -, -⟩
            · omega
            · obtain rfl : v = t := by omega
              exact b ((gu.2.2 v c6).mpr ⟨w1, w2⟩))
          refine ⟨T', r1, r2, r3, fun q => ?_⟩
          rw [st, if_pos (by rw [b1]; exact b)]; exact r4 q
      · obtain rfl : t = 6 := by omega
        refine ⟨T, EP.rf, fun _ _ => rfl, bs, fun q => ?_⟩
        rw [l_X12_plans_k4_177, nI_pred, if_neg (by decide)]
theorem plx_4 {f m0 s sz : Nat} {r c : Nat → Nat} (hm : m0 < 2 ^ 27) (hs : s < 4) (hz : sz ≤ 8) : PLs f r c m0 s sz 4 f_X12_plans_k4 := by
  intro T g u x D X mc ks gu hx pl bs hX
  unfold f_X12_plans_k4
  rw [mc.1.1, ix_nI hs (by decide), fb_s, mc.1.2]
  by_cases c : sz = 4
  · rw [if_pos (show (4 : Int32) = nI sz by rw [c]; rfl)]
    obtain ⟨T', a1, a2, a3, a4⟩ := lf_4 hm mc c gu hx pl bs (fun V E q => by have := hX V E q; rw [show sz - 4 = 0 by omega, Nat.pow_zero] at this; omega)
    refine ⟨T', a1, a2, a3, a4.cg (fun V E => ?_)⟩
    rw [show sz - 4 = 0 by omega]
    exact Iff.rfl
  · rw [if_neg (show ¬ (4 : Int32) = nI sz from fun q => c (nI_inj (a := sz) (b := 4) (by omega) (by decide) q.symm))]
    obtain ⟨T', a1, a2, a3, a4⟩ := q177_4 (plx_5 hm hs hz) hm hs (show 4 < sz by omega) gu hx hX FU 0 T (by omega) (FU_lt (by omega)) mc pl (bs.cg (fun V E => ⟨Or.inl, fun q => q.elim id (fun w => by obtain ⟨e, -, -, h, -⟩ := w; exact absurd h (Nat.not_lt_zero _))⟩))
    refine ⟨T', a1, a2, ?_, a3.cg (fun V E => ?_)⟩
    · rw [show ∀ q, l_X12_plans_k4_130 (nI g) q FU T (nI x) 0 = q T (nI (x + RS f r u 6)) (nI 6) from q130_4 mc gu x FU 0 (Nat.zero_le _) (FU_lt (by omega))]
      exact a4 _
    · rw [show sz - 4 = (sz - 5) + 1 by omega]
      constructor
      · rintro (q | ⟨e, u', x', -, h2, h3⟩)
        · exact Or.inl q
        · exact Or.inr ⟨e, u', x', h2, h3⟩
      · rintro (q | ⟨e, u', x', h2, h3⟩)
        · exact Or.inl q
        · exact Or.inr ⟨e, u', x', h2.d7.1, h2, h3⟩
theorem q19_3 {f g u s sz : Nat} {r c : Nat → Nat} (mc : MC f r c s sz T) (gu : GU f g u) (x : Nat) : ∀ (m i : Nat), i ≤ 6 → 6 - i < m → ∀ q, l_X12_plans_k3_19 (nI g) q m T (nI (x + 8 * RS f r u i)) (nI i) = q T (nI (x + 8 * RS f r u 6)) (nI 6) := by
  intro m
  induction m with
  | zero => intro i _ hm; exact absurd hm (Nat.not_lt_zero _)
  | succ m ih =>
    intro i hi hm q
    by_cases c : i < 6
    · have rr := ih (i + 1) (by omega) (by omega) q
      rw [RS] at rr
      have b1 := (bs_1 ⟨g, gu.1⟩ ⟨i, c⟩).1
      simp only at b1
      rw [l_X12_plans_k3_19, if_pos (ltc_6 c), nI_1]
      by_cases z : tIn g i
      · have z2 := (gu.2.2 i c).mp z
        rw [if_pos z2] at rr
        rw [if_pos (by rw [b1]; exact z), ixT_0 (by omega), fb_s, fv_s, mc.2.2.2 i c z2.1, show (8 : Int32) = nI 8 from rfl, pk_mul, nI_add, show x + 8 * RS f r u i + 8 * r i = x + 8 * (RS f r u i + r i) by omega]; exact rr
      · rw [if_neg (fun y => z ((gu.2.2 i c).mpr y))] at rr
        rw [if_neg (by rw [b1]; exact z), fv_s, Int32.add_zero]; exact rr
    · obtain rfl : i = 6 := by omega
      rw [l_X12_plans_k3_19, if_neg (by decide)]
theorem q97_3 : ∀ (m i : Nat) (T : FS), i ≤ 3 → 3 - i < m → ∃ T' : FS, T'.1 = T.1 ∧ (∀ a : Nat, a ≠ 68 → T'.2 a = T.2 a) ∧ (∀ j : Nat, (j < i → T'.2 68 j = T.2 68 j) ∧ (i ≤ j → j < 3 → T'.2 68 j = T.2 67 j)) ∧ ∀ q, l_X12_plans_k3_97 q m T (nI i) = q T' (nI 3) := by
  intro m
  induction m with
  | zero => intro i T _ hm; exact absurd hm (Nat.not_lt_zero _)
  | succ m ih =>
    intro i T hi hm
    by_cases c : i < 3
    · obtain ⟨T', r1, r2, r3, r4⟩ := ih (i + 1) (wA T 68 i (T.2 67 i)) (by omega) (by omega)
      refine ⟨T', r1, fun a ha => (r2 a ha).trans (wA_n ha), fun j => ⟨fun h => ?_, fun h1 h2 => ?_⟩, fun q => ?_⟩
      · rw [(r3 j).1 (by omega), wA_e, pk_un (by omega)]
      · by_cases z : j = i
        · subst z; rw [(r3 j).1 (by omega), wA_e, pk_us]
        · rw [(r3 j).2 (by omega) h2, wA_n (by decide)]
      · rw [l_X12_plans_k3_97, if_pos (show nI i < 3 from nI_lt (b := 3) c (by decide)), ix_nI (show i < 8 by omega) (by decide), fb_s, fl_s, nI_1]; exact r4 q
    · obtain rfl : i = 3 := by omega
      refine ⟨T, rfl, fun _ _ => rfl, fun j => ⟨fun _ => rfl, fun h1 h2 => absurd h1 (by omega)⟩, fun q => ?_⟩
      rw [l_X12_plans_k3_97, if_neg (by decide)]
theorem q83_3 {V D sz : Nat} {X : Nat → Nat → Prop} (hz : sz = 3) (pl : PL 3 D T) (hb : ∀ T' : FS, T'.1 20 = 1 → T'.1 19 = nI V → (∀ j : Nat, j < sz → T'.2 68 j = nI (D / 7 ^ (sz - 1 - j) % 7) - 1) → BS sz X T') : ∃ T' : FS, EP T T' ∧ (∀ j : Nat, j < 3 → T'.2 67 j = T.2 67 j) ∧ j_X12_plans_k3_83 (nI V) T = some (0, T') ∧ BS sz X T' := by
  unfold j_X12_plans_k3_83
  simp only [fl_s]
  obtain ⟨T', r1, r2, r3, r4⟩ := q97_3 FU 0 (wI (wI T 20 1) 19 (nI V)) (Nat.zero_le _) (FU_lt (by omega))
  have e67 : T'.2 67 = T.2 67 := r2 67 (by decide)
  refine ⟨T', ((EP.wI (Or.inr rfl)).tr (EP.wI (Or.inl rfl))).tr ⟨fun k _ _ => by rw [r1], fun a _ h2 => r2 a h2⟩, fun j _ => by rw [e67], r4 _, hb T' ?_ ?_ (fun j hj => ?_)⟩
  · rw [r1, wI_n (by decide), wI_e]
  · rw [r1, wI_e]
  · subst hz
    rw [(r3 j).2 (Nat.zero_le _) hj]; exact pl j hj
theorem lf_3 {f m0 s sz g u x D : Nat} {r c : Nat → Nat} {X : Nat → Nat → Prop} (hm : m0 < 2 ^ 27) (mc : MC f r c s sz T) (hz : sz = 3) (gu : GU f g u) (hx : x ≤ m0 + 9990 * 3) (pl : PL 3 D T) (bs : BS sz X T) (hX : ∀ V E : Nat, X V E → E < D) : ∃ T' : FS, EP T T' ∧ (∀ j : Nat, j < 3 → T'.2 67 j = T.2 67 j) ∧ l_X12_plans_k3_19 (nI g) (fun S28 x28_4 x28_5 => if (S28.1 20) = 0 then (j_X12_plans_k3_83 x28_4 S28) else (if (S28.1 19) < x28_4 then (j_X12_plans_k3_83 x28_4 S28) else (some (0, S28)))) FU T (nI x) 0 = some (0, T') ∧ BS sz (fun V E => X V E ∨ (V = x + 8 * RS f r u 6 ∧ E = D)) T' := by
  have l := RS_le (s := u) mc.2.2.1 6 (Nat.le_refl _)
  obtain ⟨y1, y2⟩ := bs.leaf (V := x + 8 * RS f r u 6) (D := D) (by omega) hX
  rw [show ∀ q, l_X12_plans_k3_19 (nI g) q FU T (nI x) 0 = q T (nI (x + 8 * RS f r u 6)) (nI 6) from q19_3 mc gu x FU 0 (Nat.zero_le _) (FU_lt (by omega))]
  by_cases z0 : T.1 20 = 0
  · rw [if_pos z0]; exact q83_3 hz pl (y1 (Or.inl z0))
  · rw [if_neg z0]
    by_cases z1 : T.1 19 < nI (x + 8 * RS f r u 6)
    · rw [if_pos z1]; exact q83_3 hz pl (y1 (Or.inr ⟨z0, z1⟩))
    · rw [if_neg z1]
      exact ⟨T, EP.rf, fun _ _ => rfl, rfl, y2 (fun q => q.elim z0 (fun w => z1 w.2))⟩
theorem q130_3 {f g u s sz : Nat} {r c : Nat → Nat} (mc : MC f r c s sz T) (gu : GU f g u) (x : Nat) : ∀ (m i : Nat), i ≤ 6 → 6 - i < m → ∀ q, l_X12_plans_k3_130 (nI g) q m T (nI (x + RS f r u i)) (nI i) = q T (nI (x + RS f r u 6)) (nI 6) := by
  intro m
  induction m with
  | zero => intro i _ hm; exact absurd hm (Nat.not_lt_zero _)
  | succ m ih =>
    intro i hi hm q
    by_cases c : i < 6
    · have rr := ih (i + 1) (by omega) (by omega) q
      rw [RS] at rr
      have b1 := (bs_1 ⟨g, gu.1⟩ ⟨i, c⟩).1
      simp only at b1
      rw [l_X12_plans_k3_130, if_pos (ltc_6 c), nI_1]
      by_cases z : tIn g i
      · have z2 := (gu.2.2 i c).mp z
        rw [if_pos z2] at rr
        rw [if_pos (by rw [b1]; exact z), ixT_0 (by omega), fb_s, fv_s, mc.2.2.2 i c z2.1, nI_add, Nat.add_assoc]; exact rr
      · rw [if_neg (fun y => z ((gu.2.2 i c).mpr y))] at rr
        rw [if_neg (by rw [b1]; exact z), fv_s, Int32.add_zero]; exact rr
    · obtain rfl : i = 6 := by omega
      rw [l_X12_plans_k3_130, if_neg (by decide)]
theorem q177_3 {f m0 s sz g u x D : Nat} {r c : Nat → Nat} {X : Nat → Nat → Prop} (hn : PLs f r c m0 s sz 4 f_X12_plans_k4) (hm : m0 < 2 ^ 27) (hs : s < 4) (hz : 3 < sz) (gu : GU f g u) (hx : x ≤ m0 + 9990 * 3) (hX : ∀ V E : Nat, X V E → E < D * 7 ^ (sz - 3)) : ∀ (m i : Nat) (T : FS), i ≤ 7 → 7 - i < m → MC f r c s sz T → PL 3 D T → BS sz (Xi f r c sz 3 u x D X i) T → ∃ T' : FS, EP T T' ∧ (∀ j : Nat, j < 3 → T'.2 67 j = T.2 67 j) ∧ BS sz (Xi f r c sz 3 u x D X 7) T' ∧ ∀ q, l_X12_plans_k3_177 (nI g) (nI (x + RS f r u 6)) q m T (nI i - 1) = q T' (nI 6) := by
  intro m
  induction m with
  | zero => intro i T _ hm; exact absurd hm (Nat.not_lt_zero _)
  | succ m ih =>
    intro i T hi hf mc pl bs
    have jx : ix 96 ((24 : Int32) * T.1 18 + 3) = some (24 * s + 3) := by rw [mc.1.1]; exact ix96 (i := 3) hs (by decide)
    obtain ⟨cj, c9⟩ := mc.2.1 3 hz
    have l := RS_le (s := u) mc.2.2.1 6 (Nat.le_refl _)
    have nx : ∀ (T1 : FS), i < 7 → EP T T1 → (∀ j : Nat, j < 3 → T1.2 67 j = T.2 67 j) → BS sz (Xi f r c sz 3 u x D X (i + 1)) T1 → ∃ T' : FS, EP T T' ∧ (∀ j : Nat, j < 3 → T'.2 67 j = T.2 67 j) ∧ BS sz (Xi f r c sz 3 u x D X 7) T' ∧ ∀ q, l_X12_plans_k3_177 (nI g) (nI (x + RS f r u 6)) q m T1 (nI (i + 1) - 1) = q T' (nI 6) := fun T1 hi7 e1 e2 b => by
      obtain ⟨T', r1, r2, r3, r4⟩ := ih (i + 1) T1 (by omega) (by omega) (mc.ep e1) (pl.ep e2) b
      exact ⟨T', e1.tr r1, fun j hj => (r2 j hj).trans (e2 j hj), r3, r4⟩
    have none : i < 7 → (∀ u' x' : Nat, ¬ stq f r (c 3) u x i u' x') → ∃ T' : FS, EP T T' ∧ (∀ j : Nat, j < 3 → T'.2 67 j = T.2 67 j) ∧ BS sz (Xi f r c sz 3 u x D X 7) T' ∧ ∀ q, l_X12_plans_k3_177 (nI g) (nI (x + RS f r u 6)) q m T (nI (i + 1) - 1) = q T' (nI 6) := fun hi7 h => nx T hi7 EP.rf (fun _ _ => rfl) (bs.cg (Xi_no h))
    cases i with
    | zero =>
      have st : ∀ q, l_X12_plans_k3_177 (nI g) (nI (x + RS f r u 6)) q (m + 1) T (nI 0 - 1) = _ := fun q => by
        rw [l_X12_plans_k3_177, if_pos (by decide), if_pos (by decide), jx, fb_s, fv_s, show (nI 0 - 1 + 1 : Int32) = nI (0 + 1) - 1 from by decide, cj]
      obtain ⟨m1', m2⟩ := mleft (h := x + RS f r u 6) (c := c 3) (p := 0) (by omega) (by omega) (by decide)
      have m1 : nI (x + RS f r u 6) - nI (c 3) + 0 < 0 ↔ x + RS f r u 6 + 0 < c 3 := m1'
      by_cases z : c 3 ≤ x + RS f r u 6
      · have sp : stq f r (c 3) u x 0 u (x + RS f r u 6 - c 3) := Or.inl ⟨rfl, rfl, by omega⟩
        obtain ⟨T1, k1, k2, k3, k4⟩ := kid_x hn sp gu mc hz hx gu.2.1 pl bs hX
        obtain ⟨T', r1, r2, r3, r4⟩ := nx T1 (by decide) k1 k2 k4
        refine ⟨T', r1, r2, r3, fun q => ?_⟩
        rw [st, if_neg (fun w => by have := m1.mp w; omega), show nI (x + RS f r u 6) - nI (c 3) + 0 = nI (x + RS f r u 6 - c 3) from m2 (by omega), fl_s, k3, fb_s]
        exact r4 q
      · obtain ⟨T', r1, r2, r3, r4⟩ := none (by decide) (fun u' x' w => by
          rcases w with ⟨-, -, w⟩ | ⟨t, -, w, -⟩
          · omega
          · omega)
        refine ⟨T', r1, r2, r3, fun q => ?_⟩
        rw [st, if_pos (m1.mpr (by omega))]; exact r4 q
    | succ t =>
      by_cases c6 : t < 6
      · have lt : nI t < 6 := ltc_6 c6
        have b1 := (bs_1 ⟨g, gu.1⟩ ⟨t, c6⟩).2
        have b2 := bs_2 ⟨g, gu.1⟩ ⟨t, c6⟩
        simp only at b1 b2
        have st : ∀ q, l_X12_plans_k3_177 (nI g) (nI (x + RS f r u 6)) q (m + 1) T (nI (t + 1) - 1) = _ := fun q => by
          rw [l_X12_plans_k3_177, nI_pred, if_pos lt, if_neg (nI_pos (show t < 2 ^ 31 by omega)), jx, ixT_0 (show t < 10 by omega), fb_s, fb_s, fv_s, nI_1, ← nI_pred (t + 1), cj]
        by_cases b : tIn g t
        · obtain ⟨g1, g2⟩ := (gu.2.2 t c6).mp b
          have r9 := mc.2.2.1 t c6 g1
          have er := mc.2.2.2 t c6 g1
          obtain ⟨m1, m2⟩ := mleft (h := x + RS f r u 6) (c := c 3) (p := 4 * r t) (by omega) (by omega) (by omega)
          have e4 : nI (x + RS f r u 6) - nI (c 3) + 4 * T.2 55 (3 * t + 20) = nI (x + RS f r u 6) - nI (c 3) + nI (4 * r t) := by rw [er, show (4 : Int32) = nI 4 from rfl, pk_mul]
          by_cases z : c 3 ≤ x + RS f r u 6 + 4 * r t
          · have sp : stq f r (c 3) u x (t + 1) (u + 2 ^ t) (x + RS f r u 6 + 4 * r t - c 3) := Or.inr ⟨t, c6, rfl, g1, g2, rfl, by omega⟩
            obtain ⟨T1, k1, k2, k3, k4⟩ := kid_x hn sp (gu.kid c6 b) mc hz hx gu.2.1 pl bs hX
            obtain ⟨T', r1, r2, r3, r4⟩ := nx T1 (by omega) k1 k2 k4
            refine ⟨T', r1, r2, r3, fun q => ?_⟩
            rw [nI_pred] at k3
            rw [st, if_neg (by rw [b1]; exact fun w => w b), e4, if_neg (fun w => by have := m1.mp w; omega), m2 z, b2, if_pos b, fl_s, k3, fb_s]
            exact r4 q
          · obtain ⟨T', r1, r2, r3, r4⟩ := none (by omega) (fun u' x' w => by
              rcases w with ⟨w, -⟩ | ⟨v, -, w, -, -, -, w2⟩
              · omega
              · obtain rfl : v = t := by omega
                omega)
            refine ⟨T', r1, r2, r3, fun q => ?_⟩
            rw [st, if_neg (by rw [b1]; exact fun w => w b), e4, if_pos (m1.mpr (by omega))]; exact r4 q
        · obtain ⟨T', r1, r2, r3, r4⟩ := none (by omega) (fun u' x' w => by
            rcases w with ⟨w, -⟩ | ⟨v, -, w, w1, w2, -, -⟩
            · omega
            · obtain rfl : v = t := by omega
              exact b ((gu.2.2 v c6).mpr ⟨w1, w2⟩))
          refine ⟨T', r1, r2, r3, fun q => ?_⟩
          rw [st, if_pos (by rw [b1]; exact b)]; exact r4 q
      · obtain rfl : t = 6 := by omega
        refine ⟨T, EP.rf, fun _ _ => rfl, bs, fun q => ?_⟩
        rw [l_X12_plans_k3_177, nI_pred, if_neg (by decide)]
theorem plx_3 {f m0 s sz : Nat} {r c : Nat → Nat} (hm : m0 < 2 ^ 27) (hs : s < 4) (hz : sz ≤ 8) : PLs f r c m0 s sz 3 f_X12_plans_k3 := by
  intro T g u x D X mc ks gu hx pl bs hX
  unfold f_X12_plans_k3
  rw [mc.1.1, ix_nI hs (by decide), fb_s, mc.1.2]
  by_cases c : sz = 3
  · rw [if_pos (show (3 : Int32) = nI sz by rw [c]; rfl)]
    obtain ⟨T', a1, a2, a3, a4⟩ := lf_3 hm mc c gu hx pl bs (fun V E q => by have := hX V E q; rw [show sz - 3 = 0 by omega, Nat.pow_zero] at this; omega)
    refine ⟨T', a1, a2, a3, a4.cg (fun V E => ?_)⟩
    rw [show sz - 3 = 0 by omega]
    exact Iff.rfl
  · rw [if_neg (show ¬ (3 : Int32) = nI sz from fun q => c (nI_inj (a := sz) (b := 3) (by omega) (by decide) q.symm))]
    obtain ⟨T', a1, a2, a3, a4⟩ := q177_3 (plx_4 hm hs hz) hm hs (show 3 < sz by omega) gu hx hX FU 0 T (by omega) (FU_lt (by omega)) mc pl (bs.cg (fun V E => ⟨Or.inl, fun q => q.elim id (fun w => by obtain ⟨e, -, -, h, -⟩ := w; exact absurd h (Nat.not_lt_zero _))⟩))
    refine ⟨T', a1, a2, ?_, a3.cg (fun V E => ?_)⟩
    · rw [show ∀ q, l_X12_plans_k3_130 (nI g) q FU T (nI x) 0 = q T (nI (x + RS f r u 6)) (nI 6) from q130_3 mc gu x FU 0 (Nat.zero_le _) (FU_lt (by omega))]
      exact a4 _
    · rw [show sz - 3 = (sz - 4) + 1 by omega]
      constructor
      · rintro (q | ⟨e, u', x', -, h2, h3⟩)
        · exact Or.inl q
        · exact Or.inr ⟨e, u', x', h2, h3⟩
      · rintro (q | ⟨e, u', x', h2, h3⟩)
        · exact Or.inl q
        · exact Or.inr ⟨e, u', x', h2.d7.1, h2, h3⟩
theorem q19_2 {f g u s sz : Nat} {r c : Nat → Nat} (mc : MC f r c s sz T) (gu : GU f g u) (x : Nat) : ∀ (m i : Nat), i ≤ 6 → 6 - i < m → ∀ q, l_X12_plans_k2_19 (nI g) q m T (nI (x + 8 * RS f r u i)) (nI i) = q T (nI (x + 8 * RS f r u 6)) (nI 6) := by
  intro m
  induction m with
  | zero => intro i _ hm; exact absurd hm (Nat.not_lt_zero _)
  | succ m ih =>
    intro i hi hm q
    by_cases c : i < 6
    · have rr := ih (i + 1) (by omega) (by omega) q
      rw [RS] at rr
      have b1 := (bs_1 ⟨g, gu.1⟩ ⟨i, c⟩).1
      simp only at b1
      rw [l_X12_plans_k2_19, if_pos (ltc_6 c), nI_1]
      by_cases z : tIn g i
      · have z2 := (gu.2.2 i c).mp z
        rw [if_pos z2] at rr
        rw [if_pos (by rw [b1]; exact z), ixT_0 (by omega), fb_s, fv_s, mc.2.2.2 i c z2.1, show (8 : Int32) = nI 8 from rfl, pk_mul, nI_add, show x + 8 * RS f r u i + 8 * r i = x + 8 * (RS f r u i + r i) by omega]; exact rr
      · rw [if_neg (fun y => z ((gu.2.2 i c).mpr y))] at rr
        rw [if_neg (by rw [b1]; exact z), fv_s, Int32.add_zero]; exact rr
    · obtain rfl : i = 6 := by omega
      rw [l_X12_plans_k2_19, if_neg (by decide)]
theorem q97_2 : ∀ (m i : Nat) (T : FS), i ≤ 2 → 2 - i < m → ∃ T' : FS, T'.1 = T.1 ∧ (∀ a : Nat, a ≠ 68 → T'.2 a = T.2 a) ∧ (∀ j : Nat, (j < i → T'.2 68 j = T.2 68 j) ∧ (i ≤ j → j < 2 → T'.2 68 j = T.2 67 j)) ∧ ∀ q, l_X12_plans_k2_97 q m T (nI i) = q T' (nI 2) := by
  intro m
  induction m with
  | zero => intro i T _ hm; exact absurd hm (Nat.not_lt_zero _)
  | succ m ih =>
    intro i T hi hm
    by_cases c : i < 2
    · obtain ⟨T', r1, r2, r3, r4⟩ := ih (i + 1) (wA T 68 i (T.2 67 i)) (by omega) (by omega)
      refine ⟨T', r1, fun a ha => (r2 a ha).trans (wA_n ha), fun j => ⟨fun h => ?_, fun h1 h2 => ?_⟩, fun q => ?_⟩
      · rw [(r3 j).1 (by omega), wA_e, pk_un (by omega)]
      · by_cases z : j = i
        · subst z; rw [(r3 j).1 (by omega), wA_e, pk_us]
        · rw [(r3 j).2 (by omega) h2, wA_n (by decide)]
      · rw [l_X12_plans_k2_97, if_pos (show nI i < 2 from nI_lt (b := 2) c (by decide)), ix_nI (show i < 8 by omega) (by decide), fb_s, fl_s, nI_1]; exact r4 q
    · obtain rfl : i = 2 := by omega
      refine ⟨T, rfl, fun _ _ => rfl, fun j => ⟨fun _ => rfl, fun h1 h2 => absurd h1 (by omega)⟩, fun q => ?_⟩
      rw [l_X12_plans_k2_97, if_neg (by decide)]
theorem q83_2 {V D sz : Nat} {X : Nat → Nat → Prop} (hz : sz = 2) (pl : PL 2 D T) (hb : ∀ T' : FS, T'.1 20 = 1 → T'.1 19 = nI V → (∀ j : Nat, j < sz → T'.2 68 j = nI (D / 7 ^ (sz - 1 - j) % 7) - 1) → BS sz X T') : ∃ T' : FS, EP T T' ∧ (∀ j : Nat, j < 2 → T'.2 67 j = T.2 67 j) ∧ j_X12_plans_k2_83 (nI V) T = some (0, T') ∧ BS sz X T' := by
  unfold j_X12_plans_k2_83
  simp only [fl_s]
  obtain ⟨T', r1, r2, r3, r4⟩ := q97_2 FU 0 (wI (wI T 20 1) 19 (nI V)) (Nat.zero_le _) (FU_lt (by omega))
  have e67 : T'.2 67 = T.2 67 := r2 67 (by decide)
  refine ⟨T', ((EP.wI (Or.inr rfl)).tr (EP.wI (Or.inl rfl))).tr ⟨fun k _ _ => by rw [r1], fun a _ h2 => r2 a h2⟩, fun j _ => by rw [e67], r4 _, hb T' ?_ ?_ (fun j hj => ?_)⟩
  · rw [r1, wI_n (by decide), wI_e]
  · rw [r1, wI_e]
  · subst hz
    rw [(r3 j).2 (Nat.zero_le _) hj]; exact pl j hj
theorem lf_2 {f m0 s sz g u x D : Nat} {r c : Nat → Nat} {X : Nat → Nat → Prop} (hm : m0 < 2 ^ 27) (mc : MC f r c s sz T) (hz : sz = 2) (gu : GU f g u) (hx : x ≤ m0 + 9990 * 2) (pl : PL 2 D T) (bs : BS sz X T) (hX : ∀ V E : Nat, X V E → E < D) : ∃ T' : FS, EP T T' ∧ (∀ j : Nat, j < 2 → T'.2 67 j = T.2 67 j) ∧ l_X12_plans_k2_19 (nI g) (fun S28 x28_4 x28_5 => if (S28.1 20) = 0 then (j_X12_plans_k2_83 x28_4 S28) else (if (S28.1 19) < x28_4 then (j_X12_plans_k2_83 x28_4 S28) else (some (0, S28)))) FU T (nI x) 0 = some (0, T') ∧ BS sz (fun V E => X V E ∨ (V = x + 8 * RS f r u 6 ∧ E = D)) T' := by
  have l := RS_le (s := u) mc.2.2.1 6 (Nat.le_refl _)
  obtain ⟨y1, y2⟩ := bs.leaf (V := x + 8 * RS f r u 6) (D := D) (by omega) hX
  rw [show ∀ q, l_X12_plans_k2_19 (nI g) q FU T (nI x) 0 = q T (nI (x + 8 * RS f r u 6)) (nI 6) from q19_2 mc gu x FU 0 (Nat.zero_le _) (FU_lt (by omega))]
  by_cases z0 : T.1 20 = 0
  · rw [if_pos z0]; exact q83_2 hz pl (y1 (Or.inl z0))
  · rw [if_neg z0]
    by_cases z1 : T.1 19 < nI (x + 8 * RS f r u 6)
    · rw [if_pos z1]; exact q83_2 hz pl (y1 (Or.inr ⟨z0, z1⟩))
    · rw [if_neg z1]
      exact ⟨T, EP.rf, fun _ _ => rfl, rfl, y2 (fun q => q.elim z0 (fun w => z1 w.2))⟩
theorem q130_2 {f g u s sz : Nat} {r c : Nat → Nat} (mc : MC f r c s sz T) (gu : GU f g u) (x : Nat) : ∀ (m i : Nat), i ≤ 6 → 6 - i < m → ∀ q, l_X12_plans_k2_130 (nI g) q m T (nI (x + RS f r u i)) (nI i) = q T (nI (x + RS f r u 6)) (nI 6) := by
  intro m
  induction m with
  | zero => intro i _ hm; exact absurd hm (Nat.not_lt_zero _)
  | succ m ih =>
    intro i hi hm q
    by_cases c : i < 6
    · have rr := ih (i + 1) (by omega) (by omega) q
      rw [RS] at rr
      have b1 := (bs_1 ⟨g, gu.1⟩ ⟨i, c⟩).1
      simp only at b1
      rw [l_X12_plans_k2_130, if_pos (ltc_6 c), nI_1]
      by_cases z : tIn g i
      · have z2 := (gu.2.2 i c).mp z
        rw [if_pos z2] at rr
        rw [if_pos (by rw [b1]; exact z), ixT_0 (by omega), fb_s, fv_s, mc.2.2.2 i c z2.1, nI_add, Nat.add_assoc]; exact rr
      · rw [if_neg (fun y => z ((gu.2.2 i c).mpr y))] at rr
        rw [if_neg (by rw [b1]; exact z), fv_s, Int32.add_zero]; exact rr
    · obtain rfl : i = 6 := by omega
      rw [l_X12_plans_k2_130, if_neg (by decide)]
theorem q177_2 {f m0 s sz g u x D : Nat} {r c : Nat → Nat} {X : Nat → Nat → Prop} (hn : PLs f r c m0 s sz 3 f_X12_plans_k3) (hm : m0 < 2 ^ 27) (hs : s < 4) (hz : 2 < sz) (gu : GU f g u) (hx : x ≤ m0 + 9990 * 2) (hX : ∀ V E : Nat, X V E → E < D * 7 ^ (sz - 2)) : ∀ (m i : Nat) (T : FS), i ≤ 7 → 7 - i < m → MC f r c s sz T → PL 2 D T → BS sz (Xi f r c sz 2 u x D X i) T → ∃ T' : FS, EP T T' ∧ (∀ j : Nat, j < 2 → T'.2 67 j = T.2 67 j) ∧ BS sz (Xi f r c sz 2 u x D X 7) T' ∧ ∀ q, l_X12_plans_k2_177 (nI g) (nI (x + RS f r u 6)) q m T (nI i - 1) = q T' (nI 6) := by
  intro m
  induction m with
  | zero => intro i T _ hm; exact absurd hm (Nat.not_lt_zero _)
  | succ m ih =>
    intro i T hi hf mc pl bs
    have jx : ix 96 ((24 : Int32) * T.1 18 + 2) = some (24 * s + 2) := by rw [mc.1.1]; exact ix96 (i := 2) hs (by decide)
    obtain ⟨cj, c9⟩ := mc.2.1 2 hz
    have l := RS_le (s := u) mc.2.2.1 6 (Nat.le_refl _)
    have nx : ∀ (T1 : FS), i < 7 → EP T T1 → (∀ j : Nat, j < 2 → T1.2 67 j = T.2 67 j) → BS sz (Xi f r c sz 2 u x D X (i + 1)) T1 → ∃ T' : FS, EP T T' ∧ (∀ j : Nat, j < 2 → T'.2 67 j = T.2 67 j) ∧ BS sz (Xi f r c sz 2 u x D X 7) T' ∧ ∀ q, l_X12_plans_k2_177 (nI g) (nI (x + RS f r u 6)) q m T1 (nI (i + 1) - 1) = q T' (nI 6) := fun T1 hi7 e1 e2 b => by
      obtain ⟨T', r1, r2, r3, r4⟩ := ih (i + 1) T1 (by omega) (by omega) (mc.ep e1) (pl.ep e2) b
      exact ⟨T', e1.tr r1, fun j hj => (r2 j hj).trans (e2 j hj), r3, r4⟩
    have none : i < 7 → (∀ u' x' : Nat, ¬ stq f r (c 2) u x i u' x') → ∃ T' : FS, EP T T' ∧ (∀ j : Nat, j < 2 → T'.2 67 j = T.2 67 j) ∧ BS sz (Xi f r c sz 2 u x D X 7) T' ∧ ∀ q, l_X12_plans_k2_177 (nI g) (nI (x + RS f r u 6)) q m T (nI (i + 1) - 1) = q T' (nI 6) := fun hi7 h => nx T hi7 EP.rf (fun _ _ => rfl) (bs.cg (Xi_no h))
    cases i with
    | zero =>
      have st : ∀ q, l_X12_plans_k2_177 (nI g) (nI (x + RS f r u 6)) q (m + 1) T (nI 0 - 1) = _ := fun q => by
        rw [l_X12_plans_k2_177, if_pos (by decide), if_pos (by decide), jx, fb_s, fv_s, show (nI 0 - 1 + 1 : Int32) = nI (0 + 1) - 1 from by decide, cj]
      obtain ⟨m1', m2⟩ := mleft (h := x + RS f r u 6) (c := c 2) (p := 0) (by omega) (by omega) (by decide)
      have m1 : nI (x + RS f r u 6) - nI (c 2) + 0 < 0 ↔ x + RS f r u 6 + 0 < c 2 := m1'
      by_cases z : c 2 ≤ x + RS f r u 6
      · have sp : stq f r (c 2) u x 0 u (x + RS f r u 6 - c 2) := Or.inl ⟨rfl, rfl, by omega⟩
        obtain ⟨T1, k1, k2, k3, k4⟩ := kid_x hn sp gu mc hz hx gu.2.1 pl bs hX
        obtain ⟨T', r1, r2, r3, r4⟩ := nx T1 (by decide) k1 k2 k4
        refine ⟨T', r1, r2, r3, fun q => ?_⟩
        rw [st, if_neg (fun w => by have := m1.mp w; omega), show nI (x + RS f r u 6) - nI (c 2) + 0 = nI (x + RS f r u 6 - c 2) from m2 (by omega), fl_s, k3, fb_s]
        exact r4 q
      · obtain ⟨T', r1, r2, r3, r4⟩ := none (by decide) (fun u' x' w => by
          rcases w with ⟨-, -, w⟩ | ⟨t, -, w, -⟩
          · omega
          · omega)
        refine ⟨T', r1, r2, r3, fun q => ?_⟩
        rw [st, if_pos (m1.mpr (by omega))]; exact r4 q
    | succ t =>
      by_cases c6 : t < 6
      · have lt : nI t < 6 := ltc_6 c6
        have b1 := (bs_1 ⟨g, gu.1⟩ ⟨t, c6⟩).2
        have b2 := bs_2 ⟨g, gu.1⟩ ⟨t, c6⟩
        simp only at b1 b2
        have st : ∀ q, l_X12_plans_k2_177 (nI g) (nI (x + RS f r u 6)) q (m + 1) T (nI (t + 1) - 1) = _ := fun q => by
          rw [l_X12_plans_k2_177, nI_pred, if_pos lt, if_neg (nI_pos (show t < 2 ^ 31 by omega)), jx, ixT_0 (show t < 10 by omega), fb_s, fb_s, fv_s, nI_1, ← nI_pred (t + 1), cj]
        by_cases b : tIn g t
        · obtain ⟨g1, g2⟩ := (gu.2.2 t c6).mp b
          have r9 := mc.2.2.1 t c6 g1
          have er := mc.2.2.2 t c6 g1
          obtain ⟨m1, m2⟩ := mleft (h := x + RS f r u 6) (c := c 2) (p := 4 * r t) (by omega) (by omega) (by omega)
          have e4 : nI (x + RS f r u 6) - nI (c 2) + 4 * T.2 55 (3 * t + 20) = nI (x + RS f r u 6) - nI (c 2) + nI (4 * r t) := by rw [er, show (4 : Int32) = nI 4 from rfl, pk_mul]
          by_cases z : c 2 ≤ x + RS f r u 6 + 4 * r t
          · have sp : stq f r (c 2) u x (t + 1) (u + 2 ^ t) (x + RS f r u 6 + 4 * r t - c 2) := Or.inr ⟨t, c6, rfl, g1, g2, rfl, by omega⟩
            obtain ⟨T1, k1, k2, k3, k4⟩ := kid_x hn sp (gu.kid c6 b) mc hz hx gu.2.1 pl bs hX
            obtain ⟨T', r1, r2, r3, r4⟩ := nx T1 (by omega) k1 k2 k4
            refine ⟨T', r1, r2, r3, fun q => ?_⟩
            rw [nI_pred] at k3
            rw [st, if_neg (by rw [b1]; exact fun w => w b), e4, if_neg (fun w => by have := m1.mp w; omega), m2 z, b2, if_pos b, fl_s, k3, fb_s]
            exact r4 q
          · obtain ⟨T', r1, r2, r3, r4⟩ := none (by omega) (fun u' x' w => by
              rcases w with ⟨w, -⟩ | ⟨v, -, w, -, -, -, w2⟩
              · omega
              · obtain rfl : v = t := by omega
                omega)
            refine ⟨T', r1, r2, r3, fun q => ?_⟩
            rw [st, if_neg (by rw [b1]; exact fun w => w b), e4, if_pos (m1.mpr (by omega))]; exact r4 q
        · obtain ⟨T', r1, r2, r3, r4⟩ := none (by omega) (fun u' x' w => by
            rcases w with ⟨w, -⟩ | ⟨v, -, w, w1, w2, -, -⟩
            · omega
            · obtain rfl : v = t := by omega
              exact b ((gu.2.2 v c6).mpr ⟨w1, w2⟩))
          refine ⟨T', r1, r2, r3, fun q => ?_⟩
          rw [st, if_pos (by rw [b1]; exact b)]; exact r4 q
      · obtain rfl : t = 6 := by omega
        refine ⟨T, EP.rf, fun _ _ => rfl, bs, fun q => ?_⟩
        rw [l_X12_plans_k2_177, nI_pred, if_neg (by decide)]
theorem plx_2 {f m0 s sz : Nat} {r c : Nat → Nat} (hm : m0 < 2 ^ 27) (hs : s < 4) (hz : sz ≤ 8) : PLs f r c m0 s sz 2 f_X12_plans_k2 := by
  intro T g u x D X mc ks gu hx pl bs hX
  unfold f_X12_plans_k2
  rw [mc.1.1, ix_nI hs (by decide), fb_s, mc.1.2]
  by_cases c : sz = 2
  · rw [if_pos (show (2 : Int32) = nI sz by rw [c]; rfl)]
    obtain ⟨T', a1, a2, a3, a4⟩ := lf_2 hm mc c gu hx pl bs (fun V E q => by have := hX V E q; rw [show sz - 2 = 0 by omega, Nat.pow_zero] at this; omega)
    refine ⟨T', a1, a2, a3, a4.cg (fun V E => ?_)⟩
    rw [show sz - 2 = 0 by omega]
    exact Iff.rfl
  · rw [if_neg (show ¬ (2 : Int32) = nI sz from fun q => c (nI_inj (a := sz) (b := 2) (by omega) (by decide) q.symm))]
    obtain ⟨T', a1, a2, a3, a4⟩ := q177_2 (plx_3 hm hs hz) hm hs (show 2 < sz by omega) gu hx hX FU 0 T (by omega) (FU_lt (by omega)) mc pl (bs.cg (fun V E => ⟨Or.inl, fun q => q.elim id (fun w => by obtain ⟨e, -, -, h, -⟩ := w; exact absurd h (Nat.not_lt_zero _))⟩))
    refine ⟨T', a1, a2, ?_, a3.cg (fun V E => ?_)⟩
    · rw [show ∀ q, l_X12_plans_k2_130 (nI g) q FU T (nI x) 0 = q T (nI (x + RS f r u 6)) (nI 6) from q130_2 mc gu x FU 0 (Nat.zero_le _) (FU_lt (by omega))]
      exact a4 _
    · rw [show sz - 2 = (sz - 3) + 1 by omega]
      constructor
      · rintro (q | ⟨e, u', x', -, h2, h3⟩)
        · exact Or.inl q
        · exact Or.inr ⟨e, u', x', h2, h3⟩
      · rintro (q | ⟨e, u', x', h2, h3⟩)
        · exact Or.inl q
        · exact Or.inr ⟨e, u', x', h2.d7.1, h2, h3⟩
theorem q19_1 {f g u s sz : Nat} {r c : Nat → Nat} (mc : MC f r c s sz T) (gu : GU f g u) (x : Nat) : ∀ (m i : Nat), i ≤ 6 → 6 - i < m → ∀ q, l_X12_plans_k1_19 (nI g) q m T (nI (x + 8 * RS f r u i)) (nI i) = q T (nI (x + 8 * RS f r u 6)) (nI 6) := by
  intro m
  induction m with
  | zero => intro i _ hm; exact absurd hm (Nat.not_lt_zero _)
  | succ m ih =>
    intro i hi hm q
    by_cases c : i < 6
    · have rr := ih (i + 1) (by omega) (by omega) q
      rw [RS] at rr
      have b1 := (bs_1 ⟨g, gu.1⟩ ⟨i, c⟩).1
      simp only at b1
      rw [l_X12_plans_k1_19, if_pos (ltc_6 c), nI_1]
      by_cases z : tIn g i
      · have z2 := (gu.2.2 i c).mp z
        rw [if_pos z2] at rr
        rw [if_pos (by rw [b1]; exact z), ixT_0 (by omega), fb_s, fv_s, mc.2.2.2 i c z2.1, show (8 : Int32) = nI 8 from rfl, pk_mul, nI_add, show x + 8 * RS f r u i + 8 * r i = x + 8 * (RS f r u i + r i) by omega]; exact rr
      · rw [if_neg (fun y => z ((gu.2.2 i c).mpr y))] at rr
        rw [if_neg (by rw [b1]; exact z), fv_s, Int32.add_zero]; exact rr
    · obtain rfl : i = 6 := by omega
      rw [l_X12_plans_k1_19, if_neg (by decide)]
theorem q97_1 : ∀ (m i : Nat) (T : FS), i ≤ 1 → 1 - i < m → ∃ T' : FS, T'.1 = T.1 ∧ (∀ a : Nat, a ≠ 68 → T'.2 a = T.2 a) ∧ (∀ j : Nat, (j < i → T'.2 68 j = T.2 68 j) ∧ (i ≤ j → j < 1 → T'.2 68 j = T.2 67 j)) ∧ ∀ q, l_X12_plans_k1_97 q m T (nI i) = q T' (nI 1) := by
  intro m
  induction m with
  | zero => intro i T _ hm; exact absurd hm (Nat.not_lt_zero _)
  | succ m ih =>
    intro i T hi hm
    by_cases c : i < 1
    · obtain ⟨T', r1, r2, r3, r4⟩ := ih (i + 1) (wA T 68 i (T.2 67 i)) (by omega) (by omega)
      refine ⟨T', r1, fun a ha => (r2 a ha).trans (wA_n ha), fun j => ⟨fun h => ?_, fun h1 h2 => ?_⟩, fun q => ?_⟩
      · rw [(r3 j).1 (by omega), wA_e, pk_un (by omega)]
      · by_cases z : j = i
        · subst z; rw [(r3 j).1 (by omega), wA_e, pk_us]
        · rw [(r3 j).2 (by omega) h2, wA_n (by decide)]
      · rw [l_X12_plans_k1_97, if_pos (show nI i < 1 from nI_lt (b := 1) c (by decide)), ix_nI (show i < 8 by omega) (by decide), fb_s, fl_s, nI_1]; exact r4 q
    · obtain rfl : i = 1 := by omega
      refine ⟨T, rfl, fun _ _ => rfl, fun j => ⟨fun _ => rfl, fun h1 h2 => absurd h1 (by omega)⟩, fun q => ?_⟩
      rw [l_X12_plans_k1_97, if_neg (by decide)]
theorem q83_1 {V D sz : Nat} {X : Nat → Nat → Prop} (hz : sz = 1) (pl : PL 1 D T) (hb : ∀ T' : FS, T'.1 20 = 1 → T'.1 19 = nI V → (∀ j : Nat, j < sz → T'.2 68 j = nI (D / 7 ^ (sz - 1 - j) % 7) - 1) → BS sz X T') : ∃ T' : FS, EP T T' ∧ (∀ j : Nat, j < 1 → T'.2 67 j = T.2 67 j) ∧ j_X12_plans_k1_83 (nI V) T = some (0, T') ∧ BS sz X T' := by
  unfold j_X12_plans_k1_83
  simp only [fl_s]
  obtain ⟨T', r1, r2, r3, r4⟩ := q97_1 FU 0 (wI (wI T 20 1) 19 (nI V)) (Nat.zero_le _) (FU_lt (by omega))
  have e67 : T'.2 67 = T.2 67 := r2 67 (by decide)
  refine ⟨T', ((EP.wI (Or.inr rfl)).tr (EP.wI (Or.inl rfl))).tr ⟨fun k _ _ => by rw [r1], fun a _ h2 => r2 a h2⟩, fun j _ => by rw [e67], r4 _, hb T' ?_ ?_ (fun j hj => ?_)⟩
  · rw [r1, wI_n (by decide), wI_e]
  · rw [r1, wI_e]
  · subst hz
    rw [(r3 j).2 (Nat.zero_le _) hj]; exact pl j hj
theorem lf_1 {f m0 s sz g u x D : Nat} {r c : Nat → Nat} {X : Nat → Nat → Prop} (hm : m0 < 2 ^ 27) (mc : MC f r c s sz T) (hz : sz = 1) (gu : GU f g u) (hx : x ≤ m0 + 9990 * 1) (pl : PL 1 D T) (bs : BS sz X T) (hX : ∀ V E : Nat, X V E → E < D) : ∃ T' : FS, EP T T' ∧ (∀ j : Nat, j < 1 → T'.2 67 j = T.2 67 j) ∧ l_X12_plans_k1_19 (nI g) (fun S28 x28_4 x28_5 => if (S28.1 20) = 0 then (j_X12_plans_k1_83 x28_4 S28) else (if (S28.1 19) < x28_4 then (j_X12_plans_k1_83 x28_4 S28) else (some (0, S28)))) FU T (nI x) 0 = some (0, T') ∧ BS sz (fun V E => X V E ∨ (V = x + 8 * RS f r u 6 ∧ E = D)) T' := by
  have l := RS_le (s := u) mc.2.2.1 6 (Nat.le_refl _)
  obtain ⟨y1, y2⟩ := bs.leaf (V := x + 8 * RS f r u 6) (D := D) (by omega) hX
  rw [show ∀ q, l_X12_plans_k1_19 (nI g) q FU T (nI x) 0 = q T (nI (x + 8 * RS f r u 6)) (nI 6) from q19_1 mc gu x FU 0 (Nat.zero_le _) (FU_lt (by omega))]
  by_cases z0 : T.1 20 = 0
  · rw [if_pos z0]; exact q83_1 hz pl (y1 (Or.inl z0))
  · rw [if_neg z0]
    by_cases z1 : T.1 19 < nI (x + 8 * RS f r u 6)
    · rw [if_pos z1]; exact q83_1 hz pl (y1 (Or.inr ⟨z0, z1⟩))
    · rw [if_neg z1]
      exact ⟨T, EP.rf, fun _ _ => rfl, rfl, y2 (fun q => q.elim z0 (fun w => z1 w.2))⟩
theorem q130_1 {f g u s sz : Nat} {r c : Nat → Nat} (mc : MC f r c s sz T) (gu : GU f g u) (x : Nat) : ∀ (m i : Nat), i ≤ 6 → 6 - i < m → ∀ q, l_X12_plans_k1_130 (nI g) q m T (nI (x + RS f r u i)) (nI i) = q T (nI (x + RS f r u 6)) (nI 6) := by
  intro m
  induction m with
  | zero => intro i _ hm; exact absurd hm (Nat.not_lt_zero _)
  | succ m ih =>
    intro i hi hm q
    by_cases c : i < 6
    · have rr := ih (i + 1) (by omega) (by omega) q
      rw [RS] at rr
      have b1 := (bs_1 ⟨g, gu.1⟩ ⟨i, c⟩).1
      simp only at b1
      rw [l_X12_plans_k1_130, if_pos (ltc_6 c), nI_1]
      by_cases z : tIn g i
      · have z2 := (gu.2.2 i c).mp z
        rw [if_pos z2] at rr
        rw [if_pos (by rw [b1]; exact z), ixT_0 (by omega), fb_s, fv_s, mc.2.2.2 i c z2.1, nI_add, Nat.add_assoc]; exact rr
      · rw [if_neg (fun y => z ((gu.2.2 i c).mpr y))] at rr
        rw [if_neg (by rw [b1]; exact z), fv_s, Int32.add_zero]; exact rr
    · obtain rfl : i = 6 := by omega
      rw [l_X12_plans_k1_130, if_neg (by decide)]
theorem q177_1 {f m0 s sz g u x D : Nat} {r c : Nat → Nat} {X : Nat → Nat → Prop} (hn : PLs f r c m0 s sz 2 f_X12_plans_k2) (hm : m0 < 2 ^ 27) (hs : s < 4) (hz : 1 < sz) (gu : GU f g u) (hx : x ≤ m0 + 9990 * 1) (hX : ∀ V E : Nat, X V E → E < D * 7 ^ (sz - 1)) : ∀ (m i : Nat) (T : FS), i ≤ 7 → 7 - i < m → MC f r c s sz T → PL 1 D T → BS sz (Xi f r c sz 1 u x D X i) T → ∃ T' : FS, EP T T' ∧ (∀ j : Nat, j < 1 → T'.2 67 j = T.2 67 j) ∧ BS sz (Xi f r c sz 1 u x D X 7) T' ∧ ∀ q, l_X12_plans_k1_177 (nI g) (nI (x + RS f r u 6)) q m T (nI i - 1) = q T' (nI 6) := by
  intro m
  induction m with
  | zero => intro i T _ hm; exact absurd hm (Nat.not_lt_zero _)
  | succ m ih =>
    intro i T hi hf mc pl bs
    have jx : ix 96 ((24 : Int32) * T.1 18 + 1) = some (24 * s + 1) := by rw [mc.1.1]; exact ix96 (i := 1) hs (by decide)
    obtain ⟨cj, c9⟩ := mc.2.1 1 hz
    have l := RS_le (s := u) mc.2.2.1 6 (Nat.le_refl _)
    have nx : ∀ (T1 : FS), i < 7 → EP T T1 → (∀ j : Nat, j < 1 → T1.2 67 j = T.2 67 j) → BS sz (Xi f r c sz 1 u x D X (i + 1)) T1 → ∃ T' : FS, EP T T' ∧ (∀ j : Nat, j < 1 → T'.2 67 j = T.2 67 j) ∧ BS sz (Xi f r c sz 1 u x D X 7) T' ∧ ∀ q, l_X12_plans_k1_177 (nI g) (nI (x + RS f r u 6)) q m T1 (nI (i + 1) - 1) = q T' (nI 6) := fun T1 hi7 e1 e2 b => by
      obtain ⟨T', r1, r2, r3, r4⟩ := ih (i + 1) T1 (by omega) (by omega) (mc.ep e1) (pl.ep e2) b
      exact ⟨T', e1.tr r1, fun j hj => (r2 j hj).trans (e2 j hj), r3, r4⟩
    have none : i < 7 → (∀ u' x' : Nat, ¬ stq f r (c 1) u x i u' x') → ∃ T' : FS, EP T T' ∧ (∀ j : Nat, j < 1 → T'.2 67 j = T.2 67 j) ∧ BS sz (Xi f r c sz 1 u x D X 7) T' ∧ ∀ q, l_X12_plans_k1_177 (nI g) (nI (x + RS f r u 6)) q m T (nI (i + 1) - 1) = q T' (nI 6) := fun hi7 h => nx T hi7 EP.rf (fun _ _ => rfl) (bs.cg (Xi_no h))
    cases i with
    | zero =>
      have st : ∀ q, l_X12_plans_k1_177 (nI g) (nI (x + RS f r u 6)) q (m + 1) T (nI 0 - 1) = _ := fun q => by
        rw [l_X12_plans_k1_177, if_pos (by decide), if_pos (by decide), jx, fb_s, fv_s, show (nI 0 - 1 + 1 : Int32) = nI (0 + 1) - 1 from by decide, cj]
      obtain ⟨m1', m2⟩ := mleft (h := x + RS f r u 6) (c := c 1) (p := 0) (by omega) (by omega) (by decide)
      have m1 : nI (x + RS f r u 6) - nI (c 1) + 0 < 0 ↔ x + RS f r u 6 + 0 < c 1 := m1'
      by_cases z : c 1 ≤ x + RS f r u 6
      · have sp : stq f r (c 1) u x 0 u (x + RS f r u 6 - c 1) := Or.inl ⟨rfl, rfl, by omega⟩
        obtain ⟨T1, k1, k2, k3, k4⟩ := kid_x hn sp gu mc hz hx gu.2.1 pl bs hX
        obtain ⟨T', r1, r2, r3, r4⟩ := nx T1 (by decide) k1 k2 k4
        refine ⟨T', r1, r2, r3, fun q => ?_⟩
        rw [st, if_neg (fun w => by have := m1.mp w; omega), show nI (x + RS f r u 6) - nI (c 1) + 0 = nI (x + RS f r u 6 - c 1) from m2 (by omega), fl_s, k3, fb_s]
        exact r4 q
      · obtain ⟨T', r1, r2, r3, r4⟩ := none (by decide) (fun u' x' w => by
          rcases w with ⟨-, -, w⟩ | ⟨t, -, w, -⟩
          · omega
          · omega)
        refine ⟨T', r1, r2, r3, fun q => ?_⟩
        rw [st, if_pos (m1.mpr (by omega))]; exact r4 q
    | succ t =>
      by_cases c6 : t < 6
      · have lt : nI t < 6 := ltc_6 c6
        have b1 := (bs_1 ⟨g, gu.1⟩ ⟨t, c6⟩).2
        have b2 := bs_2 ⟨g, gu.1⟩ ⟨t, c6⟩
        simp only at b1 b2
        have st : ∀ q, l_X12_plans_k1_177 (nI g) (nI (x + RS f r u 6)) q (m + 1) T (nI (t + 1) - 1) = _ := fun q => by
          rw [l_X12_plans_k1_177, nI_pred, if_pos lt, if_neg (nI_pos (show t < 2 ^ 31 by omega)), jx, ixT_0 (show t < 10 by omega), fb_s, fb_s, fv_s, nI_1, ← nI_pred (t + 1), cj]
        by_cases b : tIn g t
        · obtain ⟨g1, g2⟩ := (gu.2.2 t c6).mp b
          have r9 := mc.2.2.1 t c6 g1
          have er := mc.2.2.2 t c6 g1
          obtain ⟨m1, m2⟩ := mleft (h := x + RS f r u 6) (c := c 1) (p := 4 * r t) (by omega) (by omega) (by omega)
          have e4 : nI (x + RS f r u 6) - nI (c 1) + 4 * T.2 55 (3 * t + 20) = nI (x + RS f r u 6) - nI (c 1) + nI (4 * r t) := by rw [er, show (4 : Int32) = nI 4 from rfl, pk_mul]
          by_cases z : c 1 ≤ x + RS f r u 6 + 4 * r t
          · have sp : stq f r (c 1) u x (t + 1) (u + 2 ^ t) (x + RS f r u 6 + 4 * r t - c 1) := Or.inr ⟨t, c6, rfl, g1, g2, rfl, by omega⟩
            obtain ⟨T1, k1, k2, k3, k4⟩ := kid_x hn sp (gu.kid c6 b) mc hz hx gu.2.1 pl bs hX
            obtain ⟨T', r1, r2, r3, r4⟩ := nx T1 (by omega) k1 k2 k4
            refine ⟨T', r1, r2, r3, fun q => ?_⟩
            rw [nI_pred] at k3
            rw [st, if_neg (by rw [b1]; exact fun w => w b), e4, if_neg (fun w => by have := m1.mp w; omega), m2 z, b2, if_pos b, fl_s, k3, fb_s]
            exact r4 q
          · obtain ⟨T', r1, r2, r3, r4⟩ := none (by omega) (fun u' x' w => by
              rcases w with ⟨w, -⟩ | ⟨v, -, w, -, -, -, w2⟩
              · omega
              · obtain rfl : v = t := by omega
                omega)
            refine ⟨T', r1, r2, r3, fun q => ?_⟩
            rw [st, if_neg (by rw [b1]; exact fun w => w b), e4, if_pos (m1.mpr (by omega))]; exact r4 q
        · obtain ⟨T', r1, r2, r3, r4⟩ := none (by omega) (fun u' x' w => by
            rcases w with ⟨w, -⟩ | ⟨v, -, w, w1, w2, -, -⟩
            · omega
            · obtain rfl : v = t := by omega
              exact b ((gu.2.2 v c6).mpr ⟨w1, w2⟩))
          refine ⟨T', r1, r2, r3, fun q => ?_⟩
          rw [st, if_pos (by rw [b1]; exact b)]; exact r4 q
      · obtain rfl : t = 6 := by omega
        refine ⟨T, EP.rf, fun _ _ => rfl, bs, fun q => ?_⟩
        rw [l_X12_plans_k1_177, nI_pred, if_neg (by decide)]
theorem plx_1 {f m0 s sz : Nat} {r c : Nat → Nat} (hm : m0 < 2 ^ 27) (hs : s < 4) (hz : sz ≤ 8) : PLs f r c m0 s sz 1 f_X12_plans_k1 := by
  intro T g u x D X mc ks gu hx pl bs hX
  unfold f_X12_plans_k1
  rw [mc.1.1, ix_nI hs (by decide), fb_s, mc.1.2]
  by_cases c : sz = 1
  · rw [if_pos (show (1 : Int32) = nI sz by rw [c]; rfl)]
    obtain ⟨T', a1, a2, a3, a4⟩ := lf_1 hm mc c gu hx pl bs (fun V E q => by have := hX V E q; rw [show sz - 1 = 0 by omega, Nat.pow_zero] at this; omega)
    refine ⟨T', a1, a2, a3, a4.cg (fun V E => ?_)⟩
    rw [show sz - 1 = 0 by omega]
    exact Iff.rfl
  · rw [if_neg (show ¬ (1 : Int32) = nI sz from fun q => c (nI_inj (a := sz) (b := 1) (by omega) (by decide) q.symm))]
    obtain ⟨T', a1, a2, a3, a4⟩ := q177_1 (plx_2 hm hs hz) hm hs (show 1 < sz by omega) gu hx hX FU 0 T (by omega) (FU_lt (by omega)) mc pl (bs.cg (fun V E => ⟨Or.inl, fun q => q.elim id (fun w => by obtain ⟨e, -, -, h, -⟩ := w; exact absurd h (Nat.not_lt_zero _))⟩))
    refine ⟨T', a1, a2, ?_, a3.cg (fun V E => ?_)⟩
    · rw [show ∀ q, l_X12_plans_k1_130 (nI g) q FU T (nI x) 0 = q T (nI (x + RS f r u 6)) (nI 6) from q130_1 mc gu x FU 0 (Nat.zero_le _) (FU_lt (by omega))]
      exact a4 _
    · rw [show sz - 1 = (sz - 2) + 1 by omega]
      constructor
      · rintro (q | ⟨e, u', x', -, h2, h3⟩)
        · exact Or.inl q
        · exact Or.inr ⟨e, u', x', h2, h3⟩
      · rintro (q | ⟨e, u', x', h2, h3⟩)
        · exact Or.inl q
        · exact Or.inr ⟨e, u', x', h2.d7.1, h2, h3⟩
theorem q19_0 {f g u s sz : Nat} {r c : Nat → Nat} (mc : MC f r c s sz T) (gu : GU f g u) (x : Nat) : ∀ (m i : Nat), i ≤ 6 → 6 - i < m → ∀ q, l_X12_plans_k0_19 (nI g) q m T (nI (x + 8 * RS f r u i)) (nI i) = q T (nI (x + 8 * RS f r u 6)) (nI 6) := by
  intro m
  induction m with
  | zero => intro i _ hm; exact absurd hm (Nat.not_lt_zero _)
  | succ m ih =>
    intro i hi hm q
    by_cases c : i < 6
    · have rr := ih (i + 1) (by omega) (by omega) q
      rw [RS] at rr
      have b1 := (bs_1 ⟨g, gu.1⟩ ⟨i, c⟩).1
      simp only at b1
      rw [l_X12_plans_k0_19, if_pos (ltc_6 c), nI_1]
      by_cases z : tIn g i
      · have z2 := (gu.2.2 i c).mp z
        rw [if_pos z2] at rr
        rw [if_pos (by rw [b1]; exact z), ixT_0 (by omega), fb_s, fv_s, mc.2.2.2 i c z2.1, show (8 : Int32) = nI 8 from rfl, pk_mul, nI_add, show x + 8 * RS f r u i + 8 * r i = x + 8 * (RS f r u i + r i) by omega]; exact rr
      · rw [if_neg (fun y => z ((gu.2.2 i c).mpr y))] at rr
        rw [if_neg (by rw [b1]; exact z), fv_s, Int32.add_zero]; exact rr
    · obtain rfl : i = 6 := by omega
      rw [l_X12_plans_k0_19, if_neg (by decide)]
theorem q97_0 : ∀ (m i : Nat) (T : FS), i ≤ 0 → 0 - i < m → ∃ T' : FS, T'.1 = T.1 ∧ (∀ a : Nat, a ≠ 68 → T'.2 a = T.2 a) ∧ (∀ j : Nat, (j < i → T'.2 68 j = T.2 68 j) ∧ (i ≤ j → j < 0 → T'.2 68 j = T.2 67 j)) ∧ ∀ q, l_X12_plans_k0_97 q m T (nI i) = q T' (nI 0) := by
  intro m
  induction m with
  | zero => intro i T _ hm; exact absurd hm (Nat.not_lt_zero _)
  | succ m ih =>
    intro i T hi hm
    by_cases c : i < 0
    · obtain ⟨T', r1, r2, r3, r4⟩ := ih (i + 1) (wA T 68 i (T.2 67 i)) (by omega) (by omega)
      refine ⟨T', r1, fun a ha => (r2 a ha).trans (wA_n ha), fun j => ⟨fun h => ?_, fun h1 h2 => ?_⟩, fun q => ?_⟩
      · rw [(r3 j).1 (by omega), wA_e, pk_un (by omega)]
      · by_cases z : j = i
        · subst z; rw [(r3 j).1 (by omega), wA_e, pk_us]
        · rw [(r3 j).2 (by omega) h2, wA_n (by decide)]
      · rw [l_X12_plans_k0_97, if_pos (show nI i < 0 from nI_lt (b := 0) c (by decide)), ix_nI (show i < 8 by omega) (by decide), fb_s, fl_s, nI_1]; exact r4 q
    · obtain rfl : i = 0 := by omega
      refine ⟨T, rfl, fun _ _ => rfl, fun j => ⟨fun _ => rfl, fun h1 h2 => absurd h1 (by omega)⟩, fun q => ?_⟩
      rw [l_X12_plans_k0_97, if_neg (by decide)]
theorem q83_0 {V D sz : Nat} {X : Nat → Nat → Prop} (hz : sz = 0) (pl : PL 0 D T) (hb : ∀ T' : FS, T'.1 20 = 1 → T'.1 19 = nI V → (∀ j : Nat, j < sz → T'.2 68 j = nI (D / 7 ^ (sz - 1 - j) % 7) - 1) → BS sz X T') : ∃ T' : FS, EP T T' ∧ (∀ j : Nat, j < 0 → T'.2 67 j = T.2 67 j) ∧ j_X12_plans_k0_83 (nI V) T = some (0, T') ∧ BS sz X T' := by
  unfold j_X12_plans_k0_83
  simp only [fl_s]
  obtain ⟨T', r1, r2, r3, r4⟩ := q97_0 FU 0 (wI (wI T 20 1) 19 (nI V)) (Nat.zero_le _) (FU_lt (by omega))
  have e67 : T'.2 67 = T.2 67 := r2 67 (by decide)
  refine ⟨T', ((EP.wI (Or.inr rfl)).tr (EP.wI (Or.inl rfl))).tr ⟨fun k _ _ => by rw [r1], fun a _ h2 => r2 a h2⟩, fun j _ => by rw [e67], r4 _, hb T' ?_ ?_ (fun j hj => ?_)⟩
  · rw [r1, wI_n (by decide), wI_e]
  · rw [r1, wI_e]
  · subst hz
    rw [(r3 j).2 (Nat.zero_le _) hj]; exact pl j hj
theorem lf_0 {f m0 s sz g u x D : Nat} {r c : Nat → Nat} {X : Nat → Nat → Prop} (hm : m0 < 2 ^ 27) (mc : MC f r c s sz T) (hz : sz = 0) (gu : GU f g u) (hx : x ≤ m0 + 9990 * 0) (pl : PL 0 D T) (bs : BS sz X T) (hX : ∀ V E : Nat, X V E → E < D) : ∃ T' : FS, EP T T' ∧ (∀ j : Nat, j < 0 → T'.2 67 j = T.2 67 j) ∧ l_X12_plans_k0_19 (nI g) (fun S28 x28_4 x28_5 => if (S28.1 20) = 0 then (j_X12_plans_k0_83 x28_4 S28) else (if (S28.1 19) < x28_4 then (j_X12_plans_k0_83 x28_4 S28) else (some (0, S28)))) FU T (nI x) 0 = some (0, T') ∧ BS sz (fun V E => X V E ∨ (V = x + 8 * RS f r u 6 ∧ E = D)) T' := by
  have l := RS_le (s := u) mc.2.2.1 6 (Nat.le_refl _)
  obtain ⟨y1, y2⟩ := bs.leaf (V := x + 8 * RS f r u 6) (D := D) (by omega) hX
  rw [show ∀ q, l_X12_plans_k0_19 (nI g) q FU T (nI x) 0 = q T (nI (x + 8 * RS f r u 6)) (nI 6) from q19_0 mc gu x FU 0 (Nat.zero_le _) (FU_lt (by omega))]
  by_cases z0 : T.1 20 = 0
  · rw [if_pos z0]; exact q83_0 hz pl (y1 (Or.inl z0))
  · rw [if_neg z0]
    by_cases z1 : T.1 19 < nI (x + 8 * RS f r u 6)
    · rw [if_pos z1]; exact q83_0 hz pl (y1 (Or.inr ⟨z0, z1⟩))
    · rw [if_neg z1]
      exact ⟨T, EP.rf, fun _ _ => rfl, rfl, y2 (fun q => q.elim z0 (fun w => z1 w.2))⟩
theorem q130_0 {f g u s sz : Nat} {r c : Nat → Nat} (mc : MC f r c s sz T) (gu : GU f g u) (x : Nat) : ∀ (m i : Nat), i ≤ 6 → 6 - i < m → ∀ q, l_X12_plans_k0_130 (nI g) q m T (nI (x + RS f r u i)) (nI i) = q T (nI (x + RS f r u 6)) (nI 6) := by
  intro m
  induction m with
  | zero => intro i _ hm; exact absurd hm (Nat.not_lt_zero _)
  | succ m ih =>
    intro i hi hm q
    by_cases c : i < 6
    · have rr := ih (i + 1) (by omega) (by omega) q
      rw [RS] at rr
      have b1 := (bs_1 ⟨g, gu.1⟩ ⟨i, c⟩).1
      simp only at b1
      rw [l_X12_plans_k0_130, if_pos (ltc_6 c), nI_1]
      by_cases z : tIn g i
      · have z2 := (gu.2.2 i c).mp z
        rw [if_pos z2] at rr
        rw [if_pos (by rw [b1]; exact z), ixT_0 (by omega), fb_s, fv_s, mc.2.2.2 i c z2.1, nI_add, Nat.add_assoc]; exact rr
      · rw [if_neg (fun y => z ((gu.2.2 i c).mpr y))] at rr
        rw [if_neg (by rw [b1]; exact z), fv_s, Int32.add_zero]; exact rr
    · obtain rfl : i = 6 := by omega
      rw [l_X12_plans_k0_130, if_neg (by decide)]
theorem q177_0 {f m0 s sz g u x D : Nat} {r c : Nat → Nat} {X : Nat → Nat → Prop} (hn : PLs f r c m0 s sz 1 f_X12_plans_k1) (hm : m0 < 2 ^ 27) (hs : s < 4) (hz : 0 < sz) (gu : GU f g u) (hx : x ≤ m0 + 9990 * 0) (hX : ∀ V E : Nat, X V E → E < D * 7 ^ (sz - 0)) : ∀ (m i : Nat) (T : FS), i ≤ 7 → 7 - i < m → MC f r c s sz T → PL 0 D T → BS sz (Xi f r c sz 0 u x D X i) T → ∃ T' : FS, EP T T' ∧ (∀ j : Nat, j < 0 → T'.2 67 j = T.2 67 j) ∧ BS sz (Xi f r c sz 0 u x D X 7) T' ∧ ∀ q, l_X12_plans_k0_177 (nI g) (nI (x + RS f r u 6)) q m T (nI i - 1) = q T' (nI 6) := by
  intro m
  induction m with
  | zero => intro i T _ hm; exact absurd hm (Nat.not_lt_zero _)
  | succ m ih =>
    intro i T hi hf mc pl bs
    have jx : ix 96 ((24 : Int32) * T.1 18 + 0) = some (24 * s + 0) := by rw [mc.1.1]; exact ix96 (i := 0) hs (by decide)
    obtain ⟨cj, c9⟩ := mc.2.1 0 hz
    have l := RS_le (s := u) mc.2.2.1 6 (Nat.le_refl _)
    have nx : ∀ (T1 : FS), i < 7 → EP T T1 → (∀ j : Nat, j < 0 → T1.2 67 j = T.2 67 j) → BS sz (Xi f r c sz 0 u x D X (i + 1)) T1 → ∃ T' : FS, EP T T' ∧ (∀ j : Nat, j < 0 → T'.2 67 j = T.2 67 j) ∧ BS sz (Xi f r c sz 0 u x D X 7) T' ∧ ∀ q, l_X12_plans_k0_177 (nI g) (nI (x + RS f r u 6)) q m T1 (nI (i + 1) - 1) = q T' (nI 6) := fun T1 hi7 e1 e2 b => by
      obtain ⟨T', r1, r2, r3, r4⟩ := ih (i + 1) T1 (by omega) (by omega) (mc.ep e1) (pl.ep e2) b
      exact ⟨T', e1.tr r1, fun j hj => (r2 j hj).trans (e2 j hj), r3, r4⟩
    have none : i < 7 → (∀ u' x' : Nat, ¬ stq f r (c 0) u x i u' x') → ∃ T' : FS, EP T T' ∧ (∀ j : Nat, j < 0 → T'.2 67 j = T.2 67 j) ∧ BS sz (Xi f r c sz 0 u x D X 7) T' ∧ ∀ q, l_X12_plans_k0_177 (nI g) (nI (x + RS f r u 6)) q m T (nI (i + 1) - 1) = q T' (nI 6) := fun hi7 h => nx T hi7 EP.rf (fun _ _ => rfl) (bs.cg (Xi_no h))
    cases i with
    | zero =>
      have st : ∀ q, l_X12_plans_k0_177 (nI g) (nI (x + RS f r u 6)) q (m + 1) T (nI 0 - 1) = _ := fun q => by
        rw [l_X12_plans_k0_177, if_pos (by decide), if_pos (by decide), jx, fb_s, fv_s, show (nI 0 - 1 + 1 : Int32) = nI (0 + 1) - 1 from by decide, cj]
      obtain ⟨m1', m2⟩ := mleft (h := x + RS f r u 6) (c := c 0) (p := 0) (by omega) (by omega) (by decide)
      have m1 : nI (x + RS f r u 6) - nI (c 0) + 0 < 0 ↔ x + RS f r u 6 + 0 < c 0 := m1'
      by_cases z : c 0 ≤ x + RS f r u 6
      · have sp : stq f r (c 0) u x 0 u (x + RS f r u 6 - c 0) := Or.inl ⟨rfl, rfl, by omega⟩
        obtain ⟨T1, k1, k2, k3, k4⟩ := kid_x hn sp gu mc hz hx gu.2.1 pl bs hX
        obtain ⟨T', r1, r2, r3, r4⟩ := nx T1 (by decide) k1 k2 k4
        refine ⟨T', r1, r2, r3, fun q => ?_⟩
        rw [st, if_neg (fun w => by have := m1.mp w; omega), show nI (x + RS f r u 6) - nI (c 0) + 0 = nI (x + RS f r u 6 - c 0) from m2 (by omega), fl_s, k3, fb_s]
        exact r4 q
      · obtain ⟨T', r1, r2, r3, r4⟩ := none (by decide) (fun u' x' w => by
          rcases w with ⟨-, -, w⟩ | ⟨t, -, w, -⟩
          · omega
          · omega)
        refine ⟨T', r1, r2, r3, fun q => ?_⟩
        rw [st, if_pos (m1.mpr (by omega))]; exact r4 q
    | succ t =>
      by_cases c6 : t < 6
      · have lt : nI t < 6 := ltc_6 c6
        have b1 := (bs_1 ⟨g, gu.1⟩ ⟨t, c6⟩).2
        have b2 := bs_2 ⟨g, gu.1⟩ ⟨t, c6⟩
        simp only at b1 b2
        have st : ∀ q, l_X12_plans_k0_177 (nI g) (nI (x + RS f r u 6)) q (m + 1) T (nI (t + 1) - 1) = _ := fun q => by
          rw [l_X12_plans_k0_177, nI_pred, if_pos lt, if_neg (nI_pos (show t < 2 ^ 31 by omega)), jx, ixT_0 (show t < 10 by omega), fb_s, fb_s, fv_s, nI_1, ← nI_pred (t + 1), cj]
        by_cases b : tIn g t
        · obtain ⟨g1, g2⟩ := (gu.2.2 t c6).mp b
          have r9 := mc.2.2.1 t c6 g1
          have er := mc.2.2.2 t c6 g1
          obtain ⟨m1, m2⟩ := mleft (h := x + RS f r u 6) (c := c 0) (p := 4 * r t) (by omega) (by omega) (by omega)
          have e4 : nI (x + RS f r u 6) - nI (c 0) + 4 * T.2 55 (3 * t + 20) = nI (x + RS f r u 6) - nI (c 0) + nI (4 * r t) := by rw [er, show (4 : Int32) = nI 4 from rfl, pk_mul]
          by_cases z : c 0 ≤ x + RS f r u 6 + 4 * r t
          · have sp : stq f r (c 0) u x (t + 1) (u + 2 ^ t) (x + RS f r u 6 + 4 * r t - c 0) := Or.inr ⟨t, c6, rfl, g1, g2, rfl, by omega⟩
            obtain ⟨T1, k1, k2, k3, k4⟩ := kid_x hn sp (gu.kid c6 b) mc hz hx gu.2.1 pl bs hX
            obtain ⟨T', r1, r2, r3, r4⟩ := nx T1 (by omega) k1 k2 k4
            refine ⟨T', r1, r2, r3, fun q => ?_⟩
            rw [nI_pred] at k3
            rw [st, if_neg (by rw [b1]; exact fun w => w b), e4, if_neg (fun w => by have := m1.mp w; omega), m2 z, b2, if_pos b, fl_s, k3, fb_s]
            exact r4 q
          · obtain ⟨T', r1, r2, r3, r4⟩ := none (by omega) (fun u' x' w => by
              rcases w with ⟨w, -⟩ | ⟨v, -, w, -, -, -, w2⟩
              · omega
              · obtain rfl : v = t := by omega
                omega)
            refine ⟨T', r1, r2, r3, fun q => ?_⟩
            rw [st, if_neg (by rw [b1]; exact fun w => w b), e4, if_pos (m1.mpr (by omega))]; exact r4 q
        · obtain ⟨T', r1, r2, r3, r4⟩ := none (by omega) (fun u' x' w => by
            rcases w with ⟨w, -⟩ | ⟨v, -, w, w1, w2, -, -⟩
            · omega
            · obtain rfl : v = t := by omega
              exact b ((gu.2.2 v c6).mpr ⟨w1, w2⟩))
          refine ⟨T', r1, r2, r3, fun q => ?_⟩
          rw [st, if_pos (by rw [b1]; exact b)]; exact r4 q
      · obtain rfl : t = 6 := by omega
        refine ⟨T, EP.rf, fun _ _ => rfl, bs, fun q => ?_⟩
        rw [l_X12_plans_k0_177, nI_pred, if_neg (by decide)]
theorem plx_0 {f m0 s sz : Nat} {r c : Nat → Nat} (hm : m0 < 2 ^ 27) (hs : s < 4) (hz : sz ≤ 8) : PLs f r c m0 s sz 0 f_X12_plans_k0 := by
  intro T g u x D X mc ks gu hx pl bs hX
  unfold f_X12_plans_k0
  rw [mc.1.1, ix_nI hs (by decide), fb_s, mc.1.2]
  by_cases c : sz = 0
  · rw [if_pos (show (0 : Int32) = nI sz by rw [c]; rfl)]
    obtain ⟨T', a1, a2, a3, a4⟩ := lf_0 hm mc c gu hx pl bs (fun V E q => by have := hX V E q; rw [show sz - 0 = 0 by omega, Nat.pow_zero] at this; omega)
    refine ⟨T', a1, a2, a3, a4.cg (fun V E => ?_)⟩
    rw [show sz - 0 = 0 by omega]
    exact Iff.rfl
  · rw [if_neg (show ¬ (0 : Int32) = nI sz from fun q => c (nI_inj (a := sz) (b := 0) (by omega) (by decide) q.symm))]
    obtain ⟨T', a1, a2, a3, a4⟩ := q177_0 (plx_1 hm hs hz) hm hs (show 0 < sz by omega) gu hx hX FU 0 T (by omega) (FU_lt (by omega)) mc pl (bs.cg (fun V E => ⟨Or.inl, fun q => q.elim id (fun w => by obtain ⟨e, -, -, h, -⟩ := w; exact absurd h (Nat.not_lt_zero _))⟩))
    refine ⟨T', a1, a2, ?_, a3.cg (fun V E => ?_)⟩
    · rw [show ∀ q, l_X12_plans_k0_130 (nI g) q FU T (nI x) 0 = q T (nI (x + RS f r u 6)) (nI 6) from q130_0 mc gu x FU 0 (Nat.zero_le _) (FU_lt (by omega))]
      exact a4 _
    · rw [show sz - 0 = (sz - 1) + 1 by omega]
      constructor
      · rintro (q | ⟨e, u', x', -, h2, h3⟩)
        · exact Or.inl q
        · exact Or.inr ⟨e, u', x', h2, h3⟩
      · rintro (q | ⟨e, u', x', h2, h3⟩)
        · exact Or.inl q
        · exact Or.inr ⟨e, u', x', h2.d7.1, h2, h3⟩
/-! the call -/
theorem Fr_end {n : Nat → Int32} {i : Nat} (h : K 0 ≤ i) : ∀ d : Nat, Fr K n (i + d) = Fr K n i
  | 0 => rfl
  | d + 1 => by
    rw [← Nat.add_assoc, Fr, if_neg (fun q => by have := q.1; omega)]; exact Fr_end h d
theorem p133_x (h : RelR K S (T.2 55)) : ∀ (m i : Nat), i ≤ 6 → 6 - i < m → ∃ y : Int32, ∀ k, l_X12_plan_133 k m T (nI (Fr K (T.2 55) i)) (nI i) = k T (nI (Fr K (T.2 55) 6)) y := by
  obtain ⟨k1, k2, c0⟩ := h.ct 2 0 10 (by decide)
  intro m
  induction m with
  | zero => intro i _ hm; exact absurd hm (Nat.not_lt_zero _)
  | succ m ih =>
    intro i hi hm
    by_cases c : i < 6
    · have lt : nI i < 6 := ltc_6 c
      by_cases a : i < K 0
      · obtain ⟨y, r⟩ := ih (i + 1) (by omega) (by omega)
        rw [Fr] at r
        have la : nI i < T.2 55 0 := by rw [k2]; exact nI_lt a (by omega)
        by_cases b : T.2 55 (3 * i + 21) = -1
        · by_cases d : T.2 55 (3 * i + 22) = 0
          · rw [if_pos ⟨a, b, d⟩] at r
            refine ⟨y, fun k => ?_⟩
            rw [l_X12_plan_133, if_pos lt, if_pos la, ixT_1 (by omega), fb_s, if_pos b, ixT_2 (by omega), fb_s, if_pos d, fv_s, fr_or c, nI_1]; exact r k
          · rw [if_neg (fun q => d q.2.2)] at r
            refine ⟨y, fun k => ?_⟩
            rw [l_X12_plan_133, if_pos lt, if_pos la, ixT_1 (by omega), fb_s, if_pos b, ixT_2 (by omega), fb_s, if_neg d, fv_s, or_0, nI_1]; exact r k
        · rw [if_neg (fun q => b q.2.1)] at r
          refine ⟨y, fun k => ?_⟩
          rw [l_X12_plan_133, if_pos lt, if_pos la, ixT_1 (by omega), fb_s, if_neg b, fv_s, or_0, nI_1]; exact r k
      · refine ⟨nI i, fun k => ?_⟩
        have e := Fr_end (K := K) (n := T.2 55) (i := i) (by omega) (6 - i)
        rw [show i + (6 - i) = 6 by omega] at e
        rw [l_X12_plan_133, if_pos lt, if_neg (by rw [k2]; exact nI_nlt (by omega) (by omega)), e]
    · obtain rfl : i = 6 := by omega
      refine ⟨nI 6, fun k => ?_⟩
      rw [l_X12_plan_133, if_neg (by decide)]
theorem p68_x {s sz : Nat} (hs : s < 4) (hz : sz ≤ 24) (ez : T.2 71 s = nI sz) : ∀ (m i : Nat) (b : Bool), i ≤ sz → sz - i < m → ∃ b' : Bool, (b' = true ↔ (b = true ∧ ∀ j : Nat, i ≤ j → j < sz → fOut (T.2 72 (24 * s + j)) 0 9999 = 0)) ∧ ∀ k, l_X12_plan_68 (nI s) k m T (if b = true then 1 else 0) (nI i) = k T (if b' = true then 1 else 0) (nI sz) := by
  intro m
  induction m with
  | zero => intro i b _ hm; exact absurd hm (Nat.not_lt_zero _)
  | succ m ih =>
    intro i b hi hm
    have e4 := ix_nI hs (show 4 ≤ 2 ^ 31 by decide)
    by_cases c : i < sz
    · obtain ⟨b0, p1, p2⟩ := ih (i + 1) false (by omega) (by omega)
      obtain ⟨b1, q1, q2⟩ := ih (i + 1) true (by omega) (by omega)
      have b0f : b0 = false := by
        cases b0 with
        | false => rfl
        | true => exact absurd (p1.mp rfl).1 (by decide)
      subst b0f
      cases b with
      | false =>
        refine ⟨false, ⟨fun q => absurd q (by decide), fun q => absurd q.1 (by decide)⟩, fun k => ?_⟩
        rw [l_X12_plan_68, e4, fb_s, ez, if_pos (nI_lt c (by omega)), if_pos (show (if false = true then (1 : Int32) else 0) = 0 from rfl), nI_1]; exact p2 k
      | true =>
        rcases out_c (T.2 72 (24 * s + i)) 0 9999 with ⟨o1, o2⟩ | ⟨o1, o2⟩
        · refine ⟨b1, ?_, fun k => ?_⟩
          · rw [q1]
            refine ⟨fun q => ⟨rfl, fun j h1 h2 => ?_⟩, fun q => ⟨rfl, fun j h1 h2 => q.2 j (by omega) h2⟩⟩
            by_cases z : j = i
            · subst z; exact o1
            · exact q.2 j (by omega) h2
          · rw [l_X12_plan_68, e4, fb_s, ez, if_pos (nI_lt c (by omega)), if_neg (by decide), ix96 hs (show i < 24 by omega), fb_s, if_neg (by rw [o2]; decide), nI_1]; exact q2 k
        · refine ⟨false, ⟨fun q => absurd q (by decide), fun q => ?_⟩, fun k => ?_⟩
          · have := q.2 i (Nat.le_refl _) c; rw [o1] at this; exact absurd this (by decide)
          · rw [l_X12_plan_68, e4, fb_s, ez, if_pos (nI_lt c (by omega)), if_neg (by decide), ix96 hs (show i < 24 by omega), fb_s, if_pos (o2 T), nI_1]; exact p2 k
    · obtain rfl : i = sz := by omega
      refine ⟨b, ⟨fun q => ⟨q, fun j h1 h2 => absurd h1 (by omega)⟩, fun q => q.1⟩, fun k => ?_⟩
      rw [l_X12_plan_68, e4, fb_s, ez, if_neg (nI_nlt (Nat.le_refl _) (by omega))]
theorem aaw_x {s sz : Nat} (hs : s < 4) (hz : sz ≤ 24) (hn : ∀ j : Nat, j < 96 → S.2 52 j = T.2 72 j) : ∀ (m i : Nat), i ≤ sz → sz - i < m → ∃ b : Bool, (b = true ↔ ∀ j : Nat, i ≤ j → j < sz → fOut (T.2 72 (24 * s + j)) 0 9999 = 0) ∧ l_X8_areAllWithin_10 (nI s) 0 9999 S (nI sz) (fun _ => some 1) m (nI i) = some (if b = true then 1 else 0) := by
  intro m
  induction m with
  | zero => intro i _ hm; exact absurd hm (Nat.not_lt_zero _)
  | succ m ih =>
    intro i hi hm
    rw [l_X8_areAllWithin_10]
    by_cases c : i < sz
    · have en : p_X8_numberAt S (nI s) (nI i) = T.2 72 (24 * s + i) := by
        unfold p_X8_numberAt; rw [g51 hs (show i < 24 by omega)]; exact hn _ (by omega)
      rw [if_pos (nI_lt c (by omega)), nI_1, en]
      by_cases o : fOut (T.2 72 (24 * s + i)) 0 9999 = 0
      · obtain ⟨b, q1, q2⟩ := ih (i + 1) (by omega) (by omega)
        refine ⟨b, ?_, by rw [if_pos o]; exact q2⟩
        rw [q1]
        refine ⟨fun q j h1 h2 => ?_, fun q j h1 h2 => q j (by omega) h2⟩
        by_cases z : j = i
        · subst z; exact o
        · exact q j (by omega) h2
      · exact ⟨false, ⟨fun q => absurd q (by decide), fun q => absurd (q i (Nat.le_refl _) c) o⟩, by rw [if_neg o]; rfl⟩
    · obtain rfl : i = sz := by omega
      refine ⟨true, ⟨fun _ j h1 h2 => absurd h1 (by omega), fun _ => rfl⟩, ?_⟩
      rw [if_neg (nI_nlt (Nat.le_refl _) (by omega))]; rfl
theorem in_o {x a b : Int32} : (fOut x a b = 0 ∧ ∀ T : FS, p_X12_in T x a b = 1) ∨ (fOut x a b = 1 ∧ ∀ T : FS, p_X12_in T x a b = 0) := out_c x a b
/-- where the sheet is good: both sides' plans -/
theorem planG (h : RelR K S (T.2 55)) (hx : RX S T) {s sz m0 : Nat} (hs : s < 4) (hz1 : 1 ≤ sz) (hz : sz ≤ 8) (ez : T.2 71 s = nI sz) (h0 : T.2 55 9 = nI m0) (hm : m0 < 2 ^ 27) (hin : ∀ j : Nat, j < sz → fOut (T.2 72 (24 * s + j)) 0 9999 = 0) : ∃ (S' T' : FS) (v : Int32) (y : Int32), EQP S S' ∧ EPP T T' ∧ (∀ q : Int32 × FS → Option (Int32 × FS), (fb (f_X5_begin S) (fun r17 => l_X11_plan_98 (nI s) (nI sz) (fun S22 x22_4 => fb (f_X5_findBest S22) (fun r24 => q r24)) FU r17.2 0)) = q (v, S')) ∧ (∀ q : Int32 × FS → Option (Int32 × FS), l_X12_plan_133 (fun S23 x23_4 x23_5 => fl (wI S23 18 (nI s)) (fun S24 => fl (wI S24 20 0) (fun S25 => fb (f_X12_plans_k0 S25 x23_4 (S25.2 55 9)) (fun r27 => q r27)))) FU T 0 0 = q (y, T')) ∧ ((v = 0 ∧ T'.1 20 = 0) ∨ (v = 1 ∧ T'.1 20 = 1 ∧ S'.1 113 = T'.1 19 ∧ ∃ E : Nat, S'.1 114 = nI E ∧ E < 2 ^ 29 ∧ ∀ j : Nat, j < sz → T'.2 68 j = nI (E / 7 ^ (sz - 1 - j) % 7) - 1)) := by
  have cc : ∀ j : Nat, j < sz → T.2 72 (24 * s + j) = nI (T.2 72 (24 * s + j)).toBitVec.toNat ∧ (T.2 72 (24 * s + j)).toBitVec.toNat ≤ 9999 := fun j hj => by
    obtain ⟨k, hk, ek⟩ := out_n 0 9999 rfl rfl (by decide) (by decide) (hin j hj)
    refine ⟨(nI_tn _).symm, ?_⟩
    rw [ek, pk_tn (by omega)]; exact hk.2
  have s0 : S.1 103 = nI m0 := h.1.2.trans h0
  -- the class
  obtain ⟨S1, a1, a2, a3, a4⟩ := bg_x h (c := fun j => (T.2 72 (24 * s + j)).toBitVec.toNat) s0 hm
  obtain ⟨S2, b1, b2, b3, b4⟩ := pl98_x hm hs hz (fun j hj => (cc j hj).2) FU 0 S1 (Nat.zero_le _) (FU_lt (by omega)) a3 a4 (fun j hj => by
    rw [a1.2 52 (by decide) (by decide) (by decide), hx.2.1 _ (by omega)]; exact (cc j hj).1)
  obtain ⟨S3, v, d1, d2, d3⟩ := fb_x (X := Rc (Fr K (T.2 55) 6) (rn2 (T.2 55)) (fun j => (T.2 72 (24 * s + j)).toBitVec.toNat) m0 sz) FU 0 S2 0 (Nat.zero_le _) (FU_lt (by omega)) b2 b3 (Or.inl ⟨rfl, fun V E q => by obtain ⟨s, x, h, -⟩ := q; exact absurd h (Nat.not_lt_zero _)⟩)
  have d4 := Yb_all b2.2.2.2.1 (fun s hs => ⟨_, _, b3 s hs⟩) d2
  have v01 : bz v = some v := by
    rcases d4 with ⟨rfl, -⟩ | ⟨rfl, -⟩ <;> rfl
  have fbt : f_X5_findBest S2 = some (v, S3) := by
    unfold f_X5_findBest
    refine (d3 _).trans ?_
    show fb (bz v) _ = _
    rw [v01, fb_s]
  -- the model
  obtain ⟨y, e1⟩ := p133_x h FU 0 (Nat.zero_le _) (FU_lt (by omega))
  obtain ⟨ro, rr⟩ := h.ro
  have f64 : Fr K (T.2 55) 6 < 64 := Fr_lt 6
  have gu : GU (Fr K (T.2 55) 6) (Fr K (T.2 55) 6) 0 := ⟨f64, by decide, fun t ht => ⟨fun q => ⟨q, (show ∀ t : Fin 6, ¬ tIn 0 t.val by decide +kernel) ⟨t, ht⟩⟩, fun q => q.1⟩⟩
  obtain ⟨T1, g1, g2, g3, g4⟩ := plx_0 hm hs hz (r := rn2 (T.2 55)) (c := fun j => (T.2 72 (24 * s + j)).toBitVec.toNat) (wI (wI T 18 (nI s)) 20 0) (Fr K (T.2 55) 6) 0 m0 0 (fun _ _ => False) ⟨⟨by rw [wI_n (by decide), wI_e], ez⟩, cc, ro, fun t ht q => (rr t ht q).2⟩ (Nat.zero_le _) gu (by omega) (fun j hj => absurd hj (Nat.not_lt_zero _)) (Or.inl ⟨wI_e, fun _ _ z => z⟩) (fun V E z => absurd z id)
  refine ⟨S3, T1, v, 0, (a1.tr b1).tr d1, ⟨fun k k1 k2 k3 => by rw [g1.1 k k2 k3, wI_n k3, wI_n k1], g1.2⟩, fun q => ?_, fun q => ?_, ?_⟩
  · rw [a2, fb_s]
    refine (b4 _).trans ?_
    show fb (f_X5_findBest S2) _ = _
    rw [fbt, fb_s]
  · refine (e1 _).trans ?_
    rw [fl_s, fl_s]
    show fb (f_X12_plans_k0 (wI (wI T 18 (nI s)) 20 0) (nI (Fr K (T.2 55) 6)) (T.2 55 9)) _ = _
    rw [h0, g3, fb_s]
  · have same : ∀ V E : Nat, Ya (Fr K (T.2 55) 6) (rn2 (T.2 55)) (fun j => (T.2 72 (24 * s + j)).toBitVec.toNat) m0 sz V E ↔ (False ∨ Ex (Fr K (T.2 55) 6) (rn2 (T.2 55)) (fun j => (T.2 72 (24 * s + j)).toBitVec.toNat) (sz - 0) 0 0 m0 0 V E) := fun V E => by
      rw [show sz - 0 = sz by omega, Ya_x]
      exact ⟨Or.inr, fun q => q.resolve_left id⟩
    rcases d4 with ⟨rfl, o2⟩ | ⟨rfl, V, E, o1, o2, o3, o4, o5⟩
    · rcases g4 with ⟨w1, -⟩ | ⟨w1, V', E', -, w3, -⟩
      · exact Or.inl ⟨rfl, w1⟩
      · exact absurd ((same V' E').mpr w3.1) (o2 V' E')
    · rcases g4 with ⟨w1, w2⟩ | ⟨w1, V', E', w2, w3, w4, w5⟩
      · exact absurd ((same V E).mp o3.1) (w2 V E)
      · obtain ⟨rfl, rfl⟩ := o3.uq w3 same
        exact Or.inr ⟨rfl, w1, o1.trans w2.symm, E, o2, o5, w5⟩
theorem op_planE0 (h : RelR K S (T.2 55)) (hx : RX S T) {m0 : Nat} (h0 : T.2 55 9 = nI m0) (hm : m0 < 2 ^ 27) : OK2 S T (f_X11_plan S za zb) (f_X12_plan T za zb) := by
  have bey : OK2 S T (f_X11_told S (-1000001)) (f_X12_finds T 1) := ok_1 h
  unfold f_X11_plan f_X12_plan j_X12_plan_65 q_X8_isMissing q_X8_areAllWithin
  simp only [fb_id]
  rcases sh_c S T za with ⟨a1, a2⟩ | ⟨s, hs, rfl, a1, a2, a3, a4, a5⟩
  · rw [if_pos a1, if_pos a2]; exact bey
  · obtain ⟨⟨y1, y2⟩, ⟨sz, y3, y4⟩, y5⟩ := hx.1 s hs
    rw [y2, y4] at a5
    rw [if_neg (show ¬ p_X8_has S (nI s) = 0 by rw [a1]; decide), a4, fb_s, if_neg (show ¬ p_X12_isSheet T (nI s) = 0 by rw [a2]; decide), a3, fb_s, y4, y1]
    by_cases c0 : T.2 70 s = 0
    · rw [if_pos c0, if_pos c0, fb_s, if_neg (by decide)]; exact ok_2 h
    · rw [if_neg c0, if_neg c0, fb_s, if_pos rfl, a5, fb_s]
      -- where something is not good the model's look ends so
      have bad : ∀ q : FS → Int32 → Int32 → Option (Int32 × FS), l_X12_plan_68 (nI s) (fun S11 x11_3 x11_4 => if x11_3 = 0 then f_X12_finds S11 1 else q S11 x11_3 x11_4) FU T 0 0 = f_X12_finds T 1 := fun q => by
        obtain ⟨b', p1, p2⟩ := p68_x hs (show sz ≤ 24 by omega) y4 FU 0 false (Nat.zero_le _) (FU_lt (by omega))
        have bf : b' = false := by
          cases b' with
          | false => rfl
          | true => exact absurd (p1.mp rfl).1 (by decide)
        subst bf
        refine (p2 _).trans ?_
        rw [if_pos (show (if false = true then (1 : Int32) else 0) = 0 from rfl)]
      rcases in_o (x := nI sz) (a := 1) (b := 8) with ⟨o1, o2⟩ | ⟨o1, o2⟩
      · obtain ⟨k, hk, ek⟩ := out_n 1 8 rfl rfl (by decide) (by decide) o1
        obtain rfl : sz = k := nI_inj (by omega) (by omega) ek
        rw [if_pos o1, fb_s, if_neg (show ¬ p_X12_in T (nI sz) 1 8 = 0 by rw [o2]; decide)]
        obtain ⟨b, w1, w2⟩ := aaw_x (T := T) (S := S) hs (show sz ≤ 24 by omega) hx.2.1 FU 0 (Nat.zero_le _) (FU_lt (by omega))
        obtain ⟨b', p1, p2⟩ := p68_x (T := T) hs (show sz ≤ 24 by omega) y4 FU 0 true (Nat.zero_le _) (FU_lt (by omega))
        have bb : b' = b := by
          cases b' with
          | true => exact (w1.mpr (p1.mp rfl).2).symm
          | false =>
            cases b with
            | false => rfl
            | true => exact p1.mpr ⟨rfl, w1.mp rfl⟩
        rw [show l_X8_areAllWithin_10 (nI s) 0 9999 S (nI sz) (fun x6_5 => some 1) FU 0 = some (if b = true then 1 else 0) from w2, fb_s]
        rcases in_o (x := zb) (a := -1) (b := nI sz - 1) with ⟨i1, i2⟩ | ⟨i1, i2⟩
        · rw [if_neg (show ¬ p_X12_in T zb (-1) (nI sz - 1) = 0 by rw [i2]; decide), if_pos i1]
          subst bb
          cases b' with
          | false =>
            rw [if_pos (show (if false = true then (1 : Int32) else 0) = 0 from rfl)]
            rw [show ∀ q, l_X12_plan_68 (nI s) q FU T 1 0 = q T 0 (nI sz) from p2, if_pos rfl]; exact bey
          | true =>
            obtain ⟨S', T', v, y, e1, e2, e3, e4, e5⟩ := planG h hx hs hk.1 (show sz ≤ 8 by omega) y4 h0 hm (fun j hj => (w1.mp rfl) j (Nat.zero_le _) hj)
            rw [if_neg (show ¬ (if true = true then (1 : Int32) else 0) = 0 by decide)]
            rw [show ∀ q, l_X12_plan_68 (nI s) q FU T 1 0 = q T 1 (nI sz) from p2, if_neg (show ¬ (1 : Int32) = 0 by decide)]
            rw [e3, e4]
            have h1 : RelR K S' (T'.2 55) := by rw [e2.me.2]; exact h.ce e1.ce
            have fin : ∀ x : Int32, OK2 S T (some (x, S')) (some (x, T')) := fun x => ok0 h1 e1.ce.1 e2.me.1
            rcases e5 with ⟨rfl, f2⟩ | ⟨rfl, f2, f3, E, f4, f5, f6⟩
            · rw [if_pos rfl, if_pos f2]
              exact okf h1 e1.ce.1 e2.me.1 (finds_3 T')
            · rw [if_neg (show ¬ (1 : Int32) = 0 by decide), if_neg (show ¬ T'.1 20 = 0 by rw [f2]; decide)]
              by_cases z : zb < 0
              · rw [if_pos z, if_pos z]
                show OK2 S T (some (S'.1 113, S')) (some (T'.1 19, T'))
                rw [f3]; exact fin _
              · rw [if_neg z, if_neg z]
                obtain ⟨a, ha, rfl⟩ := nI_of z
                obtain ⟨n, rfl⟩ : ∃ n : Nat, sz = n + 1 := ⟨sz - 1, by omega⟩
                have a8 : a ≤ n := by
                  have q : ¬ nI (n + 1) - 1 < nI a := fun z2 => by unfold fOut at i1; rw [if_pos (Or.inr z2)] at i1; exact absurd i1 (by decide)
                  rw [nI_pred] at q
                  apply Classical.byContradiction
                  intro q2; exact q (nI_lt (by omega) (by omega))
                have pi : q_X5_pledgedIn S' (nI a) (nI (n + 1)) = some (nI (E / 7 ^ (n - a) % 7) - 1) := by
                  unfold q_X5_pledgedIn
                  rw [fv_s, fv_s, nI_pred, f4]
                  exact pin_x a8 (by omega) FU n E a8 (Nat.le_refl _) (FU_lt (by omega)) f5
                show OK2 S T (fb (q_X5_pledgedIn S' (nI a) (nI (n + 1))) (fun x28 => some (x28, S'))) (fb (ix 8 (nI a)) (fun j30 => some (T'.2 68 j30, T')))
                rw [pi, fb_s, ix_nI (show a < 8 by omega) (by decide), fb_s, f6 a (by omega), show n + 1 - 1 - a = n - a by omega]
                exact fin _
        · rw [if_pos (show p_X12_in T zb (-1) (nI sz - 1) = 0 from i2 T), if_neg (show ¬ fOut zb (-1) (nI sz - 1) = 0 by rw [i1]; decide), bad]
          cases b with
          | false => rw [if_pos (show (if false = true then (1 : Int32) else 0) = 0 from rfl)]; exact bey
          | true => rw [if_neg (show ¬ (if true = true then (1 : Int32) else 0) = 0 by decide)]; exact bey
      · rw [if_neg (show ¬ fOut (nI sz) 1 8 = 0 by rw [o1]; decide), if_pos (show p_X12_in T (nI sz) 1 8 = 0 from o2 T), bad]; exact bey
theorem op_planE (h : RelR K S (T.2 55)) (hx : RX S T) : OK2 S T (f_X11_plan S za zb) (f_X12_plan T za zb) := by
  have b := (h.mo.b (h.ct 16 6 6 (by decide)).2.2 (h.ct 102 8 2000 (by decide)).2.2).1
  exact op_planE0 h hx (m0 := tn (T.2 55 9)) (tn_e _).symm (by omega)
end PLX
