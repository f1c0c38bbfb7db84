/-! ===== ways: the class's table of ways and the model's roads ===== -/
def nv (n : Nat → Int32) (j : Nat) : Nat := (n j).toNatClampNeg
def tv (T : Nat → Int32) (i j : Nat) : Nat := (T (i * 10 + j)).toNatClampNeg
def WV (T : Nat → Int32) : Prop := ∀ k : Nat, k < 100 → ∃ v : Nat, v ≤ 1000 ∧ T k = nI v
theorem WV.at {T : Nat → Int32} (h : WV T) {i j : Nat} (hi : i < 10) (hj : j < 10) : T (i * 10 + j) = nI (tv T i j) ∧ tv T i j ≤ 1000 := by
  obtain ⟨v, hv, e⟩ := h (i * 10 + j) (by omega)
  have e2 : tv T i j = v := by
    unfold tv; rw [e]; exact nI_clamp (by omega)
  rw [e2]; exact ⟨e, hv⟩
/-- a distance that no road breaks -/
def FE (n : Nat → Int32) (m : Nat) (D : Nat → Nat) : Prop := ∀ r : Nat, r < m → D (nv n (3 * r + 50)) ≤ D (nv n (3 * r + 51)) + nv n (3 * r + 52) ∧ D (nv n (3 * r + 51)) ≤ D (nv n (3 * r + 50)) + nv n (3 * r + 52)
theorem FE.sub {n : Nat → Int32} {m : Nat} {D : Nat → Nat} (h : FE n m D) (c : Nat) : FE n m (fun t => D t - c) := by
  intro r hr
  obtain ⟨h1, h2⟩ := h r hr
  exact ⟨by show D (nv n (3 * r + 50)) - c ≤ D (nv n (3 * r + 51)) - c + nv n (3 * r + 52); omega, by show D (nv n (3 * r + 51)) - c ≤ D (nv n (3 * r + 50)) - c + nv n (3 * r + 52); omega⟩
theorem FE.same {n n' : Nat → Int32} {m : Nat} {D : Nat → Nat} (h : FE n m D) (e : ∀ j : Nat, 50 ≤ j → j < 3 * m + 50 → n' j = n j) : FE n' m D := by
  intro r hr
  unfold nv
  rw [e (3 * r + 50) (by omega) (by omega), e (3 * r + 51) (by omega) (by omega), e (3 * r + 52) (by omega) (by omega)]
  exact h r hr
theorem nv_of {n : Nat → Int32} {j k : Nat} (e : n j = nI k) (hk : k < 2 ^ 31) : nv n j = k := by
  unfold nv; rw [e]; exact nI_clamp hk
def RB (n : Nat → Int32) (m : Nat) : Prop := ∀ r : Nat, r < m → (nv n (3 * r + 50) < 10 ∧ nv n (3 * r + 51) < 10) ∧ nv n (3 * r + 52) < 10 ∧ n (3 * r + 50) = nI (nv n (3 * r + 50)) ∧ n (3 * r + 51) = nI (nv n (3 * r + 51)) ∧ n (3 * r + 52) = nI (nv n (3 * r + 52))
theorem FE.cong {n : Nat → Int32} {m : Nat} {D D' : Nat → Nat} (h : FE n m D) (hb : RB n m) (e : ∀ t : Nat, t < 10 → D' t = D t) : FE n m D' := by
  intro r hr
  obtain ⟨⟨h1, h2⟩, -⟩ := hb r hr
  rw [e _ h1, e _ h2]; exact h r hr
theorem RB.same {n n' : Nat → Int32} {m : Nat} (h : RB n m) (e : ∀ j : Nat, 50 ≤ j → j < 3 * m + 50 → n' j = n j) : RB n' m := by
  intro r hr
  unfold nv
  rw [e (3 * r + 50) (by omega) (by omega), e (3 * r + 51) (by omega) (by omega), e (3 * r + 52) (by omega) (by omega)]
  exact h r hr
/-- T has the ways of the first m roads; u towns -/
def WQ1 (T n : Nat → Int32) (m u : Nat) : Prop := WV T ∧ RB n m ∧ (∀ i : Nat, i < 10 → tv T i i = 0) ∧ (∀ i : Nat, i < 10 → FE n m (tv T i)) ∧ (∀ i : Nat, i < 10 → ∀ D : Nat → Nat, D i = 0 → FE n m D → ∀ j : Nat, j < 10 → tv T i j < 1000 → D j ≤ tv T i j) ∧ ∀ i j : Nat, i < 10 → j < 10 → i ≠ j → (u ≤ i ∨ u ≤ j) → tv T i j = 1000
theorem WQ1.tri {T n : Nat → Int32} {m u : Nat} (h : WQ1 T n m u) {i j k : Nat} (hi : i < 10) (hj : j < 10) (hk : k < 10) : tv T i j ≤ tv T i k + tv T k j := by
  obtain ⟨h1, hb, h2, h3, h4, h5⟩ := h
  by_cases c : tv T k j < 1000
  · have h6 := h4 k hk (fun t => tv T i t - tv T i k) (Nat.sub_self _) ((h3 i hi).sub _) j hj c
    have h7 : tv T i j - tv T i k ≤ tv T k j := h6
    omega
  · have h6 := (h1.at hi hj).2
    omega
theorem WQ1.same {T T' n n' : Nat → Int32} {m u u' : Nat} (h : WQ1 T n m u) (hu : u ≤ u') (eT : ∀ j : Nat, j < 100 → T' j = T j) (e : ∀ j : Nat, 50 ≤ j → j < 3 * m + 50 → n' j = n j) : WQ1 T' n' m u' := by
  obtain ⟨h1, hb, h2, h3, h4, h5⟩ := h
  have et : ∀ i j : Nat, i < 10 → j < 10 → tv T' i j = tv T i j := fun i j hi hj => by
    unfold tv; rw [eT _ (by omega)]
  have e' : ∀ j : Nat, 50 ≤ j → j < 3 * m + 50 → n j = n' j := fun j a b => (e j a b).symm
  refine ⟨fun k hk => by rw [eT k hk]; exact h1 k hk, hb.same e, fun i hi => (et i i hi hi).trans (h2 i hi), fun i hi => ?_, fun i hi D hD hF j hj hl => ?_, fun i j hi hj a b => (et i j hi hj).trans (h5 i j hi hj a (by omega))⟩
  · exact ((h3 i hi).same e).cong (hb.same e) (fun t ht => et i t hi ht)
  · rw [et i j hi hj] at hl ⊢
    exact h4 i hi D hD (hF.same e') j hj hl
/-- what a new road between a and b makes of the ways among the first u towns -/
def JP (T T' : Nat → Int32) (u a b d : Nat) : Prop := WV T' ∧ (∀ i j : Nat, i < 10 → j < 10 → ¬ (i < u ∧ j < u) → tv T' i j = tv T i j) ∧ (∀ i j : Nat, i < u → j < u → tv T' i j ≤ tv T i j ∧ tv T' i j ≤ tv T i a + d + tv T b j ∧ tv T' i j ≤ tv T i b + d + tv T a j) ∧ ∀ N : Nat → Nat → Nat, (∀ i j : Nat, i < u → j < u → N i j ≤ tv T i j) → (∀ i j : Nat, i < u → j < u → N i j ≤ N i a + d + N b j ∧ N i j ≤ N i b + d + N a j) → ∀ i j : Nat, i < u → j < u → N i j ≤ tv T' i j
def mW (T : Nat → Int32) (a b d i j : Nat) : Nat := min (tv T i j) (min (tv T i a + d + tv T b j) (tv T i b + d + tv T a j))
theorem mW_le {T : Nat → Int32} {a b d i j : Nat} : mW T a b d i j ≤ tv T i j ∧ mW T a b d i j ≤ tv T i a + d + tv T b j ∧ mW T a b d i j ≤ tv T i b + d + tv T a j ∧ (mW T a b d i j = tv T i j ∨ mW T a b d i j = tv T i a + d + tv T b j ∨ mW T a b d i j = tv T i b + d + tv T a j) := by
  unfold mW; omega
theorem JP.eq {T T' n : Nat → Int32} {m u a b d : Nat} (h : WQ1 T n m u) (hj : JP T T' u a b d) (hu : u ≤ 10) (ha : a < u) (hb : b < u) : ∀ i j : Nat, i < 10 → j < 10 → tv T' i j = mW T a b d i j := by
  intro i j hi hj'
  obtain ⟨j0, j1, j2, j3⟩ := hj
  have mle := @mW_le T a b d
  by_cases c : i < u ∧ j < u
  · have hN := j3 (mW T a b d) (fun i j _ _ => (mle (i := i) (j := j)).1) (fun i j hi hj => by
      have x0 := mle (i := i) (j := j)
      have x1 := mle (i := i) (j := a)
      have x2 := mle (i := b) (j := j)
      have x3 := mle (i := i) (j := b)
      have x4 := mle (i := a) (j := j)
      have ya := h.2.2.1 a (by omega)
      have yb := h.2.2.1 b (by omega)
      have t1 := h.tri (i := i) (j := j) (k := a) (by omega) (by omega) (by omega)
      have t2 := h.tri (i := i) (j := j) (k := b) (by omega) (by omega) (by omega)
      have t3 := h.tri (i := b) (j := a) (k := a) (by omega) (by omega) (by omega)
      omega) i j c.1 c.2
    have x0 := mle (i := i) (j := j)
    have x1 := j2 i j c.1 c.2
    omega
  · rw [j1 i j hi hj' c]
    have x0 := mle (i := i) (j := j)
    by_cases e : i = j
    · subst e
      have y := h.2.2.1 i hi
      omega
    · have y := h.2.2.2.2.2 i j hi hj' e (by omega)
      by_cases c1 : u ≤ i
      · have y1 := h.2.2.2.2.2 i a hi (by omega) (by omega) (Or.inl c1)
        have y2 := h.2.2.2.2.2 i b hi (by omega) (by omega) (Or.inl c1)
        omega
      · have y1 := h.2.2.2.2.2 a j (by omega) hj' (by omega) (Or.inr (by omega))
        have y2 := h.2.2.2.2.2 b j (by omega) hj' (by omega) (Or.inr (by omega))
        omega
theorem WQ1.join {T T' n n' : Nat → Int32} {m u a b d : Nat} (h : WQ1 T n m u) (hj : JP T T' u a b d) (hu : u ≤ 10) (ha : a < u) (hb : b < u) (hab : a ≠ b) (e : ∀ j : Nat, 50 ≤ j → j < 3 * m + 50 → n' j = n j) (f0 : n' (3 * m + 50) = nI a) (f1 : n' (3 * m + 51) = nI b) (f2 : n' (3 * m + 52) = nI d) (hd : d < 10) : WQ1 T' n' (m + 1) u := by
  have e0 := nv_of f0 (by omega)
  have e1 := nv_of f1 (by omega)
  have e2 := nv_of f2 (by omega)
  have et := JP.eq h hj hu ha hb
  have mle := @mW_le T a b d
  have tri := fun (i j k : Nat) (hi : i < 10) (hj : j < 10) (hk : k < 10) => h.tri (i := i) (j := j) (k := k) hi hj hk
  obtain ⟨h1, hB, h2, h3, h4, h5⟩ := h
  have e' : ∀ j : Nat, 50 ≤ j → j < 3 * m + 50 → n j = n' j := fun j a b => (e j a b).symm
  have za := h2 a (by omega)
  have zb := h2 b (by omega)
  refine ⟨hj.1, fun r hr => ?_, fun i hi => ?_, fun i hi r hr => ?_, fun i hi D hD hF j hj hl => ?_, fun i j hi hj' a' b' => ?_⟩
  · by_cases c : r = m
    · subst c; rw [e0, e1, e2]; exact ⟨⟨by omega, by omega⟩, hd, f0, f1, f2⟩
    · exact hB.same e r (by omega)
  · rw [et i i hi hi]
    have x := mle (i := i) (j := i)
    have y := h2 i hi
    omega
  · by_cases c : r = m
    · subst c
      rw [e0, e1, e2, et i a hi (by omega), et i b hi (by omega)]
      have x1 := mle (i := i) (j := a)
      have x2 := mle (i := i) (j := b)
      omega
    · obtain ⟨⟨q1, q2⟩, -⟩ := hB.same e r (by omega)
      have y0 := (h3 i hi).same e r (by omega)
      have ya := (h3 a (by omega)).same e r (by omega)
      have yb := (h3 b (by omega)).same e r (by omega)
      rw [et i _ hi q1, et i _ hi q2]
      have x1 := mle (i := i) (j := nv n' (3 * r + 50))
      have x2 := mle (i := i) (j := nv n' (3 * r + 51))
      omega
  · have hF0 : FE n m D := (show FE n' m D from fun r hr => hF r (by omega)).same e'
    have hm := hF m (Nat.lt_succ_self m)
    rw [e0, e1, e2] at hm
    rw [et i j hi hj] at hl ⊢
    have x := mle (i := i) (j := j)
    have hs : ∀ c j : Nat, c < 10 → j < 10 → tv T c j < 1000 → D j ≤ D c + tv T c j := fun c j hc hj hl => by
      have y := h4 c hc (fun t => D t - D c) (Nat.sub_self _) (hF0.sub _) j hj hl
      have y' : D j - D c ≤ tv T c j := y
      omega
    rcases x.2.2.2 with q | q | q
    · rw [q] at hl ⊢
      have y := hs i j hi hj hl
      omega
    · rw [q] at hl ⊢
      have y1 := hs i a hi (by omega) (by omega)
      have y2 := hs b j (by omega) hj (by omega)
      omega
    · rw [q] at hl ⊢
      have y1 := hs i b hi (by omega) (by omega)
      have y2 := hs a j (by omega) hj (by omega)
      omega
  · rw [hj.2.1 i j hi hj' (by omega)]; exact h5 i j hi hj' a' b'
/-- what the model's days are behind findDays: of the roads below m, from c on -/
def FX (f n : Nat → Int32) (m c : Nat) : Prop := (∀ t : Nat, t < 10 → f t = -1 ∨ ∃ q : Nat, q ≤ 81 ∧ f t = nI q) ∧ f c = nI 0 ∧ (∀ r : Nat, r < m → ∀ q : Nat, q ≤ 81 → (f (nv n (3 * r + 50)) = nI q → ∃ p : Nat, p ≤ q + nv n (3 * r + 52) ∧ p ≤ 81 ∧ f (nv n (3 * r + 51)) = nI p) ∧ (f (nv n (3 * r + 51)) = nI q → ∃ p : Nat, p ≤ q + nv n (3 * r + 52) ∧ p ≤ 81 ∧ f (nv n (3 * r + 50)) = nI p)) ∧ ∀ P : Nat → Nat, P c = 0 → FE n m P → ∀ t q : Nat, t < 10 → q ≤ 81 → f t = nI q → P t ≤ q
def vFr (x : Int32) : Int32 := if x < 0 then -1000002 else x
def vWy (W : Nat) : Int32 := if 1000 ≤ W then -1000002 else nI W
def dD (f : Nat → Int32) (s : Nat) : Nat := if f s = -1 then 1000 else (f s).toNatClampNeg
theorem dD_y {f : Nat → Int32} {s q : Nat} (e : f s = nI q) (hq : q ≤ 81) : dD f s = q := by
  unfold dD; rw [if_neg (by rw [e]; exact nI_m1 (by omega)), e, nI_clamp (by omega)]
theorem dD_n {f : Nat → Int32} {s : Nat} (e : f s = -1) : dD f s = 1000 := if_pos e
theorem FX.far {T f n : Nat → Int32} {m u c t : Nat} (h : WQ1 T n m u) (hf : FX f n m c) (hc : c < 10) (ht : t < 10) : vWy (tv T c t) = vFr (f t) := by
  obtain ⟨h1, hB, h2, h3, h4, h5⟩ := h
  obtain ⟨f1, f2, f3, f4⟩ := hf
  have hD : FE n m (dD f) := by
    intro r hr
    obtain ⟨⟨b1, b2⟩, -⟩ := hB r hr
    have go : ∀ x y w : Nat, x < 10 → y < 10 → (∀ q : Nat, q ≤ 81 → f x = nI q → ∃ p : Nat, p ≤ q + w ∧ p ≤ 81 ∧ f y = nI p) → (∀ q : Nat, q ≤ 81 → f y = nI q → ∃ p : Nat, p ≤ q + w ∧ p ≤ 81 ∧ f x = nI p) → dD f y ≤ dD f x + w := by
      intro x y w hx hy g1 g2
      rcases f1 x hx with ex | ⟨q, hq, ex⟩
      · rcases f1 y hy with ey | ⟨p, hp, ey⟩
        · rw [dD_n ex, dD_n ey]; omega
        · obtain ⟨p', hp', hp2, e'⟩ := g2 p hp ey
          exact absurd (e'.symm.trans ex) (nI_m1 (by omega))
      · obtain ⟨p, hp, hp2, ey⟩ := g1 q hq ex
        rw [dD_y ex hq, dD_y ey hp2]; exact hp
    exact ⟨go _ _ _ b2 b1 (fun q hq => (f3 r hr q hq).2) (fun q hq => (f3 r hr q hq).1), go _ _ _ b1 b2 (fun q hq => (f3 r hr q hq).1) (fun q hq => (f3 r hr q hq).2)⟩
  have hD0 : dD f c = 0 := dD_y f2 (by omega)
  rcases f1 t ht with e | ⟨q, hq, e⟩
  · have hw : 1000 ≤ tv T c t := by
      refine Nat.le_of_not_lt (fun hl => ?_)
      have y := h4 c hc (dD f) hD0 hD t ht hl
      rw [dD_n e] at y; omega
    unfold vWy vFr
    rw [if_pos hw, e, if_pos (by decide)]
  · have up := f4 (tv T c) (h2 c hc) (h3 c hc) t q ht hq e
    have lo := h4 c hc (dD f) hD0 hD t ht (by omega)
    rw [dD_y e hq] at lo
    have eq : tv T c t = q := by omega
    unfold vWy vFr
    rw [eq, e, if_neg (by omega), if_neg (nI_pos (by omega))]
/-! ===== pure: class and model stand for the same realm; K: how many there are ===== -/
def ctT : List (Nat × Nat × Nat) := [(2, 0, 10), (101, 1, 20), (6, 2, 20), (8, 3, 20), (10, 4, 12), (14, 5, 40), (16, 6, 6), (18, 7, 30), (102, 8, 2000), (24, 10, 60), (22, 11, 20)]
def RCt (K : Nat → Nat) (I n : Nat → Int32) : Prop := (∀ q ∈ ctT, I q.1 = nI (K q.2.1) ∧ n q.2.1 = nI (K q.2.1) ∧ K q.2.1 ≤ q.2.2) ∧ I 103 = n 9
/-- nobody, or one of the first P -/
def vP (P : Nat) (x : Int32) : Prop := x = -1 ∨ ∃ p : Nat, p < P ∧ x = nI p
theorem vP.mono {P Q : Nat} {x : Int32} (h : vP P x) (hq : P ≤ Q) : vP Q x := by
  rcases h with h | ⟨p, h1, h2⟩
  · exact Or.inl h
  · exact Or.inr ⟨p, by omega, h2⟩
/-- a number of at most m -/
def nB (m : Nat) (x : Int32) : Prop := ∃ k : Nat, k ≤ m ∧ x = nI k
def RTw (K : Nat → Nat) (f n : Nat → Int32) : Prop := ∀ t : Nat, t < K 0 → (f (3 * t) = n (3 * t + 20) ∧ f (3 * t + 1) = n (3 * t + 21) ∧ f (3 * t + 2) = n (3 * t + 22)) ∧ nB 999 (n (3 * t + 20)) ∧ vP (K 2) (n (3 * t + 21)) ∧ nB 1 (n (3 * t + 22))
/-- living, or dead -/
def PLv (K : Nat → Nat) (f n : Nat → Int32) (p : Nat) : Prop :=
  (f (14 * p + 9) = 0 ∧ n (14 * p + 119) = -1 ∧ f (14 * p + 4) = n (14 * p + 114) ∧ (n (14 * p + 114) = -1 → (f (14 * p + 5) = n (14 * p + 115) ∧ f (14 * p + 6) = n (14 * p + 116)) ∧ (∃ t : Nat, t < K 0 ∧ n (14 * p + 115) = nI t) ∧ ∃ c : Nat, (K 8 < c ∧ c ≤ 4000) ∧ n (14 * p + 116) = nI c)) ∨
  (f (14 * p + 9) = 1 ∧ nB 2000 (n (14 * p + 119)) ∧ n (14 * p + 121) = 0)
/-- a day on which one may have been born -/
def bB (x : Int32) : Prop := ¬ x < -20000 ∧ ¬ 2000 < x
def RPe (K : Nat → Nat) (f n : Nat → Int32) : Prop := ∀ p : Nat, p < K 2 → (f (14 * p) = n (14 * p + 110) ∧ f (14 * p + 1) = n (14 * p + 111) ∧ f (14 * p + 2) = n (14 * p + 112) ∧ f (14 * p + 3) = n (14 * p + 113)) ∧
  (f (14 * p + 7) = n (14 * p + 117) ∧ f (14 * p + 8) = n (14 * p + 118) ∧ f (14 * p + 10) = n (14 * p + 120) ∧ f (14 * p + 12) = n (14 * p + 122) ∧ f (14 * p + 13) = n (14 * p + 121)) ∧ PLv K f n p ∧
  (vP (K 2) (n (14 * p + 112)) ∧ vP (K 2) (n (14 * p + 113)) ∧ vP (K 0) (n (14 * p + 114)) ∧ nB 1 (n (14 * p + 121)) ∧ nB 999 (n (14 * p + 122)) ∧ bB (n (14 * p + 111)))
/-- nobody, or one that lives -/
def vL (P : Nat) (n : Nat → Int32) (x : Int32) : Prop := x = -1 ∨ ∃ p : Nat, p < P ∧ x = nI p ∧ n (14 * p + 119) = -1
def RPw (K : Nat → Nat) (f n : Nat → Int32) : Prop := ∀ w : Nat, w < K 3 → (f (6 * w) = n (6 * w + 390) ∧ f (6 * w + 1) = n (6 * w + 394) ∧ f (6 * w + 2) = n (6 * w + 391) ∧ f (6 * w + 3) = n (6 * w + 392) ∧ f (6 * w + 4) = n (6 * w + 393)) ∧
  (n (6 * w + 390) = 2 → f (6 * w + 5) = n (6 * w + 395)) ∧ (n (6 * w + 390) ≠ 2 → f (6 * w + 5) = -1) ∧ nB 5 (n (6 * w + 390)) ∧ vL (K 2) n (n (6 * w + 391)) ∧ vL (K 2) n (n (6 * w + 392)) ∧ nB 19 (n (6 * w + 395)) ∧ (n (6 * w + 392) = -1 → n (6 * w + 393) = -1)
/-- a step of the class's code and of the model's -/
def cdM (c m : Int32) : Prop := (¬ c < 0 ∧ m = c) ∨ (∃ k : Nat, k < 11 ∧ c = -20 - nI k ∧ m = -1 - nI k) ∨ (c = -1 ∧ m = -133) ∨ (c = -2 ∧ m = -224) ∨ (c = -3 ∧ m = -138) ∨ (c = -4 ∧ m = -160) ∨ (c = -5 ∧ m = -161) ∨ (c = -6 ∧ m = -162) ∨ (c = -7 ∧ m = -143) ∨ (c = -8 ∧ m = -145)
/-- how many numbers wait behind the first i steps: never too few, never too many -/
def cdH (c : Nat → Int32) : Nat → Option Nat
  | 0 => some 0
  | i + 1 => match cdH c i with
    | none => none
    | some h => if -20 < c i ∧ c i < 0 then (if c i = -1 then (if 1 ≤ h then some h else none) else if 2 ≤ h then some (h - 1) else none) else if h < 60 then some (h + 1) else none
def RLa (K : Nat → Nat) (f g n : Nat → Int32) : Prop := ∀ l : Nat, l < K 4 → (f (6 * l) = n (65 * l + 510) ∧ f (6 * l + 1) = n (65 * l + 511) ∧ f (6 * l + 2) = n (65 * l + 512) ∧ f (6 * l + 3) = n (65 * l + 513)) ∧
  (∃ d : Nat, d ≤ K 8 ∧ n (65 * l + 512) = nI d ∧ ∀ l' : Nat, l' < l → ∃ d' : Nat, d' ≤ d ∧ n (65 * l' + 512) = nI d') ∧ (n (65 * l + 513) = -1 ∨ nB 2000 (n (65 * l + 513))) ∧
  ∃ e : Nat, e ≤ 60 ∧ f (6 * l + 4) = nI e ∧ n (65 * l + 514) = nI e ∧ (∀ i : Nat, i < e → cdM (g (60 * l + i)) (n (65 * l + (515 + i)))) ∧ cdH (fun i => g (60 * l + i)) e = some 1
def RLe (K : Nat → Nat) (f n : Nat → Int32) : Prop := ∀ e : Nat, e < K 5 → (f (12 * e) = n (12 * e + 1290) ∧ f (12 * e + 1) = n (12 * e + 1291) ∧ f (12 * e + 2) = n (12 * e + 1292) ∧ f (12 * e + 4) = n (12 * e + 1293) ∧ f (12 * e + 6) = n (12 * e + 1294)) ∧
  (f (12 * e + 8) = n (12 * e + 1295) ∧ f (12 * e + 9) = n (12 * e + 1296) ∧ f (12 * e + 10) = n (12 * e + 1297) ∧ f (12 * e + 11) = n (12 * e + 1298) ∧ f (12 * e + 5) = n (12 * e + 1299)) ∧
  (n (12 * e + 1294) = -1 → f (12 * e + 3) = n (12 * e + 1300)) ∧ (n (12 * e + 1294) ≠ -1 → f (12 * e + 7) = n (12 * e + 1300)) ∧
  (vP (K 2) (n (12 * e + 1294)) ∧ (∃ t : Nat, t < K 0 ∧ n (12 * e + 1300) = nI t) ∧ nB 4 (n (12 * e + 1291)) ∧ nB 999 (n (12 * e + 1292)) ∧ nB 1 (n (12 * e + 1298))) ∧ (¬ n (12 * e + 1296) < 0 → n (12 * e + 1294) ≠ -1)
def RDe (K : Nat → Nat) (f n : Nat → Int32) : Prop := ∀ d : Nat, d < K 6 → (f (5 * d) = n (6 * d + 1770) ∧ f (5 * d + 1) = n (6 * d + 1771) ∧ f (5 * d + 2) = n (6 * d + 1772) ∧ f (5 * d + 3) = n (6 * d + 1774) ∧ f (5 * d + 4) = n (6 * d + 1773)) ∧
  ∃ t m : Nat, t < K 0 ∧ n (6 * d + 1774) = nI t ∧ m ≤ K 8 ∧ n (6 * d + 1773) = nI m ∧ (2 ≤ m → n (3 * t + 22) = 1)
def RPr (K : Nat → Nat) (f n : Nat → Int32) : Prop := ∀ k : Nat, k < K 7 → (f (5 * k) = n (6 * k + 1806) ∧ f (5 * k + 1) = n (6 * k + 1807) ∧ f (5 * k + 2) = n (6 * k + 1808) ∧ f (5 * k + 3) = n (6 * k + 1809)) ∧
  (f (5 * k + 4) = 2 ↔ n (6 * k + 1810) = 1) ∧ (¬ n (6 * k + 1808) < nI (K 8) → (f (5 * k + 4) = 0 ↔ n (6 * k + 1810) = 0 ∧ n (6 * k + 1811) = 0)) ∧
  (∃ p : Nat, p < K 2 ∧ n (6 * k + 1806) = nI p) ∧ nB 2000 (n (6 * k + 1808)) ∧ nB 1 (n (6 * k + 1809)) ∧ nB 2 (f (5 * k + 4)) ∧ nB 1 (n (6 * k + 1810))
def RGu (f n : Nat → Int32) : Prop := ∀ j : Nat, j < 5 → f j = n (j + 1986) ∧ nB 6 (n (j + 1986))
def RWt (K : Nat → Nat) (f n : Nat → Int32) : Prop := ∀ j : Nat, j < K 11 → f j = n (j + 2051)
def RTa (K : Nat → Nat) (f n : Nat → Int32) : Prop := ∀ j : Nat, j < K 10 → f j = n (j + 1991) ∧ nB 255 (n (j + 1991))
/-- seated at most nine, and where there are persons there are towns -/
def RSe (K : Nat → Nat) (n : Nat → Int32) : Prop := pm_cnt (fun p => n (14 * p + 121) == 1) (K 2) ≤ 9 ∧ (1 ≤ K 2 → 1 ≤ K 0)
/-- a promise that stands is of one that is seated -/
def RPs0 (K : Nat → Nat) (f n : Nat → Int32) : Prop := ∀ k : Nat, k < K 7 → f (5 * k + 4) = 0 → ¬ n (6 * k + 1808) < nI (K 8) → ∃ p : Nat, p < K 2 ∧ n (6 * k + 1806) = nI p ∧ n (14 * p + 121) = 1
/-- of one person's promises for one cause all but the last have lapsed -/
def RPu (K : Nat → Nat) (n : Nat → Int32) : Prop := ∀ j k : Nat, j < k → k < K 7 → n (6 * j + 1806) = n (6 * k + 1806) → n (6 * j + 1807) = n (6 * k + 1807) → n (6 * j + 1811) = 1
def RPs (K : Nat → Nat) (f n : Nat → Int32) : Prop := RPs0 K f n ∧ RPu K n
/-- steps to THE CHILD -/
def SF (n : Nat → Int32) (P : Nat) (D : Nat → Nat) : Prop := ∀ p : Nat, p < P → ∀ c : Nat, c = 112 ∨ c = 113 → ∀ q : Nat, n (14 * p + c) = nI q → q < P → D p ≤ D q + 1 ∧ D q ≤ D p + 1
def RSt (K : Nat → Nat) (f n : Nat → Int32) : Prop := ∃ s : Nat → Nat, (∀ p : Nat, p < K 2 → f (14 * p + 11) = nI (s p) ∧ (s p ≤ 19 ∨ s p = 99)) ∧ (1 ≤ K 2 → s 0 = 0) ∧ SF n (K 2) s ∧ ∀ D : Nat → Nat, D 0 = 0 → SF n (K 2) D → ∀ p : Nat, p < K 2 → s p < 99 → D p ≤ s p
def RelR (K : Nat → Nat) (S : FS) (n : Nat → Int32) : Prop := RCt K S.1 n ∧ RTw K (S.2 3) n ∧ WQ1 (S.2 5) n (K 1) (K 0) ∧ RPe K (S.2 7) n ∧ RPw K (S.2 9) n ∧ RLa K (S.2 11) (S.2 13) n ∧ RLe K (S.2 15) n ∧ RDe K (S.2 17) n ∧ RPr K (S.2 19) n ∧ RGu (S.2 21) n ∧ RWt K (S.2 23) n ∧ RTa K (S.2 25) n ∧ RSe K n ∧ RSt K (S.2 7) n ∧ RPs K (S.2 19) n
