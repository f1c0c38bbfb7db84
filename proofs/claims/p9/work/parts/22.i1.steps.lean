/-! ===== pure: steps to THE CHILD ===== -/
theorem cnt_s {p : Nat → Bool} {m : Nat} : pm_cnt p (m + 1) = pm_cnt p m + if p m = true then 1 else 0 := rfl
theorem cnt_mono {p q : Nat → Bool} : ∀ (m : Nat), (∀ j : Nat, j < m → p j = true → q j = true) → pm_cnt p m ≤ pm_cnt q m
  | 0, _ => Nat.le_refl _
  | m + 1, h => by
    have ih := cnt_mono m (fun j hj => h j (by omega))
    have hm := h m (by omega)
    rw [cnt_s, cnt_s]
    by_cases c : p m = true
    · rw [if_pos c, if_pos (hm c)]; omega
    · rw [if_neg c]; omega
theorem cnt_lt {p q : Nat → Bool} {x : Nat} (hq : q x = true) (hp : ¬ p x = true) : ∀ (m : Nat), x < m → (∀ j : Nat, j < m → p j = true → q j = true) → pm_cnt p m + 1 ≤ pm_cnt q m
  | 0, h, _ => absurd h (Nat.not_lt_zero _)
  | m + 1, hx, h => by
    rw [cnt_s, cnt_s]
    by_cases e : x = m
    · subst e
      have := cnt_mono x (fun j hj => h j (by omega))
      rw [if_pos hq, if_neg hp]; omega
    · have ih := cnt_lt hq hp m (by omega) (fun j hj => h j (by omega))
      have hm := h m (by omega)
      by_cases c : p m = true
      · rw [if_pos c, if_pos (hm c)]; omega
      · rw [if_neg c]; omega
theorem cnt_all {p : Nat → Bool} {m x : Nat} (hx : x < m) (h : m ≤ pm_cnt p m) : p x = true := by
  apply Decidable.byContradiction
  intro c
  have h1 := cnt_lt (p := p) (q := fun _ => true) rfl c m hx (fun _ _ _ => rfl)
  have h2 := pm_cnt_le (fun _ => true) m
  omega
/-- parent and child, either way round -/
def EG (n : Nat → Int32) (P p q : Nat) : Prop := (p < P ∧ q < P) ∧ ((n (14 * p + 112) = nI q ∨ n (14 * p + 113) = nI q) ∨ (n (14 * q + 112) = nI p ∨ n (14 * q + 113) = nI p))
theorem EG.symm {n : Nat → Int32} {P p q : Nat} (h : EG n P p q) : EG n P q p := ⟨⟨h.1.2, h.1.1⟩, h.2.symm⟩
theorem SF.of {n : Nat → Int32} {P : Nat} {D : Nat → Nat} (h : ∀ p q : Nat, EG n P p q → D q ≤ D p + 1) : SF n P D := by
  intro p hp c hc q e hq
  have h1 : EG n P p q := ⟨⟨hp, hq⟩, Or.inl (by rcases hc with rfl | rfl; exact Or.inl e; exact Or.inr e)⟩
  exact ⟨h q p h1.symm, h p q h1⟩
theorem SF.eg {n : Nat → Int32} {P : Nat} {D : Nat → Nat} (h : SF n P D) {p q : Nat} (e : EG n P p q) : D q ≤ D p + 1 := by
  obtain ⟨⟨hp, hq⟩, (e | e) | (e | e)⟩ := e
  · exact (h p hp 112 (Or.inl rfl) q e hq).2
  · exact (h p hp 113 (Or.inr rfl) q e hq).2
  · exact (h q hq 112 (Or.inl rfl) p e hp).1
  · exact (h q hq 113 (Or.inr rfl) p e hp).1
def BI (n : Nat → Int32) (P k : Nat) (d : Nat → Nat) : Prop := (∀ p : Nat, p < P → d p ≤ 99) ∧ d 0 = 0 ∧ (∀ p q : Nat, EG n P p q → d p < k → d q ≤ d p + 1) ∧ (∀ p : Nat, p < P → p ≠ 0 → d p < 99 → ∃ q : Nat, EG n P p q ∧ d q + 1 ≤ d p) ∧ ∀ D : Nat → Nat, D 0 = 0 → SF n P D → ∀ p : Nat, p < P → d p < 99 → D p ≤ d p
def Dn (k : Nat) (d : Nat → Nat) (p q : Nat) : Prop := d p ≤ k → d q ≤ d p + 1
def nU (d : Nat → Nat) (k v : Nat) : Nat → Nat := fun j => if j = k then v else d j
theorem nU_e {d : Nat → Nat} {k v : Nat} : nU d k v k = v := if_pos rfl
theorem nU_n {d : Nat → Nat} {k v j : Nat} (h : j ≠ k) : nU d k v j = d j := if_neg h
theorem BI.next {n : Nat → Int32} {P k : Nat} {d : Nat → Nat} (h : BI n P k d) (hd : ∀ p q : Nat, EG n P p q → Dn k d p q) : BI n P (k + 1) d := ⟨h.1, h.2.1, fun p q e hk => hd p q e (by omega), h.2.2.2⟩
/-- q is brought nearer by p -/
theorem BI.rlx {n : Nat → Int32} {P k : Nat} {d : Nat → Nat} (h : BI n P k d) {p q : Nat} (e : EG n P p q) (hl : d p + 1 < d q) : BI n P k (nU d q (d p + 1)) ∧ Dn k (nU d q (d p + 1)) p q ∧ ∀ x y : Nat, Dn k d x y → Dn k (nU d q (d p + 1)) x y := by
  obtain ⟨h1, h2, h3, h4, h5⟩ := h
  obtain ⟨⟨hp, hq⟩, -⟩ := id e
  have hk : k ≤ d p := Nat.le_of_not_lt (fun z => by have := h3 p q e z; omega)
  have hpq : p ≠ q := fun z => by subst z; omega
  have hq99 := h1 q hq
  have le : ∀ x : Nat, nU d q (d p + 1) x ≤ d x := fun x => by
    by_cases z : x = q
    · subst z; rw [nU_e]; omega
    · rw [nU_n z]; exact Nat.le_refl _
  refine ⟨⟨fun x hx => Nat.le_trans (le x) (h1 x hx), ?_, fun x y exy hx => ?_, fun x hx x0 hx9 => ?_, fun D d0 dF x hx hx9 => ?_⟩, fun _ => ?_, fun x y dn hx => ?_⟩
  · have := le 0; omega
  · by_cases z : x = q
    · subst z; rw [nU_e] at hx; omega
    · rw [nU_n z] at hx ⊢
      exact Nat.le_trans (le y) (h3 x y exy hx)
  · by_cases z : x = q
    · subst z
      refine ⟨p, e.symm, ?_⟩
      rw [nU_e, nU_n hpq]; exact Nat.le_refl _
    · rw [nU_n z] at hx9 ⊢
      obtain ⟨y, ey, hy⟩ := h4 x hx x0 hx9
      exact ⟨y, ey, Nat.le_trans (Nat.add_le_add_right (le y) 1) hy⟩
  · by_cases z : x = q
    · subst z
      rw [nU_e] at hx9 ⊢
      have a := h5 D d0 dF p hp (by omega)
      have b := dF.eg e
      omega
    · rw [nU_n z] at hx9 ⊢; exact h5 D d0 dF x hx hx9
  · rw [nU_e, nU_n hpq]; exact Nat.le_refl _
  · by_cases z : x = q
    · subst z; rw [nU_e] at hx; omega
    · rw [nU_n z] at hx ⊢
      exact Nat.le_trans (le y) (dn hx)
theorem BI.lvl {n : Nat → Int32} {P k : Nat} {d : Nat → Nat} (h : BI n P k d) (hP : 1 ≤ P) : ∀ (v : Nat) (x : Nat), x < P → d x = v → k ≤ v → v < 99 → ∃ y : Nat, y < P ∧ d y = k := by
  intro v
  induction v using Nat.strongRecOn with
  | _ v ih =>
    intro x hx ev hk hv
    by_cases e : v = k
    · exact ⟨x, hx, by omega⟩
    · have x0 : x ≠ 0 := fun z => by subst z; have := h.2.1; omega
      obtain ⟨y, ey, hy⟩ := h.2.2.2.1 x hx x0 (by omega)
      by_cases c : k ≤ d y
      · exact ih (d y) (by omega) y ey.1.2 rfl c (by omega)
      · have := h.2.2.1 y x ey.symm (by omega)
        omega
/-- levels below one that somebody has -/
theorem BI.dwn {n : Nat → Int32} {P k : Nat} {d : Nat → Nat} (h : BI n P k d) : ∀ (v x : Nat), x < P → d x = v → v ≤ k → v < 99 → v ≤ pm_cnt (fun p => decide (d p < v)) P := by
  intro v
  induction v with
  | zero => intro x _ _ _ _; exact Nat.zero_le _
  | succ v ih =>
    intro x hx ev hk hv
    have x0 : x ≠ 0 := fun z => by subst z; have := h.2.1; omega
    obtain ⟨y, ey, hy⟩ := h.2.2.2.1 x hx x0 (by omega)
    have h1 := h.2.2.1 y x ey.symm (by omega)
    have h2 := ih y ey.1.2 (by omega) (by omega) (by omega)
    have h3 := cnt_lt (p := fun p => decide (d p < v)) (q := fun p => decide (d p < v + 1)) (x := y) (decide_eq_true (by omega)) (by rw [decide_eq_true_eq]; omega) P ey.1.2 (fun j _ hj => by rw [decide_eq_true_eq] at hj; exact decide_eq_true (by omega))
    omega
theorem BI.fin {n : Nat → Int32} {P R : Nat} {d : Nat → Nat} (h : BI n P R d) (hR : P ≤ R + 1) (hR9 : R < 99) (hP : 1 ≤ P) : SF n P d ∧ ∀ p : Nat, p < P → d p + 1 ≤ P ∨ d p = 99 := by
  have key : ∀ x : Nat, x < P → R ≤ d x → d x < 99 → ∀ y : Nat, y < P → d y ≤ R := by
    intro x hx h1 h2 y hy
    obtain ⟨z, hz, ez⟩ := h.lvl hP (d x) x hx rfl h1 h2
    have h3 := h.dwn R z hz ez (Nat.le_refl _) hR9
    have h4 := cnt_lt (p := fun p => decide (d p < R)) (q := fun p => decide (d p < R + 1)) (x := z) (decide_eq_true (by omega)) (by rw [decide_eq_true_eq]; omega) P hz (fun j _ hj => by rw [decide_eq_true_eq] at hj; exact decide_eq_true (by omega))
    have h5 := cnt_all (p := fun p => decide (d p < R + 1)) hy (by omega)
    rw [decide_eq_true_eq] at h5
    omega
  refine ⟨SF.of (fun p q e => ?_), fun p hp => ?_⟩
  · by_cases c : d p < R
    · exact h.2.2.1 p q e c
    · have := h.1 p e.1.1
      have h9 := h.1 q e.1.2
      by_cases c2 : d p < 99
      · have := key p e.1.1 (by omega) c2 q e.1.2; omega
      · omega
  · have h9 := h.1 p hp
    by_cases c2 : d p < 99
    · left
      have hle : d p ≤ R := by
        by_cases c : R ≤ d p
        · exact key p hp c c2 p hp
        · omega
      have h3 := h.dwn (d p) p hp rfl hle c2
      have h4 := cnt_lt (p := fun x => decide (d x < d p)) (q := fun x => decide (d x < d p + 1)) (x := p) (decide_eq_true (by omega)) (by rw [decide_eq_true_eq]; omega) P hp (fun j _ hj => by rw [decide_eq_true_eq] at hj; exact decide_eq_true (by omega))
      have h5 := pm_cnt_le (fun x => decide (d x < d p + 1)) P
      omega
    · exact Or.inr (by omega)
/-- from what stands already -/
theorem RSt.bi {K : Nat → Nat} {n : Nat → Int32} {s : Nat → Nat} (hP : 1 ≤ K 2) (h1 : ∀ p : Nat, p < K 2 → s p ≤ 19 ∨ s p = 99) (h2 : 1 ≤ K 2 → s 0 = 0) (h3 : SF n (K 2) s) (h4 : ∀ D : Nat → Nat, D 0 = 0 → SF n (K 2) D → ∀ p : Nat, p < K 2 → s p < 99 → D p ≤ s p) : BI n (K 2) 0 s := by
  refine ⟨fun p hp => ?_, h2 hP, fun p q _ z => absurd z (Nat.not_lt_zero _), fun p hp p0 hp9 => ?_, h4⟩
  · have := h1 p hp; omega
  · apply Classical.byContradiction
    intro c
    have c' : ∀ q : Nat, EG n (K 2) p q → s p ≤ s q := fun q e => Nat.le_of_not_lt (fun z => c ⟨q, e, by omega⟩)
    have := h4 (nU s p (s p + 1)) (by rw [nU_n (fun z => p0 z.symm)]; exact h2 hP) (SF.of (fun x y e => by
      have hxy := h3.eg e
      by_cases ex : x = p
      · subst ex
        by_cases ey : y = x
        · subst ey; omega
        · rw [nU_e, nU_n ey]; omega
      · rw [nU_n ex]
        by_cases ey : y = p
        · subst ey
          rw [nU_e]
          have := c' x e.symm
          omega
        · rw [nU_n ey]; exact hxy)) p hp hp9
    rw [nU_e] at this
    omega
