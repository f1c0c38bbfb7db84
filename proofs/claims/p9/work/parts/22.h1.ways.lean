/-! ===== pure: ways ===== -/
/-! ===== findDays ===== -/
def dW (v : Int32) : Nat := if v = -1 then 100 else v.toNatClampNeg
def dMu (f : Nat → Int32) : Nat → Nat
  | 0 => 0
  | k + 1 => dMu f k + dW (f k)
def dU (f : Nat → Int32) : Nat → Nat
  | 0 => 0
  | k + 1 => dU f k + if f k = -1 then 1 else 0
theorem dMu_out {f : Nat → Int32} {b : Nat} {v : Int32} : ∀ k : Nat, k ≤ b → dMu (upd f b v) k = dMu f k
  | 0, _ => rfl
  | k + 1, h => by unfold dMu; rw [dMu_out k (by omega), pk_un (by omega)]
theorem dU_out {f : Nat → Int32} {b : Nat} {v : Int32} : ∀ k : Nat, k ≤ b → dU (upd f b v) k = dU f k
  | 0, _ => rfl
  | k + 1, h => by unfold dU; rw [dU_out k (by omega), pk_un (by omega)]
theorem dMu_upd {f : Nat → Int32} {b : Nat} {v : Int32} : ∀ k : Nat, b < k → dMu (upd f b v) k + dW (f b) = dMu f k + dW v
  | 0, h => absurd h (Nat.not_lt_zero _)
  | k + 1, h => by
    unfold dMu
    by_cases e : b = k
    · subst e; rw [dMu_out b (Nat.le_refl _), pk_us]; omega
    · have ih := dMu_upd (f := f) (b := b) (v := v) k (by omega)
      rw [pk_un (by omega)]; omega
theorem dU_upd {f : Nat → Int32} {b : Nat} {v : Int32} : ∀ k : Nat, b < k → dU (upd f b v) k + (if f b = -1 then 1 else 0) = dU f k + if v = -1 then 1 else 0
  | 0, h => absurd h (Nat.not_lt_zero _)
  | k + 1, h => by
    unfold dU
    by_cases e : b = k
    · subst e; rw [dU_out b (Nat.le_refl _), pk_us]; omega
    · have ih := dU_upd (f := f) (b := b) (v := v) k (by omega)
      rw [pk_un (by omega)]; omega
def dOK (f : Nat → Int32) : Prop := ∀ t : Nat, t < 10 → f t = -1 ∨ ∃ q : Nat, f t = nI q ∧ q + 9 * dU f 10 ≤ 81
theorem dOK.one {f : Nat → Int32} {b a d : Nat} (h : dOK f) (hb : b < 10) (e : f b = -1) (hd : d ≤ a + 9) (ha : a + 9 * dU f 10 ≤ 81) : dOK (upd f b (nI d)) ∧ dMu (upd f b (nI d)) 10 < dMu f 10 := by
  have hu := dU_upd (f := f) (v := nI d) 10 hb
  have hm := dMu_upd (f := f) (v := nI d) 10 hb
  have hn : ¬ nI d = -1 := nI_m1 (by omega)
  rw [if_pos e, if_neg hn] at hu
  have w1 : dW (f b) = 100 := by unfold dW; rw [if_pos e]
  have w2 : dW (nI d) = d := by unfold dW; rw [if_neg hn, nI_clamp (by omega)]
  refine ⟨fun t ht => ?_, by omega⟩
  by_cases et : t = b
  · subst et; right; rw [pk_us]; exact ⟨d, rfl, by omega⟩
  · rw [pk_un et]
    rcases h t ht with q | ⟨q, q1, q2⟩
    · exact Or.inl q
    · exact Or.inr ⟨q, q1, by omega⟩
theorem dOK.two {f : Nat → Int32} {b c d : Nat} (h : dOK f) (hb : b < 10) (e : f b = nI c) (hc : c + 9 * dU f 10 ≤ 81) (hd : d < c) : dOK (upd f b (nI d)) ∧ dMu (upd f b (nI d)) 10 < dMu f 10 := by
  have hu := dU_upd (f := f) (v := nI d) 10 hb
  have hm := dMu_upd (f := f) (v := nI d) 10 hb
  have hn : ¬ nI d = -1 := nI_m1 (by omega)
  have hn2 : ¬ f b = -1 := by rw [e]; exact nI_m1 (by omega)
  rw [if_neg hn2, if_neg hn] at hu
  have w1 : dW (f b) = c := by unfold dW; rw [if_neg hn2, e, nI_clamp (by omega)]
  have w2 : dW (nI d) = d := by unfold dW; rw [if_neg hn, nI_clamp (by omega)]
  refine ⟨fun t ht => ?_, by omega⟩
  by_cases et : t = b
  · subst et; right; rw [pk_us]; exact ⟨d, rfl, by omega⟩
  · rw [pk_un et]
    rcases h t ht with q | ⟨q, q1, q2⟩
    · exact Or.inl q
    · exact Or.inr ⟨q, q1, by omega⟩
/-- at the start: one 0 at most -/
def dInit (f : Nat → Int32) (x : Int32) (i : Nat) : Prop := ∀ t : Nat, t < i → f t = if nI t = x then nI 0 else -1
theorem dInit.nil {f : Nat → Int32} {x : Int32} : dInit f x 0 := fun _ h => absurd h (Nat.not_lt_zero _)
theorem dInit.step {f g : Nat → Int32} {x v : Int32} {i : Nat} (h : dInit f x i) (e : g = upd f i v) (hv : v = if nI i = x then nI 0 else -1) : dInit g x (i + 1) := by
  intro t ht
  rw [e]
  by_cases et : t = i
  · subst et; rw [pk_us]; exact hv
  · rw [pk_un et]; exact h t (by omega)
theorem dU_ge {f : Nat → Int32} {x : Int32} : ∀ k : Nat, k < 2 ^ 31 → dInit f x k → k ≤ dU f k + 1 ∧ ((∀ t : Nat, t < k → ¬ nI t = x) → k ≤ dU f k)
  | 0, _, _ => ⟨by omega, fun _ => Nat.le_refl _⟩
  | k + 1, hk, h => by
    have ih := dU_ge (f := f) (x := x) k (by omega) (fun t ht => h t (by omega))
    have hl := h k (by omega)
    unfold dU
    by_cases e : nI k = x
    · rw [if_pos e] at hl
      have h0 : ∀ t : Nat, t < k → ¬ nI t = x := fun t ht q => by
        have := nI_inj (a := t) (b := k) (by omega) (by omega) (q.trans e.symm); omega
      have := ih.2 h0
      refine ⟨by omega, fun q => absurd e (q k (by omega))⟩
    · rw [if_neg e] at hl
      rw [if_pos hl]
      refine ⟨by omega, fun q => ?_⟩
      have := ih.2 (fun t ht => q t (by omega)); omega
theorem dU_le {f : Nat → Int32} : ∀ k : Nat, dU f k ≤ k
  | 0 => Nat.le_refl _
  | k + 1 => by
    have := dU_le (f := f) k
    unfold dU; split <;> omega
theorem dU_lt {f : Nat → Int32} {t : Nat} (ht : t < 10) (h : ¬ f t = -1) : dU f 10 ≤ 9 := by
  have h1 : ∀ k : Nat, t < k → dU f k + 1 ≤ k := by
    intro k hk
    induction hk with
    | refl => unfold dU; rw [if_neg h]; have := dU_le (f := f) t; omega
    | step _ ih => unfold dU; split <;> omega
  have := h1 10 ht
  omega
theorem dInit.ok {f : Nat → Int32} {x : Int32} (h : dInit f x 10) : dOK f := by
  intro t ht
  have h1 := h t ht
  by_cases e : nI t = x
  · rw [if_pos e] at h1
    exact Or.inr ⟨0, h1, by
      have := dU_lt (f := f) ht (by rw [h1]; exact nI_m1 (by decide))
      omega⟩
  · rw [if_neg e] at h1; exact Or.inl h1
/-- a road's side is settled -/
def SS (f n : Nat → Int32) (r s : Nat) : Prop := ∀ q : Nat, q ≤ 81 → f (nv n (3 * r + 50 + s)) = nI q → ∃ p : Nat, p ≤ q + nv n (3 * r + 52) ∧ p ≤ 81 ∧ f (nv n (3 * r + 51 - s)) = nI p
theorem SS.a {f n : Nat → Int32} {r s e k : Nat} (ea : n e = nI k) (he : e = 3 * r + 50 + s) (hk : k < 10) (ef : f k = -1) : SS f n r s := by
  intro q hq h
  rw [← he, nv_of ea (by omega), ef] at h
  exact absurd h.symm (nI_m1 (by omega))
theorem SS.b {f n : Nat → Int32} {r s e e' k k' w a b : Nat} (ea : n e = nI k) (he : e = 3 * r + 50 + s) (hk : k < 10) (eb : n e' = nI k') (he' : e' = 3 * r + 51 - s) (hk' : k' < 10) (ew : n (3 * r + 52) = nI w) (hw : w < 10) (efa : f k = nI a) (efb : f k' = nI b) (ha : a ≤ 81) (hb : b ≤ 81) (h : b ≤ a + w) : SS f n r s := by
  intro q hq h2
  rw [← he, nv_of ea (by omega), efa] at h2
  have e1 := nI_inj (by omega) (by omega) h2
  refine ⟨b, ?_, hb, ?_⟩
  · rw [nv_of ew (by omega)]; omega
  · rw [← he', nv_of eb (by omega)]; exact efb
theorem dOK.le {f : Nat → Int32} {t d : Nat} (h : dOK f) (ht : t < 10) (e : f t = nI d) (hd : d < 2 ^ 31) : d ≤ 81 := by
  rcases h t ht with q | ⟨q, q1, q2⟩
  · exact absurd (e.symm.trans q) (nI_m1 hd)
  · have := nI_inj hd (by omega) (e.symm.trans q1)
    omega
def DP (f n : Nat → Int32) (m c : Nat) : Prop := ∀ P : Nat → Nat, P c = 0 → FE n m P → ∀ t q : Nat, t < 10 → q ≤ 81 → f t = nI q → P t ≤ q
theorem DP.ini {f n : Nat → Int32} {m c : Nat} (h : dInit f (nI c) 10) (hc : c < 10) : DP f n m c := by
  intro P h0 _ t q ht hq e
  have h1 := h t ht
  by_cases z : nI t = nI c
  · rw [nI_inj (by omega) (by omega) z, h0]; omega
  · rw [if_neg z, e] at h1
    exact absurd h1 (nI_m1 (by omega))
theorem dInit.c0 {f : Nat → Int32} {c : Nat} (h : dInit f (nI c) 10) (hc : c < 10) : f c = nI 0 := by
  have h1 := h c hc
  rw [if_pos rfl] at h1; exact h1
theorem DP.w {f f' n : Nat → Int32} {m c r s e e' k k' w a d : Nat} (h : DP f n m c) (ef' : f' = upd f k' (nI d)) (hr : r < m) (hs : s < 2) (ea : n e = nI k) (he : e = 3 * r + 50 + s) (hk : k < 10) (eb : n e' = nI k') (he' : e' = 3 * r + 51 - s) (hk' : k' < 10) (ew : n (3 * r + 52) = nI w) (hw : w < 10) (efa : f k = nI a) (ha : a ≤ 81) (hd : d = a + w) (hd2 : d ≤ 81) : DP f' n m c := by
  intro P h0 hF t q ht hq e1
  rw [ef'] at e1
  by_cases z : t = k'
  · subst z
    rw [pk_us] at e1
    have e2 := nI_inj (by omega) (by omega) e1
    have h2 := h P h0 hF k a hk ha efa
    have h3 := hF r hr
    have x0 := nv_of ew (show w < 2 ^ 31 by omega)
    rcases (show s = 0 ∨ s = 1 by omega) with rfl | rfl
    · rw [show e = 3 * r + 50 by omega] at ea
      rw [show e' = 3 * r + 51 by omega] at eb
      rw [nv_of ea (by omega), nv_of eb (by omega), x0] at h3
      omega
    · rw [show e = 3 * r + 51 by omega] at ea
      rw [show e' = 3 * r + 50 by omega] at eb
      rw [nv_of ea (by omega), nv_of eb (by omega), x0] at h3
      omega
  · rw [pk_un z] at e1; exact h P h0 hF t q ht hq e1
theorem c0_n {f f' : Nat → Int32} {c k d : Nat} (h : f c = nI 0) (ef' : f' = upd f k (nI d)) (e : f k = -1) : f' c = nI 0 := by
  rw [ef', pk_un]; exact h
  intro z; subst z
  exact absurd (h.symm.trans e) (nI_m1 (by omega))
theorem c0_y {f f' : Nat → Int32} {c k d b : Nat} (h : f c = nI 0) (ef' : f' = upd f k (nI d)) (e : f k = nI b) (hb : b < 2 ^ 31) (hd : d < b) : f' c = nI 0 := by
  rw [ef', pk_un]; exact h
  intro z; subst z
  have := nI_inj (by omega) hb (h.symm.trans e)
  omega
theorem FX.of {f n : Nat → Int32} {m c : Nat} (h1 : dOK f) (h2 : f c = nI 0) (h3 : ∀ r : Nat, r < m → SS f n r 0 ∧ SS f n r 1) (h4 : DP f n m c) : FX f n m c := by
  refine ⟨fun t ht => ?_, h2, fun r hr q hq => ⟨fun e => ?_, fun e => ?_⟩, h4⟩
  · rcases h1 t ht with e | ⟨q, e, hq⟩
    · exact Or.inl e
    · exact Or.inr ⟨q, by omega, e⟩
  · exact (h3 r hr).1 q hq e
  · exact (h3 r hr).2 q hq e
/-! ===== a new road, step by step ===== -/
def JI (T C : Nat → Int32) (u a b d i j : Nat) : Prop := WV C ∧ (∀ p q : Nat, p < 10 → q < 10 → ¬ (p < u ∧ q < u) → tv C p q = tv T p q) ∧ (∀ p q : Nat, p < u → q < u → tv C p q ≤ tv T p q ∧ ((p < i ∨ (p = i ∧ q < j)) → tv C p q ≤ tv T p a + d + tv T b q ∧ tv C p q ≤ tv T p b + d + tv T a q)) ∧ ∀ N : Nat → Nat → Nat, (∀ p q : Nat, p < u → q < u → N p q ≤ tv T p q) → (∀ p q : Nat, p < u → q < u → N p q ≤ N p a + d + N b q ∧ N p q ≤ N p b + d + N a q) → ∀ p q : Nat, p < u → q < u → N p q ≤ tv C p q
theorem JI.nil {T : Nat → Int32} {u a b d : Nat} (h : WV T) : JI T T u a b d 0 0 := ⟨h, fun _ _ _ _ _ => rfl, fun _ _ _ _ => ⟨Nat.le_refl _, fun q => by omega⟩, fun _ h1 _ => h1⟩
theorem JI.row {T C : Nat → Int32} {u a b d i : Nat} (h : JI T C u a b d i u) : JI T C u a b d (i + 1) 0 := by
  obtain ⟨h1, h2, h3, h4⟩ := h
  exact ⟨h1, h2, fun p q hp hq => ⟨(h3 p q hp hq).1, fun c => (h3 p q hp hq).2 (by omega)⟩, h4⟩
theorem JI.fin {T C : Nat → Int32} {u a b d : Nat} (h : JI T C u a b d u 0) : JP T C u a b d := by
  obtain ⟨h1, h2, h3, h4⟩ := h
  exact ⟨h1, h2, fun p q hp hq => ⟨(h3 p q hp hq).1, (h3 p q hp hq).2 (Or.inl hp)⟩, h4⟩
def mC (C : Nat → Int32) (a b d i j : Nat) : Nat := min (tv C i j) (min (tv C i a + d + tv C b j) (tv C i b + d + tv C a j))
theorem tv_u {C : Nat → Int32} {i j p q v : Nat} (hj : j < 10) (hq : q < 10) (hv : v ≤ 1000) : tv (upd C (i * 10 + j) (nI v)) p q = if p = i ∧ q = j then v else tv C p q := by
  unfold tv
  by_cases c : p = i ∧ q = j
  · rw [if_pos c, c.1, c.2, pk_us]; exact nI_clamp (by omega)
  · rw [if_neg c, pk_un (by omega)]
theorem JI.step {T C : Nat → Int32} {u a b d i j : Nat} (h : JI T C u a b d i j) (hu : u ≤ 10) (ha : a < u) (hb : b < u) (hi : i < u) (hj : j < u) : JI T (upd C (i * 10 + j) (nI (mC C a b d i j))) u a b d i (j + 1) := by
  obtain ⟨h1, h2, h3, h4⟩ := h
  have hle := (h1.at (i := i) (j := j) (by omega) (by omega)).2
  have hm : mC C a b d i j ≤ tv C i j ∧ mC C a b d i j ≤ tv C i a + d + tv C b j ∧ mC C a b d i j ≤ tv C i b + d + tv C a j ∧ (mC C a b d i j = tv C i j ∨ mC C a b d i j = tv C i a + d + tv C b j ∨ mC C a b d i j = tv C i b + d + tv C a j) := by
    unfold mC; omega
  have e : ∀ p q : Nat, q < 10 → tv (upd C (i * 10 + j) (nI (mC C a b d i j))) p q = if p = i ∧ q = j then mC C a b d i j else tv C p q := fun p q hq => tv_u (by omega) hq (by omega)
  refine ⟨fun k hk => ?_, fun p q hp hq c => ?_, fun p q hp hq => ?_, fun N n1 n2 p q hp hq => ?_⟩
  · by_cases c : k = i * 10 + j
    · subst c; rw [pk_us]; exact ⟨_, by omega, rfl⟩
    · rw [pk_un c]; exact h1 k hk
  · rw [e p q hq, if_neg (by omega)]; exact h2 p q hp hq c
  · rw [e p q (by omega)]
    have y := h3 p q hp hq
    by_cases c : p = i ∧ q = j
    · rw [if_pos c, c.1, c.2]
      have z1 := (h3 i a hi ha).1
      have z2 := (h3 b j hb hj).1
      have z3 := (h3 i b hi hb).1
      have z4 := (h3 a j ha hj).1
      have z5 := (h3 i j hi hj).1
      exact ⟨by omega, fun _ => ⟨by omega, by omega⟩⟩
    · rw [if_neg c]
      exact ⟨y.1, fun c2 => y.2 (by omega)⟩
  · rw [e p q (by omega)]
    by_cases c : p = i ∧ q = j
    · rw [if_pos c, c.1, c.2]
      have y := h4 N n1 n2
      have z0 := n2 i j hi hj
      have z1 := y i a hi ha
      have z2 := y b j hb hj
      have z3 := y i b hi hb
      have z4 := y a j ha hj
      have z5 := y i j hi hj
      omega
    · rw [if_neg c]; exact h4 N n1 n2 p q hp hq
theorem mmN {A B : Nat} (hA : A < 2 ^ 31) (hB : B < 2 ^ 31) : (if nI B < nI A then nI B else nI A) = nI (min A B) := by
  by_cases c : B < A
  · rw [if_pos ((nI_ltI hB hA).mpr c)]; exact congrArg nI (by omega)
  · rw [if_neg (fun q => c ((nI_ltI hB hA).mp q))]; exact congrArg nI (by omega)

section WAY
variable {K : Nat → Nat} {S T : FS} {za zb zc zd : Int32}
def E58 (T T' : FS) : Prop := T'.1 = T.1 ∧ ∀ a : Nat, a ≠ 58 → T'.2 a = T.2 a
theorem E58.rf : E58 T T := ⟨rfl, fun _ _ => rfl⟩
theorem E58.tr {A B C : FS} (h : E58 A B) (g : E58 B C) : E58 A C := ⟨g.1.trans h.1, fun a ha => (g.2 a ha).trans (h.2 a ha)⟩
theorem E58.w {j : Nat} {v : Int32} : E58 T (wA T 58 j v) := ⟨rfl, fun _ ha => wA_n ha⟩
theorem E58.me {T' : FS} (h : E58 T T') : ME T T' := ⟨⟨⟨h.2 _ (by decide), h.2 _ (by decide), h.2 _ (by decide), h.2 _ (by decide), h.2 _ (by decide)⟩, by rw [h.1], by rw [h.1]⟩, h.2 _ (by decide)⟩
def DI (n : Nat → Int32) (m c : Nat) (f : Nat → Int32) : Prop := dOK f ∧ f c = nI 0 ∧ DP f n m c
theorem dOK.at {f : Nat → Int32} (h : dOK f) {t : Nat} (ht : t < 10) : f t = -1 ∨ ∃ q : Nat, f t = nI q ∧ q + 9 * dU f 10 ≤ 81 := h t ht
/-- one side of one road -/
theorem fd_side {n : Nat → Int32} {m c r s : Nat} (hn : T.2 55 = n) (hb : RB n m) (hm : m ≤ 20) (hr : r < m) (hs : s < 2) (hd : DI n m c (T.2 58)) (x : Int32) :
    ∃ (T' : FS) (x' : Int32), E58 T T' ∧ DI n m c (T'.2 58) ∧ ((T' = T ∧ x' = x ∧ SS (T.2 58) n r s) ∨ (x' = 1 ∧ dMu (T'.2 58) 10 < dMu (T.2 58) 10)) ∧ ∀ k g, l_X12_findDays_53 (nI r) k (g + 1) T x (nI s) = l_X12_findDays_53 (nI r) k g T' x' (nI (s + 1)) := by
  obtain ⟨h1, h2, h3⟩ := hd
  obtain ⟨⟨b1, b2⟩, b3, b4, b5, b6⟩ := hb r hr
  have x1 : ix 2071 ((50 + 3 * nI r) + nI s) = some (3 * r + 50 + s) := ix_lin (b := 50) (s := 3) (by omega) (by omega) (by decide)
  have x2 : ix 2071 (((50 + 3 * nI r) + 1) - nI s) = some (3 * r + 51 - s) := by
    rw [show ((50 : Int32) + 3 * nI r) + 1 = nI (3 * r + 51) by
      rw [show (3 : Int32) = nI 3 from rfl, show (50 : Int32) = nI 50 from rfl, pk_mul, nI_add, nI_1]; exact congrArg nI (by omega), pk_sub (by omega)]
    exact ix_nI (by omega) (by decide)
  have x3 : ix 2071 ((50 + 3 * nI r) + 2) = some (3 * r + 52) := ix_lin (b := 50) (s := 3) (c := 2) (by omega) (by omega) (by decide)
  -- the two ends
  obtain ⟨A, B, hA, hB, eA, eB⟩ : ∃ A B : Nat, A < 10 ∧ B < 10 ∧ n (3 * r + 50 + s) = nI A ∧ n (3 * r + 51 - s) = nI B := by
    rcases (show s = 0 ∨ s = 1 by omega) with rfl | rfl
    · exact ⟨_, _, b1, b2, b4, b5⟩
    · exact ⟨_, _, b2, b1, b5, b4⟩
  generalize hw : nv n (3 * r + 52) = w at b3 b6
  have go : ∀ k g, l_X12_findDays_53 (nI r) k (g + 1) T x (nI s) = (if T.2 58 A < 0 then l_X12_findDays_53 (nI r) k g T x (nI (s + 1)) else if T.2 58 B < 0 then l_X12_findDays_53 (nI r) k g (wA T 58 B (T.2 58 A + nI w)) 1 (nI (s + 1)) else if T.2 58 A + nI w < T.2 58 B then l_X12_findDays_53 (nI r) k g (wA T 58 B (T.2 58 A + nI w)) 1 (nI (s + 1)) else l_X12_findDays_53 (nI r) k g T x (nI (s + 1))) := by
    intro k g
    rw [l_X12_findDays_53, if_pos (show nI s < 2 from nI_lt hs (by decide)), x1]
    simp only [fb_s, fv_s, x2, x3, hn, eA, eB, b6, ix_nI hA (by decide), ix_nI hB (by decide), fl_s, nI_1]
  rcases h1.at hA with ea | ⟨a, ea, ha⟩
  · refine ⟨T, x, E58.rf, ⟨h1, h2, h3⟩, Or.inl ⟨rfl, rfl, SS.a eA rfl hA ea⟩, fun k g => ?_⟩
    rw [go, ea, if_pos (by decide)]
  · have na : ¬ nI a < 0 := nI_pos (by omega)
    have su : nI a + nI w = nI (a + w) := nI_add a w
    rcases h1.at hB with eb | ⟨b, eb, hb'⟩
    · have o := h1.one (d := a + w) hB eb (by omega) ha
      have hu : dU (T.2 58) 10 ≥ 1 := by
        have := dU_upd (f := T.2 58) (v := nI (a + w)) 10 hB
        rw [if_pos eb, if_neg (nI_m1 (by omega))] at this
        omega
      refine ⟨wA T 58 B (nI (a + w)), 1, E58.w, ?_, Or.inr ⟨rfl, ?_⟩, fun k g => ?_⟩
      · rw [wA_e]
        exact ⟨o.1, c0_n h2 rfl eb, h3.w rfl hr hs eA rfl hA eB rfl hB b6 b3 ea (by omega) rfl (by omega)⟩
      · rw [wA_e]; exact o.2
      · rw [go, ea, if_neg na, eb, if_pos (by decide), su]
    · by_cases c1 : a + w < b
      · have o := h1.two (d := a + w) hB eb hb' c1
        refine ⟨wA T 58 B (nI (a + w)), 1, E58.w, ?_, Or.inr ⟨rfl, ?_⟩, fun k g => ?_⟩
        · rw [wA_e]
          exact ⟨o.1, c0_y h2 rfl eb (by omega) c1, h3.w rfl hr hs eA rfl hA eB rfl hB b6 b3 ea (by omega) rfl (by omega)⟩
        · rw [wA_e]; exact o.2
        · rw [go, ea, if_neg na, eb, if_neg (nI_pos (by omega)), su, if_pos (nI_lt c1 (by omega))]
      · refine ⟨T, x, E58.rf, ⟨h1, h2, h3⟩, Or.inl ⟨rfl, rfl, SS.b eA rfl hA eB rfl hB b6 b3 ea eb (by omega) (by omega) (by omega)⟩, fun k g => ?_⟩
        rw [go, ea, if_neg na, eb, if_neg (nI_pos (by omega)), su, if_neg (nI_nlt (by omega) (by omega))]
theorem fd_road {n : Nat → Int32} {m c r : Nat} (hn : T.2 55 = n) (hb : RB n m) (hm : m ≤ 20) (hr : r < m) (hd : DI n m c (T.2 58)) (x : Int32) :
    ∃ (T' : FS) (x' : Int32), E58 T T' ∧ DI n m c (T'.2 58) ∧ ((T' = T ∧ x' = x ∧ SS (T.2 58) n r 0 ∧ SS (T.2 58) n r 1) ∨ (x' = 1 ∧ dMu (T'.2 58) 10 < dMu (T.2 58) 10)) ∧ ∀ k, l_X12_findDays_53 (nI r) k FU T x 0 = k T' x' 2 := by
  obtain ⟨T1, x1, e1, d1, o1, g1⟩ := fd_side (s := 0) hn hb hm hr (by decide) hd x
  obtain ⟨T2, x2, e2, d2, o2, g2⟩ := fd_side (T := T1) (s := 1) ((e1.2 55 (by decide)).trans hn) hb hm hr (by decide) d1 x1
  refine ⟨T2, x2, e1.tr e2, d2, ?_, fun k => ?_⟩
  · rcases o1 with ⟨rfl, rfl, s1⟩ | ⟨f1, m1⟩
    · rcases o2 with ⟨rfl, rfl, s2⟩ | o2
      · exact Or.inl ⟨rfl, rfl, s1, s2⟩
      · exact Or.inr o2
    · rcases o2 with ⟨rfl, rfl, s2⟩ | ⟨f2, m2⟩
      · exact Or.inr ⟨f1, m1⟩
      · exact Or.inr ⟨f2, by omega⟩
  · rw [show l_X12_findDays_53 (nI r) k FU T x 0 = l_X12_findDays_53 (nI r) k (4999 + 1) T x (nI 0) from rfl, g1 k 4999, show (4999 : Nat) = 4998 + 1 from rfl, g2 k 4998, show (4998 : Nat) = 4997 + 1 from rfl, l_X12_findDays_53, if_neg (by decide)]; rfl
theorem fd_roads {n : Nat → Int32} {m c : Nat} (hb : RB n m) (hm : m ≤ 20) (h1 : n 1 = nI m) : ∀ (g i : Nat) (T : FS) (x : Int32), i ≤ m → m - i < g → T.2 55 = n → DI n m c (T.2 58) →
    ∃ (T' : FS) (x' : Int32), E58 T T' ∧ DI n m c (T'.2 58) ∧ ((T' = T ∧ x' = x ∧ ∀ r : Nat, i ≤ r → r < m → SS (T.2 58) n r 0 ∧ SS (T.2 58) n r 1) ∨ (x' = 1 ∧ dMu (T'.2 58) 10 < dMu (T.2 58) 10)) ∧ ∀ k, l_X12_findDays_40 k g T x (nI i) = k T' x' (nI m) := by
  intro g
  induction g with
  | zero => intro i T x _ h; exact absurd h (Nat.not_lt_zero _)
  | succ g ih =>
    intro i T x hi hg hn hd
    by_cases ci : i < m
    · obtain ⟨T1, x1, e1, d1, o1, g1⟩ := fd_road hn hb hm ci hd x
      obtain ⟨T2, x2, e2, d2, o2, g2⟩ := ih (i + 1) T1 x1 (by omega) (by omega) ((e1.2 55 (by decide)).trans hn) d1
      refine ⟨T2, x2, e1.tr e2, d2, ?_, fun k => ?_⟩
      · rcases o1 with ⟨rfl, rfl, s1⟩ | ⟨f1, m1⟩
        · rcases o2 with ⟨rfl, rfl, s2⟩ | o2
          · refine Or.inl ⟨rfl, rfl, fun r q1 q2 => ?_⟩
            by_cases e : r = i
            · subst e; exact s1
            · exact s2 r (by omega) q2
          · exact Or.inr o2
        · rcases o2 with ⟨rfl, rfl, s2⟩ | ⟨f2, m2⟩
          · exact Or.inr ⟨f1, m1⟩
          · exact Or.inr ⟨f2, by omega⟩
      · rw [l_X12_findDays_40, hn, h1, if_pos (nI_lt ci (by omega)), g1, nI_1]; exact g2 k
    · have ei : i = m := by omega
      subst ei
      refine ⟨T, x, E58.rf, hd, Or.inl ⟨rfl, rfl, fun r q1 q2 => by omega⟩, fun k => ?_⟩
      rw [l_X12_findDays_40, hn, h1, if_neg (nI_nlt (Nat.le_refl _) (by omega))]
theorem fd_while {n : Nat → Int32} {m c : Nat} (hb : RB n m) (hm : m ≤ 20) (h1 : n 1 = nI m) : ∀ (g : Nat) (T : FS) (x : Int32), dMu (T.2 58) 10 + 1 < g → x ≠ 0 → T.2 55 = n → DI n m c (T.2 58) →
    ∃ T' : FS, E58 T T' ∧ FX (T'.2 58) n m c ∧ ∀ k, l_X12_findDays_32 k g T x = k T' 0 := by
  intro g
  induction g with
  | zero => intro T x h; exact absurd h (Nat.not_lt_zero _)
  | succ g ih =>
    intro T x hg hx hn hd
    obtain ⟨T1, x1, e1, d1, o1, g1⟩ := fd_roads (c := c) hb hm h1 FU 0 T 0 (Nat.zero_le _) (FU_lt (by omega)) hn hd
    rcases o1 with ⟨rfl, rfl, s1⟩ | ⟨rfl, m1⟩
    · refine ⟨T1, E58.rf, FX.of d1.1 d1.2.1 (fun r hr => s1 r (Nat.zero_le _) hr) d1.2.2, fun k => ?_⟩
      obtain ⟨g', rfl⟩ : ∃ g' : Nat, g = g' + 1 := ⟨g - 1, by omega⟩
      rw [l_X12_findDays_32, if_neg hx, show l_X12_findDays_40 (fun S29 x29_2 x29_3 => l_X12_findDays_32 k (g' + 1) S29 x29_2) FU T1 0 0 = _ from g1 _, l_X12_findDays_32, if_pos rfl]
    · obtain ⟨T2, e2, f2, g2⟩ := ih T1 1 (by omega) (by decide) ((e1.2 55 (by decide)).trans hn) d1
      refine ⟨T2, e1.tr e2, f2, fun k => ?_⟩
      rw [l_X12_findDays_32, if_neg hx, show l_X12_findDays_40 (fun S29 x29_2 x29_3 => l_X12_findDays_32 k g S29 x29_2) FU T 0 0 = _ from g1 _]; exact g2 k
theorem fd_init {c : Nat} (hc : c < 10) : ∀ (g i : Nat) (T : FS), i ≤ 10 → 10 - i < g → dInit (T.2 58) (nI c) i → ∃ T' : FS, E58 T T' ∧ dInit (T'.2 58) (nI c) 10 ∧ ∀ k, l_X12_findDays_2 (nI c) k g T (nI i) = k T' (nI 10) := by
  intro g
  induction g with
  | zero => intro i T _ h; exact absurd h (Nat.not_lt_zero _)
  | succ g ih =>
    intro i T hi hg hd
    by_cases ci : i < 10
    · by_cases e : nI i = nI c
      · obtain ⟨T1, e1, d1, g1⟩ := ih (i + 1) (wA T 58 i (nI 0)) (by omega) (by omega) (by rw [wA_e]; exact hd.step rfl (by rw [if_pos e]))
        refine ⟨T1, E58.w.tr e1, d1, fun k => ?_⟩
        rw [l_X12_findDays_2, if_pos (show nI i < 10 from nI_lt ci (by decide)), if_pos e, ix_nI ci (by decide), fb_s, fl_s, nI_1]; exact g1 k
      · obtain ⟨T1, e1, d1, g1⟩ := ih (i + 1) (wA T 58 i (-1)) (by omega) (by omega) (by rw [wA_e]; exact hd.step rfl (by rw [if_neg e]))
        refine ⟨T1, E58.w.tr e1, d1, fun k => ?_⟩
        rw [l_X12_findDays_2, if_pos (show nI i < 10 from nI_lt ci (by decide)), if_neg e, ix_nI ci (by decide), fb_s, fl_s, nI_1]; exact g1 k
    · have ei : i = 10 := by omega
      subst ei
      refine ⟨T, E58.rf, hd, fun k => ?_⟩
      rw [l_X12_findDays_2, if_neg (by decide)]
theorem dMu_le {f : Nat → Int32} (h : dOK f) : ∀ k : Nat, k ≤ 10 → dMu f k ≤ 100 * k
  | 0, _ => Nat.le_refl _
  | k + 1, hk => by
    have ih := dMu_le h k (by omega)
    have : dW (f k) ≤ 100 := by
      unfold dW
      split
      · exact Nat.le_refl _
      · rcases h k (by omega) with e | ⟨q, e, hq⟩
        · rw [e]; decide
        · rw [e, nI_clamp (by omega)]; omega
    unfold dMu; omega
/-- the model finds the days from town c on -/
theorem RelR.findDays (h : RelR K S (T.2 55)) {c : Nat} (hc : c < 10) : ∃ T' : FS, E58 T T' ∧ FX (T'.2 58) (T.2 55) (K 1) c ∧ f_X12_findDays T (nI c) = some (0, T') := by
  obtain ⟨-, k1, k2⟩ := h.ct 101 1 20 (by decide)
  obtain ⟨T1, e1, d1, g1⟩ := fd_init hc FU 0 T (Nat.zero_le _) (FU_lt (by omega)) dInit.nil
  have hd : DI (T.2 55) (K 1) c (T1.2 58) := ⟨d1.ok, d1.c0 hc, DP.ini d1 hc⟩
  have hl := dMu_le d1.ok 10 (Nat.le_refl _)
  obtain ⟨T2, e2, d2, g2⟩ := fd_while (c := c) h.wy.2.1 k2 k1 FU T1 1 (FU_lt (by omega)) (by decide) (e1.2 55 (by decide)) hd
  refine ⟨T2, e1.tr e2, d2, ?_⟩
  unfold f_X12_findDays
  rw [show ∀ k, l_X12_findDays_2 (nI c) k FU T 0 = k T1 (nI 10) from g1, g2]
/-- how far: the class's ways and the model's days -/
theorem RelR.farOf (h : RelR K S (T.2 55)) {c t : Nat} (hc : c < K 0) (ht : t < K 0) : ∃ (T' : FS) (x : Int32), E58 T T' ∧ f_X12_farOf T (nI c) (nI t) = some (x, T') ∧ ((x < 0 ∧ p_X7_wayBetween S (nI c) (nI t) = -1000002) ∨ ∃ d : Nat, d ≤ 81 ∧ x = nI d ∧ p_X7_wayBetween S (nI c) (nI t) = nI d) := by
  have c0 := (h.ct 2 0 10 (by decide)).2.2
  obtain ⟨T1, e1, f1, g1⟩ := h.findDays (c := c) (by omega)
  have hf := FX.far h.wy f1 (show c < 10 by omega) (show t < 10 by omega)
  refine ⟨T1, T1.2 58 t, e1, ?_, ?_⟩
  · unfold f_X12_farOf
    rw [g1, fb_s, ix_nI (by omega) (by decide), fb_s]
  · have hw := h.wy.1.at (i := c) (j := t) (by omega) (by omega)
    unfold p_X7_wayBetween
    rw [g4 (by omega) (by omega), show 10 * c + t = c * 10 + t by omega, hw.1, fv_s]
    unfold vWy vFr at hf
    rcases f1.1 t (by omega) with e | ⟨q, hq, e⟩
    · left
      rw [e, show (if (-1 : Int32) < 0 then (-1000002 : Int32) else -1) = -1000002 from rfl] at hf
      rw [e]
      refine ⟨by decide, ?_⟩
      by_cases z : 1000 ≤ tv (S.2 5) c t
      · rw [if_neg (show ¬ nI _ < 1000 from nI_nlt (b := 1000) z (by omega))]
      · rw [if_neg z] at hf
        exact absurd hf (fun q => nI_pos (n := tv (S.2 5) c t) (by omega) (by rw [q]; decide))
    · right
      rw [e, if_neg (nI_pos (by omega))] at hf
      refine ⟨q, hq, e, ?_⟩
      by_cases z : 1000 ≤ tv (S.2 5) c t
      · rw [if_pos z] at hf
        exact absurd hf.symm (fun z => nI_pos (n := q) (by omega) (by rw [z]; decide))
      · rw [if_neg z] at hf
        rw [if_pos (show nI _ < 1000 from nI_lt (b := 1000) (by omega) (by decide))]; exact hf
theorem op_far (h : RelR K S (T.2 55)) : OK2 S T (f_X11_far S za zb) (f_X12_far T za zb) := by
  unfold f_X11_far f_X12_far
  simp only [fb_id]
  rcases h.twn za with ⟨c1, m1⟩ | ⟨p, hp, rfl, c1, m1⟩
  · simp only [c1, m1, ↓reduceIte]; exact ok_1 h
  · rcases h.twn zb with ⟨c2, m2⟩ | ⟨q, hq, rfl, c2, m2⟩
    · simp only [c1, m1, c2, m2, i10, ↓reduceIte]; exact ok_1 h
    · simp only [c1, m1, c2, m2, i10, ↓reduceIte]
      obtain ⟨T1, x, e1, g1, o1⟩ := h.farOf hp hq
      rw [g1, fb_s]
      have h1 : RelR K S (T1.2 55) := by rw [e1.2 55 (by decide)]; exact h
      rcases o1 with ⟨a, b⟩ | ⟨d, hd, rfl, b⟩
      · rw [if_pos a, b]; exact okf h1 CX.rf e1.me.1 (finds_2 T1)
      · rw [if_neg (nI_pos (by omega)), b]; exact okt h1 CX.rf e1.me.1
end WAY
