section UPD
variable {K : Nat → Nat} {S S' : FS} {n n' : Nat → Int32}
/-- coin, men, what is known: columns of persons that both have -/
theorem RPe.w {f : Nat → Int32} {p c : Nat} {x : Int32} (h : RPe K f n) (b : K 2 ≤ 20) (hp : p < K 2) (hc : c = 7 ∨ c = 8 ∨ c = 10) : RPe K (upd f (14 * p + c) x) (upd n (14 * p + (110 + c)) x) := by
  intro q hq
  have h1 := h q hq
  unfold PLv at h1 ⊢
  by_cases e : q = p
  · subst e
    rcases hc with rfl | rfl | rfl
    · simp (disch := omega) only [pk_us, pk_un]
      exact ⟨h1.1, ⟨trivial, h1.2.1.2⟩, h1.2.2⟩
    · simp (disch := omega) only [pk_us, pk_un]
      exact ⟨h1.1, ⟨h1.2.1.1, trivial, h1.2.1.2.2⟩, h1.2.2⟩
    · simp (disch := omega) only [pk_us, pk_un]
      exact ⟨h1.1, ⟨h1.2.1.1, h1.2.1.2.1, trivial, h1.2.1.2.2.2⟩, h1.2.2⟩
  · rcases hc with rfl | rfl | rfl <;> (simp (disch := omega) only [pk_un]; exact h1)
theorem vL.w {P p c : Nat} {x v : Int32} (h : vL P n x) (hc : c < 14 ∧ c ≠ 9) : vL P (upd n (14 * p + (110 + c)) v) x := by
  rcases h with h | ⟨q, h1, h2, h3⟩
  · exact Or.inl h
  · exact Or.inr ⟨q, h1, h2, by rw [pk_un (by omega)]; exact h3⟩
theorem RSe.w {p c : Nat} {v : Int32} (h : RSe K n) (hc : c < 14 ∧ c ≠ 11) : RSe K (upd n (14 * p + (110 + c)) v) := by
  refine ⟨?_, h.2⟩
  rw [pm_cnt_congr (q := fun p => n (14 * p + 121) == 1) (fun j hj => by rw [pk_un (by omega)])]; exact h.1
theorem RSt.w {f : Nat → Int32} {p c d : Nat} {u v : Int32} (h : RSt K f n) (b : K 2 ≤ 20) (hc : c < 14 ∧ c ≠ 2 ∧ c ≠ 3) (hd : d < 14 ∧ d ≠ 11) : RSt K (upd f (14 * p + d) u) (upd n (14 * p + (110 + c)) v) :=
  h.same b rfl (fun q hq => pk_un (by omega)) (fun q hq => ⟨pk_un (by omega), pk_un (by omega)⟩)
theorem RPe.n9 {f : Nat → Int32} {v : Int32} (h : RPe K f n) (b : K 2 ≤ 20) : RPe K f (upd n 9 v) := h.same b (Nat.le_refl _) rfl rfl (fun _ _ => rfl) (fun j h1 h2 => pk_un (by omega))
theorem vL.n9 {P : Nat} {x v : Int32} (h : vL P n x) : vL P (upd n 9 v) x := by
  rcases h with h | ⟨q, h1, h2, h3⟩
  · exact Or.inl h
  · exact Or.inr ⟨q, h1, h2, by rw [pk_un (by omega)]; exact h3⟩
theorem RSe.n9 {v : Int32} (h : RSe K n) : RSe K (upd n 9 v) := by
  refine ⟨?_, h.2⟩
  rw [pm_cnt_congr (q := fun p => n (14 * p + 121) == 1) (fun j hj => by rw [pk_un (by omega)])]; exact h.1
theorem RSt.n9 {f : Nat → Int32} {v : Int32} (h : RSt K f n) (b : K 2 ≤ 20) : RSt K f (upd n 9 v) := h.same b rfl (fun _ _ => rfl) (fun q hq => ⟨pk_un (by omega), pk_un (by omega)⟩)
end UPD
