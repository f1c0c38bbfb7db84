/-! ===== pure: one part of the realm is written ===== -/
def CP (a : Nat) (S S' : FS) : Prop := CX S S' ∧ (∀ k ∈ ctI, k ≠ 103 → S'.1 k = S.1 k) ∧ ∀ q ∈ ctA, q ≠ a → S'.2 q = S.2 q
theorem CP.rf {a : Nat} {S : FS} : CP a S S := ⟨CX.rf, fun _ _ _ => rfl, fun _ _ _ => rfl⟩
theorem CP.tr {a : Nat} {S S' S2 : FS} (h : CP a S S') (g : CP a S' S2) : CP a S S2 := ⟨h.1.tr g.1, fun k hk h3 => (g.2.1 k hk h3).trans (h.2.1 k hk h3), fun q hq h3 => (g.2.2 q hq h3).trans (h.2.2 q hq h3)⟩
theorem CP.ce {a : Nat} {S S' : FS} (h : CE S S') : CP a S S' := ⟨h.1, fun k hk _ => h.2.1 k hk, fun q hq _ => h.2.2 q hq⟩
theorem CP.wA {a j : Nat} {S : FS} {v : Int32} (h : [49, 50, 52, 47].all (fun q => q != a) = true) : CP a S (wA S a j v) := by
  simp only [List.all_cons, List.all_nil, Bool.and_true, Bool.and_eq_true, bne_iff_ne] at h
  exact ⟨⟨⟨wA_n h.1, wA_n h.2.1, wA_n h.2.2.1, wA_n h.2.2.2⟩, rfl, rfl⟩, fun _ _ _ => rfl, fun q _ hq => wA_n hq⟩
theorem CP.ch {a : Nat} {S : FS} {v : Int32} : CP a S (wI S 103 v) := ⟨⟨⟨rfl, rfl, rfl, rfl⟩, rfl, rfl⟩, fun _ _ hk => wI_n hk, fun _ _ _ => rfl⟩
def NO (lo hi : Nat) (n n' : Nat → Int32) : Prop := ∀ j : Nat, ¬ (lo ≤ j ∧ j < hi) → j ≠ 9 → n' j = n j
theorem NO.rf {lo hi : Nat} {n : Nat → Int32} : NO lo hi n n := fun _ _ _ => rfl
theorem NO.w {lo hi e : Nat} {n n' : Nat → Int32} {v : Int32} (h : NO lo hi n n') (he : (lo ≤ e ∧ e < hi) ∨ e = 9) : NO lo hi n (upd n' e v) := fun j h1 h2 => by
  rw [pk_un (by rcases he with he | he <;> (intro q; subst q; first | exact h1 he | exact h2 he))]; exact h j h1 h2
section UPD
variable {K : Nat → Nat} {S S' : FS} {n n' : Nat → Int32}
theorem RCt.cp {a : Nat} (h : RelR K S n) (cp : CP a S S') (hN : ∀ j : Nat, j < 12 → j ≠ 9 → n' j = n j) (hc : S'.1 103 = n' 9) : RCt K S'.1 n' := by
  refine ⟨fun q hq => ?_, hc⟩
  have h9 : ∀ q ∈ ctT, q.1 ∈ ctI ∧ q.1 ≠ 103 ∧ q.2.1 < 12 ∧ q.2.1 ≠ 9 := by decide
  obtain ⟨a1, a2, a3, a4⟩ := h9 q hq
  rw [cp.2.1 q.1 a1 a2, hN _ a3 a4]; exact h.1.1 q hq
theorem WQ1.no {f f' : Nat → Int32} {m u u' : Nat} (h : WQ1 f n m u) (b : m ≤ 20) (hu : u ≤ u') (e : f' = f) (hn : ∀ j : Nat, 50 ≤ j → j < 110 → n' j = n j) : WQ1 f' n' m u' := h.same hu (fun _ _ => by rw [e]) (fun j h1 h2 => hn j h1 (by omega))
theorem RelR.onP (h : RelR K S n) (cp : CP 7 S S') (no : NO 110 390 n n') (hc : S'.1 103 = n' 9) (hp : RPe K (S'.2 7) n') (hv : ∀ x : Int32, vL (K 2) n x → vL (K 2) n' x) (hse : RSe K n') (hst : RSt K (S'.2 7) n') : RelR K S' n' := by
  have c0 := (h.ct 2 0 10 (by decide)).2.2
  have c1 := (h.ct 101 1 20 (by decide)).2.2
  have c2 := (h.ct 6 2 20 (by decide)).2.2
  have c3 := (h.ct 8 3 20 (by decide)).2.2
  have c4 := (h.ct 10 4 12 (by decide)).2.2
  have c5 := (h.ct 14 5 40 (by decide)).2.2
  have c6 := (h.ct 16 6 6 (by decide)).2.2
  have c7 := (h.ct 18 7 30 (by decide)).2.2
  have c10 := (h.ct 24 10 60 (by decide)).2.2
  have c11 := (h.ct 22 11 20 (by decide)).2.2
  have eA := fun q hq h3 => cp.2.2 q hq h3
  refine ⟨RCt.cp h cp (fun j h1 h2 => no j (by omega) h2) hc, ?_, ?_, hp, ?_, ?_, ?_, ?_, ?_, ?_, ?_, ?_, hse, hst⟩
  · exact h.tw.same c0 rfl (Nat.le_refl _) (fun _ _ => by rw [eA 3 (by decide) (by decide)]) (fun j h1 h2 => no j (by omega) (by omega))
  · exact h.wy.no c1 (Nat.le_refl _) (eA 5 (by decide) (by decide)) (fun j h1 h2 => no j (by omega) (by omega))
  · exact h.pw.same c3 c2 rfl (Nat.le_refl _) (fun _ _ => by rw [eA 9 (by decide) (by decide)]) (fun j h1 h2 => no j (by omega) (by omega)) hv
  · exact h.la.same c4 rfl (Nat.le_refl _) (fun _ _ => by rw [eA 11 (by decide) (by decide)]) (fun _ _ => by rw [eA 13 (by decide) (by decide)]) (fun j h1 h2 => no j (by omega) (by omega))
  · exact h.le.same c5 rfl (Nat.le_refl _) (Nat.le_refl _) (fun _ _ => by rw [eA 15 (by decide) (by decide)]) (fun j h1 h2 => no j (by omega) (by omega))
  · exact h.de.same c6 c0 rfl (Nat.le_refl _) (Nat.le_refl _) (fun _ _ => by rw [eA 17 (by decide) (by decide)]) (fun j h1 h2 => no j (by omega) (by omega)) (fun t ht e => by rw [no _ (by omega) (by omega)]; exact e)
  · exact h.pr.same c7 rfl (Nat.le_refl _) rfl (fun _ _ => by rw [eA 19 (by decide) (by decide)]) (fun j h1 h2 => no j (by omega) (by omega))
  · exact h.gu.same (fun _ _ => by rw [eA 21 (by decide) (by decide)]) (fun j h1 h2 => no j (by omega) (by omega))
  · exact h.wt.same c11 rfl (fun _ _ => by rw [eA 23 (by decide) (by decide)]) (fun j h1 h2 => no j (by omega) (by omega))
  · exact h.ta.same c10 rfl (fun _ _ => by rw [eA 25 (by decide) (by decide)]) (fun j h1 h2 => no j (by omega) (by omega))
/-- coin, men, what is known: columns of persons that both have -/
theorem RPe.w {f : Nat → Int32} {p c : Nat} {x : Int32} (h : RPe K f n) (b : K 2 ≤ 20) (hp : p < K 2) (hc : c = 7 ∨ c = 8 ∨ c = 10) : RPe K (upd f (14 * p + c) x) (upd n (14 * p + (110 + c)) x) := by
  intro q hq
  have h1 := h q hq
  unfold PLv at h1 ⊢
  by_cases e : q = p
  · subst e
    rcases hc with rfl | rfl | rfl
    · simp (disch := omega) only [pk_us, pk_un]
      exact ⟨h1.1, ⟨trivial, h1.2.1.2⟩, h1.2.2⟩
    · simp (disch := omega) only [pk_us, pk_un]
      exact ⟨h1.1, ⟨h1.2.1.1, trivial, h1.2.1.2.2⟩, h1.2.2⟩
    · simp (disch := omega) only [pk_us, pk_un]
      exact ⟨h1.1, ⟨h1.2.1.1, h1.2.1.2.1, trivial, h1.2.1.2.2.2⟩, h1.2.2⟩
  · rcases hc with rfl | rfl | rfl <;> (simp (disch := omega) only [pk_un]; exact h1)
theorem vL.w {P p c : Nat} {x v : Int32} (h : vL P n x) (hc : c < 14 ∧ c ≠ 9) : vL P (upd n (14 * p + (110 + c)) v) x := by
  rcases h with h | ⟨q, h1, h2, h3⟩
  · exact Or.inl h
  · exact Or.inr ⟨q, h1, h2, by rw [pk_un (by omega)]; exact h3⟩
theorem RSe.w {p c : Nat} {v : Int32} (h : RSe K n) (hc : c < 14 ∧ c ≠ 11) : RSe K (upd n (14 * p + (110 + c)) v) := by
  refine ⟨?_, h.2⟩
  rw [pm_cnt_congr (q := fun p => n (14 * p + 121) == 1) (fun j hj => by rw [pk_un (by omega)])]; exact h.1
theorem RSt.w {f : Nat → Int32} {p c d : Nat} {u v : Int32} (h : RSt K f n) (b : K 2 ≤ 20) (hc : c < 14 ∧ c ≠ 2 ∧ c ≠ 3) (hd : d < 14 ∧ d ≠ 11) : RSt K (upd f (14 * p + d) u) (upd n (14 * p + (110 + c)) v) :=
  h.same b rfl (fun q hq => pk_un (by omega)) (fun q hq => ⟨pk_un (by omega), pk_un (by omega)⟩)
theorem RPe.n9 {f : Nat → Int32} {v : Int32} (h : RPe K f n) (b : K 2 ≤ 20) : RPe K f (upd n 9 v) := h.same b (Nat.le_refl _) rfl rfl (fun _ _ => rfl) (fun j h1 h2 => pk_un (by omega))
theorem vL.n9 {P : Nat} {x v : Int32} (h : vL P n x) : vL P (upd n 9 v) x := by
  rcases h with h | ⟨q, h1, h2, h3⟩
  · exact Or.inl h
  · exact Or.inr ⟨q, h1, h2, by rw [pk_un (by omega)]; exact h3⟩
theorem RSe.n9 {v : Int32} (h : RSe K n) : RSe K (upd n 9 v) := by
  refine ⟨?_, h.2⟩
  rw [pm_cnt_congr (q := fun p => n (14 * p + 121) == 1) (fun j hj => by rw [pk_un (by omega)])]; exact h.1
theorem RSt.n9 {f : Nat → Int32} {v : Int32} (h : RSt K f n) (b : K 2 ≤ 20) : RSt K f (upd n 9 v) := h.same b rfl (fun _ _ => rfl) (fun q hq => ⟨pk_un (by omega), pk_un (by omega)⟩)
end UPD
