/-! ===== pure: one part of the realm is written ===== -/
def CQ (as : List Nat) (s : Nat) (S S' : FS) : Prop := CX S S' ∧ (∀ k ∈ ctI, k ≠ 103 → k ≠ s → S'.1 k = S.1 k) ∧ ∀ q ∈ ctA, q ∉ as → S'.2 q = S.2 q
section CQS
variable {as : List Nat} {s : Nat} {S S' S2 : FS}
theorem CQ.rf : CQ as s S S := ⟨CX.rf, fun _ _ _ _ => rfl, fun _ _ _ => rfl⟩
theorem CQ.tr (h : CQ as s S S') (g : CQ as s S' S2) : CQ as s S S2 := ⟨h.1.tr g.1, fun k hk h3 h4 => (g.2.1 k hk h3 h4).trans (h.2.1 k hk h3 h4), fun q hq h3 => (g.2.2 q hq h3).trans (h.2.2 q hq h3)⟩
theorem CQ.ce (h : CE S S') : CQ as s S S' := ⟨h.1, fun k hk _ _ => h.2.1 k hk, fun q hq _ => h.2.2 q hq⟩
theorem CQ.wA {a j : Nat} {v : Int32} (h : CQ as s S S') (ha : a ∈ as) (hx : [49, 50, 52, 47].all (fun q => q != a) = true) : CQ as s S (wA S' a j v) := by
  simp only [List.all_cons, List.all_nil, Bool.and_true, Bool.and_eq_true, bne_iff_ne] at hx
  exact h.tr ⟨⟨⟨wA_n hx.1, wA_n hx.2.1, wA_n hx.2.2.1, wA_n hx.2.2.2⟩, rfl, rfl⟩, fun _ _ _ _ => rfl, fun q _ hq => wA_n (fun e => hq (by rw [e]; exact ha))⟩
theorem CQ.uA {a : Nat} {g : Nat → Int32} (h : CQ as s S S') (ha : a ∈ as) (hx : [49, 50, 52, 47].all (fun q => q != a) = true) : CQ as s S (S'.1, ua S'.2 a g) := by
  simp only [List.all_cons, List.all_nil, Bool.and_true, Bool.and_eq_true, bne_iff_ne] at hx
  exact h.tr ⟨⟨⟨ua_ne hx.1, ua_ne hx.2.1, ua_ne hx.2.2.1, ua_ne hx.2.2.2⟩, rfl, rfl⟩, fun _ _ _ _ => rfl, fun q _ hq => ua_ne (fun e => hq (by rw [e]; exact ha))⟩
theorem CQ.wI {v : Int32} {k : Nat} (h : CQ as s S S') (hk : k = 103 ∨ k = s) (h1 : (115 : Nat) ≠ k) (h2 : (100 : Nat) ≠ k) : CQ as s S (wI S' k v) :=
  h.tr ⟨⟨⟨rfl, rfl, rfl, rfl⟩, wI_n h1, wI_n h2⟩, fun q _ q1 q2 => wI_n (by rcases hk with rfl | rfl; exact q1; exact q2), fun _ _ _ => rfl⟩
theorem CQ.app {a : Nat} {v : Int32} {g : Nat → Int32} (h : CQ as s S S') (ha : a ∈ as) (hx : [49, 50, 52, 47].all (fun q => q != a) = true) (h1 : (115 : Nat) ≠ s) (h2 : (100 : Nat) ≠ s) : CQ as s S (ui S'.1 s v, ua S'.2 a g) := by
  simp only [List.all_cons, List.all_nil, Bool.and_true, Bool.and_eq_true, bne_iff_ne] at hx
  exact h.tr ⟨⟨⟨ua_ne hx.1, ua_ne hx.2.1, ua_ne hx.2.2.1, ua_ne hx.2.2.2⟩, ui_ne h1, ui_ne h2⟩, fun _ _ _ q2 => ui_ne q2, fun q _ hq => ua_ne (fun e => hq (by rw [e]; exact ha))⟩
end CQS
def NQ (lo hi c : Nat) (n n' : Nat → Int32) : Prop := ∀ j : Nat, ¬ (lo ≤ j ∧ j < hi) → j ≠ 9 → j ≠ c → n' j = n j
theorem NQ.rf {lo hi c : Nat} {n : Nat → Int32} : NQ lo hi c n n := fun _ _ _ _ => rfl
theorem NQ.w {lo hi c e : Nat} {n n' : Nat → Int32} {v : Int32} (h : NQ lo hi c n n') (he : (lo ≤ e ∧ e < hi) ∨ e = 9 ∨ e = c) : NQ lo hi c n (upd n' e v) := fun j h1 h2 h3 => by
  rw [pk_un (by rcases he with he | he | he <;> (intro q; subst q; first | exact h1 he | exact h2 he | exact h3 he))]; exact h j h1 h2 h3
theorem WQ1.no {n n' f f' : Nat → Int32} {m m' u u' : Nat} (h : WQ1 f n m u) (hm : m' = m) (b : m ≤ 20) (hu : u ≤ u') (e : f' = f) (hn : ∀ j : Nat, 50 ≤ j → j < 110 → n' j = n j) : WQ1 f' n' m' u' := by
  subst hm; exact h.same hu (fun _ _ => by rw [e]) (fun j h1 h2 => hn j h1 (by omega))
theorem RCt.cq {K K' : Nat → Nat} {S S' : FS} {n n' : Nat → Int32} {as : List Nat} {s lo hi c : Nat} (h : RelR K S n) (cq : CQ as s S S') (nq : NQ lo hi c n n') (hlo : 12 ≤ lo) (hK : ∀ i : Nat, i ≠ c → K' i = K i) (hc : S'.1 103 = n' 9)
    (hs : ∀ q ∈ ctT, q.1 = s ∨ q.2.1 = c → S'.1 q.1 = nI (K' q.2.1) ∧ n' q.2.1 = nI (K' q.2.1) ∧ K' q.2.1 ≤ q.2.2) : RCt K' S'.1 n' := by
  refine ⟨fun q hq => ?_, hc⟩
  have h9 : ∀ q ∈ ctT, q.1 ∈ ctI ∧ q.1 ≠ 103 ∧ q.2.1 < 12 ∧ q.2.1 ≠ 9 := by decide
  obtain ⟨a1, a2, a3, a4⟩ := h9 q hq
  by_cases e : q.1 = s ∨ q.2.1 = c
  · exact hs q hq e
  · have e1 : q.1 ≠ s := fun z => e (Or.inl z)
    have e2 : q.2.1 ≠ c := fun z => e (Or.inr z)
    rw [cq.2.1 q.1 a1 a2 e1, nq _ (by omega) a4 e2, hK _ e2]; exact h.1.1 q hq
/-- no counter is written -/
theorem noct {K' : Nat → Nat} {S' : FS} {n' : Nat → Int32} : ∀ q ∈ ctT, q.1 = 103 ∨ q.2.1 = 9 → S'.1 q.1 = nI (K' q.2.1) ∧ n' q.2.1 = nI (K' q.2.1) ∧ K' q.2.1 ≤ q.2.2 := by
  intro q hq
  have h9 : ∀ q ∈ ctT, ¬ (q.1 = 103 ∨ q.2.1 = 9) := by decide
  exact fun e => absurd e (h9 q hq)
theorem onct {K' : Nat → Nat} {S' : FS} {n' : Nat → Int32} (s c b : Nat) (hm : ctT.all (fun q => (q.1 == s) == (q.2.1 == c) && (q.1 != s || q.2.2 == b)) = true) (h1 : S'.1 s = nI (K' c)) (h2 : n' c = nI (K' c)) (h3 : K' c ≤ b) : ∀ q ∈ ctT, q.1 = s ∨ q.2.1 = c → S'.1 q.1 = nI (K' q.2.1) ∧ n' q.2.1 = nI (K' q.2.1) ∧ K' q.2.1 ≤ q.2.2 := by
  intro q hq e
  rw [List.all_eq_true] at hm
  have h4 := hm q hq
  simp only [Bool.and_eq_true, beq_iff_eq, Bool.or_eq_true, bne_iff_ne] at h4
  obtain ⟨h5, h6⟩ := h4
  have e1 : q.1 = s := by
    rcases e with e | e
    · exact e
    · have : (q.1 == s) = true := by rw [h5, e]; simp
      exact beq_iff_eq.mp this
  have e2 : q.2.1 = c := by
    have : (q.2.1 == c) = true := by rw [← h5, e1]; simp
    exact beq_iff_eq.mp this
  have e3 : q.2.2 = b := h6.resolve_left (fun z => z e1)
  rw [e1, e2, e3]; exact ⟨h1, h2, h3⟩
theorem RelR.onT {K : Nat → Nat} {S S' : FS} {n n' : Nat → Int32} (h : RelR K S n) (cq : CQ [3] 103 S S') (nq : NQ 20 50 9 n n') (hc : S'.1 103 = n' 9) (htw : RTw K (S'.2 3) n') (ht : ∀ t : Nat, t < K 0 → n (3 * t + 22) = 1 → n' (3 * t + 22) = 1) : RelR K S' n' := by
  have hK : ∀ i : Nat, i ≠ 9 → K i = K i := fun _ _ => rfl
  have hct := noct (K' := K) (S' := S') (n' := n')
  have c0 := (h.ct 2 0 10 (by decide)).2.2
  have c1 := (h.ct 101 1 20 (by decide)).2.2
  have c2 := (h.ct 6 2 20 (by decide)).2.2
  have c3 := (h.ct 8 3 20 (by decide)).2.2
  have c4 := (h.ct 10 4 12 (by decide)).2.2
  have c5 := (h.ct 14 5 40 (by decide)).2.2
  have c6 := (h.ct 16 6 6 (by decide)).2.2
  have c7 := (h.ct 18 7 30 (by decide)).2.2
  have c10 := (h.ct 24 10 60 (by decide)).2.2
  have c11 := (h.ct 22 11 20 (by decide)).2.2
  have eA := fun q hq h3 => cq.2.2 q hq h3
  refine ⟨RCt.cq h cq nq (by decide) hK hc hct, htw, ?_, ?_, ?_, ?_, ?_, ?_, ?_, ?_, ?_, ?_, ?_, ?_, ?_⟩
  · exact h.wy.no (hK 1 (by decide)) c1 (Nat.le_of_eq (hK 0 (by decide)).symm) (eA 5 (by decide) (by decide)) (fun j h1 h2 => nq j (by omega) (by omega) (by omega))
  · exact h.pe.same c2 (Nat.le_of_eq (hK 0 (by decide)).symm) (hK 2 (by decide)) (hK 8 (by decide)) (fun _ _ => by rw [eA 7 (by decide) (by decide)]) (fun j h1 h2 => nq j (by omega) (by omega) (by omega))
  · exact h.pw.same c3 c2 (hK 3 (by decide)) (Nat.le_of_eq (hK 2 (by decide)).symm) (fun _ _ => by rw [eA 9 (by decide) (by decide)]) (fun j h1 h2 => nq j (by omega) (by omega) (by omega)) (fun x hx => hx.same c2 (Nat.le_of_eq (hK 2 (by decide)).symm) (fun j h1 h2 => nq j (by omega) (by omega) (by omega)))
  · exact h.la.same c4 (hK 4 (by decide)) (Nat.le_of_eq (hK 8 (by decide)).symm) (fun _ _ => by rw [eA 11 (by decide) (by decide)]) (fun _ _ => by rw [eA 13 (by decide) (by decide)]) (fun j h1 h2 => nq j (by omega) (by omega) (by omega))
  · exact h.le.same c5 (hK 5 (by decide)) (Nat.le_of_eq (hK 0 (by decide)).symm) (Nat.le_of_eq (hK 2 (by decide)).symm) (fun _ _ => by rw [eA 15 (by decide) (by decide)]) (fun j h1 h2 => nq j (by omega) (by omega) (by omega))
  · exact h.de.same c6 c0 (hK 6 (by decide)) (Nat.le_of_eq (hK 0 (by decide)).symm) (Nat.le_of_eq (hK 8 (by decide)).symm) (fun _ _ => by rw [eA 17 (by decide) (by decide)]) (fun j h1 h2 => nq j (by omega) (by omega) (by omega)) ht
  · exact h.pr.same c7 (hK 7 (by decide)) (Nat.le_of_eq (hK 2 (by decide)).symm) (hK 8 (by decide)) (fun _ _ => by rw [eA 19 (by decide) (by decide)]) (fun j h1 h2 => nq j (by omega) (by omega) (by omega))
  · exact h.gu.same (fun _ _ => by rw [eA 21 (by decide) (by decide)]) (fun j h1 h2 => nq j (by omega) (by omega) (by omega))
  · exact h.wt.same c11 (hK 11 (by decide)) (fun _ _ => by rw [eA 23 (by decide) (by decide)]) (fun j h1 h2 => nq j (by omega) (by omega) (by omega))
  · exact h.ta.same c10 (hK 10 (by decide)) (fun _ _ => by rw [eA 25 (by decide) (by decide)]) (fun j h1 h2 => nq j (by omega) (by omega) (by omega))
  · exact h.se.same c2 (hK 2 (by decide)) (Nat.le_of_eq (hK 0 (by decide)).symm) (fun p hp => nq _ (by omega) (by omega) (by omega))
  · exact h.st.same c2 (hK 2 (by decide)) (fun p hp => by rw [eA 7 (by decide) (by decide)]) (fun p hp => ⟨nq _ (by omega) (by omega) (by omega), nq _ (by omega) (by omega) (by omega)⟩)
  · exact h.ps.same c7 (hK 7 (by decide)) (Nat.le_of_eq (hK 2 (by decide)).symm) (hK 8 (by decide)) (fun _ _ => by rw [eA 19 (by decide) (by decide)]) (fun j h1 h2 => nq j (by omega) (by omega) (by omega)) (fun p hp => nq _ (by omega) (by omega) (by omega))
theorem RelR.onR {K : Nat → Nat} {S S' : FS} {n n' : Nat → Int32} (h : RelR K S n) (cq : CQ [5] 103 S S') (nq : NQ 50 110 9 n n') (hc : S'.1 103 = n' 9) (hwy : WQ1 (S'.2 5) n' (K 1) (K 0)) : RelR K S' n' := by
  have hK : ∀ i : Nat, i ≠ 9 → K i = K i := fun _ _ => rfl
  have hct := noct (K' := K) (S' := S') (n' := n')
  have c0 := (h.ct 2 0 10 (by decide)).2.2
  have c1 := (h.ct 101 1 20 (by decide)).2.2
  have c2 := (h.ct 6 2 20 (by decide)).2.2
  have c3 := (h.ct 8 3 20 (by decide)).2.2
  have c4 := (h.ct 10 4 12 (by decide)).2.2
  have c5 := (h.ct 14 5 40 (by decide)).2.2
  have c6 := (h.ct 16 6 6 (by decide)).2.2
  have c7 := (h.ct 18 7 30 (by decide)).2.2
  have c10 := (h.ct 24 10 60 (by decide)).2.2
  have c11 := (h.ct 22 11 20 (by decide)).2.2
  have eA := fun q hq h3 => cq.2.2 q hq h3
  refine ⟨RCt.cq h cq nq (by decide) hK hc hct, ?_, hwy, ?_, ?_, ?_, ?_, ?_, ?_, ?_, ?_, ?_, ?_, ?_, ?_⟩
  · exact h.tw.same c0 (hK 0 (by decide)) (Nat.le_of_eq (hK 2 (by decide)).symm) (fun _ _ => by rw [eA 3 (by decide) (by decide)]) (fun j h1 h2 => nq j (by omega) (by omega) (by omega))
  · exact h.pe.same c2 (Nat.le_of_eq (hK 0 (by decide)).symm) (hK 2 (by decide)) (hK 8 (by decide)) (fun _ _ => by rw [eA 7 (by decide) (by decide)]) (fun j h1 h2 => nq j (by omega) (by omega) (by omega))
  · exact h.pw.same c3 c2 (hK 3 (by decide)) (Nat.le_of_eq (hK 2 (by decide)).symm) (fun _ _ => by rw [eA 9 (by decide) (by decide)]) (fun j h1 h2 => nq j (by omega) (by omega) (by omega)) (fun x hx => hx.same c2 (Nat.le_of_eq (hK 2 (by decide)).symm) (fun j h1 h2 => nq j (by omega) (by omega) (by omega)))
  · exact h.la.same c4 (hK 4 (by decide)) (Nat.le_of_eq (hK 8 (by decide)).symm) (fun _ _ => by rw [eA 11 (by decide) (by decide)]) (fun _ _ => by rw [eA 13 (by decide) (by decide)]) (fun j h1 h2 => nq j (by omega) (by omega) (by omega))
  · exact h.le.same c5 (hK 5 (by decide)) (Nat.le_of_eq (hK 0 (by decide)).symm) (Nat.le_of_eq (hK 2 (by decide)).symm) (fun _ _ => by rw [eA 15 (by decide) (by decide)]) (fun j h1 h2 => nq j (by omega) (by omega) (by omega))
  · exact h.de.same c6 c0 (hK 6 (by decide)) (Nat.le_of_eq (hK 0 (by decide)).symm) (Nat.le_of_eq (hK 8 (by decide)).symm) (fun _ _ => by rw [eA 17 (by decide) (by decide)]) (fun j h1 h2 => nq j (by omega) (by omega) (by omega)) (fun t ht e => by rw [nq _ (by omega) (by omega) (by omega)]; exact e)
  · exact h.pr.same c7 (hK 7 (by decide)) (Nat.le_of_eq (hK 2 (by decide)).symm) (hK 8 (by decide)) (fun _ _ => by rw [eA 19 (by decide) (by decide)]) (fun j h1 h2 => nq j (by omega) (by omega) (by omega))
  · exact h.gu.same (fun _ _ => by rw [eA 21 (by decide) (by decide)]) (fun j h1 h2 => nq j (by omega) (by omega) (by omega))
  · exact h.wt.same c11 (hK 11 (by decide)) (fun _ _ => by rw [eA 23 (by decide) (by decide)]) (fun j h1 h2 => nq j (by omega) (by omega) (by omega))
  · exact h.ta.same c10 (hK 10 (by decide)) (fun _ _ => by rw [eA 25 (by decide) (by decide)]) (fun j h1 h2 => nq j (by omega) (by omega) (by omega))
  · exact h.se.same c2 (hK 2 (by decide)) (Nat.le_of_eq (hK 0 (by decide)).symm) (fun p hp => nq _ (by omega) (by omega) (by omega))
  · exact h.st.same c2 (hK 2 (by decide)) (fun p hp => by rw [eA 7 (by decide) (by decide)]) (fun p hp => ⟨nq _ (by omega) (by omega) (by omega), nq _ (by omega) (by omega) (by omega)⟩)
  · exact h.ps.same c7 (hK 7 (by decide)) (Nat.le_of_eq (hK 2 (by decide)).symm) (hK 8 (by decide)) (fun _ _ => by rw [eA 19 (by decide) (by decide)]) (fun j h1 h2 => nq j (by omega) (by omega) (by omega)) (fun p hp => nq _ (by omega) (by omega) (by omega))
theorem RelR.onP {K : Nat → Nat} {S S' : FS} {n n' : Nat → Int32} (h : RelR K S n) (cq : CQ [7] 103 S S') (nq : NQ 110 390 9 n n') (hc : S'.1 103 = n' 9) (hpe : RPe K (S'.2 7) n') (hse : RSe K n') (hst : RSt K (S'.2 7) n') (hv : ∀ x : Int32, vL (K 2) n x → vL (K 2) n' x) (hsq : ∀ p : Nat, p < K 2 → n' (14 * p + 121) = n (14 * p + 121)) : RelR K S' n' := by
  have hK : ∀ i : Nat, i ≠ 9 → K i = K i := fun _ _ => rfl
  have hct := noct (K' := K) (S' := S') (n' := n')
  have c0 := (h.ct 2 0 10 (by decide)).2.2
  have c1 := (h.ct 101 1 20 (by decide)).2.2
  have c2 := (h.ct 6 2 20 (by decide)).2.2
  have c3 := (h.ct 8 3 20 (by decide)).2.2
  have c4 := (h.ct 10 4 12 (by decide)).2.2
  have c5 := (h.ct 14 5 40 (by decide)).2.2
  have c6 := (h.ct 16 6 6 (by decide)).2.2
  have c7 := (h.ct 18 7 30 (by decide)).2.2
  have c10 := (h.ct 24 10 60 (by decide)).2.2
  have c11 := (h.ct 22 11 20 (by decide)).2.2
  have eA := fun q hq h3 => cq.2.2 q hq h3
  refine ⟨RCt.cq h cq nq (by decide) hK hc hct, ?_, ?_, hpe, ?_, ?_, ?_, ?_, ?_, ?_, ?_, ?_, hse, hst, ?_⟩
  · exact h.tw.same c0 (hK 0 (by decide)) (Nat.le_of_eq (hK 2 (by decide)).symm) (fun _ _ => by rw [eA 3 (by decide) (by decide)]) (fun j h1 h2 => nq j (by omega) (by omega) (by omega))
  · exact h.wy.no (hK 1 (by decide)) c1 (Nat.le_of_eq (hK 0 (by decide)).symm) (eA 5 (by decide) (by decide)) (fun j h1 h2 => nq j (by omega) (by omega) (by omega))
  · exact h.pw.same c3 c2 (hK 3 (by decide)) (Nat.le_of_eq (hK 2 (by decide)).symm) (fun _ _ => by rw [eA 9 (by decide) (by decide)]) (fun j h1 h2 => nq j (by omega) (by omega) (by omega)) hv
  · exact h.la.same c4 (hK 4 (by decide)) (Nat.le_of_eq (hK 8 (by decide)).symm) (fun _ _ => by rw [eA 11 (by decide) (by decide)]) (fun _ _ => by rw [eA 13 (by decide) (by decide)]) (fun j h1 h2 => nq j (by omega) (by omega) (by omega))
  · exact h.le.same c5 (hK 5 (by decide)) (Nat.le_of_eq (hK 0 (by decide)).symm) (Nat.le_of_eq (hK 2 (by decide)).symm) (fun _ _ => by rw [eA 15 (by decide) (by decide)]) (fun j h1 h2 => nq j (by omega) (by omega) (by omega))
  · exact h.de.same c6 c0 (hK 6 (by decide)) (Nat.le_of_eq (hK 0 (by decide)).symm) (Nat.le_of_eq (hK 8 (by decide)).symm) (fun _ _ => by rw [eA 17 (by decide) (by decide)]) (fun j h1 h2 => nq j (by omega) (by omega) (by omega)) (fun t ht e => by rw [nq _ (by omega) (by omega) (by omega)]; exact e)
  · exact h.pr.same c7 (hK 7 (by decide)) (Nat.le_of_eq (hK 2 (by decide)).symm) (hK 8 (by decide)) (fun _ _ => by rw [eA 19 (by decide) (by decide)]) (fun j h1 h2 => nq j (by omega) (by omega) (by omega))
  · exact h.gu.same (fun _ _ => by rw [eA 21 (by decide) (by decide)]) (fun j h1 h2 => nq j (by omega) (by omega) (by omega))
  · exact h.wt.same c11 (hK 11 (by decide)) (fun _ _ => by rw [eA 23 (by decide) (by decide)]) (fun j h1 h2 => nq j (by omega) (by omega) (by omega))
  · exact h.ta.same c10 (hK 10 (by decide)) (fun _ _ => by rw [eA 25 (by decide) (by decide)]) (fun j h1 h2 => nq j (by omega) (by omega) (by omega))
  · exact h.ps.same c7 (hK 7 (by decide)) (Nat.le_of_eq (hK 2 (by decide)).symm) (hK 8 (by decide)) (fun _ _ => by rw [eA 19 (by decide) (by decide)]) (fun j h1 h2 => nq j (by omega) (by omega) (by omega)) hsq
theorem RelR.onW {K : Nat → Nat} {S S' : FS} {n n' : Nat → Int32} (h : RelR K S n) (cq : CQ [9] 103 S S') (nq : NQ 390 510 9 n n') (hc : S'.1 103 = n' 9) (hpw : RPw K (S'.2 9) n') : RelR K S' n' := by
  have hK : ∀ i : Nat, i ≠ 9 → K i = K i := fun _ _ => rfl
  have hct := noct (K' := K) (S' := S') (n' := n')
  have c0 := (h.ct 2 0 10 (by decide)).2.2
  have c1 := (h.ct 101 1 20 (by decide)).2.2
  have c2 := (h.ct 6 2 20 (by decide)).2.2
  have c3 := (h.ct 8 3 20 (by decide)).2.2
  have c4 := (h.ct 10 4 12 (by decide)).2.2
  have c5 := (h.ct 14 5 40 (by decide)).2.2
  have c6 := (h.ct 16 6 6 (by decide)).2.2
  have c7 := (h.ct 18 7 30 (by decide)).2.2
  have c10 := (h.ct 24 10 60 (by decide)).2.2
  have c11 := (h.ct 22 11 20 (by decide)).2.2
  have eA := fun q hq h3 => cq.2.2 q hq h3
  refine ⟨RCt.cq h cq nq (by decide) hK hc hct, ?_, ?_, ?_, hpw, ?_, ?_, ?_, ?_, ?_, ?_, ?_, ?_, ?_, ?_⟩
  · exact h.tw.same c0 (hK 0 (by decide)) (Nat.le_of_eq (hK 2 (by decide)).symm) (fun _ _ => by rw [eA 3 (by decide) (by decide)]) (fun j h1 h2 => nq j (by omega) (by omega) (by omega))
  · exact h.wy.no (hK 1 (by decide)) c1 (Nat.le_of_eq (hK 0 (by decide)).symm) (eA 5 (by decide) (by decide)) (fun j h1 h2 => nq j (by omega) (by omega) (by omega))
  · exact h.pe.same c2 (Nat.le_of_eq (hK 0 (by decide)).symm) (hK 2 (by decide)) (hK 8 (by decide)) (fun _ _ => by rw [eA 7 (by decide) (by decide)]) (fun j h1 h2 => nq j (by omega) (by omega) (by omega))
  · exact h.la.same c4 (hK 4 (by decide)) (Nat.le_of_eq (hK 8 (by decide)).symm) (fun _ _ => by rw [eA 11 (by decide) (by decide)]) (fun _ _ => by rw [eA 13 (by decide) (by decide)]) (fun j h1 h2 => nq j (by omega) (by omega) (by omega))
  · exact h.le.same c5 (hK 5 (by decide)) (Nat.le_of_eq (hK 0 (by decide)).symm) (Nat.le_of_eq (hK 2 (by decide)).symm) (fun _ _ => by rw [eA 15 (by decide) (by decide)]) (fun j h1 h2 => nq j (by omega) (by omega) (by omega))
  · exact h.de.same c6 c0 (hK 6 (by decide)) (Nat.le_of_eq (hK 0 (by decide)).symm) (Nat.le_of_eq (hK 8 (by decide)).symm) (fun _ _ => by rw [eA 17 (by decide) (by decide)]) (fun j h1 h2 => nq j (by omega) (by omega) (by omega)) (fun t ht e => by rw [nq _ (by omega) (by omega) (by omega)]; exact e)
  · exact h.pr.same c7 (hK 7 (by decide)) (Nat.le_of_eq (hK 2 (by decide)).symm) (hK 8 (by decide)) (fun _ _ => by rw [eA 19 (by decide) (by decide)]) (fun j h1 h2 => nq j (by omega) (by omega) (by omega))
  · exact h.gu.same (fun _ _ => by rw [eA 21 (by decide) (by decide)]) (fun j h1 h2 => nq j (by omega) (by omega) (by omega))
  · exact h.wt.same c11 (hK 11 (by decide)) (fun _ _ => by rw [eA 23 (by decide) (by decide)]) (fun j h1 h2 => nq j (by omega) (by omega) (by omega))
  · exact h.ta.same c10 (hK 10 (by decide)) (fun _ _ => by rw [eA 25 (by decide) (by decide)]) (fun j h1 h2 => nq j (by omega) (by omega) (by omega))
  · exact h.se.same c2 (hK 2 (by decide)) (Nat.le_of_eq (hK 0 (by decide)).symm) (fun p hp => nq _ (by omega) (by omega) (by omega))
  · exact h.st.same c2 (hK 2 (by decide)) (fun p hp => by rw [eA 7 (by decide) (by decide)]) (fun p hp => ⟨nq _ (by omega) (by omega) (by omega), nq _ (by omega) (by omega) (by omega)⟩)
  · exact h.ps.same c7 (hK 7 (by decide)) (Nat.le_of_eq (hK 2 (by decide)).symm) (hK 8 (by decide)) (fun _ _ => by rw [eA 19 (by decide) (by decide)]) (fun j h1 h2 => nq j (by omega) (by omega) (by omega)) (fun p hp => nq _ (by omega) (by omega) (by omega))
theorem RelR.onL {K : Nat → Nat} {S S' : FS} {n n' : Nat → Int32} (h : RelR K S n) (cq : CQ [11, 13] 103 S S') (nq : NQ 510 1290 9 n n') (hc : S'.1 103 = n' 9) (hla : RLa K (S'.2 11) (S'.2 13) n') : RelR K S' n' := by
  have hK : ∀ i : Nat, i ≠ 9 → K i = K i := fun _ _ => rfl
  have hct := noct (K' := K) (S' := S') (n' := n')
  have c0 := (h.ct 2 0 10 (by decide)).2.2
  have c1 := (h.ct 101 1 20 (by decide)).2.2
  have c2 := (h.ct 6 2 20 (by decide)).2.2
  have c3 := (h.ct 8 3 20 (by decide)).2.2
  have c4 := (h.ct 10 4 12 (by decide)).2.2
  have c5 := (h.ct 14 5 40 (by decide)).2.2
  have c6 := (h.ct 16 6 6 (by decide)).2.2
  have c7 := (h.ct 18 7 30 (by decide)).2.2
  have c10 := (h.ct 24 10 60 (by decide)).2.2
  have c11 := (h.ct 22 11 20 (by decide)).2.2
  have eA := fun q hq h3 => cq.2.2 q hq h3
  refine ⟨RCt.cq h cq nq (by decide) hK hc hct, ?_, ?_, ?_, ?_, hla, ?_, ?_, ?_, ?_, ?_, ?_, ?_, ?_, ?_⟩
  · exact h.tw.same c0 (hK 0 (by decide)) (Nat.le_of_eq (hK 2 (by decide)).symm) (fun _ _ => by rw [eA 3 (by decide) (by decide)]) (fun j h1 h2 => nq j (by omega) (by omega) (by omega))
  · exact h.wy.no (hK 1 (by decide)) c1 (Nat.le_of_eq (hK 0 (by decide)).symm) (eA 5 (by decide) (by decide)) (fun j h1 h2 => nq j (by omega) (by omega) (by omega))
  · exact h.pe.same c2 (Nat.le_of_eq (hK 0 (by decide)).symm) (hK 2 (by decide)) (hK 8 (by decide)) (fun _ _ => by rw [eA 7 (by decide) (by decide)]) (fun j h1 h2 => nq j (by omega) (by omega) (by omega))
  · exact h.pw.same c3 c2 (hK 3 (by decide)) (Nat.le_of_eq (hK 2 (by decide)).symm) (fun _ _ => by rw [eA 9 (by decide) (by decide)]) (fun j h1 h2 => nq j (by omega) (by omega) (by omega)) (fun x hx => hx.same c2 (Nat.le_of_eq (hK 2 (by decide)).symm) (fun j h1 h2 => nq j (by omega) (by omega) (by omega)))
  · exact h.le.same c5 (hK 5 (by decide)) (Nat.le_of_eq (hK 0 (by decide)).symm) (Nat.le_of_eq (hK 2 (by decide)).symm) (fun _ _ => by rw [eA 15 (by decide) (by decide)]) (fun j h1 h2 => nq j (by omega) (by omega) (by omega))
  · exact h.de.same c6 c0 (hK 6 (by decide)) (Nat.le_of_eq (hK 0 (by decide)).symm) (Nat.le_of_eq (hK 8 (by decide)).symm) (fun _ _ => by rw [eA 17 (by decide) (by decide)]) (fun j h1 h2 => nq j (by omega) (by omega) (by omega)) (fun t ht e => by rw [nq _ (by omega) (by omega) (by omega)]; exact e)
  · exact h.pr.same c7 (hK 7 (by decide)) (Nat.le_of_eq (hK 2 (by decide)).symm) (hK 8 (by decide)) (fun _ _ => by rw [eA 19 (by decide) (by decide)]) (fun j h1 h2 => nq j (by omega) (by omega) (by omega))
  · exact h.gu.same (fun _ _ => by rw [eA 21 (by decide) (by decide)]) (fun j h1 h2 => nq j (by omega) (by omega) (by omega))
  · exact h.wt.same c11 (hK 11 (by decide)) (fun _ _ => by rw [eA 23 (by decide) (by decide)]) (fun j h1 h2 => nq j (by omega) (by omega) (by omega))
  · exact h.ta.same c10 (hK 10 (by decide)) (fun _ _ => by rw [eA 25 (by decide) (by decide)]) (fun j h1 h2 => nq j (by omega) (by omega) (by omega))
  · exact h.se.same c2 (hK 2 (by decide)) (Nat.le_of_eq (hK 0 (by decide)).symm) (fun p hp => nq _ (by omega) (by omega) (by omega))
  · exact h.st.same c2 (hK 2 (by decide)) (fun p hp => by rw [eA 7 (by decide) (by decide)]) (fun p hp => ⟨nq _ (by omega) (by omega) (by omega), nq _ (by omega) (by omega) (by omega)⟩)
  · exact h.ps.same c7 (hK 7 (by decide)) (Nat.le_of_eq (hK 2 (by decide)).symm) (hK 8 (by decide)) (fun _ _ => by rw [eA 19 (by decide) (by decide)]) (fun j h1 h2 => nq j (by omega) (by omega) (by omega)) (fun p hp => nq _ (by omega) (by omega) (by omega))
theorem RelR.onE {K : Nat → Nat} {S S' : FS} {n n' : Nat → Int32} (h : RelR K S n) (cq : CQ [15] 103 S S') (nq : NQ 1290 1770 9 n n') (hc : S'.1 103 = n' 9) (hle : RLe K (S'.2 15) n') : RelR K S' n' := by
  have hK : ∀ i : Nat, i ≠ 9 → K i = K i := fun _ _ => rfl
  have hct := noct (K' := K) (S' := S') (n' := n')
  have c0 := (h.ct 2 0 10 (by decide)).2.2
  have c1 := (h.ct 101 1 20 (by decide)).2.2
  have c2 := (h.ct 6 2 20 (by decide)).2.2
  have c3 := (h.ct 8 3 20 (by decide)).2.2
  have c4 := (h.ct 10 4 12 (by decide)).2.2
  have c5 := (h.ct 14 5 40 (by decide)).2.2
  have c6 := (h.ct 16 6 6 (by decide)).2.2
  have c7 := (h.ct 18 7 30 (by decide)).2.2
  have c10 := (h.ct 24 10 60 (by decide)).2.2
  have c11 := (h.ct 22 11 20 (by decide)).2.2
  have eA := fun q hq h3 => cq.2.2 q hq h3
  refine ⟨RCt.cq h cq nq (by decide) hK hc hct, ?_, ?_, ?_, ?_, ?_, hle, ?_, ?_, ?_, ?_, ?_, ?_, ?_, ?_⟩
  · exact h.tw.same c0 (hK 0 (by decide)) (Nat.le_of_eq (hK 2 (by decide)).symm) (fun _ _ => by rw [eA 3 (by decide) (by decide)]) (fun j h1 h2 => nq j (by omega) (by omega) (by omega))
  · exact h.wy.no (hK 1 (by decide)) c1 (Nat.le_of_eq (hK 0 (by decide)).symm) (eA 5 (by decide) (by decide)) (fun j h1 h2 => nq j (by omega) (by omega) (by omega))
  · exact h.pe.same c2 (Nat.le_of_eq (hK 0 (by decide)).symm) (hK 2 (by decide)) (hK 8 (by decide)) (fun _ _ => by rw [eA 7 (by decide) (by decide)]) (fun j h1 h2 => nq j (by omega) (by omega) (by omega))
  · exact h.pw.same c3 c2 (hK 3 (by decide)) (Nat.le_of_eq (hK 2 (by decide)).symm) (fun _ _ => by rw [eA 9 (by decide) (by decide)]) (fun j h1 h2 => nq j (by omega) (by omega) (by omega)) (fun x hx => hx.same c2 (Nat.le_of_eq (hK 2 (by decide)).symm) (fun j h1 h2 => nq j (by omega) (by omega) (by omega)))
  · exact h.la.same c4 (hK 4 (by decide)) (Nat.le_of_eq (hK 8 (by decide)).symm) (fun _ _ => by rw [eA 11 (by decide) (by decide)]) (fun _ _ => by rw [eA 13 (by decide) (by decide)]) (fun j h1 h2 => nq j (by omega) (by omega) (by omega))
  · exact h.de.same c6 c0 (hK 6 (by decide)) (Nat.le_of_eq (hK 0 (by decide)).symm) (Nat.le_of_eq (hK 8 (by decide)).symm) (fun _ _ => by rw [eA 17 (by decide) (by decide)]) (fun j h1 h2 => nq j (by omega) (by omega) (by omega)) (fun t ht e => by rw [nq _ (by omega) (by omega) (by omega)]; exact e)
  · exact h.pr.same c7 (hK 7 (by decide)) (Nat.le_of_eq (hK 2 (by decide)).symm) (hK 8 (by decide)) (fun _ _ => by rw [eA 19 (by decide) (by decide)]) (fun j h1 h2 => nq j (by omega) (by omega) (by omega))
  · exact h.gu.same (fun _ _ => by rw [eA 21 (by decide) (by decide)]) (fun j h1 h2 => nq j (by omega) (by omega) (by omega))
  · exact h.wt.same c11 (hK 11 (by decide)) (fun _ _ => by rw [eA 23 (by decide) (by decide)]) (fun j h1 h2 => nq j (by omega) (by omega) (by omega))
  · exact h.ta.same c10 (hK 10 (by decide)) (fun _ _ => by rw [eA 25 (by decide) (by decide)]) (fun j h1 h2 => nq j (by omega) (by omega) (by omega))
  · exact h.se.same c2 (hK 2 (by decide)) (Nat.le_of_eq (hK 0 (by decide)).symm) (fun p hp => nq _ (by omega) (by omega) (by omega))
  · exact h.st.same c2 (hK 2 (by decide)) (fun p hp => by rw [eA 7 (by decide) (by decide)]) (fun p hp => ⟨nq _ (by omega) (by omega) (by omega), nq _ (by omega) (by omega) (by omega)⟩)
  · exact h.ps.same c7 (hK 7 (by decide)) (Nat.le_of_eq (hK 2 (by decide)).symm) (hK 8 (by decide)) (fun _ _ => by rw [eA 19 (by decide) (by decide)]) (fun j h1 h2 => nq j (by omega) (by omega) (by omega)) (fun p hp => nq _ (by omega) (by omega) (by omega))
theorem RelR.onD {K : Nat → Nat} {S S' : FS} {n n' : Nat → Int32} (h : RelR K S n) (cq : CQ [17] 103 S S') (nq : NQ 1770 1806 9 n n') (hc : S'.1 103 = n' 9) (hde : RDe K (S'.2 17) n') : RelR K S' n' := by
  have hK : ∀ i : Nat, i ≠ 9 → K i = K i := fun _ _ => rfl
  have hct := noct (K' := K) (S' := S') (n' := n')
  have c0 := (h.ct 2 0 10 (by decide)).2.2
  have c1 := (h.ct 101 1 20 (by decide)).2.2
  have c2 := (h.ct 6 2 20 (by decide)).2.2
  have c3 := (h.ct 8 3 20 (by decide)).2.2
  have c4 := (h.ct 10 4 12 (by decide)).2.2
  have c5 := (h.ct 14 5 40 (by decide)).2.2
  have c6 := (h.ct 16 6 6 (by decide)).2.2
  have c7 := (h.ct 18 7 30 (by decide)).2.2
  have c10 := (h.ct 24 10 60 (by decide)).2.2
  have c11 := (h.ct 22 11 20 (by decide)).2.2
  have eA := fun q hq h3 => cq.2.2 q hq h3
  refine ⟨RCt.cq h cq nq (by decide) hK hc hct, ?_, ?_, ?_, ?_, ?_, ?_, hde, ?_, ?_, ?_, ?_, ?_, ?_, ?_⟩
  · exact h.tw.same c0 (hK 0 (by decide)) (Nat.le_of_eq (hK 2 (by decide)).symm) (fun _ _ => by rw [eA 3 (by decide) (by decide)]) (fun j h1 h2 => nq j (by omega) (by omega) (by omega))
  · exact h.wy.no (hK 1 (by decide)) c1 (Nat.le_of_eq (hK 0 (by decide)).symm) (eA 5 (by decide) (by decide)) (fun j h1 h2 => nq j (by omega) (by omega) (by omega))
  · exact h.pe.same c2 (Nat.le_of_eq (hK 0 (by decide)).symm) (hK 2 (by decide)) (hK 8 (by decide)) (fun _ _ => by rw [eA 7 (by decide) (by decide)]) (fun j h1 h2 => nq j (by omega) (by omega) (by omega))
  · exact h.pw.same c3 c2 (hK 3 (by decide)) (Nat.le_of_eq (hK 2 (by decide)).symm) (fun _ _ => by rw [eA 9 (by decide) (by decide)]) (fun j h1 h2 => nq j (by omega) (by omega) (by omega)) (fun x hx => hx.same c2 (Nat.le_of_eq (hK 2 (by decide)).symm) (fun j h1 h2 => nq j (by omega) (by omega) (by omega)))
  · exact h.la.same c4 (hK 4 (by decide)) (Nat.le_of_eq (hK 8 (by decide)).symm) (fun _ _ => by rw [eA 11 (by decide) (by decide)]) (fun _ _ => by rw [eA 13 (by decide) (by decide)]) (fun j h1 h2 => nq j (by omega) (by omega) (by omega))
  · exact h.le.same c5 (hK 5 (by decide)) (Nat.le_of_eq (hK 0 (by decide)).symm) (Nat.le_of_eq (hK 2 (by decide)).symm) (fun _ _ => by rw [eA 15 (by decide) (by decide)]) (fun j h1 h2 => nq j (by omega) (by omega) (by omega))
  · exact h.pr.same c7 (hK 7 (by decide)) (Nat.le_of_eq (hK 2 (by decide)).symm) (hK 8 (by decide)) (fun _ _ => by rw [eA 19 (by decide) (by decide)]) (fun j h1 h2 => nq j (by omega) (by omega) (by omega))
  · exact h.gu.same (fun _ _ => by rw [eA 21 (by decide) (by decide)]) (fun j h1 h2 => nq j (by omega) (by omega) (by omega))
  · exact h.wt.same c11 (hK 11 (by decide)) (fun _ _ => by rw [eA 23 (by decide) (by decide)]) (fun j h1 h2 => nq j (by omega) (by omega) (by omega))
  · exact h.ta.same c10 (hK 10 (by decide)) (fun _ _ => by rw [eA 25 (by decide) (by decide)]) (fun j h1 h2 => nq j (by omega) (by omega) (by omega))
  · exact h.se.same c2 (hK 2 (by decide)) (Nat.le_of_eq (hK 0 (by decide)).symm) (fun p hp => nq _ (by omega) (by omega) (by omega))
  · exact h.st.same c2 (hK 2 (by decide)) (fun p hp => by rw [eA 7 (by decide) (by decide)]) (fun p hp => ⟨nq _ (by omega) (by omega) (by omega), nq _ (by omega) (by omega) (by omega)⟩)
  · exact h.ps.same c7 (hK 7 (by decide)) (Nat.le_of_eq (hK 2 (by decide)).symm) (hK 8 (by decide)) (fun _ _ => by rw [eA 19 (by decide) (by decide)]) (fun j h1 h2 => nq j (by omega) (by omega) (by omega)) (fun p hp => nq _ (by omega) (by omega) (by omega))
theorem RelR.onQ {K : Nat → Nat} {S S' : FS} {n n' : Nat → Int32} (h : RelR K S n) (cq : CQ [19] 103 S S') (nq : NQ 1806 1986 9 n n') (hc : S'.1 103 = n' 9) (hpr : RPr K (S'.2 19) n') (hps : RPs K (S'.2 19) n') : RelR K S' n' := by
  have hK : ∀ i : Nat, i ≠ 9 → K i = K i := fun _ _ => rfl
  have hct := noct (K' := K) (S' := S') (n' := n')
  have c0 := (h.ct 2 0 10 (by decide)).2.2
  have c1 := (h.ct 101 1 20 (by decide)).2.2
  have c2 := (h.ct 6 2 20 (by decide)).2.2
  have c3 := (h.ct 8 3 20 (by decide)).2.2
  have c4 := (h.ct 10 4 12 (by decide)).2.2
  have c5 := (h.ct 14 5 40 (by decide)).2.2
  have c6 := (h.ct 16 6 6 (by decide)).2.2
  have c7 := (h.ct 18 7 30 (by decide)).2.2
  have c10 := (h.ct 24 10 60 (by decide)).2.2
  have c11 := (h.ct 22 11 20 (by decide)).2.2
  have eA := fun q hq h3 => cq.2.2 q hq h3
  refine ⟨RCt.cq h cq nq (by decide) hK hc hct, ?_, ?_, ?_, ?_, ?_, ?_, ?_, hpr, ?_, ?_, ?_, ?_, ?_, hps⟩
  · exact h.tw.same c0 (hK 0 (by decide)) (Nat.le_of_eq (hK 2 (by decide)).symm) (fun _ _ => by rw [eA 3 (by decide) (by decide)]) (fun j h1 h2 => nq j (by omega) (by omega) (by omega))
  · exact h.wy.no (hK 1 (by decide)) c1 (Nat.le_of_eq (hK 0 (by decide)).symm) (eA 5 (by decide) (by decide)) (fun j h1 h2 => nq j (by omega) (by omega) (by omega))
  · exact h.pe.same c2 (Nat.le_of_eq (hK 0 (by decide)).symm) (hK 2 (by decide)) (hK 8 (by decide)) (fun _ _ => by rw [eA 7 (by decide) (by decide)]) (fun j h1 h2 => nq j (by omega) (by omega) (by omega))
  · exact h.pw.same c3 c2 (hK 3 (by decide)) (Nat.le_of_eq (hK 2 (by decide)).symm) (fun _ _ => by rw [eA 9 (by decide) (by decide)]) (fun j h1 h2 => nq j (by omega) (by omega) (by omega)) (fun x hx => hx.same c2 (Nat.le_of_eq (hK 2 (by decide)).symm) (fun j h1 h2 => nq j (by omega) (by omega) (by omega)))
  · exact h.la.same c4 (hK 4 (by decide)) (Nat.le_of_eq (hK 8 (by decide)).symm) (fun _ _ => by rw [eA 11 (by decide) (by decide)]) (fun _ _ => by rw [eA 13 (by decide) (by decide)]) (fun j h1 h2 => nq j (by omega) (by omega) (by omega))
  · exact h.le.same c5 (hK 5 (by decide)) (Nat.le_of_eq (hK 0 (by decide)).symm) (Nat.le_of_eq (hK 2 (by decide)).symm) (fun _ _ => by rw [eA 15 (by decide) (by decide)]) (fun j h1 h2 => nq j (by omega) (by omega) (by omega))
  · exact h.de.same c6 c0 (hK 6 (by decide)) (Nat.le_of_eq (hK 0 (by decide)).symm) (Nat.le_of_eq (hK 8 (by decide)).symm) (fun _ _ => by rw [eA 17 (by decide) (by decide)]) (fun j h1 h2 => nq j (by omega) (by omega) (by omega)) (fun t ht e => by rw [nq _ (by omega) (by omega) (by omega)]; exact e)
  · exact h.gu.same (fun _ _ => by rw [eA 21 (by decide) (by decide)]) (fun j h1 h2 => nq j (by omega) (by omega) (by omega))
  · exact h.wt.same c11 (hK 11 (by decide)) (fun _ _ => by rw [eA 23 (by decide) (by decide)]) (fun j h1 h2 => nq j (by omega) (by omega) (by omega))
  · exact h.ta.same c10 (hK 10 (by decide)) (fun _ _ => by rw [eA 25 (by decide) (by decide)]) (fun j h1 h2 => nq j (by omega) (by omega) (by omega))
  · exact h.se.same c2 (hK 2 (by decide)) (Nat.le_of_eq (hK 0 (by decide)).symm) (fun p hp => nq _ (by omega) (by omega) (by omega))
  · exact h.st.same c2 (hK 2 (by decide)) (fun p hp => by rw [eA 7 (by decide) (by decide)]) (fun p hp => ⟨nq _ (by omega) (by omega) (by omega), nq _ (by omega) (by omega) (by omega)⟩)
theorem RelR.onG {K : Nat → Nat} {S S' : FS} {n n' : Nat → Int32} (h : RelR K S n) (cq : CQ [21] 103 S S') (nq : NQ 1986 1991 9 n n') (hc : S'.1 103 = n' 9) (hgu : RGu (S'.2 21) n') : RelR K S' n' := by
  have hK : ∀ i : Nat, i ≠ 9 → K i = K i := fun _ _ => rfl
  have hct := noct (K' := K) (S' := S') (n' := n')
  have c0 := (h.ct 2 0 10 (by decide)).2.2
  have c1 := (h.ct 101 1 20 (by decide)).2.2
  have c2 := (h.ct 6 2 20 (by decide)).2.2
  have c3 := (h.ct 8 3 20 (by decide)).2.2
  have c4 := (h.ct 10 4 12 (by decide)).2.2
  have c5 := (h.ct 14 5 40 (by decide)).2.2
  have c6 := (h.ct 16 6 6 (by decide)).2.2
  have c7 := (h.ct 18 7 30 (by decide)).2.2
  have c10 := (h.ct 24 10 60 (by decide)).2.2
  have c11 := (h.ct 22 11 20 (by decide)).2.2
  have eA := fun q hq h3 => cq.2.2 q hq h3
  refine ⟨RCt.cq h cq nq (by decide) hK hc hct, ?_, ?_, ?_, ?_, ?_, ?_, ?_, ?_, hgu, ?_, ?_, ?_, ?_, ?_⟩
  · exact h.tw.same c0 (hK 0 (by decide)) (Nat.le_of_eq (hK 2 (by decide)).symm) (fun _ _ => by rw [eA 3 (by decide) (by decide)]) (fun j h1 h2 => nq j (by omega) (by omega) (by omega))
  · exact h.wy.no (hK 1 (by decide)) c1 (Nat.le_of_eq (hK 0 (by decide)).symm) (eA 5 (by decide) (by decide)) (fun j h1 h2 => nq j (by omega) (by omega) (by omega))
  · exact h.pe.same c2 (Nat.le_of_eq (hK 0 (by decide)).symm) (hK 2 (by decide)) (hK 8 (by decide)) (fun _ _ => by rw [eA 7 (by decide) (by decide)]) (fun j h1 h2 => nq j (by omega) (by omega) (by omega))
  · exact h.pw.same c3 c2 (hK 3 (by decide)) (Nat.le_of_eq (hK 2 (by decide)).symm) (fun _ _ => by rw [eA 9 (by decide) (by decide)]) (fun j h1 h2 => nq j (by omega) (by omega) (by omega)) (fun x hx => hx.same c2 (Nat.le_of_eq (hK 2 (by decide)).symm) (fun j h1 h2 => nq j (by omega) (by omega) (by omega)))
  · exact h.la.same c4 (hK 4 (by decide)) (Nat.le_of_eq (hK 8 (by decide)).symm) (fun _ _ => by rw [eA 11 (by decide) (by decide)]) (fun _ _ => by rw [eA 13 (by decide) (by decide)]) (fun j h1 h2 => nq j (by omega) (by omega) (by omega))
  · exact h.le.same c5 (hK 5 (by decide)) (Nat.le_of_eq (hK 0 (by decide)).symm) (Nat.le_of_eq (hK 2 (by decide)).symm) (fun _ _ => by rw [eA 15 (by decide) (by decide)]) (fun j h1 h2 => nq j (by omega) (by omega) (by omega))
  · exact h.de.same c6 c0 (hK 6 (by decide)) (Nat.le_of_eq (hK 0 (by decide)).symm) (Nat.le_of_eq (hK 8 (by decide)).symm) (fun _ _ => by rw [eA 17 (by decide) (by decide)]) (fun j h1 h2 => nq j (by omega) (by omega) (by omega)) (fun t ht e => by rw [nq _ (by omega) (by omega) (by omega)]; exact e)
  · exact h.pr.same c7 (hK 7 (by decide)) (Nat.le_of_eq (hK 2 (by decide)).symm) (hK 8 (by decide)) (fun _ _ => by rw [eA 19 (by decide) (by decide)]) (fun j h1 h2 => nq j (by omega) (by omega) (by omega))
  · exact h.wt.same c11 (hK 11 (by decide)) (fun _ _ => by rw [eA 23 (by decide) (by decide)]) (fun j h1 h2 => nq j (by omega) (by omega) (by omega))
  · exact h.ta.same c10 (hK 10 (by decide)) (fun _ _ => by rw [eA 25 (by decide) (by decide)]) (fun j h1 h2 => nq j (by omega) (by omega) (by omega))
  · exact h.se.same c2 (hK 2 (by decide)) (Nat.le_of_eq (hK 0 (by decide)).symm) (fun p hp => nq _ (by omega) (by omega) (by omega))
  · exact h.st.same c2 (hK 2 (by decide)) (fun p hp => by rw [eA 7 (by decide) (by decide)]) (fun p hp => ⟨nq _ (by omega) (by omega) (by omega), nq _ (by omega) (by omega) (by omega)⟩)
  · exact h.ps.same c7 (hK 7 (by decide)) (Nat.le_of_eq (hK 2 (by decide)).symm) (hK 8 (by decide)) (fun _ _ => by rw [eA 19 (by decide) (by decide)]) (fun j h1 h2 => nq j (by omega) (by omega) (by omega)) (fun p hp => nq _ (by omega) (by omega) (by omega))
theorem RelR.onA {K : Nat → Nat} {S S' : FS} {n n' : Nat → Int32} (h : RelR K S n) (cq : CQ [25] 103 S S') (nq : NQ 1991 2051 9 n n') (hc : S'.1 103 = n' 9) (hta : RTa K (S'.2 25) n') : RelR K S' n' := by
  have hK : ∀ i : Nat, i ≠ 9 → K i = K i := fun _ _ => rfl
  have hct := noct (K' := K) (S' := S') (n' := n')
  have c0 := (h.ct 2 0 10 (by decide)).2.2
  have c1 := (h.ct 101 1 20 (by decide)).2.2
  have c2 := (h.ct 6 2 20 (by decide)).2.2
  have c3 := (h.ct 8 3 20 (by decide)).2.2
  have c4 := (h.ct 10 4 12 (by decide)).2.2
  have c5 := (h.ct 14 5 40 (by decide)).2.2
  have c6 := (h.ct 16 6 6 (by decide)).2.2
  have c7 := (h.ct 18 7 30 (by decide)).2.2
  have c10 := (h.ct 24 10 60 (by decide)).2.2
  have c11 := (h.ct 22 11 20 (by decide)).2.2
  have eA := fun q hq h3 => cq.2.2 q hq h3
  refine ⟨RCt.cq h cq nq (by decide) hK hc hct, ?_, ?_, ?_, ?_, ?_, ?_, ?_, ?_, ?_, ?_, hta, ?_, ?_, ?_⟩
  · exact h.tw.same c0 (hK 0 (by decide)) (Nat.le_of_eq (hK 2 (by decide)).symm) (fun _ _ => by rw [eA 3 (by decide) (by decide)]) (fun j h1 h2 => nq j (by omega) (by omega) (by omega))
  · exact h.wy.no (hK 1 (by decide)) c1 (Nat.le_of_eq (hK 0 (by decide)).symm) (eA 5 (by decide) (by decide)) (fun j h1 h2 => nq j (by omega) (by omega) (by omega))
  · exact h.pe.same c2 (Nat.le_of_eq (hK 0 (by decide)).symm) (hK 2 (by decide)) (hK 8 (by decide)) (fun _ _ => by rw [eA 7 (by decide) (by decide)]) (fun j h1 h2 => nq j (by omega) (by omega) (by omega))
  · exact h.pw.same c3 c2 (hK 3 (by decide)) (Nat.le_of_eq (hK 2 (by decide)).symm) (fun _ _ => by rw [eA 9 (by decide) (by decide)]) (fun j h1 h2 => nq j (by omega) (by omega) (by omega)) (fun x hx => hx.same c2 (Nat.le_of_eq (hK 2 (by decide)).symm) (fun j h1 h2 => nq j (by omega) (by omega) (by omega)))
  · exact h.la.same c4 (hK 4 (by decide)) (Nat.le_of_eq (hK 8 (by decide)).symm) (fun _ _ => by rw [eA 11 (by decide) (by decide)]) (fun _ _ => by rw [eA 13 (by decide) (by decide)]) (fun j h1 h2 => nq j (by omega) (by omega) (by omega))
  · exact h.le.same c5 (hK 5 (by decide)) (Nat.le_of_eq (hK 0 (by decide)).symm) (Nat.le_of_eq (hK 2 (by decide)).symm) (fun _ _ => by rw [eA 15 (by decide) (by decide)]) (fun j h1 h2 => nq j (by omega) (by omega) (by omega))
  · exact h.de.same c6 c0 (hK 6 (by decide)) (Nat.le_of_eq (hK 0 (by decide)).symm) (Nat.le_of_eq (hK 8 (by decide)).symm) (fun _ _ => by rw [eA 17 (by decide) (by decide)]) (fun j h1 h2 => nq j (by omega) (by omega) (by omega)) (fun t ht e => by rw [nq _ (by omega) (by omega) (by omega)]; exact e)
  · exact h.pr.same c7 (hK 7 (by decide)) (Nat.le_of_eq (hK 2 (by decide)).symm) (hK 8 (by decide)) (fun _ _ => by rw [eA 19 (by decide) (by decide)]) (fun j h1 h2 => nq j (by omega) (by omega) (by omega))
  · exact h.gu.same (fun _ _ => by rw [eA 21 (by decide) (by decide)]) (fun j h1 h2 => nq j (by omega) (by omega) (by omega))
  · exact h.wt.same c11 (hK 11 (by decide)) (fun _ _ => by rw [eA 23 (by decide) (by decide)]) (fun j h1 h2 => nq j (by omega) (by omega) (by omega))
  · exact h.se.same c2 (hK 2 (by decide)) (Nat.le_of_eq (hK 0 (by decide)).symm) (fun p hp => nq _ (by omega) (by omega) (by omega))
  · exact h.st.same c2 (hK 2 (by decide)) (fun p hp => by rw [eA 7 (by decide) (by decide)]) (fun p hp => ⟨nq _ (by omega) (by omega) (by omega), nq _ (by omega) (by omega) (by omega)⟩)
  · exact h.ps.same c7 (hK 7 (by decide)) (Nat.le_of_eq (hK 2 (by decide)).symm) (hK 8 (by decide)) (fun _ _ => by rw [eA 19 (by decide) (by decide)]) (fun j h1 h2 => nq j (by omega) (by omega) (by omega)) (fun p hp => nq _ (by omega) (by omega) (by omega))
theorem RelR.onX {K : Nat → Nat} {S S' : FS} {n n' : Nat → Int32} (h : RelR K S n) (cq : CQ [23] 103 S S') (nq : NQ 2051 2071 9 n n') (hc : S'.1 103 = n' 9) (hwt : RWt K (S'.2 23) n') : RelR K S' n' := by
  have hK : ∀ i : Nat, i ≠ 9 → K i = K i := fun _ _ => rfl
  have hct := noct (K' := K) (S' := S') (n' := n')
  have c0 := (h.ct 2 0 10 (by decide)).2.2
  have c1 := (h.ct 101 1 20 (by decide)).2.2
  have c2 := (h.ct 6 2 20 (by decide)).2.2
  have c3 := (h.ct 8 3 20 (by decide)).2.2
  have c4 := (h.ct 10 4 12 (by decide)).2.2
  have c5 := (h.ct 14 5 40 (by decide)).2.2
  have c6 := (h.ct 16 6 6 (by decide)).2.2
  have c7 := (h.ct 18 7 30 (by decide)).2.2
  have c10 := (h.ct 24 10 60 (by decide)).2.2
  have c11 := (h.ct 22 11 20 (by decide)).2.2
  have eA := fun q hq h3 => cq.2.2 q hq h3
  refine ⟨RCt.cq h cq nq (by decide) hK hc hct, ?_, ?_, ?_, ?_, ?_, ?_, ?_, ?_, ?_, hwt, ?_, ?_, ?_, ?_⟩
  · exact h.tw.same c0 (hK 0 (by decide)) (Nat.le_of_eq (hK 2 (by decide)).symm) (fun _ _ => by rw [eA 3 (by decide) (by decide)]) (fun j h1 h2 => nq j (by omega) (by omega) (by omega))
  · exact h.wy.no (hK 1 (by decide)) c1 (Nat.le_of_eq (hK 0 (by decide)).symm) (eA 5 (by decide) (by decide)) (fun j h1 h2 => nq j (by omega) (by omega) (by omega))
  · exact h.pe.same c2 (Nat.le_of_eq (hK 0 (by decide)).symm) (hK 2 (by decide)) (hK 8 (by decide)) (fun _ _ => by rw [eA 7 (by decide) (by decide)]) (fun j h1 h2 => nq j (by omega) (by omega) (by omega))
  · exact h.pw.same c3 c2 (hK 3 (by decide)) (Nat.le_of_eq (hK 2 (by decide)).symm) (fun _ _ => by rw [eA 9 (by decide) (by decide)]) (fun j h1 h2 => nq j (by omega) (by omega) (by omega)) (fun x hx => hx.same c2 (Nat.le_of_eq (hK 2 (by decide)).symm) (fun j h1 h2 => nq j (by omega) (by omega) (by omega)))
  · exact h.la.same c4 (hK 4 (by decide)) (Nat.le_of_eq (hK 8 (by decide)).symm) (fun _ _ => by rw [eA 11 (by decide) (by decide)]) (fun _ _ => by rw [eA 13 (by decide) (by decide)]) (fun j h1 h2 => nq j (by omega) (by omega) (by omega))
  · exact h.le.same c5 (hK 5 (by decide)) (Nat.le_of_eq (hK 0 (by decide)).symm) (Nat.le_of_eq (hK 2 (by decide)).symm) (fun _ _ => by rw [eA 15 (by decide) (by decide)]) (fun j h1 h2 => nq j (by omega) (by omega) (by omega))
  · exact h.de.same c6 c0 (hK 6 (by decide)) (Nat.le_of_eq (hK 0 (by decide)).symm) (Nat.le_of_eq (hK 8 (by decide)).symm) (fun _ _ => by rw [eA 17 (by decide) (by decide)]) (fun j h1 h2 => nq j (by omega) (by omega) (by omega)) (fun t ht e => by rw [nq _ (by omega) (by omega) (by omega)]; exact e)
  · exact h.pr.same c7 (hK 7 (by decide)) (Nat.le_of_eq (hK 2 (by decide)).symm) (hK 8 (by decide)) (fun _ _ => by rw [eA 19 (by decide) (by decide)]) (fun j h1 h2 => nq j (by omega) (by omega) (by omega))
  · exact h.gu.same (fun _ _ => by rw [eA 21 (by decide) (by decide)]) (fun j h1 h2 => nq j (by omega) (by omega) (by omega))
  · exact h.ta.same c10 (hK 10 (by decide)) (fun _ _ => by rw [eA 25 (by decide) (by decide)]) (fun j h1 h2 => nq j (by omega) (by omega) (by omega))
  · exact h.se.same c2 (hK 2 (by decide)) (Nat.le_of_eq (hK 0 (by decide)).symm) (fun p hp => nq _ (by omega) (by omega) (by omega))
  · exact h.st.same c2 (hK 2 (by decide)) (fun p hp => by rw [eA 7 (by decide) (by decide)]) (fun p hp => ⟨nq _ (by omega) (by omega) (by omega), nq _ (by omega) (by omega) (by omega)⟩)
  · exact h.ps.same c7 (hK 7 (by decide)) (Nat.le_of_eq (hK 2 (by decide)).symm) (hK 8 (by decide)) (fun _ _ => by rw [eA 19 (by decide) (by decide)]) (fun j h1 h2 => nq j (by omega) (by omega) (by omega)) (fun p hp => nq _ (by omega) (by omega) (by omega))
theorem RelR.onT_0 {K K' : Nat → Nat} {S S' : FS} {n n' : Nat → Int32} (h : RelR K S n) (cq : CQ [3] 2 S S') (nq : NQ 20 50 0 n n') (hK : ∀ i : Nat, i ≠ 0 → K' i = K i) (hk : K 0 ≤ K' 0) (hc : S'.1 103 = n' 9) (hct : ∀ q ∈ ctT, q.1 = 2 ∨ q.2.1 = 0 → S'.1 q.1 = nI (K' q.2.1) ∧ n' q.2.1 = nI (K' q.2.1) ∧ K' q.2.1 ≤ q.2.2) (htw : RTw K' (S'.2 3) n') (ht : ∀ t : Nat, t < K 0 → n (3 * t + 22) = 1 → n' (3 * t + 22) = 1) : RelR K' S' n' := by
  have c0 := (h.ct 2 0 10 (by decide)).2.2
  have c1 := (h.ct 101 1 20 (by decide)).2.2
  have c2 := (h.ct 6 2 20 (by decide)).2.2
  have c3 := (h.ct 8 3 20 (by decide)).2.2
  have c4 := (h.ct 10 4 12 (by decide)).2.2
  have c5 := (h.ct 14 5 40 (by decide)).2.2
  have c6 := (h.ct 16 6 6 (by decide)).2.2
  have c7 := (h.ct 18 7 30 (by decide)).2.2
  have c10 := (h.ct 24 10 60 (by decide)).2.2
  have c11 := (h.ct 22 11 20 (by decide)).2.2
  have eA := fun q hq h3 => cq.2.2 q hq h3
  refine ⟨RCt.cq h cq nq (by decide) hK hc hct, htw, ?_, ?_, ?_, ?_, ?_, ?_, ?_, ?_, ?_, ?_, ?_, ?_, ?_⟩
  · exact h.wy.no (hK 1 (by decide)) c1 hk (eA 5 (by decide) (by decide)) (fun j h1 h2 => nq j (by omega) (by omega) (by omega))
  · exact h.pe.same c2 hk (hK 2 (by decide)) (hK 8 (by decide)) (fun _ _ => by rw [eA 7 (by decide) (by decide)]) (fun j h1 h2 => nq j (by omega) (by omega) (by omega))
  · exact h.pw.same c3 c2 (hK 3 (by decide)) (Nat.le_of_eq (hK 2 (by decide)).symm) (fun _ _ => by rw [eA 9 (by decide) (by decide)]) (fun j h1 h2 => nq j (by omega) (by omega) (by omega)) (fun x hx => hx.same c2 (Nat.le_of_eq (hK 2 (by decide)).symm) (fun j h1 h2 => nq j (by omega) (by omega) (by omega)))
  · exact h.la.same c4 (hK 4 (by decide)) (Nat.le_of_eq (hK 8 (by decide)).symm) (fun _ _ => by rw [eA 11 (by decide) (by decide)]) (fun _ _ => by rw [eA 13 (by decide) (by decide)]) (fun j h1 h2 => nq j (by omega) (by omega) (by omega))
  · exact h.le.same c5 (hK 5 (by decide)) hk (Nat.le_of_eq (hK 2 (by decide)).symm) (fun _ _ => by rw [eA 15 (by decide) (by decide)]) (fun j h1 h2 => nq j (by omega) (by omega) (by omega))
  · exact h.de.same c6 c0 (hK 6 (by decide)) hk (Nat.le_of_eq (hK 8 (by decide)).symm) (fun _ _ => by rw [eA 17 (by decide) (by decide)]) (fun j h1 h2 => nq j (by omega) (by omega) (by omega)) ht
  · exact h.pr.same c7 (hK 7 (by decide)) (Nat.le_of_eq (hK 2 (by decide)).symm) (hK 8 (by decide)) (fun _ _ => by rw [eA 19 (by decide) (by decide)]) (fun j h1 h2 => nq j (by omega) (by omega) (by omega))
  · exact h.gu.same (fun _ _ => by rw [eA 21 (by decide) (by decide)]) (fun j h1 h2 => nq j (by omega) (by omega) (by omega))
  · exact h.wt.same c11 (hK 11 (by decide)) (fun _ _ => by rw [eA 23 (by decide) (by decide)]) (fun j h1 h2 => nq j (by omega) (by omega) (by omega))
  · exact h.ta.same c10 (hK 10 (by decide)) (fun _ _ => by rw [eA 25 (by decide) (by decide)]) (fun j h1 h2 => nq j (by omega) (by omega) (by omega))
  · exact h.se.same c2 (hK 2 (by decide)) hk (fun p hp => nq _ (by omega) (by omega) (by omega))
  · exact h.st.same c2 (hK 2 (by decide)) (fun p hp => by rw [eA 7 (by decide) (by decide)]) (fun p hp => ⟨nq _ (by omega) (by omega) (by omega), nq _ (by omega) (by omega) (by omega)⟩)
  · exact h.ps.same c7 (hK 7 (by decide)) (Nat.le_of_eq (hK 2 (by decide)).symm) (hK 8 (by decide)) (fun _ _ => by rw [eA 19 (by decide) (by decide)]) (fun j h1 h2 => nq j (by omega) (by omega) (by omega)) (fun p hp => nq _ (by omega) (by omega) (by omega))
theorem RelR.onR_1 {K K' : Nat → Nat} {S S' : FS} {n n' : Nat → Int32} (h : RelR K S n) (cq : CQ [5] 101 S S') (nq : NQ 50 110 1 n n') (hK : ∀ i : Nat, i ≠ 1 → K' i = K i) (hk : K 1 ≤ K' 1) (hc : S'.1 103 = n' 9) (hct : ∀ q ∈ ctT, q.1 = 101 ∨ q.2.1 = 1 → S'.1 q.1 = nI (K' q.2.1) ∧ n' q.2.1 = nI (K' q.2.1) ∧ K' q.2.1 ≤ q.2.2) (hwy : WQ1 (S'.2 5) n' (K' 1) (K' 0)) : RelR K' S' n' := by
  have c0 := (h.ct 2 0 10 (by decide)).2.2
  have c1 := (h.ct 101 1 20 (by decide)).2.2
  have c2 := (h.ct 6 2 20 (by decide)).2.2
  have c3 := (h.ct 8 3 20 (by decide)).2.2
  have c4 := (h.ct 10 4 12 (by decide)).2.2
  have c5 := (h.ct 14 5 40 (by decide)).2.2
  have c6 := (h.ct 16 6 6 (by decide)).2.2
  have c7 := (h.ct 18 7 30 (by decide)).2.2
  have c10 := (h.ct 24 10 60 (by decide)).2.2
  have c11 := (h.ct 22 11 20 (by decide)).2.2
  have eA := fun q hq h3 => cq.2.2 q hq h3
  refine ⟨RCt.cq h cq nq (by decide) hK hc hct, ?_, hwy, ?_, ?_, ?_, ?_, ?_, ?_, ?_, ?_, ?_, ?_, ?_, ?_⟩
  · exact h.tw.same c0 (hK 0 (by decide)) (Nat.le_of_eq (hK 2 (by decide)).symm) (fun _ _ => by rw [eA 3 (by decide) (by decide)]) (fun j h1 h2 => nq j (by omega) (by omega) (by omega))
  · exact h.pe.same c2 (Nat.le_of_eq (hK 0 (by decide)).symm) (hK 2 (by decide)) (hK 8 (by decide)) (fun _ _ => by rw [eA 7 (by decide) (by decide)]) (fun j h1 h2 => nq j (by omega) (by omega) (by omega))
  · exact h.pw.same c3 c2 (hK 3 (by decide)) (Nat.le_of_eq (hK 2 (by decide)).symm) (fun _ _ => by rw [eA 9 (by decide) (by decide)]) (fun j h1 h2 => nq j (by omega) (by omega) (by omega)) (fun x hx => hx.same c2 (Nat.le_of_eq (hK 2 (by decide)).symm) (fun j h1 h2 => nq j (by omega) (by omega) (by omega)))
  · exact h.la.same c4 (hK 4 (by decide)) (Nat.le_of_eq (hK 8 (by decide)).symm) (fun _ _ => by rw [eA 11 (by decide) (by decide)]) (fun _ _ => by rw [eA 13 (by decide) (by decide)]) (fun j h1 h2 => nq j (by omega) (by omega) (by omega))
  · exact h.le.same c5 (hK 5 (by decide)) (Nat.le_of_eq (hK 0 (by decide)).symm) (Nat.le_of_eq (hK 2 (by decide)).symm) (fun _ _ => by rw [eA 15 (by decide) (by decide)]) (fun j h1 h2 => nq j (by omega) (by omega) (by omega))
  · exact h.de.same c6 c0 (hK 6 (by decide)) (Nat.le_of_eq (hK 0 (by decide)).symm) (Nat.le_of_eq (hK 8 (by decide)).symm) (fun _ _ => by rw [eA 17 (by decide) (by decide)]) (fun j h1 h2 => nq j (by omega) (by omega) (by omega)) (fun t ht e => by rw [nq _ (by omega) (by omega) (by omega)]; exact e)
  · exact h.pr.same c7 (hK 7 (by decide)) (Nat.le_of_eq (hK 2 (by decide)).symm) (hK 8 (by decide)) (fun _ _ => by rw [eA 19 (by decide) (by decide)]) (fun j h1 h2 => nq j (by omega) (by omega) (by omega))
  · exact h.gu.same (fun _ _ => by rw [eA 21 (by decide) (by decide)]) (fun j h1 h2 => nq j (by omega) (by omega) (by omega))
  · exact h.wt.same c11 (hK 11 (by decide)) (fun _ _ => by rw [eA 23 (by decide) (by decide)]) (fun j h1 h2 => nq j (by omega) (by omega) (by omega))
  · exact h.ta.same c10 (hK 10 (by decide)) (fun _ _ => by rw [eA 25 (by decide) (by decide)]) (fun j h1 h2 => nq j (by omega) (by omega) (by omega))
  · exact h.se.same c2 (hK 2 (by decide)) (Nat.le_of_eq (hK 0 (by decide)).symm) (fun p hp => nq _ (by omega) (by omega) (by omega))
  · exact h.st.same c2 (hK 2 (by decide)) (fun p hp => by rw [eA 7 (by decide) (by decide)]) (fun p hp => ⟨nq _ (by omega) (by omega) (by omega), nq _ (by omega) (by omega) (by omega)⟩)
  · exact h.ps.same c7 (hK 7 (by decide)) (Nat.le_of_eq (hK 2 (by decide)).symm) (hK 8 (by decide)) (fun _ _ => by rw [eA 19 (by decide) (by decide)]) (fun j h1 h2 => nq j (by omega) (by omega) (by omega)) (fun p hp => nq _ (by omega) (by omega) (by omega))
theorem RelR.onP_2 {K K' : Nat → Nat} {S S' : FS} {n n' : Nat → Int32} (h : RelR K S n) (cq : CQ [7] 6 S S') (nq : NQ 110 390 2 n n') (hK : ∀ i : Nat, i ≠ 2 → K' i = K i) (hk : K 2 ≤ K' 2) (hc : S'.1 103 = n' 9) (hct : ∀ q ∈ ctT, q.1 = 6 ∨ q.2.1 = 2 → S'.1 q.1 = nI (K' q.2.1) ∧ n' q.2.1 = nI (K' q.2.1) ∧ K' q.2.1 ≤ q.2.2) (hpe : RPe K' (S'.2 7) n') (hse : RSe K' n') (hst : RSt K' (S'.2 7) n') (hv : ∀ x : Int32, vL (K 2) n x → vL (K' 2) n' x) (hsq : ∀ p : Nat, p < K 2 → n' (14 * p + 121) = n (14 * p + 121)) : RelR K' S' n' := by
  have c0 := (h.ct 2 0 10 (by decide)).2.2
  have c1 := (h.ct 101 1 20 (by decide)).2.2
  have c2 := (h.ct 6 2 20 (by decide)).2.2
  have c3 := (h.ct 8 3 20 (by decide)).2.2
  have c4 := (h.ct 10 4 12 (by decide)).2.2
  have c5 := (h.ct 14 5 40 (by decide)).2.2
  have c6 := (h.ct 16 6 6 (by decide)).2.2
  have c7 := (h.ct 18 7 30 (by decide)).2.2
  have c10 := (h.ct 24 10 60 (by decide)).2.2
  have c11 := (h.ct 22 11 20 (by decide)).2.2
  have eA := fun q hq h3 => cq.2.2 q hq h3
  refine ⟨RCt.cq h cq nq (by decide) hK hc hct, ?_, ?_, hpe, ?_, ?_, ?_, ?_, ?_, ?_, ?_, ?_, hse, hst, ?_⟩
  · exact h.tw.same c0 (hK 0 (by decide)) hk (fun _ _ => by rw [eA 3 (by decide) (by decide)]) (fun j h1 h2 => nq j (by omega) (by omega) (by omega))
  · exact h.wy.no (hK 1 (by decide)) c1 (Nat.le_of_eq (hK 0 (by decide)).symm) (eA 5 (by decide) (by decide)) (fun j h1 h2 => nq j (by omega) (by omega) (by omega))
  · exact h.pw.same c3 c2 (hK 3 (by decide)) hk (fun _ _ => by rw [eA 9 (by decide) (by decide)]) (fun j h1 h2 => nq j (by omega) (by omega) (by omega)) hv
  · exact h.la.same c4 (hK 4 (by decide)) (Nat.le_of_eq (hK 8 (by decide)).symm) (fun _ _ => by rw [eA 11 (by decide) (by decide)]) (fun _ _ => by rw [eA 13 (by decide) (by decide)]) (fun j h1 h2 => nq j (by omega) (by omega) (by omega))
  · exact h.le.same c5 (hK 5 (by decide)) (Nat.le_of_eq (hK 0 (by decide)).symm) hk (fun _ _ => by rw [eA 15 (by decide) (by decide)]) (fun j h1 h2 => nq j (by omega) (by omega) (by omega))
  · exact h.de.same c6 c0 (hK 6 (by decide)) (Nat.le_of_eq (hK 0 (by decide)).symm) (Nat.le_of_eq (hK 8 (by decide)).symm) (fun _ _ => by rw [eA 17 (by decide) (by decide)]) (fun j h1 h2 => nq j (by omega) (by omega) (by omega)) (fun t ht e => by rw [nq _ (by omega) (by omega) (by omega)]; exact e)
  · exact h.pr.same c7 (hK 7 (by decide)) hk (hK 8 (by decide)) (fun _ _ => by rw [eA 19 (by decide) (by decide)]) (fun j h1 h2 => nq j (by omega) (by omega) (by omega))
  · exact h.gu.same (fun _ _ => by rw [eA 21 (by decide) (by decide)]) (fun j h1 h2 => nq j (by omega) (by omega) (by omega))
  · exact h.wt.same c11 (hK 11 (by decide)) (fun _ _ => by rw [eA 23 (by decide) (by decide)]) (fun j h1 h2 => nq j (by omega) (by omega) (by omega))
  · exact h.ta.same c10 (hK 10 (by decide)) (fun _ _ => by rw [eA 25 (by decide) (by decide)]) (fun j h1 h2 => nq j (by omega) (by omega) (by omega))
  · exact h.ps.same c7 (hK 7 (by decide)) hk (hK 8 (by decide)) (fun _ _ => by rw [eA 19 (by decide) (by decide)]) (fun j h1 h2 => nq j (by omega) (by omega) (by omega)) hsq
theorem RelR.onW_3 {K K' : Nat → Nat} {S S' : FS} {n n' : Nat → Int32} (h : RelR K S n) (cq : CQ [9] 8 S S') (nq : NQ 390 510 3 n n') (hK : ∀ i : Nat, i ≠ 3 → K' i = K i) (hk : K 3 ≤ K' 3) (hc : S'.1 103 = n' 9) (hct : ∀ q ∈ ctT, q.1 = 8 ∨ q.2.1 = 3 → S'.1 q.1 = nI (K' q.2.1) ∧ n' q.2.1 = nI (K' q.2.1) ∧ K' q.2.1 ≤ q.2.2) (hpw : RPw K' (S'.2 9) n') : RelR K' S' n' := by
  have c0 := (h.ct 2 0 10 (by decide)).2.2
  have c1 := (h.ct 101 1 20 (by decide)).2.2
  have c2 := (h.ct 6 2 20 (by decide)).2.2
  have c3 := (h.ct 8 3 20 (by decide)).2.2
  have c4 := (h.ct 10 4 12 (by decide)).2.2
  have c5 := (h.ct 14 5 40 (by decide)).2.2
  have c6 := (h.ct 16 6 6 (by decide)).2.2
  have c7 := (h.ct 18 7 30 (by decide)).2.2
  have c10 := (h.ct 24 10 60 (by decide)).2.2
  have c11 := (h.ct 22 11 20 (by decide)).2.2
  have eA := fun q hq h3 => cq.2.2 q hq h3
  refine ⟨RCt.cq h cq nq (by decide) hK hc hct, ?_, ?_, ?_, hpw, ?_, ?_, ?_, ?_, ?_, ?_, ?_, ?_, ?_, ?_⟩
  · exact h.tw.same c0 (hK 0 (by decide)) (Nat.le_of_eq (hK 2 (by decide)).symm) (fun _ _ => by rw [eA 3 (by decide) (by decide)]) (fun j h1 h2 => nq j (by omega) (by omega) (by omega))
  · exact h.wy.no (hK 1 (by decide)) c1 (Nat.le_of_eq (hK 0 (by decide)).symm) (eA 5 (by decide) (by decide)) (fun j h1 h2 => nq j (by omega) (by omega) (by omega))
  · exact h.pe.same c2 (Nat.le_of_eq (hK 0 (by decide)).symm) (hK 2 (by decide)) (hK 8 (by decide)) (fun _ _ => by rw [eA 7 (by decide) (by decide)]) (fun j h1 h2 => nq j (by omega) (by omega) (by omega))
  · exact h.la.same c4 (hK 4 (by decide)) (Nat.le_of_eq (hK 8 (by decide)).symm) (fun _ _ => by rw [eA 11 (by decide) (by decide)]) (fun _ _ => by rw [eA 13 (by decide) (by decide)]) (fun j h1 h2 => nq j (by omega) (by omega) (by omega))
  · exact h.le.same c5 (hK 5 (by decide)) (Nat.le_of_eq (hK 0 (by decide)).symm) (Nat.le_of_eq (hK 2 (by decide)).symm) (fun _ _ => by rw [eA 15 (by decide) (by decide)]) (fun j h1 h2 => nq j (by omega) (by omega) (by omega))
  · exact h.de.same c6 c0 (hK 6 (by decide)) (Nat.le_of_eq (hK 0 (by decide)).symm) (Nat.le_of_eq (hK 8 (by decide)).symm) (fun _ _ => by rw [eA 17 (by decide) (by decide)]) (fun j h1 h2 => nq j (by omega) (by omega) (by omega)) (fun t ht e => by rw [nq _ (by omega) (by omega) (by omega)]; exact e)
  · exact h.pr.same c7 (hK 7 (by decide)) (Nat.le_of_eq (hK 2 (by decide)).symm) (hK 8 (by decide)) (fun _ _ => by rw [eA 19 (by decide) (by decide)]) (fun j h1 h2 => nq j (by omega) (by omega) (by omega))
  · exact h.gu.same (fun _ _ => by rw [eA 21 (by decide) (by decide)]) (fun j h1 h2 => nq j (by omega) (by omega) (by omega))
  · exact h.wt.same c11 (hK 11 (by decide)) (fun _ _ => by rw [eA 23 (by decide) (by decide)]) (fun j h1 h2 => nq j (by omega) (by omega) (by omega))
  · exact h.ta.same c10 (hK 10 (by decide)) (fun _ _ => by rw [eA 25 (by decide) (by decide)]) (fun j h1 h2 => nq j (by omega) (by omega) (by omega))
  · exact h.se.same c2 (hK 2 (by decide)) (Nat.le_of_eq (hK 0 (by decide)).symm) (fun p hp => nq _ (by omega) (by omega) (by omega))
  · exact h.st.same c2 (hK 2 (by decide)) (fun p hp => by rw [eA 7 (by decide) (by decide)]) (fun p hp => ⟨nq _ (by omega) (by omega) (by omega), nq _ (by omega) (by omega) (by omega)⟩)
  · exact h.ps.same c7 (hK 7 (by decide)) (Nat.le_of_eq (hK 2 (by decide)).symm) (hK 8 (by decide)) (fun _ _ => by rw [eA 19 (by decide) (by decide)]) (fun j h1 h2 => nq j (by omega) (by omega) (by omega)) (fun p hp => nq _ (by omega) (by omega) (by omega))
theorem RelR.onL_4 {K K' : Nat → Nat} {S S' : FS} {n n' : Nat → Int32} (h : RelR K S n) (cq : CQ [11, 13] 10 S S') (nq : NQ 510 1290 4 n n') (hK : ∀ i : Nat, i ≠ 4 → K' i = K i) (hk : K 4 ≤ K' 4) (hc : S'.1 103 = n' 9) (hct : ∀ q ∈ ctT, q.1 = 10 ∨ q.2.1 = 4 → S'.1 q.1 = nI (K' q.2.1) ∧ n' q.2.1 = nI (K' q.2.1) ∧ K' q.2.1 ≤ q.2.2) (hla : RLa K' (S'.2 11) (S'.2 13) n') : RelR K' S' n' := by
  have c0 := (h.ct 2 0 10 (by decide)).2.2
  have c1 := (h.ct 101 1 20 (by decide)).2.2
  have c2 := (h.ct 6 2 20 (by decide)).2.2
  have c3 := (h.ct 8 3 20 (by decide)).2.2
  have c4 := (h.ct 10 4 12 (by decide)).2.2
  have c5 := (h.ct 14 5 40 (by decide)).2.2
  have c6 := (h.ct 16 6 6 (by decide)).2.2
  have c7 := (h.ct 18 7 30 (by decide)).2.2
  have c10 := (h.ct 24 10 60 (by decide)).2.2
  have c11 := (h.ct 22 11 20 (by decide)).2.2
  have eA := fun q hq h3 => cq.2.2 q hq h3
  refine ⟨RCt.cq h cq nq (by decide) hK hc hct, ?_, ?_, ?_, ?_, hla, ?_, ?_, ?_, ?_, ?_, ?_, ?_, ?_, ?_⟩
  · exact h.tw.same c0 (hK 0 (by decide)) (Nat.le_of_eq (hK 2 (by decide)).symm) (fun _ _ => by rw [eA 3 (by decide) (by decide)]) (fun j h1 h2 => nq j (by omega) (by omega) (by omega))
  · exact h.wy.no (hK 1 (by decide)) c1 (Nat.le_of_eq (hK 0 (by decide)).symm) (eA 5 (by decide) (by decide)) (fun j h1 h2 => nq j (by omega) (by omega) (by omega))
  · exact h.pe.same c2 (Nat.le_of_eq (hK 0 (by decide)).symm) (hK 2 (by decide)) (hK 8 (by decide)) (fun _ _ => by rw [eA 7 (by decide) (by decide)]) (fun j h1 h2 => nq j (by omega) (by omega) (by omega))
  · exact h.pw.same c3 c2 (hK 3 (by decide)) (Nat.le_of_eq (hK 2 (by decide)).symm) (fun _ _ => by rw [eA 9 (by decide) (by decide)]) (fun j h1 h2 => nq j (by omega) (by omega) (by omega)) (fun x hx => hx.same c2 (Nat.le_of_eq (hK 2 (by decide)).symm) (fun j h1 h2 => nq j (by omega) (by omega) (by omega)))
  · exact h.le.same c5 (hK 5 (by decide)) (Nat.le_of_eq (hK 0 (by decide)).symm) (Nat.le_of_eq (hK 2 (by decide)).symm) (fun _ _ => by rw [eA 15 (by decide) (by decide)]) (fun j h1 h2 => nq j (by omega) (by omega) (by omega))
  · exact h.de.same c6 c0 (hK 6 (by decide)) (Nat.le_of_eq (hK 0 (by decide)).symm) (Nat.le_of_eq (hK 8 (by decide)).symm) (fun _ _ => by rw [eA 17 (by decide) (by decide)]) (fun j h1 h2 => nq j (by omega) (by omega) (by omega)) (fun t ht e => by rw [nq _ (by omega) (by omega) (by omega)]; exact e)
  · exact h.pr.same c7 (hK 7 (by decide)) (Nat.le_of_eq (hK 2 (by decide)).symm) (hK 8 (by decide)) (fun _ _ => by rw [eA 19 (by decide) (by decide)]) (fun j h1 h2 => nq j (by omega) (by omega) (by omega))
  · exact h.gu.same (fun _ _ => by rw [eA 21 (by decide) (by decide)]) (fun j h1 h2 => nq j (by omega) (by omega) (by omega))
  · exact h.wt.same c11 (hK 11 (by decide)) (fun _ _ => by rw [eA 23 (by decide) (by decide)]) (fun j h1 h2 => nq j (by omega) (by omega) (by omega))
  · exact h.ta.same c10 (hK 10 (by decide)) (fun _ _ => by rw [eA 25 (by decide) (by decide)]) (fun j h1 h2 => nq j (by omega) (by omega) (by omega))
  · exact h.se.same c2 (hK 2 (by decide)) (Nat.le_of_eq (hK 0 (by decide)).symm) (fun p hp => nq _ (by omega) (by omega) (by omega))
  · exact h.st.same c2 (hK 2 (by decide)) (fun p hp => by rw [eA 7 (by decide) (by decide)]) (fun p hp => ⟨nq _ (by omega) (by omega) (by omega), nq _ (by omega) (by omega) (by omega)⟩)
  · exact h.ps.same c7 (hK 7 (by decide)) (Nat.le_of_eq (hK 2 (by decide)).symm) (hK 8 (by decide)) (fun _ _ => by rw [eA 19 (by decide) (by decide)]) (fun j h1 h2 => nq j (by omega) (by omega) (by omega)) (fun p hp => nq _ (by omega) (by omega) (by omega))
theorem RelR.onE_5 {K K' : Nat → Nat} {S S' : FS} {n n' : Nat → Int32} (h : RelR K S n) (cq : CQ [15] 14 S S') (nq : NQ 1290 1770 5 n n') (hK : ∀ i : Nat, i ≠ 5 → K' i = K i) (hk : K 5 ≤ K' 5) (hc : S'.1 103 = n' 9) (hct : ∀ q ∈ ctT, q.1 = 14 ∨ q.2.1 = 5 → S'.1 q.1 = nI (K' q.2.1) ∧ n' q.2.1 = nI (K' q.2.1) ∧ K' q.2.1 ≤ q.2.2) (hle : RLe K' (S'.2 15) n') : RelR K' S' n' := by
  have c0 := (h.ct 2 0 10 (by decide)).2.2
  have c1 := (h.ct 101 1 20 (by decide)).2.2
  have c2 := (h.ct 6 2 20 (by decide)).2.2
  have c3 := (h.ct 8 3 20 (by decide)).2.2
  have c4 := (h.ct 10 4 12 (by decide)).2.2
  have c5 := (h.ct 14 5 40 (by decide)).2.2
  have c6 := (h.ct 16 6 6 (by decide)).2.2
  have c7 := (h.ct 18 7 30 (by decide)).2.2
  have c10 := (h.ct 24 10 60 (by decide)).2.2
  have c11 := (h.ct 22 11 20 (by decide)).2.2
  have eA := fun q hq h3 => cq.2.2 q hq h3
  refine ⟨RCt.cq h cq nq (by decide) hK hc hct, ?_, ?_, ?_, ?_, ?_, hle, ?_, ?_, ?_, ?_, ?_, ?_, ?_, ?_⟩
  · exact h.tw.same c0 (hK 0 (by decide)) (Nat.le_of_eq (hK 2 (by decide)).symm) (fun _ _ => by rw [eA 3 (by decide) (by decide)]) (fun j h1 h2 => nq j (by omega) (by omega) (by omega))
  · exact h.wy.no (hK 1 (by decide)) c1 (Nat.le_of_eq (hK 0 (by decide)).symm) (eA 5 (by decide) (by decide)) (fun j h1 h2 => nq j (by omega) (by omega) (by omega))
  · exact h.pe.same c2 (Nat.le_of_eq (hK 0 (by decide)).symm) (hK 2 (by decide)) (hK 8 (by decide)) (fun _ _ => by rw [eA 7 (by decide) (by decide)]) (fun j h1 h2 => nq j (by omega) (by omega) (by omega))
  · exact h.pw.same c3 c2 (hK 3 (by decide)) (Nat.le_of_eq (hK 2 (by decide)).symm) (fun _ _ => by rw [eA 9 (by decide) (by decide)]) (fun j h1 h2 => nq j (by omega) (by omega) (by omega)) (fun x hx => hx.same c2 (Nat.le_of_eq (hK 2 (by decide)).symm) (fun j h1 h2 => nq j (by omega) (by omega) (by omega)))
  · exact h.la.same c4 (hK 4 (by decide)) (Nat.le_of_eq (hK 8 (by decide)).symm) (fun _ _ => by rw [eA 11 (by decide) (by decide)]) (fun _ _ => by rw [eA 13 (by decide) (by decide)]) (fun j h1 h2 => nq j (by omega) (by omega) (by omega))
  · exact h.de.same c6 c0 (hK 6 (by decide)) (Nat.le_of_eq (hK 0 (by decide)).symm) (Nat.le_of_eq (hK 8 (by decide)).symm) (fun _ _ => by rw [eA 17 (by decide) (by decide)]) (fun j h1 h2 => nq j (by omega) (by omega) (by omega)) (fun t ht e => by rw [nq _ (by omega) (by omega) (by omega)]; exact e)
  · exact h.pr.same c7 (hK 7 (by decide)) (Nat.le_of_eq (hK 2 (by decide)).symm) (hK 8 (by decide)) (fun _ _ => by rw [eA 19 (by decide) (by decide)]) (fun j h1 h2 => nq j (by omega) (by omega) (by omega))
  · exact h.gu.same (fun _ _ => by rw [eA 21 (by decide) (by decide)]) (fun j h1 h2 => nq j (by omega) (by omega) (by omega))
  · exact h.wt.same c11 (hK 11 (by decide)) (fun _ _ => by rw [eA 23 (by decide) (by decide)]) (fun j h1 h2 => nq j (by omega) (by omega) (by omega))
  · exact h.ta.same c10 (hK 10 (by decide)) (fun _ _ => by rw [eA 25 (by decide) (by decide)]) (fun j h1 h2 => nq j (by omega) (by omega) (by omega))
  · exact h.se.same c2 (hK 2 (by decide)) (Nat.le_of_eq (hK 0 (by decide)).symm) (fun p hp => nq _ (by omega) (by omega) (by omega))
  · exact h.st.same c2 (hK 2 (by decide)) (fun p hp => by rw [eA 7 (by decide) (by decide)]) (fun p hp => ⟨nq _ (by omega) (by omega) (by omega), nq _ (by omega) (by omega) (by omega)⟩)
  · exact h.ps.same c7 (hK 7 (by decide)) (Nat.le_of_eq (hK 2 (by decide)).symm) (hK 8 (by decide)) (fun _ _ => by rw [eA 19 (by decide) (by decide)]) (fun j h1 h2 => nq j (by omega) (by omega) (by omega)) (fun p hp => nq _ (by omega) (by omega) (by omega))
theorem RelR.onD_6 {K K' : Nat → Nat} {S S' : FS} {n n' : Nat → Int32} (h : RelR K S n) (cq : CQ [17] 16 S S') (nq : NQ 1770 1806 6 n n') (hK : ∀ i : Nat, i ≠ 6 → K' i = K i) (hk : K 6 ≤ K' 6) (hc : S'.1 103 = n' 9) (hct : ∀ q ∈ ctT, q.1 = 16 ∨ q.2.1 = 6 → S'.1 q.1 = nI (K' q.2.1) ∧ n' q.2.1 = nI (K' q.2.1) ∧ K' q.2.1 ≤ q.2.2) (hde : RDe K' (S'.2 17) n') : RelR K' S' n' := by
  have c0 := (h.ct 2 0 10 (by decide)).2.2
  have c1 := (h.ct 101 1 20 (by decide)).2.2
  have c2 := (h.ct 6 2 20 (by decide)).2.2
  have c3 := (h.ct 8 3 20 (by decide)).2.2
  have c4 := (h.ct 10 4 12 (by decide)).2.2
  have c5 := (h.ct 14 5 40 (by decide)).2.2
  have c6 := (h.ct 16 6 6 (by decide)).2.2
  have c7 := (h.ct 18 7 30 (by decide)).2.2
  have c10 := (h.ct 24 10 60 (by decide)).2.2
  have c11 := (h.ct 22 11 20 (by decide)).2.2
  have eA := fun q hq h3 => cq.2.2 q hq h3
  refine ⟨RCt.cq h cq nq (by decide) hK hc hct, ?_, ?_, ?_, ?_, ?_, ?_, hde, ?_, ?_, ?_, ?_, ?_, ?_, ?_⟩
  · exact h.tw.same c0 (hK 0 (by decide)) (Nat.le_of_eq (hK 2 (by decide)).symm) (fun _ _ => by rw [eA 3 (by decide) (by decide)]) (fun j h1 h2 => nq j (by omega) (by omega) (by omega))
  · exact h.wy.no (hK 1 (by decide)) c1 (Nat.le_of_eq (hK 0 (by decide)).symm) (eA 5 (by decide) (by decide)) (fun j h1 h2 => nq j (by omega) (by omega) (by omega))
  · exact h.pe.same c2 (Nat.le_of_eq (hK 0 (by decide)).symm) (hK 2 (by decide)) (hK 8 (by decide)) (fun _ _ => by rw [eA 7 (by decide) (by decide)]) (fun j h1 h2 => nq j (by omega) (by omega) (by omega))
  · exact h.pw.same c3 c2 (hK 3 (by decide)) (Nat.le_of_eq (hK 2 (by decide)).symm) (fun _ _ => by rw [eA 9 (by decide) (by decide)]) (fun j h1 h2 => nq j (by omega) (by omega) (by omega)) (fun x hx => hx.same c2 (Nat.le_of_eq (hK 2 (by decide)).symm) (fun j h1 h2 => nq j (by omega) (by omega) (by omega)))
  · exact h.la.same c4 (hK 4 (by decide)) (Nat.le_of_eq (hK 8 (by decide)).symm) (fun _ _ => by rw [eA 11 (by decide) (by decide)]) (fun _ _ => by rw [eA 13 (by decide) (by decide)]) (fun j h1 h2 => nq j (by omega) (by omega) (by omega))
  · exact h.le.same c5 (hK 5 (by decide)) (Nat.le_of_eq (hK 0 (by decide)).symm) (Nat.le_of_eq (hK 2 (by decide)).symm) (fun _ _ => by rw [eA 15 (by decide) (by decide)]) (fun j h1 h2 => nq j (by omega) (by omega) (by omega))
  · exact h.pr.same c7 (hK 7 (by decide)) (Nat.le_of_eq (hK 2 (by decide)).symm) (hK 8 (by decide)) (fun _ _ => by rw [eA 19 (by decide) (by decide)]) (fun j h1 h2 => nq j (by omega) (by omega) (by omega))
  · exact h.gu.same (fun _ _ => by rw [eA 21 (by decide) (by decide)]) (fun j h1 h2 => nq j (by omega) (by omega) (by omega))
  · exact h.wt.same c11 (hK 11 (by decide)) (fun _ _ => by rw [eA 23 (by decide) (by decide)]) (fun j h1 h2 => nq j (by omega) (by omega) (by omega))
  · exact h.ta.same c10 (hK 10 (by decide)) (fun _ _ => by rw [eA 25 (by decide) (by decide)]) (fun j h1 h2 => nq j (by omega) (by omega) (by omega))
  · exact h.se.same c2 (hK 2 (by decide)) (Nat.le_of_eq (hK 0 (by decide)).symm) (fun p hp => nq _ (by omega) (by omega) (by omega))
  · exact h.st.same c2 (hK 2 (by decide)) (fun p hp => by rw [eA 7 (by decide) (by decide)]) (fun p hp => ⟨nq _ (by omega) (by omega) (by omega), nq _ (by omega) (by omega) (by omega)⟩)
  · exact h.ps.same c7 (hK 7 (by decide)) (Nat.le_of_eq (hK 2 (by decide)).symm) (hK 8 (by decide)) (fun _ _ => by rw [eA 19 (by decide) (by decide)]) (fun j h1 h2 => nq j (by omega) (by omega) (by omega)) (fun p hp => nq _ (by omega) (by omega) (by omega))
theorem RelR.onQ_7 {K K' : Nat → Nat} {S S' : FS} {n n' : Nat → Int32} (h : RelR K S n) (cq : CQ [19] 18 S S') (nq : NQ 1806 1986 7 n n') (hK : ∀ i : Nat, i ≠ 7 → K' i = K i) (hk : K 7 ≤ K' 7) (hc : S'.1 103 = n' 9) (hct : ∀ q ∈ ctT, q.1 = 18 ∨ q.2.1 = 7 → S'.1 q.1 = nI (K' q.2.1) ∧ n' q.2.1 = nI (K' q.2.1) ∧ K' q.2.1 ≤ q.2.2) (hpr : RPr K' (S'.2 19) n') (hps : RPs K' (S'.2 19) n') : RelR K' S' n' := by
  have c0 := (h.ct 2 0 10 (by decide)).2.2
  have c1 := (h.ct 101 1 20 (by decide)).2.2
  have c2 := (h.ct 6 2 20 (by decide)).2.2
  have c3 := (h.ct 8 3 20 (by decide)).2.2
  have c4 := (h.ct 10 4 12 (by decide)).2.2
  have c5 := (h.ct 14 5 40 (by decide)).2.2
  have c6 := (h.ct 16 6 6 (by decide)).2.2
  have c7 := (h.ct 18 7 30 (by decide)).2.2
  have c10 := (h.ct 24 10 60 (by decide)).2.2
  have c11 := (h.ct 22 11 20 (by decide)).2.2
  have eA := fun q hq h3 => cq.2.2 q hq h3
  refine ⟨RCt.cq h cq nq (by decide) hK hc hct, ?_, ?_, ?_, ?_, ?_, ?_, ?_, hpr, ?_, ?_, ?_, ?_, ?_, hps⟩
  · exact h.tw.same c0 (hK 0 (by decide)) (Nat.le_of_eq (hK 2 (by decide)).symm) (fun _ _ => by rw [eA 3 (by decide) (by decide)]) (fun j h1 h2 => nq j (by omega) (by omega) (by omega))
  · exact h.wy.no (hK 1 (by decide)) c1 (Nat.le_of_eq (hK 0 (by decide)).symm) (eA 5 (by decide) (by decide)) (fun j h1 h2 => nq j (by omega) (by omega) (by omega))
  · exact h.pe.same c2 (Nat.le_of_eq (hK 0 (by decide)).symm) (hK 2 (by decide)) (hK 8 (by decide)) (fun _ _ => by rw [eA 7 (by decide) (by decide)]) (fun j h1 h2 => nq j (by omega) (by omega) (by omega))
  · exact h.pw.same c3 c2 (hK 3 (by decide)) (Nat.le_of_eq (hK 2 (by decide)).symm) (fun _ _ => by rw [eA 9 (by decide) (by decide)]) (fun j h1 h2 => nq j (by omega) (by omega) (by omega)) (fun x hx => hx.same c2 (Nat.le_of_eq (hK 2 (by decide)).symm) (fun j h1 h2 => nq j (by omega) (by omega) (by omega)))
  · exact h.la.same c4 (hK 4 (by decide)) (Nat.le_of_eq (hK 8 (by decide)).symm) (fun _ _ => by rw [eA 11 (by decide) (by decide)]) (fun _ _ => by rw [eA 13 (by decide) (by decide)]) (fun j h1 h2 => nq j (by omega) (by omega) (by omega))
  · exact h.le.same c5 (hK 5 (by decide)) (Nat.le_of_eq (hK 0 (by decide)).symm) (Nat.le_of_eq (hK 2 (by decide)).symm) (fun _ _ => by rw [eA 15 (by decide) (by decide)]) (fun j h1 h2 => nq j (by omega) (by omega) (by omega))
  · exact h.de.same c6 c0 (hK 6 (by decide)) (Nat.le_of_eq (hK 0 (by decide)).symm) (Nat.le_of_eq (hK 8 (by decide)).symm) (fun _ _ => by rw [eA 17 (by decide) (by decide)]) (fun j h1 h2 => nq j (by omega) (by omega) (by omega)) (fun t ht e => by rw [nq _ (by omega) (by omega) (by omega)]; exact e)
  · exact h.gu.same (fun _ _ => by rw [eA 21 (by decide) (by decide)]) (fun j h1 h2 => nq j (by omega) (by omega) (by omega))
  · exact h.wt.same c11 (hK 11 (by decide)) (fun _ _ => by rw [eA 23 (by decide) (by decide)]) (fun j h1 h2 => nq j (by omega) (by omega) (by omega))
  · exact h.ta.same c10 (hK 10 (by decide)) (fun _ _ => by rw [eA 25 (by decide) (by decide)]) (fun j h1 h2 => nq j (by omega) (by omega) (by omega))
  · exact h.se.same c2 (hK 2 (by decide)) (Nat.le_of_eq (hK 0 (by decide)).symm) (fun p hp => nq _ (by omega) (by omega) (by omega))
  · exact h.st.same c2 (hK 2 (by decide)) (fun p hp => by rw [eA 7 (by decide) (by decide)]) (fun p hp => ⟨nq _ (by omega) (by omega) (by omega), nq _ (by omega) (by omega) (by omega)⟩)
theorem RelR.onA_10 {K K' : Nat → Nat} {S S' : FS} {n n' : Nat → Int32} (h : RelR K S n) (cq : CQ [25] 24 S S') (nq : NQ 1991 2051 10 n n') (hK : ∀ i : Nat, i ≠ 10 → K' i = K i) (hk : K 10 ≤ K' 10) (hc : S'.1 103 = n' 9) (hct : ∀ q ∈ ctT, q.1 = 24 ∨ q.2.1 = 10 → S'.1 q.1 = nI (K' q.2.1) ∧ n' q.2.1 = nI (K' q.2.1) ∧ K' q.2.1 ≤ q.2.2) (hta : RTa K' (S'.2 25) n') : RelR K' S' n' := by
  have c0 := (h.ct 2 0 10 (by decide)).2.2
  have c1 := (h.ct 101 1 20 (by decide)).2.2
  have c2 := (h.ct 6 2 20 (by decide)).2.2
  have c3 := (h.ct 8 3 20 (by decide)).2.2
  have c4 := (h.ct 10 4 12 (by decide)).2.2
  have c5 := (h.ct 14 5 40 (by decide)).2.2
  have c6 := (h.ct 16 6 6 (by decide)).2.2
  have c7 := (h.ct 18 7 30 (by decide)).2.2
  have c10 := (h.ct 24 10 60 (by decide)).2.2
  have c11 := (h.ct 22 11 20 (by decide)).2.2
  have eA := fun q hq h3 => cq.2.2 q hq h3
  refine ⟨RCt.cq h cq nq (by decide) hK hc hct, ?_, ?_, ?_, ?_, ?_, ?_, ?_, ?_, ?_, ?_, hta, ?_, ?_, ?_⟩
  · exact h.tw.same c0 (hK 0 (by decide)) (Nat.le_of_eq (hK 2 (by decide)).symm) (fun _ _ => by rw [eA 3 (by decide) (by decide)]) (fun j h1 h2 => nq j (by omega) (by omega) (by omega))
  · exact h.wy.no (hK 1 (by decide)) c1 (Nat.le_of_eq (hK 0 (by decide)).symm) (eA 5 (by decide) (by decide)) (fun j h1 h2 => nq j (by omega) (by omega) (by omega))
  · exact h.pe.same c2 (Nat.le_of_eq (hK 0 (by decide)).symm) (hK 2 (by decide)) (hK 8 (by decide)) (fun _ _ => by rw [eA 7 (by decide) (by decide)]) (fun j h1 h2 => nq j (by omega) (by omega) (by omega))
  · exact h.pw.same c3 c2 (hK 3 (by decide)) (Nat.le_of_eq (hK 2 (by decide)).symm) (fun _ _ => by rw [eA 9 (by decide) (by decide)]) (fun j h1 h2 => nq j (by omega) (by omega) (by omega)) (fun x hx => hx.same c2 (Nat.le_of_eq (hK 2 (by decide)).symm) (fun j h1 h2 => nq j (by omega) (by omega) (by omega)))
  · exact h.la.same c4 (hK 4 (by decide)) (Nat.le_of_eq (hK 8 (by decide)).symm) (fun _ _ => by rw [eA 11 (by decide) (by decide)]) (fun _ _ => by rw [eA 13 (by decide) (by decide)]) (fun j h1 h2 => nq j (by omega) (by omega) (by omega))
  · exact h.le.same c5 (hK 5 (by decide)) (Nat.le_of_eq (hK 0 (by decide)).symm) (Nat.le_of_eq (hK 2 (by decide)).symm) (fun _ _ => by rw [eA 15 (by decide) (by decide)]) (fun j h1 h2 => nq j (by omega) (by omega) (by omega))
  · exact h.de.same c6 c0 (hK 6 (by decide)) (Nat.le_of_eq (hK 0 (by decide)).symm) (Nat.le_of_eq (hK 8 (by decide)).symm) (fun _ _ => by rw [eA 17 (by decide) (by decide)]) (fun j h1 h2 => nq j (by omega) (by omega) (by omega)) (fun t ht e => by rw [nq _ (by omega) (by omega) (by omega)]; exact e)
  · exact h.pr.same c7 (hK 7 (by decide)) (Nat.le_of_eq (hK 2 (by decide)).symm) (hK 8 (by decide)) (fun _ _ => by rw [eA 19 (by decide) (by decide)]) (fun j h1 h2 => nq j (by omega) (by omega) (by omega))
  · exact h.gu.same (fun _ _ => by rw [eA 21 (by decide) (by decide)]) (fun j h1 h2 => nq j (by omega) (by omega) (by omega))
  · exact h.wt.same c11 (hK 11 (by decide)) (fun _ _ => by rw [eA 23 (by decide) (by decide)]) (fun j h1 h2 => nq j (by omega) (by omega) (by omega))
  · exact h.se.same c2 (hK 2 (by decide)) (Nat.le_of_eq (hK 0 (by decide)).symm) (fun p hp => nq _ (by omega) (by omega) (by omega))
  · exact h.st.same c2 (hK 2 (by decide)) (fun p hp => by rw [eA 7 (by decide) (by decide)]) (fun p hp => ⟨nq _ (by omega) (by omega) (by omega), nq _ (by omega) (by omega) (by omega)⟩)
  · exact h.ps.same c7 (hK 7 (by decide)) (Nat.le_of_eq (hK 2 (by decide)).symm) (hK 8 (by decide)) (fun _ _ => by rw [eA 19 (by decide) (by decide)]) (fun j h1 h2 => nq j (by omega) (by omega) (by omega)) (fun p hp => nq _ (by omega) (by omega) (by omega))
theorem RelR.onX_11 {K K' : Nat → Nat} {S S' : FS} {n n' : Nat → Int32} (h : RelR K S n) (cq : CQ [23] 22 S S') (nq : NQ 2051 2071 11 n n') (hK : ∀ i : Nat, i ≠ 11 → K' i = K i) (hk : K 11 ≤ K' 11) (hc : S'.1 103 = n' 9) (hct : ∀ q ∈ ctT, q.1 = 22 ∨ q.2.1 = 11 → S'.1 q.1 = nI (K' q.2.1) ∧ n' q.2.1 = nI (K' q.2.1) ∧ K' q.2.1 ≤ q.2.2) (hwt : RWt K' (S'.2 23) n') : RelR K' S' n' := by
  have c0 := (h.ct 2 0 10 (by decide)).2.2
  have c1 := (h.ct 101 1 20 (by decide)).2.2
  have c2 := (h.ct 6 2 20 (by decide)).2.2
  have c3 := (h.ct 8 3 20 (by decide)).2.2
  have c4 := (h.ct 10 4 12 (by decide)).2.2
  have c5 := (h.ct 14 5 40 (by decide)).2.2
  have c6 := (h.ct 16 6 6 (by decide)).2.2
  have c7 := (h.ct 18 7 30 (by decide)).2.2
  have c10 := (h.ct 24 10 60 (by decide)).2.2
  have c11 := (h.ct 22 11 20 (by decide)).2.2
  have eA := fun q hq h3 => cq.2.2 q hq h3
  refine ⟨RCt.cq h cq nq (by decide) hK hc hct, ?_, ?_, ?_, ?_, ?_, ?_, ?_, ?_, ?_, hwt, ?_, ?_, ?_, ?_⟩
  · exact h.tw.same c0 (hK 0 (by decide)) (Nat.le_of_eq (hK 2 (by decide)).symm) (fun _ _ => by rw [eA 3 (by decide) (by decide)]) (fun j h1 h2 => nq j (by omega) (by omega) (by omega))
  · exact h.wy.no (hK 1 (by decide)) c1 (Nat.le_of_eq (hK 0 (by decide)).symm) (eA 5 (by decide) (by decide)) (fun j h1 h2 => nq j (by omega) (by omega) (by omega))
  · exact h.pe.same c2 (Nat.le_of_eq (hK 0 (by decide)).symm) (hK 2 (by decide)) (hK 8 (by decide)) (fun _ _ => by rw [eA 7 (by decide) (by decide)]) (fun j h1 h2 => nq j (by omega) (by omega) (by omega))
  · exact h.pw.same c3 c2 (hK 3 (by decide)) (Nat.le_of_eq (hK 2 (by decide)).symm) (fun _ _ => by rw [eA 9 (by decide) (by decide)]) (fun j h1 h2 => nq j (by omega) (by omega) (by omega)) (fun x hx => hx.same c2 (Nat.le_of_eq (hK 2 (by decide)).symm) (fun j h1 h2 => nq j (by omega) (by omega) (by omega)))
  · exact h.la.same c4 (hK 4 (by decide)) (Nat.le_of_eq (hK 8 (by decide)).symm) (fun _ _ => by rw [eA 11 (by decide) (by decide)]) (fun _ _ => by rw [eA 13 (by decide) (by decide)]) (fun j h1 h2 => nq j (by omega) (by omega) (by omega))
  · exact h.le.same c5 (hK 5 (by decide)) (Nat.le_of_eq (hK 0 (by decide)).symm) (Nat.le_of_eq (hK 2 (by decide)).symm) (fun _ _ => by rw [eA 15 (by decide) (by decide)]) (fun j h1 h2 => nq j (by omega) (by omega) (by omega))
  · exact h.de.same c6 c0 (hK 6 (by decide)) (Nat.le_of_eq (hK 0 (by decide)).symm) (Nat.le_of_eq (hK 8 (by decide)).symm) (fun _ _ => by rw [eA 17 (by decide) (by decide)]) (fun j h1 h2 => nq j (by omega) (by omega) (by omega)) (fun t ht e => by rw [nq _ (by omega) (by omega) (by omega)]; exact e)
  · exact h.pr.same c7 (hK 7 (by decide)) (Nat.le_of_eq (hK 2 (by decide)).symm) (hK 8 (by decide)) (fun _ _ => by rw [eA 19 (by decide) (by decide)]) (fun j h1 h2 => nq j (by omega) (by omega) (by omega))
  · exact h.gu.same (fun _ _ => by rw [eA 21 (by decide) (by decide)]) (fun j h1 h2 => nq j (by omega) (by omega) (by omega))
  · exact h.ta.same c10 (hK 10 (by decide)) (fun _ _ => by rw [eA 25 (by decide) (by decide)]) (fun j h1 h2 => nq j (by omega) (by omega) (by omega))
  · exact h.se.same c2 (hK 2 (by decide)) (Nat.le_of_eq (hK 0 (by decide)).symm) (fun p hp => nq _ (by omega) (by omega) (by omega))
  · exact h.st.same c2 (hK 2 (by decide)) (fun p hp => by rw [eA 7 (by decide) (by decide)]) (fun p hp => ⟨nq _ (by omega) (by omega) (by omega), nq _ (by omega) (by omega) (by omega)⟩)
  · exact h.ps.same c7 (hK 7 (by decide)) (Nat.le_of_eq (hK 2 (by decide)).symm) (hK 8 (by decide)) (fun _ _ => by rw [eA 19 (by decide) (by decide)]) (fun j h1 h2 => nq j (by omega) (by omega) (by omega)) (fun p hp => nq _ (by omega) (by omega) (by omega))
theorem RelR.onA_10z {K K' : Nat → Nat} {S S' : FS} {n n' : Nat → Int32} (h : RelR K S n) (cq : CQ [25] 24 S S') (nq : NQ 1991 2051 10 n n') (hK : ∀ i : Nat, i ≠ 10 → K' i = K i) (hc : S'.1 103 = n' 9) (hct : ∀ q ∈ ctT, q.1 = 24 ∨ q.2.1 = 10 → S'.1 q.1 = nI (K' q.2.1) ∧ n' q.2.1 = nI (K' q.2.1) ∧ K' q.2.1 ≤ q.2.2) (hta : RTa K' (S'.2 25) n') : RelR K' S' n' := by
  have c0 := (h.ct 2 0 10 (by decide)).2.2
  have c1 := (h.ct 101 1 20 (by decide)).2.2
  have c2 := (h.ct 6 2 20 (by decide)).2.2
  have c3 := (h.ct 8 3 20 (by decide)).2.2
  have c4 := (h.ct 10 4 12 (by decide)).2.2
  have c5 := (h.ct 14 5 40 (by decide)).2.2
  have c6 := (h.ct 16 6 6 (by decide)).2.2
  have c7 := (h.ct 18 7 30 (by decide)).2.2
  have c10 := (h.ct 24 10 60 (by decide)).2.2
  have c11 := (h.ct 22 11 20 (by decide)).2.2
  have eA := fun q hq h3 => cq.2.2 q hq h3
  refine ⟨RCt.cq h cq nq (by decide) hK hc hct, ?_, ?_, ?_, ?_, ?_, ?_, ?_, ?_, ?_, ?_, hta, ?_, ?_, ?_⟩
  · exact h.tw.same c0 (hK 0 (by decide)) (Nat.le_of_eq (hK 2 (by decide)).symm) (fun _ _ => by rw [eA 3 (by decide) (by decide)]) (fun j h1 h2 => nq j (by omega) (by omega) (by omega))
  · exact h.wy.no (hK 1 (by decide)) c1 (Nat.le_of_eq (hK 0 (by decide)).symm) (eA 5 (by decide) (by decide)) (fun j h1 h2 => nq j (by omega) (by omega) (by omega))
  · exact h.pe.same c2 (Nat.le_of_eq (hK 0 (by decide)).symm) (hK 2 (by decide)) (hK 8 (by decide)) (fun _ _ => by rw [eA 7 (by decide) (by decide)]) (fun j h1 h2 => nq j (by omega) (by omega) (by omega))
  · exact h.pw.same c3 c2 (hK 3 (by decide)) (Nat.le_of_eq (hK 2 (by decide)).symm) (fun _ _ => by rw [eA 9 (by decide) (by decide)]) (fun j h1 h2 => nq j (by omega) (by omega) (by omega)) (fun x hx => hx.same c2 (Nat.le_of_eq (hK 2 (by decide)).symm) (fun j h1 h2 => nq j (by omega) (by omega) (by omega)))
  · exact h.la.same c4 (hK 4 (by decide)) (Nat.le_of_eq (hK 8 (by decide)).symm) (fun _ _ => by rw [eA 11 (by decide) (by decide)]) (fun _ _ => by rw [eA 13 (by decide) (by decide)]) (fun j h1 h2 => nq j (by omega) (by omega) (by omega))
  · exact h.le.same c5 (hK 5 (by decide)) (Nat.le_of_eq (hK 0 (by decide)).symm) (Nat.le_of_eq (hK 2 (by decide)).symm) (fun _ _ => by rw [eA 15 (by decide) (by decide)]) (fun j h1 h2 => nq j (by omega) (by omega) (by omega))
  · exact h.de.same c6 c0 (hK 6 (by decide)) (Nat.le_of_eq (hK 0 (by decide)).symm) (Nat.le_of_eq (hK 8 (by decide)).symm) (fun _ _ => by rw [eA 17 (by decide) (by decide)]) (fun j h1 h2 => nq j (by omega) (by omega) (by omega)) (fun t ht e => by rw [nq _ (by omega) (by omega) (by omega)]; exact e)
  · exact h.pr.same c7 (hK 7 (by decide)) (Nat.le_of_eq (hK 2 (by decide)).symm) (hK 8 (by decide)) (fun _ _ => by rw [eA 19 (by decide) (by decide)]) (fun j h1 h2 => nq j (by omega) (by omega) (by omega))
  · exact h.gu.same (fun _ _ => by rw [eA 21 (by decide) (by decide)]) (fun j h1 h2 => nq j (by omega) (by omega) (by omega))
  · exact h.wt.same c11 (hK 11 (by decide)) (fun _ _ => by rw [eA 23 (by decide) (by decide)]) (fun j h1 h2 => nq j (by omega) (by omega) (by omega))
  · exact h.se.same c2 (hK 2 (by decide)) (Nat.le_of_eq (hK 0 (by decide)).symm) (fun p hp => nq _ (by omega) (by omega) (by omega))
  · exact h.st.same c2 (hK 2 (by decide)) (fun p hp => by rw [eA 7 (by decide) (by decide)]) (fun p hp => ⟨nq _ (by omega) (by omega) (by omega), nq _ (by omega) (by omega) (by omega)⟩)
  · exact h.ps.same c7 (hK 7 (by decide)) (Nat.le_of_eq (hK 2 (by decide)).symm) (hK 8 (by decide)) (fun _ _ => by rw [eA 19 (by decide) (by decide)]) (fun j h1 h2 => nq j (by omega) (by omega) (by omega)) (fun p hp => nq _ (by omega) (by omega) (by omega))
theorem RelR.onX_11z {K K' : Nat → Nat} {S S' : FS} {n n' : Nat → Int32} (h : RelR K S n) (cq : CQ [23] 22 S S') (nq : NQ 2051 2071 11 n n') (hK : ∀ i : Nat, i ≠ 11 → K' i = K i) (hc : S'.1 103 = n' 9) (hct : ∀ q ∈ ctT, q.1 = 22 ∨ q.2.1 = 11 → S'.1 q.1 = nI (K' q.2.1) ∧ n' q.2.1 = nI (K' q.2.1) ∧ K' q.2.1 ≤ q.2.2) (hwt : RWt K' (S'.2 23) n') : RelR K' S' n' := by
  have c0 := (h.ct 2 0 10 (by decide)).2.2
  have c1 := (h.ct 101 1 20 (by decide)).2.2
  have c2 := (h.ct 6 2 20 (by decide)).2.2
  have c3 := (h.ct 8 3 20 (by decide)).2.2
  have c4 := (h.ct 10 4 12 (by decide)).2.2
  have c5 := (h.ct 14 5 40 (by decide)).2.2
  have c6 := (h.ct 16 6 6 (by decide)).2.2
  have c7 := (h.ct 18 7 30 (by decide)).2.2
  have c10 := (h.ct 24 10 60 (by decide)).2.2
  have c11 := (h.ct 22 11 20 (by decide)).2.2
  have eA := fun q hq h3 => cq.2.2 q hq h3
  refine ⟨RCt.cq h cq nq (by decide) hK hc hct, ?_, ?_, ?_, ?_, ?_, ?_, ?_, ?_, ?_, hwt, ?_, ?_, ?_, ?_⟩
  · exact h.tw.same c0 (hK 0 (by decide)) (Nat.le_of_eq (hK 2 (by decide)).symm) (fun _ _ => by rw [eA 3 (by decide) (by decide)]) (fun j h1 h2 => nq j (by omega) (by omega) (by omega))
  · exact h.wy.no (hK 1 (by decide)) c1 (Nat.le_of_eq (hK 0 (by decide)).symm) (eA 5 (by decide) (by decide)) (fun j h1 h2 => nq j (by omega) (by omega) (by omega))
  · exact h.pe.same c2 (Nat.le_of_eq (hK 0 (by decide)).symm) (hK 2 (by decide)) (hK 8 (by decide)) (fun _ _ => by rw [eA 7 (by decide) (by decide)]) (fun j h1 h2 => nq j (by omega) (by omega) (by omega))
  · exact h.pw.same c3 c2 (hK 3 (by decide)) (Nat.le_of_eq (hK 2 (by decide)).symm) (fun _ _ => by rw [eA 9 (by decide) (by decide)]) (fun j h1 h2 => nq j (by omega) (by omega) (by omega)) (fun x hx => hx.same c2 (Nat.le_of_eq (hK 2 (by decide)).symm) (fun j h1 h2 => nq j (by omega) (by omega) (by omega)))
  · exact h.la.same c4 (hK 4 (by decide)) (Nat.le_of_eq (hK 8 (by decide)).symm) (fun _ _ => by rw [eA 11 (by decide) (by decide)]) (fun _ _ => by rw [eA 13 (by decide) (by decide)]) (fun j h1 h2 => nq j (by omega) (by omega) (by omega))
  · exact h.le.same c5 (hK 5 (by decide)) (Nat.le_of_eq (hK 0 (by decide)).symm) (Nat.le_of_eq (hK 2 (by decide)).symm) (fun _ _ => by rw [eA 15 (by decide) (by decide)]) (fun j h1 h2 => nq j (by omega) (by omega) (by omega))
  · exact h.de.same c6 c0 (hK 6 (by decide)) (Nat.le_of_eq (hK 0 (by decide)).symm) (Nat.le_of_eq (hK 8 (by decide)).symm) (fun _ _ => by rw [eA 17 (by decide) (by decide)]) (fun j h1 h2 => nq j (by omega) (by omega) (by omega)) (fun t ht e => by rw [nq _ (by omega) (by omega) (by omega)]; exact e)
  · exact h.pr.same c7 (hK 7 (by decide)) (Nat.le_of_eq (hK 2 (by decide)).symm) (hK 8 (by decide)) (fun _ _ => by rw [eA 19 (by decide) (by decide)]) (fun j h1 h2 => nq j (by omega) (by omega) (by omega))
  · exact h.gu.same (fun _ _ => by rw [eA 21 (by decide) (by decide)]) (fun j h1 h2 => nq j (by omega) (by omega) (by omega))
  · exact h.ta.same c10 (hK 10 (by decide)) (fun _ _ => by rw [eA 25 (by decide) (by decide)]) (fun j h1 h2 => nq j (by omega) (by omega) (by omega))
  · exact h.se.same c2 (hK 2 (by decide)) (Nat.le_of_eq (hK 0 (by decide)).symm) (fun p hp => nq _ (by omega) (by omega) (by omega))
  · exact h.st.same c2 (hK 2 (by decide)) (fun p hp => by rw [eA 7 (by decide) (by decide)]) (fun p hp => ⟨nq _ (by omega) (by omega) (by omega), nq _ (by omega) (by omega) (by omega)⟩)
  · exact h.ps.same c7 (hK 7 (by decide)) (Nat.le_of_eq (hK 2 (by decide)).symm) (hK 8 (by decide)) (fun _ _ => by rw [eA 19 (by decide) (by decide)]) (fun j h1 h2 => nq j (by omega) (by omega) (by omega)) (fun p hp => nq _ (by omega) (by omega) (by omega))
/-! several parts -/
theorem RCt.cr {K K' : Nat → Nat} {S S' : FS} {n n' : Nat → Int32} {as : List Nat} {s c : Nat} (h : RelR K S n) (cq : CQ as s S S') (nq : ∀ j : Nat, j < 12 → j ≠ 9 → j ≠ c → n' j = n j) (hK : ∀ i : Nat, i ≠ c → K' i = K i) (hc : S'.1 103 = n' 9)
    (hs : ∀ q ∈ ctT, q.1 = s ∨ q.2.1 = c → S'.1 q.1 = nI (K' q.2.1) ∧ n' q.2.1 = nI (K' q.2.1) ∧ K' q.2.1 ≤ q.2.2) : RCt K' S'.1 n' := by
  refine ⟨fun q hq => ?_, hc⟩
  have h9 : ∀ q ∈ ctT, q.1 ∈ ctI ∧ q.1 ≠ 103 ∧ q.2.1 < 12 ∧ q.2.1 ≠ 9 := by decide
  obtain ⟨a1, a2, a3, a4⟩ := h9 q hq
  by_cases e : q.1 = s ∨ q.2.1 = c
  · exact hs q hq e
  · have e1 : q.1 ≠ s := fun z => e (Or.inl z)
    have e2 : q.2.1 ≠ c := fun z => e (Or.inr z)
    rw [cq.2.1 q.1 a1 a2 e1, nq _ a3 a4 e2, hK _ e2]; exact h.1.1 q hq
def NQ2 (l1 h1 l2 h2 c : Nat) (n n' : Nat → Int32) : Prop := ∀ j : Nat, ¬ (l1 ≤ j ∧ j < h1) → ¬ (l2 ≤ j ∧ j < h2) → j ≠ 9 → j ≠ c → n' j = n j
def NQ3 (l1 h1 l2 h2 l3 h3 c : Nat) (n n' : Nat → Int32) : Prop := ∀ j : Nat, ¬ (l1 ≤ j ∧ j < h1) → ¬ (l2 ≤ j ∧ j < h2) → ¬ (l3 ≤ j ∧ j < h3) → j ≠ 9 → j ≠ c → n' j = n j
theorem RelR.onPE {K : Nat → Nat} {S S' : FS} {n n' : Nat → Int32} (h : RelR K S n) (cq : CQ [7, 15] 103 S S') (nq : NQ2 110 390 1290 1770 9 n n') (hc : S'.1 103 = n' 9) (hpe : RPe K (S'.2 7) n') (hse : RSe K n') (hst : RSt K (S'.2 7) n') (hle : RLe K (S'.2 15) n') (hpw : RPw K (S'.2 9) n') (hsq : ∀ p : Nat, p < K 2 → n' (14 * p + 121) = n (14 * p + 121)) : RelR K S' n' := by
  have hK : ∀ i : Nat, i ≠ 9 → K i = K i := fun _ _ => rfl
  have hct := noct (K' := K) (S' := S') (n' := n')
  have c0 := (h.ct 2 0 10 (by decide)).2.2
  have c1 := (h.ct 101 1 20 (by decide)).2.2
  have c2 := (h.ct 6 2 20 (by decide)).2.2
  have c3 := (h.ct 8 3 20 (by decide)).2.2
  have c4 := (h.ct 10 4 12 (by decide)).2.2
  have c5 := (h.ct 14 5 40 (by decide)).2.2
  have c6 := (h.ct 16 6 6 (by decide)).2.2
  have c7 := (h.ct 18 7 30 (by decide)).2.2
  have c10 := (h.ct 24 10 60 (by decide)).2.2
  have c11 := (h.ct 22 11 20 (by decide)).2.2
  have eA := fun q hq h3 => cq.2.2 q hq h3
  refine ⟨RCt.cr h cq (fun j h1 h2 h3 => nq j (by omega) (by omega) h2 h3) hK hc hct, ?_, ?_, hpe, hpw, ?_, hle, ?_, ?_, ?_, ?_, ?_, hse, hst, ?_⟩
  · exact h.tw.same c0 (hK 0 (by decide)) (Nat.le_of_eq (hK 2 (by decide)).symm) (fun _ _ => by rw [eA 3 (by decide) (by decide)]) (fun j h1 h2 => nq j (by omega) (by omega) (by omega) (by omega))
  · exact h.wy.no (hK 1 (by decide)) c1 (Nat.le_of_eq (hK 0 (by decide)).symm) (eA 5 (by decide) (by decide)) (fun j h1 h2 => nq j (by omega) (by omega) (by omega) (by omega))
  · exact h.la.same c4 (hK 4 (by decide)) (Nat.le_of_eq (hK 8 (by decide)).symm) (fun _ _ => by rw [eA 11 (by decide) (by decide)]) (fun _ _ => by rw [eA 13 (by decide) (by decide)]) (fun j h1 h2 => nq j (by omega) (by omega) (by omega) (by omega))
  · exact h.de.same c6 c0 (hK 6 (by decide)) (Nat.le_of_eq (hK 0 (by decide)).symm) (Nat.le_of_eq (hK 8 (by decide)).symm) (fun _ _ => by rw [eA 17 (by decide) (by decide)]) (fun j h1 h2 => nq j (by omega) (by omega) (by omega) (by omega)) (fun t ht e => by rw [nq _ (by omega) (by omega) (by omega) (by omega)]; exact e)
  · exact h.pr.same c7 (hK 7 (by decide)) (Nat.le_of_eq (hK 2 (by decide)).symm) (hK 8 (by decide)) (fun _ _ => by rw [eA 19 (by decide) (by decide)]) (fun j h1 h2 => nq j (by omega) (by omega) (by omega) (by omega))
  · exact h.gu.same (fun _ _ => by rw [eA 21 (by decide) (by decide)]) (fun j h1 h2 => nq j (by omega) (by omega) (by omega) (by omega))
  · exact h.wt.same c11 (hK 11 (by decide)) (fun _ _ => by rw [eA 23 (by decide) (by decide)]) (fun j h1 h2 => nq j (by omega) (by omega) (by omega) (by omega))
  · exact h.ta.same c10 (hK 10 (by decide)) (fun _ _ => by rw [eA 25 (by decide) (by decide)]) (fun j h1 h2 => nq j (by omega) (by omega) (by omega) (by omega))
  · exact h.ps.same c7 (hK 7 (by decide)) (Nat.le_of_eq (hK 2 (by decide)).symm) (hK 8 (by decide)) (fun _ _ => by rw [eA 19 (by decide) (by decide)]) (fun j h1 h2 => nq j (by omega) (by omega) (by omega) (by omega)) hsq
theorem RelR.onWE {K : Nat → Nat} {S S' : FS} {n n' : Nat → Int32} (h : RelR K S n) (cq : CQ [9, 15] 103 S S') (nq : NQ2 390 510 1290 1770 9 n n') (hc : S'.1 103 = n' 9) (hpw : RPw K (S'.2 9) n') (hle : RLe K (S'.2 15) n') : RelR K S' n' := by
  have hK : ∀ i : Nat, i ≠ 9 → K i = K i := fun _ _ => rfl
  have hct := noct (K' := K) (S' := S') (n' := n')
  have c0 := (h.ct 2 0 10 (by decide)).2.2
  have c1 := (h.ct 101 1 20 (by decide)).2.2
  have c2 := (h.ct 6 2 20 (by decide)).2.2
  have c3 := (h.ct 8 3 20 (by decide)).2.2
  have c4 := (h.ct 10 4 12 (by decide)).2.2
  have c5 := (h.ct 14 5 40 (by decide)).2.2
  have c6 := (h.ct 16 6 6 (by decide)).2.2
  have c7 := (h.ct 18 7 30 (by decide)).2.2
  have c10 := (h.ct 24 10 60 (by decide)).2.2
  have c11 := (h.ct 22 11 20 (by decide)).2.2
  have eA := fun q hq h3 => cq.2.2 q hq h3
  refine ⟨RCt.cr h cq (fun j h1 h2 h3 => nq j (by omega) (by omega) h2 h3) hK hc hct, ?_, ?_, ?_, hpw, ?_, hle, ?_, ?_, ?_, ?_, ?_, ?_, ?_, ?_⟩
  · exact h.tw.same c0 (hK 0 (by decide)) (Nat.le_of_eq (hK 2 (by decide)).symm) (fun _ _ => by rw [eA 3 (by decide) (by decide)]) (fun j h1 h2 => nq j (by omega) (by omega) (by omega) (by omega))
  · exact h.wy.no (hK 1 (by decide)) c1 (Nat.le_of_eq (hK 0 (by decide)).symm) (eA 5 (by decide) (by decide)) (fun j h1 h2 => nq j (by omega) (by omega) (by omega) (by omega))
  · exact h.pe.same c2 (Nat.le_of_eq (hK 0 (by decide)).symm) (hK 2 (by decide)) (hK 8 (by decide)) (fun _ _ => by rw [eA 7 (by decide) (by decide)]) (fun j h1 h2 => nq j (by omega) (by omega) (by omega) (by omega))
  · exact h.la.same c4 (hK 4 (by decide)) (Nat.le_of_eq (hK 8 (by decide)).symm) (fun _ _ => by rw [eA 11 (by decide) (by decide)]) (fun _ _ => by rw [eA 13 (by decide) (by decide)]) (fun j h1 h2 => nq j (by omega) (by omega) (by omega) (by omega))
  · exact h.de.same c6 c0 (hK 6 (by decide)) (Nat.le_of_eq (hK 0 (by decide)).symm) (Nat.le_of_eq (hK 8 (by decide)).symm) (fun _ _ => by rw [eA 17 (by decide) (by decide)]) (fun j h1 h2 => nq j (by omega) (by omega) (by omega) (by omega)) (fun t ht e => by rw [nq _ (by omega) (by omega) (by omega) (by omega)]; exact e)
  · exact h.pr.same c7 (hK 7 (by decide)) (Nat.le_of_eq (hK 2 (by decide)).symm) (hK 8 (by decide)) (fun _ _ => by rw [eA 19 (by decide) (by decide)]) (fun j h1 h2 => nq j (by omega) (by omega) (by omega) (by omega))
  · exact h.gu.same (fun _ _ => by rw [eA 21 (by decide) (by decide)]) (fun j h1 h2 => nq j (by omega) (by omega) (by omega) (by omega))
  · exact h.wt.same c11 (hK 11 (by decide)) (fun _ _ => by rw [eA 23 (by decide) (by decide)]) (fun j h1 h2 => nq j (by omega) (by omega) (by omega) (by omega))
  · exact h.ta.same c10 (hK 10 (by decide)) (fun _ _ => by rw [eA 25 (by decide) (by decide)]) (fun j h1 h2 => nq j (by omega) (by omega) (by omega) (by omega))
  · exact h.se.same c2 (hK 2 (by decide)) (Nat.le_of_eq (hK 0 (by decide)).symm) (fun p hp => nq _ (by omega) (by omega) (by omega) (by omega))
  · exact h.st.same c2 (hK 2 (by decide)) (fun p hp => by rw [eA 7 (by decide) (by decide)]) (fun p hp => ⟨nq _ (by omega) (by omega) (by omega) (by omega), nq _ (by omega) (by omega) (by omega) (by omega)⟩)
  · exact h.ps.same c7 (hK 7 (by decide)) (Nat.le_of_eq (hK 2 (by decide)).symm) (hK 8 (by decide)) (fun _ _ => by rw [eA 19 (by decide) (by decide)]) (fun j h1 h2 => nq j (by omega) (by omega) (by omega) (by omega)) (fun p hp => nq _ (by omega) (by omega) (by omega) (by omega))
theorem RelR.onLE {K : Nat → Nat} {S S' : FS} {n n' : Nat → Int32} (h : RelR K S n) (cq : CQ [11, 13, 15] 103 S S') (nq : NQ2 510 1290 1290 1770 9 n n') (hc : S'.1 103 = n' 9) (hla : RLa K (S'.2 11) (S'.2 13) n') (hle : RLe K (S'.2 15) n') : RelR K S' n' := by
  have hK : ∀ i : Nat, i ≠ 9 → K i = K i := fun _ _ => rfl
  have hct := noct (K' := K) (S' := S') (n' := n')
  have c0 := (h.ct 2 0 10 (by decide)).2.2
  have c1 := (h.ct 101 1 20 (by decide)).2.2
  have c2 := (h.ct 6 2 20 (by decide)).2.2
  have c3 := (h.ct 8 3 20 (by decide)).2.2
  have c4 := (h.ct 10 4 12 (by decide)).2.2
  have c5 := (h.ct 14 5 40 (by decide)).2.2
  have c6 := (h.ct 16 6 6 (by decide)).2.2
  have c7 := (h.ct 18 7 30 (by decide)).2.2
  have c10 := (h.ct 24 10 60 (by decide)).2.2
  have c11 := (h.ct 22 11 20 (by decide)).2.2
  have eA := fun q hq h3 => cq.2.2 q hq h3
  refine ⟨RCt.cr h cq (fun j h1 h2 h3 => nq j (by omega) (by omega) h2 h3) hK hc hct, ?_, ?_, ?_, ?_, hla, hle, ?_, ?_, ?_, ?_, ?_, ?_, ?_, ?_⟩
  · exact h.tw.same c0 (hK 0 (by decide)) (Nat.le_of_eq (hK 2 (by decide)).symm) (fun _ _ => by rw [eA 3 (by decide) (by decide)]) (fun j h1 h2 => nq j (by omega) (by omega) (by omega) (by omega))
  · exact h.wy.no (hK 1 (by decide)) c1 (Nat.le_of_eq (hK 0 (by decide)).symm) (eA 5 (by decide) (by decide)) (fun j h1 h2 => nq j (by omega) (by omega) (by omega) (by omega))
  · exact h.pe.same c2 (Nat.le_of_eq (hK 0 (by decide)).symm) (hK 2 (by decide)) (hK 8 (by decide)) (fun _ _ => by rw [eA 7 (by decide) (by decide)]) (fun j h1 h2 => nq j (by omega) (by omega) (by omega) (by omega))
  · exact h.pw.same c3 c2 (hK 3 (by decide)) (Nat.le_of_eq (hK 2 (by decide)).symm) (fun _ _ => by rw [eA 9 (by decide) (by decide)]) (fun j h1 h2 => nq j (by omega) (by omega) (by omega) (by omega)) (fun x hx => hx.same c2 (Nat.le_of_eq (hK 2 (by decide)).symm) (fun j h1 h2 => nq j (by omega) (by omega) (by omega) (by omega)))
  · exact h.de.same c6 c0 (hK 6 (by decide)) (Nat.le_of_eq (hK 0 (by decide)).symm) (Nat.le_of_eq (hK 8 (by decide)).symm) (fun _ _ => by rw [eA 17 (by decide) (by decide)]) (fun j h1 h2 => nq j (by omega) (by omega) (by omega) (by omega)) (fun t ht e => by rw [nq _ (by omega) (by omega) (by omega) (by omega)]; exact e)
  · exact h.pr.same c7 (hK 7 (by decide)) (Nat.le_of_eq (hK 2 (by decide)).symm) (hK 8 (by decide)) (fun _ _ => by rw [eA 19 (by decide) (by decide)]) (fun j h1 h2 => nq j (by omega) (by omega) (by omega) (by omega))
  · exact h.gu.same (fun _ _ => by rw [eA 21 (by decide) (by decide)]) (fun j h1 h2 => nq j (by omega) (by omega) (by omega) (by omega))
  · exact h.wt.same c11 (hK 11 (by decide)) (fun _ _ => by rw [eA 23 (by decide) (by decide)]) (fun j h1 h2 => nq j (by omega) (by omega) (by omega) (by omega))
  · exact h.ta.same c10 (hK 10 (by decide)) (fun _ _ => by rw [eA 25 (by decide) (by decide)]) (fun j h1 h2 => nq j (by omega) (by omega) (by omega) (by omega))
  · exact h.se.same c2 (hK 2 (by decide)) (Nat.le_of_eq (hK 0 (by decide)).symm) (fun p hp => nq _ (by omega) (by omega) (by omega) (by omega))
  · exact h.st.same c2 (hK 2 (by decide)) (fun p hp => by rw [eA 7 (by decide) (by decide)]) (fun p hp => ⟨nq _ (by omega) (by omega) (by omega) (by omega), nq _ (by omega) (by omega) (by omega) (by omega)⟩)
  · exact h.ps.same c7 (hK 7 (by decide)) (Nat.le_of_eq (hK 2 (by decide)).symm) (hK 8 (by decide)) (fun _ _ => by rw [eA 19 (by decide) (by decide)]) (fun j h1 h2 => nq j (by omega) (by omega) (by omega) (by omega)) (fun p hp => nq _ (by omega) (by omega) (by omega) (by omega))
theorem RelR.onQE {K : Nat → Nat} {S S' : FS} {n n' : Nat → Int32} (h : RelR K S n) (cq : CQ [15, 19] 103 S S') (nq : NQ2 1806 1986 1290 1770 9 n n') (hc : S'.1 103 = n' 9) (hpr : RPr K (S'.2 19) n') (hps : RPs K (S'.2 19) n') (hle : RLe K (S'.2 15) n') : RelR K S' n' := by
  have hK : ∀ i : Nat, i ≠ 9 → K i = K i := fun _ _ => rfl
  have hct := noct (K' := K) (S' := S') (n' := n')
  have c0 := (h.ct 2 0 10 (by decide)).2.2
  have c1 := (h.ct 101 1 20 (by decide)).2.2
  have c2 := (h.ct 6 2 20 (by decide)).2.2
  have c3 := (h.ct 8 3 20 (by decide)).2.2
  have c4 := (h.ct 10 4 12 (by decide)).2.2
  have c5 := (h.ct 14 5 40 (by decide)).2.2
  have c6 := (h.ct 16 6 6 (by decide)).2.2
  have c7 := (h.ct 18 7 30 (by decide)).2.2
  have c10 := (h.ct 24 10 60 (by decide)).2.2
  have c11 := (h.ct 22 11 20 (by decide)).2.2
  have eA := fun q hq h3 => cq.2.2 q hq h3
  refine ⟨RCt.cr h cq (fun j h1 h2 h3 => nq j (by omega) (by omega) h2 h3) hK hc hct, ?_, ?_, ?_, ?_, ?_, hle, ?_, hpr, ?_, ?_, ?_, ?_, ?_, hps⟩
  · exact h.tw.same c0 (hK 0 (by decide)) (Nat.le_of_eq (hK 2 (by decide)).symm) (fun _ _ => by rw [eA 3 (by decide) (by decide)]) (fun j h1 h2 => nq j (by omega) (by omega) (by omega) (by omega))
  · exact h.wy.no (hK 1 (by decide)) c1 (Nat.le_of_eq (hK 0 (by decide)).symm) (eA 5 (by decide) (by decide)) (fun j h1 h2 => nq j (by omega) (by omega) (by omega) (by omega))
  · exact h.pe.same c2 (Nat.le_of_eq (hK 0 (by decide)).symm) (hK 2 (by decide)) (hK 8 (by decide)) (fun _ _ => by rw [eA 7 (by decide) (by decide)]) (fun j h1 h2 => nq j (by omega) (by omega) (by omega) (by omega))
  · exact h.pw.same c3 c2 (hK 3 (by decide)) (Nat.le_of_eq (hK 2 (by decide)).symm) (fun _ _ => by rw [eA 9 (by decide) (by decide)]) (fun j h1 h2 => nq j (by omega) (by omega) (by omega) (by omega)) (fun x hx => hx.same c2 (Nat.le_of_eq (hK 2 (by decide)).symm) (fun j h1 h2 => nq j (by omega) (by omega) (by omega) (by omega)))
  · exact h.la.same c4 (hK 4 (by decide)) (Nat.le_of_eq (hK 8 (by decide)).symm) (fun _ _ => by rw [eA 11 (by decide) (by decide)]) (fun _ _ => by rw [eA 13 (by decide) (by decide)]) (fun j h1 h2 => nq j (by omega) (by omega) (by omega) (by omega))
  · exact h.de.same c6 c0 (hK 6 (by decide)) (Nat.le_of_eq (hK 0 (by decide)).symm) (Nat.le_of_eq (hK 8 (by decide)).symm) (fun _ _ => by rw [eA 17 (by decide) (by decide)]) (fun j h1 h2 => nq j (by omega) (by omega) (by omega) (by omega)) (fun t ht e => by rw [nq _ (by omega) (by omega) (by omega) (by omega)]; exact e)
  · exact h.gu.same (fun _ _ => by rw [eA 21 (by decide) (by decide)]) (fun j h1 h2 => nq j (by omega) (by omega) (by omega) (by omega))
  · exact h.wt.same c11 (hK 11 (by decide)) (fun _ _ => by rw [eA 23 (by decide) (by decide)]) (fun j h1 h2 => nq j (by omega) (by omega) (by omega) (by omega))
  · exact h.ta.same c10 (hK 10 (by decide)) (fun _ _ => by rw [eA 25 (by decide) (by decide)]) (fun j h1 h2 => nq j (by omega) (by omega) (by omega) (by omega))
  · exact h.se.same c2 (hK 2 (by decide)) (Nat.le_of_eq (hK 0 (by decide)).symm) (fun p hp => nq _ (by omega) (by omega) (by omega) (by omega))
  · exact h.st.same c2 (hK 2 (by decide)) (fun p hp => by rw [eA 7 (by decide) (by decide)]) (fun p hp => ⟨nq _ (by omega) (by omega) (by omega) (by omega), nq _ (by omega) (by omega) (by omega) (by omega)⟩)
theorem RelR.onPQ {K : Nat → Nat} {S S' : FS} {n n' : Nat → Int32} (h : RelR K S n) (cq : CQ [7, 19] 103 S S') (nq : NQ2 110 390 1806 1986 9 n n') (hc : S'.1 103 = n' 9) (hpe : RPe K (S'.2 7) n') (hse : RSe K n') (hst : RSt K (S'.2 7) n') (hpr : RPr K (S'.2 19) n') (hps : RPs K (S'.2 19) n') (hpw : RPw K (S'.2 9) n') : RelR K S' n' := by
  have hK : ∀ i : Nat, i ≠ 9 → K i = K i := fun _ _ => rfl
  have hct := noct (K' := K) (S' := S') (n' := n')
  have c0 := (h.ct 2 0 10 (by decide)).2.2
  have c1 := (h.ct 101 1 20 (by decide)).2.2
  have c2 := (h.ct 6 2 20 (by decide)).2.2
  have c3 := (h.ct 8 3 20 (by decide)).2.2
  have c4 := (h.ct 10 4 12 (by decide)).2.2
  have c5 := (h.ct 14 5 40 (by decide)).2.2
  have c6 := (h.ct 16 6 6 (by decide)).2.2
  have c7 := (h.ct 18 7 30 (by decide)).2.2
  have c10 := (h.ct 24 10 60 (by decide)).2.2
  have c11 := (h.ct 22 11 20 (by decide)).2.2
  have eA := fun q hq h3 => cq.2.2 q hq h3
  refine ⟨RCt.cr h cq (fun j h1 h2 h3 => nq j (by omega) (by omega) h2 h3) hK hc hct, ?_, ?_, hpe, hpw, ?_, ?_, ?_, hpr, ?_, ?_, ?_, hse, hst, hps⟩
  · exact h.tw.same c0 (hK 0 (by decide)) (Nat.le_of_eq (hK 2 (by decide)).symm) (fun _ _ => by rw [eA 3 (by decide) (by decide)]) (fun j h1 h2 => nq j (by omega) (by omega) (by omega) (by omega))
  · exact h.wy.no (hK 1 (by decide)) c1 (Nat.le_of_eq (hK 0 (by decide)).symm) (eA 5 (by decide) (by decide)) (fun j h1 h2 => nq j (by omega) (by omega) (by omega) (by omega))
  · exact h.la.same c4 (hK 4 (by decide)) (Nat.le_of_eq (hK 8 (by decide)).symm) (fun _ _ => by rw [eA 11 (by decide) (by decide)]) (fun _ _ => by rw [eA 13 (by decide) (by decide)]) (fun j h1 h2 => nq j (by omega) (by omega) (by omega) (by omega))
  · exact h.le.same c5 (hK 5 (by decide)) (Nat.le_of_eq (hK 0 (by decide)).symm) (Nat.le_of_eq (hK 2 (by decide)).symm) (fun _ _ => by rw [eA 15 (by decide) (by decide)]) (fun j h1 h2 => nq j (by omega) (by omega) (by omega) (by omega))
  · exact h.de.same c6 c0 (hK 6 (by decide)) (Nat.le_of_eq (hK 0 (by decide)).symm) (Nat.le_of_eq (hK 8 (by decide)).symm) (fun _ _ => by rw [eA 17 (by decide) (by decide)]) (fun j h1 h2 => nq j (by omega) (by omega) (by omega) (by omega)) (fun t ht e => by rw [nq _ (by omega) (by omega) (by omega) (by omega)]; exact e)
  · exact h.gu.same (fun _ _ => by rw [eA 21 (by decide) (by decide)]) (fun j h1 h2 => nq j (by omega) (by omega) (by omega) (by omega))
  · exact h.wt.same c11 (hK 11 (by decide)) (fun _ _ => by rw [eA 23 (by decide) (by decide)]) (fun j h1 h2 => nq j (by omega) (by omega) (by omega) (by omega))
  · exact h.ta.same c10 (hK 10 (by decide)) (fun _ _ => by rw [eA 25 (by decide) (by decide)]) (fun j h1 h2 => nq j (by omega) (by omega) (by omega) (by omega))
theorem RelR.onPWQ {K : Nat → Nat} {S S' : FS} {n n' : Nat → Int32} (h : RelR K S n) (cq : CQ [7, 9, 19] 103 S S') (nq : NQ3 110 390 390 510 1806 1986 9 n n') (hc : S'.1 103 = n' 9) (hpe : RPe K (S'.2 7) n') (hse : RSe K n') (hst : RSt K (S'.2 7) n') (hpw : RPw K (S'.2 9) n') (hpr : RPr K (S'.2 19) n') (hps : RPs K (S'.2 19) n') : RelR K S' n' := by
  have hK : ∀ i : Nat, i ≠ 9 → K i = K i := fun _ _ => rfl
  have hct := noct (K' := K) (S' := S') (n' := n')
  have c0 := (h.ct 2 0 10 (by decide)).2.2
  have c1 := (h.ct 101 1 20 (by decide)).2.2
  have c2 := (h.ct 6 2 20 (by decide)).2.2
  have c3 := (h.ct 8 3 20 (by decide)).2.2
  have c4 := (h.ct 10 4 12 (by decide)).2.2
  have c5 := (h.ct 14 5 40 (by decide)).2.2
  have c6 := (h.ct 16 6 6 (by decide)).2.2
  have c7 := (h.ct 18 7 30 (by decide)).2.2
  have c10 := (h.ct 24 10 60 (by decide)).2.2
  have c11 := (h.ct 22 11 20 (by decide)).2.2
  have eA := fun q hq h3 => cq.2.2 q hq h3
  refine ⟨RCt.cr h cq (fun j h1 h2 h3 => nq j (by omega) (by omega) (by omega) h2 h3) hK hc hct, ?_, ?_, hpe, hpw, ?_, ?_, ?_, hpr, ?_, ?_, ?_, hse, hst, hps⟩
  · exact h.tw.same c0 (hK 0 (by decide)) (Nat.le_of_eq (hK 2 (by decide)).symm) (fun _ _ => by rw [eA 3 (by decide) (by decide)]) (fun j h1 h2 => nq j (by omega) (by omega) (by omega) (by omega) (by omega))
  · exact h.wy.no (hK 1 (by decide)) c1 (Nat.le_of_eq (hK 0 (by decide)).symm) (eA 5 (by decide) (by decide)) (fun j h1 h2 => nq j (by omega) (by omega) (by omega) (by omega) (by omega))
  · exact h.la.same c4 (hK 4 (by decide)) (Nat.le_of_eq (hK 8 (by decide)).symm) (fun _ _ => by rw [eA 11 (by decide) (by decide)]) (fun _ _ => by rw [eA 13 (by decide) (by decide)]) (fun j h1 h2 => nq j (by omega) (by omega) (by omega) (by omega) (by omega))
  · exact h.le.same c5 (hK 5 (by decide)) (Nat.le_of_eq (hK 0 (by decide)).symm) (Nat.le_of_eq (hK 2 (by decide)).symm) (fun _ _ => by rw [eA 15 (by decide) (by decide)]) (fun j h1 h2 => nq j (by omega) (by omega) (by omega) (by omega) (by omega))
  · exact h.de.same c6 c0 (hK 6 (by decide)) (Nat.le_of_eq (hK 0 (by decide)).symm) (Nat.le_of_eq (hK 8 (by decide)).symm) (fun _ _ => by rw [eA 17 (by decide) (by decide)]) (fun j h1 h2 => nq j (by omega) (by omega) (by omega) (by omega) (by omega)) (fun t ht e => by rw [nq _ (by omega) (by omega) (by omega) (by omega) (by omega)]; exact e)
  · exact h.gu.same (fun _ _ => by rw [eA 21 (by decide) (by decide)]) (fun j h1 h2 => nq j (by omega) (by omega) (by omega) (by omega) (by omega))
  · exact h.wt.same c11 (hK 11 (by decide)) (fun _ _ => by rw [eA 23 (by decide) (by decide)]) (fun j h1 h2 => nq j (by omega) (by omega) (by omega) (by omega) (by omega))
  · exact h.ta.same c10 (hK 10 (by decide)) (fun _ _ => by rw [eA 25 (by decide) (by decide)]) (fun j h1 h2 => nq j (by omega) (by omega) (by omega) (by omega) (by omega))
