/-! ===== pure: what leaves a part of the relation as it is ===== -/
section FRM
variable {K K' : Nat → Nat} {f f' g g' n n' : Nat → Int32}
theorem RTw.same (h : RTw K f n) (b : K 0 ≤ 10) (k0 : K' 0 = K 0) (k2 : K 2 ≤ K' 2) (hf : ∀ j : Nat, j < 30 → f' j = f j) (hn : ∀ j : Nat, 20 ≤ j → j < 50 → n' j = n j) : RTw K' f' n' := by
  intro t ht
  rw [k0] at ht
  obtain ⟨h1, h2, h3, h4⟩ := h t ht
  simp (disch := omega) only [hf, hn]
  exact ⟨h1, h2, h3.mono k2, h4⟩
theorem RPe.same (h : RPe K f n) (b : K 2 ≤ 20) (k0 : K 0 ≤ K' 0) (k2 : K' 2 = K 2) (k8 : K' 8 = K 8) (hf : ∀ j : Nat, j < 280 → f' j = f j) (hn : ∀ j : Nat, 110 ≤ j → j < 390 → n' j = n j) : RPe K' f' n' := by
  intro p hp
  rw [k2] at hp
  obtain ⟨h1, h2, h3, h4, h5, h6, h7⟩ := h p hp
  unfold PLv at h3 ⊢
  simp (disch := omega) only [hf, hn, k2, k8]
  refine ⟨h1, h2, ?_, h4, h5, h6.mono k0, h7⟩
  rcases h3 with ⟨a1, a2, a3, a4⟩ | a
  · refine Or.inl ⟨a1, a2, a3, fun q => ?_⟩
    obtain ⟨b1, ⟨t, b2, b3⟩, b4⟩ := a4 q
    exact ⟨b1, ⟨t, by omega, b3⟩, b4⟩
  · exact Or.inr a
theorem vL.same {P Q : Nat} {x : Int32} (h : vL P n x) (hP : P ≤ 20) (hq : P ≤ Q) (hn : ∀ j : Nat, 110 ≤ j → j < 390 → n' j = n j) : vL Q n' x := by
  rcases h with h | ⟨p, h1, h2, h3⟩
  · exact Or.inl h
  · exact Or.inr ⟨p, by omega, h2, by rw [hn _ (by omega) (by omega)]; exact h3⟩
theorem RPw.same (h : RPw K f n) (b : K 3 ≤ 20) (b2 : K 2 ≤ 20) (k3 : K' 3 = K 3) (k2 : K 2 ≤ K' 2) (hf : ∀ j : Nat, j < 120 → f' j = f j) (hn : ∀ j : Nat, 390 ≤ j → j < 510 → n' j = n j) (hv : ∀ x : Int32, vL (K 2) n x → vL (K' 2) n' x) : RPw K' f' n' := by
  intro w hw
  rw [k3] at hw
  obtain ⟨h1, h2, h3, h4, h5, h6, h7⟩ := h w hw
  simp (disch := omega) only [hf, hn]
  exact ⟨h1, h2, h3, h4, hv _ h5, hv _ h6, h7⟩
theorem RLa.same (h : RLa K f g n) (b : K 4 ≤ 12) (k4 : K' 4 = K 4) (k8 : K 8 ≤ K' 8) (hf : ∀ j : Nat, j < 72 → f' j = f j) (hg : ∀ j : Nat, j < 720 → g' j = g j) (hn : ∀ j : Nat, 510 ≤ j → j < 1290 → n' j = n j) : RLa K' f' g' n' := by
  intro l hl
  rw [k4] at hl
  obtain ⟨h1, ⟨d, d1, d2, d3⟩, h3, e, e1, e2, e3, e4, e5⟩ := h l hl
  simp (disch := omega) only [hf, hn]
  refine ⟨h1, ⟨d, by omega, d2, fun l' hl' => ?_⟩, h3, e, e1, e2, e3, fun i hi => ?_, ?_⟩
  · rw [hn _ (by omega) (by omega)]; exact d3 l' hl'
  · rw [hn _ (by omega) (by omega), hg _ (by omega)]; exact e4 i hi
  · rw [← e5]
    have key : ∀ i : Nat, i ≤ e → cdH (fun i => g' (60 * l + i)) i = cdH (fun i => g (60 * l + i)) i := by
      intro i
      induction i with
      | zero => intro _; rfl
      | succ i ih =>
        intro hi
        unfold cdH
        rw [ih (by omega)]
        have : g' (60 * l + i) = g (60 * l + i) := hg _ (by omega)
        simp only [this]
    exact key e (Nat.le_refl _)
theorem RLe.same (h : RLe K f n) (b : K 5 ≤ 40) (k5 : K' 5 = K 5) (k0 : K 0 ≤ K' 0) (k2 : K 2 ≤ K' 2) (hf : ∀ j : Nat, j < 480 → f' j = f j) (hn : ∀ j : Nat, 1290 ≤ j → j < 1770 → n' j = n j) : RLe K' f' n' := by
  intro e he
  rw [k5] at he
  obtain ⟨h1, h2, h3, h4, ⟨h5, ⟨t, t1, t2⟩, h6⟩, h7⟩ := h e he
  simp (disch := omega) only [hf, hn]
  exact ⟨h1, h2, h3, h4, ⟨h5.mono k2, ⟨t, by omega, t2⟩, h6⟩, h7⟩
theorem RDe.same (h : RDe K f n) (b : K 6 ≤ 6) (b0 : K 0 ≤ 10) (k6 : K' 6 = K 6) (k0 : K 0 ≤ K' 0) (k8 : K 8 ≤ K' 8) (hf : ∀ j : Nat, j < 30 → f' j = f j) (hn : ∀ j : Nat, 1770 ≤ j → j < 1806 → n' j = n j) (ht : ∀ t : Nat, t < K 0 → n (3 * t + 22) = 1 → n' (3 * t + 22) = 1) : RDe K' f' n' := by
  intro d hd
  rw [k6] at hd
  obtain ⟨h1, t, m, t1, t2, m1, m2, m3⟩ := h d hd
  simp (disch := omega) only [hf, hn]
  exact ⟨h1, t, m, by omega, t2, by omega, m2, fun q => ht t t1 (m3 q)⟩
theorem RPr.same (h : RPr K f n) (b : K 7 ≤ 30) (k7 : K' 7 = K 7) (k2 : K 2 ≤ K' 2) (k8 : K' 8 = K 8) (hf : ∀ j : Nat, j < 150 → f' j = f j) (hn : ∀ j : Nat, 1806 ≤ j → j < 1986 → n' j = n j) : RPr K' f' n' := by
  intro k hk
  rw [k7] at hk
  obtain ⟨h1, h2, h3, ⟨p, h4, h5⟩, h6⟩ := h k hk
  simp (disch := omega) only [hf, hn, k8]
  exact ⟨h1, h2, h3, ⟨p, by omega, h5⟩, h6⟩
theorem RPs0.same (h : RPs0 K f n) (b : K 7 ≤ 30) (k7 : K' 7 = K 7) (k2 : K 2 ≤ K' 2) (k8 : K' 8 = K 8) (hf : ∀ j : Nat, j < 150 → f' j = f j) (hn : ∀ j : Nat, 1806 ≤ j → j < 1986 → n' j = n j) (hs : ∀ p : Nat, p < K 2 → n' (14 * p + 121) = n (14 * p + 121)) : RPs0 K' f' n' := by
  intro k hk
  rw [k7] at hk
  simp (disch := omega) only [hf, hn, k8]
  intro h1 h2
  obtain ⟨p, h3, h4, h5⟩ := h k hk h1 h2
  exact ⟨p, by omega, h4, by rw [hs p h3]; exact h5⟩
theorem RPu.mono (h : RPu K n) (b : K 7 ≤ 30) (k7 : K' 7 = K 7) (e : ∀ k : Nat, k < 30 → n' (6 * k + 1806) = n (6 * k + 1806) ∧ n' (6 * k + 1807) = n (6 * k + 1807)) (m : ∀ k : Nat, k < 30 → n (6 * k + 1811) = 1 → n' (6 * k + 1811) = 1) : RPu K' n' := by
  intro j k hj hk e1 e2
  rw [k7] at hk
  rw [(e j (by omega)).1, (e k (by omega)).1] at e1
  rw [(e j (by omega)).2, (e k (by omega)).2] at e2
  exact m j (by omega) (h j k hj hk e1 e2)
theorem RPu.same (h : RPu K n) (b : K 7 ≤ 30) (k7 : K' 7 = K 7) (hn : ∀ j : Nat, 1806 ≤ j → j < 1986 → n' j = n j) : RPu K' n' :=
  h.mono b k7 (fun k hk => ⟨hn _ (by omega) (by omega), hn _ (by omega) (by omega)⟩) (fun k hk q => by rw [hn _ (by omega) (by omega)]; exact q)
theorem RPs.same (h : RPs K f n) (b : K 7 ≤ 30) (k7 : K' 7 = K 7) (k2 : K 2 ≤ K' 2) (k8 : K' 8 = K 8) (hf : ∀ j : Nat, j < 150 → f' j = f j) (hn : ∀ j : Nat, 1806 ≤ j → j < 1986 → n' j = n j) (hs : ∀ p : Nat, p < K 2 → n' (14 * p + 121) = n (14 * p + 121)) : RPs K' f' n' := ⟨h.1.same b k7 k2 k8 hf hn hs, h.2.same b k7 hn⟩
theorem RGu.same (h : RGu f n) (hf : ∀ j : Nat, j < 5 → f' j = f j) (hn : ∀ j : Nat, 1986 ≤ j → j < 1991 → n' j = n j) : RGu f' n' := by
  intro j hj
  simp (disch := omega) only [hf, hn]
  exact h j hj
theorem RWt.same (h : RWt K f n) (b : K 11 ≤ 20) (k : K' 11 = K 11) (hf : ∀ j : Nat, j < 20 → f' j = f j) (hn : ∀ j : Nat, 2051 ≤ j → j < 2071 → n' j = n j) : RWt K' f' n' := by
  intro j hj
  rw [k] at hj
  simp (disch := omega) only [hf, hn]
  exact h j hj
theorem RTa.same (h : RTa K f n) (b : K 10 ≤ 60) (k : K' 10 = K 10) (hf : ∀ j : Nat, j < 60 → f' j = f j) (hn : ∀ j : Nat, 1991 ≤ j → j < 2051 → n' j = n j) : RTa K' f' n' := by
  intro j hj
  rw [k] at hj
  simp (disch := omega) only [hf, hn]
  exact h j hj
theorem pm_cnt_congr {p q : Nat → Bool} : ∀ {m : Nat}, (∀ j : Nat, j < m → p j = q j) → pm_cnt p m = pm_cnt q m
  | 0, _ => rfl
  | m + 1, h => by
    unfold pm_cnt
    rw [pm_cnt_congr (fun j hj => h j (by omega)), h m (by omega)]
theorem RSe.same (h : RSe K n) (b : K 2 ≤ 20) (k2 : K' 2 = K 2) (k0 : K 0 ≤ K' 0) (hn : ∀ p : Nat, p < K 2 → n' (14 * p + 121) = n (14 * p + 121)) : RSe K' n' := by
  refine ⟨?_, fun q => ?_⟩
  · rw [k2, pm_cnt_congr (q := fun p => n (14 * p + 121) == 1) (fun j hj => by rw [hn j hj])]; exact h.1
  · have := h.2 (by omega); omega
theorem SF.same {P : Nat} {D : Nat → Nat} (h : SF n P D) (hn : ∀ p : Nat, p < P → n' (14 * p + 112) = n (14 * p + 112) ∧ n' (14 * p + 113) = n (14 * p + 113)) : SF n' P D := by
  intro p hp c hc q e hq
  refine h p hp c hc q ?_ hq
  rcases hc with rfl | rfl
  · rw [← (hn p hp).1]; exact e
  · rw [← (hn p hp).2]; exact e
theorem RSt.same (h : RSt K f n) (b : K 2 ≤ 20) (k2 : K' 2 = K 2) (hf : ∀ p : Nat, p < K 2 → f' (14 * p + 11) = f (14 * p + 11)) (hn : ∀ p : Nat, p < K 2 → n' (14 * p + 112) = n (14 * p + 112) ∧ n' (14 * p + 113) = n (14 * p + 113)) : RSt K' f' n' := by
  obtain ⟨s, h1, h2, h3, h4⟩ := h
  refine ⟨s, ?_, ?_, ?_, ?_⟩
  · rw [k2]; intro p hp; rw [hf p hp]; exact h1 p hp
  · rw [k2]; exact h2
  · rw [k2]; exact h3.same hn
  · rw [k2]; intro D d0 dF p hp hs
    exact h4 D d0 (dF.same (fun p hp => ⟨(hn p hp).1.symm, (hn p hp).2.symm⟩)) p hp hs
end FRM
/-- the class's cells that are no realm: sheets, voices, images -/
def CX (S S' : FS) : Prop := (S'.2 49 = S.2 49 ∧ S'.2 50 = S.2 50 ∧ S'.2 52 = S.2 52 ∧ S'.2 47 = S.2 47) ∧ S'.1 115 = S.1 115 ∧ S'.1 100 = S.1 100
def MX (T T' : FS) : Prop := (T'.2 56 = T.2 56 ∧ T'.2 69 = T.2 69 ∧ T'.2 70 = T.2 70 ∧ T'.2 71 = T.2 71 ∧ T'.2 72 = T.2 72) ∧ T'.1 22 = T.1 22 ∧ T'.1 3 = T.1 3
def ctI : List Nat := [2, 101, 6, 8, 10, 14, 16, 18, 102, 24, 22, 103]
def ctA : List Nat := [3, 5, 7, 9, 11, 13, 15, 17, 19, 21, 23, 25]
def CE (S S' : FS) : Prop := CX S S' ∧ (∀ k ∈ ctI, S'.1 k = S.1 k) ∧ ∀ a ∈ ctA, S'.2 a = S.2 a
def ME (T T' : FS) : Prop := MX T T' ∧ T'.2 55 = T.2 55
theorem CX.rf {S : FS} : CX S S := ⟨⟨rfl, rfl, rfl, rfl⟩, rfl, rfl⟩
theorem MX.rf {S : FS} : MX S S := ⟨⟨rfl, rfl, rfl, rfl, rfl⟩, rfl, rfl⟩
theorem CE.rf {S : FS} : CE S S := ⟨CX.rf, fun _ _ => rfl, fun _ _ => rfl⟩
theorem ME.rf {S : FS} : ME S S := ⟨MX.rf, rfl⟩
theorem CX.tr {S S' S2 : FS} (h : CX S S') (g : CX S' S2) : CX S S2 := ⟨⟨g.1.1.trans h.1.1, g.1.2.1.trans h.1.2.1, g.1.2.2.1.trans h.1.2.2.1, g.1.2.2.2.trans h.1.2.2.2⟩, g.2.1.trans h.2.1, g.2.2.trans h.2.2⟩
theorem MX.tr {S S' S2 : FS} (h : MX S S') (g : MX S' S2) : MX S S2 := ⟨⟨g.1.1.trans h.1.1, g.1.2.1.trans h.1.2.1, g.1.2.2.1.trans h.1.2.2.1, g.1.2.2.2.1.trans h.1.2.2.2.1, g.1.2.2.2.2.trans h.1.2.2.2.2⟩, g.2.1.trans h.2.1, g.2.2.trans h.2.2⟩
theorem CE.tr {S S' S2 : FS} (h : CE S S') (g : CE S' S2) : CE S S2 := ⟨h.1.tr g.1, fun k hk => (g.2.1 k hk).trans (h.2.1 k hk), fun a ha => (g.2.2 a ha).trans (h.2.2 a ha)⟩
theorem ME.tr {S S' S2 : FS} (h : ME S S') (g : ME S' S2) : ME S S2 := ⟨h.1.tr g.1, g.2.trans h.2⟩
def cxI : List Nat := [115, 100, 2, 101, 6, 8, 10, 14, 16, 18, 102, 24, 22, 103]
def cxA : List Nat := [49, 50, 52, 47, 3, 5, 7, 9, 11, 13, 15, 17, 19, 21, 23, 25]
theorem CE.wI {S : FS} {k : Nat} {v : Int32} (h : cxI.all (fun q => q != k) = true) : CE S (wI S k v) := by
  simp only [cxI, List.all_cons, List.all_nil, Bool.and_true, Bool.and_eq_true, bne_iff_ne] at h
  obtain ⟨h1, h2, h3⟩ := h
  refine ⟨⟨⟨rfl, rfl, rfl, rfl⟩, wI_n h1, wI_n h2⟩, fun q hq => wI_n ?_, fun _ _ => rfl⟩
  have : ctI.all (fun q => q != k) = true := by
    simp only [ctI, List.all_cons, List.all_nil, Bool.and_true, Bool.and_eq_true, bne_iff_ne]; exact h3
  rw [List.all_eq_true] at this
  exact bne_iff_ne.mp (this q hq)
theorem CE.wA {S : FS} {a j : Nat} {v : Int32} (h : cxA.all (fun q => q != a) = true) : CE S (wA S a j v) := by
  simp only [cxA, List.all_cons, List.all_nil, Bool.and_true, Bool.and_eq_true, bne_iff_ne] at h
  obtain ⟨h1, h2, h3, h4, h5⟩ := h
  refine ⟨⟨⟨wA_n h1, wA_n h2, wA_n h3, wA_n h4⟩, rfl, rfl⟩, fun _ _ => rfl, fun q hq => wA_n ?_⟩
  have : ctA.all (fun q => q != a) = true := by
    simp only [ctA, List.all_cons, List.all_nil, Bool.and_true, Bool.and_eq_true, bne_iff_ne]; exact h5
  rw [List.all_eq_true] at this
  exact bne_iff_ne.mp (this q hq)
def mxA : List Nat := [56, 69, 70, 71, 72, 55]
theorem ME.wA {S : FS} {a j : Nat} {v : Int32} (h : mxA.all (fun q => q != a) = true) : ME S (wA S a j v) := by
  simp only [mxA, List.all_cons, List.all_nil, Bool.and_true, Bool.and_eq_true, bne_iff_ne] at h
  obtain ⟨h1, h2, h3, h4, h5, h6⟩ := h
  exact ⟨⟨⟨wA_n h1, wA_n h2, wA_n h3, wA_n h4, wA_n h5⟩, rfl, rfl⟩, wA_n h6⟩
theorem ME.wI {S : FS} {k : Nat} {v : Int32} (h1 : (22 : Nat) ≠ k) (h2 : (3 : Nat) ≠ k) : ME S (wI S k v) := ⟨⟨⟨rfl, rfl, rfl, rfl, rfl⟩, wI_n h1, wI_n h2⟩, rfl⟩
theorem RelR.ce {K : Nat → Nat} {S S' : FS} {n : Nat → Int32} (h : RelR K S n) (e : CE S S') : RelR K S' n := by
  obtain ⟨-, eI, eA⟩ := e
  obtain ⟨h1, h2⟩ := h
  have e3 := eA 3 (by decide)
  have e5 := eA 5 (by decide)
  have e7 := eA 7 (by decide)
  have e9 := eA 9 (by decide)
  have e11 := eA 11 (by decide)
  have e13 := eA 13 (by decide)
  have e15 := eA 15 (by decide)
  have e17 := eA 17 (by decide)
  have e19 := eA 19 (by decide)
  have e21 := eA 21 (by decide)
  have e23 := eA 23 (by decide)
  have e25 := eA 25 (by decide)
  refine ⟨⟨fun q hq => ?_, ?_⟩, ?_⟩
  · have h9 : ∀ q ∈ ctT, q.1 ∈ ctI := by decide
    rw [eI q.1 (h9 q hq)]; exact h1.1 q hq
  · rw [eI 103 (by decide)]; exact h1.2
  · rw [e3, e5, e7, e9, e11, e13, e15, e17, e19, e21, e23, e25]; exact h2
/-- both answer the same, and stand for the same again -/
def OK2 (S T : FS) (x y : Option (Int32 × FS)) : Prop := ∃ (v : Int32) (S' T' : FS), x = some (v, S') ∧ y = some (v, T') ∧ (∃ K' : Nat → Nat, RelR K' S' (T'.2 55)) ∧ CX S S' ∧ MX T T'
/-- both answer, and stand for the same again -/
def OK1 (S T : FS) (x y : Option (Int32 × FS)) : Prop := ∃ (v v' : Int32) (S' T' : FS), x = some (v, S') ∧ y = some (v', T') ∧ (∃ K' : Nat → Nat, RelR K' S' (T'.2 55)) ∧ CX S S' ∧ MX T T'
theorem OK2.one {S T : FS} {x y : Option (Int32 × FS)} (h : OK2 S T x y) : OK1 S T x y := by
  obtain ⟨v, S', T', h1, h2, h3⟩ := h
  exact ⟨v, v, S', T', h1, h2, h3⟩
theorem fb_id {x : Option (Int32 × FS)} : fb x (fun r => some (r.1, r.2)) = x := by cases x <;> rfl
section REL
variable {K : Nat → Nat} {S : FS} {n : Nat → Int32}
theorem RelR.ct (h : RelR K S n) (a i b : Nat) (hm : (a, i, b) ∈ ctT) : S.1 a = nI (K i) ∧ n i = nI (K i) ∧ K i ≤ b := h.1.1 (a, i, b) hm
theorem RelR.tw (h : RelR K S n) : RTw K (S.2 3) n := h.2.1
theorem RelR.wy (h : RelR K S n) : WQ1 (S.2 5) n (K 1) (K 0) := h.2.2.1
theorem RelR.pe (h : RelR K S n) : RPe K (S.2 7) n := h.2.2.2.1
theorem RelR.pw (h : RelR K S n) : RPw K (S.2 9) n := h.2.2.2.2.1
theorem RelR.la (h : RelR K S n) : RLa K (S.2 11) (S.2 13) n := h.2.2.2.2.2.1
theorem RelR.le (h : RelR K S n) : RLe K (S.2 15) n := h.2.2.2.2.2.2.1
theorem RelR.de (h : RelR K S n) : RDe K (S.2 17) n := h.2.2.2.2.2.2.2.1
theorem RelR.pr (h : RelR K S n) : RPr K (S.2 19) n := h.2.2.2.2.2.2.2.2.1
theorem RelR.gu (h : RelR K S n) : RGu (S.2 21) n := h.2.2.2.2.2.2.2.2.2.1
theorem RelR.wt (h : RelR K S n) : RWt K (S.2 23) n := h.2.2.2.2.2.2.2.2.2.2.1
theorem RelR.ta (h : RelR K S n) : RTa K (S.2 25) n := h.2.2.2.2.2.2.2.2.2.2.2.1
theorem RelR.se (h : RelR K S n) : RSe K n := h.2.2.2.2.2.2.2.2.2.2.2.2.1
theorem RelR.st (h : RelR K S n) : RSt K (S.2 7) n := h.2.2.2.2.2.2.2.2.2.2.2.2.2.1
theorem RelR.ps (h : RelR K S n) : RPs K (S.2 19) n := h.2.2.2.2.2.2.2.2.2.2.2.2.2.2
end REL
