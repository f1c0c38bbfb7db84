/-! ===== methods that change a tracked number ===== -/
theorem gq.app {ε I : Nat → Int32} {k : Nat} (n j : Nat) (hT : gcT.all (fun q => q.1 != k || q.2 == n) = true) (hj : j ≤ n) (h : gq ε I) : gq (ui ε k (nI j)) (ui I k (nI j)) := by
  simp only [List.all_eq_true, bne_iff_ne, Bool.or_eq_true, beq_iff_eq] at hT
  refine ⟨fun q hq => ?_, fun q hq => ?_⟩
  · by_cases e1 : q.1 = k
    · rcases hT q hq with h1 | h1
      · exact absurd e1 h1
      · rw [e1, h1]; exact ⟨j, hj, ui_eq⟩
    · rw [ui_ne e1]; exact h.1 q hq
  · by_cases e1 : q = k
    · subst e1; rw [ui_eq, ui_eq]
    · rw [ui_ne e1, ui_ne e1]; exact h.2 q hq
theorem gq.inc {ε I : Nat → Int32} {k : Nat} (hk : gcT.all (fun q => q.1 != k) = true) (hm : k ∈ gqT) (h : gq ε I) : gq (ui ε k (ε k + 1)) (ui I k (I k + 1)) := by
  simp only [List.all_eq_true, bne_iff_ne] at hk
  refine ⟨fun q hq => by rw [ui_ne (hk q hq)]; exact h.1 q hq, fun q hq => ?_⟩
  by_cases e1 : q = k
  · subst e1; rw [ui_eq, ui_eq, h.2 q hq]
  · rw [ui_ne e1, ui_ne e1]; exact h.2 q hq
theorem pm_mono {M : pm_M} {d mc ms B cnt : Nat} {av : List Value} {σ : pm_S} {Q Q1 : Option Value → pm_S → Nat → Prop} (hM : pm_met M d mc ms B av cnt σ Q1) (hQ : ∀ (r : Option Value) (σ' : pm_S) (c' : Nat), Q1 r σ' c' → Q r σ' c') : pm_met M d mc ms B av cnt σ Q := by
  intro l D cI p e ha hf hc s m args below g1 g2 hP hK
  obtain ⟨n, o, k1, k2, k3, ⟨r, σ', c', q1, q2, q3⟩, L⟩ := hM l D cI p e ha hf hc s m args below g1 g2 hP hK
  exact ⟨n, o, k1, k2, k3, ⟨r, σ', c', q1, hQ _ _ _ q2, q3⟩, L⟩
theorem ui_self {ε : Nat → Int32} {k : Nat} {v : Int32} (h : v = ε k) : ui ε k v = ε := by
  funext j
  unfold ui
  by_cases e : j = k
  · rw [if_pos e, h, e]
  · rw [if_neg e]
theorem pm_dep {M : pm_M} {d d' mc ms B cnt : Nat} {av : List Value} {σ : pm_S} {Q : Option Value → pm_S → Nat → Prop} (h : ∀ d : Nat, d' ≤ d → pm_met M d mc ms B av cnt σ Q) (hd : d' ≤ d) : pm_met M d mc ms B av cnt σ Q := h d hd

