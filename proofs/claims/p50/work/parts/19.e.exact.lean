/-! ===== methods that change a tracked number ===== -/
theorem gq.app {ε I : Nat → Int32} {k : Nat} (n j : Nat) (hT : gcT.all (fun q => q.1 != k || q.2 == n) = true) (hj : j ≤ n) (h : gq ε I) : gq (ui ε k (nI j)) (ui I k (nI j)) := by
  simp only [List.all_eq_true, bne_iff_ne, Bool.or_eq_true, beq_iff_eq] at hT
  refine ⟨fun q hq => ?_, fun q hq => ?_⟩
  · by_cases e1 : q.1 = k
    · rcases hT q hq with h1 | h1
      · exact absurd e1 h1
      · rw [e1, h1]; exact ⟨j, hj, ui_eq⟩
    · rw [ui_ne e1]; exact h.1 q hq
  · by_cases e1 : q = k
    · subst e1; rw [ui_eq, ui_eq]
    · rw [ui_ne e1, ui_ne e1]; exact h.2 q hq
theorem gq.inc {ε I : Nat → Int32} {k : Nat} (hk : gcT.all (fun q => q.1 != k) = true) (hm : k ∈ gqT) (h : gq ε I) : gq (ui ε k (ε k + 1)) (ui I k (I k + 1)) := by
  simp only [List.all_eq_true, bne_iff_ne] at hk
  refine ⟨fun q hq => by rw [ui_ne (hk q hq)]; exact h.1 q hq, fun q hq => ?_⟩
  by_cases e1 : q = k
  · subst e1; rw [ui_eq, ui_eq, h.2 q hq]
  · rw [ui_ne e1, ui_ne e1]; exact h.2 q hq
theorem pm_mono {M : pm_M} {d mc ms B cnt : Nat} {av : List Value} {σ : pm_S} {Q Q1 : Option Value → pm_S → Nat → Prop} (hM : pm_met M d mc ms B av cnt σ Q1) (hQ : ∀ (r : Option Value) (σ' : pm_S) (c' : Nat), Q1 r σ' c' → Q r σ' c') : pm_met M d mc ms B av cnt σ Q := by
  intro l D cI p e ha hf hc s m args below g1 g2 hP hK
  obtain ⟨n, o, k1, k2, k3, ⟨r, σ', c', q1, q2, q3⟩, L⟩ := hM l D cI p e ha hf hc s m args below g1 g2 hP hK
  exact ⟨n, o, k1, k2, k3, ⟨r, σ', c', q1, hQ _ _ _ q2, q3⟩, L⟩
theorem ui_self {ε : Nat → Int32} {k : Nat} {v : Int32} (h : v = ε k) : ui ε k v = ε := by
  funext j
  unfold ui
  by_cases e : j = k
  · rw [if_pos e, h, e]
  · rw [if_neg e]
theorem pm_dep {M : pm_M} {d d' mc ms B cnt : Nat} {av : List Value} {σ : pm_S} {Q : Option Value → pm_S → Nat → Prop} (h : ∀ d : Nat, d' ≤ d → pm_met M d mc ms B av cnt σ Q) (hd : d' ≤ d) : pm_met M d mc ms B av cnt σ Q := h d hd
theorem gq.st {ε I : Nat → Int32} {k : Nat} {v : Int32} (hk : gcT.all (fun q => q.1 != k) = true) (h : gq ε I) : gq (ui ε k v) (ui I k v) := by
  simp only [List.all_eq_true, bne_iff_ne] at hk
  refine ⟨fun q hq => by rw [ui_ne (hk q hq)]; exact h.1 q hq, fun q hq => ?_⟩
  by_cases e1 : q = k
  · subst e1; rw [ui_eq, ui_eq]
  · rw [ui_ne e1, ui_ne e1]; exact h.2 q hq

/-! ===== what sheet answers ===== -/
def vS (s b n : Int32) : Int32 := if (s < 0 ∨ 3 < s) ∨ (¬ b = 0 ∧ ¬ (b = 8 ∨ b = 16 ∨ b = 32)) then -1000001 else if ¬ b = 0 ∧ n < 0 then -1000003 else if ¬ b = 0 ∧ 24 < n then -1000001 else 1
theorem vS_a {s b n : Int32} (h : s < 0 ∨ 3 < s) : vS s b n = -1000001 := if_pos (Or.inl h)
theorem vS_b {s b n : Int32} (h : ¬ b = 0) (h1 : ¬ (b = 8 ∨ b = 16 ∨ b = 32)) : vS s b n = -1000001 := if_pos (Or.inr ⟨h, h1⟩)
theorem vS_0 {s b n : Int32} (h : ¬ (s < 0 ∨ 3 < s)) (h1 : b = 8 ∨ b = 16 ∨ b = 32) : ¬ ((s < 0 ∨ 3 < s) ∨ (¬ b = 0 ∧ ¬ (b = 8 ∨ b = 16 ∨ b = 32))) := fun q => q.elim h (fun q => q.2 h1)
theorem vS_c {s b n : Int32} (h : ¬ (s < 0 ∨ 3 < s)) (h1 : b = 8 ∨ b = 16 ∨ b = 32) (h2 : ¬ b = 0) (h3 : n < 0) : vS s b n = -1000003 := by
  unfold vS; rw [if_neg (vS_0 (n := n) h h1), if_pos ⟨h2, h3⟩]
theorem vS_d {s b n : Int32} (h : ¬ (s < 0 ∨ 3 < s)) (h1 : b = 8 ∨ b = 16 ∨ b = 32) (h2 : ¬ b = 0) (h3 : ¬ n < 0) (h4 : 24 < n) : vS s b n = -1000001 := by
  unfold vS; rw [if_neg (vS_0 (n := n) h h1), if_neg (fun q => h3 q.2), if_pos ⟨h2, h4⟩]
theorem vS_e {s b n : Int32} (h : ¬ (s < 0 ∨ 3 < s)) (h1 : b = 8 ∨ b = 16 ∨ b = 32) (h3 : ¬ n < 0) (h4 : ¬ 24 < n) : vS s b n = 1 := by
  unfold vS; rw [if_neg (vS_0 (n := n) h h1), if_neg (fun q => h3 q.2), if_neg (fun q => h4 q.2)]
theorem vS_f {s b n : Int32} (h : ¬ (s < 0 ∨ 3 < s)) (h1 : b = 0) : vS s b n = 1 := by
  unfold vS; rw [if_neg (fun q => q.elim h (fun q => q.1 h1)), if_neg (fun q => q.1 h1), if_neg (fun q => q.1 h1)]
theorem pm_hasS {x v : Int32} (h : v = if x < 0 ∨ 4 ≤ x then 0 else 1) : (v = 1 ∧ ¬ (x < 0 ∨ 3 < x)) ∨ (v = 0 ∧ (x < 0 ∨ 3 < x)) := by
  have e : (4 ≤ x) ↔ (3 < x) := by
    rw [Int32.le_iff_toInt_le, Int32.lt_iff_toInt_lt, show (4 : Int32).toInt = 4 by decide, show (3 : Int32).toInt = 3 by decide]; omega
  by_cases q : x < 0 ∨ 3 < x
  · rw [if_pos (q.imp id e.mpr)] at h; exact Or.inr ⟨h, q⟩
  · rw [if_neg (fun z => q (z.imp id e.mp))] at h; exact Or.inl ⟨h, q⟩
theorem pm_widS {x v : Int32} (h : v = if x = 8 ∨ x = 16 ∨ x = 32 then 1 else 0) : (v = 1 ∧ (x = 8 ∨ x = 16 ∨ x = 32)) ∨ (v = 0 ∧ ¬ (x = 8 ∨ x = 16 ∨ x = 32)) := by
  by_cases q : x = 8 ∨ x = 16 ∨ x = 32
  · rw [if_pos q] at h; exact Or.inl ⟨h, q⟩
  · rw [if_neg q] at h; exact Or.inr ⟨h, q⟩
/-! ===== sheets: what sheet, put and move answer, by bits and sizes ===== -/
def vbx (f : Nat → Int32) (x : Int32) : Int32 := if x < 0 ∨ 4 ≤ x then 0 else f x.toNatClampNeg
theorem ge4 {x : Int32} : (4 ≤ x) ↔ (3 < x) := by
  rw [Int32.le_iff_toInt_le, Int32.lt_iff_toInt_lt, show (4 : Int32).toInt = 4 by decide, show (3 : Int32).toInt = 3 by decide]; omega
theorem in4 {x : Int32} (h : ¬ (x < 0 ∨ 3 < x)) : x = 0 ∨ x = 1 ∨ x = 2 ∨ x = 3 := by
  have h1 : ¬ x < 0 := fun q => h (Or.inl q)
  have h2 : ¬ 3 < x := fun q => h (Or.inr q)
  have a1 : (0 : Int32).toInt = 0 := by decide
  have a2 : (3 : Int32).toInt = 3 := by decide
  simp only [Int32.lt_iff_toInt_lt, a1, a2] at h1 h2
  rcases (show x.toInt = 0 ∨ x.toInt = 1 ∨ x.toInt = 2 ∨ x.toInt = 3 by omega) with q | q | q | q
  · exact Or.inl (Int32.toInt_inj.mp (q.trans (by decide)))
  · exact Or.inr (Or.inl (Int32.toInt_inj.mp (q.trans (by decide))))
  · exact Or.inr (Or.inr (Or.inl (Int32.toInt_inj.mp (q.trans (by decide)))))
  · exact Or.inr (Or.inr (Or.inr (Int32.toInt_inj.mp (q.trans (by decide)))))
theorem vbx_c {f g : Nat → Int32} (h : ∀ s : Nat, s < 4 → f s = g s) (x : Int32) : vbx f x = vbx g x := by
  unfold vbx
  by_cases q : x < 0 ∨ 4 ≤ x
  · rw [if_pos q, if_pos q]
  · rw [if_neg q, if_neg q]
    rcases in4 (fun z => q (z.imp id ge4.mpr)) with rfl | rfl | rfl | rfl
    · exact h 0 (by decide)
    · exact h 1 (by decide)
    · exact h 2 (by decide)
    · exact h 3 (by decide)
theorem vbx_k {f : Nat → Int32} {x : Int32} {k : Nat} (e : x = nI k) (hk : k < 4) : vbx f x = f k := by
  subst e
  unfold vbx
  rw [if_neg, nI_clamp (by omega)]
  rintro (q | q)
  · exact nI_pos (by omega) q
  · have h2 := (nI_leI (a := 4) (by decide) (by omega)).mp q
    omega
def vP (s i b z : Int32) : Int32 := if s < 0 ∨ 3 < s then -1000001 else if b = 0 then -1000002 else if i < 0 ∨ z ≤ i then -1000001 else 1
theorem vP_a {s i b z : Int32} (h : s < 0 ∨ 3 < s) : vP s i b z = -1000001 := if_pos h
theorem vP_b {s i b z : Int32} (h : ¬ (s < 0 ∨ 3 < s)) (h1 : b = 0) : vP s i b z = -1000002 := by
  unfold vP; rw [if_neg h, if_pos h1]
theorem vP_c {s i b z : Int32} (h : ¬ (s < 0 ∨ 3 < s)) (h1 : ¬ b = 0) (h2 : i < 0 ∨ z ≤ i) : vP s i b z = -1000001 := by
  unfold vP; rw [if_neg h, if_neg h1, if_pos h2]
theorem vP_d {s i b z : Int32} (h : ¬ (s < 0 ∨ 3 < s)) (h1 : ¬ b = 0) (h2 : ¬ (i < 0 ∨ z ≤ i)) : vP s i b z = 1 := by
  unfold vP; rw [if_neg h, if_neg h1, if_neg h2]
abbrev stO (z i n : Int32) : Prop := i < 0 ∨ n < 0 ∨ z < n ∨ z - n < i
theorem stO_b {z i n v : Int32} (h : v = (if i < 0 ∨ n < 0 ∨ z < n ∨ z - n < i then 0 else 1)) : (v = 1 ∧ ¬ stO z i n) ∨ (v = 0 ∧ stO z i n) := by
  by_cases q : i < 0 ∨ n < 0 ∨ z < n ∨ z - n < i
  · rw [if_pos q] at h; exact Or.inr ⟨h, q⟩
  · rw [if_neg q] at h; exact Or.inl ⟨h, q⟩
def vM (s i t j n b c z w : Int32) : Int32 := if (s < 0 ∨ 3 < s) ∨ (t < 0 ∨ 3 < t) then -1000001 else if b = 0 ∨ c = 0 then -1000002 else if ¬ b = c then -1000005 else if stO z i n ∨ stO w j n then -1000001 else n
theorem vM_a {s i t j n b c z w : Int32} (h : (s < 0 ∨ 3 < s) ∨ (t < 0 ∨ 3 < t)) : vM s i t j n b c z w = -1000001 := by
  unfold vM; rw [if_pos h]
theorem vM_b {s i t j n b c z w : Int32} (h : ¬ (s < 0 ∨ 3 < s)) (h' : ¬ (t < 0 ∨ 3 < t)) (h1 : b = 0 ∨ c = 0) : vM s i t j n b c z w = -1000002 := by
  unfold vM; rw [if_neg (fun q => q.elim h h'), if_pos h1]
theorem vM_c {s i t j n b c z w : Int32} (h : ¬ (s < 0 ∨ 3 < s)) (h' : ¬ (t < 0 ∨ 3 < t)) (h1 : ¬ b = 0) (h1' : ¬ c = 0) (h2 : ¬ b = c) : vM s i t j n b c z w = -1000005 := by
  unfold vM; rw [if_neg (fun q => q.elim h h'), if_neg (fun q => q.elim h1 h1'), if_pos h2]
theorem vM_d {s i t j n b c z w : Int32} (h : ¬ (s < 0 ∨ 3 < s)) (h' : ¬ (t < 0 ∨ 3 < t)) (h1 : ¬ b = 0) (h1' : ¬ c = 0) (h2 : b = c) (h3 : stO z i n ∨ stO w j n) : vM s i t j n b c z w = -1000001 := by
  unfold vM; rw [if_neg (fun q => q.elim h h'), if_neg (fun q => q.elim h1 h1'), if_neg (fun q => q h2), if_pos h3]
theorem vM_e {s i t j n b c z w : Int32} (h : ¬ (s < 0 ∨ 3 < s)) (h' : ¬ (t < 0 ∨ 3 < t)) (h1 : ¬ b = 0) (h1' : ¬ c = 0) (h2 : b = c) (h3 : ¬ stO z i n) (h4 : ¬ stO w j n) : vM s i t j n b c z w = n := by
  unfold vM; rw [if_neg (fun q => q.elim h h'), if_neg (fun q => q.elim h1 h1'), if_neg (fun q => q h2), if_neg (fun q => q.elim h3 h4)]
theorem b10 {b v : Int32} (h : v = (if b = 0 then 1 else 0)) : (v = 1 ∧ b = 0) ∨ (v = 0 ∧ ¬ b = 0) := by
  by_cases q : b = 0
  · rw [if_pos q] at h; exact Or.inl ⟨h, q⟩
  · rw [if_neg q] at h; exact Or.inr ⟨h, q⟩
theorem pm_hasO {x v : Int32} (h : v = if x < 0 ∨ 4 ≤ x then 0 else 1) (hS : x < 0 ∨ 3 < x) : v = 0 := (pm_hasS h).elim (fun q => absurd hS q.2) (fun q => q.1)
def tSh (c : Nat) (ε : Nat → Int32) (s b n : Int32) : Nat → Int32 := if vS s b n = 1 then ui (ui ε (200 + c) b) (204 + c) (if b = 0 then 0 else n) else ε
theorem tSh_n {c : Nat} {ε : Nat → Int32} {s b n x : Int32} (h : vS s b n = x) (hx : ¬ x = 1) : tSh c ε s b n = ε := if_neg (by rw [h]; exact hx)
theorem tSh_0 {c : Nat} {ε : Nat → Int32} {s b n : Int32} (h : vS s b n = 1) (hb : b = 0) : tSh c ε s b n = ui (ui ε (200 + c) b) (204 + c) 0 := by
  unfold tSh; rw [if_pos h, if_pos hb]
theorem tSh_1 {c : Nat} {ε : Nat → Int32} {s b n : Int32} (h : vS s b n = 1) (hb : ¬ b = 0) : tSh c ε s b n = ui (ui ε (200 + c) b) (204 + c) n := by
  unfold tSh; rw [if_pos h, if_neg hb]
def bS (ε : Nat → Int32) : Nat → Int32 := pm4 (ε 200) (ε 201) (ε 202) (ε 203)
def zS (ε : Nat → Int32) : Nat → Int32 := pm4 (ε 204) (ε 205) (ε 206) (ε 207)
theorem gq.b {ε I : Nat → Int32} (h : gq ε I) : pm4 (I 200) (I 201) (I 202) (I 203) = bS ε := by
  unfold bS; rw [h.2 200 (by decide), h.2 201 (by decide), h.2 202 (by decide), h.2 203 (by decide)]
theorem gq.z {ε I : Nat → Int32} (h : gq ε I) : pm4 (I 204) (I 205) (I 206) (I 207) = zS ε := by
  unfold zS; rw [h.2 204 (by decide), h.2 205 (by decide), h.2 206 (by decide), h.2 207 (by decide)]

set_option maxRecDepth 100000 in
theorem sxe_has {d B cnt : Nat} {σ : pm_S} {x : Int32} : pm_met mX8_has d 0 0 B [.ref (B + 48), .int x] cnt σ (pm_Qi (fun v σ' cnt' => v = (if x < 0 ∨ 4 ≤ x then 0 else 1) ∧ σ' = σ ∧ cnt' = cnt)) := by
  refine pm_enter 0 (by decide) (Nat.le_of_ble_eq_true rfl) rfl (fun G hG hR hF => ?_)
  refine pm_iloadn hG dX8_has_0 rfl ?_
  refine pm_if_lt (tgt := 13) hG dX8_has_1 rfl (fun c1 => ?_) (fun c1 => ?_)
  · refine pm_iconst (v := 0) hG dX8_has_13 (by decide) ?_
    exact pm_zret hG hF dX8_has_14 rfl (by rfl) (by decide) (by decide) ⟨_, rfl, by simp [c1], rfl, rfl⟩
  · refine pm_iloadn hG dX8_has_4 rfl ?_
    refine pm_iconst (v := 4) hG dX8_has_5 (by decide) ?_
    refine pm_icmp_ge (tgt := 13) hG dX8_has_6 rfl (fun c2 => ?_) (fun c2 => ?_)
    · refine pm_iconst (v := 0) hG dX8_has_13 (by decide) ?_
      exact pm_zret hG hF dX8_has_14 rfl (by rfl) (by decide) (by decide) ⟨_, rfl, by simp [c1, c2], rfl, rfl⟩
    · refine pm_iconst (v := 1) hG dX8_has_9 (by decide) ?_
      refine pm_goto (tgt := 14) hG dX8_has_10 rfl ?_
      exact pm_zret hG hF dX8_has_14 rfl (by rfl) (by decide) (by decide) ⟨_, rfl, by simp [c1, c2], rfl, rfl⟩

set_option maxRecDepth 100000 in
theorem sxe_isWidth {d B cnt : Nat} {σ : pm_S} {x : Int32} : pm_met mX8_isWidth d 0 0 B [.ref (B + 48), .int x] cnt σ (pm_Qi (fun v σ' cnt' => v = (if x = 8 ∨ x = 16 ∨ x = 32 then 1 else 0) ∧ σ' = σ ∧ cnt' = cnt)) := by
  refine pm_enter 0 (by decide) (Nat.le_of_ble_eq_true rfl) rfl (fun G hG hR hF => ?_)
  refine pm_iloadn hG dX8_isWidth_0 rfl ?_
  refine pm_bipush (v := 8) hG dX8_isWidth_1 (by decide) ?_
  refine pm_icmp_eq (tgt := 18) hG dX8_isWidth_3 rfl (fun c1 => ?_) (fun c1 => ?_)
  · refine pm_iconst (v := 1) hG dX8_isWidth_18 (by decide) ?_
    refine pm_goto (tgt := 23) hG dX8_isWidth_19 rfl ?_
    exact pm_zret hG hF dX8_isWidth_23 rfl (by rfl) (by decide) (by decide) ⟨_, rfl, by simp [c1], rfl, rfl⟩
  · refine pm_iloadn hG dX8_isWidth_6 rfl ?_
    refine pm_bipush (v := 16) hG dX8_isWidth_7 (by decide) ?_
    refine pm_icmp_eq (tgt := 18) hG dX8_isWidth_9 rfl (fun c2 => ?_) (fun c2 => ?_)
    · refine pm_iconst (v := 1) hG dX8_isWidth_18 (by decide) ?_
      refine pm_goto (tgt := 23) hG dX8_isWidth_19 rfl ?_
      exact pm_zret hG hF dX8_isWidth_23 rfl (by rfl) (by decide) (by decide) ⟨_, rfl, by simp [c1, c2], rfl, rfl⟩
    · refine pm_iloadn hG dX8_isWidth_12 rfl ?_
      refine pm_bipush (v := 32) hG dX8_isWidth_13 (by decide) ?_
      refine pm_icmp_ne (tgt := 22) hG dX8_isWidth_15 rfl (fun c3 => ?_) (fun c3 => ?_)
      · refine pm_iconst (v := 0) hG dX8_isWidth_22 (by decide) ?_
        exact pm_zret hG hF dX8_isWidth_23 rfl (by rfl) (by decide) (by decide) ⟨_, rfl, by simp [c1, c2, c3], rfl, rfl⟩
      · refine pm_iconst (v := 1) hG dX8_isWidth_18 (by decide) ?_
        refine pm_goto (tgt := 23) hG dX8_isWidth_19 rfl ?_
        exact pm_zret hG hF dX8_isWidth_23 rfl (by rfl) (by decide) (by decide) ⟨_, rfl, by simp [c1, c2, c3], rfl, rfl⟩

set_option maxRecDepth 100000 in
theorem sxe_bitsOf {d B cnt : Nat} {σ : pm_S} {f : Nat → Int32} {x : Int32} (h48 : σ 48 = some (.inr (8, [.ref (B + 49), .ref (B + 50), .ref (B + 51)]))) (hf : σ 49 = some (.inl (4, f))) : pm_met mX8_bitsOf d 0 0 B [.ref (B + 48), .int x] cnt σ (pm_Qi (fun v σ' cnt' => v = vbx f x ∧ σ' = σ ∧ cnt' = cnt)) := by
  refine pm_enter 0 (by decide) (Nat.le_of_ble_eq_true rfl) rfl (fun G hG hR hF => ?_)
  refine pm_iloadn hG dX8_bitsOf_0 rfl ?_
  refine pm_if_lt (tgt := 22) hG dX8_bitsOf_1 rfl (fun c1 => ?_) (fun c1 => ?_)
  · refine pm_iconst (v := 0) hG dX8_bitsOf_22 (by decide) ?_
    exact pm_iret hG hF dX8_bitsOf_23 rfl (by decide) (by decide) ⟨_, rfl, (if_pos (Or.inl c1)).symm, rfl, rfl⟩
  · refine pm_iloadn hG dX8_bitsOf_4 rfl ?_
    refine pm_aloadn hG dX8_bitsOf_5 rfl ?_
    refine pm_getf hG dX8_bitsOf_6 (flX8_9 _ rfl) h48 rfl ?_
    refine pm_alen (v := 4) hG dX8_bitsOf_9 hf (by decide) ?_
    refine pm_icmp_ge (tgt := 22) hG dX8_bitsOf_10 rfl (fun c2 => ?_) (fun c2 => ?_)
    · refine pm_iconst (v := 0) hG dX8_bitsOf_22 (by decide) ?_
      exact pm_iret hG hF dX8_bitsOf_23 rfl (by decide) (by decide) ⟨_, rfl, (if_pos (Or.inr c2)).symm, rfl, rfl⟩
    · refine pm_aloadn hG dX8_bitsOf_13 rfl ?_
      refine pm_getf hG dX8_bitsOf_14 (flX8_9 _ rfl) h48 rfl ?_
      refine pm_iloadn hG dX8_bitsOf_17 rfl ?_
      refine pm_iald hG dX8_bitsOf_18 hf (pm_ib2 rfl c1 c2) ?_
      refine pm_goto (tgt := 23) hG dX8_bitsOf_19 rfl ?_
      exact pm_iret hG hF dX8_bitsOf_23 rfl (by decide) (by decide) ⟨_, rfl, (if_neg (fun q => q.elim c1 c2)).symm, rfl, rfl⟩

set_option maxRecDepth 100000 in
theorem sxe_sizeOf {d B cnt : Nat} {σ : pm_S} {f : Nat → Int32} {x : Int32} (h48 : σ 48 = some (.inr (8, [.ref (B + 49), .ref (B + 50), .ref (B + 51)]))) (hf : σ 50 = some (.inl (4, f))) : pm_met mX8_sizeOf d 0 0 B [.ref (B + 48), .int x] cnt σ (pm_Qi (fun v σ' cnt' => v = vbx f x ∧ σ' = σ ∧ cnt' = cnt)) := by
  refine pm_enter 0 (by decide) (Nat.le_of_ble_eq_true rfl) rfl (fun G hG hR hF => ?_)
  refine pm_iloadn hG dX8_sizeOf_0 rfl ?_
  refine pm_if_lt (tgt := 22) hG dX8_sizeOf_1 rfl (fun c1 => ?_) (fun c1 => ?_)
  · refine pm_iconst (v := 0) hG dX8_sizeOf_22 (by decide) ?_
    exact pm_iret hG hF dX8_sizeOf_23 rfl (by decide) (by decide) ⟨_, rfl, (if_pos (Or.inl c1)).symm, rfl, rfl⟩
  · refine pm_iloadn hG dX8_sizeOf_4 rfl ?_
    refine pm_aloadn hG dX8_sizeOf_5 rfl ?_
    refine pm_getf hG dX8_sizeOf_6 (flX8_15 _ rfl) h48 rfl ?_
    refine pm_alen (v := 4) hG dX8_sizeOf_9 hf (by decide) ?_
    refine pm_icmp_ge (tgt := 22) hG dX8_sizeOf_10 rfl (fun c2 => ?_) (fun c2 => ?_)
    · refine pm_iconst (v := 0) hG dX8_sizeOf_22 (by decide) ?_
      exact pm_iret hG hF dX8_sizeOf_23 rfl (by decide) (by decide) ⟨_, rfl, (if_pos (Or.inr c2)).symm, rfl, rfl⟩
    · refine pm_aloadn hG dX8_sizeOf_13 rfl ?_
      refine pm_getf hG dX8_sizeOf_14 (flX8_15 _ rfl) h48 rfl ?_
      refine pm_iloadn hG dX8_sizeOf_17 rfl ?_
      refine pm_iald hG dX8_sizeOf_18 hf (pm_ib2 rfl c1 c2) ?_
      refine pm_goto (tgt := 23) hG dX8_sizeOf_19 rfl ?_
      exact pm_iret hG hF dX8_sizeOf_23 rfl (by decide) (by decide) ⟨_, rfl, (if_neg (fun q => q.elim c1 c2)).symm, rfl, rfl⟩

set_option maxRecDepth 100000 in
theorem sxe_isMissing {d B cnt : Nat} {σ : pm_S} {f : Nat → Int32} {x : Int32} (hdd : 1 ≤ d) (h48 : σ 48 = some (.inr (8, [.ref (B + 49), .ref (B + 50), .ref (B + 51)]))) (hf : σ 49 = some (.inl (4, f))) : pm_met mX8_isMissing d 0 0 B [.ref (B + 48), .int x] cnt σ (pm_Qi (fun v σ' cnt' => v = (if vbx f x = 0 then 1 else 0) ∧ σ' = σ ∧ cnt' = cnt)) := by
  refine pm_enter 0 (by decide) (Nat.le_of_ble_eq_true rfl) rfl (fun G hG hR hF => ?_)
  refine pm_aloadn hG dX8_isMissing_0 rfl ?_
  refine pm_iloadn hG dX8_isMissing_1 rfl ?_
  refine pm_callV (As := [.int x]) (rest := []) hG hR dX8_isMissing_2 (lkX8_27 _ rfl) okV_X8_bitsOf h48 rfl (sxe_bitsOf (d := 0) h48 hf) rfl rfl hdd (Nat.le_refl _) (Nat.le_refl _) (by decide) (pm_ki (fun v1 σ' cnt' hq => ?_))
  obtain ⟨rfl, rfl, rfl⟩ := hq
  refine pm_if_ne (tgt := 12) hG dX8_isMissing_5 rfl (fun c2 => ?_) (fun c2 => ?_)
  · refine pm_iconst (v := 0) hG dX8_isMissing_12 (by decide) ?_
    exact pm_zret hG hF dX8_isMissing_13 rfl (by rfl) (by decide) (by decide) ⟨_, rfl, (if_neg c2).symm, rfl, rfl⟩
  · refine pm_iconst (v := 1) hG dX8_isMissing_8 (by decide) ?_
    refine pm_goto (tgt := 13) hG dX8_isMissing_9 rfl ?_
    exact pm_zret hG hF dX8_isMissing_13 rfl (by rfl) (by decide) (by decide) ⟨_, rfl, (if_pos c2).symm, rfl, rfl⟩

set_option maxRecDepth 100000 in
theorem sxe_stand {d B cnt : Nat} {σ : pm_S} {f : Nat → Int32} {x i n : Int32} (hdd : 1 ≤ d) (h48 : σ 48 = some (.inr (8, [.ref (B + 49), .ref (B + 50), .ref (B + 51)]))) (hf : σ 50 = some (.inl (4, f))) : pm_met mX8_stand d 0 0 B [.ref (B + 48), .int x, .int i, .int n] cnt σ (pm_Qi (fun v σ' cnt' => v = (if i < 0 ∨ n < 0 ∨ vbx f x < n ∨ vbx f x - n < i then 0 else 1) ∧ σ' = σ ∧ cnt' = cnt)) := by
  refine pm_enter 0 (by decide) (Nat.le_of_ble_eq_true rfl) rfl (fun G hG hR hF => ?_)
  refine pm_iloadn hG dX8_stand_0 rfl ?_
  refine pm_if_lt (tgt := 32) hG dX8_stand_1 rfl (fun c1 => ?_) (fun c1 => ?_)
  · refine pm_iconst (v := 0) hG dX8_stand_32 (by decide) ?_
    exact pm_zret hG hF dX8_stand_33 rfl (by rfl) (by decide) (by decide) ⟨_, rfl, (if_pos (Or.inl c1)).symm, rfl, rfl⟩
  · refine pm_iloadn hG dX8_stand_4 rfl ?_
    refine pm_if_lt (tgt := 32) hG dX8_stand_5 rfl (fun c2 => ?_) (fun c2 => ?_)
    · refine pm_iconst (v := 0) hG dX8_stand_32 (by decide) ?_
      exact pm_zret hG hF dX8_stand_33 rfl (by rfl) (by decide) (by decide) ⟨_, rfl, (if_pos (Or.inr (Or.inl c2))).symm, rfl, rfl⟩
    · refine pm_iloadn hG dX8_stand_8 rfl ?_
      refine pm_aloadn hG dX8_stand_9 rfl ?_
      refine pm_iloadn hG dX8_stand_10 rfl ?_
      refine pm_callV (As := [.int x]) (rest := [.int n]) hG hR dX8_stand_11 (lkX8_39 _ rfl) okV_X8_sizeOf h48 rfl (sxe_sizeOf (d := 0) h48 hf) rfl rfl hdd (Nat.le_refl _) (Nat.le_refl _) (by first | decide | exact Nat.le_of_ble_eq_true rfl) (pm_ki (fun v3 σ' cnt' hq => ?_))
      obtain ⟨rfl, rfl, rfl⟩ := hq
      refine pm_icmp_gt (tgt := 32) hG dX8_stand_14 rfl (fun c4 => ?_) (fun c4 => ?_)
      · refine pm_iconst (v := 0) hG dX8_stand_32 (by decide) ?_
        exact pm_zret hG hF dX8_stand_33 rfl (by rfl) (by decide) (by decide) ⟨_, rfl, (if_pos (Or.inr (Or.inr (Or.inl c4)))).symm, rfl, rfl⟩
      · refine pm_iloadn hG dX8_stand_17 rfl ?_
        refine pm_aloadn hG dX8_stand_18 rfl ?_
        refine pm_iloadn hG dX8_stand_19 rfl ?_
        refine pm_callV (As := [.int x]) (rest := [.int i]) hG hR dX8_stand_20 (lkX8_39 _ rfl) okV_X8_sizeOf h48 rfl (sxe_sizeOf (d := 0) h48 hf) rfl rfl hdd (Nat.le_refl _) (Nat.le_refl _) (by first | decide | exact Nat.le_of_ble_eq_true rfl) (pm_ki (fun v5 σ' cnt' hq => ?_))
        obtain ⟨rfl, rfl, rfl⟩ := hq
        refine pm_iloadn hG dX8_stand_23 rfl ?_
        refine pm_isub hG dX8_stand_24 ?_
        refine pm_icmp_gt (tgt := 32) hG dX8_stand_25 rfl (fun c6 => ?_) (fun c6 => ?_)
        · refine pm_iconst (v := 0) hG dX8_stand_32 (by decide) ?_
          exact pm_zret hG hF dX8_stand_33 rfl (by rfl) (by decide) (by decide) ⟨_, rfl, (if_pos (Or.inr (Or.inr (Or.inr (c6))))).symm, rfl, rfl⟩
        · refine pm_iconst (v := 1) hG dX8_stand_28 (by decide) ?_
          refine pm_goto (tgt := 33) hG dX8_stand_29 rfl ?_
          exact pm_zret hG hF dX8_stand_33 rfl (by rfl) (by decide) (by decide) ⟨_, rfl, (if_neg (fun q => q.elim c1 (fun q => q.elim c2 (fun q => q.elim c4 c6)))).symm, rfl, rfl⟩

set_option maxRecDepth 100000 in
set_option maxHeartbeats 4000000 in
theorem g_layOutE0 {ε : Nat → Int32} {d B cnt : Nat} {kp : Value} {ρ : pm_S} {I : Nat → Int32} {A : Nat → Nat → Int32} (hdd : 1 ≤ d) {zb zc : Int32} (h : gq ε I) : pm_met mX8_layOut d 0 0 B [.ref (B + 48), .int 0, .int zb, .int zc] cnt (pm_two (cl_L B kp I A) ρ) (pm_Qv (fun σ' cnt' => hvq (ui (ui ε 200 zb) 204 zc) B kp ρ cnt σ' cnt')) := by
  refine pm_enter 1 (by decide) (Nat.le_of_ble_eq_true rfl) rfl (fun G hG hR hF => ?_)
  refine pm_iloadn hG dX8_layOut_0 rfl ?_
  refine pm_if_lt (tgt := 36) hG dX8_layOut_1 rfl (fun q => absurd q (by decide)) (fun _ => ?_)
  refine pm_iloadn hG dX8_layOut_4 rfl ?_
  refine pm_aloadn hG dX8_layOut_5 rfl ?_
  refine pm_getf hG dX8_layOut_6 (flX8_9 _ rfl) rfl rfl ?_
  refine pm_alen (v := 4) hG dX8_layOut_9 rfl (by decide) ?_
  refine pm_icmp_ge (tgt := 36) hG dX8_layOut_10 rfl (fun q => absurd q (by decide)) (fun _ => ?_)
  refine pm_iloadn hG dX8_layOut_13 rfl ?_
  refine pm_aloadn hG dX8_layOut_14 rfl ?_
  refine pm_getf hG dX8_layOut_15 (flX8_15 _ rfl) rfl rfl ?_
  refine pm_alen (v := 4) hG dX8_layOut_18 rfl (by decide) ?_
  refine pm_icmp_ge (tgt := 36) hG dX8_layOut_19 rfl (fun q => absurd q (by decide)) (fun _ => ?_)
  refine pm_aloadn hG dX8_layOut_22 rfl ?_
  refine pm_getf hG dX8_layOut_23 (flX8_9 _ rfl) rfl rfl ?_
  refine pm_iloadn hG dX8_layOut_26 rfl ?_
  refine pm_iloadn hG dX8_layOut_27 rfl ?_
  refine pm_iast hG dX8_layOut_28 rfl (pm_inb (by decide)) ?_
  refine nt49_0 (by decide) ?_
  refine pm_aloadn hG dX8_layOut_29 rfl ?_
  refine pm_getf hG dX8_layOut_30 (flX8_15 _ rfl) rfl rfl ?_
  refine pm_iloadn hG dX8_layOut_33 rfl ?_
  refine pm_iloadn hG dX8_layOut_34 rfl ?_
  refine pm_iast hG dX8_layOut_35 rfl (pm_inb (by decide)) ?_
  refine nt50_0 (by decide) ?_
  refine pm_iconst (v := 0) hG dX8_layOut_36 (by decide) ?_
  refine pm_istoreXi (loc' := [some (.ref (B + 48)), some (.int 0), some (.int zb), some (.int zc), some (.int 0)]) hG dX8_layOut_37 (by decide) (pm_c1b rfl) rfl ?_
  have loop39 : ∀ (m39 : Nat) (I3 : Nat → Int32) (A3 : Nat → Nat → Int32) (x3_4 : Int32), gq (ui (ui ε 200 zb) 204 zc) I3 → (¬ x3_4 < 0) → ((24 : Int32).toInt - x3_4.toInt).toNat < m39 → pm_wp mX8_layOut G B 39 [some (.ref (B + 48)), some (.int 0), some (.int zb), some (.int zc), some (.int x3_4)] [] 0 0 cnt (pm_two (cl_L B kp I3 A3) ρ) := by
    intro m39
    induction m39 with
    | zero => intro I3 A3 x3_4 _  _ hm; exact absurd hm (Nat.not_lt_zero _)
    | succ m39 ih39 =>
      intro I3 A3 x3_4 h3 s39 hm39
      refine pm_iloadi hG dX8_layOut_39 rfl ?_
      refine pm_bipush (v := 24) hG dX8_layOut_41 (by decide) ?_
      refine pm_icmp_ge (tgt := 63) hG dX8_layOut_43 rfl (fun c4 => ?_) (fun c4 => ?_)
      · exact pm_vret hG hF dX8_layOut_63 rfl (Nat.le_refl _) (Nat.le_refl _) ⟨rfl, _, _, rfl, rfl, h3⟩
      · refine pm_aloadn hG dX8_layOut_46 rfl ?_
        refine pm_getf hG dX8_layOut_47 (flX8_23 _ rfl) rfl rfl ?_
        refine pm_iloadn hG dX8_layOut_50 rfl ?_
        refine pm_iloadi hG dX8_layOut_51 rfl ?_
        refine pm_iconst (v := 0) hG dX8_layOut_53 (by decide) ?_
        refine pm_callV (As := [.int 0, .int x3_4, .int 0]) (rest := []) hG hR dX8_layOut_54 (lkX8_31 _ rfl) okV_X9_set rfl rfl (tb_set (d := 0) rfl rfl (pm_tw_of 4 24 (by decide) (by decide) (by decide)) (by decide)) rfl rfl hdd (Nat.le_refl _) (Nat.le_refl _) (by decide) (pm_kv (fun σ' cnt' hq => ?_))
        obtain ⟨I5, A5, rfl, rfl, h5⟩ := hv_a52 (kp := kp) (I := I3) (A := A3) h3 hq
        refine pm_iincX (v := x3_4 + 1) (loc' := [some (.ref (B + 48)), some (.int 0), some (.int zb), some (.int zc), some (.int (x3_4 + 1))]) hG dX8_layOut_57 rfl (by rfl) (by decide) (pm_c1b rfl) rfl ?_
        refine pm_goto (tgt := 39) hG dX8_layOut_60 rfl ?_
        exact ih39 _ _ (x3_4 + 1) h5 (pm_sd1 c4 s39) (Nat.lt_of_lt_of_le (pm_mu1 c4) (Nat.le_of_lt_succ hm39))
  exact loop39 _ _ _ 0 (gq.st (k := 204) rfl (gq.st (k := 200) rfl h)) (by decide) (Nat.lt_succ_self _)

set_option maxRecDepth 100000 in
set_option maxHeartbeats 4000000 in
theorem g_layOutE1 {ε : Nat → Int32} {d B cnt : Nat} {kp : Value} {ρ : pm_S} {I : Nat → Int32} {A : Nat → Nat → Int32} (hdd : 1 ≤ d) {zb zc : Int32} (h : gq ε I) : pm_met mX8_layOut d 0 0 B [.ref (B + 48), .int 1, .int zb, .int zc] cnt (pm_two (cl_L B kp I A) ρ) (pm_Qv (fun σ' cnt' => hvq (ui (ui ε 201 zb) 205 zc) B kp ρ cnt σ' cnt')) := by
  refine pm_enter 1 (by decide) (Nat.le_of_ble_eq_true rfl) rfl (fun G hG hR hF => ?_)
  refine pm_iloadn hG dX8_layOut_0 rfl ?_
  refine pm_if_lt (tgt := 36) hG dX8_layOut_1 rfl (fun q => absurd q (by decide)) (fun _ => ?_)
  refine pm_iloadn hG dX8_layOut_4 rfl ?_
  refine pm_aloadn hG dX8_layOut_5 rfl ?_
  refine pm_getf hG dX8_layOut_6 (flX8_9 _ rfl) rfl rfl ?_
  refine pm_alen (v := 4) hG dX8_layOut_9 rfl (by decide) ?_
  refine pm_icmp_ge (tgt := 36) hG dX8_layOut_10 rfl (fun q => absurd q (by decide)) (fun _ => ?_)
  refine pm_iloadn hG dX8_layOut_13 rfl ?_
  refine pm_aloadn hG dX8_layOut_14 rfl ?_
  refine pm_getf hG dX8_layOut_15 (flX8_15 _ rfl) rfl rfl ?_
  refine pm_alen (v := 4) hG dX8_layOut_18 rfl (by decide) ?_
  refine pm_icmp_ge (tgt := 36) hG dX8_layOut_19 rfl (fun q => absurd q (by decide)) (fun _ => ?_)
  refine pm_aloadn hG dX8_layOut_22 rfl ?_
  refine pm_getf hG dX8_layOut_23 (flX8_9 _ rfl) rfl rfl ?_
  refine pm_iloadn hG dX8_layOut_26 rfl ?_
  refine pm_iloadn hG dX8_layOut_27 rfl ?_
  refine pm_iast hG dX8_layOut_28 rfl (pm_inb (by decide)) ?_
  refine nt49_1 (by decide) ?_
  refine pm_aloadn hG dX8_layOut_29 rfl ?_
  refine pm_getf hG dX8_layOut_30 (flX8_15 _ rfl) rfl rfl ?_
  refine pm_iloadn hG dX8_layOut_33 rfl ?_
  refine pm_iloadn hG dX8_layOut_34 rfl ?_
  refine pm_iast hG dX8_layOut_35 rfl (pm_inb (by decide)) ?_
  refine nt50_1 (by decide) ?_
  refine pm_iconst (v := 0) hG dX8_layOut_36 (by decide) ?_
  refine pm_istoreXi (loc' := [some (.ref (B + 48)), some (.int 1), some (.int zb), some (.int zc), some (.int 0)]) hG dX8_layOut_37 (by decide) (pm_c1b rfl) rfl ?_
  have loop39 : ∀ (m39 : Nat) (I3 : Nat → Int32) (A3 : Nat → Nat → Int32) (x3_4 : Int32), gq (ui (ui ε 201 zb) 205 zc) I3 → (¬ x3_4 < 0) → ((24 : Int32).toInt - x3_4.toInt).toNat < m39 → pm_wp mX8_layOut G B 39 [some (.ref (B + 48)), some (.int 1), some (.int zb), some (.int zc), some (.int x3_4)] [] 0 0 cnt (pm_two (cl_L B kp I3 A3) ρ) := by
    intro m39
    induction m39 with
    | zero => intro I3 A3 x3_4 _  _ hm; exact absurd hm (Nat.not_lt_zero _)
    | succ m39 ih39 =>
      intro I3 A3 x3_4 h3 s39 hm39
      refine pm_iloadi hG dX8_layOut_39 rfl ?_
      refine pm_bipush (v := 24) hG dX8_layOut_41 (by decide) ?_
      refine pm_icmp_ge (tgt := 63) hG dX8_layOut_43 rfl (fun c4 => ?_) (fun c4 => ?_)
      · exact pm_vret hG hF dX8_layOut_63 rfl (Nat.le_refl _) (Nat.le_refl _) ⟨rfl, _, _, rfl, rfl, h3⟩
      · refine pm_aloadn hG dX8_layOut_46 rfl ?_
        refine pm_getf hG dX8_layOut_47 (flX8_23 _ rfl) rfl rfl ?_
        refine pm_iloadn hG dX8_layOut_50 rfl ?_
        refine pm_iloadi hG dX8_layOut_51 rfl ?_
        refine pm_iconst (v := 0) hG dX8_layOut_53 (by decide) ?_
        refine pm_callV (As := [.int 1, .int x3_4, .int 0]) (rest := []) hG hR dX8_layOut_54 (lkX8_31 _ rfl) okV_X9_set rfl rfl (tb_set (d := 0) rfl rfl (pm_tw_of 4 24 (by decide) (by decide) (by decide)) (by decide)) rfl rfl hdd (Nat.le_refl _) (Nat.le_refl _) (by decide) (pm_kv (fun σ' cnt' hq => ?_))
        obtain ⟨I5, A5, rfl, rfl, h5⟩ := hv_a52 (kp := kp) (I := I3) (A := A3) h3 hq
        refine pm_iincX (v := x3_4 + 1) (loc' := [some (.ref (B + 48)), some (.int 1), some (.int zb), some (.int zc), some (.int (x3_4 + 1))]) hG dX8_layOut_57 rfl (by rfl) (by decide) (pm_c1b rfl) rfl ?_
        refine pm_goto (tgt := 39) hG dX8_layOut_60 rfl ?_
        exact ih39 _ _ (x3_4 + 1) h5 (pm_sd1 c4 s39) (Nat.lt_of_lt_of_le (pm_mu1 c4) (Nat.le_of_lt_succ hm39))
  exact loop39 _ _ _ 0 (gq.st (k := 205) rfl (gq.st (k := 201) rfl h)) (by decide) (Nat.lt_succ_self _)

set_option maxRecDepth 100000 in
set_option maxHeartbeats 4000000 in
theorem g_layOutE2 {ε : Nat → Int32} {d B cnt : Nat} {kp : Value} {ρ : pm_S} {I : Nat → Int32} {A : Nat → Nat → Int32} (hdd : 1 ≤ d) {zb zc : Int32} (h : gq ε I) : pm_met mX8_layOut d 0 0 B [.ref (B + 48), .int 2, .int zb, .int zc] cnt (pm_two (cl_L B kp I A) ρ) (pm_Qv (fun σ' cnt' => hvq (ui (ui ε 202 zb) 206 zc) B kp ρ cnt σ' cnt')) := by
  refine pm_enter 1 (by decide) (Nat.le_of_ble_eq_true rfl) rfl (fun G hG hR hF => ?_)
  refine pm_iloadn hG dX8_layOut_0 rfl ?_
  refine pm_if_lt (tgt := 36) hG dX8_layOut_1 rfl (fun q => absurd q (by decide)) (fun _ => ?_)
  refine pm_iloadn hG dX8_layOut_4 rfl ?_
  refine pm_aloadn hG dX8_layOut_5 rfl ?_
  refine pm_getf hG dX8_layOut_6 (flX8_9 _ rfl) rfl rfl ?_
  refine pm_alen (v := 4) hG dX8_layOut_9 rfl (by decide) ?_
  refine pm_icmp_ge (tgt := 36) hG dX8_layOut_10 rfl (fun q => absurd q (by decide)) (fun _ => ?_)
  refine pm_iloadn hG dX8_layOut_13 rfl ?_
  refine pm_aloadn hG dX8_layOut_14 rfl ?_
  refine pm_getf hG dX8_layOut_15 (flX8_15 _ rfl) rfl rfl ?_
  refine pm_alen (v := 4) hG dX8_layOut_18 rfl (by decide) ?_
  refine pm_icmp_ge (tgt := 36) hG dX8_layOut_19 rfl (fun q => absurd q (by decide)) (fun _ => ?_)
  refine pm_aloadn hG dX8_layOut_22 rfl ?_
  refine pm_getf hG dX8_layOut_23 (flX8_9 _ rfl) rfl rfl ?_
  refine pm_iloadn hG dX8_layOut_26 rfl ?_
  refine pm_iloadn hG dX8_layOut_27 rfl ?_
  refine pm_iast hG dX8_layOut_28 rfl (pm_inb (by decide)) ?_
  refine nt49_2 (by decide) ?_
  refine pm_aloadn hG dX8_layOut_29 rfl ?_
  refine pm_getf hG dX8_layOut_30 (flX8_15 _ rfl) rfl rfl ?_
  refine pm_iloadn hG dX8_layOut_33 rfl ?_
  refine pm_iloadn hG dX8_layOut_34 rfl ?_
  refine pm_iast hG dX8_layOut_35 rfl (pm_inb (by decide)) ?_
  refine nt50_2 (by decide) ?_
  refine pm_iconst (v := 0) hG dX8_layOut_36 (by decide) ?_
  refine pm_istoreXi (loc' := [some (.ref (B + 48)), some (.int 2), some (.int zb), some (.int zc), some (.int 0)]) hG dX8_layOut_37 (by decide) (pm_c1b rfl) rfl ?_
  have loop39 : ∀ (m39 : Nat) (I3 : Nat → Int32) (A3 : Nat → Nat → Int32) (x3_4 : Int32), gq (ui (ui ε 202 zb) 206 zc) I3 → (¬ x3_4 < 0) → ((24 : Int32).toInt - x3_4.toInt).toNat < m39 → pm_wp mX8_layOut G B 39 [some (.ref (B + 48)), some (.int 2), some (.int zb), some (.int zc), some (.int x3_4)] [] 0 0 cnt (pm_two (cl_L B kp I3 A3) ρ) := by
    intro m39
    induction m39 with
    | zero => intro I3 A3 x3_4 _  _ hm; exact absurd hm (Nat.not_lt_zero _)
    | succ m39 ih39 =>
      intro I3 A3 x3_4 h3 s39 hm39
      refine pm_iloadi hG dX8_layOut_39 rfl ?_
      refine pm_bipush (v := 24) hG dX8_layOut_41 (by decide) ?_
      refine pm_icmp_ge (tgt := 63) hG dX8_layOut_43 rfl (fun c4 => ?_) (fun c4 => ?_)
      · exact pm_vret hG hF dX8_layOut_63 rfl (Nat.le_refl _) (Nat.le_refl _) ⟨rfl, _, _, rfl, rfl, h3⟩
      · refine pm_aloadn hG dX8_layOut_46 rfl ?_
        refine pm_getf hG dX8_layOut_47 (flX8_23 _ rfl) rfl rfl ?_
        refine pm_iloadn hG dX8_layOut_50 rfl ?_
        refine pm_iloadi hG dX8_layOut_51 rfl ?_
        refine pm_iconst (v := 0) hG dX8_layOut_53 (by decide) ?_
        refine pm_callV (As := [.int 2, .int x3_4, .int 0]) (rest := []) hG hR dX8_layOut_54 (lkX8_31 _ rfl) okV_X9_set rfl rfl (tb_set (d := 0) rfl rfl (pm_tw_of 4 24 (by decide) (by decide) (by decide)) (by decide)) rfl rfl hdd (Nat.le_refl _) (Nat.le_refl _) (by decide) (pm_kv (fun σ' cnt' hq => ?_))
        obtain ⟨I5, A5, rfl, rfl, h5⟩ := hv_a52 (kp := kp) (I := I3) (A := A3) h3 hq
        refine pm_iincX (v := x3_4 + 1) (loc' := [some (.ref (B + 48)), some (.int 2), some (.int zb), some (.int zc), some (.int (x3_4 + 1))]) hG dX8_layOut_57 rfl (by rfl) (by decide) (pm_c1b rfl) rfl ?_
        refine pm_goto (tgt := 39) hG dX8_layOut_60 rfl ?_
        exact ih39 _ _ (x3_4 + 1) h5 (pm_sd1 c4 s39) (Nat.lt_of_lt_of_le (pm_mu1 c4) (Nat.le_of_lt_succ hm39))
  exact loop39 _ _ _ 0 (gq.st (k := 206) rfl (gq.st (k := 202) rfl h)) (by decide) (Nat.lt_succ_self _)

set_option maxRecDepth 100000 in
set_option maxHeartbeats 4000000 in
theorem g_layOutE3 {ε : Nat → Int32} {d B cnt : Nat} {kp : Value} {ρ : pm_S} {I : Nat → Int32} {A : Nat → Nat → Int32} (hdd : 1 ≤ d) {zb zc : Int32} (h : gq ε I) : pm_met mX8_layOut d 0 0 B [.ref (B + 48), .int 3, .int zb, .int zc] cnt (pm_two (cl_L B kp I A) ρ) (pm_Qv (fun σ' cnt' => hvq (ui (ui ε 203 zb) 207 zc) B kp ρ cnt σ' cnt')) := by
  refine pm_enter 1 (by decide) (Nat.le_of_ble_eq_true rfl) rfl (fun G hG hR hF => ?_)
  refine pm_iloadn hG dX8_layOut_0 rfl ?_
  refine pm_if_lt (tgt := 36) hG dX8_layOut_1 rfl (fun q => absurd q (by decide)) (fun _ => ?_)
  refine pm_iloadn hG dX8_layOut_4 rfl ?_
  refine pm_aloadn hG dX8_layOut_5 rfl ?_
  refine pm_getf hG dX8_layOut_6 (flX8_9 _ rfl) rfl rfl ?_
  refine pm_alen (v := 4) hG dX8_layOut_9 rfl (by decide) ?_
  refine pm_icmp_ge (tgt := 36) hG dX8_layOut_10 rfl (fun q => absurd q (by decide)) (fun _ => ?_)
  refine pm_iloadn hG dX8_layOut_13 rfl ?_
  refine pm_aloadn hG dX8_layOut_14 rfl ?_
  refine pm_getf hG dX8_layOut_15 (flX8_15 _ rfl) rfl rfl ?_
  refine pm_alen (v := 4) hG dX8_layOut_18 rfl (by decide) ?_
  refine pm_icmp_ge (tgt := 36) hG dX8_layOut_19 rfl (fun q => absurd q (by decide)) (fun _ => ?_)
  refine pm_aloadn hG dX8_layOut_22 rfl ?_
  refine pm_getf hG dX8_layOut_23 (flX8_9 _ rfl) rfl rfl ?_
  refine pm_iloadn hG dX8_layOut_26 rfl ?_
  refine pm_iloadn hG dX8_layOut_27 rfl ?_
  refine pm_iast hG dX8_layOut_28 rfl (pm_inb (by decide)) ?_
  refine nt49_3 (by decide) ?_
  refine pm_aloadn hG dX8_layOut_29 rfl ?_
  refine pm_getf hG dX8_layOut_30 (flX8_15 _ rfl) rfl rfl ?_
  refine pm_iloadn hG dX8_layOut_33 rfl ?_
  refine pm_iloadn hG dX8_layOut_34 rfl ?_
  refine pm_iast hG dX8_layOut_35 rfl (pm_inb (by decide)) ?_
  refine nt50_3 (by decide) ?_
  refine pm_iconst (v := 0) hG dX8_layOut_36 (by decide) ?_
  refine pm_istoreXi (loc' := [some (.ref (B + 48)), some (.int 3), some (.int zb), some (.int zc), some (.int 0)]) hG dX8_layOut_37 (by decide) (pm_c1b rfl) rfl ?_
  have loop39 : ∀ (m39 : Nat) (I3 : Nat → Int32) (A3 : Nat → Nat → Int32) (x3_4 : Int32), gq (ui (ui ε 203 zb) 207 zc) I3 → (¬ x3_4 < 0) → ((24 : Int32).toInt - x3_4.toInt).toNat < m39 → pm_wp mX8_layOut G B 39 [some (.ref (B + 48)), some (.int 3), some (.int zb), some (.int zc), some (.int x3_4)] [] 0 0 cnt (pm_two (cl_L B kp I3 A3) ρ) := by
    intro m39
    induction m39 with
    | zero => intro I3 A3 x3_4 _  _ hm; exact absurd hm (Nat.not_lt_zero _)
    | succ m39 ih39 =>
      intro I3 A3 x3_4 h3 s39 hm39
      refine pm_iloadi hG dX8_layOut_39 rfl ?_
      refine pm_bipush (v := 24) hG dX8_layOut_41 (by decide) ?_
      refine pm_icmp_ge (tgt := 63) hG dX8_layOut_43 rfl (fun c4 => ?_) (fun c4 => ?_)
      · exact pm_vret hG hF dX8_layOut_63 rfl (Nat.le_refl _) (Nat.le_refl _) ⟨rfl, _, _, rfl, rfl, h3⟩
      · refine pm_aloadn hG dX8_layOut_46 rfl ?_
        refine pm_getf hG dX8_layOut_47 (flX8_23 _ rfl) rfl rfl ?_
        refine pm_iloadn hG dX8_layOut_50 rfl ?_
        refine pm_iloadi hG dX8_layOut_51 rfl ?_
        refine pm_iconst (v := 0) hG dX8_layOut_53 (by decide) ?_
        refine pm_callV (As := [.int 3, .int x3_4, .int 0]) (rest := []) hG hR dX8_layOut_54 (lkX8_31 _ rfl) okV_X9_set rfl rfl (tb_set (d := 0) rfl rfl (pm_tw_of 4 24 (by decide) (by decide) (by decide)) (by decide)) rfl rfl hdd (Nat.le_refl _) (Nat.le_refl _) (by decide) (pm_kv (fun σ' cnt' hq => ?_))
        obtain ⟨I5, A5, rfl, rfl, h5⟩ := hv_a52 (kp := kp) (I := I3) (A := A3) h3 hq
        refine pm_iincX (v := x3_4 + 1) (loc' := [some (.ref (B + 48)), some (.int 3), some (.int zb), some (.int zc), some (.int (x3_4 + 1))]) hG dX8_layOut_57 rfl (by rfl) (by decide) (pm_c1b rfl) rfl ?_
        refine pm_goto (tgt := 39) hG dX8_layOut_60 rfl ?_
        exact ih39 _ _ (x3_4 + 1) h5 (pm_sd1 c4 s39) (Nat.lt_of_lt_of_le (pm_mu1 c4) (Nat.le_of_lt_succ hm39))
  exact loop39 _ _ _ 0 (gq.st (k := 207) rfl (gq.st (k := 203) rfl h)) (by decide) (Nat.lt_succ_self _)

set_option maxRecDepth 100000 in
set_option maxHeartbeats 4000000 in
theorem g_sheetE0 {ε : Nat → Int32} {d B cnt : Nat} {kp : Value} {ρ : pm_S} {I : Nat → Int32} {A : Nat → Nat → Int32} (hdd : 2 ≤ d) {zb zc : Int32} (h : gq ε I) : pm_met mX11_sheet d 0 0 B [.ref (B + 0), .int 0, .int zb, .int zc] cnt (pm_two (cl_L B kp I A) ρ) (pm_Qi (fun v σ' cnt' => v = vS 0 zb zc ∧ hvq (tSh 0 ε 0 zb zc) B kp ρ cnt σ' cnt')) := by
  refine pm_enter 0 (by decide) (Nat.le_of_ble_eq_true rfl) rfl (fun G hG hR hF => ?_)
  refine pm_aloadn hG dX11_sheet_0 rfl ?_
  refine pm_getf hG dX11_sheet_1 (flX11_74 _ rfl) rfl rfl ?_
  refine pm_iloadn hG dX11_sheet_4 rfl ?_
  refine pm_callV (As := [.int 0]) (rest := []) hG hR dX11_sheet_5 (lkX11_251 _ rfl) okV_X8_has rfl rfl (sxe_has (d := 1)) rfl rfl hdd (Nat.le_refl _) (Nat.le_refl _) (by decide) (pm_ki (fun v1 σ' cnt' hq => ?_))
  obtain rfl : v1 = 1 := hq.1.trans (by decide)
  obtain ⟨I1, A1, rfl, rfl, h1⟩ := hv_id (kp := kp) (I := I) (A := A) h hq.2
  refine pm_if_eq (tgt := 26) hG dX11_sheet_8 rfl (fun q => absurd q (by decide)) (fun _ => ?_)
  refine pm_iloadn hG dX11_sheet_11 rfl ?_
  refine pm_if_eq (tgt := 33) hG dX11_sheet_12 rfl (fun c2 => ?_) (fun c2 => ?_)
  · refine pm_iloadn hG dX11_sheet_33 rfl ?_
    refine pm_if_eq (tgt := 48) hG dX11_sheet_34 rfl (fun _ => ?_) (fun q => absurd c2 q)
    refine pm_iloadn hG dX11_sheet_48 rfl ?_
    refine pm_if_eq (tgt := 65) hG dX11_sheet_49 rfl (fun _ => ?_) (fun q => absurd c2 q)
    refine pm_aloadn hG dX11_sheet_65 rfl ?_
    refine pm_getf hG dX11_sheet_66 (flX11_74 _ rfl) rfl rfl ?_
    refine pm_iloadn hG dX11_sheet_69 rfl ?_
    refine pm_iloadn hG dX11_sheet_70 rfl ?_
    refine pm_iloadn hG dX11_sheet_71 rfl ?_
    refine pm_if_ne (tgt := 79) hG dX11_sheet_72 rfl (fun q => absurd c2 q) (fun _ => ?_)
    refine pm_iconst (v := 0) hG dX11_sheet_75 (by decide) ?_
    refine pm_goto (tgt := 80) hG dX11_sheet_76 rfl ?_
    refine pm_callV (As := [.int 0, .int zb, .int 0]) (rest := []) hG hR dX11_sheet_80 (lkX11_364 _ rfl) okV_X8_layOut rfl rfl (g_layOutE0 (d := 1) (by decide) h1) rfl rfl hdd (Nat.le_refl _) (Nat.le_refl _) (by decide) (pm_kv (fun σ' cnt' hq => ?_))
    obtain ⟨I3, A3, rfl, rfl, h3⟩ := hq
    refine pm_iconst (v := 1) hG dX11_sheet_83 (by decide) ?_
    exact pm_iret hG hF dX11_sheet_84 rfl (Nat.le_refl _) (Nat.le_refl _) ⟨_, rfl, (vS_f (by decide) c2).symm, by rw [tSh_0 (c := 0) (vS_f (by decide) c2) c2]; exact ⟨_, _, rfl, rfl, h3⟩⟩
  · refine pm_aloadn hG dX11_sheet_15 rfl ?_
    refine pm_getf hG dX11_sheet_16 (flX11_74 _ rfl) rfl rfl ?_
    refine pm_iloadn hG dX11_sheet_19 rfl ?_
    refine pm_callV (As := [.int zb]) (rest := []) hG hR dX11_sheet_20 (lkX11_252 _ rfl) okV_X8_isWidth rfl rfl (sxe_isWidth (d := 1)) rfl rfl hdd (Nat.le_refl _) (Nat.le_refl _) (by decide) (pm_ki (fun v4 σ' cnt' hq => ?_))
    have o4 := hq.1
    obtain ⟨I4, A4, rfl, rfl, h4⟩ := hv_id (kp := kp) (I := I1) (A := A1) h1 hq.2
    rcases pm_widS o4 with ⟨rfl, hW4⟩ | ⟨rfl, hW4⟩
    · refine pm_if_ne (tgt := 33) hG dX11_sheet_23 rfl (fun _ => ?_) (fun q => absurd q (by decide))
      refine pm_iloadn hG dX11_sheet_33 rfl ?_
      refine pm_if_eq (tgt := 48) hG dX11_sheet_34 rfl (fun q => absurd q c2) (fun _ => ?_)
      refine pm_iloadn hG dX11_sheet_37 rfl ?_
      refine pm_if_ge (tgt := 48) hG dX11_sheet_38 rfl (fun c5 => ?_) (fun c5 => ?_)
      · refine pm_iloadn hG dX11_sheet_48 rfl ?_
        refine pm_if_eq (tgt := 65) hG dX11_sheet_49 rfl (fun q => absurd q c2) (fun _ => ?_)
        refine pm_iloadn hG dX11_sheet_52 rfl ?_
        refine pm_bipush (v := 24) hG dX11_sheet_53 (by decide) ?_
        refine pm_icmp_le (tgt := 65) hG dX11_sheet_55 rfl (fun c6 => ?_) (fun c6 => ?_)
        · refine pm_aloadn hG dX11_sheet_65 rfl ?_
          refine pm_getf hG dX11_sheet_66 (flX11_74 _ rfl) rfl rfl ?_
          refine pm_iloadn hG dX11_sheet_69 rfl ?_
          refine pm_iloadn hG dX11_sheet_70 rfl ?_
          refine pm_iloadn hG dX11_sheet_71 rfl ?_
          refine pm_if_ne (tgt := 79) hG dX11_sheet_72 rfl (fun _ => ?_) (fun q => absurd q c2)
          refine pm_iloadn hG dX11_sheet_79 rfl ?_
          refine pm_callV (As := [.int 0, .int zb, .int zc]) (rest := []) hG hR dX11_sheet_80 (lkX11_364 _ rfl) okV_X8_layOut rfl rfl (g_layOutE0 (d := 1) (by decide) h4) rfl rfl hdd (Nat.le_refl _) (Nat.le_refl _) (by decide) (pm_kv (fun σ' cnt' hq => ?_))
          obtain ⟨I7, A7, rfl, rfl, h7⟩ := hq
          refine pm_iconst (v := 1) hG dX11_sheet_83 (by decide) ?_
          exact pm_iret hG hF dX11_sheet_84 rfl (Nat.le_refl _) (Nat.le_refl _) ⟨_, rfl, (vS_e (by decide) hW4 (Int32.not_lt.mpr c5) (Int32.not_lt.mpr c6)).symm, by rw [tSh_1 (c := 0) (vS_e (by decide) hW4 (Int32.not_lt.mpr c5) (Int32.not_lt.mpr c6)) c2]; exact ⟨_, _, rfl, rfl, h7⟩⟩
        · refine pm_aloadn hG dX11_sheet_58 rfl ?_
          refine pm_ldc hG dX11_sheet_59 (ctX11_109 _ rfl) ?_
          refine pm_callV (As := [.int (-1000001)]) (rest := []) hG hR dX11_sheet_61 (lkX11_97 _ rfl) okV_X11_told rfl rfl (sx_told (d := 1) (by decide) rfl rfl) rfl rfl hdd (Nat.le_refl _) (Nat.le_refl _) (by decide) (pm_ki (fun v8 σ' cnt' hq => ?_))
          obtain ⟨ev8, ⟨g8, hg8⟩, hc8⟩ := hq
          obtain ⟨I8, A8, rfl, rfl, h8⟩ := hv_a53 (kp := kp) (I := I4) (A := A4) h4 ⟨hg8, hc8⟩
          subst ev8
          exact pm_iret hG hF dX11_sheet_64 rfl (Nat.le_refl _) (Nat.le_refl _) ⟨_, rfl, (vS_d (by decide) hW4 c2 (Int32.not_lt.mpr c5) (Int32.not_le.mp c6)).symm, by rw [tSh_n (c := 0) (vS_d (by decide) hW4 c2 (Int32.not_lt.mpr c5) (Int32.not_le.mp c6)) (by decide)]; exact ⟨_, _, rfl, rfl, h8⟩⟩
      · refine pm_aloadn hG dX11_sheet_41 rfl ?_
        refine pm_ldc hG dX11_sheet_42 (ctX11_138 _ rfl) ?_
        refine pm_callV (As := [.int (-1000003)]) (rest := []) hG hR dX11_sheet_44 (lkX11_97 _ rfl) okV_X11_told rfl rfl (sx_told (d := 1) (by decide) rfl rfl) rfl rfl hdd (Nat.le_refl _) (Nat.le_refl _) (by decide) (pm_ki (fun v9 σ' cnt' hq => ?_))
        obtain ⟨ev9, ⟨g9, hg9⟩, hc9⟩ := hq
        obtain ⟨I9, A9, rfl, rfl, h9⟩ := hv_a53 (kp := kp) (I := I4) (A := A4) h4 ⟨hg9, hc9⟩
        subst ev9
        exact pm_iret hG hF dX11_sheet_47 rfl (Nat.le_refl _) (Nat.le_refl _) ⟨_, rfl, (vS_c (by decide) hW4 c2 (Int32.not_le.mp c5)).symm, by rw [tSh_n (c := 0) (vS_c (by decide) hW4 c2 (Int32.not_le.mp c5)) (by decide)]; exact ⟨_, _, rfl, rfl, h9⟩⟩
    · refine pm_if_ne (tgt := 33) hG dX11_sheet_23 rfl (fun q => absurd q (by decide)) (fun _ => ?_)
      refine pm_aloadn hG dX11_sheet_26 rfl ?_
      refine pm_ldc hG dX11_sheet_27 (ctX11_109 _ rfl) ?_
      refine pm_callV (As := [.int (-1000001)]) (rest := []) hG hR dX11_sheet_29 (lkX11_97 _ rfl) okV_X11_told rfl rfl (sx_told (d := 1) (by decide) rfl rfl) rfl rfl hdd (Nat.le_refl _) (Nat.le_refl _) (by decide) (pm_ki (fun v10 σ' cnt' hq => ?_))
      obtain ⟨ev10, ⟨g10, hg10⟩, hc10⟩ := hq
      obtain ⟨I10, A10, rfl, rfl, h10⟩ := hv_a53 (kp := kp) (I := I4) (A := A4) h4 ⟨hg10, hc10⟩
      subst ev10
      exact pm_iret hG hF dX11_sheet_32 rfl (Nat.le_refl _) (Nat.le_refl _) ⟨_, rfl, (vS_b c2 hW4).symm, by rw [tSh_n (c := 0) (vS_b c2 hW4) (by decide)]; exact ⟨_, _, rfl, rfl, h10⟩⟩

set_option maxRecDepth 100000 in
set_option maxHeartbeats 4000000 in
theorem g_sheetE1 {ε : Nat → Int32} {d B cnt : Nat} {kp : Value} {ρ : pm_S} {I : Nat → Int32} {A : Nat → Nat → Int32} (hdd : 2 ≤ d) {zb zc : Int32} (h : gq ε I) : pm_met mX11_sheet d 0 0 B [.ref (B + 0), .int 1, .int zb, .int zc] cnt (pm_two (cl_L B kp I A) ρ) (pm_Qi (fun v σ' cnt' => v = vS 1 zb zc ∧ hvq (tSh 1 ε 1 zb zc) B kp ρ cnt σ' cnt')) := by
  refine pm_enter 0 (by decide) (Nat.le_of_ble_eq_true rfl) rfl (fun G hG hR hF => ?_)
  refine pm_aloadn hG dX11_sheet_0 rfl ?_
  refine pm_getf hG dX11_sheet_1 (flX11_74 _ rfl) rfl rfl ?_
  refine pm_iloadn hG dX11_sheet_4 rfl ?_
  refine pm_callV (As := [.int 1]) (rest := []) hG hR dX11_sheet_5 (lkX11_251 _ rfl) okV_X8_has rfl rfl (sxe_has (d := 1)) rfl rfl hdd (Nat.le_refl _) (Nat.le_refl _) (by decide) (pm_ki (fun v1 σ' cnt' hq => ?_))
  obtain rfl : v1 = 1 := hq.1.trans (by decide)
  obtain ⟨I1, A1, rfl, rfl, h1⟩ := hv_id (kp := kp) (I := I) (A := A) h hq.2
  refine pm_if_eq (tgt := 26) hG dX11_sheet_8 rfl (fun q => absurd q (by decide)) (fun _ => ?_)
  refine pm_iloadn hG dX11_sheet_11 rfl ?_
  refine pm_if_eq (tgt := 33) hG dX11_sheet_12 rfl (fun c2 => ?_) (fun c2 => ?_)
  · refine pm_iloadn hG dX11_sheet_33 rfl ?_
    refine pm_if_eq (tgt := 48) hG dX11_sheet_34 rfl (fun _ => ?_) (fun q => absurd c2 q)
    refine pm_iloadn hG dX11_sheet_48 rfl ?_
    refine pm_if_eq (tgt := 65) hG dX11_sheet_49 rfl (fun _ => ?_) (fun q => absurd c2 q)
    refine pm_aloadn hG dX11_sheet_65 rfl ?_
    refine pm_getf hG dX11_sheet_66 (flX11_74 _ rfl) rfl rfl ?_
    refine pm_iloadn hG dX11_sheet_69 rfl ?_
    refine pm_iloadn hG dX11_sheet_70 rfl ?_
    refine pm_iloadn hG dX11_sheet_71 rfl ?_
    refine pm_if_ne (tgt := 79) hG dX11_sheet_72 rfl (fun q => absurd c2 q) (fun _ => ?_)
    refine pm_iconst (v := 0) hG dX11_sheet_75 (by decide) ?_
    refine pm_goto (tgt := 80) hG dX11_sheet_76 rfl ?_
    refine pm_callV (As := [.int 1, .int zb, .int 0]) (rest := []) hG hR dX11_sheet_80 (lkX11_364 _ rfl) okV_X8_layOut rfl rfl (g_layOutE1 (d := 1) (by decide) h1) rfl rfl hdd (Nat.le_refl _) (Nat.le_refl _) (by decide) (pm_kv (fun σ' cnt' hq => ?_))
    obtain ⟨I3, A3, rfl, rfl, h3⟩ := hq
    refine pm_iconst (v := 1) hG dX11_sheet_83 (by decide) ?_
    exact pm_iret hG hF dX11_sheet_84 rfl (Nat.le_refl _) (Nat.le_refl _) ⟨_, rfl, (vS_f (by decide) c2).symm, by rw [tSh_0 (c := 1) (vS_f (by decide) c2) c2]; exact ⟨_, _, rfl, rfl, h3⟩⟩
  · refine pm_aloadn hG dX11_sheet_15 rfl ?_
    refine pm_getf hG dX11_sheet_16 (flX11_74 _ rfl) rfl rfl ?_
    refine pm_iloadn hG dX11_sheet_19 rfl ?_
    refine pm_callV (As := [.int zb]) (rest := []) hG hR dX11_sheet_20 (lkX11_252 _ rfl) okV_X8_isWidth rfl rfl (sxe_isWidth (d := 1)) rfl rfl hdd (Nat.le_refl _) (Nat.le_refl _) (by decide) (pm_ki (fun v4 σ' cnt' hq => ?_))
    have o4 := hq.1
    obtain ⟨I4, A4, rfl, rfl, h4⟩ := hv_id (kp := kp) (I := I1) (A := A1) h1 hq.2
    rcases pm_widS o4 with ⟨rfl, hW4⟩ | ⟨rfl, hW4⟩
    · refine pm_if_ne (tgt := 33) hG dX11_sheet_23 rfl (fun _ => ?_) (fun q => absurd q (by decide))
      refine pm_iloadn hG dX11_sheet_33 rfl ?_
      refine pm_if_eq (tgt := 48) hG dX11_sheet_34 rfl (fun q => absurd q c2) (fun _ => ?_)
      refine pm_iloadn hG dX11_sheet_37 rfl ?_
      refine pm_if_ge (tgt := 48) hG dX11_sheet_38 rfl (fun c5 => ?_) (fun c5 => ?_)
      · refine pm_iloadn hG dX11_sheet_48 rfl ?_
        refine pm_if_eq (tgt := 65) hG dX11_sheet_49 rfl (fun q => absurd q c2) (fun _ => ?_)
        refine pm_iloadn hG dX11_sheet_52 rfl ?_
        refine pm_bipush (v := 24) hG dX11_sheet_53 (by decide) ?_
        refine pm_icmp_le (tgt := 65) hG dX11_sheet_55 rfl (fun c6 => ?_) (fun c6 => ?_)
        · refine pm_aloadn hG dX11_sheet_65 rfl ?_
          refine pm_getf hG dX11_sheet_66 (flX11_74 _ rfl) rfl rfl ?_
          refine pm_iloadn hG dX11_sheet_69 rfl ?_
          refine pm_iloadn hG dX11_sheet_70 rfl ?_
          refine pm_iloadn hG dX11_sheet_71 rfl ?_
          refine pm_if_ne (tgt := 79) hG dX11_sheet_72 rfl (fun _ => ?_) (fun q => absurd q c2)
          refine pm_iloadn hG dX11_sheet_79 rfl ?_
          refine pm_callV (As := [.int 1, .int zb, .int zc]) (rest := []) hG hR dX11_sheet_80 (lkX11_364 _ rfl) okV_X8_layOut rfl rfl (g_layOutE1 (d := 1) (by decide) h4) rfl rfl hdd (Nat.le_refl _) (Nat.le_refl _) (by decide) (pm_kv (fun σ' cnt' hq => ?_))
          obtain ⟨I7, A7, rfl, rfl, h7⟩ := hq
          refine pm_iconst (v := 1) hG dX11_sheet_83 (by decide) ?_
          exact pm_iret hG hF dX11_sheet_84 rfl (Nat.le_refl _) (Nat.le_refl _) ⟨_, rfl, (vS_e (by decide) hW4 (Int32.not_lt.mpr c5) (Int32.not_lt.mpr c6)).symm, by rw [tSh_1 (c := 1) (vS_e (by decide) hW4 (Int32.not_lt.mpr c5) (Int32.not_lt.mpr c6)) c2]; exact ⟨_, _, rfl, rfl, h7⟩⟩
        · refine pm_aloadn hG dX11_sheet_58 rfl ?_
          refine pm_ldc hG dX11_sheet_59 (ctX11_109 _ rfl) ?_
          refine pm_callV (As := [.int (-1000001)]) (rest := []) hG hR dX11_sheet_61 (lkX11_97 _ rfl) okV_X11_told rfl rfl (sx_told (d := 1) (by decide) rfl rfl) rfl rfl hdd (Nat.le_refl _) (Nat.le_refl _) (by decide) (pm_ki (fun v8 σ' cnt' hq => ?_))
          obtain ⟨ev8, ⟨g8, hg8⟩, hc8⟩ := hq
          obtain ⟨I8, A8, rfl, rfl, h8⟩ := hv_a53 (kp := kp) (I := I4) (A := A4) h4 ⟨hg8, hc8⟩
          subst ev8
          exact pm_iret hG hF dX11_sheet_64 rfl (Nat.le_refl _) (Nat.le_refl _) ⟨_, rfl, (vS_d (by decide) hW4 c2 (Int32.not_lt.mpr c5) (Int32.not_le.mp c6)).symm, by rw [tSh_n (c := 1) (vS_d (by decide) hW4 c2 (Int32.not_lt.mpr c5) (Int32.not_le.mp c6)) (by decide)]; exact ⟨_, _, rfl, rfl, h8⟩⟩
      · refine pm_aloadn hG dX11_sheet_41 rfl ?_
        refine pm_ldc hG dX11_sheet_42 (ctX11_138 _ rfl) ?_
        refine pm_callV (As := [.int (-1000003)]) (rest := []) hG hR dX11_sheet_44 (lkX11_97 _ rfl) okV_X11_told rfl rfl (sx_told (d := 1) (by decide) rfl rfl) rfl rfl hdd (Nat.le_refl _) (Nat.le_refl _) (by decide) (pm_ki (fun v9 σ' cnt' hq => ?_))
        obtain ⟨ev9, ⟨g9, hg9⟩, hc9⟩ := hq
        obtain ⟨I9, A9, rfl, rfl, h9⟩ := hv_a53 (kp := kp) (I := I4) (A := A4) h4 ⟨hg9, hc9⟩
        subst ev9
        exact pm_iret hG hF dX11_sheet_47 rfl (Nat.le_refl _) (Nat.le_refl _) ⟨_, rfl, (vS_c (by decide) hW4 c2 (Int32.not_le.mp c5)).symm, by rw [tSh_n (c := 1) (vS_c (by decide) hW4 c2 (Int32.not_le.mp c5)) (by decide)]; exact ⟨_, _, rfl, rfl, h9⟩⟩
    · refine pm_if_ne (tgt := 33) hG dX11_sheet_23 rfl (fun q => absurd q (by decide)) (fun _ => ?_)
      refine pm_aloadn hG dX11_sheet_26 rfl ?_
      refine pm_ldc hG dX11_sheet_27 (ctX11_109 _ rfl) ?_
      refine pm_callV (As := [.int (-1000001)]) (rest := []) hG hR dX11_sheet_29 (lkX11_97 _ rfl) okV_X11_told rfl rfl (sx_told (d := 1) (by decide) rfl rfl) rfl rfl hdd (Nat.le_refl _) (Nat.le_refl _) (by decide) (pm_ki (fun v10 σ' cnt' hq => ?_))
      obtain ⟨ev10, ⟨g10, hg10⟩, hc10⟩ := hq
      obtain ⟨I10, A10, rfl, rfl, h10⟩ := hv_a53 (kp := kp) (I := I4) (A := A4) h4 ⟨hg10, hc10⟩
      subst ev10
      exact pm_iret hG hF dX11_sheet_32 rfl (Nat.le_refl _) (Nat.le_refl _) ⟨_, rfl, (vS_b c2 hW4).symm, by rw [tSh_n (c := 1) (vS_b c2 hW4) (by decide)]; exact ⟨_, _, rfl, rfl, h10⟩⟩

set_option maxRecDepth 100000 in
set_option maxHeartbeats 4000000 in
theorem g_sheetE2 {ε : Nat → Int32} {d B cnt : Nat} {kp : Value} {ρ : pm_S} {I : Nat → Int32} {A : Nat → Nat → Int32} (hdd : 2 ≤ d) {zb zc : Int32} (h : gq ε I) : pm_met mX11_sheet d 0 0 B [.ref (B + 0), .int 2, .int zb, .int zc] cnt (pm_two (cl_L B kp I A) ρ) (pm_Qi (fun v σ' cnt' => v = vS 2 zb zc ∧ hvq (tSh 2 ε 2 zb zc) B kp ρ cnt σ' cnt')) := by
  refine pm_enter 0 (by decide) (Nat.le_of_ble_eq_true rfl) rfl (fun G hG hR hF => ?_)
  refine pm_aloadn hG dX11_sheet_0 rfl ?_
  refine pm_getf hG dX11_sheet_1 (flX11_74 _ rfl) rfl rfl ?_
  refine pm_iloadn hG dX11_sheet_4 rfl ?_
  refine pm_callV (As := [.int 2]) (rest := []) hG hR dX11_sheet_5 (lkX11_251 _ rfl) okV_X8_has rfl rfl (sxe_has (d := 1)) rfl rfl hdd (Nat.le_refl _) (Nat.le_refl _) (by decide) (pm_ki (fun v1 σ' cnt' hq => ?_))
  obtain rfl : v1 = 1 := hq.1.trans (by decide)
  obtain ⟨I1, A1, rfl, rfl, h1⟩ := hv_id (kp := kp) (I := I) (A := A) h hq.2
  refine pm_if_eq (tgt := 26) hG dX11_sheet_8 rfl (fun q => absurd q (by decide)) (fun _ => ?_)
  refine pm_iloadn hG dX11_sheet_11 rfl ?_
  refine pm_if_eq (tgt := 33) hG dX11_sheet_12 rfl (fun c2 => ?_) (fun c2 => ?_)
  · refine pm_iloadn hG dX11_sheet_33 rfl ?_
    refine pm_if_eq (tgt := 48) hG dX11_sheet_34 rfl (fun _ => ?_) (fun q => absurd c2 q)
    refine pm_iloadn hG dX11_sheet_48 rfl ?_
    refine pm_if_eq (tgt := 65) hG dX11_sheet_49 rfl (fun _ => ?_) (fun q => absurd c2 q)
    refine pm_aloadn hG dX11_sheet_65 rfl ?_
    refine pm_getf hG dX11_sheet_66 (flX11_74 _ rfl) rfl rfl ?_
    refine pm_iloadn hG dX11_sheet_69 rfl ?_
    refine pm_iloadn hG dX11_sheet_70 rfl ?_
    refine pm_iloadn hG dX11_sheet_71 rfl ?_
    refine pm_if_ne (tgt := 79) hG dX11_sheet_72 rfl (fun q => absurd c2 q) (fun _ => ?_)
    refine pm_iconst (v := 0) hG dX11_sheet_75 (by decide) ?_
    refine pm_goto (tgt := 80) hG dX11_sheet_76 rfl ?_
    refine pm_callV (As := [.int 2, .int zb, .int 0]) (rest := []) hG hR dX11_sheet_80 (lkX11_364 _ rfl) okV_X8_layOut rfl rfl (g_layOutE2 (d := 1) (by decide) h1) rfl rfl hdd (Nat.le_refl _) (Nat.le_refl _) (by decide) (pm_kv (fun σ' cnt' hq => ?_))
    obtain ⟨I3, A3, rfl, rfl, h3⟩ := hq
    refine pm_iconst (v := 1) hG dX11_sheet_83 (by decide) ?_
    exact pm_iret hG hF dX11_sheet_84 rfl (Nat.le_refl _) (Nat.le_refl _) ⟨_, rfl, (vS_f (by decide) c2).symm, by rw [tSh_0 (c := 2) (vS_f (by decide) c2) c2]; exact ⟨_, _, rfl, rfl, h3⟩⟩
  · refine pm_aloadn hG dX11_sheet_15 rfl ?_
    refine pm_getf hG dX11_sheet_16 (flX11_74 _ rfl) rfl rfl ?_
    refine pm_iloadn hG dX11_sheet_19 rfl ?_
    refine pm_callV (As := [.int zb]) (rest := []) hG hR dX11_sheet_20 (lkX11_252 _ rfl) okV_X8_isWidth rfl rfl (sxe_isWidth (d := 1)) rfl rfl hdd (Nat.le_refl _) (Nat.le_refl _) (by decide) (pm_ki (fun v4 σ' cnt' hq => ?_))
    have o4 := hq.1
    obtain ⟨I4, A4, rfl, rfl, h4⟩ := hv_id (kp := kp) (I := I1) (A := A1) h1 hq.2
    rcases pm_widS o4 with ⟨rfl, hW4⟩ | ⟨rfl, hW4⟩
    · refine pm_if_ne (tgt := 33) hG dX11_sheet_23 rfl (fun _ => ?_) (fun q => absurd q (by decide))
      refine pm_iloadn hG dX11_sheet_33 rfl ?_
      refine pm_if_eq (tgt := 48) hG dX11_sheet_34 rfl (fun q => absurd q c2) (fun _ => ?_)
      refine pm_iloadn hG dX11_sheet_37 rfl ?_
      refine pm_if_ge (tgt := 48) hG dX11_sheet_38 rfl (fun c5 => ?_) (fun c5 => ?_)
      · refine pm_iloadn hG dX11_sheet_48 rfl ?_
        refine pm_if_eq (tgt := 65) hG dX11_sheet_49 rfl (fun q => absurd q c2) (fun _ => ?_)
        refine pm_iloadn hG dX11_sheet_52 rfl ?_
        refine pm_bipush (v := 24) hG dX11_sheet_53 (by decide) ?_
        refine pm_icmp_le (tgt := 65) hG dX11_sheet_55 rfl (fun c6 => ?_) (fun c6 => ?_)
        · refine pm_aloadn hG dX11_sheet_65 rfl ?_
          refine pm_getf hG dX11_sheet_66 (flX11_74 _ rfl) rfl rfl ?_
          refine pm_iloadn hG dX11_sheet_69 rfl ?_
          refine pm_iloadn hG dX11_sheet_70 rfl ?_
          refine pm_iloadn hG dX11_sheet_71 rfl ?_
          refine pm_if_ne (tgt := 79) hG dX11_sheet_72 rfl (fun _ => ?_) (fun q => absurd q c2)
          refine pm_iloadn hG dX11_sheet_79 rfl ?_
          refine pm_callV (As := [.int 2, .int zb, .int zc]) (rest := []) hG hR dX11_sheet_80 (lkX11_364 _ rfl) okV_X8_layOut rfl rfl (g_layOutE2 (d := 1) (by decide) h4) rfl rfl hdd (Nat.le_refl _) (Nat.le_refl _) (by decide) (pm_kv (fun σ' cnt' hq => ?_))
          obtain ⟨I7, A7, rfl, rfl, h7⟩ := hq
          refine pm_iconst (v := 1) hG dX11_sheet_83 (by decide) ?_
          exact pm_iret hG hF dX11_sheet_84 rfl (Nat.le_refl _) (Nat.le_refl _) ⟨_, rfl, (vS_e (by decide) hW4 (Int32.not_lt.mpr c5) (Int32.not_lt.mpr c6)).symm, by rw [tSh_1 (c := 2) (vS_e (by decide) hW4 (Int32.not_lt.mpr c5) (Int32.not_lt.mpr c6)) c2]; exact ⟨_, _, rfl, rfl, h7⟩⟩
        · refine pm_aloadn hG dX11_sheet_58 rfl ?_
          refine pm_ldc hG dX11_sheet_59 (ctX11_109 _ rfl) ?_
          refine pm_callV (As := [.int (-1000001)]) (rest := []) hG hR dX11_sheet_61 (lkX11_97 _ rfl) okV_X11_told rfl rfl (sx_told (d := 1) (by decide) rfl rfl) rfl rfl hdd (Nat.le_refl _) (Nat.le_refl _) (by decide) (pm_ki (fun v8 σ' cnt' hq => ?_))
          obtain ⟨ev8, ⟨g8, hg8⟩, hc8⟩ := hq
          obtain ⟨I8, A8, rfl, rfl, h8⟩ := hv_a53 (kp := kp) (I := I4) (A := A4) h4 ⟨hg8, hc8⟩
          subst ev8
          exact pm_iret hG hF dX11_sheet_64 rfl (Nat.le_refl _) (Nat.le_refl _) ⟨_, rfl, (vS_d (by decide) hW4 c2 (Int32.not_lt.mpr c5) (Int32.not_le.mp c6)).symm, by rw [tSh_n (c := 2) (vS_d (by decide) hW4 c2 (Int32.not_lt.mpr c5) (Int32.not_le.mp c6)) (by decide)]; exact ⟨_, _, rfl, rfl, h8⟩⟩
      · refine pm_aloadn hG dX11_sheet_41 rfl ?_
        refine pm_ldc hG dX11_sheet_42 (ctX11_138 _ rfl) ?_
        refine pm_callV (As := [.int (-1000003)]) (rest := []) hG hR dX11_sheet_44 (lkX11_97 _ rfl) okV_X11_told rfl rfl (sx_told (d := 1) (by decide) rfl rfl) rfl rfl hdd (Nat.le_refl _) (Nat.le_refl _) (by decide) (pm_ki (fun v9 σ' cnt' hq => ?_))
        obtain ⟨ev9, ⟨g9, hg9⟩, hc9⟩ := hq
        obtain ⟨I9, A9, rfl, rfl, h9⟩ := hv_a53 (kp := kp) (I := I4) (A := A4) h4 ⟨hg9, hc9⟩
        subst ev9
        exact pm_iret hG hF dX11_sheet_47 rfl (Nat.le_refl _) (Nat.le_refl _) ⟨_, rfl, (vS_c (by decide) hW4 c2 (Int32.not_le.mp c5)).symm, by rw [tSh_n (c := 2) (vS_c (by decide) hW4 c2 (Int32.not_le.mp c5)) (by decide)]; exact ⟨_, _, rfl, rfl, h9⟩⟩
    · refine pm_if_ne (tgt := 33) hG dX11_sheet_23 rfl (fun q => absurd q (by decide)) (fun _ => ?_)
      refine pm_aloadn hG dX11_sheet_26 rfl ?_
      refine pm_ldc hG dX11_sheet_27 (ctX11_109 _ rfl) ?_
      refine pm_callV (As := [.int (-1000001)]) (rest := []) hG hR dX11_sheet_29 (lkX11_97 _ rfl) okV_X11_told rfl rfl (sx_told (d := 1) (by decide) rfl rfl) rfl rfl hdd (Nat.le_refl _) (Nat.le_refl _) (by decide) (pm_ki (fun v10 σ' cnt' hq => ?_))
      obtain ⟨ev10, ⟨g10, hg10⟩, hc10⟩ := hq
      obtain ⟨I10, A10, rfl, rfl, h10⟩ := hv_a53 (kp := kp) (I := I4) (A := A4) h4 ⟨hg10, hc10⟩
      subst ev10
      exact pm_iret hG hF dX11_sheet_32 rfl (Nat.le_refl _) (Nat.le_refl _) ⟨_, rfl, (vS_b c2 hW4).symm, by rw [tSh_n (c := 2) (vS_b c2 hW4) (by decide)]; exact ⟨_, _, rfl, rfl, h10⟩⟩

set_option maxRecDepth 100000 in
set_option maxHeartbeats 4000000 in
theorem g_sheetE3 {ε : Nat → Int32} {d B cnt : Nat} {kp : Value} {ρ : pm_S} {I : Nat → Int32} {A : Nat → Nat → Int32} (hdd : 2 ≤ d) {zb zc : Int32} (h : gq ε I) : pm_met mX11_sheet d 0 0 B [.ref (B + 0), .int 3, .int zb, .int zc] cnt (pm_two (cl_L B kp I A) ρ) (pm_Qi (fun v σ' cnt' => v = vS 3 zb zc ∧ hvq (tSh 3 ε 3 zb zc) B kp ρ cnt σ' cnt')) := by
  refine pm_enter 0 (by decide) (Nat.le_of_ble_eq_true rfl) rfl (fun G hG hR hF => ?_)
  refine pm_aloadn hG dX11_sheet_0 rfl ?_
  refine pm_getf hG dX11_sheet_1 (flX11_74 _ rfl) rfl rfl ?_
  refine pm_iloadn hG dX11_sheet_4 rfl ?_
  refine pm_callV (As := [.int 3]) (rest := []) hG hR dX11_sheet_5 (lkX11_251 _ rfl) okV_X8_has rfl rfl (sxe_has (d := 1)) rfl rfl hdd (Nat.le_refl _) (Nat.le_refl _) (by decide) (pm_ki (fun v1 σ' cnt' hq => ?_))
  obtain rfl : v1 = 1 := hq.1.trans (by decide)
  obtain ⟨I1, A1, rfl, rfl, h1⟩ := hv_id (kp := kp) (I := I) (A := A) h hq.2
  refine pm_if_eq (tgt := 26) hG dX11_sheet_8 rfl (fun q => absurd q (by decide)) (fun _ => ?_)
  refine pm_iloadn hG dX11_sheet_11 rfl ?_
  refine pm_if_eq (tgt := 33) hG dX11_sheet_12 rfl (fun c2 => ?_) (fun c2 => ?_)
  · refine pm_iloadn hG dX11_sheet_33 rfl ?_
    refine pm_if_eq (tgt := 48) hG dX11_sheet_34 rfl (fun _ => ?_) (fun q => absurd c2 q)
    refine pm_iloadn hG dX11_sheet_48 rfl ?_
    refine pm_if_eq (tgt := 65) hG dX11_sheet_49 rfl (fun _ => ?_) (fun q => absurd c2 q)
    refine pm_aloadn hG dX11_sheet_65 rfl ?_
    refine pm_getf hG dX11_sheet_66 (flX11_74 _ rfl) rfl rfl ?_
    refine pm_iloadn hG dX11_sheet_69 rfl ?_
    refine pm_iloadn hG dX11_sheet_70 rfl ?_
    refine pm_iloadn hG dX11_sheet_71 rfl ?_
    refine pm_if_ne (tgt := 79) hG dX11_sheet_72 rfl (fun q => absurd c2 q) (fun _ => ?_)
    refine pm_iconst (v := 0) hG dX11_sheet_75 (by decide) ?_
    refine pm_goto (tgt := 80) hG dX11_sheet_76 rfl ?_
    refine pm_callV (As := [.int 3, .int zb, .int 0]) (rest := []) hG hR dX11_sheet_80 (lkX11_364 _ rfl) okV_X8_layOut rfl rfl (g_layOutE3 (d := 1) (by decide) h1) rfl rfl hdd (Nat.le_refl _) (Nat.le_refl _) (by decide) (pm_kv (fun σ' cnt' hq => ?_))
    obtain ⟨I3, A3, rfl, rfl, h3⟩ := hq
    refine pm_iconst (v := 1) hG dX11_sheet_83 (by decide) ?_
    exact pm_iret hG hF dX11_sheet_84 rfl (Nat.le_refl _) (Nat.le_refl _) ⟨_, rfl, (vS_f (by decide) c2).symm, by rw [tSh_0 (c := 3) (vS_f (by decide) c2) c2]; exact ⟨_, _, rfl, rfl, h3⟩⟩
  · refine pm_aloadn hG dX11_sheet_15 rfl ?_
    refine pm_getf hG dX11_sheet_16 (flX11_74 _ rfl) rfl rfl ?_
    refine pm_iloadn hG dX11_sheet_19 rfl ?_
    refine pm_callV (As := [.int zb]) (rest := []) hG hR dX11_sheet_20 (lkX11_252 _ rfl) okV_X8_isWidth rfl rfl (sxe_isWidth (d := 1)) rfl rfl hdd (Nat.le_refl _) (Nat.le_refl _) (by decide) (pm_ki (fun v4 σ' cnt' hq => ?_))
    have o4 := hq.1
    obtain ⟨I4, A4, rfl, rfl, h4⟩ := hv_id (kp := kp) (I := I1) (A := A1) h1 hq.2
    rcases pm_widS o4 with ⟨rfl, hW4⟩ | ⟨rfl, hW4⟩
    · refine pm_if_ne (tgt := 33) hG dX11_sheet_23 rfl (fun _ => ?_) (fun q => absurd q (by decide))
      refine pm_iloadn hG dX11_sheet_33 rfl ?_
      refine pm_if_eq (tgt := 48) hG dX11_sheet_34 rfl (fun q => absurd q c2) (fun _ => ?_)
      refine pm_iloadn hG dX11_sheet_37 rfl ?_
      refine pm_if_ge (tgt := 48) hG dX11_sheet_38 rfl (fun c5 => ?_) (fun c5 => ?_)
      · refine pm_iloadn hG dX11_sheet_48 rfl ?_
        refine pm_if_eq (tgt := 65) hG dX11_sheet_49 rfl (fun q => absurd q c2) (fun _ => ?_)
        refine pm_iloadn hG dX11_sheet_52 rfl ?_
        refine pm_bipush (v := 24) hG dX11_sheet_53 (by decide) ?_
        refine pm_icmp_le (tgt := 65) hG dX11_sheet_55 rfl (fun c6 => ?_) (fun c6 => ?_)
        · refine pm_aloadn hG dX11_sheet_65 rfl ?_
          refine pm_getf hG dX11_sheet_66 (flX11_74 _ rfl) rfl rfl ?_
          refine pm_iloadn hG dX11_sheet_69 rfl ?_
          refine pm_iloadn hG dX11_sheet_70 rfl ?_
          refine pm_iloadn hG dX11_sheet_71 rfl ?_
          refine pm_if_ne (tgt := 79) hG dX11_sheet_72 rfl (fun _ => ?_) (fun q => absurd q c2)
          refine pm_iloadn hG dX11_sheet_79 rfl ?_
          refine pm_callV (As := [.int 3, .int zb, .int zc]) (rest := []) hG hR dX11_sheet_80 (lkX11_364 _ rfl) okV_X8_layOut rfl rfl (g_layOutE3 (d := 1) (by decide) h4) rfl rfl hdd (Nat.le_refl _) (Nat.le_refl _) (by decide) (pm_kv (fun σ' cnt' hq => ?_))
          obtain ⟨I7, A7, rfl, rfl, h7⟩ := hq
          refine pm_iconst (v := 1) hG dX11_sheet_83 (by decide) ?_
          exact pm_iret hG hF dX11_sheet_84 rfl (Nat.le_refl _) (Nat.le_refl _) ⟨_, rfl, (vS_e (by decide) hW4 (Int32.not_lt.mpr c5) (Int32.not_lt.mpr c6)).symm, by rw [tSh_1 (c := 3) (vS_e (by decide) hW4 (Int32.not_lt.mpr c5) (Int32.not_lt.mpr c6)) c2]; exact ⟨_, _, rfl, rfl, h7⟩⟩
        · refine pm_aloadn hG dX11_sheet_58 rfl ?_
          refine pm_ldc hG dX11_sheet_59 (ctX11_109 _ rfl) ?_
          refine pm_callV (As := [.int (-1000001)]) (rest := []) hG hR dX11_sheet_61 (lkX11_97 _ rfl) okV_X11_told rfl rfl (sx_told (d := 1) (by decide) rfl rfl) rfl rfl hdd (Nat.le_refl _) (Nat.le_refl _) (by decide) (pm_ki (fun v8 σ' cnt' hq => ?_))
          obtain ⟨ev8, ⟨g8, hg8⟩, hc8⟩ := hq
          obtain ⟨I8, A8, rfl, rfl, h8⟩ := hv_a53 (kp := kp) (I := I4) (A := A4) h4 ⟨hg8, hc8⟩
          subst ev8
          exact pm_iret hG hF dX11_sheet_64 rfl (Nat.le_refl _) (Nat.le_refl _) ⟨_, rfl, (vS_d (by decide) hW4 c2 (Int32.not_lt.mpr c5) (Int32.not_le.mp c6)).symm, by rw [tSh_n (c := 3) (vS_d (by decide) hW4 c2 (Int32.not_lt.mpr c5) (Int32.not_le.mp c6)) (by decide)]; exact ⟨_, _, rfl, rfl, h8⟩⟩
      · refine pm_aloadn hG dX11_sheet_41 rfl ?_
        refine pm_ldc hG dX11_sheet_42 (ctX11_138 _ rfl) ?_
        refine pm_callV (As := [.int (-1000003)]) (rest := []) hG hR dX11_sheet_44 (lkX11_97 _ rfl) okV_X11_told rfl rfl (sx_told (d := 1) (by decide) rfl rfl) rfl rfl hdd (Nat.le_refl _) (Nat.le_refl _) (by decide) (pm_ki (fun v9 σ' cnt' hq => ?_))
        obtain ⟨ev9, ⟨g9, hg9⟩, hc9⟩ := hq
        obtain ⟨I9, A9, rfl, rfl, h9⟩ := hv_a53 (kp := kp) (I := I4) (A := A4) h4 ⟨hg9, hc9⟩
        subst ev9
        exact pm_iret hG hF dX11_sheet_47 rfl (Nat.le_refl _) (Nat.le_refl _) ⟨_, rfl, (vS_c (by decide) hW4 c2 (Int32.not_le.mp c5)).symm, by rw [tSh_n (c := 3) (vS_c (by decide) hW4 c2 (Int32.not_le.mp c5)) (by decide)]; exact ⟨_, _, rfl, rfl, h9⟩⟩
    · refine pm_if_ne (tgt := 33) hG dX11_sheet_23 rfl (fun q => absurd q (by decide)) (fun _ => ?_)
      refine pm_aloadn hG dX11_sheet_26 rfl ?_
      refine pm_ldc hG dX11_sheet_27 (ctX11_109 _ rfl) ?_
      refine pm_callV (As := [.int (-1000001)]) (rest := []) hG hR dX11_sheet_29 (lkX11_97 _ rfl) okV_X11_told rfl rfl (sx_told (d := 1) (by decide) rfl rfl) rfl rfl hdd (Nat.le_refl _) (Nat.le_refl _) (by decide) (pm_ki (fun v10 σ' cnt' hq => ?_))
      obtain ⟨ev10, ⟨g10, hg10⟩, hc10⟩ := hq
      obtain ⟨I10, A10, rfl, rfl, h10⟩ := hv_a53 (kp := kp) (I := I4) (A := A4) h4 ⟨hg10, hc10⟩
      subst ev10
      exact pm_iret hG hF dX11_sheet_32 rfl (Nat.le_refl _) (Nat.le_refl _) ⟨_, rfl, (vS_b c2 hW4).symm, by rw [tSh_n (c := 3) (vS_b c2 hW4) (by decide)]; exact ⟨_, _, rfl, rfl, h10⟩⟩

set_option maxRecDepth 100000 in
set_option maxHeartbeats 4000000 in
theorem g_sheetEo {ε : Nat → Int32} {d B cnt : Nat} {kp : Value} {ρ : pm_S} {I : Nat → Int32} {A : Nat → Nat → Int32} (hdd : 1 ≤ d) {za zb zc : Int32} (hS : za < 0 ∨ 3 < za) (h : gq ε I) : pm_met mX11_sheet d 0 0 B [.ref (B + 0), .int za, .int zb, .int zc] cnt (pm_two (cl_L B kp I A) ρ) (pm_Qi (fun v σ' cnt' => v = vS za zb zc ∧ hvq (tSh za.toNatClampNeg ε za zb zc) B kp ρ cnt σ' cnt')) := by
  refine pm_enter 0 (by decide) (Nat.le_of_ble_eq_true rfl) rfl (fun G hG hR hF => ?_)
  refine pm_aloadn hG dX11_sheet_0 rfl ?_
  refine pm_getf hG dX11_sheet_1 (flX11_74 _ rfl) rfl rfl ?_
  refine pm_iloadn hG dX11_sheet_4 rfl ?_
  refine pm_callV (As := [.int za]) (rest := []) hG hR dX11_sheet_5 (lkX11_251 _ rfl) okV_X8_has rfl rfl (sxe_has (d := 0)) rfl rfl hdd (Nat.le_refl _) (Nat.le_refl _) (by decide) (pm_ki (fun v1 σ' cnt' hq => ?_))
  obtain rfl : v1 = 0 := pm_hasO hq.1 hS
  obtain ⟨I1, A1, rfl, rfl, h1⟩ := hv_id (kp := kp) (I := I) (A := A) h hq.2
  refine pm_if_eq (tgt := 26) hG dX11_sheet_8 rfl (fun _ => ?_) (fun q => absurd q (by decide))
  refine pm_aloadn hG dX11_sheet_26 rfl ?_
  refine pm_ldc hG dX11_sheet_27 (ctX11_109 _ rfl) ?_
  refine pm_callV (As := [.int (-1000001)]) (rest := []) hG hR dX11_sheet_29 (lkX11_97 _ rfl) okV_X11_told rfl rfl (sx_told (d := 0) (by decide) rfl rfl) rfl rfl hdd (Nat.le_refl _) (Nat.le_refl _) (by decide) (pm_ki (fun v2 σ' cnt' hq => ?_))
  obtain ⟨ev2, ⟨g2, hg2⟩, hc2⟩ := hq
  obtain ⟨I2, A2, rfl, rfl, h2⟩ := hv_a53 (kp := kp) (I := I1) (A := A1) h1 ⟨hg2, hc2⟩
  subst ev2
  exact pm_iret hG hF dX11_sheet_32 rfl (Nat.le_refl _) (Nat.le_refl _) ⟨_, rfl, (vS_a hS).symm, by rw [tSh_n (vS_a hS) (by decide)]; exact ⟨_, _, rfl, rfl, h2⟩⟩

theorem g_sheetE {ε : Nat → Int32} {d B cnt : Nat} {kp : Value} {ρ : pm_S} {I : Nat → Int32} {A : Nat → Nat → Int32} {za zb zc : Int32} (hdd : 2 ≤ d) (h : gq ε I) : pm_met mX11_sheet d 0 0 B [.ref (B + 0), .int za, .int zb, .int zc] cnt (pm_two (cl_L B kp I A) ρ) (pm_Qi (fun v σ' cnt' => v = vS za zb zc ∧ hvq (tSh za.toNatClampNeg ε za zb zc) B kp ρ cnt σ' cnt')) := by
  by_cases q : za < 0 ∨ 3 < za
  · exact g_sheetEo (by omega) q h
  · rcases in4 q with rfl | rfl | rfl | rfl
    · rw [show Int32.toNatClampNeg 0 = 0 by decide]; exact g_sheetE0 (by omega) h
    · rw [show Int32.toNatClampNeg 1 = 1 by decide]; exact g_sheetE1 (by omega) h
    · rw [show Int32.toNatClampNeg 2 = 2 by decide]; exact g_sheetE2 (by omega) h
    · rw [show Int32.toNatClampNeg 3 = 3 by decide]; exact g_sheetE3 (by omega) h

set_option maxRecDepth 100000 in
set_option maxHeartbeats 4000000 in
theorem g_moveE {ε : Nat → Int32} {d B cnt : Nat} {kp : Value} {ρ : pm_S} {I : Nat → Int32} {A : Nat → Nat → Int32} (hdd : 3 ≤ d) {za zb zc zd ze : Int32} (h : gq ε I) : pm_met mX11_move d 0 0 B [.ref (B + 0), .int za, .int zb, .int zc, .int zd, .int ze] cnt (pm_two (cl_L B kp I A) ρ) (pm_Qi (fun v σ' cnt' => v = vM za zb zc zd ze (vbx (bS ε) za) (vbx (bS ε) zc) (vbx (zS ε) za) (vbx (zS ε) zc) ∧ hvq ε B kp ρ cnt σ' cnt')) := by
  refine pm_enter 0 (by decide) (Nat.le_of_ble_eq_true rfl) rfl (fun G hG hR hF => ?_)
  refine pm_aloadn hG dX11_move_0 rfl ?_
  refine pm_getf hG dX11_move_1 (flX11_74 _ rfl) rfl rfl ?_
  refine pm_iloadn hG dX11_move_4 rfl ?_
  refine pm_callV (As := [.int za]) (rest := []) hG hR dX11_move_5 (lkX11_251 _ rfl) okV_X8_has rfl rfl (sxe_has (d := 2)) rfl rfl hdd (Nat.le_refl _) (Nat.le_refl _) (by decide) (pm_ki (fun v1 σ' cnt' hq => ?_))
  have o1 := hq.1
  obtain ⟨I1, A1, rfl, rfl, h1⟩ := hv_id (kp := kp) (I := I) (A := A) h hq.2
  rcases pm_hasS o1 with ⟨rfl, hS1⟩ | ⟨rfl, hS1⟩
  · refine pm_if_eq (tgt := 22) hG dX11_move_8 rfl (fun q => absurd q (by decide)) (fun _ => ?_)
    refine pm_aloadn hG dX11_move_11 rfl ?_
    refine pm_getf hG dX11_move_12 (flX11_74 _ rfl) rfl rfl ?_
    refine pm_iloadn hG dX11_move_15 rfl ?_
    refine pm_callV (As := [.int zc]) (rest := []) hG hR dX11_move_16 (lkX11_251 _ rfl) okV_X8_has rfl rfl (sxe_has (d := 2)) rfl rfl hdd (Nat.le_refl _) (Nat.le_refl _) (by decide) (pm_ki (fun v2 σ' cnt' hq => ?_))
    have o2 := hq.1
    obtain ⟨I2, A2, rfl, rfl, h2⟩ := hv_id (kp := kp) (I := I1) (A := A1) h1 hq.2
    rcases pm_hasS o2 with ⟨rfl, hS2⟩ | ⟨rfl, hS2⟩
    · refine pm_if_ne (tgt := 29) hG dX11_move_19 rfl (fun _ => ?_) (fun q => absurd q (by decide))
      refine pm_aloadn hG dX11_move_29 rfl ?_
      refine pm_getf hG dX11_move_30 (flX11_74 _ rfl) rfl rfl ?_
      refine pm_iloadn hG dX11_move_33 rfl ?_
      refine pm_callV (As := [.int za]) (rest := []) hG hR dX11_move_34 (lkX11_255 _ rfl) okV_X8_isMissing rfl rfl (sxe_isMissing (d := 2) (f := pm4 (I2 200) (I2 201) (I2 202) (I2 203)) (by decide) rfl rfl) rfl rfl hdd (Nat.le_refl _) (Nat.le_refl _) (by decide) (pm_ki (fun v3 σ' cnt' hq => ?_))
      have o3 := hq.1
      rw [gq.b h2] at o3
      obtain ⟨I3, A3, rfl, rfl, h3⟩ := hv_id (kp := kp) (I := I2) (A := A2) h2 hq.2
      rcases b10 o3 with ⟨rfl, hM3⟩ | ⟨rfl, hM3⟩
      · refine pm_if_ne (tgt := 51) hG dX11_move_37 rfl (fun _ => ?_) (fun q => absurd q (by decide))
        refine pm_aloadn hG dX11_move_51 rfl ?_
        refine pm_ldc hG dX11_move_52 (ctX11_223 _ rfl) ?_
        refine pm_callV (As := [.int (-1000002)]) (rest := []) hG hR dX11_move_54 (lkX11_97 _ rfl) okV_X11_told rfl rfl (sx_told (d := 2) (by decide) rfl rfl) rfl rfl hdd (Nat.le_refl _) (Nat.le_refl _) (by decide) (pm_ki (fun v4 σ' cnt' hq => ?_))
        obtain ⟨ev4, ⟨g4, hg4⟩, hc4⟩ := hq
        obtain ⟨I4, A4, rfl, rfl, h4⟩ := hv_a53 (kp := kp) (I := I3) (A := A3) h3 ⟨hg4, hc4⟩
        subst ev4
        exact pm_iret hG hF dX11_move_57 rfl (Nat.le_refl _) (Nat.le_refl _) ⟨_, rfl, (vM_b hS1 hS2 (Or.inl hM3)).symm, _, _, rfl, rfl, h4⟩
      · refine pm_if_ne (tgt := 51) hG dX11_move_37 rfl (fun q => absurd q (by decide)) (fun _ => ?_)
        refine pm_aloadn hG dX11_move_40 rfl ?_
        refine pm_getf hG dX11_move_41 (flX11_74 _ rfl) rfl rfl ?_
        refine pm_iloadn hG dX11_move_44 rfl ?_
        refine pm_callV (As := [.int zc]) (rest := []) hG hR dX11_move_45 (lkX11_255 _ rfl) okV_X8_isMissing rfl rfl (sxe_isMissing (d := 2) (f := pm4 (I3 200) (I3 201) (I3 202) (I3 203)) (by decide) rfl rfl) rfl rfl hdd (Nat.le_refl _) (Nat.le_refl _) (by decide) (pm_ki (fun v5 σ' cnt' hq => ?_))
        have o5 := hq.1
        rw [gq.b h3] at o5
        obtain ⟨I5, A5, rfl, rfl, h5⟩ := hv_id (kp := kp) (I := I3) (A := A3) h3 hq.2
        rcases b10 o5 with ⟨rfl, hM5⟩ | ⟨rfl, hM5⟩
        · refine pm_if_eq (tgt := 58) hG dX11_move_48 rfl (fun q => absurd q (by decide)) (fun _ => ?_)
          refine pm_aloadn hG dX11_move_51 rfl ?_
          refine pm_ldc hG dX11_move_52 (ctX11_223 _ rfl) ?_
          refine pm_callV (As := [.int (-1000002)]) (rest := []) hG hR dX11_move_54 (lkX11_97 _ rfl) okV_X11_told rfl rfl (sx_told (d := 2) (by decide) rfl rfl) rfl rfl hdd (Nat.le_refl _) (Nat.le_refl _) (by decide) (pm_ki (fun v6 σ' cnt' hq => ?_))
          obtain ⟨ev6, ⟨g6, hg6⟩, hc6⟩ := hq
          obtain ⟨I6, A6, rfl, rfl, h6⟩ := hv_a53 (kp := kp) (I := I5) (A := A5) h5 ⟨hg6, hc6⟩
          subst ev6
          exact pm_iret hG hF dX11_move_57 rfl (Nat.le_refl _) (Nat.le_refl _) ⟨_, rfl, (vM_b hS1 hS2 (Or.inr hM5)).symm, _, _, rfl, rfl, h6⟩
        · refine pm_if_eq (tgt := 58) hG dX11_move_48 rfl (fun _ => ?_) (fun q => absurd q (by decide))
          refine pm_aloadn hG dX11_move_58 rfl ?_
          refine pm_getf hG dX11_move_59 (flX11_74 _ rfl) rfl rfl ?_
          refine pm_iloadn hG dX11_move_62 rfl ?_
          refine pm_callV (As := [.int za]) (rest := []) hG hR dX11_move_63 (lkX11_258 _ rfl) okV_X8_bitsOf rfl rfl (sxe_bitsOf (d := 2) (f := pm4 (I5 200) (I5 201) (I5 202) (I5 203)) rfl rfl) rfl rfl hdd (Nat.le_refl _) (Nat.le_refl _) (by decide) (pm_ki (fun v7 σ' cnt' hq => ?_))
          obtain rfl : v7 = vbx (bS ε) za := hq.1.trans (by rw [gq.b h5])
          obtain ⟨I7, A7, rfl, rfl, h7⟩ := hv_id (kp := kp) (I := I5) (A := A5) h5 hq.2
          refine pm_aloadn hG dX11_move_66 rfl ?_
          refine pm_getf hG dX11_move_67 (flX11_74 _ rfl) rfl rfl ?_
          refine pm_iloadn hG dX11_move_70 rfl ?_
          refine pm_callV (As := [.int zc]) (rest := [.int (vbx (bS ε) za)]) hG hR dX11_move_71 (lkX11_258 _ rfl) okV_X8_bitsOf rfl rfl (sxe_bitsOf (d := 2) (f := pm4 (I7 200) (I7 201) (I7 202) (I7 203)) rfl rfl) rfl rfl hdd (Nat.le_refl _) (Nat.le_refl _) (by first | decide | exact Nat.le_of_ble_eq_true rfl) (pm_ki (fun v8 σ' cnt' hq => ?_))
          obtain rfl : v8 = vbx (bS ε) zc := hq.1.trans (by rw [gq.b h7])
          obtain ⟨I8, A8, rfl, rfl, h8⟩ := hv_id (kp := kp) (I := I7) (A := A7) h7 hq.2
          refine pm_icmp_eq (tgt := 84) hG dX11_move_74 rfl (fun c9 => ?_) (fun c9 => ?_)
          · refine pm_aloadn hG dX11_move_84 rfl ?_
            refine pm_getf hG dX11_move_85 (flX11_74 _ rfl) rfl rfl ?_
            refine pm_iloadn hG dX11_move_88 rfl ?_
            refine pm_iloadn hG dX11_move_89 rfl ?_
            refine pm_iloadi hG dX11_move_90 rfl ?_
            refine pm_callV (As := [.int za, .int zb, .int ze]) (rest := []) hG hR dX11_move_92 (lkX11_370 _ rfl) okV_X8_stand rfl rfl (sxe_stand (d := 2) (f := pm4 (I8 204) (I8 205) (I8 206) (I8 207)) (by decide) rfl rfl) rfl rfl hdd (Nat.le_refl _) (Nat.le_refl _) (by decide) (pm_ki (fun v10 σ' cnt' hq => ?_))
            have o10 := hq.1
            rw [gq.z h8] at o10
            obtain ⟨I10, A10, rfl, rfl, h10⟩ := hv_id (kp := kp) (I := I8) (A := A8) h8 hq.2
            rcases stO_b o10 with ⟨rfl, hT10⟩ | ⟨rfl, hT10⟩
            · refine pm_if_eq (tgt := 113) hG dX11_move_95 rfl (fun q => absurd q (by decide)) (fun _ => ?_)
              refine pm_aloadn hG dX11_move_98 rfl ?_
              refine pm_getf hG dX11_move_99 (flX11_74 _ rfl) rfl rfl ?_
              refine pm_iloadn hG dX11_move_102 rfl ?_
              refine pm_iloadi hG dX11_move_103 rfl ?_
              refine pm_iloadi hG dX11_move_105 rfl ?_
              refine pm_callV (As := [.int zc, .int zd, .int ze]) (rest := []) hG hR dX11_move_107 (lkX11_370 _ rfl) okV_X8_stand rfl rfl (sxe_stand (d := 2) (f := pm4 (I10 204) (I10 205) (I10 206) (I10 207)) (by decide) rfl rfl) rfl rfl hdd (Nat.le_refl _) (Nat.le_refl _) (by decide) (pm_ki (fun v11 σ' cnt' hq => ?_))
              have o11 := hq.1
              rw [gq.z h10] at o11
              obtain ⟨I11, A11, rfl, rfl, h11⟩ := hv_id (kp := kp) (I := I10) (A := A10) h10 hq.2
              rcases stO_b o11 with ⟨rfl, hT11⟩ | ⟨rfl, hT11⟩
              · refine pm_if_ne (tgt := 120) hG dX11_move_110 rfl (fun _ => ?_) (fun q => absurd q (by decide))
                refine pm_aloadn hG dX11_move_120 rfl ?_
                refine pm_getf hG dX11_move_121 (flX11_74 _ rfl) rfl rfl ?_
                refine pm_iloadn hG dX11_move_124 rfl ?_
                refine pm_iloadn hG dX11_move_125 rfl ?_
                refine pm_iloadn hG dX11_move_126 rfl ?_
                refine pm_iloadi hG dX11_move_127 rfl ?_
                refine pm_iloadi hG dX11_move_129 rfl ?_
                refine pm_callV (As := [.int za, .int zb, .int zc, .int zd, .int ze]) (rest := []) hG hR dX11_move_131 (lkX11_373 _ rfl) okV_X8_transfer rfl rfl (g_X8_transfer (d := 2) (by decide) h11) rfl rfl hdd (Nat.le_refl _) (Nat.le_refl _) (by decide) (pm_kv (fun σ' cnt' hq => ?_))
                obtain ⟨I12, A12, rfl, rfl, h12⟩ := hq
                refine pm_iloadi hG dX11_move_134 rfl ?_
                exact pm_iret hG hF dX11_move_136 rfl (Nat.le_refl _) (Nat.le_refl _) ⟨_, rfl, (vM_e hS1 hS2 hM3 hM5 c9 hT10 hT11).symm, _, _, rfl, rfl, h12⟩
              · refine pm_if_ne (tgt := 120) hG dX11_move_110 rfl (fun q => absurd q (by decide)) (fun _ => ?_)
                refine pm_aloadn hG dX11_move_113 rfl ?_
                refine pm_ldc hG dX11_move_114 (ctX11_109 _ rfl) ?_
                refine pm_callV (As := [.int (-1000001)]) (rest := []) hG hR dX11_move_116 (lkX11_97 _ rfl) okV_X11_told rfl rfl (sx_told (d := 2) (by decide) rfl rfl) rfl rfl hdd (Nat.le_refl _) (Nat.le_refl _) (by decide) (pm_ki (fun v13 σ' cnt' hq => ?_))
                obtain ⟨ev13, ⟨g13, hg13⟩, hc13⟩ := hq
                obtain ⟨I13, A13, rfl, rfl, h13⟩ := hv_a53 (kp := kp) (I := I11) (A := A11) h11 ⟨hg13, hc13⟩
                subst ev13
                exact pm_iret hG hF dX11_move_119 rfl (Nat.le_refl _) (Nat.le_refl _) ⟨_, rfl, (vM_d hS1 hS2 hM3 hM5 c9 (Or.inr hT11)).symm, _, _, rfl, rfl, h13⟩
            · refine pm_if_eq (tgt := 113) hG dX11_move_95 rfl (fun _ => ?_) (fun q => absurd q (by decide))
              refine pm_aloadn hG dX11_move_113 rfl ?_
              refine pm_ldc hG dX11_move_114 (ctX11_109 _ rfl) ?_
              refine pm_callV (As := [.int (-1000001)]) (rest := []) hG hR dX11_move_116 (lkX11_97 _ rfl) okV_X11_told rfl rfl (sx_told (d := 2) (by decide) rfl rfl) rfl rfl hdd (Nat.le_refl _) (Nat.le_refl _) (by decide) (pm_ki (fun v14 σ' cnt' hq => ?_))
              obtain ⟨ev14, ⟨g14, hg14⟩, hc14⟩ := hq
              obtain ⟨I14, A14, rfl, rfl, h14⟩ := hv_a53 (kp := kp) (I := I10) (A := A10) h10 ⟨hg14, hc14⟩
              subst ev14
              exact pm_iret hG hF dX11_move_119 rfl (Nat.le_refl _) (Nat.le_refl _) ⟨_, rfl, (vM_d hS1 hS2 hM3 hM5 c9 (Or.inl hT10)).symm, _, _, rfl, rfl, h14⟩
          · refine pm_aloadn hG dX11_move_77 rfl ?_
            refine pm_ldc hG dX11_move_78 (ctX11_184 _ rfl) ?_
            refine pm_callV (As := [.int (-1000005)]) (rest := []) hG hR dX11_move_80 (lkX11_97 _ rfl) okV_X11_told rfl rfl (sx_told (d := 2) (by decide) rfl rfl) rfl rfl hdd (Nat.le_refl _) (Nat.le_refl _) (by decide) (pm_ki (fun v15 σ' cnt' hq => ?_))
            obtain ⟨ev15, ⟨g15, hg15⟩, hc15⟩ := hq
            obtain ⟨I15, A15, rfl, rfl, h15⟩ := hv_a53 (kp := kp) (I := I8) (A := A8) h8 ⟨hg15, hc15⟩
            subst ev15
            exact pm_iret hG hF dX11_move_83 rfl (Nat.le_refl _) (Nat.le_refl _) ⟨_, rfl, (vM_c hS1 hS2 hM3 hM5 c9).symm, _, _, rfl, rfl, h15⟩
    · refine pm_if_ne (tgt := 29) hG dX11_move_19 rfl (fun q => absurd q (by decide)) (fun _ => ?_)
      refine pm_aloadn hG dX11_move_22 rfl ?_
      refine pm_ldc hG dX11_move_23 (ctX11_109 _ rfl) ?_
      refine pm_callV (As := [.int (-1000001)]) (rest := []) hG hR dX11_move_25 (lkX11_97 _ rfl) okV_X11_told rfl rfl (sx_told (d := 2) (by decide) rfl rfl) rfl rfl hdd (Nat.le_refl _) (Nat.le_refl _) (by decide) (pm_ki (fun v16 σ' cnt' hq => ?_))
      obtain ⟨ev16, ⟨g16, hg16⟩, hc16⟩ := hq
      obtain ⟨I16, A16, rfl, rfl, h16⟩ := hv_a53 (kp := kp) (I := I2) (A := A2) h2 ⟨hg16, hc16⟩
      subst ev16
      exact pm_iret hG hF dX11_move_28 rfl (Nat.le_refl _) (Nat.le_refl _) ⟨_, rfl, (vM_a (Or.inr hS2)).symm, _, _, rfl, rfl, h16⟩
  · refine pm_if_eq (tgt := 22) hG dX11_move_8 rfl (fun _ => ?_) (fun q => absurd q (by decide))
    refine pm_aloadn hG dX11_move_22 rfl ?_
    refine pm_ldc hG dX11_move_23 (ctX11_109 _ rfl) ?_
    refine pm_callV (As := [.int (-1000001)]) (rest := []) hG hR dX11_move_25 (lkX11_97 _ rfl) okV_X11_told rfl rfl (sx_told (d := 2) (by decide) rfl rfl) rfl rfl hdd (Nat.le_refl _) (Nat.le_refl _) (by decide) (pm_ki (fun v17 σ' cnt' hq => ?_))
    obtain ⟨ev17, ⟨g17, hg17⟩, hc17⟩ := hq
    obtain ⟨I17, A17, rfl, rfl, h17⟩ := hv_a53 (kp := kp) (I := I1) (A := A1) h1 ⟨hg17, hc17⟩
    subst ev17
    exact pm_iret hG hF dX11_move_28 rfl (Nat.le_refl _) (Nat.le_refl _) ⟨_, rfl, (vM_a (Or.inl hS1)).symm, _, _, rfl, rfl, h17⟩
