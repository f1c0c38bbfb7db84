/-! ===== pure: more tools ===== -/
theorem out_n {x A B : Int32} (a b : Nat) (hA : A = nI a) (hB : B = nI b) (ha : a < 2 ^ 31) (hb : b < 2 ^ 31) (h : fOut x A B = 0) : ∃ k : Nat, (a ≤ k ∧ k ≤ b) ∧ x = nI k := by
  subst hA hB
  have h2 : ¬ (x < nI a ∨ nI b < x) := by
    intro q; unfold fOut at h; rw [if_pos q] at h; exact absurd h (by decide)
  exact in_nat ha hb (fun q => h2 (Or.inl q)) (fun q => h2 (Or.inr q))
theorem apf_o {W u j : Nat} {x : Int32} {f : Nat → Int32} (h : j < W * u) : pm_apf W u x f j = f j := by
  unfold pm_apf
  rw [Nat.mul_comm] at h
  rw [if_neg (by omega)]
theorem apf_0 {W u j : Nat} {x : Int32} {f : Nat → Int32} (h : j = W * u) (hW : 1 ≤ W) : pm_apf W u x f j = x := by
  unfold pm_apf
  rw [Nat.mul_comm] at h
  rw [if_pos (by omega), if_pos h]
theorem apf_c {W u j : Nat} {x : Int32} {f : Nat → Int32} (h1 : W * u < j) (h2 : j < W * u + W) : pm_apf W u x f j = 0 := by
  unfold pm_apf
  rw [Nat.mul_comm] at h1 h2
  rw [if_pos (by omega), if_neg (by omega)]
theorem vL.o {P e : Nat} {n : Nat → Int32} {x v : Int32} (h : vL P n x) (hP : P ≤ 20) (he : e < 110 ∨ 390 ≤ e) : vL P (upd n e v) x := by
  rcases h with h | ⟨q, h1, h2, h3⟩
  · exact Or.inl h
  · exact Or.inr ⟨q, h1, h2, by rw [pk_un (by omega)]; exact h3⟩
section PWR
variable {K : Nat → Nat} {S T : FS} {f n : Nat → Int32}
theorem RelR.lon (h : RelR K S (T.2 55)) (x : Int32) : (x = -1 ∧ p_X7_isLivingOrNobody S x = 1) ∨ (x ≠ -1 ∧ p_X12_isPerson T x = 0 ∧ p_X7_isLivingOrNobody S x = 0) ∨ (x ≠ -1 ∧ p_X12_isPerson T x = 1 ∧ q_X12_lives T x = some 0 ∧ p_X7_isLivingOrNobody S x = 0) ∨ (x ≠ -1 ∧ (∃ p : Nat, p < K 2 ∧ x = nI p ∧ T.2 55 (14 * p + 119) = -1) ∧ p_X12_isPerson T x = 1 ∧ q_X12_lives T x = some 1 ∧ p_X7_isLivingOrNobody S x = 1) := by
  unfold p_X7_isLivingOrNobody
  by_cases c : x = -1
  · left; exact ⟨c, if_pos c⟩
  · right
    rw [if_neg c]
    rcases h.per x with ⟨c1, m1⟩ | ⟨p, hp, rfl, c1, m1⟩
    · left
      refine ⟨c, m1, ?_⟩
      have : p_X7_isLiving S x = 0 := by unfold p_X7_isLiving; rw [if_pos c1]
      rw [if_pos this]
    · right
      rcases h.liv hp with ⟨l1, l2, l3⟩ | ⟨l1, l2, -, l3, l4⟩
      · right
        exact ⟨c, ⟨p, hp, rfl, l1⟩, m1, l3, by rw [l2]; rfl⟩
      · left
        exact ⟨c, m1, l4, by rw [l3]; rfl⟩
theorem kind_all : ∀ (k z : Fin 6), l_X7_isOfKind_13 (nI z.val) (fun _ _ => some 0) FU (nI k.val) 0 = some (p_X12_isUnder (fun _ => 0, fun _ _ => 0) (nI k.val) (nI z.val)) := by decide +kernel
theorem RelR.kind (h : RelR K S (T.2 55)) {w z : Nat} (hw : w < K 3) (hz : z < 6) : q_X7_isOfKind S (nI w) (nI z) = some (p_X12_isUnder T (T.2 55 (6 * w + 390)) (nI z)) := by
  have c3 := (h.ct 8 3 20 (by decide)).2.2
  obtain ⟨⟨h1, -⟩, -, -, ⟨k, hk, e⟩, -⟩ := h.pw w hw
  unfold q_X7_isOfKind
  rw [fv_s, g8_0 (by omega), h1, e]
  exact kind_all ⟨k, by omega⟩ ⟨z, hz⟩
theorem under2 {T : FS} {x : Int32} : p_X12_isUnder T x 2 = if x = 2 then 1 else 0 := by
  unfold p_X12_isUnder
  by_cases c : x = 2
  · subst c; rfl
  · rw [if_neg (by decide), if_neg c, if_neg (by decide), if_neg (by decide), if_neg c]
/-- a column of powers that both have: holder, lent, till -/
theorem RPw.hold {w : Nat} {x : Int32} (h : RPw K f n) (b : K 3 ≤ 20) (b2 : K 2 ≤ 20) (hw : w < K 3) (hx : vL (K 2) n x) : RPw K (upd f (6 * w + 2) x) (upd n (6 * w + 391) x) := by
  intro q hq
  have h1 := h q hq
  by_cases e : q = w
  · subst e
    simp (disch := omega) only [pk_us, pk_un]
    exact ⟨⟨h1.1.1, h1.1.2.1, trivial, h1.1.2.2.2⟩, h1.2.1, h1.2.2.1, h1.2.2.2.1, hx.o b2 (by omega), h1.2.2.2.2.2.1.o b2 (by omega), h1.2.2.2.2.2.2⟩
  · simp (disch := omega) only [pk_un]
    exact ⟨h1.1, h1.2.1, h1.2.2.1, h1.2.2.2.1, h1.2.2.2.2.1.o b2 (by omega), h1.2.2.2.2.2.1.o b2 (by omega), h1.2.2.2.2.2.2⟩
/-- lent and till, together -/
theorem RPw.lent {w : Nat} {x y : Int32} (h : RPw K f n) (b : K 3 ≤ 20) (b2 : K 2 ≤ 20) (hw : w < K 3) (hx : vL (K 2) n x) (hy : x = -1 → y = -1) : RPw K (upd (upd f (6 * w + 3) x) (6 * w + 4) y) (upd (upd n (6 * w + 392) x) (6 * w + 393) y) := by
  intro q hq
  have h1 := h q hq
  have o2 : ∀ z : Int32, vL (K 2) n z → vL (K 2) (upd (upd n (6 * w + 392) x) (6 * w + 393) y) z := fun z hz => (hz.o b2 (by omega)).o b2 (by omega)
  by_cases e : q = w
  · subst e
    simp (disch := omega) only [pk_us, pk_un]
    exact ⟨⟨h1.1.1, h1.1.2.1, h1.1.2.2.1, trivial, trivial⟩, h1.2.1, h1.2.2.1, h1.2.2.2.1, o2 _ h1.2.2.2.2.1, o2 _ hx, h1.2.2.2.2.2.2.1, hy⟩
  · simp (disch := omega) only [pk_un]
    exact ⟨h1.1, h1.2.1, h1.2.2.1, h1.2.2.2.1, o2 _ h1.2.2.2.2.1, o2 _ h1.2.2.2.2.2.1, h1.2.2.2.2.2.2⟩
theorem upd_id {f : Nat → Int32} {k : Nat} {x : Int32} (h : f k = x) : upd f k x = f := by
  funext j
  by_cases c : j = k
  · subst c; rw [pk_us, h]
  · rw [pk_un c]
theorem vP.lt {P : Nat} {x : Int32} (h : vP P x) (hP : P < 2 ^ 31) : x < 0 ↔ x = -1 := by
  rcases h with rfl | ⟨p, h1, rfl⟩
  · exact ⟨fun _ => rfl, fun _ => by decide⟩
  · exact ⟨fun q => absurd q (nI_pos (by omega)), fun q => absurd q (nI_m1 (by omega))⟩
theorem vL.vP {P : Nat} {x : Int32} (h : vL P n x) : vP P x := by
  rcases h with h | ⟨p, h1, h2, -⟩
  · exact Or.inl h
  · exact Or.inr ⟨p, h1, h2⟩
theorem nB.m1 {m : Nat} {x : Int32} (h : nB m x) (hm : m < 2 ^ 31) : x ≠ -1 ∧ ¬ x < 0 := by
  obtain ⟨k, h1, rfl⟩ := h
  exact ⟨nI_m1 (by omega), nI_pos (by omega)⟩
end PWR
