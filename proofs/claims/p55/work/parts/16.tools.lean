/-! ===== a fresh object: tools ===== -/
def pm_ofL (L : List pm_C) : pm_S := fun k => L[k]?
theorem pm_lies.up {σ : pm_S} {k a : Nat} {L : List pm_C} {x : pm_C} (h : a < k ∨ k + L.length ≤ a) (h1 : pm_lies σ k L) : pm_lies (pm_up σ a x) k L := by
  intro i y hy
  have hi : i < L.length := (List.getElem?_eq_some_iff.mp hy).1
  rw [pm_up_ne _ _ (by omega)]
  exact h1 i y hy
theorem pm_lies.up0 {σ : pm_S} {k a : Nat} {L : List pm_C} {x : pm_C} (h : a < k) (h1 : pm_lies σ k L) : pm_lies (pm_up σ a x) k L := h1.up (Or.inl h)
theorem pm_lies_cat {σ : pm_S} {k : Nat} {L : List pm_C} : pm_lies (pm_cat σ k L) k L := by
  intro i x h
  unfold pm_cat
  rw [if_neg (by omega), show k + i - k = i by omega]
  exact h
theorem pm_lies_sub {σ : pm_S} {k : Nat} {L : List pm_C} (h : pm_lies σ k L) : pm_sub (pm_cat (fun _ => none) k L) σ := by
  intro j x hj
  unfold pm_cat at hj
  split at hj
  · cases hj
  · have h3 := h (j - k) x hj
    rw [show k + (j - k) = j by omega] at h3
    exact h3
theorem pm_le0 (x : Int32) : x < 0 ∨ 0 ≤ x := by
  simp only [Int32.lt_iff_toInt_lt, Int32.le_iff_toInt_le]; omega
theorem pm_has0 (x : Int32) : (if x < 0 ∨ (0 : Int32) ≤ x then (0 : Int32) else 1) = 0 := if_pos (pm_le0 x)
theorem pm_out0 (x : Int32) : x < 0 ∨ (-1 : Int32) < x := by
  have h : (-1 : Int32).toInt = -1 := by decide
  simp only [Int32.lt_iff_toInt_lt, h, Int32.toInt_zero]; omega
theorem pm_in0 (x : Int32) : (if x < 0 ∨ (-1 : Int32) < x then (0 : Int32) else 1) = 0 := if_pos (pm_out0 x)
theorem pm_told_in {k : Int64} (h1 : ¬ lg_cmp k 1 < 0) (h3 : ¬ 0 ≤ lg_cmp k 6) : vp_in k.toInt32 6 := by
  have a1 : 1 ≤ k.toInt := by
    by_cases h : k < 1
    · exfalso; apply h1; unfold lg_cmp
      rw [if_neg (by simp only [GT.gt, Int64.lt_iff_toInt_lt] at h ⊢; omega), if_neg (by rintro rfl; simp at h)]; decide
    · simp only [Int64.lt_iff_toInt_lt] at h
      have : (1 : Int64).toInt = 1 := by decide
      omega
  have a2 : k.toInt < 6 := by
    by_cases h : k < 6
    · simp only [Int64.lt_iff_toInt_lt] at h
      have : (6 : Int64).toInt = 6 := by decide
      omega
    · exfalso; apply h3; unfold lg_cmp
      split
      · decide
      · split
        · decide
        · next q1 q2 =>
          exfalso
          apply q2
          apply Int64.toInt_inj.mp
          simp only [GT.gt, Int64.lt_iff_toInt_lt] at h q1
          omega
  rw [vp_in_iff, Int64.toInt_toInt32]
  rw [Int.bmod_eq_of_le (by omega) (by omega)]
  exact ⟨by omega, a2⟩
theorem pm_tg_zero (r w a b : Int32) : pm_tg r w (fun _ => 0) a b = 0 := by unfold pm_tg; split <;> rfl
theorem pm_so {p : Prop} (h : p) : p := h
theorem pm_1_400 {x : Int32} (h : ¬ (x < 1 ∨ 400 < x)) : ∃ n : Nat, (1 ≤ n ∧ n ≤ 400) ∧ x = nI n := by
  have a1 : (1 : Int32).toInt = 1 := by decide
  have a2 : (400 : Int32).toInt = 400 := by decide
  simp only [Int32.lt_iff_toInt_lt, a1, a2] at h
  refine ⟨x.toInt.toNat, by omega, ?_⟩
  apply Int32.toInt_inj.mp
  rw [nI_toInt (by omega)]
  omega
theorem pm_updd (f : Nat → Int32) (k : Nat) (x y : Int32) : upd (upd f k x) k y = upd f k y := by
  funext j; unfold upd; split <;> rfl
theorem pm_upd_id {f : Nat → Int32} {k : Nat} {x : Int32} (h : f k = x) : upd f k x = f := by
  funext j; unfold upd; split
  · next e => rw [e, h]
  · rfl
/-- fewer locals are known -/
theorem pm_fl0 {M : pm_M} {G : pm_G} {B pc : Nat} {loc loc' : List (Option Value)} {st : List Value} {cs zs cnt : Nat} {σ : pm_S} (h : ∀ (j : Nat) (v : Value), loc'[j]? = some (some v) → loc[j]? = some (some v)) (k : pm_wp M G B pc loc' st cs zs cnt σ) : pm_wp M G B pc loc st cs zs cnt σ := by
  intro H ls locs h1 h2 h3 h4
  refine k H ls locs h1 h2 ⟨h3.1, h3.2.1, fun q hq => ?_⟩ h4
  obtain ⟨j, e1, e2⟩ := (pm_lv_mem q loc' 0).mp hq
  have e3 := h3.at (h j q.2 e2)
  rw [show q.1 = j by omega]
  exact e3
theorem pm_lies.catr {σ : pm_S} {k a : Nat} {L L2 : List pm_C} (h : k + L.length ≤ a) (h1 : pm_lies σ k L) : pm_lies (pm_cat σ a L2) k L := by
  intro i x hx
  have hi : i < L.length := (List.getElem?_eq_some_iff.mp hx).1
  unfold pm_cat
  rw [if_pos (by omega)]
  exact h1 i x hx
theorem pm_old.trx {k : Nat} {σ σ' : pm_S} {x : pm_C} (h : pm_old k (pm_up σ k x) σ') : pm_old k σ σ' := fun j hj => (h j hj).trans (pm_up_ne _ _ (by omega))
