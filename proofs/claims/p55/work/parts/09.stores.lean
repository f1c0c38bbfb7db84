/-! ===== stores: weaker ones, what stays, regions ===== -/
theorem pm_up_up (σ : pm_S) (k : Nat) (x y : pm_C) : pm_up (pm_up σ k x) k y = pm_up σ k y := by
  funext j; unfold pm_up; split <;> rfl
theorem pm_up_comm (σ : pm_S) {k j : Nat} (x y : pm_C) (h : k ≠ j) : pm_up (pm_up σ j x) k y = pm_up (pm_up σ k y) j x := by
  funext i
  unfold pm_up
  by_cases h1 : i = k
  · subst h1; simp [h]
  · simp [h1]
def pm_sub (σ2 σ : pm_S) : Prop := ∀ (k : Nat) (x : pm_C), σ2 k = some x → σ k = some x
theorem pm_weak {M : pm_M} {G : pm_G} {B pc : Nat} {loc : List (Option Value)} {st : List Value} {cs zs cnt : Nat} {σ σ2 : pm_S} (h : pm_sub σ2 σ) (k : pm_wp M G B pc loc st cs zs cnt σ2) : pm_wp M G B pc loc st cs zs cnt σ :=
  fun H ls locs h1 h2 h3 h4 => k H ls locs ⟨h1.1, fun j x hj => h1.2 j x (h j x hj)⟩ h2 h3 h4
/-- a store that is old below k and the list L from k on -/
def pm_cat (σ : pm_S) (k : Nat) (L : List pm_C) : pm_S := fun j => if j < k then σ j else L[j - k]?
def pm_old (k : Nat) (σ σ' : pm_S) : Prop := ∀ j, j < k → σ' j = σ j
theorem pm_old.rf {k : Nat} {σ : pm_S} : pm_old k σ σ := fun _ _ => rfl
theorem pm_old.up {k a : Nat} {σ σ' : pm_S} {x : pm_C} (h : k ≤ a) (h1 : pm_old k σ σ') : pm_old k σ (pm_up σ' a x) := fun j hj => (pm_up_ne _ _ (by omega)).trans (h1 j hj)
theorem pm_old.cat {k a : Nat} {σ σ' : pm_S} {L : List pm_C} (h : k ≤ a) (h1 : pm_old k σ σ') : pm_old k σ (pm_cat σ' a L) := fun j hj => by
  unfold pm_cat
  rw [if_pos (by omega)]
  exact h1 j hj
theorem pm_old.tr {k : Nat} {σ σ1 σ2 : pm_S} (h : pm_old k σ σ1) (h2 : pm_old k σ1 σ2) : pm_old k σ σ2 := fun j hj => (h2 j hj).trans (h j hj)
theorem pm_old.le {k k2 : Nat} {σ σ1 : pm_S} (h : pm_old k2 σ σ1) (hk : k ≤ k2) : pm_old k σ σ1 := fun j hj => h j (by omega)
/-- the list lies in the store from k on -/
def pm_lies (σ : pm_S) (k : Nat) (L : List pm_C) : Prop := ∀ (i : Nat) (x : pm_C), L[i]? = some x → σ (k + i) = some x
theorem pm_lies_nil {σ : pm_S} {k : Nat} : pm_lies σ k [] := fun i x h => by simp at h
theorem pm_lies_cons {σ : pm_S} {k : Nat} {x : pm_C} {L : List pm_C} (h : σ k = some x) (h2 : pm_lies σ (k + 1) L) : pm_lies σ k (x :: L) := by
  intro i y hy
  cases i with
  | zero => have h3 : x = y := by simpa using hy
            subst h3; exact h
  | succ i => have h4 := h2 i y (by simpa using hy)
              rw [show k + (i + 1) = k + 1 + i by omega]; exact h4
theorem pm_cat_sub {σ σ' : pm_S} {k : Nat} {L : List pm_C} (h1 : pm_old k σ σ') (h2 : pm_lies σ' k L) : pm_sub (pm_cat σ k L) σ' := by
  intro j x hj
  unfold pm_cat at hj
  split at hj
  · next h => rw [h1 j h]; exact hj
  · next h =>
    have h3 := h2 (j - k) x hj
    rw [show k + (j - k) = j by omega] at h3
    exact h3
def pm_mwmin : pm_mw Lib.Math.min.name Lib.Math.min.code 2 := by unfold pm_mw; exact ⟨by decide +kernel, by decide +kernel, by decide +kernel⟩
def pm_mwmax : pm_mw Lib.Math.max.name Lib.Math.max.code 2 := by unfold pm_mw; exact ⟨by decide +kernel, by decide +kernel, by decide +kernel⟩
def pm_cwok : pm_cw := by unfold pm_cw; exact ⟨by decide +kernel, by decide +kernel, by decide +kernel⟩
theorem pm_tw_of (R W : Nat) (h : R * W < 2 ^ 31) (hR : R < 2 ^ 31) (hW : W < 2 ^ 31) : pm_tw (nI R) (nI W) (R * W) := by
  intro r c h1 h2 h3 h4
  obtain ⟨i, hi, rfl⟩ := (pk_ix r hR).resolve_left h1 |>.resolve_left h2
  obtain ⟨j, hj, rfl⟩ := (pk_ix c hW).resolve_left h3 |>.resolve_left h4
  rw [pk_mul, nI_add]
  refine vp_in_nI ?_ h
  have h5 : (i + 1) * W ≤ R * W := Nat.mul_le_mul_right W hi
  rw [Nat.succ_mul] at h5
  omega
