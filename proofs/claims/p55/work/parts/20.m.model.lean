/-! ===== the model's states: cells 54 .. 73 ===== -/
def pm_mid (σ : pm_S) (L : List pm_C) : pm_S := fun j => if j < 54 then σ j else if j < 74 then L[j - 54]? else σ j
theorem pm_mid_up {σ : pm_S} {L : List pm_C} {k : Nat} {x : pm_C} (h1 : 54 ≤ k) (h2 : k < 74) (hl : k - 54 < L.length) : pm_up (pm_mid σ L) k x = pm_mid σ (L.set (k - 54) x) := by
  funext j
  unfold pm_up pm_mid
  by_cases h : j = k
  · subst h
    rw [if_pos rfl, if_neg (by omega), if_pos h2, List.getElem?_set_self hl]
  · rw [if_neg h]
    by_cases h3 : j < 54
    · rw [if_pos h3, if_pos h3]
    · rw [if_neg h3, if_neg h3]
      by_cases h4 : j < 74
      · rw [if_pos h4, if_pos h4, List.getElem?_set_ne (by omega)]
      · rw [if_neg h4, if_neg h4]
def md_F (B : Nat) (I : Nat → Int32) (A : Nat → Nat → Int32) : List pm_C := [.inr (12, [.ref (B + 55), .ref (B + 56), .ref (B + 57), .int (I 3), .ref (B + 58), .ref (B + 59), .ref (B + 60), .ref (B + 61), .ref (B + 62), .ref (B + 63), .int (I 10), .int (I 11), .int (I 12), .ref (B + 64), .ref (B + 65), .ref (B + 66), .ref (B + 67), .ref (B + 68), .int (I 18), .int (I 19), .int (I 20), .ref (B + 69), .int (I 22), .ref (B + 70), .ref (B + 71), .ref (B + 72), .ref (B + 73)]), .inl (2071, A 55), .inl (2071, A 56), .inl (6, A 57), .inl (10, A 58), .inl (20, A 59), .inl (60, A 60), .inl (60, A 61), .inl (60, A 62), .inl (11, A 63), .inl (20, A 64), .inl (20, A 65), .inl (5, A 66), .inl (8, A 67), .inl (8, A 68), .inl (40, A 69), .inl (4, A 70), .inl (4, A 71), .inl (96, A 72), .inl (24, A 73)]
/-! ===== methods as functions: the model's cells ===== -/
abbrev mst (B : Nat) (S : FS) (σ : pm_S) : pm_S := pm_mid σ (md_F B S.1 S.2)
theorem pm_nrw {M : pm_M} {G : pm_G} {B pc : Nat} {loc : List (Option Value)} {st : List Value} {cs zs cnt k : Nat} {σ : pm_S} {L : List pm_C} {x : pm_C} (h : 74 ≤ k) (kk : pm_wp M G B pc loc st cs zs cnt (pm_mid (pm_up σ k x) L)) : pm_wp M G B pc loc st cs zs cnt (pm_up (pm_mid σ L) k x) := by
  have e : pm_up (pm_mid σ L) k x = pm_mid (pm_up σ k x) L := by
    funext j
    unfold pm_up pm_mid
    by_cases h1 : j = k
    · rw [if_pos h1, if_neg (by omega), if_neg (by omega)]; exact (if_pos h1).symm
    · rw [if_neg h1]
      have h3 : (fun j => if j = k then some x else σ j) j = σ j := if_neg h1
      rw [h3]
  rw [e]; exact kk
section FXN
variable {M : pm_M} {G : pm_G} {B pc pc' : Nat} {loc : List (Option Value)} {st : List Value} {cs zs cnt : Nat} {σ : pm_S}
theorem fx_letm {β : Type} {x : FS} {k : FS → β} {y : β} (hE : fl x k = y) (h : ∀ S1 : FS, k S1 = y → pm_wp M G B pc loc st cs zs cnt (mst B S1 σ)) : pm_wp M G B pc loc st cs zs cnt (mst B x σ) := h x hE
theorem fxm_hi {L : List pm_C} {σ : pm_S} {j : Nat} {x : pm_C} (h : 74 ≤ j) (e : σ j = some x) : pm_mid σ L j = some x := by
  unfold pm_mid
  rw [if_neg (by omega), if_neg (by omega)]; exact e
theorem fxm_a1_0 {L : List pm_C} {c : Nat} {x : pm_C} (h : 74 ≤ c) : pm_mid (pm_up σ c x) L c = some x := fxm_hi h (pm_up_same _ _ _)
theorem fxm_a2_0 {L : List pm_C} {c : Nat} {x y : pm_C} (h : 74 ≤ c) : pm_mid (pm_up (pm_up σ c x) (c + 1) y) L c = some x := fxm_hi h ((pm_up_ne _ _ (by omega)).trans (pm_up_same _ _ _))
theorem fxm_a2_1 {L : List pm_C} {c : Nat} {x y : pm_C} (h : 74 ≤ c) : pm_mid (pm_up (pm_up σ c x) (c + 1) y) L (c + 1) = some y := fxm_hi (by omega) (pm_up_same _ _ _)
theorem fxm_w1_0 {L : List pm_C} {c : Nat} {x y : pm_C} (h : 74 ≤ c) (k : pm_wp M G B pc loc st cs zs cnt (pm_mid (pm_up σ c y) L)) : pm_wp M G B pc loc st cs zs cnt (pm_up (pm_mid (pm_up σ c x) L) c y) := by
  refine pm_nrw h ?_
  rw [pm_up_up]; exact k
theorem fxm_w2_0 {L : List pm_C} {c : Nat} {x y z : pm_C} (h : 74 ≤ c) (k : pm_wp M G B pc loc st cs zs cnt (pm_mid (pm_up (pm_up σ c z) (c + 1) y) L)) : pm_wp M G B pc loc st cs zs cnt (pm_up (pm_mid (pm_up (pm_up σ c x) (c + 1) y) L) c z) := by
  refine pm_nrw h ?_
  rw [pm_up_comm _ _ _ (by omega), pm_up_up]; exact k
theorem fxm_w2_1 {L : List pm_C} {c : Nat} {x y z : pm_C} (h : 74 ≤ c) (k : pm_wp M G B pc loc st cs zs cnt (pm_mid (pm_up (pm_up σ c x) (c + 1) z) L)) : pm_wp M G B pc loc st cs zs cnt (pm_up (pm_mid (pm_up (pm_up σ c x) (c + 1) y) L) (c + 1) z) := by
  refine pm_nrw (by omega) ?_
  rw [pm_up_up]; exact k
end FXN
theorem fx_rim {B cnt : Nat} {σ : pm_S} {v : Int32} {S : FS} {R : Int32 × FS} (hE : some (v, S) = some R) : pm_Qi (fun w σ' cnt' => w = R.1 ∧ σ' = (mst B R.2 σ) ∧ cnt' = cnt) (some (.int v)) (mst B S σ) cnt := by
  obtain rfl := Option.some.inj hE
  exact ⟨v, rfl, rfl, rfl, rfl⟩
theorem fx_rix {B cnt cnt' : Nat} {σ τ : pm_S} {v : Int32} {S : FS} {R : Int32 × FS} (hE : some (v, S) = some R) (hτ : ∀ j : Nat, j < cnt → τ j = σ j) (hc : cnt ≤ cnt') : pm_Qi (fun w σ' cnt' => w = R.1 ∧ (∃ τ : pm_S, σ' = (mst B R.2 τ) ∧ ∀ j : Nat, j < cnt → τ j = σ j) ∧ cnt ≤ cnt') (some (.int v)) (mst B S τ) cnt' := by
  obtain rfl := Option.some.inj hE
  exact ⟨v, rfl, rfl, ⟨τ, rfl, hτ⟩, hc⟩
theorem fx_rvm {B cnt : Nat} {σ : pm_S} {v : Int32} {S : FS} {R : Int32 × FS} (hE : some (v, S) = some R) : pm_Qv (fun σ' cnt' => σ' = (mst B R.2 σ) ∧ cnt' = cnt) none (mst B S σ) cnt := by
  obtain rfl := Option.some.inj hE
  exact ⟨rfl, rfl, rfl⟩
theorem fx_rbm {B cnt : Nat} {σ : pm_S} {v b : Int32} {S : FS} {R : Int32 × FS} (hb : bz v = some b) (hE : some (b, S) = some R) : pm_Qi (fun w σ' cnt' => w = R.1 ∧ σ' = (mst B R.2 σ) ∧ cnt' = cnt) (some (.int v)) (mst B S σ) cnt := by
  obtain rfl := Option.some.inj hE
  exact ⟨v, rfl, (bz_in hb).2, rfl, rfl⟩
theorem ma_55 {M : pm_M} {G : pm_G} {B pc : Nat} {loc : List (Option Value)} {st : List Value} {cs zs cnt : Nat} {σ : pm_S} {S : FS} {j : Nat} {v : Int32} (k : pm_wp M G B pc loc st cs zs cnt (mst B (wA S 55 j v) σ)) : pm_wp M G B pc loc st cs zs cnt (pm_up (mst B S σ) 55 (.inl (2071, upd (S.2 55) j v))) := by
  rw [pm_mid_up (by decide) (by decide) (Nat.le_of_ble_eq_true rfl)]; exact k
theorem ma_56 {M : pm_M} {G : pm_G} {B pc : Nat} {loc : List (Option Value)} {st : List Value} {cs zs cnt : Nat} {σ : pm_S} {S : FS} {j : Nat} {v : Int32} (k : pm_wp M G B pc loc st cs zs cnt (mst B (wA S 56 j v) σ)) : pm_wp M G B pc loc st cs zs cnt (pm_up (mst B S σ) 56 (.inl (2071, upd (S.2 56) j v))) := by
  rw [pm_mid_up (by decide) (by decide) (Nat.le_of_ble_eq_true rfl)]; exact k
theorem ma_57 {M : pm_M} {G : pm_G} {B pc : Nat} {loc : List (Option Value)} {st : List Value} {cs zs cnt : Nat} {σ : pm_S} {S : FS} {j : Nat} {v : Int32} (k : pm_wp M G B pc loc st cs zs cnt (mst B (wA S 57 j v) σ)) : pm_wp M G B pc loc st cs zs cnt (pm_up (mst B S σ) 57 (.inl (6, upd (S.2 57) j v))) := by
  rw [pm_mid_up (by decide) (by decide) (Nat.le_of_ble_eq_true rfl)]; exact k
theorem ma_58 {M : pm_M} {G : pm_G} {B pc : Nat} {loc : List (Option Value)} {st : List Value} {cs zs cnt : Nat} {σ : pm_S} {S : FS} {j : Nat} {v : Int32} (k : pm_wp M G B pc loc st cs zs cnt (mst B (wA S 58 j v) σ)) : pm_wp M G B pc loc st cs zs cnt (pm_up (mst B S σ) 58 (.inl (10, upd (S.2 58) j v))) := by
  rw [pm_mid_up (by decide) (by decide) (Nat.le_of_ble_eq_true rfl)]; exact k
theorem ma_59 {M : pm_M} {G : pm_G} {B pc : Nat} {loc : List (Option Value)} {st : List Value} {cs zs cnt : Nat} {σ : pm_S} {S : FS} {j : Nat} {v : Int32} (k : pm_wp M G B pc loc st cs zs cnt (mst B (wA S 59 j v) σ)) : pm_wp M G B pc loc st cs zs cnt (pm_up (mst B S σ) 59 (.inl (20, upd (S.2 59) j v))) := by
  rw [pm_mid_up (by decide) (by decide) (Nat.le_of_ble_eq_true rfl)]; exact k
theorem ma_60 {M : pm_M} {G : pm_G} {B pc : Nat} {loc : List (Option Value)} {st : List Value} {cs zs cnt : Nat} {σ : pm_S} {S : FS} {j : Nat} {v : Int32} (k : pm_wp M G B pc loc st cs zs cnt (mst B (wA S 60 j v) σ)) : pm_wp M G B pc loc st cs zs cnt (pm_up (mst B S σ) 60 (.inl (60, upd (S.2 60) j v))) := by
  rw [pm_mid_up (by decide) (by decide) (Nat.le_of_ble_eq_true rfl)]; exact k
theorem ma_61 {M : pm_M} {G : pm_G} {B pc : Nat} {loc : List (Option Value)} {st : List Value} {cs zs cnt : Nat} {σ : pm_S} {S : FS} {j : Nat} {v : Int32} (k : pm_wp M G B pc loc st cs zs cnt (mst B (wA S 61 j v) σ)) : pm_wp M G B pc loc st cs zs cnt (pm_up (mst B S σ) 61 (.inl (60, upd (S.2 61) j v))) := by
  rw [pm_mid_up (by decide) (by decide) (Nat.le_of_ble_eq_true rfl)]; exact k
theorem ma_62 {M : pm_M} {G : pm_G} {B pc : Nat} {loc : List (Option Value)} {st : List Value} {cs zs cnt : Nat} {σ : pm_S} {S : FS} {j : Nat} {v : Int32} (k : pm_wp M G B pc loc st cs zs cnt (mst B (wA S 62 j v) σ)) : pm_wp M G B pc loc st cs zs cnt (pm_up (mst B S σ) 62 (.inl (60, upd (S.2 62) j v))) := by
  rw [pm_mid_up (by decide) (by decide) (Nat.le_of_ble_eq_true rfl)]; exact k
theorem ma_63 {M : pm_M} {G : pm_G} {B pc : Nat} {loc : List (Option Value)} {st : List Value} {cs zs cnt : Nat} {σ : pm_S} {S : FS} {j : Nat} {v : Int32} (k : pm_wp M G B pc loc st cs zs cnt (mst B (wA S 63 j v) σ)) : pm_wp M G B pc loc st cs zs cnt (pm_up (mst B S σ) 63 (.inl (11, upd (S.2 63) j v))) := by
  rw [pm_mid_up (by decide) (by decide) (Nat.le_of_ble_eq_true rfl)]; exact k
theorem ma_64 {M : pm_M} {G : pm_G} {B pc : Nat} {loc : List (Option Value)} {st : List Value} {cs zs cnt : Nat} {σ : pm_S} {S : FS} {j : Nat} {v : Int32} (k : pm_wp M G B pc loc st cs zs cnt (mst B (wA S 64 j v) σ)) : pm_wp M G B pc loc st cs zs cnt (pm_up (mst B S σ) 64 (.inl (20, upd (S.2 64) j v))) := by
  rw [pm_mid_up (by decide) (by decide) (Nat.le_of_ble_eq_true rfl)]; exact k
theorem ma_65 {M : pm_M} {G : pm_G} {B pc : Nat} {loc : List (Option Value)} {st : List Value} {cs zs cnt : Nat} {σ : pm_S} {S : FS} {j : Nat} {v : Int32} (k : pm_wp M G B pc loc st cs zs cnt (mst B (wA S 65 j v) σ)) : pm_wp M G B pc loc st cs zs cnt (pm_up (mst B S σ) 65 (.inl (20, upd (S.2 65) j v))) := by
  rw [pm_mid_up (by decide) (by decide) (Nat.le_of_ble_eq_true rfl)]; exact k
theorem ma_66 {M : pm_M} {G : pm_G} {B pc : Nat} {loc : List (Option Value)} {st : List Value} {cs zs cnt : Nat} {σ : pm_S} {S : FS} {j : Nat} {v : Int32} (k : pm_wp M G B pc loc st cs zs cnt (mst B (wA S 66 j v) σ)) : pm_wp M G B pc loc st cs zs cnt (pm_up (mst B S σ) 66 (.inl (5, upd (S.2 66) j v))) := by
  rw [pm_mid_up (by decide) (by decide) (Nat.le_of_ble_eq_true rfl)]; exact k
theorem ma_67 {M : pm_M} {G : pm_G} {B pc : Nat} {loc : List (Option Value)} {st : List Value} {cs zs cnt : Nat} {σ : pm_S} {S : FS} {j : Nat} {v : Int32} (k : pm_wp M G B pc loc st cs zs cnt (mst B (wA S 67 j v) σ)) : pm_wp M G B pc loc st cs zs cnt (pm_up (mst B S σ) 67 (.inl (8, upd (S.2 67) j v))) := by
  rw [pm_mid_up (by decide) (by decide) (Nat.le_of_ble_eq_true rfl)]; exact k
theorem ma_68 {M : pm_M} {G : pm_G} {B pc : Nat} {loc : List (Option Value)} {st : List Value} {cs zs cnt : Nat} {σ : pm_S} {S : FS} {j : Nat} {v : Int32} (k : pm_wp M G B pc loc st cs zs cnt (mst B (wA S 68 j v) σ)) : pm_wp M G B pc loc st cs zs cnt (pm_up (mst B S σ) 68 (.inl (8, upd (S.2 68) j v))) := by
  rw [pm_mid_up (by decide) (by decide) (Nat.le_of_ble_eq_true rfl)]; exact k
theorem ma_69 {M : pm_M} {G : pm_G} {B pc : Nat} {loc : List (Option Value)} {st : List Value} {cs zs cnt : Nat} {σ : pm_S} {S : FS} {j : Nat} {v : Int32} (k : pm_wp M G B pc loc st cs zs cnt (mst B (wA S 69 j v) σ)) : pm_wp M G B pc loc st cs zs cnt (pm_up (mst B S σ) 69 (.inl (40, upd (S.2 69) j v))) := by
  rw [pm_mid_up (by decide) (by decide) (Nat.le_of_ble_eq_true rfl)]; exact k
theorem ma_70 {M : pm_M} {G : pm_G} {B pc : Nat} {loc : List (Option Value)} {st : List Value} {cs zs cnt : Nat} {σ : pm_S} {S : FS} {j : Nat} {v : Int32} (k : pm_wp M G B pc loc st cs zs cnt (mst B (wA S 70 j v) σ)) : pm_wp M G B pc loc st cs zs cnt (pm_up (mst B S σ) 70 (.inl (4, upd (S.2 70) j v))) := by
  rw [pm_mid_up (by decide) (by decide) (Nat.le_of_ble_eq_true rfl)]; exact k
theorem ma_71 {M : pm_M} {G : pm_G} {B pc : Nat} {loc : List (Option Value)} {st : List Value} {cs zs cnt : Nat} {σ : pm_S} {S : FS} {j : Nat} {v : Int32} (k : pm_wp M G B pc loc st cs zs cnt (mst B (wA S 71 j v) σ)) : pm_wp M G B pc loc st cs zs cnt (pm_up (mst B S σ) 71 (.inl (4, upd (S.2 71) j v))) := by
  rw [pm_mid_up (by decide) (by decide) (Nat.le_of_ble_eq_true rfl)]; exact k
theorem ma_72 {M : pm_M} {G : pm_G} {B pc : Nat} {loc : List (Option Value)} {st : List Value} {cs zs cnt : Nat} {σ : pm_S} {S : FS} {j : Nat} {v : Int32} (k : pm_wp M G B pc loc st cs zs cnt (mst B (wA S 72 j v) σ)) : pm_wp M G B pc loc st cs zs cnt (pm_up (mst B S σ) 72 (.inl (96, upd (S.2 72) j v))) := by
  rw [pm_mid_up (by decide) (by decide) (Nat.le_of_ble_eq_true rfl)]; exact k
theorem ma_73 {M : pm_M} {G : pm_G} {B pc : Nat} {loc : List (Option Value)} {st : List Value} {cs zs cnt : Nat} {σ : pm_S} {S : FS} {j : Nat} {v : Int32} (k : pm_wp M G B pc loc st cs zs cnt (mst B (wA S 73 j v) σ)) : pm_wp M G B pc loc st cs zs cnt (pm_up (mst B S σ) 73 (.inl (24, upd (S.2 73) j v))) := by
  rw [pm_mid_up (by decide) (by decide) (Nat.le_of_ble_eq_true rfl)]; exact k
theorem mi_3 {M : pm_M} {G : pm_G} {B pc : Nat} {loc : List (Option Value)} {st : List Value} {cs zs cnt : Nat} {σ : pm_S} {S : FS} {v : Int32} (k : pm_wp M G B pc loc st cs zs cnt (mst B (wI S 3 v) σ)) : pm_wp M G B pc loc st cs zs cnt (pm_up (mst B S σ) 54 (.inr (12, [.ref (B + 55), .ref (B + 56), .ref (B + 57), .int v, .ref (B + 58), .ref (B + 59), .ref (B + 60), .ref (B + 61), .ref (B + 62), .ref (B + 63), .int (S.1 10), .int (S.1 11), .int (S.1 12), .ref (B + 64), .ref (B + 65), .ref (B + 66), .ref (B + 67), .ref (B + 68), .int (S.1 18), .int (S.1 19), .int (S.1 20), .ref (B + 69), .int (S.1 22), .ref (B + 70), .ref (B + 71), .ref (B + 72), .ref (B + 73)]))) := by
  rw [pm_mid_up (by decide) (by decide) (Nat.le_of_ble_eq_true rfl)]; exact k
theorem mi_10 {M : pm_M} {G : pm_G} {B pc : Nat} {loc : List (Option Value)} {st : List Value} {cs zs cnt : Nat} {σ : pm_S} {S : FS} {v : Int32} (k : pm_wp M G B pc loc st cs zs cnt (mst B (wI S 10 v) σ)) : pm_wp M G B pc loc st cs zs cnt (pm_up (mst B S σ) 54 (.inr (12, [.ref (B + 55), .ref (B + 56), .ref (B + 57), .int (S.1 3), .ref (B + 58), .ref (B + 59), .ref (B + 60), .ref (B + 61), .ref (B + 62), .ref (B + 63), .int v, .int (S.1 11), .int (S.1 12), .ref (B + 64), .ref (B + 65), .ref (B + 66), .ref (B + 67), .ref (B + 68), .int (S.1 18), .int (S.1 19), .int (S.1 20), .ref (B + 69), .int (S.1 22), .ref (B + 70), .ref (B + 71), .ref (B + 72), .ref (B + 73)]))) := by
  rw [pm_mid_up (by decide) (by decide) (Nat.le_of_ble_eq_true rfl)]; exact k
theorem mi_11 {M : pm_M} {G : pm_G} {B pc : Nat} {loc : List (Option Value)} {st : List Value} {cs zs cnt : Nat} {σ : pm_S} {S : FS} {v : Int32} (k : pm_wp M G B pc loc st cs zs cnt (mst B (wI S 11 v) σ)) : pm_wp M G B pc loc st cs zs cnt (pm_up (mst B S σ) 54 (.inr (12, [.ref (B + 55), .ref (B + 56), .ref (B + 57), .int (S.1 3), .ref (B + 58), .ref (B + 59), .ref (B + 60), .ref (B + 61), .ref (B + 62), .ref (B + 63), .int (S.1 10), .int v, .int (S.1 12), .ref (B + 64), .ref (B + 65), .ref (B + 66), .ref (B + 67), .ref (B + 68), .int (S.1 18), .int (S.1 19), .int (S.1 20), .ref (B + 69), .int (S.1 22), .ref (B + 70), .ref (B + 71), .ref (B + 72), .ref (B + 73)]))) := by
  rw [pm_mid_up (by decide) (by decide) (Nat.le_of_ble_eq_true rfl)]; exact k
theorem mi_12 {M : pm_M} {G : pm_G} {B pc : Nat} {loc : List (Option Value)} {st : List Value} {cs zs cnt : Nat} {σ : pm_S} {S : FS} {v : Int32} (k : pm_wp M G B pc loc st cs zs cnt (mst B (wI S 12 v) σ)) : pm_wp M G B pc loc st cs zs cnt (pm_up (mst B S σ) 54 (.inr (12, [.ref (B + 55), .ref (B + 56), .ref (B + 57), .int (S.1 3), .ref (B + 58), .ref (B + 59), .ref (B + 60), .ref (B + 61), .ref (B + 62), .ref (B + 63), .int (S.1 10), .int (S.1 11), .int v, .ref (B + 64), .ref (B + 65), .ref (B + 66), .ref (B + 67), .ref (B + 68), .int (S.1 18), .int (S.1 19), .int (S.1 20), .ref (B + 69), .int (S.1 22), .ref (B + 70), .ref (B + 71), .ref (B + 72), .ref (B + 73)]))) := by
  rw [pm_mid_up (by decide) (by decide) (Nat.le_of_ble_eq_true rfl)]; exact k
theorem mi_18 {M : pm_M} {G : pm_G} {B pc : Nat} {loc : List (Option Value)} {st : List Value} {cs zs cnt : Nat} {σ : pm_S} {S : FS} {v : Int32} (k : pm_wp M G B pc loc st cs zs cnt (mst B (wI S 18 v) σ)) : pm_wp M G B pc loc st cs zs cnt (pm_up (mst B S σ) 54 (.inr (12, [.ref (B + 55), .ref (B + 56), .ref (B + 57), .int (S.1 3), .ref (B + 58), .ref (B + 59), .ref (B + 60), .ref (B + 61), .ref (B + 62), .ref (B + 63), .int (S.1 10), .int (S.1 11), .int (S.1 12), .ref (B + 64), .ref (B + 65), .ref (B + 66), .ref (B + 67), .ref (B + 68), .int v, .int (S.1 19), .int (S.1 20), .ref (B + 69), .int (S.1 22), .ref (B + 70), .ref (B + 71), .ref (B + 72), .ref (B + 73)]))) := by
  rw [pm_mid_up (by decide) (by decide) (Nat.le_of_ble_eq_true rfl)]; exact k
theorem mi_19 {M : pm_M} {G : pm_G} {B pc : Nat} {loc : List (Option Value)} {st : List Value} {cs zs cnt : Nat} {σ : pm_S} {S : FS} {v : Int32} (k : pm_wp M G B pc loc st cs zs cnt (mst B (wI S 19 v) σ)) : pm_wp M G B pc loc st cs zs cnt (pm_up (mst B S σ) 54 (.inr (12, [.ref (B + 55), .ref (B + 56), .ref (B + 57), .int (S.1 3), .ref (B + 58), .ref (B + 59), .ref (B + 60), .ref (B + 61), .ref (B + 62), .ref (B + 63), .int (S.1 10), .int (S.1 11), .int (S.1 12), .ref (B + 64), .ref (B + 65), .ref (B + 66), .ref (B + 67), .ref (B + 68), .int (S.1 18), .int v, .int (S.1 20), .ref (B + 69), .int (S.1 22), .ref (B + 70), .ref (B + 71), .ref (B + 72), .ref (B + 73)]))) := by
  rw [pm_mid_up (by decide) (by decide) (Nat.le_of_ble_eq_true rfl)]; exact k
theorem mi_20 {M : pm_M} {G : pm_G} {B pc : Nat} {loc : List (Option Value)} {st : List Value} {cs zs cnt : Nat} {σ : pm_S} {S : FS} {v : Int32} (k : pm_wp M G B pc loc st cs zs cnt (mst B (wI S 20 v) σ)) : pm_wp M G B pc loc st cs zs cnt (pm_up (mst B S σ) 54 (.inr (12, [.ref (B + 55), .ref (B + 56), .ref (B + 57), .int (S.1 3), .ref (B + 58), .ref (B + 59), .ref (B + 60), .ref (B + 61), .ref (B + 62), .ref (B + 63), .int (S.1 10), .int (S.1 11), .int (S.1 12), .ref (B + 64), .ref (B + 65), .ref (B + 66), .ref (B + 67), .ref (B + 68), .int (S.1 18), .int (S.1 19), .int v, .ref (B + 69), .int (S.1 22), .ref (B + 70), .ref (B + 71), .ref (B + 72), .ref (B + 73)]))) := by
  rw [pm_mid_up (by decide) (by decide) (Nat.le_of_ble_eq_true rfl)]; exact k
theorem mi_22 {M : pm_M} {G : pm_G} {B pc : Nat} {loc : List (Option Value)} {st : List Value} {cs zs cnt : Nat} {σ : pm_S} {S : FS} {v : Int32} (k : pm_wp M G B pc loc st cs zs cnt (mst B (wI S 22 v) σ)) : pm_wp M G B pc loc st cs zs cnt (pm_up (mst B S σ) 54 (.inr (12, [.ref (B + 55), .ref (B + 56), .ref (B + 57), .int (S.1 3), .ref (B + 58), .ref (B + 59), .ref (B + 60), .ref (B + 61), .ref (B + 62), .ref (B + 63), .int (S.1 10), .int (S.1 11), .int (S.1 12), .ref (B + 64), .ref (B + 65), .ref (B + 66), .ref (B + 67), .ref (B + 68), .int (S.1 18), .int (S.1 19), .int (S.1 20), .ref (B + 69), .int v, .ref (B + 70), .ref (B + 71), .ref (B + 72), .ref (B + 73)]))) := by
  rw [pm_mid_up (by decide) (by decide) (Nat.le_of_ble_eq_true rfl)]; exact k

