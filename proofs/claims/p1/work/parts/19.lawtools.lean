/-! ===== the law: its script, its end ===== -/
def pm_scr (G : pm_G) (B b L : Nat) (xs : Nat → Int32) : Prop := va_X b L xs (pm_s G) (pm_s G).heap ∧ b < B ∧ B = (pm_s G).heap.size
def pm_lend (nm : String) (G : pm_G) (B : Nat) : Prop := ∀ (pc : Nat) (loc : List (Option Value)) (cs zs cnt : Nat) (σ : pm_S), cs ≤ 600000 → zs ≤ 7302250 → decode code pc = .ok (.ireturn, 1) → pm_wp (mL_law nm) G B pc loc [.int 1] cs zs cnt σ
section PML
variable {M : pm_M} {G : pm_G} {B pc pc' : Nat} {loc : List (Option Value)} {st : List Value} {cs zs cnt : Nat} {σ : pm_S}
theorem pm_sld {b L : Nat} {xs : Nat → Int32} {i : Int32} (hG : pm_ok M G B) (hs : pm_scr G B b L xs) (hd : pm_dec M pc (.iaload, 1) pc') (hi : vp_in i L) (kk : pm_wp M G B pc' loc (.int (xs i.toNatClampNeg) :: st) cs zs cnt σ) : pm_wp M G B pc loc (.int i :: .ref b :: st) cs zs cnt σ := by
  obtain ⟨hd, rfl⟩ := hd
  obtain ⟨hX, hb, hB⟩ := hs
  intro H ls locs h1 h2 h3 h4
  refine va_sld (A := fun q => B ≤ q) (H0 := (pm_s G).heap) hG.x hG.b hX (by rw [← hB]; exact hb) (Nat.not_le.mpr hb) ⟨by rw [h1.1, ← hB]; exact Nat.le_add_right _ _, fun q hq hn => h2 q (by omega), h4⟩ hi hd (kk H ls locs h1 h2 h3 h4)
theorem pm_slen {b L : Nat} {xs : Nat → Int32} (hG : pm_ok M G B) (hs : pm_scr G B b L xs) (hd : pm_dec M pc (.arraylength, 1) pc') (kk : pm_wp M G B pc' loc (.int (Int32.ofNat L) :: st) cs zs cnt σ) : pm_wp M G B pc loc (.ref b :: st) cs zs cnt σ := by
  obtain ⟨hd, rfl⟩ := hd
  obtain ⟨hX, hb, hB⟩ := hs
  intro H ls locs h1 h2 h3 h4
  refine va_slen (A := fun q => B ≤ q) (H0 := (pm_s G).heap) hG.x hG.b hX (by rw [← hB]; exact hb) (Nat.not_le.mpr hb) ⟨by rw [h1.1, ← hB]; exact Nat.le_add_right _ _, fun q hq hn => h2 q (by omega), h4⟩ hd (kk H ls locs h1 h2 h3 h4)
end PML
theorem pm_two_sub {σ : pm_S} {k : Nat} {C R : List pm_C} (h1 : pm_lies σ 0 C) (h2 : pm_lies σ k R) : pm_sub (pm_cat (pm_ofL C) k R) σ := by
  intro j x hj
  unfold pm_cat at hj
  split at hj
  · have h3 := h1 j x hj
    rw [Nat.zero_add] at h3
    exact h3
  · have h3 := h2 (j - k) x hj
    rw [show k + (j - k) = j by omega] at h3
    exact h3
theorem pm_old_lies {σ σ' : pm_S} {k n : Nat} {L : List pm_C} (h : pm_old k σ σ') (h1 : pm_lies σ n L) (hk : n + L.length ≤ k) : pm_lies σ' n L := by
  intro i x hx
  have hi : i < L.length := (List.getElem?_eq_some_iff.mp hx).1
  rw [h _ (by omega)]
  exact h1 i x hx
/-- behind a call: one step of the loop's head more, then the end -/
theorem law_tail {nm : String} {G : pm_G} {B b cnt cs zs : Nat} {xs : Nat → Int32} {σ : pm_S} {v1 v2 : Option Value} (hG : pm_ok (mL_law nm) G B) (hs : pm_scr G B b 6 xs) (hE : pm_lend nm G B) (hcs : cs ≤ 600000) (hzs : zs ≤ 7302250) : pm_wp (mL_law nm) G B 2105 [some (.ref b), v1, v2, some (.int 0)] [] cs zs cnt σ := by
  refine pm_fl0 (loc' := [some (.ref b), none, none, some (.int 0)]) (fun j v hj => ?_) ?_
  · match j, hj with
    | 0, hj => exact hj
    | 1, hj => cases hj
    | 2, hj => cases hj
    | 3, hj => exact hj
    | j + 4, hj => simp at hj
  refine pm_iincX (v := 6) (loc' := [some (.ref b), none, none, some (.int 6)]) hG dL_law_2105 rfl (by decide) (Nat.le_of_ble_eq_true rfl) (pm_c1b rfl) rfl ?_
  refine pm_goto (tgt := 18) hG dL_law_2108 rfl ?_
  refine pm_iloadn hG dL_law_18 rfl ?_
  refine pm_aloadn hG dL_law_19 rfl ?_
  refine pm_slen hG hs dL_law_20 ?_
  refine pm_bipush (v := 6) hG dL_law_21 (by decide) ?_
  refine pm_isub hG dL_law_23 ?_
  refine pm_icmp_gt (tgt := 2111) hG dL_law_24 rfl (fun _ => ?_) (fun q => absurd (show (Int32.ofNat 6 - 6 : Int32) < 6 by decide) q)
  refine pm_iconst (v := 1) hG dL_law_2111 (by decide) ?_
  exact hE _ _ _ _ _ _ hcs hzs (dL_law_2112 (nm := nm)).1
