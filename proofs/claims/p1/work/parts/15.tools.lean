/-! ===== a fresh object: tools ===== -/
def pm_ofL (L : List pm_C) : pm_S := fun k => L[k]?
theorem pm_lies.up {σ : pm_S} {k a : Nat} {L : List pm_C} {x : pm_C} (h : a < k ∨ k + L.length ≤ a) (h1 : pm_lies σ k L) : pm_lies (pm_up σ a x) k L := by
  intro i y hy
  have hi : i < L.length := (List.getElem?_eq_some_iff.mp hy).1
  rw [pm_up_ne _ _ (by omega)]
  exact h1 i y hy
theorem pm_lies.up0 {σ : pm_S} {k a : Nat} {L : List pm_C} {x : pm_C} (h : a < k) (h1 : pm_lies σ k L) : pm_lies (pm_up σ a x) k L := h1.up (Or.inl h)
theorem pm_lies_cat {σ : pm_S} {k : Nat} {L : List pm_C} : pm_lies (pm_cat σ k L) k L := by
  intro i x h
  unfold pm_cat
  rw [if_neg (by omega), show k + i - k = i by omega]
  exact h
theorem pm_lies_sub {σ : pm_S} {k : Nat} {L : List pm_C} (h : pm_lies σ k L) : pm_sub (pm_cat (fun _ => none) k L) σ := by
  intro j x hj
  unfold pm_cat at hj
  split at hj
  · cases hj
  · have h3 := h (j - k) x hj
    rw [show k + (j - k) = j by omega] at h3
    exact h3
theorem pm_le0 (x : Int32) : x < 0 ∨ 0 ≤ x := by
  simp only [Int32.lt_iff_toInt_lt, Int32.le_iff_toInt_le]; omega
theorem pm_has0 (x : Int32) : (if x < 0 ∨ (0 : Int32) ≤ x then (0 : Int32) else 1) = 0 := if_pos (pm_le0 x)
theorem pm_out0 (x : Int32) : x < 0 ∨ (-1 : Int32) < x := by
  have h : (-1 : Int32).toInt = -1 := by decide
  simp only [Int32.lt_iff_toInt_lt, h, Int32.toInt_zero]; omega
theorem pm_in0 (x : Int32) : (if x < 0 ∨ (-1 : Int32) < x then (0 : Int32) else 1) = 0 := if_pos (pm_out0 x)
theorem pm_told_in {k : Int64} (h1 : ¬ lg_cmp k 1 < 0) (h3 : ¬ 0 ≤ lg_cmp k 6) : vp_in k.toInt32 6 := by
  have a1 : 1 ≤ k.toInt := by
    by_cases h : k < 1
    · exfalso; apply h1; unfold lg_cmp
      rw [if_neg (by simp only [GT.gt, Int64.lt_iff_toInt_lt] at h ⊢; omega), if_neg (by rintro rfl; simp at h)]; decide
    · simp only [Int64.lt_iff_toInt_lt] at h
      have : (1 : Int64).toInt = 1 := by decide
      omega
  have a2 : k.toInt < 6 := by
    by_cases h : k < 6
    · simp only [Int64.lt_iff_toInt_lt] at h
      have : (6 : Int64).toInt = 6 := by decide
      omega
    · exfalso; apply h3; unfold lg_cmp
      split
      · decide
      · split
        · decide
        · next q1 q2 =>
          exfalso
          apply q2
          apply Int64.toInt_inj.mp
          simp only [GT.gt, Int64.lt_iff_toInt_lt] at h q1
          omega
  rw [vp_in_iff, Int64.toInt_toInt32]
  rw [Int.bmod_eq_of_le (by omega) (by omega)]
  exact ⟨by omega, a2⟩
theorem pm_tg_zero (r w a b : Int32) : pm_tg r w (fun _ => 0) a b = 0 := by unfold pm_tg; split <;> rfl
theorem pm_so {p : Prop} (h : p) : p := h
theorem pm_1_400 {x : Int32} (h : ¬ (x < 1 ∨ 400 < x)) : ∃ n : Nat, (1 ≤ n ∧ n ≤ 400) ∧ x = nI n := by
  have a1 : (1 : Int32).toInt = 1 := by decide
  have a2 : (400 : Int32).toInt = 400 := by decide
  simp only [Int32.lt_iff_toInt_lt, a1, a2] at h
  refine ⟨x.toInt.toNat, by omega, ?_⟩
  apply Int32.toInt_inj.mp
  rw [nI_toInt (by omega)]
  omega
theorem pm_updd (f : Nat → Int32) (k : Nat) (x y : Int32) : upd (upd f k x) k y = upd f k y := by
  funext j; unfold upd; split <;> rfl
theorem pm_upd_id {f : Nat → Int32} {k : Nat} {x : Int32} (h : f k = x) : upd f k x = f := by
  funext j; unfold upd; split
  · next e => rw [e, h]
  · rfl
/-- fewer locals are known -/
theorem pm_fl0 {M : pm_M} {G : pm_G} {B pc : Nat} {loc loc' : List (Option Value)} {st : List Value} {cs zs cnt : Nat} {σ : pm_S} (h : ∀ (j : Nat) (v : Value), loc'[j]? = some (some v) → loc[j]? = some (some v)) (k : pm_wp M G B pc loc' st cs zs cnt σ) : pm_wp M G B pc loc st cs zs cnt σ := by
  intro H ls locs h1 h2 h3 h4
  refine k H ls locs h1 h2 ⟨h3.1, h3.2.1, fun q hq => ?_⟩ h4
  obtain ⟨j, e1, e2⟩ := (pm_lv_mem q loc' 0).mp hq
  have e3 := h3.at (h j q.2 e2)
  rw [show q.1 = j by omega]
  exact e3
theorem pm_lies.catr {σ : pm_S} {k a : Nat} {L L2 : List pm_C} (h : k + L.length ≤ a) (h1 : pm_lies σ k L) : pm_lies (pm_cat σ a L2) k L := by
  intro i x hx
  have hi : i < L.length := (List.getElem?_eq_some_iff.mp hx).1
  unfold pm_cat
  rw [if_pos (by omega)]
  exact h1 i x hx
theorem pm_old.trx {k : Nat} {σ σ' : pm_S} {x : pm_C} (h : pm_old k (pm_up σ k x) σ') : pm_old k σ σ' := fun j hj => (h j hj).trans (pm_up_ne _ _ (by omega))
set_option maxRecDepth 100000 in
theorem sx_told {d B cnt k q : Nat} {σ : pm_S} {f : Nat → Int32} {x : Int32} {a0 a1 a2 a3 a4 a5 a6 a7 a8 a10 a11 : Value} (hkq : k ≠ q) (h0 : σ k = some (.inr (11, [a0, a1, a2, a3, a4, a5, a6, a7, a8, .ref (B + q), a10, a11]))) (hq : σ q = some (.inl (6, f))) : pm_met mX11_told d 0 0 B [.ref (B + k), .int x] cnt σ (pm_Qi (fun v σ' cnt' => v = x ∧ (∃ g, σ' = pm_up σ q (.inl (6, g))) ∧ cnt' = cnt)) := by
  refine pm_enter 2 (by decide) (Nat.le_of_ble_eq_true rfl) rfl (fun G hG hR hF => ?_)
  refine pm_ldc2 hG dX11_told_0 (ctX11_404 _ rfl) ?_
  refine pm_iloadn hG dX11_told_3 rfl ?_
  refine pm_i2l hG dX11_told_4 rfl ?_
  refine pm_lsub hG dX11_told_5 ?_
  refine pm_lstoreXn (loc' := [some (.ref (B + k)), some (.int x), some (.long ((-1000000) - x.toInt64)), none]) hG dX11_told_6 (by decide) (pm_c1b rfl) rfl ?_
  refine pm_lloadn hG dX11_told_7 rfl ?_
  refine pm_lconst (v := 1) hG dX11_told_8 (by decide) ?_
  refine pm_lcmp hG dX11_told_9 ?_
  refine pm_if_lt (tgt := 43) hG dX11_told_10 rfl (fun c1 => ?_) (fun c1 => ?_)
  · refine pm_iloadn hG dX11_told_43 rfl ?_
    exact pm_iret hG hF dX11_told_44 rfl (by decide) (by decide) ⟨_, rfl, rfl, ⟨f, (pm_up_id hq).symm⟩, rfl⟩
  · refine pm_lloadn hG dX11_told_13 rfl ?_
    refine pm_ldc2 hG dX11_told_14 (ctX11_406 _ rfl) ?_
    refine pm_lcmp hG dX11_told_17 ?_
    refine pm_if_gt (tgt := 43) hG dX11_told_18 rfl (fun c2 => ?_) (fun c2 => ?_)
    · refine pm_iloadn hG dX11_told_43 rfl ?_
      exact pm_iret hG hF dX11_told_44 rfl (by decide) (by decide) ⟨_, rfl, rfl, ⟨f, (pm_up_id hq).symm⟩, rfl⟩
    · refine pm_lloadn hG dX11_told_21 rfl ?_
      refine pm_aloadn hG dX11_told_22 rfl ?_
      refine pm_getf hG dX11_told_23 (flX11_78 _ rfl) h0 rfl ?_
      refine pm_alen (v := 6) hG dX11_told_26 hq (by decide) ?_
      refine pm_i2l (v := 6) hG dX11_told_27 (by decide) ?_
      refine pm_lcmp hG dX11_told_28 ?_
      refine pm_if_ge (tgt := 43) hG dX11_told_29 rfl (fun c3 => ?_) (fun c3 => ?_)
      · refine pm_iloadn hG dX11_told_43 rfl ?_
        exact pm_iret hG hF dX11_told_44 rfl (by decide) (by decide) ⟨_, rfl, rfl, ⟨f, (pm_up_id hq).symm⟩, rfl⟩
      · refine pm_aloadn hG dX11_told_32 rfl ?_
        refine pm_getf hG dX11_told_33 (flX11_78 _ rfl) h0 rfl ?_
        refine pm_lloadn hG dX11_told_36 rfl ?_
        refine pm_l2i hG dX11_told_37 rfl ?_
        refine pm_dup2 hG dX11_told_38 rfl rfl ?_
        refine pm_iald hG dX11_told_39 hq (pm_told_in c1 c3) ?_
        refine pm_iconst (v := 1) hG dX11_told_40 (by decide) ?_
        refine pm_iadd hG dX11_told_41 ?_
        refine pm_iast hG dX11_told_42 hq (pm_told_in c1 c3) ?_
        refine pm_iloadn hG dX11_told_43 rfl ?_
        exact pm_iret hG hF dX11_told_44 rfl (by decide) (by decide) ⟨_, rfl, rfl, ⟨_, rfl⟩, rfl⟩
set_option maxRecDepth 100000 in
theorem mx_in {d B cnt : Nat} {σ : pm_S} {x a b : Int32} : pm_met mX12_in d 0 0 B [.int x, .int a, .int b] cnt σ (pm_Qi (fun v σ' cnt' => v = (if x < a ∨ b < x then 0 else 1) ∧ σ' = σ ∧ cnt' = cnt)) := by
  refine pm_enter 0 (by decide) (Nat.le_of_ble_eq_true rfl) rfl (fun G hG hR hF => ?_)
  refine pm_iloadn hG dX12_in_0 rfl ?_
  refine pm_iloadn hG dX12_in_1 rfl ?_
  refine pm_icmp_lt (tgt := 14) hG dX12_in_2 rfl (fun c1 => ?_) (fun c1 => ?_)
  · refine pm_iconst (v := 0) hG dX12_in_14 (by decide) ?_
    exact pm_zret hG hF dX12_in_15 rfl (by rfl) (by decide) (by decide) ⟨_, rfl, by simp [c1], rfl, rfl⟩
  · refine pm_iloadn hG dX12_in_5 rfl ?_
    refine pm_iloadn hG dX12_in_6 rfl ?_
    refine pm_icmp_gt (tgt := 14) hG dX12_in_7 rfl (fun c2 => ?_) (fun c2 => ?_)
    · refine pm_iconst (v := 0) hG dX12_in_14 (by decide) ?_
      exact pm_zret hG hF dX12_in_15 rfl (by rfl) (by decide) (by decide) ⟨_, rfl, by simp [c1, c2], rfl, rfl⟩
    · refine pm_iconst (v := 1) hG dX12_in_10 (by decide) ?_
      refine pm_goto (tgt := 15) hG dX12_in_11 rfl ?_
      exact pm_zret hG hF dX12_in_15 rfl (by rfl) (by decide) (by decide) ⟨_, rfl, by simp [c1, c2], rfl, rfl⟩
/-! ===== what a fresh object answers ===== -/
def v_road (za zb zc : Int32) : Int32 := (-1000001)
def v_far (za zb : Int32) : Int32 := (-1000001)
def v_person (za zb zc zd : Int32) : Int32 := (-1000001)
def v_die (za : Int32) : Int32 := (-1000001)
def v_go (za zb : Int32) : Int32 := (-1000001)
def v_about (za zb : Int32) : Int32 := (-1000001)
def v_pay (za zb : Int32) : Int32 := (-1000001)
def v_men (za zb : Int32) : Int32 := (-1000001)
def v_as (za zb : Int32) : Int32 := (-1000001)
def v_held (za zb : Int32) : Int32 := (-1000001)
def v_give (za zb : Int32) : Int32 := (-1000001)
def v_lend (za zb zc : Int32) : Int32 := (-1000001)
def v_copy (za : Int32) : Int32 := (-1000001)
def v_strike (za : Int32) : Int32 := (-1000001)
def v_says (za zb zc : Int32) : Int32 := (-1000001)
def v_draw (za zb zc : Int32) : Int32 := (-1000001)
def v_press (za zb : Int32) : Int32 := (-1000001)
def v_send (za zb : Int32) : Int32 := (-1000001)
def v_open (za : Int32) : Int32 := (-1000001)
def v_obey (za : Int32) : Int32 := (-1000001)
def v_letter (za zb : Int32) : Int32 := (-1000001)
def v_rent (za zb : Int32) : Int32 := (-1000001)
def v_own (za zb : Int32) : Int32 := (-1000001)
def v_debt (za zb zc : Int32) : Int32 := (-1000001)
def v_owed (za zb : Int32) : Int32 := (-1000001)
def v_seat (za zb : Int32) : Int32 := (-1000001)
def v_promise (za zb zc zd : Int32) : Int32 := (-1000001)
def v_breaks (za : Int32) : Int32 := (-1000001)
def v_price (za zb : Int32) : Int32 := (-1000001)
def v_after (za : Int32) : Int32 := (-1000001)
def v_voice (za zb zc : Int32) : Int32 := (-1000001)
def v_town : Int32 := 0
def v_power (za zb zc : Int32) : Int32 := if (za < 0 ∨ 5 < za) ∨ ¬ zb = -1 ∨ (zc < 0 ∨ 99 < zc) then -1000001 else 0
def v_feed (za : Int32) : Int32 := if (za < 1 ∨ 8 < za) then -1000001 else za
def v_law (za zb : Int32) : Int32 := if (za < 0 ∨ 4 < za) ∨ (zb < 0 ∨ 2000 < zb) then -1000001 else -10
def v_force (za zb zc : Int32) : Int32 := if (za < 0 ∨ 4 < za) ∨ (zb < 0 ∨ 2000 < zb) ∨ (zc < (-1) ∨ 2000 < zc) then -1000001 else -1000002
def v_days (za : Int32) : Int32 := if (za < 1 ∨ 400 < za) then -1000001 else za
def v_rents (za zb : Int32) : Int32 := if (za < 0 ∨ 3 < za) ∨ ¬ (zb = 8 ∨ zb = 16 ∨ zb = 32) then -1000001 else -1000002
def v_cause (za zb : Int32) : Int32 := if (za < 0 ∨ 5 < za) ∨ (zb < 0 ∨ 3 < zb) then -1000001 else if zb = 3 then -1 else 0
def v_buying (za zb : Int32) : Int32 := if (za < 0 ∨ 5 < za) ∨ (zb < 0 ∨ 1 < zb) then -1000001 else -1000002
def v_guard (za zb : Int32) : Int32 := if (za < 0 ∨ 4 < za) ∨ (zb < 0 ∨ 6 < zb) then -1000001 else 0
def v_night (za zb zc zd : Int32) : Int32 := if (za < 1 ∨ 20 < za) ∨ (zb < 1 ∨ 3 < zb) ∨ (zc < 0 ∨ 4 < zc) ∨ (zd < 0 ∨ 1 < zd) then -1000001 else if zc < zb then (if zd = 0 then 1 else 0) else (if zd = 0 then 0 else -1000002)
def v_heir (za : Int32) : Int32 := if za < 0 then -1000001 else -1000002
def v_age : Int32 := (-1000002)
def v_plan (za zb : Int32) : Int32 := if (za < 0 ∨ 3 < za) then -1000001 else -1000002
def v_trace (za : Int32) : Int32 := (-1000002)
def v_sheet (za zb zc : Int32) : Int32 := if (za < 0 ∨ 3 < za) ∨ ¬ (zb = 0 ∨ (zb = 8 ∨ zb = 16 ∨ zb = 32)) then -1000001 else if ¬ zb = 0 ∧ zc < 0 then -1000003 else if ¬ zb = 0 ∧ 24 < zc then -1000001 else 1
def v_put (za zb zc : Int32) : Int32 := if (za < 0 ∨ 3 < za) then -1000001 else -1000002
def v_move (za zb zc zd ze : Int32) : Int32 := if (za < 0 ∨ 3 < za) ∨ (zc < 0 ∨ 3 < zc) then -1000001 else -1000002
def v_image : Int32 := 1
def v_restore : Int32 := (-1000002)
def v_tell (za : Int32) : Int32 := 1
def v_check : Int32 := 0
def v_count (za : Int32) : Int32 := if za = 9 then 1000 else if za < 0 ∨ 15 < za then -1000001 else 0
def v_found (za : Int32) : Int32 := if za < 1 ∨ 5 < za then -1000001 else 0
