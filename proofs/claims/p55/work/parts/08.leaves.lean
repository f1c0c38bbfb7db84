/-! ===== contracts of the leaves ===== -/
def pm_tw (rows width : Int32) (n : Nat) : Prop := ∀ r c : Int32, ¬ r < 0 → ¬ rows ≤ r → ¬ c < 0 → ¬ width ≤ c → vp_in (r * width + c) n
def pm_tg (rows width : Int32) (f : Nat → Int32) (row col : Int32) : Int32 := if row < 0 ∨ rows ≤ row ∨ col < 0 ∨ width ≤ col then 0 else f (row * width + col).toNatClampNeg
def pm_ts (rows width : Int32) (f : Nat → Int32) (row col x : Int32) : Nat → Int32 := if row < 0 ∨ rows ≤ row ∨ col < 0 ∨ width ≤ col then f else upd f (row * width + col).toNatClampNeg x
theorem pm_up_id {σ : pm_S} {k : Nat} {x : pm_C} (h : σ k = some x) : pm_up σ k x = σ := by
  funext j
  unfold pm_up
  split
  · next e => rw [e, h]
  · rfl
set_option maxRecDepth 100000 in
theorem tb_has {d B cnt t c : Nat} {σ : pm_S} {rows width used : Int32} {row : Int32} (ht : σ t = some (.inr (9, [.int rows, .int width, .ref (B + c), .int used]))) : pm_met mX9_has d 0 0 B [.ref (B + t), .int row] cnt σ (pm_Qi (fun v σ' cnt' => v = (if row < 0 ∨ used ≤ row then 0 else 1) ∧ σ' = σ ∧ cnt' = cnt)) := by
  refine pm_enter 0 (by decide) (Nat.le_of_ble_eq_true rfl) rfl (fun G hG hR hF => ?_)
  refine pm_iloadn hG dX9_has_0 rfl ?_
  refine pm_if_lt (tgt := 16) hG dX9_has_1 rfl (fun c1 => ?_) (fun c1 => ?_)
  · refine pm_iconst (v := 0) hG dX9_has_16 (by decide) ?_
    exact pm_zret hG hF dX9_has_17 rfl (by rfl) (by decide) (by decide) ⟨_, rfl, by simp [c1], rfl, rfl⟩
  · refine pm_iloadn hG dX9_has_4 rfl ?_
    refine pm_aloadn hG dX9_has_5 rfl ?_
    refine pm_getf hG dX9_has_6 (flX9_29 _ rfl) ht rfl ?_
    refine pm_icmp_ge (tgt := 16) hG dX9_has_9 rfl (fun c2 => ?_) (fun c2 => ?_)
    · refine pm_iconst (v := 0) hG dX9_has_16 (by decide) ?_
      exact pm_zret hG hF dX9_has_17 rfl (by rfl) (by decide) (by decide) ⟨_, rfl, by simp [c1, c2], rfl, rfl⟩
    · refine pm_iconst (v := 1) hG dX9_has_12 (by decide) ?_
      refine pm_goto (tgt := 17) hG dX9_has_13 rfl ?_
      exact pm_zret hG hF dX9_has_17 rfl (by rfl) (by decide) (by decide) ⟨_, rfl, by simp [c1, c2], rfl, rfl⟩

set_option maxRecDepth 100000 in
theorem tb_used {d B cnt t c : Nat} {σ : pm_S} {rows width used : Int32} (ht : σ t = some (.inr (9, [.int rows, .int width, .ref (B + c), .int used]))) : pm_met mX9_used d 0 0 B [.ref (B + t)] cnt σ (pm_Qi (fun v σ' cnt' => v = used ∧ σ' = σ ∧ cnt' = cnt)) := by
  refine pm_enter 0 (by decide) (Nat.le_of_ble_eq_true rfl) rfl (fun G hG hR hF => ?_)
  refine pm_aloadn hG dX9_used_0 rfl ?_
  refine pm_getf hG dX9_used_1 (flX9_29 _ rfl) ht rfl ?_
  exact pm_iret hG hF dX9_used_4 rfl (by decide) (by decide) ⟨_, rfl, rfl, rfl, rfl⟩

set_option maxRecDepth 100000 in
theorem tb_isFull {d B cnt t c : Nat} {σ : pm_S} {rows width used : Int32} (ht : σ t = some (.inr (9, [.int rows, .int width, .ref (B + c), .int used]))) : pm_met mX9_isFull d 0 0 B [.ref (B + t)] cnt σ (pm_Qi (fun v σ' cnt' => v = (if used < rows then 0 else 1) ∧ σ' = σ ∧ cnt' = cnt)) := by
  refine pm_enter 0 (by decide) (Nat.le_of_ble_eq_true rfl) rfl (fun G hG hR hF => ?_)
  refine pm_aloadn hG dX9_isFull_0 rfl ?_
  refine pm_getf hG dX9_isFull_1 (flX9_29 _ rfl) ht rfl ?_
  refine pm_aloadn hG dX9_isFull_4 rfl ?_
  refine pm_getf hG dX9_isFull_5 (flX9_16 _ rfl) ht rfl ?_
  refine pm_icmp_lt (tgt := 15) hG dX9_isFull_8 rfl (fun c1 => ?_) (fun c1 => ?_)
  · refine pm_iconst (v := 0) hG dX9_isFull_15 (by decide) ?_
    exact pm_zret hG hF dX9_isFull_16 rfl (by rfl) (by decide) (by decide) ⟨_, rfl, by simp [c1], rfl, rfl⟩
  · refine pm_iconst (v := 1) hG dX9_isFull_11 (by decide) ?_
    refine pm_goto (tgt := 16) hG dX9_isFull_12 rfl ?_
    exact pm_zret hG hF dX9_isFull_16 rfl (by rfl) (by decide) (by decide) ⟨_, rfl, by simp [c1], rfl, rfl⟩

set_option maxRecDepth 100000 in
theorem tb_get {d B cnt t c n : Nat} {σ : pm_S} {rows width used : Int32} {f : Nat → Int32} {row col : Int32} (ht : σ t = some (.inr (9, [.int rows, .int width, .ref (B + c), .int used]))) (hc : σ c = some (.inl (n, f))) (hb : pm_tw rows width n) : pm_met mX9_get d 0 0 B [.ref (B + t), .int row, .int col] cnt σ (pm_Qi (fun v σ' cnt' => v = pm_tg rows width f row col ∧ σ' = σ ∧ cnt' = cnt)) := by
  refine pm_enter 0 (by decide) (Nat.le_of_ble_eq_true rfl) rfl (fun G hG hR hF => ?_)
  refine pm_iloadn hG dX9_get_0 rfl ?_
  refine pm_if_lt (tgt := 24) hG dX9_get_1 rfl (fun c1 => ?_) (fun c1 => ?_)
  · refine pm_iconst (v := 0) hG dX9_get_24 (by decide) ?_
    exact pm_iret hG hF dX9_get_25 rfl (by decide) (by decide) ⟨_, rfl, by simp [pm_tg, c1], rfl, rfl⟩
  · refine pm_iloadn hG dX9_get_4 rfl ?_
    refine pm_aloadn hG dX9_get_5 rfl ?_
    refine pm_getf hG dX9_get_6 (flX9_16 _ rfl) ht rfl ?_
    refine pm_icmp_ge (tgt := 24) hG dX9_get_9 rfl (fun c2 => ?_) (fun c2 => ?_)
    · refine pm_iconst (v := 0) hG dX9_get_24 (by decide) ?_
      exact pm_iret hG hF dX9_get_25 rfl (by decide) (by decide) ⟨_, rfl, by simp [pm_tg, c1, c2], rfl, rfl⟩
    · refine pm_iloadn hG dX9_get_12 rfl ?_
      refine pm_if_lt (tgt := 24) hG dX9_get_13 rfl (fun c3 => ?_) (fun c3 => ?_)
      · refine pm_iconst (v := 0) hG dX9_get_24 (by decide) ?_
        exact pm_iret hG hF dX9_get_25 rfl (by decide) (by decide) ⟨_, rfl, by simp [pm_tg, c1, c2, c3], rfl, rfl⟩
      · refine pm_iloadn hG dX9_get_16 rfl ?_
        refine pm_aloadn hG dX9_get_17 rfl ?_
        refine pm_getf hG dX9_get_18 (flX9_22 _ rfl) ht rfl ?_
        refine pm_icmp_lt (tgt := 26) hG dX9_get_21 rfl (fun c4 => ?_) (fun c4 => ?_)
        · refine pm_aloadn hG dX9_get_26 rfl ?_
          refine pm_getf hG dX9_get_27 (flX9_25 _ rfl) ht rfl ?_
          refine pm_iloadn hG dX9_get_30 rfl ?_
          refine pm_aloadn hG dX9_get_31 rfl ?_
          refine pm_getf hG dX9_get_32 (flX9_22 _ rfl) ht rfl ?_
          refine pm_imul hG dX9_get_35 ?_
          refine pm_iloadn hG dX9_get_36 rfl ?_
          refine pm_iadd hG dX9_get_37 ?_
          refine pm_iald hG dX9_get_38 hc (hb _ _ c1 c2 c3 (Int32.not_le.mpr c4)) ?_
          exact pm_iret hG hF dX9_get_39 rfl (by decide) (by decide) ⟨_, rfl, by simp [pm_tg, c1, c2, c3, Int32.not_le.mpr c4], rfl, rfl⟩
        · refine pm_iconst (v := 0) hG dX9_get_24 (by decide) ?_
          exact pm_iret hG hF dX9_get_25 rfl (by decide) (by decide) ⟨_, rfl, by simp [pm_tg, c1, c2, c3, c4], rfl, rfl⟩

set_option maxRecDepth 100000 in
theorem tb_set {d B cnt t c n : Nat} {σ : pm_S} {rows width used : Int32} {f : Nat → Int32} {row col x : Int32} (ht : σ t = some (.inr (9, [.int rows, .int width, .ref (B + c), .int used]))) (hc : σ c = some (.inl (n, f))) (hb : pm_tw rows width n) (htc : t ≠ c) : pm_met mX9_set d 0 0 B [.ref (B + t), .int row, .int col, .int x] cnt σ (pm_Qv (fun σ' cnt' => σ' = pm_up σ c (.inl (n, pm_ts rows width f row col x)) ∧ cnt' = cnt)) := by
  refine pm_enter 0 (by decide) (Nat.le_of_ble_eq_true rfl) rfl (fun G hG hR hF => ?_)
  refine pm_iloadn hG dX9_set_0 rfl ?_
  refine pm_if_lt (tgt := 38) hG dX9_set_1 rfl (fun c1 => ?_) (fun c1 => ?_)
  · exact pm_vret hG hF dX9_set_38 rfl (by decide) (by decide) ⟨rfl, by simp [pm_ts, c1, pm_up_id hc], rfl⟩
  · refine pm_iloadn hG dX9_set_4 rfl ?_
    refine pm_aloadn hG dX9_set_5 rfl ?_
    refine pm_getf hG dX9_set_6 (flX9_16 _ rfl) ht rfl ?_
    refine pm_icmp_ge (tgt := 38) hG dX9_set_9 rfl (fun c2 => ?_) (fun c2 => ?_)
    · exact pm_vret hG hF dX9_set_38 rfl (by decide) (by decide) ⟨rfl, by simp [pm_ts, c1, c2, pm_up_id hc], rfl⟩
    · refine pm_iloadn hG dX9_set_12 rfl ?_
      refine pm_if_lt (tgt := 38) hG dX9_set_13 rfl (fun c3 => ?_) (fun c3 => ?_)
      · exact pm_vret hG hF dX9_set_38 rfl (by decide) (by decide) ⟨rfl, by simp [pm_ts, c1, c2, c3, pm_up_id hc], rfl⟩
      · refine pm_iloadn hG dX9_set_16 rfl ?_
        refine pm_aloadn hG dX9_set_17 rfl ?_
        refine pm_getf hG dX9_set_18 (flX9_22 _ rfl) ht rfl ?_
        refine pm_icmp_ge (tgt := 38) hG dX9_set_21 rfl (fun c4 => ?_) (fun c4 => ?_)
        · exact pm_vret hG hF dX9_set_38 rfl (by decide) (by decide) ⟨rfl, by simp [pm_ts, c1, c2, c3, c4, pm_up_id hc], rfl⟩
        · refine pm_aloadn hG dX9_set_24 rfl ?_
          refine pm_getf hG dX9_set_25 (flX9_25 _ rfl) ht rfl ?_
          refine pm_iloadn hG dX9_set_28 rfl ?_
          refine pm_aloadn hG dX9_set_29 rfl ?_
          refine pm_getf hG dX9_set_30 (flX9_22 _ rfl) ht rfl ?_
          refine pm_imul hG dX9_set_33 ?_
          refine pm_iloadn hG dX9_set_34 rfl ?_
          refine pm_iadd hG dX9_set_35 ?_
          refine pm_iloadn hG dX9_set_36 rfl ?_
          refine pm_iast hG dX9_set_37 hc (hb _ _ c1 c2 c3 c4) ?_
          exact pm_vret hG hF dX9_set_38 rfl (by decide) (by decide) ⟨rfl, by simp [pm_ts, c1, c2, c3, c4], rfl⟩

set_option maxRecDepth 100000 in
theorem sx_isOutside {d B cnt : Nat} {σ : pm_S} {x a b : Int32} : pm_met mX11_isOutside d 0 0 B [.int x, .int a, .int b] cnt σ (pm_Qi (fun v σ' cnt' => v = (if x < a ∨ b < x then 1 else 0) ∧ σ' = σ ∧ cnt' = cnt)) := by
  refine pm_enter 0 (by decide) (Nat.le_of_ble_eq_true rfl) rfl (fun G hG hR hF => ?_)
  refine pm_iloadn hG dX11_isOutside_0 rfl ?_
  refine pm_iloadn hG dX11_isOutside_1 rfl ?_
  refine pm_icmp_lt (tgt := 10) hG dX11_isOutside_2 rfl (fun c1 => ?_) (fun c1 => ?_)
  · refine pm_iconst (v := 1) hG dX11_isOutside_10 (by decide) ?_
    refine pm_goto (tgt := 15) hG dX11_isOutside_11 rfl ?_
    exact pm_zret hG hF dX11_isOutside_15 rfl (by rfl) (by decide) (by decide) ⟨_, rfl, by simp [c1], rfl, rfl⟩
  · refine pm_iloadn hG dX11_isOutside_5 rfl ?_
    refine pm_iloadn hG dX11_isOutside_6 rfl ?_
    refine pm_icmp_le (tgt := 14) hG dX11_isOutside_7 rfl (fun c2 => ?_) (fun c2 => ?_)
    · refine pm_iconst (v := 0) hG dX11_isOutside_14 (by decide) ?_
      exact pm_zret hG hF dX11_isOutside_15 rfl (by rfl) (by decide) (by decide) ⟨_, rfl, by simp [c1, c2], rfl, rfl⟩
    · refine pm_iconst (v := 1) hG dX11_isOutside_10 (by decide) ?_
      refine pm_goto (tgt := 15) hG dX11_isOutside_11 rfl ?_
      exact pm_zret hG hF dX11_isOutside_15 rfl (by rfl) (by decide) (by decide) ⟨_, rfl, by simp [c1, c2], rfl, rfl⟩
