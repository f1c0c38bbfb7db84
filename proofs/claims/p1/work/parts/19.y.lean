set_option maxRecDepth 100000 in
set_option maxHeartbeats 8000000 in
theorem om_image9 {B : Nat} {d : Nat} (hdd : 1 ≤ d) : pm_met mX12_image d 0 0 B [.ref (B + 54)] 99 (pm_cat (fun _ => none) 54 (l_k_model B)) (pm_Qi (fun v _ _ => v = v_image)) := by
  refine pm_enter 1 (by decide) (Nat.le_of_ble_eq_true rfl) rfl (fun G hG hR hF => ?_)
  refine pm_iconst (v := 0) hG dX12_image_0 (by decide) ?_
  refine pm_istoreXn (loc' := [some (.ref (B + 54)), some (.int 0)]) hG dX12_image_1 (by decide) (pm_c1b rfl) rfl ?_
  have loop : ∀ (m i : Nat) (g : Nat → Int32), i ≤ 2071 → 2071 - i = m → pm_wp mX12_image G B 2 [some (.ref (B + 54)), some (.int (nI i))] [] 0 0 99 (pm_up (pm_cat (fun _ => none) 54 (l_k_model B)) 56 (.inl (2071, g))) := by
    intro m
    induction m with
    | zero =>
      intro i g hi hm
      refine pm_iloadn hG dX12_image_2 rfl ?_
      refine pm_sipush (v := 2071) hG dX12_image_3 (by decide) ?_
      refine pm_icmp_ge (tgt := 27) hG dX12_image_6 rfl (fun _ => ?_) (fun q => absurd (nI_le (a := 2071) (b := i) (by omega) (by omega)) q)
      refine pm_aloadn hG dX12_image_27 rfl ?_
      refine pm_dup hG dX12_image_28 rfl ?_
      refine pm_getf hG dX12_image_29 (flX12_319 _ rfl) rfl rfl ?_
      refine pm_iconst (v := 1) hG dX12_image_32 (by decide) ?_
      refine pm_iadd hG dX12_image_33 ?_
      refine pm_top (v := 1) (by decide) ?_
      refine pm_putf hG dX12_image_34 (fwX12_319 _ rfl) rfl rfl rfl ?_
      refine pm_aloadn hG dX12_image_37 rfl ?_
      refine pm_getf hG dX12_image_38 (flX12_319 _ rfl) rfl rfl ?_
      exact pm_iret hG hF dX12_image_41 rfl (by decide) (by decide) ⟨_, rfl, rfl⟩
    | succ m ih =>
      intro i g hi hm
      refine pm_iloadn hG dX12_image_2 rfl ?_
      refine pm_sipush (v := 2071) hG dX12_image_3 (by decide) ?_
      refine pm_icmp_ge (tgt := 27) hG dX12_image_6 rfl (fun q => absurd q (nI_ge (b := 2071) (by omega) (by omega))) (fun _ => ?_)
      refine pm_aloadn hG dX12_image_9 rfl ?_
      refine pm_getf hG dX12_image_10 (flX12_13 _ rfl) rfl rfl ?_
      refine pm_iloadn hG dX12_image_13 rfl ?_
      refine pm_aloadn hG dX12_image_14 rfl ?_
      refine pm_getf hG dX12_image_15 (flX12_7 _ rfl) rfl rfl ?_
      refine pm_iloadn hG dX12_image_18 rfl ?_
      refine pm_iald hG dX12_image_19 rfl (vp_in_nI (by omega) (by decide)) ?_
      refine pm_iast hG dX12_image_20 rfl (vp_in_nI (by omega) (by decide)) ?_
      refine pm_iincX (v := nI i + 1) (loc' := [some (.ref (B + 54)), some (.int (nI i + 1))]) hG dX12_image_21 rfl (by rfl) (by decide) (pm_c1b rfl) rfl ?_
      refine pm_goto (tgt := 2) hG dX12_image_24 rfl ?_
      rw [pm_up_up, nI_1]
      exact ih (i + 1) _ (by omega) (by omega)
  have h0 := loop 2071 0 (fun _ => 0) (by decide) rfl
  rw [pm_up_id rfl] at h0
  exact h0
