set_option maxRecDepth 100000 in
set_option maxHeartbeats 4000000 in
theorem m_image {d B cnt p0 t0 : Nat} {σ : pm_S} {I : Nat → Int32} {A : Nat → Nat → Int32} {n k z : Nat → Int32} {ac wt pl im : Int32} {y : Nat → Int32} (hdd : 1 ≤ d) (hn : KI n) (hr : NR n) (hz : SZ z)  : pm_met mX12_image d 0 0 B [.ref (B + 54)] cnt (pm_mid σ (md_L B I A n k z ac wt pl (nI p0) (nI t0) im y)) (pm_Qi (fun v σ' cnt' => (∃ (I' : Nat → Int32) (A' : Nat → Nat → Int32) (k' : Nat → Int32) (im' : Int32), σ' = pm_mid σ (md_L B I' A' n k' z ac wt pl (nI p0) (nI t0) im' y) ∧ KI k' ∧ NR k' ∧ (∀ j : Nat, j < 2071 → k' j = n j) ∧ v = im + nI 1 ∧ im' = im + nI 1) ∧ cnt = cnt')) := by
  refine pm_enter 1 (by decide) (Nat.le_of_ble_eq_true rfl) rfl (fun G hG hR hF => ?_)
  refine pm_iconst (v := nI 0) hG dX12_image_0 (by decide) ?_
  refine pm_istoreXn (loc' := [some (.ref (B + 54)), some (.int (nI 0))]) hG dX12_image_1 (by decide) (pm_c1b rfl) rfl ?_
  have loop2_1 : ∀ (m1 : Nat) (I1 : Nat → Int32) (A1 : Nat → Nat → Int32) (k_1 : Nat → Int32) (i1 : Nat), i1 ≤ 2071 → (∀ j : Nat, j < i1 → k_1 j = n j) → 2071 - i1 < m1 → pm_wp mX12_image G B 2 [some (.ref (B + 54)), some (.int (nI i1))] [] 0 0 cnt (pm_mid σ (md_L B I1 A1 n k_1 z ac wt pl (nI p0) (nI t0) im y)) := by
    intro m1
    induction m1 with
    | zero => intro I1 A1 k_1 i1 _ _ hm; exact absurd hm (Nat.not_lt_zero _)
    | succ m1 ih1 =>
      intro I1 A1 k_1 i1 hi1 cpy1 hm1
      refine pm_iloadn hG dX12_image_2 rfl ?_
      refine pm_sipush (v := nI 2071) hG dX12_image_3 (by decide) ?_
      refine pm_icmpN_ge (tgt := 27) hG dX12_image_6 rfl (by omega) (by omega) (fun c2 => ?_) (fun c2 => ?_)
      · refine pm_aloadn hG dX12_image_27 rfl ?_
        refine pm_dup hG dX12_image_28 rfl ?_
        refine pm_getf hG dX12_image_29 (flX12_319 _ rfl) rfl rfl ?_
        refine pm_iconst (v := nI 1) hG dX12_image_32 (by decide) ?_
        refine pm_iadd hG dX12_image_33 ?_
        refine pm_putf hG dX12_image_34 (fwX12_319 _ rfl) rfl rfl rfl ?_
        refine mdn_images ?_
        refine pm_aloadn hG dX12_image_37 rfl ?_
        refine pm_getf hG dX12_image_38 (flX12_319 _ rfl) rfl rfl ?_
        exact pm_iret hG hF dX12_image_41 rfl (Nat.le_refl _) (Nat.le_refl _) ⟨_, rfl, ⟨_, _, _, _, rfl, KI.eqv cpy1 (by omega) hn, NR.eqv cpy1 (by omega) hr, ⟨fun j hj => cpy1 j (by omega), rfl, rfl⟩⟩, rfl⟩
      · refine pm_aloadn hG dX12_image_9 rfl ?_
        refine pm_getf hG dX12_image_10 (flX12_13 _ rfl) rfl rfl ?_
        refine pm_iloadn hG dX12_image_13 rfl ?_
        refine pm_aloadn hG dX12_image_14 rfl ?_
        refine pm_getf hG dX12_image_15 (flX12_7 _ rfl) rfl rfl ?_
        refine pm_iloadn hG dX12_image_18 rfl ?_
        refine pm_ialdN hG dX12_image_19 rfl (by decide) (by omega) ?_
        refine pm_gen (fun x3 ex3 => ?_)
        refine pm_iastN hG dX12_image_20 rfl (by decide) (by omega) ?_
        refine mdn_kept (fun k_4 ek_4 => ?_)
        have ck_4 := cpy_step cpy1 ek_4 ex3
        refine pm_iincX (v := nI (i1 + 1)) (loc' := [some (.ref (B + 54)), some (.int (nI (i1 + 1)))]) hG dX12_image_21 rfl (nI_1 _) (by decide) (pm_c1b rfl) rfl ?_
        refine pm_goto (tgt := 2) hG dX12_image_24 rfl ?_
        exact ih1 I1 A1 k_4 (i1 + 1) (by omega) ck_4 (by omega)
  exact loop2_1 _ I A k 0 (by omega) (fun _ h => absurd h (Nat.not_lt_zero _)) (Nat.lt_succ_self _)
