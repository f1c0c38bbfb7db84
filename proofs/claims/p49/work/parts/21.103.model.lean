set_option maxRecDepth 100000 in
set_option maxHeartbeats 4000000 in
theorem m_restore {d B cnt p0 t0 : Nat} {σ : pm_S} {I : Nat → Int32} {A : Nat → Nat → Int32} {n k z : Nat → Int32} {ac wt pl im : Int32} {y : Nat → Int32} (hdd : 2 ≤ d) (hn : KI n) (hr : NR n) (hz : SZ z) (hk : KI k) (hkr : NR k) : pm_met mX12_restore d 0 0 B [.ref (B + 54)] cnt (pm_mid σ (md_L B I A n k z ac wt pl (nI p0) (nI t0) im y)) (pm_Qi (fun v σ' cnt' => (∃ (I' : Nat → Int32) (A' : Nat → Nat → Int32) (n' : Nat → Int32), σ' = pm_mid σ (md_L B I' A' n' k z ac wt pl (nI p0) (nI t0) im y) ∧ KI n' ∧ NR n' ∧ (im = 0 → n' = n ∧ v = (-1000000) - nI 2) ∧ (im ≠ 0 → (∀ j : Nat, j < 2071 → n' j = k j) ∧ v = k 8)) ∧ cnt = cnt')) := by
  refine pm_enter 1 (by decide) (Nat.le_of_ble_eq_true rfl) rfl (fun G hG hR hF => ?_)
  refine pm_aloadn hG dX12_restore_0 rfl ?_
  refine pm_getf hG dX12_restore_1 (flX12_319 _ rfl) rfl rfl ?_
  refine pm_if_ne (tgt := 13) hG dX12_restore_4 rfl (fun c1 => ?_) (fun c1 => ?_)
  · refine pm_iconst (v := nI 0) hG dX12_restore_13 (by decide) ?_
    refine pm_istoreXn (loc' := [some (.ref (B + 54)), some (.int (nI 0))]) hG dX12_restore_14 (by decide) (pm_c1b rfl) rfl ?_
    have loop15_2 : ∀ (m2 : Nat) (n_2 : Nat → Int32) (i2 : Nat), i2 ≤ 2071 → (∀ j : Nat, j < i2 → n_2 j = k j) → 2071 - i2 < m2 → pm_wp mX12_restore G B 15 [some (.ref (B + 54)), some (.int (nI i2))] [] 0 0 cnt (pm_mid σ (md_L B I A n_2 k z ac wt pl (nI p0) (nI t0) im y)) := by
      intro m2
      induction m2 with
      | zero => intro n_2 i2 _ _ hm; exact absurd hm (Nat.not_lt_zero _)
      | succ m2 ih2 =>
        intro n_2 i2 hi2 cpy2 hm2
        refine pm_iloadn hG dX12_restore_15 rfl ?_
        refine pm_sipush (v := nI 2071) hG dX12_restore_16 (by decide) ?_
        refine pm_icmpN_ge (tgt := 40) hG dX12_restore_19 rfl (by omega) (by omega) (fun c3 => ?_) (fun c3 => ?_)
        · have hnR : KI n_2 := KI.eqv cpy2 (by omega) hk
          have hrR : NR n_2 := NR.eqv cpy2 (by omega) hkr
          refine pm_aloadn hG dX12_restore_40 rfl ?_
          refine pm_getf hG dX12_restore_41 (flX12_7 _ rfl) rfl rfl ?_
          refine pm_bipush (v := nI 8) hG dX12_restore_44 (by decide) ?_
          refine pm_ialdN hG dX12_restore_46 rfl (by decide) (by omega) ?_
          obtain ⟨k4, hk4, ek4⟩ := KI.nat hnR (show kd 8 = (1, 2001, false) by decide)
          refine pm_top (v := nI k4) ek4 ?_
          exact pm_iret hG hF dX12_restore_47 rfl (Nat.le_refl _) (Nat.le_refl _) ⟨_, rfl, ⟨_, _, _, rfl, hnR, hrR, ⟨fun q => (by first | exact absurd q c1 | exact absurd c1 q), fun _ => ⟨fun j hj => cpy2 j (by omega), ek4.symm.trans (cpy2 8 (by omega))⟩⟩⟩, rfl⟩
        · refine pm_aloadn hG dX12_restore_22 rfl ?_
          refine pm_getf hG dX12_restore_23 (flX12_7 _ rfl) rfl rfl ?_
          refine pm_iloadn hG dX12_restore_26 rfl ?_
          refine pm_aloadn hG dX12_restore_27 rfl ?_
          refine pm_getf hG dX12_restore_28 (flX12_13 _ rfl) rfl rfl ?_
          refine pm_iloadn hG dX12_restore_31 rfl ?_
          refine pm_ialdN hG dX12_restore_32 rfl (by decide) (by omega) ?_
          refine pm_gen (fun x5 ex5 => ?_)
          refine pm_iastN hG dX12_restore_33 rfl (by decide) (by omega) ?_
          refine mdn_now (fun n_6 en_6 => ?_)
          have cn_6 := cpy_step cpy2 en_6 ex5
          refine pm_iincX (v := nI (i2 + 1)) (loc' := [some (.ref (B + 54)), some (.int (nI (i2 + 1)))]) hG dX12_restore_34 rfl (nI_1 _) (by decide) (pm_c1b rfl) rfl ?_
          refine pm_goto (tgt := 15) hG dX12_restore_37 rfl ?_
          exact ih2 n_6 (i2 + 1) (by omega) cn_6 (by omega)
    exact loop15_2 _ n 0 (by omega) (fun _ h => absurd h (Nat.not_lt_zero _)) (Nat.lt_succ_self _)
  · refine pm_aloadn hG dX12_restore_7 rfl ?_
    refine pm_iconst (v := nI 2) hG dX12_restore_8 (by decide) ?_
    refine pm_callV (As := [.int (nI 2)]) (rest := []) hG hR dX12_restore_9 (lkX12_80 _ rfl) okV_X12_finds rfl rfl (m_finds (d := 1) (by decide) hn hz (by omega)) rfl rfl hdd (Nat.le_refl _) (Nat.le_refl _) (by decide) (pm_ki (fun v7 σ' cnt' hq => ?_))
    obtain ⟨⟨I8, A8, rfl⟩, rfl, fv7⟩ := hq
    exact pm_iret hG hF dX12_restore_12 rfl (Nat.le_refl _) (Nat.le_refl _) ⟨_, rfl, ⟨_, _, _, rfl, hn, hr, ⟨fun _ => ⟨rfl, fv7⟩, fun q => (by first | exact absurd q c1 | exact absurd c1 q)⟩⟩, rfl⟩
