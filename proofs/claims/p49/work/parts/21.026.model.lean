set_option maxRecDepth 100000 in
set_option maxHeartbeats 4000000 in
theorem m_bits {d B cnt p0 t0 : Nat} {σ : pm_S} {I : Nat → Int32} {A : Nat → Nat → Int32} {n k z : Nat → Int32} {ac wt pl im : Int32} {y : Nat → Int32} {za : Int32} (hdd : 1 ≤ d) (hn : KI n) (hz : SZ z)  : pm_met mX12_bits d 0 0 B [.int za] cnt (pm_mid σ (md_L B I A n k z ac wt pl (nI p0) (nI t0) im y)) (pm_Qi (fun v σ' cnt' => σ' = pm_mid σ (md_L B I A n k z ac wt pl (nI p0) (nI t0) im y) ∧ cnt = cnt')) := by
  refine pm_enter 2 (by decide) (Nat.le_of_ble_eq_true rfl) rfl (fun G hG hR hF => ?_)
  refine pm_iconst (v := nI 0) hG dX12_bits_0 (by decide) ?_
  refine pm_istoreXn (loc' := [some (.int za), some (.int (nI 0)), none]) hG dX12_bits_1 (by decide) (pm_c1b rfl) rfl ?_
  refine pm_iloadn hG dX12_bits_2 rfl ?_
  refine pm_istoreXn (loc' := [some (.int za), some (.int (nI 0)), some (.int za)]) hG dX12_bits_3 (by decide) (pm_c1b rfl) rfl ?_
  have loop : ∀ (m : Nat) (c yy : Int32), yy.toBitVec.toNat < m → pm_wp mX12_bits G B 4 [some (.int za), some (.int c), some (.int yy)] [] 0 0 cnt (pm_mid σ (md_L B I A n k z ac wt pl (nI p0) (nI t0) im y)) := by
    intro m
    induction m with
    | zero => intro c yy hm; exact absurd hm (Nat.not_lt_zero _)
    | succ m ih =>
      intro c yy hm
      refine pm_iloadn hG dX12_bits_4 rfl ?_
      refine pm_if_eq (tgt := 20) hG dX12_bits_5 rfl (fun hz0 => ?_) (fun hz0 => ?_)
      · refine pm_iloadn hG dX12_bits_20 rfl ?_
        exact pm_iret hG hF dX12_bits_21 rfl (Nat.le_refl _) (Nat.le_refl _) ⟨_, rfl, rfl, rfl⟩
      · refine pm_iincX (v := c + 1) (loc' := [some (.int za), some (.int (c + 1)), some (.int yy)]) hG dX12_bits_8 rfl (by rfl) (by decide) (pm_c1b rfl) rfl ?_
        refine pm_iloadn hG dX12_bits_11 rfl ?_
        refine pm_iloadn hG dX12_bits_12 rfl ?_
        refine pm_iconst (v := nI 1) hG dX12_bits_13 (by decide) ?_
        refine pm_isub hG dX12_bits_14 ?_
        refine pm_iand hG dX12_bits_15 ?_
        refine pm_istoreXn (loc' := [some (.int za), some (.int (c + 1)), some (.int (yy &&& (yy - nI 1)))]) hG dX12_bits_16 (by decide) (pm_c1b rfl) rfl ?_
        refine pm_goto (tgt := 4) hG dX12_bits_17 rfl ?_
        exact ih _ _ (Nat.lt_of_lt_of_le (pm_bt hz0) (Nat.le_of_lt_succ hm))
  exact loop _ _ _ (Nat.lt_succ_self _)
