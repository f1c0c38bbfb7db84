/-! ===== constructors' leaves ===== -/
set_option maxRecDepth 100000 in
theorem tb_init {d B cnt k N : Nat} {σ : pm_S} {rows width : Int32} (hdd : 1 ≤ d) (hk : σ k = some (.inr (9, [.int 0, .int 0, .null, .int 0]))) (hkc : k ≠ cnt) (hmr : (if 100 < rows then 100 else rows) = rows) (hxr : (if 0 < rows then rows else 0) = rows) (hmw : (if 100 < width then 100 else width) = width) (hxw : (if 1 < width then width else 1) = width) (h5 : ¬ rows * width < 0) (h6 : (rows * width).toNatClampNeg = N) (h7 : N * 4 ≤ 536870912) : pm_met mX9_init d 1 N B [.ref (B + k), .int rows, .int width] cnt σ (pm_Qv (fun σ' cnt' => σ' = pm_up (pm_up σ k (.inr (9, [.int rows, .int width, .ref (B + cnt), .int 0]))) cnt (.inl (N, fun _ => 0)) ∧ cnt' = cnt + 1)) := by
  refine pm_enter 0 (by decide) (Nat.le_of_ble_eq_true rfl) rfl (fun G hG hR hF => ?_)
  refine pm_aloadn hG dX9_init_0 rfl ?_
  refine pm_objInit hG hR dX9_init_1 (oiX9_1 _ rfl) pm_oi (by omega) (by decide) ?_
  refine pm_aloadn hG dX9_init_4 rfl ?_
  refine pm_iconst (v := 0) hG dX9_init_5 (by decide) ?_
  refine pm_iloadn hG dX9_init_6 rfl ?_
  refine pm_bipush (v := 100) hG dX9_init_7 (by decide) ?_
  refine pm_mmin hG hR dX9_init_9 (mmX9_7 _ rfl) pm_mwmin (by omega) (by first | decide | exact Nat.le_of_ble_eq_true rfl) (Nat.zero_le _) (Nat.zero_le _) ?_
  refine pm_top (v := rows) hmr ?_
  refine pm_mmax hG hR dX9_init_12 (mmX9_13 _ rfl) pm_mwmax (by omega) (by first | decide | exact Nat.le_of_ble_eq_true rfl) (Nat.zero_le _) (Nat.zero_le _) ?_
  refine pm_top (v := rows) hxr ?_
  refine pm_putF hG dX9_init_15 (ffX9_16 _ rfl rfl) hk rfl rfl ?_
  refine pm_aloadn hG dX9_init_18 rfl ?_
  refine pm_iconst (v := 1) hG dX9_init_19 (by decide) ?_
  refine pm_iloadn hG dX9_init_20 rfl ?_
  refine pm_bipush (v := 100) hG dX9_init_21 (by decide) ?_
  refine pm_mmin hG hR dX9_init_23 (mmX9_7 _ rfl) pm_mwmin (by omega) (by first | decide | exact Nat.le_of_ble_eq_true rfl) (Nat.zero_le _) (Nat.zero_le _) ?_
  refine pm_top (v := width) hmw ?_
  refine pm_mmax hG hR dX9_init_26 (mmX9_13 _ rfl) pm_mwmax (by omega) (by first | decide | exact Nat.le_of_ble_eq_true rfl) (Nat.zero_le _) (Nat.zero_le _) ?_
  refine pm_top (v := width) hxw ?_
  refine pm_putF hG dX9_init_29 (ffX9_22 _ rfl rfl) (pm_up_same _ _ _) rfl rfl ?_
  refine pm_aloadn hG dX9_init_32 rfl ?_
  refine pm_aloadn hG dX9_init_33 rfl ?_
  refine pm_getf hG dX9_init_34 (flX9_16 _ rfl) (pm_up_same _ _ _) rfl ?_
  refine pm_aloadn hG dX9_init_37 rfl ?_
  refine pm_getf hG dX9_init_38 (flX9_22 _ rfl) (pm_up_same _ _ _) rfl ?_
  refine pm_imul hG dX9_init_41 ?_
  refine pm_newi (N := N) hG hR dX9_init_42 h5 h6 h7 (Nat.le_of_eq (by simp)) (Nat.le_of_eq (by simp)) ?_
  refine pm_putF hG dX9_init_44 (ffX9_25 _ rfl rfl) ((pm_up_ne _ _ hkc).trans (pm_up_same _ _ _)) rfl rfl ?_
  exact pm_vret hG hF dX9_init_47 rfl (Nat.le_of_eq (by simp)) (Nat.le_of_eq (by simp)) ⟨rfl, by rw [pm_up_comm _ _ _ hkc, pm_up_up, pm_up_up]; rfl, rfl⟩

set_option maxRecDepth 100000 in
theorem sx_fill {d B cnt c n : Nat} {σ : pm_S} {v : Int32} {f : Nat → Int32} (hc : σ c = some (.inl (n, f))) (hn : n < 2 ^ 31) : pm_met mJ7_fill_53178 d 0 0 B [.ref (B + c), .int v] cnt σ (pm_Qv (fun σ' cnt' => (∃ g, σ' = pm_up σ c (.inl (n, g))) ∧ cnt' = cnt)) := by
  refine pm_enter 2 (by decide) (Nat.le_of_ble_eq_true rfl) rfl (fun G hG hR hF => ?_)
  have loop : ∀ (m i : Nat) (g : Nat → Int32), i ≤ n → n - i = m → ∀ τ : pm_S, pm_up σ c (.inl (n, g)) = τ → pm_wp mJ7_fill_53178 G B 5 [some (.ref (B + c)), some (.int v), some (.int (nI i)), some (.int (nI n))] [] 0 0 cnt τ := by
    intro m
    induction m with
    | zero =>
      intro i g hi hm τ hτ
      subst hτ
      refine pm_iloadn hG dJ7_fill_53178_5 rfl ?_
      refine pm_iloadn hG dJ7_fill_53178_6 rfl ?_
      refine pm_icmp_ge (tgt := 20) hG dJ7_fill_53178_7 rfl (fun _ => ?_) (fun q => absurd (nI_le (by omega) (by omega)) q)
      exact pm_vret hG hF dJ7_fill_53178_20 rfl (Nat.le_refl _) (Nat.le_refl _) ⟨rfl, ⟨g, rfl⟩, rfl⟩
    | succ m ih =>
      intro i g hi hm τ hτ
      subst hτ
      refine pm_iloadn hG dJ7_fill_53178_5 rfl ?_
      refine pm_iloadn hG dJ7_fill_53178_6 rfl ?_
      refine pm_icmp_ge (tgt := 20) hG dJ7_fill_53178_7 rfl (fun q => absurd q (nI_ge (by omega) (by omega))) (fun _ => ?_)
      refine pm_aloadn hG dJ7_fill_53178_10 rfl ?_
      refine pm_iloadn hG dJ7_fill_53178_11 rfl ?_
      refine pm_iloadn hG dJ7_fill_53178_12 rfl ?_
      refine pm_iast hG dJ7_fill_53178_13 (pm_up_same _ _ _) (vp_in_nI (by omega) (by omega)) ?_
      refine pm_iincX (v := nI (i + 1)) (loc' := [some (.ref (B + c)), some (.int v), some (.int (nI (i + 1))), some (.int (nI n))]) hG dJ7_fill_53178_14 rfl (nI_1 i) (by decide) (pm_c1b rfl) rfl ?_
      refine pm_goto (tgt := 5) hG dJ7_fill_53178_17 rfl ?_
      exact ih (i + 1) _ (by omega) (by omega) _ (pm_up_up _ _ _ _).symm
  refine pm_iconst (v := 0) hG dJ7_fill_53178_0 (by decide) ?_
  refine pm_istoreXn (loc' := [some (.ref (B + c)), some (.int v), some (.int 0), none]) hG dJ7_fill_53178_1 (by decide) (pm_c1b rfl) rfl ?_
  refine pm_aloadn hG dJ7_fill_53178_2 rfl ?_
  refine pm_alen hG dJ7_fill_53178_3 hc rfl ?_
  refine pm_istoreXn (loc' := [some (.ref (B + c)), some (.int v), some (.int 0), some (.int (Int32.ofNat n))]) hG dJ7_fill_53178_4 (by decide) (pm_c1b rfl) rfl ?_
  exact loop n 0 f (by omega) rfl _ (pm_up_id hc)

set_option maxRecDepth 100000 in
theorem tb_fill {d B cnt t c n : Nat} {σ : pm_S} {rows width used : Int32} {f : Nat → Int32} {v : Int32} (hdd : 1 ≤ d) (ht : σ t = some (.inr (9, [.int rows, .int width, .ref (B + c), .int used]))) (hc : σ c = some (.inl (n, f))) (hn : n < 2 ^ 31) : pm_met mX9_fill d 0 0 B [.ref (B + t), .int v] cnt σ (pm_Qv (fun σ' cnt' => (∃ g, σ' = pm_up σ c (.inl (n, g))) ∧ cnt' = cnt)) := by
  refine pm_enter 0 (by decide) (Nat.le_of_ble_eq_true rfl) rfl (fun G hG hR hF => ?_)
  refine pm_aloadn hG dX9_fill_0 rfl ?_
  refine pm_getf hG dX9_fill_1 (flX9_25 _ rfl) ht rfl ?_
  refine pm_iloadn hG dX9_fill_4 rfl ?_
  refine pm_callS (As := [.ref (B + c), .int v]) (rest := []) hG hR dX9_fill_5 (lkX9_43 _ rfl) okS_J7_fill_53178 (sx_fill (d := 0) hc hn) rfl rfl hdd (by decide) (by decide) (by decide) (pm_kv (fun σ' cnt' hq => ?_))
  obtain ⟨⟨g, rfl⟩, rfl⟩ := hq
  exact pm_vret hG hF dX9_fill_8 rfl (by decide) (by decide) ⟨rfl, ⟨_, rfl⟩, rfl⟩
