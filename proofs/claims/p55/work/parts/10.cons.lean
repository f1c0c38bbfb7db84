/-! ===== constructors' leaves ===== -/
set_option maxRecDepth 100000 in
theorem tb_init {d B cnt k N : Nat} {σ : pm_S} {rows width : Int32} (hdd : 1 ≤ d) (hk : σ k = some (.inr (9, [.int 0, .int 0, .null, .int 0]))) (hkc : k ≠ cnt) (hmr : (if 100 < rows then 100 else rows) = rows) (hxr : (if 0 < rows then rows else 0) = rows) (hmw : (if 100 < width then 100 else width) = width) (hxw : (if 1 < width then width else 1) = width) (h5 : ¬ rows * width < 0) (h6 : (rows * width).toNatClampNeg = N) (h7 : N * 4 ≤ 536870912) : pm_met mX9_init d 1 N B [.ref (B + k), .int rows, .int width] cnt σ (pm_Qv (fun σ' cnt' => σ' = pm_up (pm_up σ k (.inr (9, [.int rows, .int width, .ref (B + cnt), .int 0]))) cnt (.inl (N, fun _ => 0)) ∧ cnt' = cnt + 1)) := by
  refine pm_enter 0 (by decide) (Nat.le_of_ble_eq_true rfl) rfl (fun G hG hR hF => ?_)
  refine pm_aloadn hG dX9_init_0 rfl ?_
  refine pm_objInit hG hR dX9_init_1 (oiX9_1 _ rfl) pm_oi (by omega) (by decide) ?_
  refine pm_aloadn hG dX9_init_4 rfl ?_
  refine pm_iconst (v := 0) hG dX9_init_5 (by decide) ?_
  refine pm_iloadn hG dX9_init_6 rfl ?_
  refine pm_bipush (v := 100) hG dX9_init_7 (by decide) ?_
  refine pm_mmin hG hR dX9_init_9 (mmX9_7 _ rfl) pm_mwmin (by omega) (by first | decide | exact Nat.le_of_ble_eq_true rfl) (Nat.zero_le _) (Nat.zero_le _) ?_
  refine pm_top (v := rows) hmr ?_
  refine pm_mmax hG hR dX9_init_12 (mmX9_13 _ rfl) pm_mwmax (by omega) (by first | decide | exact Nat.le_of_ble_eq_true rfl) (Nat.zero_le _) (Nat.zero_le _) ?_
  refine pm_top (v := rows) hxr ?_
  refine pm_putF hG dX9_init_15 (ffX9_16 _ rfl rfl) hk rfl rfl ?_
  refine pm_aloadn hG dX9_init_18 rfl ?_
  refine pm_iconst (v := 1) hG dX9_init_19 (by decide) ?_
  refine pm_iloadn hG dX9_init_20 rfl ?_
  refine pm_bipush (v := 100) hG dX9_init_21 (by decide) ?_
  refine pm_mmin hG hR dX9_init_23 (mmX9_7 _ rfl) pm_mwmin (by omega) (by first | decide | exact Nat.le_of_ble_eq_true rfl) (Nat.zero_le _) (Nat.zero_le _) ?_
  refine pm_top (v := width) hmw ?_
  refine pm_mmax hG hR dX9_init_26 (mmX9_13 _ rfl) pm_mwmax (by omega) (by first | decide | exact Nat.le_of_ble_eq_true rfl) (Nat.zero_le _) (Nat.zero_le _) ?_
  refine pm_top (v := width) hxw ?_
  refine pm_putF hG dX9_init_29 (ffX9_22 _ rfl rfl) (pm_up_same _ _ _) rfl rfl ?_
  refine pm_aloadn hG dX9_init_32 rfl ?_
  refine pm_aloadn hG dX9_init_33 rfl ?_
  refine pm_getf hG dX9_init_34 (flX9_16 _ rfl) (pm_up_same _ _ _) rfl ?_
  refine pm_aloadn hG dX9_init_37 rfl ?_
  refine pm_getf hG dX9_init_38 (flX9_22 _ rfl) (pm_up_same _ _ _) rfl ?_
  refine pm_imul hG dX9_init_41 ?_
  refine pm_newi (N := N) hG hR dX9_init_42 h5 h6 h7 (Nat.le_of_eq (by simp)) (Nat.le_of_eq (by simp)) ?_
  refine pm_putF hG dX9_init_44 (ffX9_25 _ rfl rfl) ((pm_up_ne _ _ hkc).trans (pm_up_same _ _ _)) rfl rfl ?_
  exact pm_vret hG hF dX9_init_47 rfl (Nat.le_of_eq (by simp)) (Nat.le_of_eq (by simp)) ⟨rfl, by rw [pm_up_comm _ _ _ hkc, pm_up_up, pm_up_up]; rfl, rfl⟩

set_option maxRecDepth 100000 in
theorem sx_fill {d B cnt c n : Nat} {σ : pm_S} {v : Int32} {f : Nat → Int32} (hc : σ c = some (.inl (n, f))) (hn : n < 2 ^ 31) : pm_met mJ7_fill_53178 d 0 0 B [.ref (B + c), .int v] cnt σ (pm_Qv (fun σ' cnt' => (∃ g, σ' = pm_up σ c (.inl (n, g))) ∧ cnt' = cnt)) := by
  refine pm_enter 2 (by decide) (Nat.le_of_ble_eq_true rfl) rfl (fun G hG hR hF => ?_)
  have loop : ∀ (m i : Nat) (g : Nat → Int32), i ≤ n → n - i = m → ∀ τ : pm_S, pm_up σ c (.inl (n, g)) = τ → pm_wp mJ7_fill_53178 G B 5 [some (.ref (B + c)), some (.int v), some (.int (nI i)), some (.int (nI n))] [] 0 0 cnt τ := by
    intro m
    induction m with
    | zero =>
      intro i g hi hm τ hτ
      subst hτ
      refine pm_iloadn hG dJ7_fill_53178_5 rfl ?_
      refine pm_iloadn hG dJ7_fill_53178_6 rfl ?_
      refine pm_icmp_ge (tgt := 20) hG dJ7_fill_53178_7 rfl (fun _ => ?_) (fun q => absurd (nI_le (by omega) (by omega)) q)
      exact pm_vret hG hF dJ7_fill_53178_20 rfl (Nat.le_refl _) (Nat.le_refl _) ⟨rfl, ⟨g, rfl⟩, rfl⟩
    | succ m ih =>
      intro i g hi hm τ hτ
      subst hτ
      refine pm_iloadn hG dJ7_fill_53178_5 rfl ?_
      refine pm_iloadn hG dJ7_fill_53178_6 rfl ?_
      refine pm_icmp_ge (tgt := 20) hG dJ7_fill_53178_7 rfl (fun q => absurd q (nI_ge (by omega) (by omega))) (fun _ => ?_)
      refine pm_aloadn hG dJ7_fill_53178_10 rfl ?_
      refine pm_iloadn hG dJ7_fill_53178_11 rfl ?_
      refine pm_iloadn hG dJ7_fill_53178_12 rfl ?_
      refine pm_iast hG dJ7_fill_53178_13 (pm_up_same _ _ _) (vp_in_nI (by omega) (by omega)) ?_
      refine pm_iincX (v := nI (i + 1)) (loc' := [some (.ref (B + c)), some (.int v), some (.int (nI (i + 1))), some (.int (nI n))]) hG dJ7_fill_53178_14 rfl (nI_1 i) (by decide) (pm_c1b rfl) rfl ?_
      refine pm_goto (tgt := 5) hG dJ7_fill_53178_17 rfl ?_
      exact ih (i + 1) _ (by omega) (by omega) _ (pm_up_up _ _ _ _).symm
  refine pm_iconst (v := 0) hG dJ7_fill_53178_0 (by decide) ?_
  refine pm_istoreXn (loc' := [some (.ref (B + c)), some (.int v), some (.int 0), none]) hG dJ7_fill_53178_1 (by decide) (pm_c1b rfl) rfl ?_
  refine pm_aloadn hG dJ7_fill_53178_2 rfl ?_
  refine pm_alen hG dJ7_fill_53178_3 hc rfl ?_
  refine pm_istoreXn (loc' := [some (.ref (B + c)), some (.int v), some (.int 0), some (.int (Int32.ofNat n))]) hG dJ7_fill_53178_4 (by decide) (pm_c1b rfl) rfl ?_
  exact loop n 0 f (by omega) rfl _ (pm_up_id hc)

theorem fill_s {g : Nat → Int32} {v : Int32} {i : Nat} (h : ∀ j : Nat, j < i → g j = v) : ∀ j : Nat, j < i + 1 → upd g i v j = v := by
  intro j hj
  by_cases c : j = i
  · subst c; rw [pk_us]
  · rw [pk_un c]; exact h j (by omega)

set_option maxRecDepth 100000 in
theorem sx_fillX {d B cnt c n : Nat} {σ : pm_S} {v : Int32} {f : Nat → Int32} (hc : σ c = some (.inl (n, f))) (hn : n < 2 ^ 31) : pm_met mJ7_fill_53178 d 0 0 B [.ref (B + c), .int v] cnt σ (pm_Qv (fun σ' cnt' => (∃ g, σ' = pm_up σ c (.inl (n, g)) ∧ ∀ j : Nat, j < n → g j = v) ∧ cnt' = cnt)) := by
  refine pm_enter 2 (by decide) (Nat.le_of_ble_eq_true rfl) rfl (fun G hG hR hF => ?_)
  have loop : ∀ (m i : Nat) (g : Nat → Int32), i ≤ n → n - i = m → (∀ j : Nat, j < i → g j = v) → ∀ τ : pm_S, pm_up σ c (.inl (n, g)) = τ → pm_wp mJ7_fill_53178 G B 5 [some (.ref (B + c)), some (.int v), some (.int (nI i)), some (.int (nI n))] [] 0 0 cnt τ := by
    intro m
    induction m with
    | zero =>
      intro i g hi hm hg τ hτ
      subst hτ
      refine pm_iloadn hG dJ7_fill_53178_5 rfl ?_
      refine pm_iloadn hG dJ7_fill_53178_6 rfl ?_
      refine pm_icmp_ge (tgt := 20) hG dJ7_fill_53178_7 rfl (fun _ => ?_) (fun q => absurd (nI_le (by omega) (by omega)) q)
      exact pm_vret hG hF dJ7_fill_53178_20 rfl (Nat.le_refl _) (Nat.le_refl _) ⟨rfl, ⟨g, rfl, fun j hj => hg j (by omega)⟩, rfl⟩
    | succ m ih =>
      intro i g hi hm hg τ hτ
      subst hτ
      refine pm_iloadn hG dJ7_fill_53178_5 rfl ?_
      refine pm_iloadn hG dJ7_fill_53178_6 rfl ?_
      refine pm_icmp_ge (tgt := 20) hG dJ7_fill_53178_7 rfl (fun q => absurd q (nI_ge (by omega) (by omega))) (fun _ => ?_)
      refine pm_aloadn hG dJ7_fill_53178_10 rfl ?_
      refine pm_iloadn hG dJ7_fill_53178_11 rfl ?_
      refine pm_iloadn hG dJ7_fill_53178_12 rfl ?_
      refine pm_iast hG dJ7_fill_53178_13 (pm_up_same _ _ _) (vp_in_nI (by omega) (by omega)) ?_
      refine pm_iincX (v := nI (i + 1)) (loc' := [some (.ref (B + c)), some (.int v), some (.int (nI (i + 1))), some (.int (nI n))]) hG dJ7_fill_53178_14 rfl (nI_1 i) (by decide) (pm_c1b rfl) rfl ?_
      refine pm_goto (tgt := 5) hG dJ7_fill_53178_17 rfl ?_
      rw [nI_clamp (show i < 2 ^ 31 by omega)]
      exact ih (i + 1) _ (by omega) (by omega) (fill_s hg) _ (pm_up_up _ _ _ _).symm
  refine pm_iconst (v := 0) hG dJ7_fill_53178_0 (by decide) ?_
  refine pm_istoreXn (loc' := [some (.ref (B + c)), some (.int v), some (.int 0), none]) hG dJ7_fill_53178_1 (by decide) (pm_c1b rfl) rfl ?_
  refine pm_aloadn hG dJ7_fill_53178_2 rfl ?_
  refine pm_alen hG dJ7_fill_53178_3 hc rfl ?_
  refine pm_istoreXn (loc' := [some (.ref (B + c)), some (.int v), some (.int 0), some (.int (Int32.ofNat n))]) hG dJ7_fill_53178_4 (by decide) (pm_c1b rfl) rfl ?_
  exact loop n 0 f (by omega) rfl (fun _ h => absurd h (Nat.not_lt_zero _)) _ (pm_up_id hc)

set_option maxRecDepth 100000 in
theorem tb_fill {d B cnt t c n : Nat} {σ : pm_S} {rows width used : Int32} {f : Nat → Int32} {v : Int32} (hdd : 1 ≤ d) (ht : σ t = some (.inr (9, [.int rows, .int width, .ref (B + c), .int used]))) (hc : σ c = some (.inl (n, f))) (hn : n < 2 ^ 31) : pm_met mX9_fill d 0 0 B [.ref (B + t), .int v] cnt σ (pm_Qv (fun σ' cnt' => (∃ g, σ' = pm_up σ c (.inl (n, g))) ∧ cnt' = cnt)) := by
  refine pm_enter 0 (by decide) (Nat.le_of_ble_eq_true rfl) rfl (fun G hG hR hF => ?_)
  refine pm_aloadn hG dX9_fill_0 rfl ?_
  refine pm_getf hG dX9_fill_1 (flX9_25 _ rfl) ht rfl ?_
  refine pm_iloadn hG dX9_fill_4 rfl ?_
  refine pm_callS (As := [.ref (B + c), .int v]) (rest := []) hG hR dX9_fill_5 (lkX9_43 _ rfl) okS_J7_fill_53178 (sx_fill (d := 0) hc hn) rfl rfl hdd (by decide) (by decide) (by decide) (pm_kv (fun σ' cnt' hq => ?_))
  obtain ⟨⟨g, rfl⟩, rfl⟩ := hq
  exact pm_vret hG hF dX9_fill_8 rfl (by decide) (by decide) ⟨rfl, ⟨_, rfl⟩, rfl⟩

set_option maxRecDepth 100000 in
theorem tb_fillX {d B cnt t c n : Nat} {σ : pm_S} {rows width used : Int32} {f : Nat → Int32} {v : Int32} (hdd : 1 ≤ d) (ht : σ t = some (.inr (9, [.int rows, .int width, .ref (B + c), .int used]))) (hc : σ c = some (.inl (n, f))) (hn : n < 2 ^ 31) : pm_met mX9_fill d 0 0 B [.ref (B + t), .int v] cnt σ (pm_Qv (fun σ' cnt' => (∃ g, σ' = pm_up σ c (.inl (n, g)) ∧ ∀ j : Nat, j < n → g j = v) ∧ cnt' = cnt)) := by
  refine pm_enter 0 (by decide) (Nat.le_of_ble_eq_true rfl) rfl (fun G hG hR hF => ?_)
  refine pm_aloadn hG dX9_fill_0 rfl ?_
  refine pm_getf hG dX9_fill_1 (flX9_25 _ rfl) ht rfl ?_
  refine pm_iloadn hG dX9_fill_4 rfl ?_
  refine pm_callS (As := [.ref (B + c), .int v]) (rest := []) hG hR dX9_fill_5 (lkX9_43 _ rfl) okS_J7_fill_53178 (sx_fillX (d := 0) hc hn) rfl rfl hdd (by decide) (by decide) (by decide) (pm_kv (fun σ' cnt' hq => ?_))
  obtain ⟨⟨g, rfl, hg⟩, rfl⟩ := hq
  exact pm_vret hG hF dX9_fill_8 rfl (by decide) (by decide) ⟨rfl, ⟨_, rfl, hg⟩, rfl⟩

def wY0 (j : Nat) : Int32 := if j % 11 = 0 then 0 else 1000
theorem wi_0 {f : Nat → Int32} : pm_ts 10 10 f 0 0 0 = upd f 0 0 := by
  unfold pm_ts
  rw [if_neg (by decide), show ((0 : Int32) * 10 + 0).toNatClampNeg = 0 by decide]
theorem wi_1 {f : Nat → Int32} : pm_ts 10 10 f 1 1 0 = upd f 11 0 := by
  unfold pm_ts
  rw [if_neg (by decide), show ((1 : Int32) * 10 + 1).toNatClampNeg = 11 by decide]
theorem wi_2 {f : Nat → Int32} : pm_ts 10 10 f 2 2 0 = upd f 22 0 := by
  unfold pm_ts
  rw [if_neg (by decide), show ((2 : Int32) * 10 + 2).toNatClampNeg = 22 by decide]
theorem wi_3 {f : Nat → Int32} : pm_ts 10 10 f 3 3 0 = upd f 33 0 := by
  unfold pm_ts
  rw [if_neg (by decide), show ((3 : Int32) * 10 + 3).toNatClampNeg = 33 by decide]
theorem wi_4 {f : Nat → Int32} : pm_ts 10 10 f 4 4 0 = upd f 44 0 := by
  unfold pm_ts
  rw [if_neg (by decide), show ((4 : Int32) * 10 + 4).toNatClampNeg = 44 by decide]
theorem wi_5 {f : Nat → Int32} : pm_ts 10 10 f 5 5 0 = upd f 55 0 := by
  unfold pm_ts
  rw [if_neg (by decide), show ((5 : Int32) * 10 + 5).toNatClampNeg = 55 by decide]
theorem wi_6 {f : Nat → Int32} : pm_ts 10 10 f 6 6 0 = upd f 66 0 := by
  unfold pm_ts
  rw [if_neg (by decide), show ((6 : Int32) * 10 + 6).toNatClampNeg = 66 by decide]
theorem wi_7 {f : Nat → Int32} : pm_ts 10 10 f 7 7 0 = upd f 77 0 := by
  unfold pm_ts
  rw [if_neg (by decide), show ((7 : Int32) * 10 + 7).toNatClampNeg = 77 by decide]
theorem wi_8 {f : Nat → Int32} : pm_ts 10 10 f 8 8 0 = upd f 88 0 := by
  unfold pm_ts
  rw [if_neg (by decide), show ((8 : Int32) * 10 + 8).toNatClampNeg = 88 by decide]
theorem wi_9 {f : Nat → Int32} : pm_ts 10 10 f 9 9 0 = upd f 99 0 := by
  unfold pm_ts
  rw [if_neg (by decide), show ((9 : Int32) * 10 + 9).toNatClampNeg = 99 by decide]
theorem wi_ok {g : Nat → Int32} (hg : ∀ j : Nat, j < 100 → g j = 1000) : ∀ j : Nat, j < 100 → (pm_ts 10 10 (pm_ts 10 10 (pm_ts 10 10 (pm_ts 10 10 (pm_ts 10 10 (pm_ts 10 10 (pm_ts 10 10 (pm_ts 10 10 (pm_ts 10 10 (pm_ts 10 10 g 0 0 0) 1 1 0) 2 2 0) 3 3 0) 4 4 0) 5 5 0) 6 6 0) 7 7 0) 8 8 0) 9 9 0) j = wY0 j := by
  intro j hj
  rw [wi_9, wi_8, wi_7, wi_6, wi_5, wi_4, wi_3, wi_2, wi_1, wi_0]
  unfold wY0
  by_cases c : j % 11 = 0
  · rw [if_pos c]
    rcases (show j = 0 ∨ j = 11 ∨ j = 22 ∨ j = 33 ∨ j = 44 ∨ j = 55 ∨ j = 66 ∨ j = 77 ∨ j = 88 ∨ j = 99 by omega) with rfl | rfl | rfl | rfl | rfl | rfl | rfl | rfl | rfl | rfl <;> rfl
  · rw [if_neg c, pk_un (by omega), pk_un (by omega), pk_un (by omega), pk_un (by omega), pk_un (by omega), pk_un (by omega), pk_un (by omega), pk_un (by omega), pk_un (by omega), pk_un (by omega)]; exact hg j hj
