set_option maxRecDepth 100000 in
theorem m_in {d B cnt : Nat} {σ : pm_S} {x lo hi : Int32} : pm_met mX12_in d 0 0 B [.int x, .int lo, .int hi] cnt σ (pm_Qi (fun v σ' cnt' => ((v = nI 1 ∧ ¬ x < lo ∧ ¬ hi < x) ∨ (v = nI 0 ∧ (x < lo ∨ hi < x))) ∧ σ' = σ ∧ cnt = cnt')) := by
  refine pm_enter 0 (by decide) (Nat.le_of_ble_eq_true rfl) rfl (fun G hG hR hF => ?_)
  refine pm_iloadn hG dX12_in_0 rfl ?_
  refine pm_iloadn hG dX12_in_1 rfl ?_
  refine pm_icmp_lt (tgt := 14) hG dX12_in_2 rfl (fun c1 => ?_) (fun c1 => ?_)
  · refine pm_iconst (v := 0) hG dX12_in_14 (by decide) ?_
    exact pm_zret hG hF dX12_in_15 rfl (by rfl) (by decide) (by decide) ⟨_, rfl, Or.inr ⟨rfl, Or.inl c1⟩, rfl, rfl⟩
  · refine pm_iloadn hG dX12_in_5 rfl ?_
    refine pm_iloadn hG dX12_in_6 rfl ?_
    refine pm_icmp_gt (tgt := 14) hG dX12_in_7 rfl (fun c2 => ?_) (fun c2 => ?_)
    · refine pm_iconst (v := 0) hG dX12_in_14 (by decide) ?_
      exact pm_zret hG hF dX12_in_15 rfl (by rfl) (by decide) (by decide) ⟨_, rfl, Or.inr ⟨rfl, Or.inr c2⟩, rfl, rfl⟩
    · refine pm_iconst (v := 1) hG dX12_in_10 (by decide) ?_
      refine pm_goto (tgt := 15) hG dX12_in_11 rfl ?_
      exact pm_zret hG hF dX12_in_15 rfl (by rfl) (by decide) (by decide) ⟨_, rfl, Or.inl ⟨rfl, c1, c2⟩, rfl, rfl⟩

set_option maxRecDepth 100000 in
theorem m_isTown {d B cnt : Nat} {σ : pm_S} {I : Nat → Int32} {A : Nat → Nat → Int32} {n k z : Nat → Int32} {ac wt pl ps tr im : Int32}  {x : Int32} {c : Nat} (hdd : 1 ≤ d) (hc : n 0 = nI c) (hc2 : c < 2 ^ 30) : pm_met mX12_isTown d 0 0 B [.ref (B + 54), .int x] cnt (pm_mid σ (md_L B I A n k z ac wt pl ps tr im)) (pm_Qi (fun v σ' cnt' => ((v = nI 1 ∧ ∃ j : Nat, j < c ∧ x = nI j) ∨ (v = nI 0 ∧ (x < nI 0 ∨ nI c - nI 1 < x))) ∧ σ' = (pm_mid σ (md_L B I A n k z ac wt pl ps tr im)) ∧ cnt = cnt')) := by
  refine pm_enter 0 (by decide) (Nat.le_of_ble_eq_true rfl) rfl (fun G hG hR hF => ?_)
  refine pm_iloadn hG dX12_isTown_0 rfl ?_
  refine pm_iconst (v := nI 0) hG dX12_isTown_1 (by decide) ?_
  refine pm_aloadn hG dX12_isTown_2 rfl ?_
  refine pm_getf hG dX12_isTown_3 (flX12_7 _ rfl) rfl rfl ?_
  refine pm_iconst (v := nI 0) hG dX12_isTown_6 (by decide) ?_
  refine pm_ialdN hG dX12_isTown_7 rfl (by decide) (by omega) ?_
  refine pm_top (v := nI c) hc ?_
  refine pm_iconst (v := nI 1) hG dX12_isTown_8 (by decide) ?_
  refine pm_isub hG dX12_isTown_9 ?_
  refine pm_callS (As := [.int x, .int (nI 0), .int ((nI c) - (nI 1))]) (rest := []) hG hR dX12_isTown_10 (lkX12_68 _ rfl) okS_X12_in (m_in (d := 0)) rfl rfl hdd (Nat.le_refl _) (Nat.le_refl _) (by decide) (pm_ki (fun v1 σ' cnt' hq => ?_))
  obtain ⟨hq, rfl, rfl⟩ := hq
  rcases hq with ⟨rfl, ac2, bc2⟩ | ⟨rfl, c2⟩
  · obtain ⟨k3, hk3, ek3⟩ := in_cnt (c := c) (by omega) ac2 bc2
    exact pm_zret hG hF dX12_isTown_13 rfl (by rfl) (Nat.le_refl _) (Nat.le_refl _) ⟨_, rfl, Or.inl ⟨rfl, k3, hk3, ek3⟩, rfl, rfl⟩
  · exact pm_zret hG hF dX12_isTown_13 rfl (by rfl) (Nat.le_refl _) (Nat.le_refl _) ⟨_, rfl, Or.inr ⟨rfl, c2⟩, rfl, rfl⟩

set_option maxRecDepth 100000 in
theorem m_isPerson {d B cnt : Nat} {σ : pm_S} {I : Nat → Int32} {A : Nat → Nat → Int32} {n k z : Nat → Int32} {ac wt pl ps tr im : Int32}  {x : Int32} {c : Nat} (hdd : 1 ≤ d) (hc : n 2 = nI c) (hc2 : c < 2 ^ 30) : pm_met mX12_isPerson d 0 0 B [.ref (B + 54), .int x] cnt (pm_mid σ (md_L B I A n k z ac wt pl ps tr im)) (pm_Qi (fun v σ' cnt' => ((v = nI 1 ∧ ∃ j : Nat, j < c ∧ x = nI j) ∨ (v = nI 0 ∧ (x < nI 0 ∨ nI c - nI 1 < x))) ∧ σ' = (pm_mid σ (md_L B I A n k z ac wt pl ps tr im)) ∧ cnt = cnt')) := by
  refine pm_enter 0 (by decide) (Nat.le_of_ble_eq_true rfl) rfl (fun G hG hR hF => ?_)
  refine pm_iloadn hG dX12_isPerson_0 rfl ?_
  refine pm_iconst (v := nI 0) hG dX12_isPerson_1 (by decide) ?_
  refine pm_aloadn hG dX12_isPerson_2 rfl ?_
  refine pm_getf hG dX12_isPerson_3 (flX12_7 _ rfl) rfl rfl ?_
  refine pm_iconst (v := nI 2) hG dX12_isPerson_6 (by decide) ?_
  refine pm_ialdN hG dX12_isPerson_7 rfl (by decide) (by omega) ?_
  refine pm_top (v := nI c) hc ?_
  refine pm_iconst (v := nI 1) hG dX12_isPerson_8 (by decide) ?_
  refine pm_isub hG dX12_isPerson_9 ?_
  refine pm_callS (As := [.int x, .int (nI 0), .int ((nI c) - (nI 1))]) (rest := []) hG hR dX12_isPerson_10 (lkX12_68 _ rfl) okS_X12_in (m_in (d := 0)) rfl rfl hdd (Nat.le_refl _) (Nat.le_refl _) (by decide) (pm_ki (fun v1 σ' cnt' hq => ?_))
  obtain ⟨hq, rfl, rfl⟩ := hq
  rcases hq with ⟨rfl, ac2, bc2⟩ | ⟨rfl, c2⟩
  · obtain ⟨k3, hk3, ek3⟩ := in_cnt (c := c) (by omega) ac2 bc2
    exact pm_zret hG hF dX12_isPerson_13 rfl (by rfl) (Nat.le_refl _) (Nat.le_refl _) ⟨_, rfl, Or.inl ⟨rfl, k3, hk3, ek3⟩, rfl, rfl⟩
  · exact pm_zret hG hF dX12_isPerson_13 rfl (by rfl) (Nat.le_refl _) (Nat.le_refl _) ⟨_, rfl, Or.inr ⟨rfl, c2⟩, rfl, rfl⟩

set_option maxRecDepth 100000 in
theorem m_isPower {d B cnt : Nat} {σ : pm_S} {I : Nat → Int32} {A : Nat → Nat → Int32} {n k z : Nat → Int32} {ac wt pl ps tr im : Int32}  {x : Int32} {c : Nat} (hdd : 1 ≤ d) (hc : n 3 = nI c) (hc2 : c < 2 ^ 30) : pm_met mX12_isPower d 0 0 B [.ref (B + 54), .int x] cnt (pm_mid σ (md_L B I A n k z ac wt pl ps tr im)) (pm_Qi (fun v σ' cnt' => ((v = nI 1 ∧ ∃ j : Nat, j < c ∧ x = nI j) ∨ v = nI 0) ∧ σ' = (pm_mid σ (md_L B I A n k z ac wt pl ps tr im)) ∧ cnt = cnt')) := by
  refine pm_enter 0 (by decide) (Nat.le_of_ble_eq_true rfl) rfl (fun G hG hR hF => ?_)
  refine pm_iloadn hG dX12_isPower_0 rfl ?_
  refine pm_iconst (v := nI 0) hG dX12_isPower_1 (by decide) ?_
  refine pm_aloadn hG dX12_isPower_2 rfl ?_
  refine pm_getf hG dX12_isPower_3 (flX12_7 _ rfl) rfl rfl ?_
  refine pm_iconst (v := nI 3) hG dX12_isPower_6 (by decide) ?_
  refine pm_ialdN hG dX12_isPower_7 rfl (by decide) (by omega) ?_
  refine pm_top (v := nI c) hc ?_
  refine pm_iconst (v := nI 1) hG dX12_isPower_8 (by decide) ?_
  refine pm_isub hG dX12_isPower_9 ?_
  refine pm_callS (As := [.int x, .int (nI 0), .int ((nI c) - (nI 1))]) (rest := []) hG hR dX12_isPower_10 (lkX12_68 _ rfl) okS_X12_in (m_in (d := 0)) rfl rfl hdd (Nat.le_refl _) (Nat.le_refl _) (by decide) (pm_ki (fun v1 σ' cnt' hq => ?_))
  obtain ⟨hq, rfl, rfl⟩ := hq
  rcases hq with ⟨rfl, ac2, bc2⟩ | ⟨rfl, c2⟩
  · obtain ⟨k3, hk3, ek3⟩ := in_cnt (c := c) (by omega) ac2 bc2
    exact pm_zret hG hF dX12_isPower_13 rfl (by rfl) (Nat.le_refl _) (Nat.le_refl _) ⟨_, rfl, Or.inl ⟨rfl, k3, hk3, ek3⟩, rfl, rfl⟩
  · exact pm_zret hG hF dX12_isPower_13 rfl (by rfl) (Nat.le_refl _) (Nat.le_refl _) ⟨_, rfl, Or.inr rfl, rfl, rfl⟩

set_option maxRecDepth 100000 in
theorem m_isLaw {d B cnt : Nat} {σ : pm_S} {I : Nat → Int32} {A : Nat → Nat → Int32} {n k z : Nat → Int32} {ac wt pl ps tr im : Int32}  {x : Int32} {c : Nat} (hdd : 1 ≤ d) (hc : n 4 = nI c) (hc2 : c < 2 ^ 30) : pm_met mX12_isLaw d 0 0 B [.ref (B + 54), .int x] cnt (pm_mid σ (md_L B I A n k z ac wt pl ps tr im)) (pm_Qi (fun v σ' cnt' => ((v = nI 1 ∧ ∃ j : Nat, j < c ∧ x = nI j) ∨ v = nI 0) ∧ σ' = (pm_mid σ (md_L B I A n k z ac wt pl ps tr im)) ∧ cnt = cnt')) := by
  refine pm_enter 0 (by decide) (Nat.le_of_ble_eq_true rfl) rfl (fun G hG hR hF => ?_)
  refine pm_iloadn hG dX12_isLaw_0 rfl ?_
  refine pm_iconst (v := nI 0) hG dX12_isLaw_1 (by decide) ?_
  refine pm_aloadn hG dX12_isLaw_2 rfl ?_
  refine pm_getf hG dX12_isLaw_3 (flX12_7 _ rfl) rfl rfl ?_
  refine pm_iconst (v := nI 4) hG dX12_isLaw_6 (by decide) ?_
  refine pm_ialdN hG dX12_isLaw_7 rfl (by decide) (by omega) ?_
  refine pm_top (v := nI c) hc ?_
  refine pm_iconst (v := nI 1) hG dX12_isLaw_8 (by decide) ?_
  refine pm_isub hG dX12_isLaw_9 ?_
  refine pm_callS (As := [.int x, .int (nI 0), .int ((nI c) - (nI 1))]) (rest := []) hG hR dX12_isLaw_10 (lkX12_68 _ rfl) okS_X12_in (m_in (d := 0)) rfl rfl hdd (Nat.le_refl _) (Nat.le_refl _) (by decide) (pm_ki (fun v1 σ' cnt' hq => ?_))
  obtain ⟨hq, rfl, rfl⟩ := hq
  rcases hq with ⟨rfl, ac2, bc2⟩ | ⟨rfl, c2⟩
  · obtain ⟨k3, hk3, ek3⟩ := in_cnt (c := c) (by omega) ac2 bc2
    exact pm_zret hG hF dX12_isLaw_13 rfl (by rfl) (Nat.le_refl _) (Nat.le_refl _) ⟨_, rfl, Or.inl ⟨rfl, k3, hk3, ek3⟩, rfl, rfl⟩
  · exact pm_zret hG hF dX12_isLaw_13 rfl (by rfl) (Nat.le_refl _) (Nat.le_refl _) ⟨_, rfl, Or.inr rfl, rfl, rfl⟩

set_option maxRecDepth 100000 in
theorem m_isLetter {d B cnt : Nat} {σ : pm_S} {I : Nat → Int32} {A : Nat → Nat → Int32} {n k z : Nat → Int32} {ac wt pl ps tr im : Int32}  {x : Int32} {c : Nat} (hdd : 1 ≤ d) (hc : n 5 = nI c) (hc2 : c < 2 ^ 30) : pm_met mX12_isLetter d 0 0 B [.ref (B + 54), .int x] cnt (pm_mid σ (md_L B I A n k z ac wt pl ps tr im)) (pm_Qi (fun v σ' cnt' => ((v = nI 1 ∧ ∃ j : Nat, j < c ∧ x = nI j) ∨ v = nI 0) ∧ σ' = (pm_mid σ (md_L B I A n k z ac wt pl ps tr im)) ∧ cnt = cnt')) := by
  refine pm_enter 0 (by decide) (Nat.le_of_ble_eq_true rfl) rfl (fun G hG hR hF => ?_)
  refine pm_iloadn hG dX12_isLetter_0 rfl ?_
  refine pm_iconst (v := nI 0) hG dX12_isLetter_1 (by decide) ?_
  refine pm_aloadn hG dX12_isLetter_2 rfl ?_
  refine pm_getf hG dX12_isLetter_3 (flX12_7 _ rfl) rfl rfl ?_
  refine pm_iconst (v := nI 5) hG dX12_isLetter_6 (by decide) ?_
  refine pm_ialdN hG dX12_isLetter_7 rfl (by decide) (by omega) ?_
  refine pm_top (v := nI c) hc ?_
  refine pm_iconst (v := nI 1) hG dX12_isLetter_8 (by decide) ?_
  refine pm_isub hG dX12_isLetter_9 ?_
  refine pm_callS (As := [.int x, .int (nI 0), .int ((nI c) - (nI 1))]) (rest := []) hG hR dX12_isLetter_10 (lkX12_68 _ rfl) okS_X12_in (m_in (d := 0)) rfl rfl hdd (Nat.le_refl _) (Nat.le_refl _) (by decide) (pm_ki (fun v1 σ' cnt' hq => ?_))
  obtain ⟨hq, rfl, rfl⟩ := hq
  rcases hq with ⟨rfl, ac2, bc2⟩ | ⟨rfl, c2⟩
  · obtain ⟨k3, hk3, ek3⟩ := in_cnt (c := c) (by omega) ac2 bc2
    exact pm_zret hG hF dX12_isLetter_13 rfl (by rfl) (Nat.le_refl _) (Nat.le_refl _) ⟨_, rfl, Or.inl ⟨rfl, k3, hk3, ek3⟩, rfl, rfl⟩
  · exact pm_zret hG hF dX12_isLetter_13 rfl (by rfl) (Nat.le_refl _) (Nat.le_refl _) ⟨_, rfl, Or.inr rfl, rfl, rfl⟩

set_option maxRecDepth 100000 in
theorem m_isDay {d B cnt : Nat} {σ : pm_S} {x : Int32} (hdd : 1 ≤ d) : pm_met mX12_isDay d 0 0 B [.int x] cnt σ (pm_Qi (fun v σ' cnt' => ((v = nI 1 ∧ ¬ x < nI 0 ∧ ¬ nI 2000 < x) ∨ (v = nI 0 ∧ (x < nI 0 ∨ nI 2000 < x))) ∧ σ' = σ ∧ cnt = cnt')) := by
  refine pm_enter 0 (by decide) (Nat.le_of_ble_eq_true rfl) rfl (fun G hG hR hF => ?_)
  refine pm_iloadn hG dX12_isDay_0 rfl ?_
  refine pm_iconst (v := nI 0) hG dX12_isDay_1 (by decide) ?_
  refine pm_sipush (v := nI 2000) hG dX12_isDay_2 (by decide) ?_
  refine pm_callS (As := [.int x, .int (nI 0), .int (nI 2000)]) (rest := []) hG hR dX12_isDay_5 (lkX12_68 _ rfl) okS_X12_in (m_in (d := 0)) rfl rfl hdd (Nat.le_refl _) (Nat.le_refl _) (by decide) (pm_ki (fun v σ' cnt' hq => ?_))
  obtain ⟨hq, rfl, rfl⟩ := hq
  rcases hq with ⟨rfl, a1, b1⟩ | ⟨rfl, c1⟩
  · exact pm_zret hG hF dX12_isDay_8 rfl (by rfl) (Nat.le_refl _) (Nat.le_refl _) ⟨_, rfl, Or.inl ⟨rfl, a1, b1⟩, rfl, rfl⟩
  · exact pm_zret hG hF dX12_isDay_8 rfl (by rfl) (Nat.le_refl _) (Nat.le_refl _) ⟨_, rfl, Or.inr ⟨rfl, c1⟩, rfl, rfl⟩

set_option maxRecDepth 100000 in
theorem m_isSheet {d B cnt : Nat} {σ : pm_S} {x : Int32} (hdd : 1 ≤ d) : pm_met mX12_isSheet d 0 0 B [.int x] cnt σ (pm_Qi (fun v σ' cnt' => ((v = nI 1 ∧ ¬ x < nI 0 ∧ ¬ nI 3 < x) ∨ (v = nI 0 ∧ (x < nI 0 ∨ nI 3 < x))) ∧ σ' = σ ∧ cnt = cnt')) := by
  refine pm_enter 0 (by decide) (Nat.le_of_ble_eq_true rfl) rfl (fun G hG hR hF => ?_)
  refine pm_iloadn hG dX12_isSheet_0 rfl ?_
  refine pm_iconst (v := nI 0) hG dX12_isSheet_1 (by decide) ?_
  refine pm_iconst (v := nI 3) hG dX12_isSheet_2 (by decide) ?_
  refine pm_callS (As := [.int x, .int (nI 0), .int (nI 3)]) (rest := []) hG hR dX12_isSheet_3 (lkX12_68 _ rfl) okS_X12_in (m_in (d := 0)) rfl rfl hdd (Nat.le_refl _) (Nat.le_refl _) (by decide) (pm_ki (fun v σ' cnt' hq => ?_))
  obtain ⟨hq, rfl, rfl⟩ := hq
  rcases hq with ⟨rfl, a1, b1⟩ | ⟨rfl, c1⟩
  · exact pm_zret hG hF dX12_isSheet_6 rfl (by rfl) (Nat.le_refl _) (Nat.le_refl _) ⟨_, rfl, Or.inl ⟨rfl, a1, b1⟩, rfl, rfl⟩
  · exact pm_zret hG hF dX12_isSheet_6 rfl (by rfl) (Nat.le_refl _) (Nat.le_refl _) ⟨_, rfl, Or.inr ⟨rfl, c1⟩, rfl, rfl⟩

set_option maxRecDepth 100000 in
theorem m_man {d B cnt : Nat} {σ : pm_S} {I : Nat → Int32} {A : Nat → Nat → Int32} {n k z : Nat → Int32} {ac wt pl ps tr im : Int32}  {p c e : Nat} (hp : p < 20) (hc : c < 14) (he : c + 14 * p + 110 = e) : pm_met mX12_man d 0 0 B [.ref (B + 54), .int (nI p), .int (nI c)] cnt (pm_mid σ (md_L B I A n k z ac wt pl ps tr im)) (pm_Qi (fun v σ' cnt' => v = n e ∧ σ' = (pm_mid σ (md_L B I A n k z ac wt pl ps tr im)) ∧ cnt = cnt')) := by
  refine pm_enter 0 (by decide) (Nat.le_of_ble_eq_true rfl) rfl (fun G hG hR hF => ?_)
  subst he
  refine pm_aloadn hG dX12_man_0 rfl ?_
  refine pm_getf hG dX12_man_1 (flX12_7 _ rfl) rfl rfl ?_
  refine pm_bipush (v := nI 110) hG dX12_man_4 (by decide) ?_
  refine pm_bipush (v := nI 14) hG dX12_man_6 (by decide) ?_
  refine pm_iloadn hG dX12_man_8 rfl ?_
  refine pm_imulN (c := 14 * p) hG dX12_man_9 (by omega) ?_
  refine pm_iaddN (c := 14 * p + 110) hG dX12_man_10 (by omega) ?_
  refine pm_iloadn hG dX12_man_11 rfl ?_
  refine pm_iaddN (c := c + 14 * p + 110) hG dX12_man_12 (by omega) ?_
  refine pm_ialdN hG dX12_man_13 rfl (by decide) (by omega) ?_
  exact pm_iret hG hF dX12_man_14 rfl (Nat.le_refl _) (Nat.le_refl _) ⟨_, rfl, rfl, rfl, rfl⟩

set_option maxRecDepth 100000 in
theorem m_sets {d B cnt : Nat} {σ : pm_S} {I : Nat → Int32} {A : Nat → Nat → Int32} {n k z : Nat → Int32} {ac wt pl ps tr im : Int32}  {p c e : Nat} {x : Int32} (hp : p < 20) (hc : c < 14) (he : c + 14 * p + 110 = e) : pm_met mX12_sets d 0 0 B [.ref (B + 54), .int (nI p), .int (nI c), .int x] cnt (pm_mid σ (md_L B I A n k z ac wt pl ps tr im)) (pm_Qv (fun σ' cnt' => σ' = (pm_mid σ (md_L B I A (upd n e x) k z ac wt pl ps tr im)) ∧ cnt = cnt')) := by
  refine pm_enter 0 (by decide) (Nat.le_of_ble_eq_true rfl) rfl (fun G hG hR hF => ?_)
  subst he
  refine pm_aloadn hG dX12_sets_0 rfl ?_
  refine pm_getf hG dX12_sets_1 (flX12_7 _ rfl) rfl rfl ?_
  refine pm_bipush (v := nI 110) hG dX12_sets_4 (by decide) ?_
  refine pm_bipush (v := nI 14) hG dX12_sets_6 (by decide) ?_
  refine pm_iloadn hG dX12_sets_8 rfl ?_
  refine pm_imulN (c := 14 * p) hG dX12_sets_9 (by omega) ?_
  refine pm_iaddN (c := 14 * p + 110) hG dX12_sets_10 (by omega) ?_
  refine pm_iloadn hG dX12_sets_11 rfl ?_
  refine pm_iaddN (c := c + 14 * p + 110) hG dX12_sets_12 (by omega) ?_
  refine pm_iloadn hG dX12_sets_13 rfl ?_
  refine pm_iastN hG dX12_sets_14 rfl (by decide) (by omega) ?_
  refine mdn_now (fun f ef => ?_)
  subst ef
  exact pm_vret hG hF dX12_sets_15 rfl (Nat.le_refl _) (Nat.le_refl _) ⟨rfl, rfl, rfl⟩

set_option maxRecDepth 100000 in
theorem m_its {d B cnt : Nat} {σ : pm_S} {I : Nat → Int32} {A : Nat → Nat → Int32} {n k z : Nat → Int32} {ac wt pl ps tr im : Int32}  {p c e : Nat} (hp : p < 20) (hc : c < 6) (he : c + 6 * p + 390 = e) : pm_met mX12_its d 0 0 B [.ref (B + 54), .int (nI p), .int (nI c)] cnt (pm_mid σ (md_L B I A n k z ac wt pl ps tr im)) (pm_Qi (fun v σ' cnt' => v = n e ∧ σ' = (pm_mid σ (md_L B I A n k z ac wt pl ps tr im)) ∧ cnt = cnt')) := by
  refine pm_enter 0 (by decide) (Nat.le_of_ble_eq_true rfl) rfl (fun G hG hR hF => ?_)
  subst he
  refine pm_aloadn hG dX12_its_0 rfl ?_
  refine pm_getf hG dX12_its_1 (flX12_7 _ rfl) rfl rfl ?_
  refine pm_sipush (v := nI 390) hG dX12_its_4 (by decide) ?_
  refine pm_bipush (v := nI 6) hG dX12_its_7 (by decide) ?_
  refine pm_iloadn hG dX12_its_9 rfl ?_
  refine pm_imulN (c := 6 * p) hG dX12_its_10 (by omega) ?_
  refine pm_iaddN (c := 6 * p + 390) hG dX12_its_11 (by omega) ?_
  refine pm_iloadn hG dX12_its_12 rfl ?_
  refine pm_iaddN (c := c + 6 * p + 390) hG dX12_its_13 (by omega) ?_
  refine pm_ialdN hG dX12_its_14 rfl (by decide) (by omega) ?_
  exact pm_iret hG hF dX12_its_15 rfl (Nat.le_refl _) (Nat.le_refl _) ⟨_, rfl, rfl, rfl, rfl⟩

set_option maxRecDepth 100000 in
theorem m_makes {d B cnt : Nat} {σ : pm_S} {I : Nat → Int32} {A : Nat → Nat → Int32} {n k z : Nat → Int32} {ac wt pl ps tr im : Int32}  {p c e : Nat} {x : Int32} (hp : p < 20) (hc : c < 6) (he : c + 6 * p + 390 = e) : pm_met mX12_makes d 0 0 B [.ref (B + 54), .int (nI p), .int (nI c), .int x] cnt (pm_mid σ (md_L B I A n k z ac wt pl ps tr im)) (pm_Qv (fun σ' cnt' => σ' = (pm_mid σ (md_L B I A (upd n e x) k z ac wt pl ps tr im)) ∧ cnt = cnt')) := by
  refine pm_enter 0 (by decide) (Nat.le_of_ble_eq_true rfl) rfl (fun G hG hR hF => ?_)
  subst he
  refine pm_aloadn hG dX12_makes_0 rfl ?_
  refine pm_getf hG dX12_makes_1 (flX12_7 _ rfl) rfl rfl ?_
  refine pm_sipush (v := nI 390) hG dX12_makes_4 (by decide) ?_
  refine pm_bipush (v := nI 6) hG dX12_makes_7 (by decide) ?_
  refine pm_iloadn hG dX12_makes_9 rfl ?_
  refine pm_imulN (c := 6 * p) hG dX12_makes_10 (by omega) ?_
  refine pm_iaddN (c := 6 * p + 390) hG dX12_makes_11 (by omega) ?_
  refine pm_iloadn hG dX12_makes_12 rfl ?_
  refine pm_iaddN (c := c + 6 * p + 390) hG dX12_makes_13 (by omega) ?_
  refine pm_iloadn hG dX12_makes_14 rfl ?_
  refine pm_iastN hG dX12_makes_15 rfl (by decide) (by omega) ?_
  refine mdn_now (fun f ef => ?_)
  subst ef
  exact pm_vret hG hF dX12_makes_16 rfl (Nat.le_refl _) (Nat.le_refl _) ⟨rfl, rfl, rfl⟩

set_option maxRecDepth 100000 in
theorem m_of {d B cnt : Nat} {σ : pm_S} {I : Nat → Int32} {A : Nat → Nat → Int32} {n k z : Nat → Int32} {ac wt pl ps tr im : Int32}  {p c e : Nat} (hp : p < 40) (hc : c < 12) (he : c + 12 * p + 1290 = e) : pm_met mX12_of d 0 0 B [.ref (B + 54), .int (nI p), .int (nI c)] cnt (pm_mid σ (md_L B I A n k z ac wt pl ps tr im)) (pm_Qi (fun v σ' cnt' => v = n e ∧ σ' = (pm_mid σ (md_L B I A n k z ac wt pl ps tr im)) ∧ cnt = cnt')) := by
  refine pm_enter 0 (by decide) (Nat.le_of_ble_eq_true rfl) rfl (fun G hG hR hF => ?_)
  subst he
  refine pm_aloadn hG dX12_of_0 rfl ?_
  refine pm_getf hG dX12_of_1 (flX12_7 _ rfl) rfl rfl ?_
  refine pm_sipush (v := nI 1290) hG dX12_of_4 (by decide) ?_
  refine pm_bipush (v := nI 12) hG dX12_of_7 (by decide) ?_
  refine pm_iloadn hG dX12_of_9 rfl ?_
  refine pm_imulN (c := 12 * p) hG dX12_of_10 (by omega) ?_
  refine pm_iaddN (c := 12 * p + 1290) hG dX12_of_11 (by omega) ?_
  refine pm_iloadn hG dX12_of_12 rfl ?_
  refine pm_iaddN (c := c + 12 * p + 1290) hG dX12_of_13 (by omega) ?_
  refine pm_ialdN hG dX12_of_14 rfl (by decide) (by omega) ?_
  exact pm_iret hG hF dX12_of_15 rfl (Nat.le_refl _) (Nat.le_refl _) ⟨_, rfl, rfl, rfl, rfl⟩

set_option maxRecDepth 100000 in
theorem m_writes {d B cnt : Nat} {σ : pm_S} {I : Nat → Int32} {A : Nat → Nat → Int32} {n k z : Nat → Int32} {ac wt pl ps tr im : Int32}  {p c e : Nat} {x : Int32} (hp : p < 40) (hc : c < 12) (he : c + 12 * p + 1290 = e) : pm_met mX12_writes d 0 0 B [.ref (B + 54), .int (nI p), .int (nI c), .int x] cnt (pm_mid σ (md_L B I A n k z ac wt pl ps tr im)) (pm_Qv (fun σ' cnt' => σ' = (pm_mid σ (md_L B I A (upd n e x) k z ac wt pl ps tr im)) ∧ cnt = cnt')) := by
  refine pm_enter 0 (by decide) (Nat.le_of_ble_eq_true rfl) rfl (fun G hG hR hF => ?_)
  subst he
  refine pm_aloadn hG dX12_writes_0 rfl ?_
  refine pm_getf hG dX12_writes_1 (flX12_7 _ rfl) rfl rfl ?_
  refine pm_sipush (v := nI 1290) hG dX12_writes_4 (by decide) ?_
  refine pm_bipush (v := nI 12) hG dX12_writes_7 (by decide) ?_
  refine pm_iloadn hG dX12_writes_9 rfl ?_
  refine pm_imulN (c := 12 * p) hG dX12_writes_10 (by omega) ?_
  refine pm_iaddN (c := 12 * p + 1290) hG dX12_writes_11 (by omega) ?_
  refine pm_iloadn hG dX12_writes_12 rfl ?_
  refine pm_iaddN (c := c + 12 * p + 1290) hG dX12_writes_13 (by omega) ?_
  refine pm_iloadn hG dX12_writes_14 rfl ?_
  refine pm_iastN hG dX12_writes_15 rfl (by decide) (by omega) ?_
  refine mdn_now (fun f ef => ?_)
  subst ef
  exact pm_vret hG hF dX12_writes_16 rfl (Nat.le_refl _) (Nat.le_refl _) ⟨rfl, rfl, rfl⟩

set_option maxRecDepth 100000 in
theorem m_promised {d B cnt : Nat} {σ : pm_S} {I : Nat → Int32} {A : Nat → Nat → Int32} {n k z : Nat → Int32} {ac wt pl ps tr im : Int32}  {p c e : Nat} (hp : p < 30) (hc : c < 6) (he : c + 6 * p + 1806 = e) : pm_met mX12_promised d 0 0 B [.ref (B + 54), .int (nI p), .int (nI c)] cnt (pm_mid σ (md_L B I A n k z ac wt pl ps tr im)) (pm_Qi (fun v σ' cnt' => v = n e ∧ σ' = (pm_mid σ (md_L B I A n k z ac wt pl ps tr im)) ∧ cnt = cnt')) := by
  refine pm_enter 0 (by decide) (Nat.le_of_ble_eq_true rfl) rfl (fun G hG hR hF => ?_)
  subst he
  refine pm_aloadn hG dX12_promised_0 rfl ?_
  refine pm_getf hG dX12_promised_1 (flX12_7 _ rfl) rfl rfl ?_
  refine pm_sipush (v := nI 1806) hG dX12_promised_4 (by decide) ?_
  refine pm_bipush (v := nI 6) hG dX12_promised_7 (by decide) ?_
  refine pm_iloadn hG dX12_promised_9 rfl ?_
  refine pm_imulN (c := 6 * p) hG dX12_promised_10 (by omega) ?_
  refine pm_iaddN (c := 6 * p + 1806) hG dX12_promised_11 (by omega) ?_
  refine pm_iloadn hG dX12_promised_12 rfl ?_
  refine pm_iaddN (c := c + 6 * p + 1806) hG dX12_promised_13 (by omega) ?_
  refine pm_ialdN hG dX12_promised_14 rfl (by decide) (by omega) ?_
  exact pm_iret hG hF dX12_promised_15 rfl (Nat.le_refl _) (Nat.le_refl _) ⟨_, rfl, rfl, rfl, rfl⟩

set_option maxRecDepth 100000 in
theorem m_lives1 {d B cnt : Nat} {σ : pm_S} {I : Nat → Int32} {A : Nat → Nat → Int32} {n k z : Nat → Int32} {ac wt pl ps tr im : Int32}  {p e : Nat} (hdd : 1 ≤ d) (hp : p < 20) (he : 14 * p + 119 = e) (hv : n e = -1) : pm_met mX12_lives d 0 0 B [.ref (B + 54), .int (nI p)] cnt (pm_mid σ (md_L B I A n k z ac wt pl ps tr im)) (pm_Qi (fun v σ' cnt' => v = nI 1 ∧ σ' = (pm_mid σ (md_L B I A n k z ac wt pl ps tr im)) ∧ cnt = cnt')) := by
  refine pm_enter 0 (by decide) (Nat.le_of_ble_eq_true rfl) rfl (fun G hG hR hF => ?_)
  subst he
  refine pm_aloadn hG dX12_lives_0 rfl ?_
  refine pm_iloadn hG dX12_lives_1 rfl ?_
  refine pm_bipush (v := nI 9) hG dX12_lives_2 (by decide) ?_
  refine pm_callV (As := [.int (nI p), .int (nI 9)]) (rest := []) hG hR dX12_lives_4 (lkX12_72 _ rfl) okV_X12_man rfl rfl (m_man (d := 0) (e := 14 * p + 119) (by omega) (by omega) (by omega)) rfl rfl hdd (Nat.le_refl _) (Nat.le_refl _) (by decide) (pm_ki (fun v1 σ' cnt' hq => ?_))
  obtain ⟨rfl, rfl, rfl⟩ := hq
  refine pm_top (v := (-1)) hv ?_
  refine pm_if_ge (tgt := 14) hG dX12_lives_7 rfl (fun q => absurd q (by decide)) (fun _ => ?_)
  refine pm_iconst (v := nI 1) hG dX12_lives_10 (by decide) ?_
  refine pm_goto (tgt := 15) hG dX12_lives_11 rfl ?_
  exact pm_zret hG hF dX12_lives_15 rfl (by rfl) (Nat.le_refl _) (Nat.le_refl _) ⟨_, rfl, rfl, rfl, rfl⟩

set_option maxRecDepth 100000 in
theorem m_lives0 {d B cnt : Nat} {σ : pm_S} {I : Nat → Int32} {A : Nat → Nat → Int32} {n k z : Nat → Int32} {ac wt pl ps tr im : Int32}  {p e j : Nat} (hdd : 1 ≤ d) (hp : p < 20) (he : 14 * p + 119 = e) (hv : n e = nI j) (hj : j < 2 ^ 31) : pm_met mX12_lives d 0 0 B [.ref (B + 54), .int (nI p)] cnt (pm_mid σ (md_L B I A n k z ac wt pl ps tr im)) (pm_Qi (fun v σ' cnt' => v = nI 0 ∧ σ' = (pm_mid σ (md_L B I A n k z ac wt pl ps tr im)) ∧ cnt = cnt')) := by
  refine pm_enter 0 (by decide) (Nat.le_of_ble_eq_true rfl) rfl (fun G hG hR hF => ?_)
  subst he
  refine pm_aloadn hG dX12_lives_0 rfl ?_
  refine pm_iloadn hG dX12_lives_1 rfl ?_
  refine pm_bipush (v := nI 9) hG dX12_lives_2 (by decide) ?_
  refine pm_callV (As := [.int (nI p), .int (nI 9)]) (rest := []) hG hR dX12_lives_4 (lkX12_72 _ rfl) okV_X12_man rfl rfl (m_man (d := 0) (e := 14 * p + 119) (by omega) (by omega) (by omega)) rfl rfl hdd (Nat.le_refl _) (Nat.le_refl _) (by decide) (pm_ki (fun v1 σ' cnt' hq => ?_))
  obtain ⟨rfl, rfl, rfl⟩ := hq
  refine pm_top (v := nI j) hv ?_
  refine pm_ifN_ge (tgt := 14) hG dX12_lives_7 rfl (by omega) ?_
  refine pm_iconst (v := nI 0) hG dX12_lives_14 (by decide) ?_
  exact pm_zret hG hF dX12_lives_15 rfl (by rfl) (Nat.le_refl _) (Nat.le_refl _) ⟨_, rfl, rfl, rfl, rfl⟩

set_option maxRecDepth 100000 in
theorem m_comesBack {d B cnt : Nat} {σ : pm_S} {I : Nat → Int32} {A : Nat → Nat → Int32} {n k z : Nat → Int32} {ac wt pl ps tr im : Int32}  {p e e2 : Nat} (hdd : 1 ≤ d) (hp : p < 20) (he : 6 * p + 392 = e) (he2 : 6 * p + 393 = e2) : pm_met mX12_comesBack d 0 0 B [.ref (B + 54), .int (nI p)] cnt (pm_mid σ (md_L B I A n k z ac wt pl ps tr im)) (pm_Qv (fun σ' cnt' => σ' = (pm_mid σ (md_L B I A (upd (upd n e (-1)) e2 (-1)) k z ac wt pl ps tr im)) ∧ cnt = cnt')) := by
  refine pm_enter 0 (by decide) (Nat.le_of_ble_eq_true rfl) rfl (fun G hG hR hF => ?_)
  subst he he2
  refine pm_aloadn hG dX12_comesBack_0 rfl ?_
  refine pm_iloadn hG dX12_comesBack_1 rfl ?_
  refine pm_iconst (v := nI 2) hG dX12_comesBack_2 (by decide) ?_
  refine pm_iconst (v := (-1)) hG dX12_comesBack_3 (by decide) ?_
  refine pm_callV (As := [.int (nI p), .int (nI 2), .int (-1)]) (rest := []) hG hR dX12_comesBack_4 (lkX12_113 _ rfl) okV_X12_makes rfl rfl (m_makes (d := 0) (e := 6 * p + 392) (by omega) (by omega) (by omega)) rfl rfl hdd (Nat.le_refl _) (Nat.le_refl _) (by decide) (pm_kv (fun σ' cnt' hq => ?_))
  obtain ⟨rfl, rfl⟩ := hq
  obtain ⟨n_1, en_1⟩ : ∃ f : Nat → Int32, f = upd n (6 * p + 392) (-1) := ⟨_, rfl⟩
  rw [← en_1]
  refine pm_aloadn hG dX12_comesBack_7 rfl ?_
  refine pm_iloadn hG dX12_comesBack_8 rfl ?_
  refine pm_iconst (v := nI 3) hG dX12_comesBack_9 (by decide) ?_
  refine pm_iconst (v := (-1)) hG dX12_comesBack_10 (by decide) ?_
  refine pm_callV (As := [.int (nI p), .int (nI 3), .int (-1)]) (rest := []) hG hR dX12_comesBack_11 (lkX12_113 _ rfl) okV_X12_makes rfl rfl (m_makes (d := 0) (e := 6 * p + 393) (by omega) (by omega) (by omega)) rfl rfl hdd (Nat.le_refl _) (Nat.le_refl _) (by decide) (pm_kv (fun σ' cnt' hq => ?_))
  obtain ⟨rfl, rfl⟩ := hq
  obtain ⟨n_2, en_2⟩ : ∃ f : Nat → Int32, f = upd n_1 (6 * p + 393) (-1) := ⟨_, rfl⟩
  rw [← en_2]
  subst en_2 en_1
  exact pm_vret hG hF dX12_comesBack_14 rfl (Nat.le_refl _) (Nat.le_refl _) ⟨rfl, rfl, rfl⟩

set_option maxRecDepth 100000 in
theorem m_whoHas1 {d B cnt : Nat} {σ : pm_S} {I : Nat → Int32} {A : Nat → Nat → Int32} {n k z : Nat → Int32} {ac wt pl ps tr im : Int32}  {p e j : Nat} (hdd : 1 ≤ d) (hp : p < 20) (he : 6 * p + 392 = e) (hv : n e = nI j) (hj : j < 2 ^ 31) : pm_met mX12_whoHas d 0 0 B [.ref (B + 54), .int (nI p)] cnt (pm_mid σ (md_L B I A n k z ac wt pl ps tr im)) (pm_Qi (fun v σ' cnt' => v = nI j ∧ σ' = (pm_mid σ (md_L B I A n k z ac wt pl ps tr im)) ∧ cnt = cnt')) := by
  refine pm_enter 0 (by decide) (Nat.le_of_ble_eq_true rfl) rfl (fun G hG hR hF => ?_)
  subst he
  refine pm_aloadn hG dX12_whoHas_0 rfl ?_
  refine pm_iloadn hG dX12_whoHas_1 rfl ?_
  refine pm_iconst (v := nI 2) hG dX12_whoHas_2 (by decide) ?_
  refine pm_callV (As := [.int (nI p), .int (nI 2)]) (rest := []) hG hR dX12_whoHas_3 (lkX12_110 _ rfl) okV_X12_its rfl rfl (m_its (d := 0) (e := 6 * p + 392) (by omega) (by omega) (by omega)) rfl rfl hdd (Nat.le_refl _) (Nat.le_refl _) (by decide) (pm_ki (fun v1 σ' cnt' hq => ?_))
  obtain ⟨rfl, rfl, rfl⟩ := hq
  refine pm_top (v := nI j) hv ?_
  refine pm_ifN_lt hG dX12_whoHas_6 rfl (by omega) ?_
  refine pm_aloadn hG dX12_whoHas_9 rfl ?_
  refine pm_iloadn hG dX12_whoHas_10 rfl ?_
  refine pm_iconst (v := nI 2) hG dX12_whoHas_11 (by decide) ?_
  refine pm_callV (As := [.int (nI p), .int (nI 2)]) (rest := []) hG hR dX12_whoHas_12 (lkX12_110 _ rfl) okV_X12_its rfl rfl (m_its (d := 0) (e := 6 * p + 392) (by omega) (by omega) (by omega)) rfl rfl hdd (Nat.le_refl _) (Nat.le_refl _) (by decide) (pm_ki (fun v2 σ' cnt' hq => ?_))
  obtain ⟨rfl, rfl, rfl⟩ := hq
  refine pm_top (v := nI j) hv ?_
  refine pm_goto (tgt := 24) hG dX12_whoHas_15 rfl ?_
  exact pm_iret hG hF dX12_whoHas_24 rfl (Nat.le_refl _) (Nat.le_refl _) ⟨_, rfl, rfl, rfl, rfl⟩

set_option maxRecDepth 100000 in
theorem m_whoHas0 {d B cnt : Nat} {σ : pm_S} {I : Nat → Int32} {A : Nat → Nat → Int32} {n k z : Nat → Int32} {ac wt pl ps tr im : Int32}  {p e e2 : Nat} {x : Int32} (hdd : 1 ≤ d) (hp : p < 20) (he : 6 * p + 392 = e) (he2 : 6 * p + 391 = e2) (hv : n e = -1) (hv2 : n e2 = x) : pm_met mX12_whoHas d 0 0 B [.ref (B + 54), .int (nI p)] cnt (pm_mid σ (md_L B I A n k z ac wt pl ps tr im)) (pm_Qi (fun v σ' cnt' => v = x ∧ σ' = (pm_mid σ (md_L B I A n k z ac wt pl ps tr im)) ∧ cnt = cnt')) := by
  refine pm_enter 0 (by decide) (Nat.le_of_ble_eq_true rfl) rfl (fun G hG hR hF => ?_)
  subst he he2
  refine pm_aloadn hG dX12_whoHas_0 rfl ?_
  refine pm_iloadn hG dX12_whoHas_1 rfl ?_
  refine pm_iconst (v := nI 2) hG dX12_whoHas_2 (by decide) ?_
  refine pm_callV (As := [.int (nI p), .int (nI 2)]) (rest := []) hG hR dX12_whoHas_3 (lkX12_110 _ rfl) okV_X12_its rfl rfl (m_its (d := 0) (e := 6 * p + 392) (by omega) (by omega) (by omega)) rfl rfl hdd (Nat.le_refl _) (Nat.le_refl _) (by decide) (pm_ki (fun v1 σ' cnt' hq => ?_))
  obtain ⟨rfl, rfl, rfl⟩ := hq
  refine pm_top (v := (-1)) hv ?_
  refine pm_if_lt (tgt := 18) hG dX12_whoHas_6 rfl (fun _ => ?_) (fun q => absurd q (by decide))
  refine pm_aloadn hG dX12_whoHas_18 rfl ?_
  refine pm_iloadn hG dX12_whoHas_19 rfl ?_
  refine pm_iconst (v := nI 1) hG dX12_whoHas_20 (by decide) ?_
  refine pm_callV (As := [.int (nI p), .int (nI 1)]) (rest := []) hG hR dX12_whoHas_21 (lkX12_110 _ rfl) okV_X12_its rfl rfl (m_its (d := 0) (e := 6 * p + 391) (by omega) (by omega) (by omega)) rfl rfl hdd (Nat.le_refl _) (Nat.le_refl _) (by decide) (pm_ki (fun v2 σ' cnt' hq => ?_))
  obtain ⟨rfl, rfl, rfl⟩ := hq
  refine pm_top (v := x) hv2 ?_
  exact pm_iret hG hF dX12_whoHas_24 rfl (Nat.le_refl _) (Nat.le_refl _) ⟨_, rfl, rfl, rfl, rfl⟩

theorem stN_step {n : Nat → Int32} {i k : Nat} (e : n (14 * i + 121) = nI k) (hk : k < 2) : stN n (i + 1) = stN n i + k := by
  show stN n i + (if n (14 * i + 121) = 0 then 0 else 1) = stN n i + k
  rw [e]
  have : k = 0 ∨ k = 1 := by omega
  rcases this with h | h <;> rw [h] <;> rfl

set_option maxRecDepth 100000 in
theorem m_seatedMany {d B cnt : Nat} {σ : pm_S} {I : Nat → Int32} {A : Nat → Nat → Int32} {n k z : Nat → Int32} {ac wt pl ps tr im : Int32}  {c : Nat} (hdd : 1 ≤ d) (hn : KI n) (hc : n 2 = nI c) (hc2 : c ≤ 20) : pm_met mX12_seatedMany d 0 0 B [.ref (B + 54)] cnt (pm_mid σ (md_L B I A n k z ac wt pl ps tr im)) (pm_Qi (fun v σ' cnt' => v = nI (stN n c) ∧ σ' = (pm_mid σ (md_L B I A n k z ac wt pl ps tr im)) ∧ cnt = cnt')) := by
  refine pm_enter 2 (by decide) (Nat.le_of_ble_eq_true rfl) rfl (fun G hG hR hF => ?_)
  refine pm_iconst (v := nI 0) hG dX12_seatedMany_0 (by decide) ?_
  refine pm_istoreXn (loc' := [some (.ref (B + 54)), some (.int (nI 0)), none]) hG dX12_seatedMany_1 (by decide) (pm_c1b rfl) rfl ?_
  refine pm_iconst (v := nI 0) hG dX12_seatedMany_2 (by decide) ?_
  refine pm_istoreXn (loc' := [some (.ref (B + 54)), some (.int (nI 0)), some (.int (nI 0))]) hG dX12_seatedMany_3 (by decide) (pm_c1b rfl) rfl ?_
  have loopS : ∀ (mS iS : Nat), iS ≤ c → c - iS < mS → pm_wp mX12_seatedMany G B 4 [some (.ref (B + 54)), some (.int (nI ((stN n iS)))), some (.int (nI iS))] [] 0 0 cnt (pm_mid σ (md_L B I A n k z ac wt pl ps tr im)) := by
    intro mS
    induction mS with
    | zero => intro iS _ hm; exact absurd hm (Nat.not_lt_zero _)
    | succ mS ihS =>
      intro iS hiS hmS
      refine pm_iloadn hG dX12_seatedMany_4 rfl ?_
      refine pm_aloadn hG dX12_seatedMany_5 rfl ?_
      refine pm_getf hG dX12_seatedMany_6 (flX12_7 _ rfl) rfl rfl ?_
      refine pm_iconst (v := nI 2) hG dX12_seatedMany_9 (by decide) ?_
      refine pm_ialdN hG dX12_seatedMany_10 rfl (by decide) (by omega) ?_
      refine pm_top (v := nI c) hc ?_
      refine pm_icmpN_ge (tgt := 30) hG dX12_seatedMany_11 rfl (by omega) (by omega) (fun c1 => ?_) (fun c1 => ?_)
      · refine pm_iloadn hG dX12_seatedMany_30 rfl ?_
        have eS : iS = c := by omega
        exact pm_iret hG hF dX12_seatedMany_31 rfl (Nat.le_refl _) (Nat.le_refl _) ⟨_, rfl, by rw [eS], rfl, rfl⟩
      · refine pm_iloadn hG dX12_seatedMany_14 rfl ?_
        refine pm_aloadn hG dX12_seatedMany_15 rfl ?_
        refine pm_iloadn hG dX12_seatedMany_16 rfl ?_
        refine pm_bipush (v := nI 11) hG dX12_seatedMany_17 (by decide) ?_
        refine pm_callV (As := [.int (nI iS), .int (nI 11)]) (rest := [.int (nI ((stN n iS)))]) hG hR dX12_seatedMany_19 (lkX12_72 _ rfl) okV_X12_man rfl rfl (m_man (d := 0) (e := 14 * iS + 121) (by omega) (by omega) (by omega)) rfl rfl hdd (Nat.le_refl _) (Nat.le_refl _) (Nat.le_of_ble_eq_true rfl) (pm_ki (fun v2 σ' cnt' hq => ?_))
        obtain ⟨rfl, rfl, rfl⟩ := hq
        obtain ⟨k3, hk3, ek3⟩ := KI.nat hn (show kd (14 * iS + 121) = (1, 2, true) from (kd_P (k := iS) (c := 11) (by omega) (by omega) (by decide)))
        refine pm_top (v := nI k3) ek3 ?_
        refine pm_iaddN (c := (stN n iS) + k3) hG dX12_seatedMany_22 (by omega) ?_
        refine pm_istoreXn (loc' := [some (.ref (B + 54)), some (.int (nI ((stN n iS) + k3))), some (.int (nI iS))]) hG dX12_seatedMany_23 (by decide) (pm_c1b rfl) rfl ?_
        refine pm_iincX (v := nI (iS + 1)) (loc' := [some (.ref (B + 54)), some (.int (nI ((stN n iS) + k3))), some (.int (nI (iS + 1)))]) hG dX12_seatedMany_24 rfl (nI_1 _) (by decide) (pm_c1b rfl) rfl ?_
        refine pm_goto (tgt := 4) hG dX12_seatedMany_27 rfl ?_
        refine pm_le (loc' := [some (.ref (B + 54)), some (.int (nI ((stN n (iS + 1))))), some (.int (nI (iS + 1)))]) (by rw [stN_step ek3 (by omega)]) ?_
        exact ihS (iS + 1) (by omega) (by omega)
  exact loopS _ 0 (Nat.zero_le _) (Nat.lt_succ_self _)
