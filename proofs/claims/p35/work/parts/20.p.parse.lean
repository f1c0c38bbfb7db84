set_option maxRecDepth 100000 in
theorem m_rankOf {d B cnt : Nat} {σ : pm_S} {x : Int32} : pm_met mX12_rankOf d 0 0 B [.int x] cnt σ (pm_Qi (fun v σ' cnt' => v = nI (rk x) ∧ σ' = σ ∧ cnt = cnt')) := by
  refine pm_enter 0 (by decide) (Nat.le_of_ble_eq_true rfl) rfl (fun G hG hR hF => ?_)
  refine pm_iloadn hG dX12_rankOf_0 rfl ?_
  refine pm_bipush (v := 124) hG dX12_rankOf_1 (by decide) ?_
  refine pm_icmp_ne (tgt := 10) hG dX12_rankOf_3 rfl (fun c1 => ?_) (fun c1 => ?_)
  · refine pm_iloadn hG dX12_rankOf_10 rfl ?_
    refine pm_bipush (v := 38) hG dX12_rankOf_11 (by decide) ?_
    refine pm_icmp_ne (tgt := 20) hG dX12_rankOf_13 rfl (fun c2 => ?_) (fun c2 => ?_)
    · refine pm_iloadn hG dX12_rankOf_20 rfl ?_
      refine pm_bipush (v := 60) hG dX12_rankOf_21 (by decide) ?_
      refine pm_icmp_eq (tgt := 38) hG dX12_rankOf_23 rfl (fun c3 => ?_) (fun c3 => ?_)
      · refine pm_iconst (v := 3) hG dX12_rankOf_38 (by decide) ?_
        refine pm_goto (tgt := 69) hG dX12_rankOf_39 rfl ?_
        exact pm_iret hG hF dX12_rankOf_69 rfl (by decide) (by decide) ⟨_, rfl, by have hr : rk x = 3 := (by simp [rk, c1, c2, c3]); rw [hr]; rfl, rfl, rfl⟩
      · refine pm_iloadn hG dX12_rankOf_26 rfl ?_
        refine pm_bipush (v := 61) hG dX12_rankOf_27 (by decide) ?_
        refine pm_icmp_eq (tgt := 38) hG dX12_rankOf_29 rfl (fun c4 => ?_) (fun c4 => ?_)
        · refine pm_iconst (v := 3) hG dX12_rankOf_38 (by decide) ?_
          refine pm_goto (tgt := 69) hG dX12_rankOf_39 rfl ?_
          exact pm_iret hG hF dX12_rankOf_69 rfl (by decide) (by decide) ⟨_, rfl, by have hr : rk x = 3 := (by simp [rk, c1, c2, c3, c4]); rw [hr]; rfl, rfl, rfl⟩
        · refine pm_iloadn hG dX12_rankOf_32 rfl ?_
          refine pm_bipush (v := 62) hG dX12_rankOf_33 (by decide) ?_
          refine pm_icmp_ne (tgt := 42) hG dX12_rankOf_35 rfl (fun c5 => ?_) (fun c5 => ?_)
          · refine pm_iloadn hG dX12_rankOf_42 rfl ?_
            refine pm_bipush (v := 43) hG dX12_rankOf_43 (by decide) ?_
            refine pm_icmp_eq (tgt := 54) hG dX12_rankOf_45 rfl (fun c6 => ?_) (fun c6 => ?_)
            · refine pm_iconst (v := 4) hG dX12_rankOf_54 (by decide) ?_
              refine pm_goto (tgt := 69) hG dX12_rankOf_55 rfl ?_
              exact pm_iret hG hF dX12_rankOf_69 rfl (by decide) (by decide) ⟨_, rfl, by have hr : rk x = 4 := (by simp [rk, c1, c2, c3, c4, c5, c6]); rw [hr]; rfl, rfl, rfl⟩
            · refine pm_iloadn hG dX12_rankOf_48 rfl ?_
              refine pm_bipush (v := 45) hG dX12_rankOf_49 (by decide) ?_
              refine pm_icmp_ne (tgt := 58) hG dX12_rankOf_51 rfl (fun c7 => ?_) (fun c7 => ?_)
              · refine pm_iloadn hG dX12_rankOf_58 rfl ?_
                refine pm_bipush (v := 33) hG dX12_rankOf_59 (by decide) ?_
                refine pm_icmp_ne (tgt := 68) hG dX12_rankOf_61 rfl (fun c8 => ?_) (fun c8 => ?_)
                · refine pm_iconst (v := 0) hG dX12_rankOf_68 (by decide) ?_
                  exact pm_iret hG hF dX12_rankOf_69 rfl (by decide) (by decide) ⟨_, rfl, by have hr : rk x = 0 := (by simp [rk, c1, c2, c3, c4, c5, c6, c7, c8]); rw [hr]; rfl, rfl, rfl⟩
                · refine pm_iconst (v := 5) hG dX12_rankOf_64 (by decide) ?_
                  refine pm_goto (tgt := 69) hG dX12_rankOf_65 rfl ?_
                  exact pm_iret hG hF dX12_rankOf_69 rfl (by decide) (by decide) ⟨_, rfl, by have hr : rk x = 5 := (by simp [rk, c1, c2, c3, c4, c5, c6, c7, c8]); rw [hr]; rfl, rfl, rfl⟩
              · refine pm_iconst (v := 4) hG dX12_rankOf_54 (by decide) ?_
                refine pm_goto (tgt := 69) hG dX12_rankOf_55 rfl ?_
                exact pm_iret hG hF dX12_rankOf_69 rfl (by decide) (by decide) ⟨_, rfl, by have hr : rk x = 4 := (by simp [rk, c1, c2, c3, c4, c5, c6, c7]); rw [hr]; rfl, rfl, rfl⟩
          · refine pm_iconst (v := 3) hG dX12_rankOf_38 (by decide) ?_
            refine pm_goto (tgt := 69) hG dX12_rankOf_39 rfl ?_
            exact pm_iret hG hF dX12_rankOf_69 rfl (by decide) (by decide) ⟨_, rfl, by have hr : rk x = 3 := (by simp [rk, c1, c2, c3, c4, c5]); rw [hr]; rfl, rfl, rfl⟩
    · refine pm_iconst (v := 2) hG dX12_rankOf_16 (by decide) ?_
      refine pm_goto (tgt := 69) hG dX12_rankOf_17 rfl ?_
      exact pm_iret hG hF dX12_rankOf_69 rfl (by decide) (by decide) ⟨_, rfl, by have hr : rk x = 2 := (by simp [rk, c1, c2]); rw [hr]; rfl, rfl, rfl⟩
  · refine pm_iconst (v := 1) hG dX12_rankOf_6 (by decide) ?_
    refine pm_goto (tgt := 69) hG dX12_rankOf_7 rfl ?_
    exact pm_iret hG hF dX12_rankOf_69 rfl (by decide) (by decide) ⟨_, rfl, by have hr : rk x = 1 := (by simp [rk, c1]); rw [hr]; rfl, rfl, rfl⟩

set_option maxRecDepth 100000 in
theorem m_isDigit {d B cnt : Nat} {σ : pm_S} {x : Int32} : pm_met mX12_isDigit d 0 0 B [.int x] cnt σ (pm_Qi (fun v σ' cnt' => ((v = nI 1 ∧ ¬ x < nI 48 ∧ ¬ nI 57 < x) ∨ (v = nI 0 ∧ (x < nI 48 ∨ nI 57 < x))) ∧ σ' = σ ∧ cnt = cnt')) := by
  refine pm_enter 0 (by decide) (Nat.le_of_ble_eq_true rfl) rfl (fun G hG hR hF => ?_)
  refine pm_iloadn hG dX12_isDigit_0 rfl ?_
  refine pm_bipush (v := 48) hG dX12_isDigit_1 (by decide) ?_
  refine pm_icmp_lt (tgt := 16) hG dX12_isDigit_3 rfl (fun c1 => ?_) (fun c1 => ?_)
  · refine pm_iconst (v := 0) hG dX12_isDigit_16 (by decide) ?_
    exact pm_zret hG hF dX12_isDigit_17 rfl (by rfl) (by decide) (by decide) ⟨_, rfl, Or.inr ⟨rfl, Or.inl c1⟩, rfl, rfl⟩
  · refine pm_iloadn hG dX12_isDigit_6 rfl ?_
    refine pm_bipush (v := 57) hG dX12_isDigit_7 (by decide) ?_
    refine pm_icmp_gt (tgt := 16) hG dX12_isDigit_9 rfl (fun c2 => ?_) (fun c2 => ?_)
    · refine pm_iconst (v := 0) hG dX12_isDigit_16 (by decide) ?_
      exact pm_zret hG hF dX12_isDigit_17 rfl (by rfl) (by decide) (by decide) ⟨_, rfl, Or.inr ⟨rfl, Or.inr c2⟩, rfl, rfl⟩
    · refine pm_iconst (v := 1) hG dX12_isDigit_12 (by decide) ?_
      refine pm_goto (tgt := 17) hG dX12_isDigit_13 rfl ?_
      exact pm_zret hG hF dX12_isDigit_17 rfl (by rfl) (by decide) (by decide) ⟨_, rfl, Or.inl ⟨rfl, c1, c2⟩, rfl, rfl⟩

set_option maxRecDepth 100000 in
theorem m_nameOf {d B cnt : Nat} {σ : pm_S} {x : Int32} : pm_met mX12_nameOf d 0 0 B [.int x] cnt σ (pm_Qi (fun v σ' cnt' => v = nI (nmB x) ∧ σ' = σ ∧ cnt = cnt')) := by
  refine pm_enter 0 (by decide) (Nat.le_of_ble_eq_true rfl) rfl (fun G hG hR hF => ?_)
  refine pm_iloadn hG dX12_nameOf_0 rfl ?_
  by_cases c1 : x = nI 97
  · refine pm_top (v := nI 97) c1 ?_
    refine pm_tswIn (tgt := 116) hG dX12_nameOf_1 (by decide) (by decide) rfl rfl ?_
    refine pm_iconst (v := nI 1) hG dX12_nameOf_116 (by decide) ?_
    exact pm_iret hG hF dX12_nameOf_117 rfl (Nat.le_refl _) (Nat.le_refl _) ⟨_, rfl, by rw [c1]; decide, rfl, rfl⟩
  by_cases c2 : x = nI 98
  · refine pm_top (v := nI 98) c2 ?_
    refine pm_tswIn (tgt := 129) hG dX12_nameOf_1 (by decide) (by decide) rfl rfl ?_
    refine pm_bipush (v := nI 7) hG dX12_nameOf_129 (by decide) ?_
    exact pm_iret hG hF dX12_nameOf_131 rfl (Nat.le_refl _) (Nat.le_refl _) ⟨_, rfl, by rw [c2]; decide, rfl, rfl⟩
  by_cases c3 : x = nI 99
  · refine pm_top (v := nI 99) c3 ?_
    refine pm_tswIn (tgt := 122) hG dX12_nameOf_1 (by decide) (by decide) rfl rfl ?_
    refine pm_iconst (v := nI 4) hG dX12_nameOf_122 (by decide) ?_
    exact pm_iret hG hF dX12_nameOf_123 rfl (Nat.le_refl _) (Nat.le_refl _) ⟨_, rfl, by rw [c3]; decide, rfl, rfl⟩
  by_cases c4 : x = nI 100
  · refine pm_top (v := nI 100) c4 ?_
    refine pm_tswIn (tgt := 141) hG dX12_nameOf_1 (by decide) (by decide) rfl rfl ?_
    refine pm_iloadn hG dX12_nameOf_141 rfl ?_
    refine pm_top (v := nI 100) c4 ?_
    refine pm_bipush (v := nI 100) hG dX12_nameOf_142 (by decide) ?_
    refine pm_icmpN_ne (tgt := 152) hG dX12_nameOf_144 rfl (by omega) (by omega) (fun q => absurd q (by omega)) (fun _ => ?_)
    refine pm_bipush (v := nI 11) hG dX12_nameOf_147 (by decide) ?_
    refine pm_goto (tgt := 153) hG dX12_nameOf_149 rfl ?_
    exact pm_iret hG hF dX12_nameOf_153 rfl (Nat.le_refl _) (Nat.le_refl _) ⟨_, rfl, by rw [c4]; decide, rfl, rfl⟩
  by_cases c5 : x = nI 101
  · refine pm_top (v := nI 101) c5 ?_
    refine pm_tswIn (tgt := 141) hG dX12_nameOf_1 (by decide) (by decide) rfl rfl ?_
    refine pm_iloadn hG dX12_nameOf_141 rfl ?_
    refine pm_top (v := nI 101) c5 ?_
    refine pm_bipush (v := nI 100) hG dX12_nameOf_142 (by decide) ?_
    refine pm_icmpN_ne (tgt := 152) hG dX12_nameOf_144 rfl (by omega) (by omega) (fun _ => ?_) (fun q => absurd q (by omega))
    refine pm_iconst (v := nI 0) hG dX12_nameOf_152 (by decide) ?_
    exact pm_iret hG hF dX12_nameOf_153 rfl (Nat.le_refl _) (Nat.le_refl _) ⟨_, rfl, by rw [c5]; decide, rfl, rfl⟩
  by_cases c6 : x = nI 102
  · refine pm_top (v := nI 102) c6 ?_
    refine pm_tswIn (tgt := 141) hG dX12_nameOf_1 (by decide) (by decide) rfl rfl ?_
    refine pm_iloadn hG dX12_nameOf_141 rfl ?_
    refine pm_top (v := nI 102) c6 ?_
    refine pm_bipush (v := nI 100) hG dX12_nameOf_142 (by decide) ?_
    refine pm_icmpN_ne (tgt := 152) hG dX12_nameOf_144 rfl (by omega) (by omega) (fun _ => ?_) (fun q => absurd q (by omega))
    refine pm_iconst (v := nI 0) hG dX12_nameOf_152 (by decide) ?_
    exact pm_iret hG hF dX12_nameOf_153 rfl (Nat.le_refl _) (Nat.le_refl _) ⟨_, rfl, by rw [c6]; decide, rfl, rfl⟩
  by_cases c7 : x = nI 103
  · refine pm_top (v := nI 103) c7 ?_
    refine pm_tswIn (tgt := 141) hG dX12_nameOf_1 (by decide) (by decide) rfl rfl ?_
    refine pm_iloadn hG dX12_nameOf_141 rfl ?_
    refine pm_top (v := nI 103) c7 ?_
    refine pm_bipush (v := nI 100) hG dX12_nameOf_142 (by decide) ?_
    refine pm_icmpN_ne (tgt := 152) hG dX12_nameOf_144 rfl (by omega) (by omega) (fun _ => ?_) (fun q => absurd q (by omega))
    refine pm_iconst (v := nI 0) hG dX12_nameOf_152 (by decide) ?_
    exact pm_iret hG hF dX12_nameOf_153 rfl (Nat.le_refl _) (Nat.le_refl _) ⟨_, rfl, by rw [c7]; decide, rfl, rfl⟩
  by_cases c8 : x = nI 104
  · refine pm_top (v := nI 104) c8 ?_
    refine pm_tswIn (tgt := 141) hG dX12_nameOf_1 (by decide) (by decide) rfl rfl ?_
    refine pm_iloadn hG dX12_nameOf_141 rfl ?_
    refine pm_top (v := nI 104) c8 ?_
    refine pm_bipush (v := nI 100) hG dX12_nameOf_142 (by decide) ?_
    refine pm_icmpN_ne (tgt := 152) hG dX12_nameOf_144 rfl (by omega) (by omega) (fun _ => ?_) (fun q => absurd q (by omega))
    refine pm_iconst (v := nI 0) hG dX12_nameOf_152 (by decide) ?_
    exact pm_iret hG hF dX12_nameOf_153 rfl (Nat.le_refl _) (Nat.le_refl _) ⟨_, rfl, by rw [c8]; decide, rfl, rfl⟩
  by_cases c9 : x = nI 105
  · refine pm_top (v := nI 105) c9 ?_
    refine pm_tswIn (tgt := 141) hG dX12_nameOf_1 (by decide) (by decide) rfl rfl ?_
    refine pm_iloadn hG dX12_nameOf_141 rfl ?_
    refine pm_top (v := nI 105) c9 ?_
    refine pm_bipush (v := nI 100) hG dX12_nameOf_142 (by decide) ?_
    refine pm_icmpN_ne (tgt := 152) hG dX12_nameOf_144 rfl (by omega) (by omega) (fun _ => ?_) (fun q => absurd q (by omega))
    refine pm_iconst (v := nI 0) hG dX12_nameOf_152 (by decide) ?_
    exact pm_iret hG hF dX12_nameOf_153 rfl (Nat.le_refl _) (Nat.le_refl _) ⟨_, rfl, by rw [c9]; decide, rfl, rfl⟩
  by_cases c10 : x = nI 106
  · refine pm_top (v := nI 106) c10 ?_
    refine pm_tswIn (tgt := 141) hG dX12_nameOf_1 (by decide) (by decide) rfl rfl ?_
    refine pm_iloadn hG dX12_nameOf_141 rfl ?_
    refine pm_top (v := nI 106) c10 ?_
    refine pm_bipush (v := nI 100) hG dX12_nameOf_142 (by decide) ?_
    refine pm_icmpN_ne (tgt := 152) hG dX12_nameOf_144 rfl (by omega) (by omega) (fun _ => ?_) (fun q => absurd q (by omega))
    refine pm_iconst (v := nI 0) hG dX12_nameOf_152 (by decide) ?_
    exact pm_iret hG hF dX12_nameOf_153 rfl (Nat.le_refl _) (Nat.le_refl _) ⟨_, rfl, by rw [c10]; decide, rfl, rfl⟩
  by_cases c11 : x = nI 107
  · refine pm_top (v := nI 107) c11 ?_
    refine pm_tswIn (tgt := 120) hG dX12_nameOf_1 (by decide) (by decide) rfl rfl ?_
    refine pm_iconst (v := nI 3) hG dX12_nameOf_120 (by decide) ?_
    exact pm_iret hG hF dX12_nameOf_121 rfl (Nat.le_refl _) (Nat.le_refl _) ⟨_, rfl, by rw [c11]; decide, rfl, rfl⟩
  by_cases c12 : x = nI 108
  · refine pm_top (v := nI 108) c12 ?_
    refine pm_tswIn (tgt := 141) hG dX12_nameOf_1 (by decide) (by decide) rfl rfl ?_
    refine pm_iloadn hG dX12_nameOf_141 rfl ?_
    refine pm_top (v := nI 108) c12 ?_
    refine pm_bipush (v := nI 100) hG dX12_nameOf_142 (by decide) ?_
    refine pm_icmpN_ne (tgt := 152) hG dX12_nameOf_144 rfl (by omega) (by omega) (fun _ => ?_) (fun q => absurd q (by omega))
    refine pm_iconst (v := nI 0) hG dX12_nameOf_152 (by decide) ?_
    exact pm_iret hG hF dX12_nameOf_153 rfl (Nat.le_refl _) (Nat.le_refl _) ⟨_, rfl, by rw [c12]; decide, rfl, rfl⟩
  by_cases c13 : x = nI 109
  · refine pm_top (v := nI 109) c13 ?_
    refine pm_tswIn (tgt := 124) hG dX12_nameOf_1 (by decide) (by decide) rfl rfl ?_
    refine pm_iconst (v := nI 5) hG dX12_nameOf_124 (by decide) ?_
    exact pm_iret hG hF dX12_nameOf_125 rfl (Nat.le_refl _) (Nat.le_refl _) ⟨_, rfl, by rw [c13]; decide, rfl, rfl⟩
  by_cases c14 : x = nI 110
  · refine pm_top (v := nI 110) c14 ?_
    refine pm_tswIn (tgt := 141) hG dX12_nameOf_1 (by decide) (by decide) rfl rfl ?_
    refine pm_iloadn hG dX12_nameOf_141 rfl ?_
    refine pm_top (v := nI 110) c14 ?_
    refine pm_bipush (v := nI 100) hG dX12_nameOf_142 (by decide) ?_
    refine pm_icmpN_ne (tgt := 152) hG dX12_nameOf_144 rfl (by omega) (by omega) (fun _ => ?_) (fun q => absurd q (by omega))
    refine pm_iconst (v := nI 0) hG dX12_nameOf_152 (by decide) ?_
    exact pm_iret hG hF dX12_nameOf_153 rfl (Nat.le_refl _) (Nat.le_refl _) ⟨_, rfl, by rw [c14]; decide, rfl, rfl⟩
  by_cases c15 : x = nI 111
  · refine pm_top (v := nI 111) c15 ?_
    refine pm_tswIn (tgt := 135) hG dX12_nameOf_1 (by decide) (by decide) rfl rfl ?_
    refine pm_bipush (v := nI 9) hG dX12_nameOf_135 (by decide) ?_
    exact pm_iret hG hF dX12_nameOf_137 rfl (Nat.le_refl _) (Nat.le_refl _) ⟨_, rfl, by rw [c15]; decide, rfl, rfl⟩
  by_cases c16 : x = nI 112
  · refine pm_top (v := nI 112) c16 ?_
    refine pm_tswIn (tgt := 141) hG dX12_nameOf_1 (by decide) (by decide) rfl rfl ?_
    refine pm_iloadn hG dX12_nameOf_141 rfl ?_
    refine pm_top (v := nI 112) c16 ?_
    refine pm_bipush (v := nI 100) hG dX12_nameOf_142 (by decide) ?_
    refine pm_icmpN_ne (tgt := 152) hG dX12_nameOf_144 rfl (by omega) (by omega) (fun _ => ?_) (fun q => absurd q (by omega))
    refine pm_iconst (v := nI 0) hG dX12_nameOf_152 (by decide) ?_
    exact pm_iret hG hF dX12_nameOf_153 rfl (Nat.le_refl _) (Nat.le_refl _) ⟨_, rfl, by rw [c16]; decide, rfl, rfl⟩
  by_cases c17 : x = nI 113
  · refine pm_top (v := nI 113) c17 ?_
    refine pm_tswIn (tgt := 141) hG dX12_nameOf_1 (by decide) (by decide) rfl rfl ?_
    refine pm_iloadn hG dX12_nameOf_141 rfl ?_
    refine pm_top (v := nI 113) c17 ?_
    refine pm_bipush (v := nI 100) hG dX12_nameOf_142 (by decide) ?_
    refine pm_icmpN_ne (tgt := 152) hG dX12_nameOf_144 rfl (by omega) (by omega) (fun _ => ?_) (fun q => absurd q (by omega))
    refine pm_iconst (v := nI 0) hG dX12_nameOf_152 (by decide) ?_
    exact pm_iret hG hF dX12_nameOf_153 rfl (Nat.le_refl _) (Nat.le_refl _) ⟨_, rfl, by rw [c17]; decide, rfl, rfl⟩
  by_cases c18 : x = nI 114
  · refine pm_top (v := nI 114) c18 ?_
    refine pm_tswIn (tgt := 141) hG dX12_nameOf_1 (by decide) (by decide) rfl rfl ?_
    refine pm_iloadn hG dX12_nameOf_141 rfl ?_
    refine pm_top (v := nI 114) c18 ?_
    refine pm_bipush (v := nI 100) hG dX12_nameOf_142 (by decide) ?_
    refine pm_icmpN_ne (tgt := 152) hG dX12_nameOf_144 rfl (by omega) (by omega) (fun _ => ?_) (fun q => absurd q (by omega))
    refine pm_iconst (v := nI 0) hG dX12_nameOf_152 (by decide) ?_
    exact pm_iret hG hF dX12_nameOf_153 rfl (Nat.le_refl _) (Nat.le_refl _) ⟨_, rfl, by rw [c18]; decide, rfl, rfl⟩
  by_cases c19 : x = nI 115
  · refine pm_top (v := nI 115) c19 ?_
    refine pm_tswIn (tgt := 118) hG dX12_nameOf_1 (by decide) (by decide) rfl rfl ?_
    refine pm_iconst (v := nI 2) hG dX12_nameOf_118 (by decide) ?_
    exact pm_iret hG hF dX12_nameOf_119 rfl (Nat.le_refl _) (Nat.le_refl _) ⟨_, rfl, by rw [c19]; decide, rfl, rfl⟩
  by_cases c20 : x = nI 116
  · refine pm_top (v := nI 116) c20 ?_
    refine pm_tswIn (tgt := 126) hG dX12_nameOf_1 (by decide) (by decide) rfl rfl ?_
    refine pm_bipush (v := nI 6) hG dX12_nameOf_126 (by decide) ?_
    exact pm_iret hG hF dX12_nameOf_128 rfl (Nat.le_refl _) (Nat.le_refl _) ⟨_, rfl, by rw [c20]; decide, rfl, rfl⟩
  by_cases c21 : x = nI 117
  · refine pm_top (v := nI 117) c21 ?_
    refine pm_tswIn (tgt := 141) hG dX12_nameOf_1 (by decide) (by decide) rfl rfl ?_
    refine pm_iloadn hG dX12_nameOf_141 rfl ?_
    refine pm_top (v := nI 117) c21 ?_
    refine pm_bipush (v := nI 100) hG dX12_nameOf_142 (by decide) ?_
    refine pm_icmpN_ne (tgt := 152) hG dX12_nameOf_144 rfl (by omega) (by omega) (fun _ => ?_) (fun q => absurd q (by omega))
    refine pm_iconst (v := nI 0) hG dX12_nameOf_152 (by decide) ?_
    exact pm_iret hG hF dX12_nameOf_153 rfl (Nat.le_refl _) (Nat.le_refl _) ⟨_, rfl, by rw [c21]; decide, rfl, rfl⟩
  by_cases c22 : x = nI 118
  · refine pm_top (v := nI 118) c22 ?_
    refine pm_tswIn (tgt := 141) hG dX12_nameOf_1 (by decide) (by decide) rfl rfl ?_
    refine pm_iloadn hG dX12_nameOf_141 rfl ?_
    refine pm_top (v := nI 118) c22 ?_
    refine pm_bipush (v := nI 100) hG dX12_nameOf_142 (by decide) ?_
    refine pm_icmpN_ne (tgt := 152) hG dX12_nameOf_144 rfl (by omega) (by omega) (fun _ => ?_) (fun q => absurd q (by omega))
    refine pm_iconst (v := nI 0) hG dX12_nameOf_152 (by decide) ?_
    exact pm_iret hG hF dX12_nameOf_153 rfl (Nat.le_refl _) (Nat.le_refl _) ⟨_, rfl, by rw [c22]; decide, rfl, rfl⟩
  by_cases c23 : x = nI 119
  · refine pm_top (v := nI 119) c23 ?_
    refine pm_tswIn (tgt := 138) hG dX12_nameOf_1 (by decide) (by decide) rfl rfl ?_
    refine pm_bipush (v := nI 10) hG dX12_nameOf_138 (by decide) ?_
    exact pm_iret hG hF dX12_nameOf_140 rfl (Nat.le_refl _) (Nat.le_refl _) ⟨_, rfl, by rw [c23]; decide, rfl, rfl⟩
  by_cases c24 : x = nI 120
  · refine pm_top (v := nI 120) c24 ?_
    refine pm_tswIn (tgt := 141) hG dX12_nameOf_1 (by decide) (by decide) rfl rfl ?_
    refine pm_iloadn hG dX12_nameOf_141 rfl ?_
    refine pm_top (v := nI 120) c24 ?_
    refine pm_bipush (v := nI 100) hG dX12_nameOf_142 (by decide) ?_
    refine pm_icmpN_ne (tgt := 152) hG dX12_nameOf_144 rfl (by omega) (by omega) (fun _ => ?_) (fun q => absurd q (by omega))
    refine pm_iconst (v := nI 0) hG dX12_nameOf_152 (by decide) ?_
    exact pm_iret hG hF dX12_nameOf_153 rfl (Nat.le_refl _) (Nat.le_refl _) ⟨_, rfl, by rw [c24]; decide, rfl, rfl⟩
  by_cases c25 : x = nI 121
  · refine pm_top (v := nI 121) c25 ?_
    refine pm_tswIn (tgt := 132) hG dX12_nameOf_1 (by decide) (by decide) rfl rfl ?_
    refine pm_bipush (v := nI 8) hG dX12_nameOf_132 (by decide) ?_
    exact pm_iret hG hF dX12_nameOf_134 rfl (Nat.le_refl _) (Nat.le_refl _) ⟨_, rfl, by rw [c25]; decide, rfl, rfl⟩
  have tc1 : ¬ x.toInt = 97 := fun q => c1 (Int32.toInt_inj.mp (q.trans (by decide)))
  have tc2 : ¬ x.toInt = 98 := fun q => c2 (Int32.toInt_inj.mp (q.trans (by decide)))
  have tc3 : ¬ x.toInt = 99 := fun q => c3 (Int32.toInt_inj.mp (q.trans (by decide)))
  have tc4 : ¬ x.toInt = 100 := fun q => c4 (Int32.toInt_inj.mp (q.trans (by decide)))
  have tc5 : ¬ x.toInt = 101 := fun q => c5 (Int32.toInt_inj.mp (q.trans (by decide)))
  have tc6 : ¬ x.toInt = 102 := fun q => c6 (Int32.toInt_inj.mp (q.trans (by decide)))
  have tc7 : ¬ x.toInt = 103 := fun q => c7 (Int32.toInt_inj.mp (q.trans (by decide)))
  have tc8 : ¬ x.toInt = 104 := fun q => c8 (Int32.toInt_inj.mp (q.trans (by decide)))
  have tc9 : ¬ x.toInt = 105 := fun q => c9 (Int32.toInt_inj.mp (q.trans (by decide)))
  have tc10 : ¬ x.toInt = 106 := fun q => c10 (Int32.toInt_inj.mp (q.trans (by decide)))
  have tc11 : ¬ x.toInt = 107 := fun q => c11 (Int32.toInt_inj.mp (q.trans (by decide)))
  have tc12 : ¬ x.toInt = 108 := fun q => c12 (Int32.toInt_inj.mp (q.trans (by decide)))
  have tc13 : ¬ x.toInt = 109 := fun q => c13 (Int32.toInt_inj.mp (q.trans (by decide)))
  have tc14 : ¬ x.toInt = 110 := fun q => c14 (Int32.toInt_inj.mp (q.trans (by decide)))
  have tc15 : ¬ x.toInt = 111 := fun q => c15 (Int32.toInt_inj.mp (q.trans (by decide)))
  have tc16 : ¬ x.toInt = 112 := fun q => c16 (Int32.toInt_inj.mp (q.trans (by decide)))
  have tc17 : ¬ x.toInt = 113 := fun q => c17 (Int32.toInt_inj.mp (q.trans (by decide)))
  have tc18 : ¬ x.toInt = 114 := fun q => c18 (Int32.toInt_inj.mp (q.trans (by decide)))
  have tc19 : ¬ x.toInt = 115 := fun q => c19 (Int32.toInt_inj.mp (q.trans (by decide)))
  have tc20 : ¬ x.toInt = 116 := fun q => c20 (Int32.toInt_inj.mp (q.trans (by decide)))
  have tc21 : ¬ x.toInt = 117 := fun q => c21 (Int32.toInt_inj.mp (q.trans (by decide)))
  have tc22 : ¬ x.toInt = 118 := fun q => c22 (Int32.toInt_inj.mp (q.trans (by decide)))
  have tc23 : ¬ x.toInt = 119 := fun q => c23 (Int32.toInt_inj.mp (q.trans (by decide)))
  have tc24 : ¬ x.toInt = 120 := fun q => c24 (Int32.toInt_inj.mp (q.trans (by decide)))
  have tc25 : ¬ x.toInt = 121 := fun q => c25 (Int32.toInt_inj.mp (q.trans (by decide)))
  refine pm_tswOut (tgt := 141) hG dX12_nameOf_1 (by omega) rfl ?_
  refine pm_iloadn hG dX12_nameOf_141 rfl ?_
  refine pm_bipush (v := nI 100) hG dX12_nameOf_142 (by decide) ?_
  refine pm_icmp_ne (tgt := 152) hG dX12_nameOf_144 rfl (fun c26 => ?_) (fun c26 => ?_)
  · refine pm_iconst (v := nI 0) hG dX12_nameOf_152 (by decide) ?_
    exact pm_iret hG hF dX12_nameOf_153 rfl (Nat.le_refl _) (Nat.le_refl _) ⟨_, rfl, by have hr : nmB x = 0 := (by simp [nmB, show ¬ x = 97 from c1, show ¬ x = 98 from c2, show ¬ x = 99 from c3, show ¬ x = 100 from c4, show ¬ x = 101 from c5, show ¬ x = 102 from c6, show ¬ x = 103 from c7, show ¬ x = 104 from c8, show ¬ x = 105 from c9, show ¬ x = 106 from c10, show ¬ x = 107 from c11, show ¬ x = 108 from c12, show ¬ x = 109 from c13, show ¬ x = 110 from c14, show ¬ x = 111 from c15, show ¬ x = 112 from c16, show ¬ x = 113 from c17, show ¬ x = 114 from c18, show ¬ x = 115 from c19, show ¬ x = 116 from c20, show ¬ x = 117 from c21, show ¬ x = 118 from c22, show ¬ x = 119 from c23, show ¬ x = 120 from c24, show ¬ x = 121 from c25]); rw [hr], rfl, rfl⟩
  · refine pm_bipush (v := nI 11) hG dX12_nameOf_147 (by decide) ?_
    refine pm_goto (tgt := 153) hG dX12_nameOf_149 rfl ?_
    exact pm_iret hG hF dX12_nameOf_153 rfl (Nat.le_refl _) (Nat.le_refl _) ⟨_, rfl, by rw [c26]; decide, rfl, rfl⟩

set_option maxRecDepth 100000 in
theorem m_byteAt1 {d B cnt : Nat} {σ : pm_S} {I : Nat → Int32} {A : Nat → Nat → Int32} {n k z : Nat → Int32} {ac wt pl ps tr im : Int32}  {p T : Nat} (hT : n 10 = nI T) (hT2 : T ≤ 60) (hp : p ≤ 60) (hpT : p < T) : pm_met mX12_byteAt d 0 0 B [.ref (B + 54), .int (nI p)] cnt (pm_mid σ (md_L B I A n k z ac wt pl ps tr im)) (pm_Qi (fun v σ' cnt' => v = n (p + 1991) ∧ σ' = (pm_mid σ (md_L B I A n k z ac wt pl ps tr im)) ∧ cnt = cnt')) := by
  refine pm_enter 0 (by decide) (Nat.le_of_ble_eq_true rfl) rfl (fun G hG hR hF => ?_)
  refine pm_iloadn hG dX12_byteAt_0 rfl ?_
  refine pm_aloadn hG dX12_byteAt_1 rfl ?_
  refine pm_getf hG dX12_byteAt_2 (flX12_7 _ rfl) rfl rfl ?_
  refine pm_bipush (v := nI 10) hG dX12_byteAt_5 (by decide) ?_
  refine pm_ialdN hG dX12_byteAt_7 rfl (by decide) (by omega) ?_
  refine pm_top (v := nI T) hT ?_
  refine pm_icmpN_ge (tgt := 24) hG dX12_byteAt_8 rfl (by omega) (by omega) (fun q => absurd q (by omega)) (fun _ => ?_)
  refine pm_aloadn hG dX12_byteAt_11 rfl ?_
  refine pm_getf hG dX12_byteAt_12 (flX12_7 _ rfl) rfl rfl ?_
  refine pm_sipush (v := nI 1991) hG dX12_byteAt_15 (by decide) ?_
  refine pm_iloadn hG dX12_byteAt_18 rfl ?_
  refine pm_iaddN (c := p + 1991) hG dX12_byteAt_19 (by omega) ?_
  refine pm_ialdN hG dX12_byteAt_20 rfl (by decide) (by omega) ?_
  refine pm_goto (tgt := 25) hG dX12_byteAt_21 rfl ?_
  exact pm_iret hG hF dX12_byteAt_25 rfl (Nat.le_refl _) (Nat.le_refl _) ⟨_, rfl, rfl, rfl, rfl⟩

set_option maxRecDepth 100000 in
theorem m_byteAt0 {d B cnt : Nat} {σ : pm_S} {I : Nat → Int32} {A : Nat → Nat → Int32} {n k z : Nat → Int32} {ac wt pl ps tr im : Int32}  {p T : Nat} (hT : n 10 = nI T) (hT2 : T ≤ 60) (hp : p ≤ 60) (hpT : T ≤ p) : pm_met mX12_byteAt d 0 0 B [.ref (B + 54), .int (nI p)] cnt (pm_mid σ (md_L B I A n k z ac wt pl ps tr im)) (pm_Qi (fun v σ' cnt' => v = -1 ∧ σ' = (pm_mid σ (md_L B I A n k z ac wt pl ps tr im)) ∧ cnt = cnt')) := by
  refine pm_enter 0 (by decide) (Nat.le_of_ble_eq_true rfl) rfl (fun G hG hR hF => ?_)
  refine pm_iloadn hG dX12_byteAt_0 rfl ?_
  refine pm_aloadn hG dX12_byteAt_1 rfl ?_
  refine pm_getf hG dX12_byteAt_2 (flX12_7 _ rfl) rfl rfl ?_
  refine pm_bipush (v := nI 10) hG dX12_byteAt_5 (by decide) ?_
  refine pm_ialdN hG dX12_byteAt_7 rfl (by decide) (by omega) ?_
  refine pm_top (v := nI T) hT ?_
  refine pm_icmpN_ge (tgt := 24) hG dX12_byteAt_8 rfl (by omega) (by omega) (fun _ => ?_) (fun q => absurd q (by omega))
  refine pm_iconst (v := (-1)) hG dX12_byteAt_24 (by decide) ?_
  exact pm_iret hG hF dX12_byteAt_25 rfl (Nat.le_refl _) (Nat.le_refl _) ⟨_, rfl, rfl, rfl, rfl⟩

set_option maxRecDepth 100000 in
theorem m_lays {d B cnt : Nat} {σ : pm_S} {I : Nat → Int32} {A : Nat → Nat → Int32} {n k z : Nat → Int32} {ac wt pl ps tr im : Int32}  {x : Int32} {a : Nat} (ha : a < 60) : pm_met mX12_lays d 0 0 B [.ref (B + 54), .int x] cnt (pm_mid σ (md_L B I A n k z (nI a) wt pl ps tr im)) (pm_Qv (fun σ' cnt' => ∃ A' : Nat → Nat → Int32, σ' = (pm_mid σ (md_L B I A' n k z (nI (a + 1)) wt pl ps tr im)) ∧ A' 60 = upd (A 60) a x ∧ A' 61 = A 61 ∧ cnt = cnt')) := by
  refine pm_enter 0 (by decide) (Nat.le_of_ble_eq_true rfl) rfl (fun G hG hR hF => ?_)
  refine pm_aloadn hG dX12_lays_0 rfl ?_
  refine pm_getf hG dX12_lays_1 (flX12_25 _ rfl) rfl rfl ?_
  refine pm_aloadn hG dX12_lays_4 rfl ?_
  refine pm_getf hG dX12_lays_5 (flX12_144 _ rfl) rfl rfl ?_
  refine pm_iloadn hG dX12_lays_8 rfl ?_
  refine pm_iastN hG dX12_lays_9 rfl (by decide) (by omega) ?_
  refine mdE_acts (fun A1 eA oA => ?_)
  refine pm_aloadn hG dX12_lays_10 rfl ?_
  refine pm_dup hG dX12_lays_11 rfl ?_
  refine pm_getf hG dX12_lays_12 (flX12_144 _ rfl) rfl rfl ?_
  refine pm_iconst (v := nI 1) hG dX12_lays_15 (by decide) ?_
  refine pm_iaddN (c := a + 1) hG dX12_lays_16 (by omega) ?_
  refine pm_putf hG dX12_lays_17 (fwX12_144 _ rfl) rfl rfl rfl ?_
  refine mdn_acted ?_
  exact pm_vret hG hF dX12_lays_20 rfl (Nat.le_refl _) (Nat.le_refl _) ⟨rfl, A1, rfl, eA, oA 61 (by decide), rfl⟩

set_option maxRecDepth 100000 in
theorem m_hasOpen {d B cnt : Nat} {σ : pm_S} {I : Nat → Int32} {A : Nat → Nat → Int32} {n k z : Nat → Int32} {ac wt pl ps tr im : Int32}  {w : Nat} (hdd : 1 ≤ d) (hw : w ≤ 60) : pm_met mX12_hasOpen d 0 0 B [.ref (B + 54)] cnt (pm_mid σ (md_L B I A n k z ac (nI w) pl ps tr im)) (pm_Qi (fun v σ' cnt' => ((v = nI 1 ∧ ∃ j : Nat, j < w ∧ A 61 j = nI 40) ∨ v = nI 0) ∧ σ' = (pm_mid σ (md_L B I A n k z ac (nI w) pl ps tr im)) ∧ cnt = cnt')) := by
  refine pm_enter 1 (by decide) (Nat.le_of_ble_eq_true rfl) rfl (fun G hG hR hF => ?_)
  refine pm_iconst (v := nI 0) hG dX12_hasOpen_0 (by decide) ?_
  refine pm_istoreXn (loc' := [some (.ref (B + 54)), some (.int (nI 0))]) hG dX12_hasOpen_1 (by decide) (pm_c1b rfl) rfl ?_
  have loop2_1 : ∀ (m1 : Nat) (i1 : Nat), i1 ≤ 60 → 60 - i1 < m1 → pm_wp mX12_hasOpen G B 2 [some (.ref (B + 54)), some (.int (nI i1))] [] 0 0 cnt (pm_mid σ (md_L B I A n k z ac (nI w) pl ps tr im)) := by
    intro m1
    induction m1 with
    | zero => intro i1 _ hm; exact absurd hm (Nat.not_lt_zero _)
    | succ m1 ih1 =>
      intro i1 hi1 hm1
      refine pm_iloadn hG dX12_hasOpen_2 rfl ?_
      refine pm_aloadn hG dX12_hasOpen_3 rfl ?_
      refine pm_getf hG dX12_hasOpen_4 (flX12_148 _ rfl) rfl rfl ?_
      refine pm_icmpN_ge (tgt := 29) hG dX12_hasOpen_7 rfl (by omega) (by omega) (fun c2 => ?_) (fun c2 => ?_)
      · refine pm_iconst (v := nI 0) hG dX12_hasOpen_29 (by decide) ?_
        exact pm_zret hG hF dX12_hasOpen_30 rfl (by rfl) (Nat.le_refl _) (Nat.le_refl _) ⟨_, rfl, Or.inr rfl, rfl, rfl⟩
      · refine pm_aloadn hG dX12_hasOpen_10 rfl ?_
        refine pm_getf hG dX12_hasOpen_11 (flX12_28 _ rfl) rfl rfl ?_
        refine pm_iloadn hG dX12_hasOpen_14 rfl ?_
        refine pm_ialdN hG dX12_hasOpen_15 rfl (by decide) (by omega) ?_
        refine pm_gen (fun x3 ex3 => ?_)
        refine pm_bipush (v := nI 40) hG dX12_hasOpen_16 (by decide) ?_
        refine pm_icmp_ne (tgt := 23) hG dX12_hasOpen_18 rfl (fun c4 => ?_) (fun c4 => ?_)
        · refine pm_iincX (v := nI (i1 + 1)) (loc' := [some (.ref (B + 54)), some (.int (nI (i1 + 1)))]) hG dX12_hasOpen_23 rfl (nI_1 _) (by decide) (pm_c1b rfl) rfl ?_
          refine pm_goto (tgt := 2) hG dX12_hasOpen_26 rfl ?_
          exact ih1 (i1 + 1) (by omega) (by omega)
        · refine pm_iconst (v := nI 1) hG dX12_hasOpen_21 (by decide) ?_
          exact pm_zret hG hF dX12_hasOpen_22 rfl (by rfl) (Nat.le_refl _) (Nat.le_refl _) ⟨_, rfl, Or.inl ⟨rfl, i1, by omega, ex3.trans c4⟩, rfl, rfl⟩
  exact loop2_1 _ 0 (by omega) (Nat.lt_succ_self _)

set_option maxRecDepth 100000 in
theorem m_openMany {d B cnt : Nat} {σ : pm_S} {I : Nat → Int32} {A : Nat → Nat → Int32} {n k z : Nat → Int32} {ac wt pl ps tr im : Int32}  {w : Nat} (hdd : 1 ≤ d) (hw : w ≤ 60) : pm_met mX12_openMany d 0 0 B [.ref (B + 54)] cnt (pm_mid σ (md_L B I A n k z ac (nI w) pl ps tr im)) (pm_Qi (fun v σ' cnt' => True ∧ σ' = (pm_mid σ (md_L B I A n k z ac (nI w) pl ps tr im)) ∧ cnt = cnt')) := by
  refine pm_enter 2 (by decide) (Nat.le_of_ble_eq_true rfl) rfl (fun G hG hR hF => ?_)
  refine pm_iconst (v := nI 0) hG dX12_openMany_0 (by decide) ?_
  refine pm_istoreXn (loc' := [some (.ref (B + 54)), some (.int (nI 0)), none]) hG dX12_openMany_1 (by decide) (pm_c1b rfl) rfl ?_
  refine pm_iconst (v := nI 0) hG dX12_openMany_2 (by decide) ?_
  refine pm_istoreXn (loc' := [some (.ref (B + 54)), some (.int (nI 0)), some (.int (nI 0))]) hG dX12_openMany_3 (by decide) (pm_c1b rfl) rfl ?_
  have loop4_1 : ∀ (m1 : Nat) (x1_1 : Int32) (i1 : Nat), i1 ≤ 60 → 60 - i1 < m1 → pm_wp mX12_openMany G B 4 [some (.ref (B + 54)), some (.int x1_1), some (.int (nI i1))] [] 0 0 cnt (pm_mid σ (md_L B I A n k z ac (nI w) pl ps tr im)) := by
    intro m1
    induction m1 with
    | zero => intro x1_1 i1 _ hm; exact absurd hm (Nat.not_lt_zero _)
    | succ m1 ih1 =>
      intro x1_1 i1 hi1 hm1
      refine pm_iloadn hG dX12_openMany_4 rfl ?_
      refine pm_aloadn hG dX12_openMany_5 rfl ?_
      refine pm_getf hG dX12_openMany_6 (flX12_148 _ rfl) rfl rfl ?_
      refine pm_icmpN_ge (tgt := 48) hG dX12_openMany_9 rfl (by omega) (by omega) (fun c2 => ?_) (fun c2 => ?_)
      · refine pm_iloadn hG dX12_openMany_48 rfl ?_
        exact pm_iret hG hF dX12_openMany_49 rfl (Nat.le_refl _) (Nat.le_refl _) ⟨_, rfl, trivial, rfl, rfl⟩
      · refine pm_iloadn hG dX12_openMany_12 rfl ?_
        refine pm_aloadn hG dX12_openMany_13 rfl ?_
        refine pm_getf hG dX12_openMany_14 (flX12_28 _ rfl) rfl rfl ?_
        refine pm_iloadn hG dX12_openMany_17 rfl ?_
        refine pm_ialdN hG dX12_openMany_18 rfl (by decide) (by omega) ?_
        refine pm_gen (fun x3 ex3 => ?_)
        refine pm_bipush (v := nI 33) hG dX12_openMany_19 (by decide) ?_
        refine pm_icmp_eq (tgt := 35) hG dX12_openMany_21 rfl (fun c4 => ?_) (fun c4 => ?_)
        · refine pm_iconst (v := nI 1) hG dX12_openMany_35 (by decide) ?_
          refine pm_goto (tgt := 40) hG dX12_openMany_36 rfl ?_
          refine pm_iadd hG dX12_openMany_40 ?_
          refine pm_istoreXn (loc' := [some (.ref (B + 54)), some (.int (x1_1 + (nI 1))), some (.int (nI i1))]) hG dX12_openMany_41 (by decide) (pm_c1b rfl) rfl ?_
          refine pm_iincX (v := nI (i1 + 1)) (loc' := [some (.ref (B + 54)), some (.int (x1_1 + (nI 1))), some (.int (nI (i1 + 1)))]) hG dX12_openMany_42 rfl (nI_1 _) (by decide) (pm_c1b rfl) rfl ?_
          refine pm_goto (tgt := 4) hG dX12_openMany_45 rfl ?_
          exact ih1 (x1_1 + (nI 1)) (i1 + 1) (by omega) (by omega)
        · refine pm_aloadn hG dX12_openMany_24 rfl ?_
          refine pm_getf hG dX12_openMany_25 (flX12_28 _ rfl) rfl rfl ?_
          refine pm_iloadn hG dX12_openMany_28 rfl ?_
          refine pm_ialdN hG dX12_openMany_29 rfl (by decide) (by omega) ?_
          refine pm_top (v := x3) ex3 ?_
          refine pm_bipush (v := nI 40) hG dX12_openMany_30 (by decide) ?_
          refine pm_icmp_ne (tgt := 39) hG dX12_openMany_32 rfl (fun c6 => ?_) (fun c6 => ?_)
          · refine pm_iconst (v := nI 0) hG dX12_openMany_39 (by decide) ?_
            refine pm_iadd hG dX12_openMany_40 ?_
            refine pm_istoreXn (loc' := [some (.ref (B + 54)), some (.int (x1_1 + (nI 0))), some (.int (nI i1))]) hG dX12_openMany_41 (by decide) (pm_c1b rfl) rfl ?_
            refine pm_iincX (v := nI (i1 + 1)) (loc' := [some (.ref (B + 54)), some (.int (x1_1 + (nI 0))), some (.int (nI (i1 + 1)))]) hG dX12_openMany_42 rfl (nI_1 _) (by decide) (pm_c1b rfl) rfl ?_
            refine pm_goto (tgt := 4) hG dX12_openMany_45 rfl ?_
            exact ih1 (x1_1 + (nI 0)) (i1 + 1) (by omega) (by omega)
          · refine pm_iconst (v := nI 1) hG dX12_openMany_35 (by decide) ?_
            refine pm_goto (tgt := 40) hG dX12_openMany_36 rfl ?_
            refine pm_iadd hG dX12_openMany_40 ?_
            refine pm_istoreXn (loc' := [some (.ref (B + 54)), some (.int (x1_1 + (nI 1))), some (.int (nI i1))]) hG dX12_openMany_41 (by decide) (pm_c1b rfl) rfl ?_
            refine pm_iincX (v := nI (i1 + 1)) (loc' := [some (.ref (B + 54)), some (.int (x1_1 + (nI 1))), some (.int (nI (i1 + 1)))]) hG dX12_openMany_42 rfl (nI_1 _) (by decide) (pm_c1b rfl) rfl ?_
            refine pm_goto (tgt := 4) hG dX12_openMany_45 rfl ?_
            exact ih1 (x1_1 + (nI 1)) (i1 + 1) (by omega) (by omega)
  exact loop4_1 _ (nI 0) 0 (by omega) (Nat.lt_succ_self _)

set_option maxRecDepth 100000 in
theorem m_isTested {d B cnt : Nat} {σ : pm_S} {I : Nat → Int32} {A : Nat → Nat → Int32} {n k z : Nat → Int32} {ac wt pl ps tr im : Int32}  {w : Nat} (hdd : 1 ≤ d) (hw : w ≤ 60) : pm_met mX12_isTested d 0 0 B [.ref (B + 54)] cnt (pm_mid σ (md_L B I A n k z ac (nI w) pl ps tr im)) (pm_Qi (fun v σ' cnt' => (v = 0 ∨ v = 1) ∧ σ' = (pm_mid σ (md_L B I A n k z ac (nI w) pl ps tr im)) ∧ cnt = cnt')) := by
  refine pm_enter 1 (by decide) (Nat.le_of_ble_eq_true rfl) rfl (fun G hG hR hF => ?_)
  refine pm_aloadn hG dX12_isTested_0 rfl ?_
  refine pm_getf hG dX12_isTested_1 (flX12_148 _ rfl) rfl rfl ?_
  refine pm_iconst (v := nI 1) hG dX12_isTested_4 (by decide) ?_
  refine pm_isub hG dX12_isTested_5 ?_
  refine pm_istoreXn (loc' := [some (.ref (B + 54)), some (.int ((nI w) - (nI 1)))]) hG dX12_isTested_6 (by decide) (pm_c1b rfl) rfl ?_
  have loop7_1 : ∀ (m1 : Nat) (i1 : Nat), i1 ≤ 60 → i1 < m1 → pm_wp mX12_isTested G B 7 [some (.ref (B + 54)), some (.int (nI i1 - nI 1))] [] 0 0 cnt (pm_mid σ (md_L B I A n k z ac (nI w) pl ps tr im)) := by
    intro m1
    induction m1 with
    | zero => intro i1 _ hm; exact absurd hm (Nat.not_lt_zero _)
    | succ m1 ih1 =>
      intro i1 hi1 hm1
      rcases i1 with _ | i1
      · refine pm_iloadn hG dX12_isTested_7 rfl ?_
        refine pm_top (v := (-1)) (by decide) ?_
        refine pm_if_lt (tgt := 30) hG dX12_isTested_8 rfl (fun _ => ?_) (fun q => absurd q (by decide))
        refine pm_iloadn hG dX12_isTested_30 rfl ?_
        refine pm_top (v := (-1)) (by decide) ?_
        refine pm_if_lt (tgt := 51) hG dX12_isTested_31 rfl (fun _ => ?_) (fun q => absurd q (by decide))
        refine pm_iconst (v := nI 0) hG dX12_isTested_51 (by decide) ?_
        exact pm_zret hG hF dX12_isTested_52 rfl (by rfl) (Nat.le_refl _) (Nat.le_refl _) ⟨_, rfl, Or.inl rfl, rfl, rfl⟩
      · refine pm_iloadn hG dX12_isTested_7 rfl ?_
        refine pm_top (v := nI i1) (nI_pred _) ?_
        refine pm_ifN_lt hG dX12_isTested_8 rfl (by omega) ?_
        refine pm_aloadn hG dX12_isTested_11 rfl ?_
        refine pm_getf hG dX12_isTested_12 (flX12_28 _ rfl) rfl rfl ?_
        refine pm_iloadn hG dX12_isTested_15 rfl ?_
        refine pm_top (v := nI i1) (nI_pred _) ?_
        refine pm_ialdN hG dX12_isTested_16 rfl (by decide) (by omega) ?_
        refine pm_gen (fun x2 ex2 => ?_)
        refine pm_callS (As := [.int x2]) (rest := []) hG hR dX12_isTested_17 (lkX12_151 _ rfl) okS_X12_rankOf (m_rankOf (d := 0)) rfl rfl hdd (Nat.le_refl _) (Nat.le_refl _) (by decide) (pm_ki (fun v3 σ' cnt' hq => ?_))
        obtain ⟨rfl, rfl, rfl⟩ := hq
        have hv3 := rk_le x2
        refine pm_iconst (v := nI 3) hG dX12_isTested_20 (by decide) ?_
        refine pm_icmpN_le (tgt := 30) hG dX12_isTested_21 rfl (by omega) (by omega) (fun c4 => ?_) (fun c4 => ?_)
        · refine pm_iloadn hG dX12_isTested_30 rfl ?_
          refine pm_top (v := nI i1) (nI_pred _) ?_
          refine pm_ifN_lt hG dX12_isTested_31 rfl (by omega) ?_
          refine pm_aloadn hG dX12_isTested_34 rfl ?_
          refine pm_getf hG dX12_isTested_35 (flX12_28 _ rfl) rfl rfl ?_
          refine pm_iloadn hG dX12_isTested_38 rfl ?_
          refine pm_top (v := nI i1) (nI_pred _) ?_
          refine pm_ialdN hG dX12_isTested_39 rfl (by decide) (by omega) ?_
          refine pm_top (v := x2) ex2 ?_
          refine pm_callS (As := [.int x2]) (rest := []) hG hR dX12_isTested_40 (lkX12_151 _ rfl) okS_X12_rankOf (m_rankOf (d := 0)) rfl rfl hdd (Nat.le_refl _) (Nat.le_refl _) (by decide) (pm_ki (fun v6 σ' cnt' hq => ?_))
          obtain ⟨rfl, rfl, rfl⟩ := hq
          have hv6 := rk_le x2
          refine pm_iconst (v := nI 3) hG dX12_isTested_43 (by decide) ?_
          refine pm_icmpN_ne (tgt := 51) hG dX12_isTested_44 rfl (by omega) (by omega) (fun c7 => ?_) (fun c7 => ?_)
          · refine pm_iconst (v := nI 0) hG dX12_isTested_51 (by decide) ?_
            exact pm_zret hG hF dX12_isTested_52 rfl (by rfl) (Nat.le_refl _) (Nat.le_refl _) ⟨_, rfl, Or.inl rfl, rfl, rfl⟩
          · refine pm_iconst (v := nI 1) hG dX12_isTested_47 (by decide) ?_
            refine pm_goto (tgt := 52) hG dX12_isTested_48 rfl ?_
            exact pm_zret hG hF dX12_isTested_52 rfl (by rfl) (Nat.le_refl _) (Nat.le_refl _) ⟨_, rfl, Or.inr rfl, rfl, rfl⟩
        · refine pm_iincX (v := nI (i1 + 1) - nI 1 + (-1)) (loc' := [some (.ref (B + 54)), some (.int (nI (i1 + 1) - nI 1 + (-1)))]) hG dX12_isTested_24 rfl (by rfl) (by decide) (pm_c1b rfl) rfl ?_
          refine pm_goto (tgt := 7) hG dX12_isTested_27 rfl ?_
          refine pm_le (loc' := [some (.ref (B + 54)), some (.int (nI i1 - nI 1))]) (by rw [nI_dn]) ?_
          exact ih1 i1 (by omega) (by omega)
  exact loop7_1 _ w (by omega) (Nat.lt_succ_self _)

set_option maxRecDepth 100000 in
theorem m_settles {d B cnt : Nat} {σ : pm_S} {I : Nat → Int32} {A : Nat → Nat → Int32} {n k z : Nat → Int32} {ac wt pl ps tr im : Int32}  {r a w : Nat} (hdd : 2 ≤ d) (hr : 1 ≤ r ∧ r ≤ 5) (hv : ∀ i : Nat, i < w → vw (A 61 i)) (hp : pD (A 60) a (bn (A 61) w + 1)) (hs : a + w ≤ 60) : pm_met mX12_settles d 0 0 B [.ref (B + 54), .int (nI r)] cnt (pm_mid σ (md_L B I A n k z (nI a) (nI w) pl ps tr im)) (pm_Qv (fun σ' cnt' => ∃ (A' : Nat → Nat → Int32) (a' w' : Nat), σ' = (pm_mid σ (md_L B I A' n k z (nI a') (nI w') pl ps tr im)) ∧ STL A A' r a w a' w' ∧ cnt = cnt')) := by
  refine pm_enter 0 (by decide) (Nat.le_of_ble_eq_true rfl) rfl (fun G hG hR hF => ?_)
  have loopS : ∀ (mS : Nat) (A1 : Nat → Nat → Int32) (a1 w1 : Nat), A1 61 = A 61 → pD (A1 60) a1 (bn (A 61) w1 + 1) → (a1 + w1 = a + w ∧ w1 ≤ w) → (∀ i : Nat, w1 ≤ i → i < w → r ≤ rk (A 61 i)) → w1 < mS → pm_wp mX12_settles G B 0 [some (.ref (B + 54)), some (.int (nI r))] [] 0 0 cnt (pm_mid σ (md_L B I A1 n k z (nI a1) (nI w1) pl ps tr im)) := by
    intro mS
    induction mS with
    | zero => intro A1 a1 w1 _ _ _ _ hm; exact absurd hm (Nat.not_lt_zero _)
    | succ mS ihS =>
      intro A1 a1 w1 g1 g2 g3 g4 hmS
      refine pm_aloadn hG dX12_settles_0 rfl ?_
      refine pm_getf hG dX12_settles_1 (flX12_148 _ rfl) rfl rfl ?_
      refine pm_ifN_le (tgt := 54) hG dX12_settles_4 rfl (by omega) (fun c0 => ?_) (fun c0 => ?_)
      · exact pm_vret hG hF dX12_settles_54 rfl (Nat.le_refl _) (Nat.le_refl _) ⟨rfl, A1, a1, w1, rfl, ⟨g1, g2, g3, g4, (Or.inl c0)⟩, rfl⟩
      · refine pm_aloadn hG dX12_settles_7 rfl ?_
        refine pm_getf hG dX12_settles_8 (flX12_28 _ rfl) rfl rfl ?_
        refine pm_aloadn hG dX12_settles_11 rfl ?_
        refine pm_getf hG dX12_settles_12 (flX12_148 _ rfl) rfl rfl ?_
        refine pm_iconst (v := nI 1) hG dX12_settles_15 (by decide) ?_
        obtain ⟨q1, hq1⟩ : ∃ q1 : Nat, w1 = 1 + q1 := ⟨w1 - (1), by omega⟩
        refine pm_isubN (c := q1) hG dX12_settles_16 (by omega) ?_
        refine pm_ialdN hG dX12_settles_17 rfl (by decide) (by omega) ?_
        refine pm_gen (fun x2 ex2 => ?_)
        refine pm_callS (As := [.int x2]) (rest := []) hG hR dX12_settles_18 (lkX12_151 _ rfl) okS_X12_rankOf (m_rankOf (d := 1)) rfl rfl hdd (Nat.le_refl _) (Nat.le_refl _) (by decide) (pm_ki (fun v3 σ' cnt' hq => ?_))
        obtain ⟨rfl, rfl, rfl⟩ := hq
        have hv3 := rk_le x2
        refine pm_iloadn hG dX12_settles_21 rfl ?_
        refine pm_icmpN_lt (tgt := 54) hG dX12_settles_22 rfl (by omega) (by omega) (fun cR => ?_) (fun cR => ?_)
        · exact pm_vret hG hF dX12_settles_54 rfl (Nat.le_refl _) (Nat.le_refl _) ⟨rfl, A1, a1, w1, rfl, ⟨g1, g2, g3, g4, (Or.inr (by rw [← g1, show w1 - 1 = q1 by omega, ex2]; exact cR))⟩, rfl⟩
        · have vX : vw x2 := by rw [← ex2, g1]; exact hv _ (by omega)
          refine pm_aloadn hG dX12_settles_25 rfl ?_
          refine pm_dup hG dX12_settles_26 rfl ?_
          refine pm_getf hG dX12_settles_27 (flX12_148 _ rfl) rfl rfl ?_
          refine pm_iconst (v := nI 1) hG dX12_settles_30 (by decide) ?_
          refine pm_isubN (c := q1) hG dX12_settles_31 (by omega) ?_
          refine pm_putf hG dX12_settles_32 (fwX12_148 _ rfl) rfl rfl rfl ?_
          refine mdn_waiting ?_
          refine pm_aloadn hG dX12_settles_35 rfl ?_
          refine pm_bipush (v := (-100)) hG dX12_settles_36 (by decide) ?_
          refine pm_aloadn hG dX12_settles_38 rfl ?_
          refine pm_getf hG dX12_settles_39 (flX12_28 _ rfl) rfl rfl ?_
          refine pm_aloadn hG dX12_settles_42 rfl ?_
          refine pm_getf hG dX12_settles_43 (flX12_148 _ rfl) rfl rfl ?_
          refine pm_ialdN hG dX12_settles_46 rfl (by decide) (by omega) ?_
          refine pm_top (v := x2) ex2 ?_
          refine pm_isub hG dX12_settles_47 ?_
          refine pm_callV (As := [.int ((-100) - x2)]) (rest := []) hG hR dX12_settles_48 (lkX12_154 _ rfl) okV_X12_lays rfl rfl (m_lays (d := 1) (ac := 0) (by omega)) rfl rfl hdd (Nat.le_refl _) (Nat.le_refl _) (by decide) (pm_kv (fun σ' cnt' hq => ?_))
          obtain ⟨A_5, rfl, eA_5, wA_5, rfl⟩ := hq
          refine pm_goto (tgt := 0) hG dX12_settles_51 rfl ?_
          refine ihS A_5 (a1 + 1) q1 (wA_5.trans g1) (by rw [← g1]; exact stl_step (by omega) ex2 vX cR (by have := g2; rw [← g1, show w1 = q1 + 1 by omega] at this; exact this) eA_5) (by omega) (fun i u1 u2 => ?_) (by omega)
          by_cases q3 : i = q1
          · rw [q3, ← g1, ex2]; exact cR
          · exact g4 i (by omega) u2
  exact loopS _ A a w rfl hp ⟨rfl, Nat.le_refl _⟩ (fun i q1 q2 => absurd q2 (by omega)) (Nat.lt_succ_self _)

set_option maxRecDepth 100000 in
theorem m_readsOne {d B cnt : Nat} {σ : pm_S} {I : Nat → Int32} {A : Nat → Nat → Int32} {n k z : Nat → Int32} {ac wt pl ps tr im : Int32}  {T a w p : Nat} (hdd : 2 ≤ d) (hn : KI n) (hT : n 10 = nI T) (hRI : RI A T a w p 0) : pm_met mX12_readsOne d 0 0 B [.ref (B + 54)] cnt (pm_mid σ (md_L B I A n k z (nI a) (nI w) (nI p) ps tr im)) (pm_Qi (fun v σ' cnt' => ∃ (A' : Nat → Nat → Int32) (a' w' p' : Nat), σ' = (pm_mid σ (md_L B I A' n k z (nI a') (nI w') (nI p') ps tr im)) ∧ (a' ≤ 60 ∧ w' ≤ 60 ∧ p' ≤ 60) ∧ cnt = cnt' ∧ (v = nI 0 ∨ (v = nI 1 ∧ RI A' T a' w' p' 1 ∧ p < p') ∨ (v = nI 2 ∧ RI A' T a' w' p' 0 ∧ p < p')))) := by
  refine pm_enter 3 (by decide) (Nat.le_of_ble_eq_true rfl) rfl (fun G hG hR hF => ?_)
  obtain ⟨⟨h1, h2, h3⟩, hv, hp, hw0⟩ := hRI
  have hw := hw0 rfl
  refine pm_aloadn hG dX12_readsOne_0 rfl ?_
  refine pm_aloadn hG dX12_readsOne_1 rfl ?_
  refine pm_getf hG dX12_readsOne_2 (flX12_157 _ rfl) rfl rfl ?_
  rcases Nat.lt_or_ge p T with c1 | c1
  · refine pm_callV (As := [.int (nI p)]) (rest := []) hG hR dX12_readsOne_5 (lkX12_160 _ rfl) okV_X12_byteAt rfl rfl (m_byteAt1 (d := 1) hT (by omega) (by omega) (by omega)) rfl rfl hdd (Nat.le_refl _) (Nat.le_refl _) (by decide) (pm_ki (fun v2 σ' cnt' hq => ?_))
    obtain ⟨rfl, rfl, rfl⟩ := hq
    refine pm_gen (fun x3 ex3 => ?_)
    refine pm_istoreXn (loc' := [some (.ref (B + 54)), some (.int x3), none, none]) hG dX12_readsOne_8 (by decide) (pm_c1b rfl) rfl ?_
    refine pm_iloadn hG dX12_readsOne_9 rfl ?_
    refine pm_bipush (v := nI 33) hG dX12_readsOne_10 (by decide) ?_
    refine pm_icmp_eq (tgt := 21) hG dX12_readsOne_12 rfl (fun c4 => ?_) (fun c4 => ?_)
    · refine pm_aloadn hG dX12_readsOne_21 rfl ?_
      refine pm_callV (As := []) (rest := []) hG hR dX12_readsOne_22 (lkX12_163 _ rfl) okV_X12_openMany rfl rfl (m_openMany (d := 1) (wt := 0) (by decide) (by omega)) rfl rfl hdd (Nat.le_refl _) (Nat.le_refl _) (by decide) (pm_ki (fun v5 σ' cnt' hq => ?_))
      obtain ⟨rv5, rfl, rfl⟩ := hq
      refine pm_iconst (v := nI 5) hG dX12_readsOne_25 (by decide) ?_
      refine pm_icmp_ne (tgt := 31) hG dX12_readsOne_26 rfl (fun c6 => ?_) (fun c6 => ?_)
      · refine pm_aloadn hG dX12_readsOne_31 rfl ?_
        refine pm_getf hG dX12_readsOne_32 (flX12_28 _ rfl) rfl rfl ?_
        refine pm_aloadn hG dX12_readsOne_35 rfl ?_
        refine pm_getf hG dX12_readsOne_36 (flX12_148 _ rfl) rfl rfl ?_
        refine pm_iloadn hG dX12_readsOne_39 rfl ?_
        refine pm_top (v := nI 33) c4 ?_
        refine pm_iastN hG dX12_readsOne_40 rfl (by decide) (by omega) ?_
        refine mdE_waits (fun A_7 eA_7 oA_7 => ?_)
        refine pm_aloadn hG dX12_readsOne_41 rfl ?_
        refine pm_dup hG dX12_readsOne_42 rfl ?_
        refine pm_getf hG dX12_readsOne_43 (flX12_148 _ rfl) rfl rfl ?_
        refine pm_iconst (v := nI 1) hG dX12_readsOne_46 (by decide) ?_
        refine pm_iaddN (c := w + 1) hG dX12_readsOne_47 (by omega) ?_
        refine pm_putf hG dX12_readsOne_48 (fwX12_148 _ rfl) rfl rfl rfl ?_
        refine mdn_waiting ?_
        refine pm_aloadn hG dX12_readsOne_51 rfl ?_
        refine pm_dup hG dX12_readsOne_52 rfl ?_
        refine pm_getf hG dX12_readsOne_53 (flX12_157 _ rfl) rfl rfl ?_
        refine pm_iconst (v := nI 1) hG dX12_readsOne_56 (by decide) ?_
        refine pm_iaddN (c := p + 1) hG dX12_readsOne_57 (by omega) ?_
        refine pm_putf hG dX12_readsOne_58 (fwX12_157 _ rfl) rfl rfl rfl ?_
        refine mdn_place ?_
        refine pm_iconst (v := nI 2) hG dX12_readsOne_61 (by decide) ?_
        exact pm_iret hG hF dX12_readsOne_62 rfl (Nat.le_refl _) (Nat.le_refl _) ⟨_, rfl, A_7, a, (w + 1), (p + 1), rfl, by omega, rfl, Or.inr (Or.inr ⟨rfl, RI.opn ⟨⟨h1, h2, h3⟩, hv, hp, hw0⟩ (by omega) (Or.inl rfl) eA_7 (oA_7 60 (by decide)), by omega⟩)⟩
      · refine pm_iconst (v := nI 0) hG dX12_readsOne_29 (by decide) ?_
        exact pm_iret hG hF dX12_readsOne_30 rfl (Nat.le_refl _) (Nat.le_refl _) ⟨_, rfl, A, a, w, p, rfl, by omega, rfl, Or.inl rfl⟩
    · refine pm_iloadn hG dX12_readsOne_15 rfl ?_
      refine pm_bipush (v := nI 40) hG dX12_readsOne_16 (by decide) ?_
      refine pm_icmp_ne (tgt := 63) hG dX12_readsOne_18 rfl (fun c8 => ?_) (fun c8 => ?_)
      · refine pm_iloadn hG dX12_readsOne_63 rfl ?_
        refine pm_callS (As := [.int x3]) (rest := []) hG hR dX12_readsOne_64 (lkX12_167 _ rfl) okS_X12_nameOf (m_nameOf (d := 1)) rfl rfl hdd (Nat.le_refl _) (Nat.le_refl _) (by decide) (pm_ki (fun v9 σ' cnt' hq => ?_))
        obtain ⟨rfl, rfl, rfl⟩ := hq
        have hv9 := nmB_le x3
        refine pm_ifN_le (tgt := 91) hG dX12_readsOne_67 rfl (by omega) (fun c10 => ?_) (fun c10 => ?_)
        · refine pm_iconst (v := nI 0) hG dX12_readsOne_91 (by decide) ?_
          refine pm_istoreXn (loc' := [some (.ref (B + 54)), some (.int x3), some (.int (nI 0)), none]) hG dX12_readsOne_92 (by decide) (pm_c1b rfl) rfl ?_
          refine pm_aloadn hG dX12_readsOne_93 rfl ?_
          refine pm_getf hG dX12_readsOne_94 (flX12_157 _ rfl) rfl rfl ?_
          refine pm_istoreXn (loc' := [some (.ref (B + 54)), some (.int x3), some (.int (nI 0)), some (.int (nI p))]) hG dX12_readsOne_97 (by decide) (pm_c1b rfl) rfl ?_
          refine pm_aloadn hG dX12_readsOne_98 rfl ?_
          refine pm_aloadn hG dX12_readsOne_99 rfl ?_
          refine pm_getf hG dX12_readsOne_100 (flX12_157 _ rfl) rfl rfl ?_
          refine pm_callV (As := [.int (nI p)]) (rest := []) hG hR dX12_readsOne_103 (lkX12_160 _ rfl) okV_X12_byteAt rfl rfl (m_byteAt1 (d := 1) hT (by omega) (by omega) (by omega)) rfl rfl hdd (Nat.le_refl _) (Nat.le_refl _) (by decide) (pm_ki (fun v11 σ' cnt' hq => ?_))
          obtain ⟨rfl, rfl, rfl⟩ := hq
          refine pm_top (v := x3) ex3 ?_
          refine pm_callS (As := [.int x3]) (rest := []) hG hR dX12_readsOne_106 (lkX12_170 _ rfl) okS_X12_isDigit (m_isDigit (d := 1)) rfl rfl hdd (Nat.le_refl _) (Nat.le_refl _) (by decide) (pm_ki (fun v12 σ' cnt' hq => ?_))
          obtain ⟨hq, rfl, rfl⟩ := hq
          rcases hq with ⟨rfl, ac13, bc13⟩ | ⟨rfl, c13⟩
          · obtain ⟨k14, hk14, ek14⟩ := in_nat (by omega) (by omega) ac13 bc13
            refine pm_ifN_eq (tgt := 152) hG dX12_readsOne_109 rfl (by omega) (fun q => absurd q (by omega)) (fun _ => ?_)
            refine pm_aloadn hG dX12_readsOne_112 rfl ?_
            refine pm_getf hG dX12_readsOne_113 (flX12_157 _ rfl) rfl rfl ?_
            refine pm_iloadn hG dX12_readsOne_116 rfl ?_
            refine pm_isubN (c := 0) hG dX12_readsOne_117 (by omega) ?_
            refine pm_iconst (v := nI 4) hG dX12_readsOne_118 (by decide) ?_
            refine pm_icmpN_ge (tgt := 152) hG dX12_readsOne_119 rfl (by omega) (by omega) (fun q => absurd q (by omega)) (fun _ => ?_)
            refine pm_bipush (v := nI 10) hG dX12_readsOne_122 (by decide) ?_
            refine pm_iloadn hG dX12_readsOne_124 rfl ?_
            refine pm_imulN (c := 0) hG dX12_readsOne_125 (by omega) ?_
            refine pm_aloadn hG dX12_readsOne_126 rfl ?_
            refine pm_aloadn hG dX12_readsOne_127 rfl ?_
            refine pm_getf hG dX12_readsOne_128 (flX12_157 _ rfl) rfl rfl ?_
            refine pm_callV (As := [.int (nI p)]) (rest := [.int (nI 0)]) hG hR dX12_readsOne_131 (lkX12_160 _ rfl) okV_X12_byteAt rfl rfl (m_byteAt1 (d := 1) hT (by omega) (by omega) (by omega)) rfl rfl hdd (Nat.le_refl _) (Nat.le_refl _) (Nat.le_of_ble_eq_true rfl) (pm_ki (fun v15 σ' cnt' hq => ?_))
            obtain ⟨rfl, rfl, rfl⟩ := hq
            refine pm_top (v := x3) ex3 ?_
            refine pm_top (v := nI k14) ek14 ?_
            refine pm_iaddN (c := k14) hG dX12_readsOne_134 (by omega) ?_
            refine pm_bipush (v := nI 48) hG dX12_readsOne_135 (by decide) ?_
            obtain ⟨q16, hq16⟩ : ∃ q16 : Nat, k14 = 48 + q16 := ⟨k14 - (48), by omega⟩
            refine pm_isubN (c := q16) hG dX12_readsOne_137 (by omega) ?_
            refine pm_istoreXn (loc' := [some (.ref (B + 54)), some (.int x3), some (.int (nI q16)), some (.int (nI p))]) hG dX12_readsOne_138 (by decide) (pm_c1b rfl) rfl ?_
            refine pm_aloadn hG dX12_readsOne_139 rfl ?_
            refine pm_dup hG dX12_readsOne_140 rfl ?_
            refine pm_getf hG dX12_readsOne_141 (flX12_157 _ rfl) rfl rfl ?_
            refine pm_iconst (v := nI 1) hG dX12_readsOne_144 (by decide) ?_
            refine pm_iaddN (c := p + 1) hG dX12_readsOne_145 (by omega) ?_
            refine pm_putf hG dX12_readsOne_146 (fwX12_157 _ rfl) rfl rfl rfl ?_
            refine mdn_place ?_
            refine pm_goto (tgt := 98) hG dX12_readsOne_149 rfl ?_
            refine pm_aloadn hG dX12_readsOne_98 rfl ?_
            refine pm_aloadn hG dX12_readsOne_99 rfl ?_
            refine pm_getf hG dX12_readsOne_100 (flX12_157 _ rfl) rfl rfl ?_
            rcases Nat.lt_or_ge (p + 1) T with c17 | c17
            · refine pm_callV (As := [.int (nI (p + 1))]) (rest := []) hG hR dX12_readsOne_103 (lkX12_160 _ rfl) okV_X12_byteAt rfl rfl (m_byteAt1 (d := 1) hT (by omega) (by omega) (by omega)) rfl rfl hdd (Nat.le_refl _) (Nat.le_refl _) (by decide) (pm_ki (fun v18 σ' cnt' hq => ?_))
              obtain ⟨rfl, rfl, rfl⟩ := hq
              refine pm_top (v := n (p + 1992)) (by rw [show (p + 1) + 1991 = p + 1992 by omega]) ?_
              refine pm_gen (fun x19 ex19 => ?_)
              refine pm_callS (As := [.int x19]) (rest := []) hG hR dX12_readsOne_106 (lkX12_170 _ rfl) okS_X12_isDigit (m_isDigit (d := 1)) rfl rfl hdd (Nat.le_refl _) (Nat.le_refl _) (by decide) (pm_ki (fun v20 σ' cnt' hq => ?_))
              obtain ⟨hq, rfl, rfl⟩ := hq
              rcases hq with ⟨rfl, ac21, bc21⟩ | ⟨rfl, c21⟩
              · obtain ⟨k22, hk22, ek22⟩ := in_nat (by omega) (by omega) ac21 bc21
                refine pm_ifN_eq (tgt := 152) hG dX12_readsOne_109 rfl (by omega) (fun q => absurd q (by omega)) (fun _ => ?_)
                refine pm_aloadn hG dX12_readsOne_112 rfl ?_
                refine pm_getf hG dX12_readsOne_113 (flX12_157 _ rfl) rfl rfl ?_
                refine pm_iloadn hG dX12_readsOne_116 rfl ?_
                refine pm_isubN (c := 1) hG dX12_readsOne_117 (by omega) ?_
                refine pm_iconst (v := nI 4) hG dX12_readsOne_118 (by decide) ?_
                refine pm_icmpN_ge (tgt := 152) hG dX12_readsOne_119 rfl (by omega) (by omega) (fun q => absurd q (by omega)) (fun _ => ?_)
                refine pm_bipush (v := nI 10) hG dX12_readsOne_122 (by decide) ?_
                refine pm_iloadn hG dX12_readsOne_124 rfl ?_
                refine pm_imulN (c := 10 * q16) hG dX12_readsOne_125 (by omega) ?_
                refine pm_aloadn hG dX12_readsOne_126 rfl ?_
                refine pm_aloadn hG dX12_readsOne_127 rfl ?_
                refine pm_getf hG dX12_readsOne_128 (flX12_157 _ rfl) rfl rfl ?_
                refine pm_callV (As := [.int (nI (p + 1))]) (rest := [.int (nI (10 * q16))]) hG hR dX12_readsOne_131 (lkX12_160 _ rfl) okV_X12_byteAt rfl rfl (m_byteAt1 (d := 1) hT (by omega) (by omega) (by omega)) rfl rfl hdd (Nat.le_refl _) (Nat.le_refl _) (Nat.le_of_ble_eq_true rfl) (pm_ki (fun v23 σ' cnt' hq => ?_))
                obtain ⟨rfl, rfl, rfl⟩ := hq
                refine pm_top (v := n (p + 1992)) (by rw [show (p + 1) + 1991 = p + 1992 by omega]) ?_
                refine pm_top (v := x19) ex19 ?_
                refine pm_top (v := nI k22) ek22 ?_
                refine pm_iaddN (c := k22 + 10 * q16) hG dX12_readsOne_134 (by omega) ?_
                refine pm_bipush (v := nI 48) hG dX12_readsOne_135 (by decide) ?_
                obtain ⟨q24, hq24⟩ : ∃ q24 : Nat, k22 + 10 * q16 = 48 + q24 := ⟨(k22 + 10 * q16) - (48), by omega⟩
                refine pm_isubN (c := q24) hG dX12_readsOne_137 (by omega) ?_
                refine pm_istoreXn (loc' := [some (.ref (B + 54)), some (.int x3), some (.int (nI q24)), some (.int (nI p))]) hG dX12_readsOne_138 (by decide) (pm_c1b rfl) rfl ?_
                refine pm_aloadn hG dX12_readsOne_139 rfl ?_
                refine pm_dup hG dX12_readsOne_140 rfl ?_
                refine pm_getf hG dX12_readsOne_141 (flX12_157 _ rfl) rfl rfl ?_
                refine pm_iconst (v := nI 1) hG dX12_readsOne_144 (by decide) ?_
                refine pm_iaddN (c := p + 2) hG dX12_readsOne_145 (by omega) ?_
                refine pm_putf hG dX12_readsOne_146 (fwX12_157 _ rfl) rfl rfl rfl ?_
                refine mdn_place ?_
                refine pm_goto (tgt := 98) hG dX12_readsOne_149 rfl ?_
                refine pm_aloadn hG dX12_readsOne_98 rfl ?_
                refine pm_aloadn hG dX12_readsOne_99 rfl ?_
                refine pm_getf hG dX12_readsOne_100 (flX12_157 _ rfl) rfl rfl ?_
                rcases Nat.lt_or_ge (p + 2) T with c25 | c25
                · refine pm_callV (As := [.int (nI (p + 2))]) (rest := []) hG hR dX12_readsOne_103 (lkX12_160 _ rfl) okV_X12_byteAt rfl rfl (m_byteAt1 (d := 1) hT (by omega) (by omega) (by omega)) rfl rfl hdd (Nat.le_refl _) (Nat.le_refl _) (by decide) (pm_ki (fun v26 σ' cnt' hq => ?_))
                  obtain ⟨rfl, rfl, rfl⟩ := hq
                  refine pm_top (v := n (p + 1993)) (by rw [show (p + 2) + 1991 = p + 1993 by omega]) ?_
                  refine pm_gen (fun x27 ex27 => ?_)
                  refine pm_callS (As := [.int x27]) (rest := []) hG hR dX12_readsOne_106 (lkX12_170 _ rfl) okS_X12_isDigit (m_isDigit (d := 1)) rfl rfl hdd (Nat.le_refl _) (Nat.le_refl _) (by decide) (pm_ki (fun v28 σ' cnt' hq => ?_))
                  obtain ⟨hq, rfl, rfl⟩ := hq
                  rcases hq with ⟨rfl, ac29, bc29⟩ | ⟨rfl, c29⟩
                  · obtain ⟨k30, hk30, ek30⟩ := in_nat (by omega) (by omega) ac29 bc29
                    refine pm_ifN_eq (tgt := 152) hG dX12_readsOne_109 rfl (by omega) (fun q => absurd q (by omega)) (fun _ => ?_)
                    refine pm_aloadn hG dX12_readsOne_112 rfl ?_
                    refine pm_getf hG dX12_readsOne_113 (flX12_157 _ rfl) rfl rfl ?_
                    refine pm_iloadn hG dX12_readsOne_116 rfl ?_
                    refine pm_isubN (c := 2) hG dX12_readsOne_117 (by omega) ?_
                    refine pm_iconst (v := nI 4) hG dX12_readsOne_118 (by decide) ?_
                    refine pm_icmpN_ge (tgt := 152) hG dX12_readsOne_119 rfl (by omega) (by omega) (fun q => absurd q (by omega)) (fun _ => ?_)
                    refine pm_bipush (v := nI 10) hG dX12_readsOne_122 (by decide) ?_
                    refine pm_iloadn hG dX12_readsOne_124 rfl ?_
                    refine pm_imulN (c := 10 * q24) hG dX12_readsOne_125 (by omega) ?_
                    refine pm_aloadn hG dX12_readsOne_126 rfl ?_
                    refine pm_aloadn hG dX12_readsOne_127 rfl ?_
                    refine pm_getf hG dX12_readsOne_128 (flX12_157 _ rfl) rfl rfl ?_
                    refine pm_callV (As := [.int (nI (p + 2))]) (rest := [.int (nI (10 * q24))]) hG hR dX12_readsOne_131 (lkX12_160 _ rfl) okV_X12_byteAt rfl rfl (m_byteAt1 (d := 1) hT (by omega) (by omega) (by omega)) rfl rfl hdd (Nat.le_refl _) (Nat.le_refl _) (Nat.le_of_ble_eq_true rfl) (pm_ki (fun v31 σ' cnt' hq => ?_))
                    obtain ⟨rfl, rfl, rfl⟩ := hq
                    refine pm_top (v := n (p + 1993)) (by rw [show (p + 2) + 1991 = p + 1993 by omega]) ?_
                    refine pm_top (v := x27) ex27 ?_
                    refine pm_top (v := nI k30) ek30 ?_
                    refine pm_iaddN (c := k30 + 10 * q24) hG dX12_readsOne_134 (by omega) ?_
                    refine pm_bipush (v := nI 48) hG dX12_readsOne_135 (by decide) ?_
                    obtain ⟨q32, hq32⟩ : ∃ q32 : Nat, k30 + 10 * q24 = 48 + q32 := ⟨(k30 + 10 * q24) - (48), by omega⟩
                    refine pm_isubN (c := q32) hG dX12_readsOne_137 (by omega) ?_
                    refine pm_istoreXn (loc' := [some (.ref (B + 54)), some (.int x3), some (.int (nI q32)), some (.int (nI p))]) hG dX12_readsOne_138 (by decide) (pm_c1b rfl) rfl ?_
                    refine pm_aloadn hG dX12_readsOne_139 rfl ?_
                    refine pm_dup hG dX12_readsOne_140 rfl ?_
                    refine pm_getf hG dX12_readsOne_141 (flX12_157 _ rfl) rfl rfl ?_
                    refine pm_iconst (v := nI 1) hG dX12_readsOne_144 (by decide) ?_
                    refine pm_iaddN (c := p + 3) hG dX12_readsOne_145 (by omega) ?_
                    refine pm_putf hG dX12_readsOne_146 (fwX12_157 _ rfl) rfl rfl rfl ?_
                    refine mdn_place ?_
                    refine pm_goto (tgt := 98) hG dX12_readsOne_149 rfl ?_
                    refine pm_aloadn hG dX12_readsOne_98 rfl ?_
                    refine pm_aloadn hG dX12_readsOne_99 rfl ?_
                    refine pm_getf hG dX12_readsOne_100 (flX12_157 _ rfl) rfl rfl ?_
                    rcases Nat.lt_or_ge (p + 3) T with c33 | c33
                    · refine pm_callV (As := [.int (nI (p + 3))]) (rest := []) hG hR dX12_readsOne_103 (lkX12_160 _ rfl) okV_X12_byteAt rfl rfl (m_byteAt1 (d := 1) hT (by omega) (by omega) (by omega)) rfl rfl hdd (Nat.le_refl _) (Nat.le_refl _) (by decide) (pm_ki (fun v34 σ' cnt' hq => ?_))
                      obtain ⟨rfl, rfl, rfl⟩ := hq
                      refine pm_top (v := n (p + 1994)) (by rw [show (p + 3) + 1991 = p + 1994 by omega]) ?_
                      refine pm_gen (fun x35 ex35 => ?_)
                      refine pm_callS (As := [.int x35]) (rest := []) hG hR dX12_readsOne_106 (lkX12_170 _ rfl) okS_X12_isDigit (m_isDigit (d := 1)) rfl rfl hdd (Nat.le_refl _) (Nat.le_refl _) (by decide) (pm_ki (fun v36 σ' cnt' hq => ?_))
                      obtain ⟨hq, rfl, rfl⟩ := hq
                      rcases hq with ⟨rfl, ac37, bc37⟩ | ⟨rfl, c37⟩
                      · obtain ⟨k38, hk38, ek38⟩ := in_nat (by omega) (by omega) ac37 bc37
                        refine pm_ifN_eq (tgt := 152) hG dX12_readsOne_109 rfl (by omega) (fun q => absurd q (by omega)) (fun _ => ?_)
                        refine pm_aloadn hG dX12_readsOne_112 rfl ?_
                        refine pm_getf hG dX12_readsOne_113 (flX12_157 _ rfl) rfl rfl ?_
                        refine pm_iloadn hG dX12_readsOne_116 rfl ?_
                        refine pm_isubN (c := 3) hG dX12_readsOne_117 (by omega) ?_
                        refine pm_iconst (v := nI 4) hG dX12_readsOne_118 (by decide) ?_
                        refine pm_icmpN_ge (tgt := 152) hG dX12_readsOne_119 rfl (by omega) (by omega) (fun q => absurd q (by omega)) (fun _ => ?_)
                        refine pm_bipush (v := nI 10) hG dX12_readsOne_122 (by decide) ?_
                        refine pm_iloadn hG dX12_readsOne_124 rfl ?_
                        refine pm_imulN (c := 10 * q32) hG dX12_readsOne_125 (by omega) ?_
                        refine pm_aloadn hG dX12_readsOne_126 rfl ?_
                        refine pm_aloadn hG dX12_readsOne_127 rfl ?_
                        refine pm_getf hG dX12_readsOne_128 (flX12_157 _ rfl) rfl rfl ?_
                        refine pm_callV (As := [.int (nI (p + 3))]) (rest := [.int (nI (10 * q32))]) hG hR dX12_readsOne_131 (lkX12_160 _ rfl) okV_X12_byteAt rfl rfl (m_byteAt1 (d := 1) hT (by omega) (by omega) (by omega)) rfl rfl hdd (Nat.le_refl _) (Nat.le_refl _) (Nat.le_of_ble_eq_true rfl) (pm_ki (fun v39 σ' cnt' hq => ?_))
                        obtain ⟨rfl, rfl, rfl⟩ := hq
                        refine pm_top (v := n (p + 1994)) (by rw [show (p + 3) + 1991 = p + 1994 by omega]) ?_
                        refine pm_top (v := x35) ex35 ?_
                        refine pm_top (v := nI k38) ek38 ?_
                        refine pm_iaddN (c := k38 + 10 * q32) hG dX12_readsOne_134 (by omega) ?_
                        refine pm_bipush (v := nI 48) hG dX12_readsOne_135 (by decide) ?_
                        obtain ⟨q40, hq40⟩ : ∃ q40 : Nat, k38 + 10 * q32 = 48 + q40 := ⟨(k38 + 10 * q32) - (48), by omega⟩
                        refine pm_isubN (c := q40) hG dX12_readsOne_137 (by omega) ?_
                        refine pm_istoreXn (loc' := [some (.ref (B + 54)), some (.int x3), some (.int (nI q40)), some (.int (nI p))]) hG dX12_readsOne_138 (by decide) (pm_c1b rfl) rfl ?_
                        refine pm_aloadn hG dX12_readsOne_139 rfl ?_
                        refine pm_dup hG dX12_readsOne_140 rfl ?_
                        refine pm_getf hG dX12_readsOne_141 (flX12_157 _ rfl) rfl rfl ?_
                        refine pm_iconst (v := nI 1) hG dX12_readsOne_144 (by decide) ?_
                        refine pm_iaddN (c := p + 4) hG dX12_readsOne_145 (by omega) ?_
                        refine pm_putf hG dX12_readsOne_146 (fwX12_157 _ rfl) rfl rfl rfl ?_
                        refine mdn_place ?_
                        refine pm_goto (tgt := 98) hG dX12_readsOne_149 rfl ?_
                        refine pm_aloadn hG dX12_readsOne_98 rfl ?_
                        refine pm_aloadn hG dX12_readsOne_99 rfl ?_
                        refine pm_getf hG dX12_readsOne_100 (flX12_157 _ rfl) rfl rfl ?_
                        rcases Nat.lt_or_ge (p + 4) T with c41 | c41
                        · refine pm_callV (As := [.int (nI (p + 4))]) (rest := []) hG hR dX12_readsOne_103 (lkX12_160 _ rfl) okV_X12_byteAt rfl rfl (m_byteAt1 (d := 1) hT (by omega) (by omega) (by omega)) rfl rfl hdd (Nat.le_refl _) (Nat.le_refl _) (by decide) (pm_ki (fun v42 σ' cnt' hq => ?_))
                          obtain ⟨rfl, rfl, rfl⟩ := hq
                          refine pm_top (v := n (p + 1995)) (by rw [show (p + 4) + 1991 = p + 1995 by omega]) ?_
                          refine pm_gen (fun x43 ex43 => ?_)
                          refine pm_callS (As := [.int x43]) (rest := []) hG hR dX12_readsOne_106 (lkX12_170 _ rfl) okS_X12_isDigit (m_isDigit (d := 1)) rfl rfl hdd (Nat.le_refl _) (Nat.le_refl _) (by decide) (pm_ki (fun v44 σ' cnt' hq => ?_))
                          obtain ⟨hq, rfl, rfl⟩ := hq
                          rcases hq with ⟨rfl, ac45, bc45⟩ | ⟨rfl, c45⟩
                          · obtain ⟨k46, hk46, ek46⟩ := in_nat (by omega) (by omega) ac45 bc45
                            refine pm_ifN_eq (tgt := 152) hG dX12_readsOne_109 rfl (by omega) (fun q => absurd q (by omega)) (fun _ => ?_)
                            refine pm_aloadn hG dX12_readsOne_112 rfl ?_
                            refine pm_getf hG dX12_readsOne_113 (flX12_157 _ rfl) rfl rfl ?_
                            refine pm_iloadn hG dX12_readsOne_116 rfl ?_
                            refine pm_isubN (c := 4) hG dX12_readsOne_117 (by omega) ?_
                            refine pm_iconst (v := nI 4) hG dX12_readsOne_118 (by decide) ?_
                            refine pm_icmpN_ge (tgt := 152) hG dX12_readsOne_119 rfl (by omega) (by omega) (fun _ => ?_) (fun q => absurd q (by omega))
                            refine pm_aloadn hG dX12_readsOne_152 rfl ?_
                            refine pm_iloadn hG dX12_readsOne_153 rfl ?_
                            refine pm_callV (As := [.int (nI q40)]) (rest := []) hG hR dX12_readsOne_154 (lkX12_154 _ rfl) okV_X12_lays rfl rfl (m_lays (d := 1) (ac := 0) (by omega)) rfl rfl hdd (Nat.le_refl _) (Nat.le_refl _) (by decide) (pm_kv (fun σ' cnt' hq => ?_))
                            obtain ⟨A_47, rfl, eA_47, wA_47, rfl⟩ := hq
                            refine pm_aloadn hG dX12_readsOne_157 rfl ?_
                            refine pm_getf hG dX12_readsOne_158 (flX12_157 _ rfl) rfl rfl ?_
                            refine pm_iloadn hG dX12_readsOne_161 rfl ?_
                            refine pm_icmpN_le (tgt := 183) hG dX12_readsOne_162 rfl (by omega) (by omega) (fun q => absurd q (by omega)) (fun _ => ?_)
                            refine pm_aloadn hG dX12_readsOne_165 rfl ?_
                            refine pm_aloadn hG dX12_readsOne_166 rfl ?_
                            refine pm_getf hG dX12_readsOne_167 (flX12_157 _ rfl) rfl rfl ?_
                            refine pm_callV (As := [.int (nI (p + 4))]) (rest := []) hG hR dX12_readsOne_170 (lkX12_160 _ rfl) okV_X12_byteAt rfl rfl (m_byteAt1 (d := 1) hT (by omega) (by omega) (by omega)) rfl rfl hdd (Nat.le_refl _) (Nat.le_refl _) (by decide) (pm_ki (fun v48 σ' cnt' hq => ?_))
                            obtain ⟨rfl, rfl, rfl⟩ := hq
                            refine pm_top (v := n (p + 1995)) (by rw [show (p + 4) + 1991 = p + 1995 by omega]) ?_
                            refine pm_top (v := x43) ex43 ?_
                            refine pm_top (v := nI k46) ek46 ?_
                            refine pm_callS (As := [.int (nI k46)]) (rest := []) hG hR dX12_readsOne_173 (lkX12_170 _ rfl) okS_X12_isDigit (m_isDigit (d := 1)) rfl rfl hdd (Nat.le_refl _) (Nat.le_refl _) (by decide) (pm_ki (fun v49 σ' cnt' hq => ?_))
                            obtain ⟨hq, rfl, rfl⟩ := hq
                            rcases hq with ⟨rfl, ac50, bc50⟩ | ⟨rfl, c50⟩
                            · have ic50 := (nI_leI (by omega) (by omega)).mp (Int32.not_lt.mp ac50)
                              have jc50 := (nI_leI (by omega) (by omega)).mp (Int32.not_lt.mp bc50)
                              refine pm_ifN_ne (tgt := 183) hG dX12_readsOne_176 rfl (by omega) (fun _ => ?_) (fun q => absurd q (by omega))
                              refine pm_iconst (v := nI 0) hG dX12_readsOne_183 (by decide) ?_
                              exact pm_iret hG hF dX12_readsOne_184 rfl (Nat.le_refl _) (Nat.le_refl _) ⟨_, rfl, A_47, (a + 1), w, (p + 4), rfl, by omega, rfl, Or.inl rfl⟩
                            · refine pm_ifN_ne (tgt := 183) hG dX12_readsOne_176 rfl (by omega) (fun q => absurd q (by omega)) (fun _ => ?_)
                              refine pm_iconst (v := nI 1) hG dX12_readsOne_179 (by decide) ?_
                              refine pm_goto (tgt := 184) hG dX12_readsOne_180 rfl ?_
                              exact pm_iret hG hF dX12_readsOne_184 rfl (Nat.le_refl _) (Nat.le_refl _) ⟨_, rfl, A_47, (a + 1), w, (p + 4), rfl, by omega, rfl, Or.inr (Or.inl ⟨rfl, RI.val ⟨⟨h1, h2, h3⟩, hv, hp, hw0⟩ (psh_n (by omega)) eA_47 wA_47 (by omega) (by omega), by omega⟩)⟩
                          · refine pm_ifN_eq (tgt := 152) hG dX12_readsOne_109 rfl (by omega) (fun _ => ?_) (fun q => absurd q (by omega))
                            refine pm_aloadn hG dX12_readsOne_152 rfl ?_
                            refine pm_iloadn hG dX12_readsOne_153 rfl ?_
                            refine pm_callV (As := [.int (nI q40)]) (rest := []) hG hR dX12_readsOne_154 (lkX12_154 _ rfl) okV_X12_lays rfl rfl (m_lays (d := 1) (ac := 0) (by omega)) rfl rfl hdd (Nat.le_refl _) (Nat.le_refl _) (by decide) (pm_kv (fun σ' cnt' hq => ?_))
                            obtain ⟨A_51, rfl, eA_51, wA_51, rfl⟩ := hq
                            refine pm_aloadn hG dX12_readsOne_157 rfl ?_
                            refine pm_getf hG dX12_readsOne_158 (flX12_157 _ rfl) rfl rfl ?_
                            refine pm_iloadn hG dX12_readsOne_161 rfl ?_
                            refine pm_icmpN_le (tgt := 183) hG dX12_readsOne_162 rfl (by omega) (by omega) (fun q => absurd q (by omega)) (fun _ => ?_)
                            refine pm_aloadn hG dX12_readsOne_165 rfl ?_
                            refine pm_aloadn hG dX12_readsOne_166 rfl ?_
                            refine pm_getf hG dX12_readsOne_167 (flX12_157 _ rfl) rfl rfl ?_
                            refine pm_callV (As := [.int (nI (p + 4))]) (rest := []) hG hR dX12_readsOne_170 (lkX12_160 _ rfl) okV_X12_byteAt rfl rfl (m_byteAt1 (d := 1) hT (by omega) (by omega) (by omega)) rfl rfl hdd (Nat.le_refl _) (Nat.le_refl _) (by decide) (pm_ki (fun v52 σ' cnt' hq => ?_))
                            obtain ⟨rfl, rfl, rfl⟩ := hq
                            refine pm_top (v := n (p + 1995)) (by rw [show (p + 4) + 1991 = p + 1995 by omega]) ?_
                            refine pm_top (v := x43) ex43 ?_
                            refine pm_callS (As := [.int x43]) (rest := []) hG hR dX12_readsOne_173 (lkX12_170 _ rfl) okS_X12_isDigit (m_isDigit (d := 1)) rfl rfl hdd (Nat.le_refl _) (Nat.le_refl _) (by decide) (pm_ki (fun v53 σ' cnt' hq => ?_))
                            obtain ⟨hq, rfl, rfl⟩ := hq
                            rcases hq with ⟨rfl, ac54, bc54⟩ | ⟨rfl, c54⟩
                            · obtain ⟨k55, hk55, ek55⟩ := in_nat (by omega) (by omega) ac54 bc54
                              refine pm_ifN_ne (tgt := 183) hG dX12_readsOne_176 rfl (by omega) (fun _ => ?_) (fun q => absurd q (by omega))
                              refine pm_iconst (v := nI 0) hG dX12_readsOne_183 (by decide) ?_
                              exact pm_iret hG hF dX12_readsOne_184 rfl (Nat.le_refl _) (Nat.le_refl _) ⟨_, rfl, A_51, (a + 1), w, (p + 4), rfl, by omega, rfl, Or.inl rfl⟩
                            · refine pm_ifN_ne (tgt := 183) hG dX12_readsOne_176 rfl (by omega) (fun q => absurd q (by omega)) (fun _ => ?_)
                              refine pm_iconst (v := nI 1) hG dX12_readsOne_179 (by decide) ?_
                              refine pm_goto (tgt := 184) hG dX12_readsOne_180 rfl ?_
                              exact pm_iret hG hF dX12_readsOne_184 rfl (Nat.le_refl _) (Nat.le_refl _) ⟨_, rfl, A_51, (a + 1), w, (p + 4), rfl, by omega, rfl, Or.inr (Or.inl ⟨rfl, RI.val ⟨⟨h1, h2, h3⟩, hv, hp, hw0⟩ (psh_n (by omega)) eA_51 wA_51 (by omega) (by omega), by omega⟩)⟩
                        · refine pm_callV (As := [.int (nI (p + 4))]) (rest := []) hG hR dX12_readsOne_103 (lkX12_160 _ rfl) okV_X12_byteAt rfl rfl (m_byteAt0 (d := 1) hT (by omega) (by omega) (by omega)) rfl rfl hdd (Nat.le_refl _) (Nat.le_refl _) (by decide) (pm_ki (fun v56 σ' cnt' hq => ?_))
                          obtain ⟨rfl, rfl, rfl⟩ := hq
                          refine pm_callS (As := [.int (-1)]) (rest := []) hG hR dX12_readsOne_106 (lkX12_170 _ rfl) okS_X12_isDigit (m_isDigit (d := 1)) rfl rfl hdd (Nat.le_refl _) (Nat.le_refl _) (by decide) (pm_ki (fun v57 σ' cnt' hq => ?_))
                          obtain ⟨hq, rfl, rfl⟩ := hq
                          obtain rfl : v57 = nI 0 := by
                            rcases hq with ⟨-, q, -⟩ | ⟨q, -⟩
                            · exact absurd (show (-1 : Int32) < nI 48 by decide) q
                            · exact q
                          refine pm_ifN_eq (tgt := 152) hG dX12_readsOne_109 rfl (by omega) (fun _ => ?_) (fun q => absurd q (by omega))
                          refine pm_aloadn hG dX12_readsOne_152 rfl ?_
                          refine pm_iloadn hG dX12_readsOne_153 rfl ?_
                          refine pm_callV (As := [.int (nI q40)]) (rest := []) hG hR dX12_readsOne_154 (lkX12_154 _ rfl) okV_X12_lays rfl rfl (m_lays (d := 1) (ac := 0) (by omega)) rfl rfl hdd (Nat.le_refl _) (Nat.le_refl _) (by decide) (pm_kv (fun σ' cnt' hq => ?_))
                          obtain ⟨A_58, rfl, eA_58, wA_58, rfl⟩ := hq
                          refine pm_aloadn hG dX12_readsOne_157 rfl ?_
                          refine pm_getf hG dX12_readsOne_158 (flX12_157 _ rfl) rfl rfl ?_
                          refine pm_iloadn hG dX12_readsOne_161 rfl ?_
                          refine pm_icmpN_le (tgt := 183) hG dX12_readsOne_162 rfl (by omega) (by omega) (fun q => absurd q (by omega)) (fun _ => ?_)
                          refine pm_aloadn hG dX12_readsOne_165 rfl ?_
                          refine pm_aloadn hG dX12_readsOne_166 rfl ?_
                          refine pm_getf hG dX12_readsOne_167 (flX12_157 _ rfl) rfl rfl ?_
                          refine pm_callV (As := [.int (nI (p + 4))]) (rest := []) hG hR dX12_readsOne_170 (lkX12_160 _ rfl) okV_X12_byteAt rfl rfl (m_byteAt0 (d := 1) hT (by omega) (by omega) (by omega)) rfl rfl hdd (Nat.le_refl _) (Nat.le_refl _) (by decide) (pm_ki (fun v59 σ' cnt' hq => ?_))
                          obtain ⟨rfl, rfl, rfl⟩ := hq
                          refine pm_callS (As := [.int (-1)]) (rest := []) hG hR dX12_readsOne_173 (lkX12_170 _ rfl) okS_X12_isDigit (m_isDigit (d := 1)) rfl rfl hdd (Nat.le_refl _) (Nat.le_refl _) (by decide) (pm_ki (fun v60 σ' cnt' hq => ?_))
                          obtain ⟨hq, rfl, rfl⟩ := hq
                          obtain rfl : v60 = nI 0 := by
                            rcases hq with ⟨-, q, -⟩ | ⟨q, -⟩
                            · exact absurd (show (-1 : Int32) < nI 48 by decide) q
                            · exact q
                          refine pm_ifN_ne (tgt := 183) hG dX12_readsOne_176 rfl (by omega) (fun q => absurd q (by omega)) (fun _ => ?_)
                          refine pm_iconst (v := nI 1) hG dX12_readsOne_179 (by decide) ?_
                          refine pm_goto (tgt := 184) hG dX12_readsOne_180 rfl ?_
                          exact pm_iret hG hF dX12_readsOne_184 rfl (Nat.le_refl _) (Nat.le_refl _) ⟨_, rfl, A_58, (a + 1), w, (p + 4), rfl, by omega, rfl, Or.inr (Or.inl ⟨rfl, RI.val ⟨⟨h1, h2, h3⟩, hv, hp, hw0⟩ (psh_n (by omega)) eA_58 wA_58 (by omega) (by omega), by omega⟩)⟩
                      · refine pm_ifN_eq (tgt := 152) hG dX12_readsOne_109 rfl (by omega) (fun _ => ?_) (fun q => absurd q (by omega))
                        refine pm_aloadn hG dX12_readsOne_152 rfl ?_
                        refine pm_iloadn hG dX12_readsOne_153 rfl ?_
                        refine pm_callV (As := [.int (nI q32)]) (rest := []) hG hR dX12_readsOne_154 (lkX12_154 _ rfl) okV_X12_lays rfl rfl (m_lays (d := 1) (ac := 0) (by omega)) rfl rfl hdd (Nat.le_refl _) (Nat.le_refl _) (by decide) (pm_kv (fun σ' cnt' hq => ?_))
                        obtain ⟨A_61, rfl, eA_61, wA_61, rfl⟩ := hq
                        refine pm_aloadn hG dX12_readsOne_157 rfl ?_
                        refine pm_getf hG dX12_readsOne_158 (flX12_157 _ rfl) rfl rfl ?_
                        refine pm_iloadn hG dX12_readsOne_161 rfl ?_
                        refine pm_icmpN_le (tgt := 183) hG dX12_readsOne_162 rfl (by omega) (by omega) (fun q => absurd q (by omega)) (fun _ => ?_)
                        refine pm_aloadn hG dX12_readsOne_165 rfl ?_
                        refine pm_aloadn hG dX12_readsOne_166 rfl ?_
                        refine pm_getf hG dX12_readsOne_167 (flX12_157 _ rfl) rfl rfl ?_
                        refine pm_callV (As := [.int (nI (p + 3))]) (rest := []) hG hR dX12_readsOne_170 (lkX12_160 _ rfl) okV_X12_byteAt rfl rfl (m_byteAt1 (d := 1) hT (by omega) (by omega) (by omega)) rfl rfl hdd (Nat.le_refl _) (Nat.le_refl _) (by decide) (pm_ki (fun v62 σ' cnt' hq => ?_))
                        obtain ⟨rfl, rfl, rfl⟩ := hq
                        refine pm_top (v := n (p + 1994)) (by rw [show (p + 3) + 1991 = p + 1994 by omega]) ?_
                        refine pm_top (v := x35) ex35 ?_
                        refine pm_callS (As := [.int x35]) (rest := []) hG hR dX12_readsOne_173 (lkX12_170 _ rfl) okS_X12_isDigit (m_isDigit (d := 1)) rfl rfl hdd (Nat.le_refl _) (Nat.le_refl _) (by decide) (pm_ki (fun v63 σ' cnt' hq => ?_))
                        obtain ⟨hq, rfl, rfl⟩ := hq
                        rcases hq with ⟨rfl, ac64, bc64⟩ | ⟨rfl, c64⟩
                        · obtain ⟨k65, hk65, ek65⟩ := in_nat (by omega) (by omega) ac64 bc64
                          refine pm_ifN_ne (tgt := 183) hG dX12_readsOne_176 rfl (by omega) (fun _ => ?_) (fun q => absurd q (by omega))
                          refine pm_iconst (v := nI 0) hG dX12_readsOne_183 (by decide) ?_
                          exact pm_iret hG hF dX12_readsOne_184 rfl (Nat.le_refl _) (Nat.le_refl _) ⟨_, rfl, A_61, (a + 1), w, (p + 3), rfl, by omega, rfl, Or.inl rfl⟩
                        · refine pm_ifN_ne (tgt := 183) hG dX12_readsOne_176 rfl (by omega) (fun q => absurd q (by omega)) (fun _ => ?_)
                          refine pm_iconst (v := nI 1) hG dX12_readsOne_179 (by decide) ?_
                          refine pm_goto (tgt := 184) hG dX12_readsOne_180 rfl ?_
                          exact pm_iret hG hF dX12_readsOne_184 rfl (Nat.le_refl _) (Nat.le_refl _) ⟨_, rfl, A_61, (a + 1), w, (p + 3), rfl, by omega, rfl, Or.inr (Or.inl ⟨rfl, RI.val ⟨⟨h1, h2, h3⟩, hv, hp, hw0⟩ (psh_n (by omega)) eA_61 wA_61 (by omega) (by omega), by omega⟩)⟩
                    · refine pm_callV (As := [.int (nI (p + 3))]) (rest := []) hG hR dX12_readsOne_103 (lkX12_160 _ rfl) okV_X12_byteAt rfl rfl (m_byteAt0 (d := 1) hT (by omega) (by omega) (by omega)) rfl rfl hdd (Nat.le_refl _) (Nat.le_refl _) (by decide) (pm_ki (fun v66 σ' cnt' hq => ?_))
                      obtain ⟨rfl, rfl, rfl⟩ := hq
                      refine pm_callS (As := [.int (-1)]) (rest := []) hG hR dX12_readsOne_106 (lkX12_170 _ rfl) okS_X12_isDigit (m_isDigit (d := 1)) rfl rfl hdd (Nat.le_refl _) (Nat.le_refl _) (by decide) (pm_ki (fun v67 σ' cnt' hq => ?_))
                      obtain ⟨hq, rfl, rfl⟩ := hq
                      obtain rfl : v67 = nI 0 := by
                        rcases hq with ⟨-, q, -⟩ | ⟨q, -⟩
                        · exact absurd (show (-1 : Int32) < nI 48 by decide) q
                        · exact q
                      refine pm_ifN_eq (tgt := 152) hG dX12_readsOne_109 rfl (by omega) (fun _ => ?_) (fun q => absurd q (by omega))
                      refine pm_aloadn hG dX12_readsOne_152 rfl ?_
                      refine pm_iloadn hG dX12_readsOne_153 rfl ?_
                      refine pm_callV (As := [.int (nI q32)]) (rest := []) hG hR dX12_readsOne_154 (lkX12_154 _ rfl) okV_X12_lays rfl rfl (m_lays (d := 1) (ac := 0) (by omega)) rfl rfl hdd (Nat.le_refl _) (Nat.le_refl _) (by decide) (pm_kv (fun σ' cnt' hq => ?_))
                      obtain ⟨A_68, rfl, eA_68, wA_68, rfl⟩ := hq
                      refine pm_aloadn hG dX12_readsOne_157 rfl ?_
                      refine pm_getf hG dX12_readsOne_158 (flX12_157 _ rfl) rfl rfl ?_
                      refine pm_iloadn hG dX12_readsOne_161 rfl ?_
                      refine pm_icmpN_le (tgt := 183) hG dX12_readsOne_162 rfl (by omega) (by omega) (fun q => absurd q (by omega)) (fun _ => ?_)
                      refine pm_aloadn hG dX12_readsOne_165 rfl ?_
                      refine pm_aloadn hG dX12_readsOne_166 rfl ?_
                      refine pm_getf hG dX12_readsOne_167 (flX12_157 _ rfl) rfl rfl ?_
                      refine pm_callV (As := [.int (nI (p + 3))]) (rest := []) hG hR dX12_readsOne_170 (lkX12_160 _ rfl) okV_X12_byteAt rfl rfl (m_byteAt0 (d := 1) hT (by omega) (by omega) (by omega)) rfl rfl hdd (Nat.le_refl _) (Nat.le_refl _) (by decide) (pm_ki (fun v69 σ' cnt' hq => ?_))
                      obtain ⟨rfl, rfl, rfl⟩ := hq
                      refine pm_callS (As := [.int (-1)]) (rest := []) hG hR dX12_readsOne_173 (lkX12_170 _ rfl) okS_X12_isDigit (m_isDigit (d := 1)) rfl rfl hdd (Nat.le_refl _) (Nat.le_refl _) (by decide) (pm_ki (fun v70 σ' cnt' hq => ?_))
                      obtain ⟨hq, rfl, rfl⟩ := hq
                      obtain rfl : v70 = nI 0 := by
                        rcases hq with ⟨-, q, -⟩ | ⟨q, -⟩
                        · exact absurd (show (-1 : Int32) < nI 48 by decide) q
                        · exact q
                      refine pm_ifN_ne (tgt := 183) hG dX12_readsOne_176 rfl (by omega) (fun q => absurd q (by omega)) (fun _ => ?_)
                      refine pm_iconst (v := nI 1) hG dX12_readsOne_179 (by decide) ?_
                      refine pm_goto (tgt := 184) hG dX12_readsOne_180 rfl ?_
                      exact pm_iret hG hF dX12_readsOne_184 rfl (Nat.le_refl _) (Nat.le_refl _) ⟨_, rfl, A_68, (a + 1), w, (p + 3), rfl, by omega, rfl, Or.inr (Or.inl ⟨rfl, RI.val ⟨⟨h1, h2, h3⟩, hv, hp, hw0⟩ (psh_n (by omega)) eA_68 wA_68 (by omega) (by omega), by omega⟩)⟩
                  · refine pm_ifN_eq (tgt := 152) hG dX12_readsOne_109 rfl (by omega) (fun _ => ?_) (fun q => absurd q (by omega))
                    refine pm_aloadn hG dX12_readsOne_152 rfl ?_
                    refine pm_iloadn hG dX12_readsOne_153 rfl ?_
                    refine pm_callV (As := [.int (nI q24)]) (rest := []) hG hR dX12_readsOne_154 (lkX12_154 _ rfl) okV_X12_lays rfl rfl (m_lays (d := 1) (ac := 0) (by omega)) rfl rfl hdd (Nat.le_refl _) (Nat.le_refl _) (by decide) (pm_kv (fun σ' cnt' hq => ?_))
                    obtain ⟨A_71, rfl, eA_71, wA_71, rfl⟩ := hq
                    refine pm_aloadn hG dX12_readsOne_157 rfl ?_
                    refine pm_getf hG dX12_readsOne_158 (flX12_157 _ rfl) rfl rfl ?_
                    refine pm_iloadn hG dX12_readsOne_161 rfl ?_
                    refine pm_icmpN_le (tgt := 183) hG dX12_readsOne_162 rfl (by omega) (by omega) (fun q => absurd q (by omega)) (fun _ => ?_)
                    refine pm_aloadn hG dX12_readsOne_165 rfl ?_
                    refine pm_aloadn hG dX12_readsOne_166 rfl ?_
                    refine pm_getf hG dX12_readsOne_167 (flX12_157 _ rfl) rfl rfl ?_
                    refine pm_callV (As := [.int (nI (p + 2))]) (rest := []) hG hR dX12_readsOne_170 (lkX12_160 _ rfl) okV_X12_byteAt rfl rfl (m_byteAt1 (d := 1) hT (by omega) (by omega) (by omega)) rfl rfl hdd (Nat.le_refl _) (Nat.le_refl _) (by decide) (pm_ki (fun v72 σ' cnt' hq => ?_))
                    obtain ⟨rfl, rfl, rfl⟩ := hq
                    refine pm_top (v := n (p + 1993)) (by rw [show (p + 2) + 1991 = p + 1993 by omega]) ?_
                    refine pm_top (v := x27) ex27 ?_
                    refine pm_callS (As := [.int x27]) (rest := []) hG hR dX12_readsOne_173 (lkX12_170 _ rfl) okS_X12_isDigit (m_isDigit (d := 1)) rfl rfl hdd (Nat.le_refl _) (Nat.le_refl _) (by decide) (pm_ki (fun v73 σ' cnt' hq => ?_))
                    obtain ⟨hq, rfl, rfl⟩ := hq
                    rcases hq with ⟨rfl, ac74, bc74⟩ | ⟨rfl, c74⟩
                    · obtain ⟨k75, hk75, ek75⟩ := in_nat (by omega) (by omega) ac74 bc74
                      refine pm_ifN_ne (tgt := 183) hG dX12_readsOne_176 rfl (by omega) (fun _ => ?_) (fun q => absurd q (by omega))
                      refine pm_iconst (v := nI 0) hG dX12_readsOne_183 (by decide) ?_
                      exact pm_iret hG hF dX12_readsOne_184 rfl (Nat.le_refl _) (Nat.le_refl _) ⟨_, rfl, A_71, (a + 1), w, (p + 2), rfl, by omega, rfl, Or.inl rfl⟩
                    · refine pm_ifN_ne (tgt := 183) hG dX12_readsOne_176 rfl (by omega) (fun q => absurd q (by omega)) (fun _ => ?_)
                      refine pm_iconst (v := nI 1) hG dX12_readsOne_179 (by decide) ?_
                      refine pm_goto (tgt := 184) hG dX12_readsOne_180 rfl ?_
                      exact pm_iret hG hF dX12_readsOne_184 rfl (Nat.le_refl _) (Nat.le_refl _) ⟨_, rfl, A_71, (a + 1), w, (p + 2), rfl, by omega, rfl, Or.inr (Or.inl ⟨rfl, RI.val ⟨⟨h1, h2, h3⟩, hv, hp, hw0⟩ (psh_n (by omega)) eA_71 wA_71 (by omega) (by omega), by omega⟩)⟩
                · refine pm_callV (As := [.int (nI (p + 2))]) (rest := []) hG hR dX12_readsOne_103 (lkX12_160 _ rfl) okV_X12_byteAt rfl rfl (m_byteAt0 (d := 1) hT (by omega) (by omega) (by omega)) rfl rfl hdd (Nat.le_refl _) (Nat.le_refl _) (by decide) (pm_ki (fun v76 σ' cnt' hq => ?_))
                  obtain ⟨rfl, rfl, rfl⟩ := hq
                  refine pm_callS (As := [.int (-1)]) (rest := []) hG hR dX12_readsOne_106 (lkX12_170 _ rfl) okS_X12_isDigit (m_isDigit (d := 1)) rfl rfl hdd (Nat.le_refl _) (Nat.le_refl _) (by decide) (pm_ki (fun v77 σ' cnt' hq => ?_))
                  obtain ⟨hq, rfl, rfl⟩ := hq
                  obtain rfl : v77 = nI 0 := by
                    rcases hq with ⟨-, q, -⟩ | ⟨q, -⟩
                    · exact absurd (show (-1 : Int32) < nI 48 by decide) q
                    · exact q
                  refine pm_ifN_eq (tgt := 152) hG dX12_readsOne_109 rfl (by omega) (fun _ => ?_) (fun q => absurd q (by omega))
                  refine pm_aloadn hG dX12_readsOne_152 rfl ?_
                  refine pm_iloadn hG dX12_readsOne_153 rfl ?_
                  refine pm_callV (As := [.int (nI q24)]) (rest := []) hG hR dX12_readsOne_154 (lkX12_154 _ rfl) okV_X12_lays rfl rfl (m_lays (d := 1) (ac := 0) (by omega)) rfl rfl hdd (Nat.le_refl _) (Nat.le_refl _) (by decide) (pm_kv (fun σ' cnt' hq => ?_))
                  obtain ⟨A_78, rfl, eA_78, wA_78, rfl⟩ := hq
                  refine pm_aloadn hG dX12_readsOne_157 rfl ?_
                  refine pm_getf hG dX12_readsOne_158 (flX12_157 _ rfl) rfl rfl ?_
                  refine pm_iloadn hG dX12_readsOne_161 rfl ?_
                  refine pm_icmpN_le (tgt := 183) hG dX12_readsOne_162 rfl (by omega) (by omega) (fun q => absurd q (by omega)) (fun _ => ?_)
                  refine pm_aloadn hG dX12_readsOne_165 rfl ?_
                  refine pm_aloadn hG dX12_readsOne_166 rfl ?_
                  refine pm_getf hG dX12_readsOne_167 (flX12_157 _ rfl) rfl rfl ?_
                  refine pm_callV (As := [.int (nI (p + 2))]) (rest := []) hG hR dX12_readsOne_170 (lkX12_160 _ rfl) okV_X12_byteAt rfl rfl (m_byteAt0 (d := 1) hT (by omega) (by omega) (by omega)) rfl rfl hdd (Nat.le_refl _) (Nat.le_refl _) (by decide) (pm_ki (fun v79 σ' cnt' hq => ?_))
                  obtain ⟨rfl, rfl, rfl⟩ := hq
                  refine pm_callS (As := [.int (-1)]) (rest := []) hG hR dX12_readsOne_173 (lkX12_170 _ rfl) okS_X12_isDigit (m_isDigit (d := 1)) rfl rfl hdd (Nat.le_refl _) (Nat.le_refl _) (by decide) (pm_ki (fun v80 σ' cnt' hq => ?_))
                  obtain ⟨hq, rfl, rfl⟩ := hq
                  obtain rfl : v80 = nI 0 := by
                    rcases hq with ⟨-, q, -⟩ | ⟨q, -⟩
                    · exact absurd (show (-1 : Int32) < nI 48 by decide) q
                    · exact q
                  refine pm_ifN_ne (tgt := 183) hG dX12_readsOne_176 rfl (by omega) (fun q => absurd q (by omega)) (fun _ => ?_)
                  refine pm_iconst (v := nI 1) hG dX12_readsOne_179 (by decide) ?_
                  refine pm_goto (tgt := 184) hG dX12_readsOne_180 rfl ?_
                  exact pm_iret hG hF dX12_readsOne_184 rfl (Nat.le_refl _) (Nat.le_refl _) ⟨_, rfl, A_78, (a + 1), w, (p + 2), rfl, by omega, rfl, Or.inr (Or.inl ⟨rfl, RI.val ⟨⟨h1, h2, h3⟩, hv, hp, hw0⟩ (psh_n (by omega)) eA_78 wA_78 (by omega) (by omega), by omega⟩)⟩
              · refine pm_ifN_eq (tgt := 152) hG dX12_readsOne_109 rfl (by omega) (fun _ => ?_) (fun q => absurd q (by omega))
                refine pm_aloadn hG dX12_readsOne_152 rfl ?_
                refine pm_iloadn hG dX12_readsOne_153 rfl ?_
                refine pm_callV (As := [.int (nI q16)]) (rest := []) hG hR dX12_readsOne_154 (lkX12_154 _ rfl) okV_X12_lays rfl rfl (m_lays (d := 1) (ac := 0) (by omega)) rfl rfl hdd (Nat.le_refl _) (Nat.le_refl _) (by decide) (pm_kv (fun σ' cnt' hq => ?_))
                obtain ⟨A_81, rfl, eA_81, wA_81, rfl⟩ := hq
                refine pm_aloadn hG dX12_readsOne_157 rfl ?_
                refine pm_getf hG dX12_readsOne_158 (flX12_157 _ rfl) rfl rfl ?_
                refine pm_iloadn hG dX12_readsOne_161 rfl ?_
                refine pm_icmpN_le (tgt := 183) hG dX12_readsOne_162 rfl (by omega) (by omega) (fun q => absurd q (by omega)) (fun _ => ?_)
                refine pm_aloadn hG dX12_readsOne_165 rfl ?_
                refine pm_aloadn hG dX12_readsOne_166 rfl ?_
                refine pm_getf hG dX12_readsOne_167 (flX12_157 _ rfl) rfl rfl ?_
                refine pm_callV (As := [.int (nI (p + 1))]) (rest := []) hG hR dX12_readsOne_170 (lkX12_160 _ rfl) okV_X12_byteAt rfl rfl (m_byteAt1 (d := 1) hT (by omega) (by omega) (by omega)) rfl rfl hdd (Nat.le_refl _) (Nat.le_refl _) (by decide) (pm_ki (fun v82 σ' cnt' hq => ?_))
                obtain ⟨rfl, rfl, rfl⟩ := hq
                refine pm_top (v := n (p + 1992)) (by rw [show (p + 1) + 1991 = p + 1992 by omega]) ?_
                refine pm_top (v := x19) ex19 ?_
                refine pm_callS (As := [.int x19]) (rest := []) hG hR dX12_readsOne_173 (lkX12_170 _ rfl) okS_X12_isDigit (m_isDigit (d := 1)) rfl rfl hdd (Nat.le_refl _) (Nat.le_refl _) (by decide) (pm_ki (fun v83 σ' cnt' hq => ?_))
                obtain ⟨hq, rfl, rfl⟩ := hq
                rcases hq with ⟨rfl, ac84, bc84⟩ | ⟨rfl, c84⟩
                · obtain ⟨k85, hk85, ek85⟩ := in_nat (by omega) (by omega) ac84 bc84
                  refine pm_ifN_ne (tgt := 183) hG dX12_readsOne_176 rfl (by omega) (fun _ => ?_) (fun q => absurd q (by omega))
                  refine pm_iconst (v := nI 0) hG dX12_readsOne_183 (by decide) ?_
                  exact pm_iret hG hF dX12_readsOne_184 rfl (Nat.le_refl _) (Nat.le_refl _) ⟨_, rfl, A_81, (a + 1), w, (p + 1), rfl, by omega, rfl, Or.inl rfl⟩
                · refine pm_ifN_ne (tgt := 183) hG dX12_readsOne_176 rfl (by omega) (fun q => absurd q (by omega)) (fun _ => ?_)
                  refine pm_iconst (v := nI 1) hG dX12_readsOne_179 (by decide) ?_
                  refine pm_goto (tgt := 184) hG dX12_readsOne_180 rfl ?_
                  exact pm_iret hG hF dX12_readsOne_184 rfl (Nat.le_refl _) (Nat.le_refl _) ⟨_, rfl, A_81, (a + 1), w, (p + 1), rfl, by omega, rfl, Or.inr (Or.inl ⟨rfl, RI.val ⟨⟨h1, h2, h3⟩, hv, hp, hw0⟩ (psh_n (by omega)) eA_81 wA_81 (by omega) (by omega), by omega⟩)⟩
            · refine pm_callV (As := [.int (nI (p + 1))]) (rest := []) hG hR dX12_readsOne_103 (lkX12_160 _ rfl) okV_X12_byteAt rfl rfl (m_byteAt0 (d := 1) hT (by omega) (by omega) (by omega)) rfl rfl hdd (Nat.le_refl _) (Nat.le_refl _) (by decide) (pm_ki (fun v86 σ' cnt' hq => ?_))
              obtain ⟨rfl, rfl, rfl⟩ := hq
              refine pm_callS (As := [.int (-1)]) (rest := []) hG hR dX12_readsOne_106 (lkX12_170 _ rfl) okS_X12_isDigit (m_isDigit (d := 1)) rfl rfl hdd (Nat.le_refl _) (Nat.le_refl _) (by decide) (pm_ki (fun v87 σ' cnt' hq => ?_))
              obtain ⟨hq, rfl, rfl⟩ := hq
              obtain rfl : v87 = nI 0 := by
                rcases hq with ⟨-, q, -⟩ | ⟨q, -⟩
                · exact absurd (show (-1 : Int32) < nI 48 by decide) q
                · exact q
              refine pm_ifN_eq (tgt := 152) hG dX12_readsOne_109 rfl (by omega) (fun _ => ?_) (fun q => absurd q (by omega))
              refine pm_aloadn hG dX12_readsOne_152 rfl ?_
              refine pm_iloadn hG dX12_readsOne_153 rfl ?_
              refine pm_callV (As := [.int (nI q16)]) (rest := []) hG hR dX12_readsOne_154 (lkX12_154 _ rfl) okV_X12_lays rfl rfl (m_lays (d := 1) (ac := 0) (by omega)) rfl rfl hdd (Nat.le_refl _) (Nat.le_refl _) (by decide) (pm_kv (fun σ' cnt' hq => ?_))
              obtain ⟨A_88, rfl, eA_88, wA_88, rfl⟩ := hq
              refine pm_aloadn hG dX12_readsOne_157 rfl ?_
              refine pm_getf hG dX12_readsOne_158 (flX12_157 _ rfl) rfl rfl ?_
              refine pm_iloadn hG dX12_readsOne_161 rfl ?_
              refine pm_icmpN_le (tgt := 183) hG dX12_readsOne_162 rfl (by omega) (by omega) (fun q => absurd q (by omega)) (fun _ => ?_)
              refine pm_aloadn hG dX12_readsOne_165 rfl ?_
              refine pm_aloadn hG dX12_readsOne_166 rfl ?_
              refine pm_getf hG dX12_readsOne_167 (flX12_157 _ rfl) rfl rfl ?_
              refine pm_callV (As := [.int (nI (p + 1))]) (rest := []) hG hR dX12_readsOne_170 (lkX12_160 _ rfl) okV_X12_byteAt rfl rfl (m_byteAt0 (d := 1) hT (by omega) (by omega) (by omega)) rfl rfl hdd (Nat.le_refl _) (Nat.le_refl _) (by decide) (pm_ki (fun v89 σ' cnt' hq => ?_))
              obtain ⟨rfl, rfl, rfl⟩ := hq
              refine pm_callS (As := [.int (-1)]) (rest := []) hG hR dX12_readsOne_173 (lkX12_170 _ rfl) okS_X12_isDigit (m_isDigit (d := 1)) rfl rfl hdd (Nat.le_refl _) (Nat.le_refl _) (by decide) (pm_ki (fun v90 σ' cnt' hq => ?_))
              obtain ⟨hq, rfl, rfl⟩ := hq
              obtain rfl : v90 = nI 0 := by
                rcases hq with ⟨-, q, -⟩ | ⟨q, -⟩
                · exact absurd (show (-1 : Int32) < nI 48 by decide) q
                · exact q
              refine pm_ifN_ne (tgt := 183) hG dX12_readsOne_176 rfl (by omega) (fun q => absurd q (by omega)) (fun _ => ?_)
              refine pm_iconst (v := nI 1) hG dX12_readsOne_179 (by decide) ?_
              refine pm_goto (tgt := 184) hG dX12_readsOne_180 rfl ?_
              exact pm_iret hG hF dX12_readsOne_184 rfl (Nat.le_refl _) (Nat.le_refl _) ⟨_, rfl, A_88, (a + 1), w, (p + 1), rfl, by omega, rfl, Or.inr (Or.inl ⟨rfl, RI.val ⟨⟨h1, h2, h3⟩, hv, hp, hw0⟩ (psh_n (by omega)) eA_88 wA_88 (by omega) (by omega), by omega⟩)⟩
          · refine pm_ifN_eq (tgt := 152) hG dX12_readsOne_109 rfl (by omega) (fun _ => ?_) (fun q => absurd q (by omega))
            refine pm_aloadn hG dX12_readsOne_152 rfl ?_
            refine pm_iloadn hG dX12_readsOne_153 rfl ?_
            refine pm_callV (As := [.int (nI 0)]) (rest := []) hG hR dX12_readsOne_154 (lkX12_154 _ rfl) okV_X12_lays rfl rfl (m_lays (d := 1) (ac := 0) (by omega)) rfl rfl hdd (Nat.le_refl _) (Nat.le_refl _) (by decide) (pm_kv (fun σ' cnt' hq => ?_))
            obtain ⟨A_91, rfl, eA_91, wA_91, rfl⟩ := hq
            refine pm_aloadn hG dX12_readsOne_157 rfl ?_
            refine pm_getf hG dX12_readsOne_158 (flX12_157 _ rfl) rfl rfl ?_
            refine pm_iloadn hG dX12_readsOne_161 rfl ?_
            refine pm_icmpN_le (tgt := 183) hG dX12_readsOne_162 rfl (by omega) (by omega) (fun _ => ?_) (fun q => absurd q (by omega))
            refine pm_iconst (v := nI 0) hG dX12_readsOne_183 (by decide) ?_
            exact pm_iret hG hF dX12_readsOne_184 rfl (Nat.le_refl _) (Nat.le_refl _) ⟨_, rfl, A_91, (a + 1), w, p, rfl, by omega, rfl, Or.inl rfl⟩
        · refine pm_aloadn hG dX12_readsOne_70 rfl ?_
          refine pm_iloadn hG dX12_readsOne_71 rfl ?_
          refine pm_callS (As := [.int x3]) (rest := [.ref (B + 54)]) hG hR dX12_readsOne_72 (lkX12_167 _ rfl) okS_X12_nameOf (m_nameOf (d := 1)) rfl rfl hdd (Nat.le_refl _) (Nat.le_refl _) (Nat.le_of_ble_eq_true rfl) (pm_ki (fun v92 σ' cnt' hq => ?_))
          obtain ⟨rfl, rfl, rfl⟩ := hq
          have hv92 := nmB_le x3
          refine pm_ineg hG dX12_readsOne_75 ?_
          refine pm_callV (As := [.int (-nI ((nmB x3)))]) (rest := []) hG hR dX12_readsOne_76 (lkX12_154 _ rfl) okV_X12_lays rfl rfl (m_lays (d := 1) (ac := 0) (by omega)) rfl rfl hdd (Nat.le_refl _) (Nat.le_refl _) (by decide) (pm_kv (fun σ' cnt' hq => ?_))
          obtain ⟨A_93, rfl, eA_93, wA_93, rfl⟩ := hq
          refine pm_aloadn hG dX12_readsOne_79 rfl ?_
          refine pm_dup hG dX12_readsOne_80 rfl ?_
          refine pm_getf hG dX12_readsOne_81 (flX12_157 _ rfl) rfl rfl ?_
          refine pm_iconst (v := nI 1) hG dX12_readsOne_84 (by decide) ?_
          refine pm_iaddN (c := p + 1) hG dX12_readsOne_85 (by omega) ?_
          refine pm_putf hG dX12_readsOne_86 (fwX12_157 _ rfl) rfl rfl rfl ?_
          refine mdn_place ?_
          refine pm_iconst (v := nI 1) hG dX12_readsOne_89 (by decide) ?_
          exact pm_iret hG hF dX12_readsOne_90 rfl (Nat.le_refl _) (Nat.le_refl _) ⟨_, rfl, A_93, (a + 1), w, (p + 1), rfl, by omega, rfl, Or.inr (Or.inl ⟨rfl, RI.val ⟨⟨h1, h2, h3⟩, hv, hp, hw0⟩ (psh_m (by omega) (by omega)) eA_93 wA_93 (by omega) (by omega), by omega⟩)⟩
      · refine pm_aloadn hG dX12_readsOne_21 rfl ?_
        refine pm_callV (As := []) (rest := []) hG hR dX12_readsOne_22 (lkX12_163 _ rfl) okV_X12_openMany rfl rfl (m_openMany (d := 1) (wt := 0) (by decide) (by omega)) rfl rfl hdd (Nat.le_refl _) (Nat.le_refl _) (by decide) (pm_ki (fun v94 σ' cnt' hq => ?_))
        obtain ⟨rv94, rfl, rfl⟩ := hq
        refine pm_iconst (v := nI 5) hG dX12_readsOne_25 (by decide) ?_
        refine pm_icmp_ne (tgt := 31) hG dX12_readsOne_26 rfl (fun c95 => ?_) (fun c95 => ?_)
        · refine pm_aloadn hG dX12_readsOne_31 rfl ?_
          refine pm_getf hG dX12_readsOne_32 (flX12_28 _ rfl) rfl rfl ?_
          refine pm_aloadn hG dX12_readsOne_35 rfl ?_
          refine pm_getf hG dX12_readsOne_36 (flX12_148 _ rfl) rfl rfl ?_
          refine pm_iloadn hG dX12_readsOne_39 rfl ?_
          refine pm_top (v := nI 40) c8 ?_
          refine pm_iastN hG dX12_readsOne_40 rfl (by decide) (by omega) ?_
          refine mdE_waits (fun A_96 eA_96 oA_96 => ?_)
          refine pm_aloadn hG dX12_readsOne_41 rfl ?_
          refine pm_dup hG dX12_readsOne_42 rfl ?_
          refine pm_getf hG dX12_readsOne_43 (flX12_148 _ rfl) rfl rfl ?_
          refine pm_iconst (v := nI 1) hG dX12_readsOne_46 (by decide) ?_
          refine pm_iaddN (c := w + 1) hG dX12_readsOne_47 (by omega) ?_
          refine pm_putf hG dX12_readsOne_48 (fwX12_148 _ rfl) rfl rfl rfl ?_
          refine mdn_waiting ?_
          refine pm_aloadn hG dX12_readsOne_51 rfl ?_
          refine pm_dup hG dX12_readsOne_52 rfl ?_
          refine pm_getf hG dX12_readsOne_53 (flX12_157 _ rfl) rfl rfl ?_
          refine pm_iconst (v := nI 1) hG dX12_readsOne_56 (by decide) ?_
          refine pm_iaddN (c := p + 1) hG dX12_readsOne_57 (by omega) ?_
          refine pm_putf hG dX12_readsOne_58 (fwX12_157 _ rfl) rfl rfl rfl ?_
          refine mdn_place ?_
          refine pm_iconst (v := nI 2) hG dX12_readsOne_61 (by decide) ?_
          exact pm_iret hG hF dX12_readsOne_62 rfl (Nat.le_refl _) (Nat.le_refl _) ⟨_, rfl, A_96, a, (w + 1), (p + 1), rfl, by omega, rfl, Or.inr (Or.inr ⟨rfl, RI.opn ⟨⟨h1, h2, h3⟩, hv, hp, hw0⟩ (by omega) (Or.inr rfl) eA_96 (oA_96 60 (by decide)), by omega⟩)⟩
        · refine pm_iconst (v := nI 0) hG dX12_readsOne_29 (by decide) ?_
          exact pm_iret hG hF dX12_readsOne_30 rfl (Nat.le_refl _) (Nat.le_refl _) ⟨_, rfl, A, a, w, p, rfl, by omega, rfl, Or.inl rfl⟩
  · refine pm_callV (As := [.int (nI p)]) (rest := []) hG hR dX12_readsOne_5 (lkX12_160 _ rfl) okV_X12_byteAt rfl rfl (m_byteAt0 (d := 1) hT (by omega) (by omega) (by omega)) rfl rfl hdd (Nat.le_refl _) (Nat.le_refl _) (by decide) (pm_ki (fun v97 σ' cnt' hq => ?_))
    obtain ⟨rfl, rfl, rfl⟩ := hq
    refine pm_istoreXn (loc' := [some (.ref (B + 54)), some (.int (-1)), none, none]) hG dX12_readsOne_8 (by decide) (pm_c1b rfl) rfl ?_
    refine pm_iloadn hG dX12_readsOne_9 rfl ?_
    refine pm_bipush (v := nI 33) hG dX12_readsOne_10 (by decide) ?_
    refine pm_icmp_eq (tgt := 21) hG dX12_readsOne_12 rfl (fun q => absurd q (by decide)) (fun _ => ?_)
    refine pm_iloadn hG dX12_readsOne_15 rfl ?_
    refine pm_bipush (v := nI 40) hG dX12_readsOne_16 (by decide) ?_
    refine pm_icmp_ne (tgt := 63) hG dX12_readsOne_18 rfl (fun _ => ?_) (fun q => absurd q (by decide))
    refine pm_iloadn hG dX12_readsOne_63 rfl ?_
    refine pm_callS (As := [.int (-1)]) (rest := []) hG hR dX12_readsOne_64 (lkX12_167 _ rfl) okS_X12_nameOf (m_nameOf (d := 1)) rfl rfl hdd (Nat.le_refl _) (Nat.le_refl _) (by decide) (pm_ki (fun v98 σ' cnt' hq => ?_))
    obtain ⟨rfl, rfl, rfl⟩ := hq
    refine pm_top (v := nI 0) (by decide) ?_
    refine pm_ifN_le (tgt := 91) hG dX12_readsOne_67 rfl (by omega) (fun _ => ?_) (fun q => absurd q (by omega))
    refine pm_iconst (v := nI 0) hG dX12_readsOne_91 (by decide) ?_
    refine pm_istoreXn (loc' := [some (.ref (B + 54)), some (.int (-1)), some (.int (nI 0)), none]) hG dX12_readsOne_92 (by decide) (pm_c1b rfl) rfl ?_
    refine pm_aloadn hG dX12_readsOne_93 rfl ?_
    refine pm_getf hG dX12_readsOne_94 (flX12_157 _ rfl) rfl rfl ?_
    refine pm_istoreXn (loc' := [some (.ref (B + 54)), some (.int (-1)), some (.int (nI 0)), some (.int (nI p))]) hG dX12_readsOne_97 (by decide) (pm_c1b rfl) rfl ?_
    refine pm_aloadn hG dX12_readsOne_98 rfl ?_
    refine pm_aloadn hG dX12_readsOne_99 rfl ?_
    refine pm_getf hG dX12_readsOne_100 (flX12_157 _ rfl) rfl rfl ?_
    refine pm_callV (As := [.int (nI p)]) (rest := []) hG hR dX12_readsOne_103 (lkX12_160 _ rfl) okV_X12_byteAt rfl rfl (m_byteAt0 (d := 1) hT (by omega) (by omega) (by omega)) rfl rfl hdd (Nat.le_refl _) (Nat.le_refl _) (by decide) (pm_ki (fun v99 σ' cnt' hq => ?_))
    obtain ⟨rfl, rfl, rfl⟩ := hq
    refine pm_callS (As := [.int (-1)]) (rest := []) hG hR dX12_readsOne_106 (lkX12_170 _ rfl) okS_X12_isDigit (m_isDigit (d := 1)) rfl rfl hdd (Nat.le_refl _) (Nat.le_refl _) (by decide) (pm_ki (fun v100 σ' cnt' hq => ?_))
    obtain ⟨hq, rfl, rfl⟩ := hq
    obtain rfl : v100 = nI 0 := by
      rcases hq with ⟨-, q, -⟩ | ⟨q, -⟩
      · exact absurd (show (-1 : Int32) < nI 48 by decide) q
      · exact q
    refine pm_ifN_eq (tgt := 152) hG dX12_readsOne_109 rfl (by omega) (fun _ => ?_) (fun q => absurd q (by omega))
    refine pm_aloadn hG dX12_readsOne_152 rfl ?_
    refine pm_iloadn hG dX12_readsOne_153 rfl ?_
    refine pm_callV (As := [.int (nI 0)]) (rest := []) hG hR dX12_readsOne_154 (lkX12_154 _ rfl) okV_X12_lays rfl rfl (m_lays (d := 1) (ac := 0) (by omega)) rfl rfl hdd (Nat.le_refl _) (Nat.le_refl _) (by decide) (pm_kv (fun σ' cnt' hq => ?_))
    obtain ⟨A_101, rfl, eA_101, wA_101, rfl⟩ := hq
    refine pm_aloadn hG dX12_readsOne_157 rfl ?_
    refine pm_getf hG dX12_readsOne_158 (flX12_157 _ rfl) rfl rfl ?_
    refine pm_iloadn hG dX12_readsOne_161 rfl ?_
    refine pm_icmpN_le (tgt := 183) hG dX12_readsOne_162 rfl (by omega) (by omega) (fun _ => ?_) (fun q => absurd q (by omega))
    refine pm_iconst (v := nI 0) hG dX12_readsOne_183 (by decide) ?_
    exact pm_iret hG hF dX12_readsOne_184 rfl (Nat.le_refl _) (Nat.le_refl _) ⟨_, rfl, A_101, (a + 1), w, p, rfl, by omega, rfl, Or.inl rfl⟩

set_option maxRecDepth 100000 in
theorem m_reads {d B cnt : Nat} {σ : pm_S} {I : Nat → Int32} {A : Nat → Nat → Int32} {n k z : Nat → Int32} {ac wt pl ps tr im : Int32}  {T : Nat} (hdd : 4 ≤ d) (hn : KI n) (hT : n 10 = nI T) (hT2 : T ≤ 60) : pm_met mX12_reads d 0 0 B [.ref (B + 54)] cnt (pm_mid σ (md_L B I A n k z ac wt pl ps tr im)) (pm_Qi (fun v σ' cnt' => ∃ (A' : Nat → Nat → Int32) (a' w' p' : Nat), σ' = (pm_mid σ (md_L B I A' n k z (nI a') (nI w') (nI p') ps tr im)) ∧ a' ≤ 60 ∧ cnt = cnt' ∧ (v = nI 0 ∨ (v = nI 1 ∧ ∃ D : Nat, pD (A' 60) a' D)))) := by
  refine pm_enter 3 (by decide) (Nat.le_of_ble_eq_true rfl) rfl (fun G hG hR hF => ?_)
  refine pm_aloadn hG dX12_reads_0 rfl ?_
  refine pm_iconst (v := nI 0) hG dX12_reads_1 (by decide) ?_
  refine pm_putf hG dX12_reads_2 (fwX12_144 _ rfl) rfl rfl rfl ?_
  refine mdn_acted ?_
  refine pm_aloadn hG dX12_reads_5 rfl ?_
  refine pm_iconst (v := nI 0) hG dX12_reads_6 (by decide) ?_
  refine pm_putf hG dX12_reads_7 (fwX12_148 _ rfl) rfl rfl rfl ?_
  refine mdn_waiting ?_
  refine pm_aloadn hG dX12_reads_10 rfl ?_
  refine pm_iconst (v := nI 0) hG dX12_reads_11 (by decide) ?_
  refine pm_putf hG dX12_reads_12 (fwX12_157 _ rfl) rfl rfl rfl ?_
  refine mdn_place ?_
  refine pm_iconst (v := nI 1) hG dX12_reads_15 (by decide) ?_
  refine pm_istoreXn (loc' := [some (.ref (B + 54)), some (.int (nI 1)), none, none]) hG dX12_reads_16 (by decide) (pm_c1b rfl) rfl ?_
  have loopR : ∀ (mR : Nat) (A1 : Nat → Nat → Int32) (a1 w1 p1 e1 q1 : Nat), RI A1 T a1 w1 p1 e1 → q1 + e1 = 1 → T + 1 - p1 < mR → pm_wp mX12_reads G B 17 [some (.ref (B + 54)), some (.int (nI q1)), none, none] [] 0 0 cnt (pm_mid σ (md_L B I A1 n k z (nI a1) (nI w1) (nI p1) ps tr im)) := by
    intro mR
    induction mR with
    | zero => intro A1 a1 w1 p1 e1 q1 _ _ hm; exact absurd hm (Nat.not_lt_zero _)
    | succ mR ihR =>
      intro A1 a1 w1 p1 e1 q1 ri1 hq1 hmR
      have g1 := ri1.1
      rcases (show (q1 = 0 ∧ e1 = 1) ∨ (q1 = 1 ∧ e1 = 0) by omega) with ⟨rfl, rfl⟩ | ⟨rfl, rfl⟩
      · refine pm_aloadn hG dX12_reads_17 rfl ?_
        refine pm_aloadn hG dX12_reads_18 rfl ?_
        refine pm_getf hG dX12_reads_19 (flX12_157 _ rfl) rfl rfl ?_
        rcases Nat.lt_or_ge p1 T with c1 | c1
        · refine pm_callV (As := [.int (nI p1)]) (rest := []) hG hR dX12_reads_22 (lkX12_160 _ rfl) okV_X12_byteAt rfl rfl (m_byteAt1 (d := 3) hT (by omega) (by omega) (by omega)) rfl rfl hdd (Nat.le_refl _) (Nat.le_refl _) (by decide) (pm_ki (fun v2 σ' cnt' hq => ?_))
          obtain ⟨rfl, rfl, rfl⟩ := hq
          refine pm_gen (fun x3 ex3 => ?_)
          refine pm_istoreXn (loc' := [some (.ref (B + 54)), some (.int (nI 0)), some (.int x3), none]) hG dX12_reads_25 (by decide) (pm_c1b rfl) rfl ?_
          refine pm_iloadn hG dX12_reads_26 rfl ?_
          refine pm_ifN_eq (tgt := 64) hG dX12_reads_27 rfl (by omega) (fun _ => ?_) (fun q => absurd q (by omega))
          refine pm_iloadn hG dX12_reads_64 rfl ?_
          refine pm_if_ge (tgt := 84) hG dX12_reads_65 rfl (fun c4 => ?_) (fun c4 => ?_)
          · obtain ⟨k5, hk5, ek5⟩ := nI_of (Int32.not_lt.mpr c4)
            refine pm_iloadn hG dX12_reads_84 rfl ?_
            refine pm_top (v := nI k5) ek5 ?_
            refine pm_bipush (v := nI 41) hG dX12_reads_85 (by decide) ?_
            refine pm_icmpN_ne (tgt := 130) hG dX12_reads_87 rfl (by omega) (by omega) (fun c6 => ?_) (fun c6 => ?_)
            · refine pm_iloadn hG dX12_reads_130 rfl ?_
              refine pm_top (v := nI k5) ek5 ?_
              refine pm_callS (As := [.int (nI k5)]) (rest := []) hG hR dX12_reads_131 (lkX12_151 _ rfl) okS_X12_rankOf (m_rankOf (d := 3)) rfl rfl hdd (Nat.le_refl _) (Nat.le_refl _) (by decide) (pm_ki (fun v7 σ' cnt' hq => ?_))
              obtain ⟨rfl, rfl, rfl⟩ := hq
              have hv7 := rk_le (nI k5)
              refine pm_istoreXn (loc' := [some (.ref (B + 54)), some (.int (nI 0)), some (.int x3), some (.int (nI ((rk (nI k5)))))]) hG dX12_reads_134 (by decide) (pm_c1b rfl) rfl ?_
              refine pm_iloadn hG dX12_reads_135 rfl ?_
              refine pm_ifN_eq (tgt := 156) hG dX12_reads_136 rfl (by omega) (fun c8 => ?_) (fun c8 => ?_)
              · refine pm_iconst (v := nI 0) hG dX12_reads_156 (by decide) ?_
                exact pm_zret hG hF dX12_reads_157 rfl (by rfl) (Nat.le_refl _) (Nat.le_refl _) ⟨_, rfl, A1, a1, w1, p1, rfl, by omega, rfl, Or.inl rfl⟩
              · refine pm_iloadn hG dX12_reads_139 rfl ?_
                refine pm_iconst (v := nI 5) hG dX12_reads_140 (by decide) ?_
                refine pm_icmpN_eq (tgt := 156) hG dX12_reads_141 rfl (by omega) (by omega) (fun c9 => ?_) (fun c9 => ?_)
                · refine pm_iconst (v := nI 0) hG dX12_reads_156 (by decide) ?_
                  exact pm_zret hG hF dX12_reads_157 rfl (by rfl) (Nat.le_refl _) (Nat.le_refl _) ⟨_, rfl, A1, a1, w1, p1, rfl, by omega, rfl, Or.inl rfl⟩
                · refine pm_iloadn hG dX12_reads_144 rfl ?_
                  refine pm_iconst (v := nI 3) hG dX12_reads_145 (by decide) ?_
                  refine pm_icmpN_ne (tgt := 158) hG dX12_reads_146 rfl (by omega) (by omega) (fun c10 => ?_) (fun c10 => ?_)
                  · refine pm_aloadn hG dX12_reads_158 rfl ?_
                    refine pm_iloadn hG dX12_reads_159 rfl ?_
                    have g11 := ri1.1
                    refine pm_callV (As := [.int (nI ((rk (nI k5))))]) (rest := []) hG hR dX12_reads_160 (lkX12_176 _ rfl) okV_X12_settles rfl rfl (m_settles (d := 3) (ac := 0) (wt := 0) (by decide) (by omega) ri1.2.1 ri1.2.2.1 (by omega)) rfl rfl hdd (Nat.le_refl _) (Nat.le_refl _) (by decide) (pm_kv (fun σ' cnt' hq => ?_))
                    obtain ⟨A_11, a_11, w_11, rfl, s11, rfl⟩ := hq
                    have f11 := s11.2.2.1
                    refine pm_aloadn hG dX12_reads_163 rfl ?_
                    refine pm_getf hG dX12_reads_164 (flX12_28 _ rfl) rfl rfl ?_
                    refine pm_aloadn hG dX12_reads_167 rfl ?_
                    refine pm_getf hG dX12_reads_168 (flX12_148 _ rfl) rfl rfl ?_
                    refine pm_iloadn hG dX12_reads_171 rfl ?_
                    refine pm_top (v := nI k5) ek5 ?_
                    refine pm_iastN hG dX12_reads_172 rfl (by decide) (by omega) ?_
                    refine mdE_waits (fun A_12 eA_12 oA_12 => ?_)
                    refine pm_aloadn hG dX12_reads_173 rfl ?_
                    refine pm_dup hG dX12_reads_174 rfl ?_
                    refine pm_getf hG dX12_reads_175 (flX12_148 _ rfl) rfl rfl ?_
                    refine pm_iconst (v := nI 1) hG dX12_reads_178 (by decide) ?_
                    refine pm_iaddN (c := w_11 + 1) hG dX12_reads_179 (by omega) ?_
                    refine pm_putf hG dX12_reads_180 (fwX12_148 _ rfl) rfl rfl rfl ?_
                    refine mdn_waiting ?_
                    refine pm_aloadn hG dX12_reads_183 rfl ?_
                    refine pm_dup hG dX12_reads_184 rfl ?_
                    refine pm_getf hG dX12_reads_185 (flX12_157 _ rfl) rfl rfl ?_
                    refine pm_iconst (v := nI 1) hG dX12_reads_188 (by decide) ?_
                    refine pm_iaddN (c := p1 + 1) hG dX12_reads_189 (by omega) ?_
                    refine pm_putf hG dX12_reads_190 (fwX12_157 _ rfl) rfl rfl rfl ?_
                    refine mdn_place ?_
                    have r13 := RI.opr ri1 s11 (show isB (nI k5) by constructor <;> omega) eA_12 (oA_12 60 (by decide)) (by omega)
                    have g13 := r13.1
                    refine pm_iconst (v := nI 1) hG dX12_reads_193 (by decide) ?_
                    refine pm_istoreXn (loc' := [some (.ref (B + 54)), some (.int (nI 1)), some (.int x3), some (.int (nI ((rk (nI k5)))))]) hG dX12_reads_194 (by decide) (pm_c1b rfl) rfl ?_
                    refine pm_goto (tgt := 17) hG dX12_reads_195 rfl ?_
                    refine pm_fg 2 (loc' := [some (.ref (B + 54)), some (.int (nI 1)), none, some (.int (nI ((rk (nI k5)))))]) rfl ?_
                    refine pm_fg 3 (loc' := [some (.ref (B + 54)), some (.int (nI 1)), none, none]) rfl ?_
                    exact ihR A_12 a_11 (w_11 + 1) (p1 + 1) 0 1 r13 rfl (by omega)
                  · refine pm_aloadn hG dX12_reads_149 rfl ?_
                    refine pm_callV (As := []) (rest := []) hG hR dX12_reads_150 (lkX12_183 _ rfl) okV_X12_isTested rfl rfl (m_isTested (d := 3) (wt := 0) (by decide) (by omega)) rfl rfl hdd (Nat.le_refl _) (Nat.le_refl _) (by decide) (pm_ki (fun v14 σ' cnt' hq => ?_))
                    obtain ⟨rv14, rfl, rfl⟩ := hq
                    refine pm_if_eq (tgt := 158) hG dX12_reads_153 rfl (fun c15 => ?_) (fun c15 => ?_)
                    · refine pm_aloadn hG dX12_reads_158 rfl ?_
                      refine pm_iloadn hG dX12_reads_159 rfl ?_
                      have g16 := ri1.1
                      refine pm_callV (As := [.int (nI ((rk (nI k5))))]) (rest := []) hG hR dX12_reads_160 (lkX12_176 _ rfl) okV_X12_settles rfl rfl (m_settles (d := 3) (ac := 0) (wt := 0) (by decide) (by omega) ri1.2.1 ri1.2.2.1 (by omega)) rfl rfl hdd (Nat.le_refl _) (Nat.le_refl _) (by decide) (pm_kv (fun σ' cnt' hq => ?_))
                      obtain ⟨A_16, a_16, w_16, rfl, s16, rfl⟩ := hq
                      have f16 := s16.2.2.1
                      refine pm_aloadn hG dX12_reads_163 rfl ?_
                      refine pm_getf hG dX12_reads_164 (flX12_28 _ rfl) rfl rfl ?_
                      refine pm_aloadn hG dX12_reads_167 rfl ?_
                      refine pm_getf hG dX12_reads_168 (flX12_148 _ rfl) rfl rfl ?_
                      refine pm_iloadn hG dX12_reads_171 rfl ?_
                      refine pm_top (v := nI k5) ek5 ?_
                      refine pm_iastN hG dX12_reads_172 rfl (by decide) (by omega) ?_
                      refine mdE_waits (fun A_17 eA_17 oA_17 => ?_)
                      refine pm_aloadn hG dX12_reads_173 rfl ?_
                      refine pm_dup hG dX12_reads_174 rfl ?_
                      refine pm_getf hG dX12_reads_175 (flX12_148 _ rfl) rfl rfl ?_
                      refine pm_iconst (v := nI 1) hG dX12_reads_178 (by decide) ?_
                      refine pm_iaddN (c := w_16 + 1) hG dX12_reads_179 (by omega) ?_
                      refine pm_putf hG dX12_reads_180 (fwX12_148 _ rfl) rfl rfl rfl ?_
                      refine mdn_waiting ?_
                      refine pm_aloadn hG dX12_reads_183 rfl ?_
                      refine pm_dup hG dX12_reads_184 rfl ?_
                      refine pm_getf hG dX12_reads_185 (flX12_157 _ rfl) rfl rfl ?_
                      refine pm_iconst (v := nI 1) hG dX12_reads_188 (by decide) ?_
                      refine pm_iaddN (c := p1 + 1) hG dX12_reads_189 (by omega) ?_
                      refine pm_putf hG dX12_reads_190 (fwX12_157 _ rfl) rfl rfl rfl ?_
                      refine mdn_place ?_
                      have r18 := RI.opr ri1 s16 (show isB (nI k5) by constructor <;> omega) eA_17 (oA_17 60 (by decide)) (by omega)
                      have g18 := r18.1
                      refine pm_iconst (v := nI 1) hG dX12_reads_193 (by decide) ?_
                      refine pm_istoreXn (loc' := [some (.ref (B + 54)), some (.int (nI 1)), some (.int x3), some (.int (nI ((rk (nI k5)))))]) hG dX12_reads_194 (by decide) (pm_c1b rfl) rfl ?_
                      refine pm_goto (tgt := 17) hG dX12_reads_195 rfl ?_
                      refine pm_fg 2 (loc' := [some (.ref (B + 54)), some (.int (nI 1)), none, some (.int (nI ((rk (nI k5)))))]) rfl ?_
                      refine pm_fg 3 (loc' := [some (.ref (B + 54)), some (.int (nI 1)), none, none]) rfl ?_
                      exact ihR A_17 a_16 (w_16 + 1) (p1 + 1) 0 1 r18 rfl (by omega)
                    · refine pm_iconst (v := nI 0) hG dX12_reads_156 (by decide) ?_
                      exact pm_zret hG hF dX12_reads_157 rfl (by rfl) (Nat.le_refl _) (Nat.le_refl _) ⟨_, rfl, A1, a1, w1, p1, rfl, by omega, rfl, Or.inl rfl⟩
            · refine pm_aloadn hG dX12_reads_90 rfl ?_
              refine pm_callV (As := []) (rest := []) hG hR dX12_reads_91 (lkX12_179 _ rfl) okV_X12_hasOpen rfl rfl (m_hasOpen (d := 3) (wt := 0) (by decide) (by omega)) rfl rfl hdd (Nat.le_refl _) (Nat.le_refl _) (by decide) (pm_ki (fun v19 σ' cnt' hq => ?_))
              obtain ⟨rv19, rfl, rfl⟩ := hq
              rcases rv19 with ⟨rfl, rv19⟩ | rfl
              · refine pm_ifN_eq (tgt := 130) hG dX12_reads_94 rfl (by omega) (fun q => absurd q (by omega)) (fun _ => ?_)
                refine pm_aloadn hG dX12_reads_97 rfl ?_
                refine pm_iconst (v := nI 1) hG dX12_reads_98 (by decide) ?_
                have g20 := ri1.1
                refine pm_callV (As := [.int (nI 1)]) (rest := []) hG hR dX12_reads_99 (lkX12_176 _ rfl) okV_X12_settles rfl rfl (m_settles (d := 3) (ac := 0) (wt := 0) (by decide) (by omega) ri1.2.1 ri1.2.2.1 (by omega)) rfl rfl hdd (Nat.le_refl _) (Nat.le_refl _) (by decide) (pm_kv (fun σ' cnt' hq => ?_))
                obtain ⟨A_20, a_20, w_20, rfl, s20, rfl⟩ := hq
                have f20 := s20.2.2.1
                have r20 := RI.stl ri1 s20
                obtain ⟨y21, ey21, r21⟩ := RI.cls ri1 s20 rv19 (by omega)
                refine pm_aloadn hG dX12_reads_102 rfl ?_
                refine pm_dup hG dX12_reads_103 rfl ?_
                refine pm_getf hG dX12_reads_104 (flX12_148 _ rfl) rfl rfl ?_
                refine pm_iconst (v := nI 1) hG dX12_reads_107 (by decide) ?_
                refine pm_isubN (c := y21) hG dX12_reads_108 (by omega) ?_
                refine pm_putf hG dX12_reads_109 (fwX12_148 _ rfl) rfl rfl rfl ?_
                refine mdn_waiting ?_
                refine pm_aloadn hG dX12_reads_112 rfl ?_
                refine pm_dup hG dX12_reads_113 rfl ?_
                refine pm_getf hG dX12_reads_114 (flX12_157 _ rfl) rfl rfl ?_
                refine pm_iconst (v := nI 1) hG dX12_reads_117 (by decide) ?_
                refine pm_iaddN (c := p1 + 1) hG dX12_reads_118 (by omega) ?_
                refine pm_putf hG dX12_reads_119 (fwX12_157 _ rfl) rfl rfl rfl ?_
                refine mdn_place ?_
                refine pm_aloadn hG dX12_reads_122 rfl ?_
                refine pm_iconst (v := nI 5) hG dX12_reads_123 (by decide) ?_
                have g22 := r21.1
                refine pm_callV (As := [.int (nI 5)]) (rest := []) hG hR dX12_reads_124 (lkX12_176 _ rfl) okV_X12_settles rfl rfl (m_settles (d := 3) (ac := 0) (wt := 0) (by decide) (by omega) r21.2.1 r21.2.2.1 (by omega)) rfl rfl hdd (Nat.le_refl _) (Nat.le_refl _) (by decide) (pm_kv (fun σ' cnt' hq => ?_))
                obtain ⟨A_22, a_22, w_22, rfl, s22, rfl⟩ := hq
                have f22 := s22.2.2.1
                have r22 := RI.stl r21 s22
                refine pm_goto (tgt := 195) hG dX12_reads_127 rfl ?_
                refine pm_goto (tgt := 17) hG dX12_reads_195 rfl ?_
                refine pm_fg 2 (loc' := [some (.ref (B + 54)), some (.int (nI 0)), none, none]) rfl ?_
                exact ihR A_22 a_22 w_22 (p1 + 1) 1 0 r22 rfl (by omega)
              · refine pm_ifN_eq (tgt := 130) hG dX12_reads_94 rfl (by omega) (fun _ => ?_) (fun q => absurd q (by omega))
                refine pm_iloadn hG dX12_reads_130 rfl ?_
                refine pm_top (v := nI k5) ek5 ?_
                refine pm_callS (As := [.int (nI k5)]) (rest := []) hG hR dX12_reads_131 (lkX12_151 _ rfl) okS_X12_rankOf (m_rankOf (d := 3)) rfl rfl hdd (Nat.le_refl _) (Nat.le_refl _) (by decide) (pm_ki (fun v23 σ' cnt' hq => ?_))
                obtain ⟨rfl, rfl, rfl⟩ := hq
                have hv23 := rk_le (nI k5)
                refine pm_istoreXn (loc' := [some (.ref (B + 54)), some (.int (nI 0)), some (.int x3), some (.int (nI ((rk (nI k5)))))]) hG dX12_reads_134 (by decide) (pm_c1b rfl) rfl ?_
                refine pm_iloadn hG dX12_reads_135 rfl ?_
                refine pm_ifN_eq (tgt := 156) hG dX12_reads_136 rfl (by omega) (fun c24 => ?_) (fun c24 => ?_)
                · refine pm_iconst (v := nI 0) hG dX12_reads_156 (by decide) ?_
                  exact pm_zret hG hF dX12_reads_157 rfl (by rfl) (Nat.le_refl _) (Nat.le_refl _) ⟨_, rfl, A1, a1, w1, p1, rfl, by omega, rfl, Or.inl rfl⟩
                · refine pm_iloadn hG dX12_reads_139 rfl ?_
                  refine pm_iconst (v := nI 5) hG dX12_reads_140 (by decide) ?_
                  refine pm_icmpN_eq (tgt := 156) hG dX12_reads_141 rfl (by omega) (by omega) (fun c25 => ?_) (fun c25 => ?_)
                  · refine pm_iconst (v := nI 0) hG dX12_reads_156 (by decide) ?_
                    exact pm_zret hG hF dX12_reads_157 rfl (by rfl) (Nat.le_refl _) (Nat.le_refl _) ⟨_, rfl, A1, a1, w1, p1, rfl, by omega, rfl, Or.inl rfl⟩
                  · refine pm_iloadn hG dX12_reads_144 rfl ?_
                    refine pm_iconst (v := nI 3) hG dX12_reads_145 (by decide) ?_
                    refine pm_icmpN_ne (tgt := 158) hG dX12_reads_146 rfl (by omega) (by omega) (fun c26 => ?_) (fun c26 => ?_)
                    · refine pm_aloadn hG dX12_reads_158 rfl ?_
                      refine pm_iloadn hG dX12_reads_159 rfl ?_
                      have g27 := ri1.1
                      refine pm_callV (As := [.int (nI ((rk (nI k5))))]) (rest := []) hG hR dX12_reads_160 (lkX12_176 _ rfl) okV_X12_settles rfl rfl (m_settles (d := 3) (ac := 0) (wt := 0) (by decide) (by omega) ri1.2.1 ri1.2.2.1 (by omega)) rfl rfl hdd (Nat.le_refl _) (Nat.le_refl _) (by decide) (pm_kv (fun σ' cnt' hq => ?_))
                      obtain ⟨A_27, a_27, w_27, rfl, s27, rfl⟩ := hq
                      have f27 := s27.2.2.1
                      refine pm_aloadn hG dX12_reads_163 rfl ?_
                      refine pm_getf hG dX12_reads_164 (flX12_28 _ rfl) rfl rfl ?_
                      refine pm_aloadn hG dX12_reads_167 rfl ?_
                      refine pm_getf hG dX12_reads_168 (flX12_148 _ rfl) rfl rfl ?_
                      refine pm_iloadn hG dX12_reads_171 rfl ?_
                      refine pm_top (v := nI k5) ek5 ?_
                      refine pm_iastN hG dX12_reads_172 rfl (by decide) (by omega) ?_
                      refine mdE_waits (fun A_28 eA_28 oA_28 => ?_)
                      refine pm_aloadn hG dX12_reads_173 rfl ?_
                      refine pm_dup hG dX12_reads_174 rfl ?_
                      refine pm_getf hG dX12_reads_175 (flX12_148 _ rfl) rfl rfl ?_
                      refine pm_iconst (v := nI 1) hG dX12_reads_178 (by decide) ?_
                      refine pm_iaddN (c := w_27 + 1) hG dX12_reads_179 (by omega) ?_
                      refine pm_putf hG dX12_reads_180 (fwX12_148 _ rfl) rfl rfl rfl ?_
                      refine mdn_waiting ?_
                      refine pm_aloadn hG dX12_reads_183 rfl ?_
                      refine pm_dup hG dX12_reads_184 rfl ?_
                      refine pm_getf hG dX12_reads_185 (flX12_157 _ rfl) rfl rfl ?_
                      refine pm_iconst (v := nI 1) hG dX12_reads_188 (by decide) ?_
                      refine pm_iaddN (c := p1 + 1) hG dX12_reads_189 (by omega) ?_
                      refine pm_putf hG dX12_reads_190 (fwX12_157 _ rfl) rfl rfl rfl ?_
                      refine mdn_place ?_
                      have r29 := RI.opr ri1 s27 (show isB (nI k5) by constructor <;> omega) eA_28 (oA_28 60 (by decide)) (by omega)
                      have g29 := r29.1
                      refine pm_iconst (v := nI 1) hG dX12_reads_193 (by decide) ?_
                      refine pm_istoreXn (loc' := [some (.ref (B + 54)), some (.int (nI 1)), some (.int x3), some (.int (nI ((rk (nI k5)))))]) hG dX12_reads_194 (by decide) (pm_c1b rfl) rfl ?_
                      refine pm_goto (tgt := 17) hG dX12_reads_195 rfl ?_
                      refine pm_fg 2 (loc' := [some (.ref (B + 54)), some (.int (nI 1)), none, some (.int (nI ((rk (nI k5)))))]) rfl ?_
                      refine pm_fg 3 (loc' := [some (.ref (B + 54)), some (.int (nI 1)), none, none]) rfl ?_
                      exact ihR A_28 a_27 (w_27 + 1) (p1 + 1) 0 1 r29 rfl (by omega)
                    · refine pm_aloadn hG dX12_reads_149 rfl ?_
                      refine pm_callV (As := []) (rest := []) hG hR dX12_reads_150 (lkX12_183 _ rfl) okV_X12_isTested rfl rfl (m_isTested (d := 3) (wt := 0) (by decide) (by omega)) rfl rfl hdd (Nat.le_refl _) (Nat.le_refl _) (by decide) (pm_ki (fun v30 σ' cnt' hq => ?_))
                      obtain ⟨rv30, rfl, rfl⟩ := hq
                      refine pm_if_eq (tgt := 158) hG dX12_reads_153 rfl (fun c31 => ?_) (fun c31 => ?_)
                      · refine pm_aloadn hG dX12_reads_158 rfl ?_
                        refine pm_iloadn hG dX12_reads_159 rfl ?_
                        have g32 := ri1.1
                        refine pm_callV (As := [.int (nI ((rk (nI k5))))]) (rest := []) hG hR dX12_reads_160 (lkX12_176 _ rfl) okV_X12_settles rfl rfl (m_settles (d := 3) (ac := 0) (wt := 0) (by decide) (by omega) ri1.2.1 ri1.2.2.1 (by omega)) rfl rfl hdd (Nat.le_refl _) (Nat.le_refl _) (by decide) (pm_kv (fun σ' cnt' hq => ?_))
                        obtain ⟨A_32, a_32, w_32, rfl, s32, rfl⟩ := hq
                        have f32 := s32.2.2.1
                        refine pm_aloadn hG dX12_reads_163 rfl ?_
                        refine pm_getf hG dX12_reads_164 (flX12_28 _ rfl) rfl rfl ?_
                        refine pm_aloadn hG dX12_reads_167 rfl ?_
                        refine pm_getf hG dX12_reads_168 (flX12_148 _ rfl) rfl rfl ?_
                        refine pm_iloadn hG dX12_reads_171 rfl ?_
                        refine pm_top (v := nI k5) ek5 ?_
                        refine pm_iastN hG dX12_reads_172 rfl (by decide) (by omega) ?_
                        refine mdE_waits (fun A_33 eA_33 oA_33 => ?_)
                        refine pm_aloadn hG dX12_reads_173 rfl ?_
                        refine pm_dup hG dX12_reads_174 rfl ?_
                        refine pm_getf hG dX12_reads_175 (flX12_148 _ rfl) rfl rfl ?_
                        refine pm_iconst (v := nI 1) hG dX12_reads_178 (by decide) ?_
                        refine pm_iaddN (c := w_32 + 1) hG dX12_reads_179 (by omega) ?_
                        refine pm_putf hG dX12_reads_180 (fwX12_148 _ rfl) rfl rfl rfl ?_
                        refine mdn_waiting ?_
                        refine pm_aloadn hG dX12_reads_183 rfl ?_
                        refine pm_dup hG dX12_reads_184 rfl ?_
                        refine pm_getf hG dX12_reads_185 (flX12_157 _ rfl) rfl rfl ?_
                        refine pm_iconst (v := nI 1) hG dX12_reads_188 (by decide) ?_
                        refine pm_iaddN (c := p1 + 1) hG dX12_reads_189 (by omega) ?_
                        refine pm_putf hG dX12_reads_190 (fwX12_157 _ rfl) rfl rfl rfl ?_
                        refine mdn_place ?_
                        have r34 := RI.opr ri1 s32 (show isB (nI k5) by constructor <;> omega) eA_33 (oA_33 60 (by decide)) (by omega)
                        have g34 := r34.1
                        refine pm_iconst (v := nI 1) hG dX12_reads_193 (by decide) ?_
                        refine pm_istoreXn (loc' := [some (.ref (B + 54)), some (.int (nI 1)), some (.int x3), some (.int (nI ((rk (nI k5)))))]) hG dX12_reads_194 (by decide) (pm_c1b rfl) rfl ?_
                        refine pm_goto (tgt := 17) hG dX12_reads_195 rfl ?_
                        refine pm_fg 2 (loc' := [some (.ref (B + 54)), some (.int (nI 1)), none, some (.int (nI ((rk (nI k5)))))]) rfl ?_
                        refine pm_fg 3 (loc' := [some (.ref (B + 54)), some (.int (nI 1)), none, none]) rfl ?_
                        exact ihR A_33 a_32 (w_32 + 1) (p1 + 1) 0 1 r34 rfl (by omega)
                      · refine pm_iconst (v := nI 0) hG dX12_reads_156 (by decide) ?_
                        exact pm_zret hG hF dX12_reads_157 rfl (by rfl) (Nat.le_refl _) (Nat.le_refl _) ⟨_, rfl, A1, a1, w1, p1, rfl, by omega, rfl, Or.inl rfl⟩
          · refine pm_aloadn hG dX12_reads_68 rfl ?_
            refine pm_callV (As := []) (rest := []) hG hR dX12_reads_69 (lkX12_179 _ rfl) okV_X12_hasOpen rfl rfl (m_hasOpen (d := 3) (wt := 0) (by decide) (by omega)) rfl rfl hdd (Nat.le_refl _) (Nat.le_refl _) (by decide) (pm_ki (fun v35 σ' cnt' hq => ?_))
            obtain ⟨rv35, rfl, rfl⟩ := hq
            rcases rv35 with ⟨rfl, rv35⟩ | rfl
            · refine pm_ifN_eq (tgt := 77) hG dX12_reads_72 rfl (by omega) (fun q => absurd q (by omega)) (fun _ => ?_)
              refine pm_iconst (v := nI 0) hG dX12_reads_75 (by decide) ?_
              exact pm_zret hG hF dX12_reads_76 rfl (by rfl) (Nat.le_refl _) (Nat.le_refl _) ⟨_, rfl, A1, a1, w1, p1, rfl, by omega, rfl, Or.inl rfl⟩
            · refine pm_ifN_eq (tgt := 77) hG dX12_reads_72 rfl (by omega) (fun _ => ?_) (fun q => absurd q (by omega))
              refine pm_aloadn hG dX12_reads_77 rfl ?_
              refine pm_iconst (v := nI 1) hG dX12_reads_78 (by decide) ?_
              have g36 := ri1.1
              refine pm_callV (As := [.int (nI 1)]) (rest := []) hG hR dX12_reads_79 (lkX12_176 _ rfl) okV_X12_settles rfl rfl (m_settles (d := 3) (ac := 0) (wt := 0) (by decide) (by omega) ri1.2.1 ri1.2.2.1 (by omega)) rfl rfl hdd (Nat.le_refl _) (Nat.le_refl _) (by decide) (pm_kv (fun σ' cnt' hq => ?_))
              obtain ⟨A_36, a_36, w_36, rfl, s36, rfl⟩ := hq
              have f36 := s36.2.2.1
              have r36 := RI.stl ri1 s36
              refine pm_iconst (v := nI 1) hG dX12_reads_82 (by decide) ?_
              exact pm_zret hG hF dX12_reads_83 rfl (by rfl) (Nat.le_refl _) (Nat.le_refl _) ⟨_, rfl, A_36, a_36, w_36, p1, rfl, by omega, rfl, Or.inr ⟨rfl, _, r36.2.2.1⟩⟩
        · refine pm_callV (As := [.int (nI p1)]) (rest := []) hG hR dX12_reads_22 (lkX12_160 _ rfl) okV_X12_byteAt rfl rfl (m_byteAt0 (d := 3) hT (by omega) (by omega) (by omega)) rfl rfl hdd (Nat.le_refl _) (Nat.le_refl _) (by decide) (pm_ki (fun v37 σ' cnt' hq => ?_))
          obtain ⟨rfl, rfl, rfl⟩ := hq
          refine pm_istoreXn (loc' := [some (.ref (B + 54)), some (.int (nI 0)), some (.int (-1)), none]) hG dX12_reads_25 (by decide) (pm_c1b rfl) rfl ?_
          refine pm_iloadn hG dX12_reads_26 rfl ?_
          refine pm_ifN_eq (tgt := 64) hG dX12_reads_27 rfl (by omega) (fun _ => ?_) (fun q => absurd q (by omega))
          refine pm_iloadn hG dX12_reads_64 rfl ?_
          refine pm_if_ge (tgt := 84) hG dX12_reads_65 rfl (fun q => absurd q (by decide)) (fun _ => ?_)
          refine pm_aloadn hG dX12_reads_68 rfl ?_
          refine pm_callV (As := []) (rest := []) hG hR dX12_reads_69 (lkX12_179 _ rfl) okV_X12_hasOpen rfl rfl (m_hasOpen (d := 3) (wt := 0) (by decide) (by omega)) rfl rfl hdd (Nat.le_refl _) (Nat.le_refl _) (by decide) (pm_ki (fun v38 σ' cnt' hq => ?_))
          obtain ⟨rv38, rfl, rfl⟩ := hq
          rcases rv38 with ⟨rfl, rv38⟩ | rfl
          · refine pm_ifN_eq (tgt := 77) hG dX12_reads_72 rfl (by omega) (fun q => absurd q (by omega)) (fun _ => ?_)
            refine pm_iconst (v := nI 0) hG dX12_reads_75 (by decide) ?_
            exact pm_zret hG hF dX12_reads_76 rfl (by rfl) (Nat.le_refl _) (Nat.le_refl _) ⟨_, rfl, A1, a1, w1, p1, rfl, by omega, rfl, Or.inl rfl⟩
          · refine pm_ifN_eq (tgt := 77) hG dX12_reads_72 rfl (by omega) (fun _ => ?_) (fun q => absurd q (by omega))
            refine pm_aloadn hG dX12_reads_77 rfl ?_
            refine pm_iconst (v := nI 1) hG dX12_reads_78 (by decide) ?_
            have g39 := ri1.1
            refine pm_callV (As := [.int (nI 1)]) (rest := []) hG hR dX12_reads_79 (lkX12_176 _ rfl) okV_X12_settles rfl rfl (m_settles (d := 3) (ac := 0) (wt := 0) (by decide) (by omega) ri1.2.1 ri1.2.2.1 (by omega)) rfl rfl hdd (Nat.le_refl _) (Nat.le_refl _) (by decide) (pm_kv (fun σ' cnt' hq => ?_))
            obtain ⟨A_39, a_39, w_39, rfl, s39, rfl⟩ := hq
            have f39 := s39.2.2.1
            have r39 := RI.stl ri1 s39
            refine pm_iconst (v := nI 1) hG dX12_reads_82 (by decide) ?_
            exact pm_zret hG hF dX12_reads_83 rfl (by rfl) (Nat.le_refl _) (Nat.le_refl _) ⟨_, rfl, A_39, a_39, w_39, p1, rfl, by omega, rfl, Or.inr ⟨rfl, _, r39.2.2.1⟩⟩
      · refine pm_aloadn hG dX12_reads_17 rfl ?_
        refine pm_aloadn hG dX12_reads_18 rfl ?_
        refine pm_getf hG dX12_reads_19 (flX12_157 _ rfl) rfl rfl ?_
        rcases Nat.lt_or_ge p1 T with c40 | c40
        · refine pm_callV (As := [.int (nI p1)]) (rest := []) hG hR dX12_reads_22 (lkX12_160 _ rfl) okV_X12_byteAt rfl rfl (m_byteAt1 (d := 3) hT (by omega) (by omega) (by omega)) rfl rfl hdd (Nat.le_refl _) (Nat.le_refl _) (by decide) (pm_ki (fun v41 σ' cnt' hq => ?_))
          obtain ⟨rfl, rfl, rfl⟩ := hq
          refine pm_gen (fun x42 ex42 => ?_)
          refine pm_istoreXn (loc' := [some (.ref (B + 54)), some (.int (nI 1)), some (.int x42), none]) hG dX12_reads_25 (by decide) (pm_c1b rfl) rfl ?_
          refine pm_iloadn hG dX12_reads_26 rfl ?_
          refine pm_ifN_eq (tgt := 64) hG dX12_reads_27 rfl (by omega) (fun q => absurd q (by omega)) (fun _ => ?_)
          refine pm_aloadn hG dX12_reads_30 rfl ?_
          refine pm_callV (As := []) (rest := []) hG hR dX12_reads_31 (lkX12_173 _ rfl) okV_X12_readsOne rfl rfl (m_readsOne (d := 3) (ac := 0) (wt := 0) (pl := 0) (by decide) hn hT ri1) rfl rfl hdd (Nat.le_refl _) (Nat.le_refl _) (by decide) (pm_ki (fun v43 σ' cnt' hq => ?_))
          obtain ⟨A_44, a_44, w_44, p_44, rfl, b_44, rfl, hq⟩ := hq
          rcases hq with rfl | ⟨rfl, r44, l44⟩ | ⟨rfl, r44, l44⟩
          · refine pm_istoreXn (loc' := [some (.ref (B + 54)), some (.int (nI 1)), some (.int x42), some (.int (nI 0))]) hG dX12_reads_34 (by decide) (pm_c1b rfl) rfl ?_
            refine pm_iloadn hG dX12_reads_35 rfl ?_
            refine pm_ifN_ne (tgt := 41) hG dX12_reads_36 rfl (by omega) (fun q => absurd q (by omega)) (fun _ => ?_)
            refine pm_iconst (v := nI 0) hG dX12_reads_39 (by decide) ?_
            exact pm_zret hG hF dX12_reads_40 rfl (by rfl) (Nat.le_refl _) (Nat.le_refl _) ⟨_, rfl, A_44, a_44, w_44, p_44, rfl, by omega, rfl, Or.inl rfl⟩
          · have g44 := r44.1
            refine pm_istoreXn (loc' := [some (.ref (B + 54)), some (.int (nI 1)), some (.int x42), some (.int (nI 1))]) hG dX12_reads_34 (by decide) (pm_c1b rfl) rfl ?_
            refine pm_iloadn hG dX12_reads_35 rfl ?_
            refine pm_ifN_ne (tgt := 41) hG dX12_reads_36 rfl (by omega) (fun _ => ?_) (fun q => absurd q (by omega))
            refine pm_iloadn hG dX12_reads_41 rfl ?_
            refine pm_iconst (v := nI 2) hG dX12_reads_42 (by decide) ?_
            refine pm_icmpN_ne (tgt := 50) hG dX12_reads_43 rfl (by omega) (by omega) (fun _ => ?_) (fun q => absurd q (by omega))
            refine pm_iconst (v := nI 0) hG dX12_reads_50 (by decide) ?_
            refine pm_istoreXn (loc' := [some (.ref (B + 54)), some (.int (nI 0)), some (.int x42), some (.int (nI 1))]) hG dX12_reads_51 (by decide) (pm_c1b rfl) rfl ?_
            refine pm_iloadn hG dX12_reads_52 rfl ?_
            refine pm_ifN_ne (tgt := 61) hG dX12_reads_53 rfl (by omega) (fun q => absurd q (by omega)) (fun _ => ?_)
            refine pm_aloadn hG dX12_reads_56 rfl ?_
            refine pm_iconst (v := nI 5) hG dX12_reads_57 (by decide) ?_
            have g45 := r44.1
            refine pm_callV (As := [.int (nI 5)]) (rest := []) hG hR dX12_reads_58 (lkX12_176 _ rfl) okV_X12_settles rfl rfl (m_settles (d := 3) (ac := 0) (wt := 0) (by decide) (by omega) r44.2.1 r44.2.2.1 (by omega)) rfl rfl hdd (Nat.le_refl _) (Nat.le_refl _) (by decide) (pm_kv (fun σ' cnt' hq => ?_))
            obtain ⟨A_45, a_45, w_45, rfl, s45, rfl⟩ := hq
            have f45 := s45.2.2.1
            have r45 := RI.stl r44 s45
            refine pm_goto (tgt := 195) hG dX12_reads_61 rfl ?_
            refine pm_goto (tgt := 17) hG dX12_reads_195 rfl ?_
            refine pm_fg 2 (loc' := [some (.ref (B + 54)), some (.int (nI 0)), none, some (.int (nI 1))]) rfl ?_
            refine pm_fg 3 (loc' := [some (.ref (B + 54)), some (.int (nI 0)), none, none]) rfl ?_
            exact ihR A_45 a_45 w_45 p_44 1 0 r45 rfl (by omega)
          · have g44 := r44.1
            refine pm_istoreXn (loc' := [some (.ref (B + 54)), some (.int (nI 1)), some (.int x42), some (.int (nI 2))]) hG dX12_reads_34 (by decide) (pm_c1b rfl) rfl ?_
            refine pm_iloadn hG dX12_reads_35 rfl ?_
            refine pm_ifN_ne (tgt := 41) hG dX12_reads_36 rfl (by omega) (fun _ => ?_) (fun q => absurd q (by omega))
            refine pm_iloadn hG dX12_reads_41 rfl ?_
            refine pm_iconst (v := nI 2) hG dX12_reads_42 (by decide) ?_
            refine pm_icmpN_ne (tgt := 50) hG dX12_reads_43 rfl (by omega) (by omega) (fun q => absurd q (by omega)) (fun _ => ?_)
            refine pm_iconst (v := nI 1) hG dX12_reads_46 (by decide) ?_
            refine pm_goto (tgt := 51) hG dX12_reads_47 rfl ?_
            refine pm_istoreXn (loc' := [some (.ref (B + 54)), some (.int (nI 1)), some (.int x42), some (.int (nI 2))]) hG dX12_reads_51 (by decide) (pm_c1b rfl) rfl ?_
            refine pm_iloadn hG dX12_reads_52 rfl ?_
            refine pm_ifN_ne (tgt := 61) hG dX12_reads_53 rfl (by omega) (fun _ => ?_) (fun q => absurd q (by omega))
            refine pm_goto (tgt := 195) hG dX12_reads_61 rfl ?_
            refine pm_goto (tgt := 17) hG dX12_reads_195 rfl ?_
            refine pm_fg 2 (loc' := [some (.ref (B + 54)), some (.int (nI 1)), none, some (.int (nI 2))]) rfl ?_
            refine pm_fg 3 (loc' := [some (.ref (B + 54)), some (.int (nI 1)), none, none]) rfl ?_
            exact ihR A_44 a_44 w_44 p_44 0 1 r44 rfl (by omega)
        · refine pm_callV (As := [.int (nI p1)]) (rest := []) hG hR dX12_reads_22 (lkX12_160 _ rfl) okV_X12_byteAt rfl rfl (m_byteAt0 (d := 3) hT (by omega) (by omega) (by omega)) rfl rfl hdd (Nat.le_refl _) (Nat.le_refl _) (by decide) (pm_ki (fun v46 σ' cnt' hq => ?_))
          obtain ⟨rfl, rfl, rfl⟩ := hq
          refine pm_istoreXn (loc' := [some (.ref (B + 54)), some (.int (nI 1)), some (.int (-1)), none]) hG dX12_reads_25 (by decide) (pm_c1b rfl) rfl ?_
          refine pm_iloadn hG dX12_reads_26 rfl ?_
          refine pm_ifN_eq (tgt := 64) hG dX12_reads_27 rfl (by omega) (fun q => absurd q (by omega)) (fun _ => ?_)
          refine pm_aloadn hG dX12_reads_30 rfl ?_
          refine pm_callV (As := []) (rest := []) hG hR dX12_reads_31 (lkX12_173 _ rfl) okV_X12_readsOne rfl rfl (m_readsOne (d := 3) (ac := 0) (wt := 0) (pl := 0) (by decide) hn hT ri1) rfl rfl hdd (Nat.le_refl _) (Nat.le_refl _) (by decide) (pm_ki (fun v47 σ' cnt' hq => ?_))
          obtain ⟨A_48, a_48, w_48, p_48, rfl, b_48, rfl, hq⟩ := hq
          rcases hq with rfl | ⟨rfl, r48, l48⟩ | ⟨rfl, r48, l48⟩
          · refine pm_istoreXn (loc' := [some (.ref (B + 54)), some (.int (nI 1)), some (.int (-1)), some (.int (nI 0))]) hG dX12_reads_34 (by decide) (pm_c1b rfl) rfl ?_
            refine pm_iloadn hG dX12_reads_35 rfl ?_
            refine pm_ifN_ne (tgt := 41) hG dX12_reads_36 rfl (by omega) (fun q => absurd q (by omega)) (fun _ => ?_)
            refine pm_iconst (v := nI 0) hG dX12_reads_39 (by decide) ?_
            exact pm_zret hG hF dX12_reads_40 rfl (by rfl) (Nat.le_refl _) (Nat.le_refl _) ⟨_, rfl, A_48, a_48, w_48, p_48, rfl, by omega, rfl, Or.inl rfl⟩
          · have g48 := r48.1
            refine pm_istoreXn (loc' := [some (.ref (B + 54)), some (.int (nI 1)), some (.int (-1)), some (.int (nI 1))]) hG dX12_reads_34 (by decide) (pm_c1b rfl) rfl ?_
            refine pm_iloadn hG dX12_reads_35 rfl ?_
            refine pm_ifN_ne (tgt := 41) hG dX12_reads_36 rfl (by omega) (fun _ => ?_) (fun q => absurd q (by omega))
            refine pm_iloadn hG dX12_reads_41 rfl ?_
            refine pm_iconst (v := nI 2) hG dX12_reads_42 (by decide) ?_
            refine pm_icmpN_ne (tgt := 50) hG dX12_reads_43 rfl (by omega) (by omega) (fun _ => ?_) (fun q => absurd q (by omega))
            refine pm_iconst (v := nI 0) hG dX12_reads_50 (by decide) ?_
            refine pm_istoreXn (loc' := [some (.ref (B + 54)), some (.int (nI 0)), some (.int (-1)), some (.int (nI 1))]) hG dX12_reads_51 (by decide) (pm_c1b rfl) rfl ?_
            refine pm_iloadn hG dX12_reads_52 rfl ?_
            refine pm_ifN_ne (tgt := 61) hG dX12_reads_53 rfl (by omega) (fun q => absurd q (by omega)) (fun _ => ?_)
            refine pm_aloadn hG dX12_reads_56 rfl ?_
            refine pm_iconst (v := nI 5) hG dX12_reads_57 (by decide) ?_
            have g49 := r48.1
            refine pm_callV (As := [.int (nI 5)]) (rest := []) hG hR dX12_reads_58 (lkX12_176 _ rfl) okV_X12_settles rfl rfl (m_settles (d := 3) (ac := 0) (wt := 0) (by decide) (by omega) r48.2.1 r48.2.2.1 (by omega)) rfl rfl hdd (Nat.le_refl _) (Nat.le_refl _) (by decide) (pm_kv (fun σ' cnt' hq => ?_))
            obtain ⟨A_49, a_49, w_49, rfl, s49, rfl⟩ := hq
            have f49 := s49.2.2.1
            have r49 := RI.stl r48 s49
            refine pm_goto (tgt := 195) hG dX12_reads_61 rfl ?_
            refine pm_goto (tgt := 17) hG dX12_reads_195 rfl ?_
            refine pm_fg 2 (loc' := [some (.ref (B + 54)), some (.int (nI 0)), none, some (.int (nI 1))]) rfl ?_
            refine pm_fg 3 (loc' := [some (.ref (B + 54)), some (.int (nI 0)), none, none]) rfl ?_
            exact ihR A_49 a_49 w_49 p_48 1 0 r49 rfl (by omega)
          · have g48 := r48.1
            refine pm_istoreXn (loc' := [some (.ref (B + 54)), some (.int (nI 1)), some (.int (-1)), some (.int (nI 2))]) hG dX12_reads_34 (by decide) (pm_c1b rfl) rfl ?_
            refine pm_iloadn hG dX12_reads_35 rfl ?_
            refine pm_ifN_ne (tgt := 41) hG dX12_reads_36 rfl (by omega) (fun _ => ?_) (fun q => absurd q (by omega))
            refine pm_iloadn hG dX12_reads_41 rfl ?_
            refine pm_iconst (v := nI 2) hG dX12_reads_42 (by decide) ?_
            refine pm_icmpN_ne (tgt := 50) hG dX12_reads_43 rfl (by omega) (by omega) (fun q => absurd q (by omega)) (fun _ => ?_)
            refine pm_iconst (v := nI 1) hG dX12_reads_46 (by decide) ?_
            refine pm_goto (tgt := 51) hG dX12_reads_47 rfl ?_
            refine pm_istoreXn (loc' := [some (.ref (B + 54)), some (.int (nI 1)), some (.int (-1)), some (.int (nI 2))]) hG dX12_reads_51 (by decide) (pm_c1b rfl) rfl ?_
            refine pm_iloadn hG dX12_reads_52 rfl ?_
            refine pm_ifN_ne (tgt := 61) hG dX12_reads_53 rfl (by omega) (fun _ => ?_) (fun q => absurd q (by omega))
            refine pm_goto (tgt := 195) hG dX12_reads_61 rfl ?_
            refine pm_goto (tgt := 17) hG dX12_reads_195 rfl ?_
            refine pm_fg 2 (loc' := [some (.ref (B + 54)), some (.int (nI 1)), none, some (.int (nI 2))]) rfl ?_
            refine pm_fg 3 (loc' := [some (.ref (B + 54)), some (.int (nI 1)), none, none]) rfl ?_
            exact ihR A_48 a_48 w_48 p_48 0 1 r48 rfl (by omega)
  exact loopR _ A 0 0 0 0 1 (RI.zero hT2) rfl (Nat.lt_succ_self _)
