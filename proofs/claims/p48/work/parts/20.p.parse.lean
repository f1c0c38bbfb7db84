set_option maxRecDepth 100000 in
theorem m_rankOf {d B cnt : Nat} {σ : pm_S} {x : Int32} : pm_met mX12_rankOf d 0 0 B [.int x] cnt σ (pm_Qi (fun v σ' cnt' => v = nI (rk x) ∧ σ' = σ ∧ cnt' = cnt)) := by
  refine pm_enter 0 (by decide) (Nat.le_of_ble_eq_true rfl) rfl (fun G hG hR hF => ?_)
  refine pm_iloadn hG dX12_rankOf_0 rfl ?_
  refine pm_bipush (v := 124) hG dX12_rankOf_1 (by decide) ?_
  refine pm_icmp_ne (tgt := 10) hG dX12_rankOf_3 rfl (fun c1 => ?_) (fun c1 => ?_)
  · refine pm_iloadn hG dX12_rankOf_10 rfl ?_
    refine pm_bipush (v := 38) hG dX12_rankOf_11 (by decide) ?_
    refine pm_icmp_ne (tgt := 20) hG dX12_rankOf_13 rfl (fun c2 => ?_) (fun c2 => ?_)
    · refine pm_iloadn hG dX12_rankOf_20 rfl ?_
      refine pm_bipush (v := 60) hG dX12_rankOf_21 (by decide) ?_
      refine pm_icmp_eq (tgt := 38) hG dX12_rankOf_23 rfl (fun c3 => ?_) (fun c3 => ?_)
      · refine pm_iconst (v := 3) hG dX12_rankOf_38 (by decide) ?_
        refine pm_goto (tgt := 69) hG dX12_rankOf_39 rfl ?_
        exact pm_iret hG hF dX12_rankOf_69 rfl (by decide) (by decide) ⟨_, rfl, by have hr : rk x = 3 := (by simp [rk, c1, c2, c3]); rw [hr]; rfl, rfl, rfl⟩
      · refine pm_iloadn hG dX12_rankOf_26 rfl ?_
        refine pm_bipush (v := 61) hG dX12_rankOf_27 (by decide) ?_
        refine pm_icmp_eq (tgt := 38) hG dX12_rankOf_29 rfl (fun c4 => ?_) (fun c4 => ?_)
        · refine pm_iconst (v := 3) hG dX12_rankOf_38 (by decide) ?_
          refine pm_goto (tgt := 69) hG dX12_rankOf_39 rfl ?_
          exact pm_iret hG hF dX12_rankOf_69 rfl (by decide) (by decide) ⟨_, rfl, by have hr : rk x = 3 := (by simp [rk, c1, c2, c3, c4]); rw [hr]; rfl, rfl, rfl⟩
        · refine pm_iloadn hG dX12_rankOf_32 rfl ?_
          refine pm_bipush (v := 62) hG dX12_rankOf_33 (by decide) ?_
          refine pm_icmp_ne (tgt := 42) hG dX12_rankOf_35 rfl (fun c5 => ?_) (fun c5 => ?_)
          · refine pm_iloadn hG dX12_rankOf_42 rfl ?_
            refine pm_bipush (v := 43) hG dX12_rankOf_43 (by decide) ?_
            refine pm_icmp_eq (tgt := 54) hG dX12_rankOf_45 rfl (fun c6 => ?_) (fun c6 => ?_)
            · refine pm_iconst (v := 4) hG dX12_rankOf_54 (by decide) ?_
              refine pm_goto (tgt := 69) hG dX12_rankOf_55 rfl ?_
              exact pm_iret hG hF dX12_rankOf_69 rfl (by decide) (by decide) ⟨_, rfl, by have hr : rk x = 4 := (by simp [rk, c1, c2, c3, c4, c5, c6]); rw [hr]; rfl, rfl, rfl⟩
            · refine pm_iloadn hG dX12_rankOf_48 rfl ?_
              refine pm_bipush (v := 45) hG dX12_rankOf_49 (by decide) ?_
              refine pm_icmp_ne (tgt := 58) hG dX12_rankOf_51 rfl (fun c7 => ?_) (fun c7 => ?_)
              · refine pm_iloadn hG dX12_rankOf_58 rfl ?_
                refine pm_bipush (v := 33) hG dX12_rankOf_59 (by decide) ?_
                refine pm_icmp_ne (tgt := 68) hG dX12_rankOf_61 rfl (fun c8 => ?_) (fun c8 => ?_)
                · refine pm_iconst (v := 0) hG dX12_rankOf_68 (by decide) ?_
                  exact pm_iret hG hF dX12_rankOf_69 rfl (by decide) (by decide) ⟨_, rfl, by have hr : rk x = 0 := (by simp [rk, c1, c2, c3, c4, c5, c6, c7, c8]); rw [hr]; rfl, rfl, rfl⟩
                · refine pm_iconst (v := 5) hG dX12_rankOf_64 (by decide) ?_
                  refine pm_goto (tgt := 69) hG dX12_rankOf_65 rfl ?_
                  exact pm_iret hG hF dX12_rankOf_69 rfl (by decide) (by decide) ⟨_, rfl, by have hr : rk x = 5 := (by simp [rk, c1, c2, c3, c4, c5, c6, c7, c8]); rw [hr]; rfl, rfl, rfl⟩
              · refine pm_iconst (v := 4) hG dX12_rankOf_54 (by decide) ?_
                refine pm_goto (tgt := 69) hG dX12_rankOf_55 rfl ?_
                exact pm_iret hG hF dX12_rankOf_69 rfl (by decide) (by decide) ⟨_, rfl, by have hr : rk x = 4 := (by simp [rk, c1, c2, c3, c4, c5, c6, c7]); rw [hr]; rfl, rfl, rfl⟩
          · refine pm_iconst (v := 3) hG dX12_rankOf_38 (by decide) ?_
            refine pm_goto (tgt := 69) hG dX12_rankOf_39 rfl ?_
            exact pm_iret hG hF dX12_rankOf_69 rfl (by decide) (by decide) ⟨_, rfl, by have hr : rk x = 3 := (by simp [rk, c1, c2, c3, c4, c5]); rw [hr]; rfl, rfl, rfl⟩
    · refine pm_iconst (v := 2) hG dX12_rankOf_16 (by decide) ?_
      refine pm_goto (tgt := 69) hG dX12_rankOf_17 rfl ?_
      exact pm_iret hG hF dX12_rankOf_69 rfl (by decide) (by decide) ⟨_, rfl, by have hr : rk x = 2 := (by simp [rk, c1, c2]); rw [hr]; rfl, rfl, rfl⟩
  · refine pm_iconst (v := 1) hG dX12_rankOf_6 (by decide) ?_
    refine pm_goto (tgt := 69) hG dX12_rankOf_7 rfl ?_
    exact pm_iret hG hF dX12_rankOf_69 rfl (by decide) (by decide) ⟨_, rfl, by have hr : rk x = 1 := (by simp [rk, c1]); rw [hr]; rfl, rfl, rfl⟩

set_option maxRecDepth 100000 in
theorem m_isDigit {d B cnt : Nat} {σ : pm_S} {x : Int32} : pm_met mX12_isDigit d 0 0 B [.int x] cnt σ (pm_Qi (fun v σ' cnt' => ((v = nI 1 ∧ ¬ x < nI 48 ∧ ¬ nI 57 < x) ∨ (v = nI 0 ∧ (x < nI 48 ∨ nI 57 < x))) ∧ σ' = σ ∧ cnt' = cnt)) := by
  refine pm_enter 0 (by decide) (Nat.le_of_ble_eq_true rfl) rfl (fun G hG hR hF => ?_)
  refine pm_iloadn hG dX12_isDigit_0 rfl ?_
  refine pm_bipush (v := 48) hG dX12_isDigit_1 (by decide) ?_
  refine pm_icmp_lt (tgt := 16) hG dX12_isDigit_3 rfl (fun c1 => ?_) (fun c1 => ?_)
  · refine pm_iconst (v := 0) hG dX12_isDigit_16 (by decide) ?_
    exact pm_zret hG hF dX12_isDigit_17 rfl (by rfl) (by decide) (by decide) ⟨_, rfl, Or.inr ⟨rfl, Or.inl c1⟩, rfl, rfl⟩
  · refine pm_iloadn hG dX12_isDigit_6 rfl ?_
    refine pm_bipush (v := 57) hG dX12_isDigit_7 (by decide) ?_
    refine pm_icmp_gt (tgt := 16) hG dX12_isDigit_9 rfl (fun c2 => ?_) (fun c2 => ?_)
    · refine pm_iconst (v := 0) hG dX12_isDigit_16 (by decide) ?_
      exact pm_zret hG hF dX12_isDigit_17 rfl (by rfl) (by decide) (by decide) ⟨_, rfl, Or.inr ⟨rfl, Or.inr c2⟩, rfl, rfl⟩
    · refine pm_iconst (v := 1) hG dX12_isDigit_12 (by decide) ?_
      refine pm_goto (tgt := 17) hG dX12_isDigit_13 rfl ?_
      exact pm_zret hG hF dX12_isDigit_17 rfl (by rfl) (by decide) (by decide) ⟨_, rfl, Or.inl ⟨rfl, c1, c2⟩, rfl, rfl⟩

set_option maxRecDepth 100000 in
theorem m_nameOf {d B cnt : Nat} {σ : pm_S} {x : Int32} : pm_met mX12_nameOf d 0 0 B [.int x] cnt σ (pm_Qi (fun v σ' cnt' => v = nI (nmB x) ∧ σ' = σ ∧ cnt' = cnt)) := by
  refine pm_enter 0 (by decide) (Nat.le_of_ble_eq_true rfl) rfl (fun G hG hR hF => ?_)
  refine pm_iloadn hG dX12_nameOf_0 rfl ?_
  by_cases c1 : x = nI 97
  · refine pm_top (v := nI 97) c1 ?_
    refine pm_tswIn (tgt := 116) hG dX12_nameOf_1 (by decide) (by decide) rfl rfl ?_
    refine pm_iconst (v := nI 1) hG dX12_nameOf_116 (by decide) ?_
    exact pm_iret hG hF dX12_nameOf_117 rfl (Nat.le_refl _) (Nat.le_refl _) ⟨_, rfl, by rw [c1]; decide, rfl, rfl⟩
  by_cases c2 : x = nI 98
  · refine pm_top (v := nI 98) c2 ?_
    refine pm_tswIn (tgt := 129) hG dX12_nameOf_1 (by decide) (by decide) rfl rfl ?_
    refine pm_bipush (v := nI 7) hG dX12_nameOf_129 (by decide) ?_
    exact pm_iret hG hF dX12_nameOf_131 rfl (Nat.le_refl _) (Nat.le_refl _) ⟨_, rfl, by rw [c2]; decide, rfl, rfl⟩
  by_cases c3 : x = nI 99
  · refine pm_top (v := nI 99) c3 ?_
    refine pm_tswIn (tgt := 122) hG dX12_nameOf_1 (by decide) (by decide) rfl rfl ?_
    refine pm_iconst (v := nI 4) hG dX12_nameOf_122 (by decide) ?_
    exact pm_iret hG hF dX12_nameOf_123 rfl (Nat.le_refl _) (Nat.le_refl _) ⟨_, rfl, by rw [c3]; decide, rfl, rfl⟩
  by_cases c4 : x = nI 100
  · refine pm_top (v := nI 100) c4 ?_
    refine pm_tswIn (tgt := 141) hG dX12_nameOf_1 (by decide) (by decide) rfl rfl ?_
    refine pm_iloadn hG dX12_nameOf_141 rfl ?_
    refine pm_top (v := nI 100) c4 ?_
    refine pm_bipush (v := nI 100) hG dX12_nameOf_142 (by decide) ?_
    refine pm_icmpN_ne (tgt := 152) hG dX12_nameOf_144 rfl (by omega) (by omega) (fun q => absurd q (by omega)) (fun _ => ?_)
    refine pm_bipush (v := nI 11) hG dX12_nameOf_147 (by decide) ?_
    refine pm_goto (tgt := 153) hG dX12_nameOf_149 rfl ?_
    exact pm_iret hG hF dX12_nameOf_153 rfl (Nat.le_refl _) (Nat.le_refl _) ⟨_, rfl, by rw [c4]; decide, rfl, rfl⟩
  by_cases c5 : x = nI 101
  · refine pm_top (v := nI 101) c5 ?_
    refine pm_tswIn (tgt := 141) hG dX12_nameOf_1 (by decide) (by decide) rfl rfl ?_
    refine pm_iloadn hG dX12_nameOf_141 rfl ?_
    refine pm_top (v := nI 101) c5 ?_
    refine pm_bipush (v := nI 100) hG dX12_nameOf_142 (by decide) ?_
    refine pm_icmpN_ne (tgt := 152) hG dX12_nameOf_144 rfl (by omega) (by omega) (fun _ => ?_) (fun q => absurd q (by omega))
    refine pm_iconst (v := nI 0) hG dX12_nameOf_152 (by decide) ?_
    exact pm_iret hG hF dX12_nameOf_153 rfl (Nat.le_refl _) (Nat.le_refl _) ⟨_, rfl, by rw [c5]; decide, rfl, rfl⟩
  by_cases c6 : x = nI 102
  · refine pm_top (v := nI 102) c6 ?_
    refine pm_tswIn (tgt := 141) hG dX12_nameOf_1 (by decide) (by decide) rfl rfl ?_
    refine pm_iloadn hG dX12_nameOf_141 rfl ?_
    refine pm_top (v := nI 102) c6 ?_
    refine pm_bipush (v := nI 100) hG dX12_nameOf_142 (by decide) ?_
    refine pm_icmpN_ne (tgt := 152) hG dX12_nameOf_144 rfl (by omega) (by omega) (fun _ => ?_) (fun q => absurd q (by omega))
    refine pm_iconst (v := nI 0) hG dX12_nameOf_152 (by decide) ?_
    exact pm_iret hG hF dX12_nameOf_153 rfl (Nat.le_refl _) (Nat.le_refl _) ⟨_, rfl, by rw [c6]; decide, rfl, rfl⟩
  by_cases c7 : x = nI 103
  · refine pm_top (v := nI 103) c7 ?_
    refine pm_tswIn (tgt := 141) hG dX12_nameOf_1 (by decide) (by decide) rfl rfl ?_
    refine pm_iloadn hG dX12_nameOf_141 rfl ?_
    refine pm_top (v := nI 103) c7 ?_
    refine pm_bipush (v := nI 100) hG dX12_nameOf_142 (by decide) ?_
    refine pm_icmpN_ne (tgt := 152) hG dX12_nameOf_144 rfl (by omega) (by omega) (fun _ => ?_) (fun q => absurd q (by omega))
    refine pm_iconst (v := nI 0) hG dX12_nameOf_152 (by decide) ?_
    exact pm_iret hG hF dX12_nameOf_153 rfl (Nat.le_refl _) (Nat.le_refl _) ⟨_, rfl, by rw [c7]; decide, rfl, rfl⟩
  by_cases c8 : x = nI 104
  · refine pm_top (v := nI 104) c8 ?_
    refine pm_tswIn (tgt := 141) hG dX12_nameOf_1 (by decide) (by decide) rfl rfl ?_
    refine pm_iloadn hG dX12_nameOf_141 rfl ?_
    refine pm_top (v := nI 104) c8 ?_
    refine pm_bipush (v := nI 100) hG dX12_nameOf_142 (by decide) ?_
    refine pm_icmpN_ne (tgt := 152) hG dX12_nameOf_144 rfl (by omega) (by omega) (fun _ => ?_) (fun q => absurd q (by omega))
    refine pm_iconst (v := nI 0) hG dX12_nameOf_152 (by decide) ?_
    exact pm_iret hG hF dX12_nameOf_153 rfl (Nat.le_refl _) (Nat.le_refl _) ⟨_, rfl, by rw [c8]; decide, rfl, rfl⟩
  by_cases c9 : x = nI 105
  · refine pm_top (v := nI 105) c9 ?_
    refine pm_tswIn (tgt := 141) hG dX12_nameOf_1 (by decide) (by decide) rfl rfl ?_
    refine pm_iloadn hG dX12_nameOf_141 rfl ?_
    refine pm_top (v := nI 105) c9 ?_
    refine pm_bipush (v := nI 100) hG dX12_nameOf_142 (by decide) ?_
    refine pm_icmpN_ne (tgt := 152) hG dX12_nameOf_144 rfl (by omega) (by omega) (fun _ => ?_) (fun q => absurd q (by omega))
    refine pm_iconst (v := nI 0) hG dX12_nameOf_152 (by decide) ?_
    exact pm_iret hG hF dX12_nameOf_153 rfl (Nat.le_refl _) (Nat.le_refl _) ⟨_, rfl, by rw [c9]; decide, rfl, rfl⟩
  by_cases c10 : x = nI 106
  · refine pm_top (v := nI 106) c10 ?_
    refine pm_tswIn (tgt := 141) hG dX12_nameOf_1 (by decide) (by decide) rfl rfl ?_
    refine pm_iloadn hG dX12_nameOf_141 rfl ?_
    refine pm_top (v := nI 106) c10 ?_
    refine pm_bipush (v := nI 100) hG dX12_nameOf_142 (by decide) ?_
    refine pm_icmpN_ne (tgt := 152) hG dX12_nameOf_144 rfl (by omega) (by omega) (fun _ => ?_) (fun q => absurd q (by omega))
    refine pm_iconst (v := nI 0) hG dX12_nameOf_152 (by decide) ?_
    exact pm_iret hG hF dX12_nameOf_153 rfl (Nat.le_refl _) (Nat.le_refl _) ⟨_, rfl, by rw [c10]; decide, rfl, rfl⟩
  by_cases c11 : x = nI 107
  · refine pm_top (v := nI 107) c11 ?_
    refine pm_tswIn (tgt := 120) hG dX12_nameOf_1 (by decide) (by decide) rfl rfl ?_
    refine pm_iconst (v := nI 3) hG dX12_nameOf_120 (by decide) ?_
    exact pm_iret hG hF dX12_nameOf_121 rfl (Nat.le_refl _) (Nat.le_refl _) ⟨_, rfl, by rw [c11]; decide, rfl, rfl⟩
  by_cases c12 : x = nI 108
  · refine pm_top (v := nI 108) c12 ?_
    refine pm_tswIn (tgt := 141) hG dX12_nameOf_1 (by decide) (by decide) rfl rfl ?_
    refine pm_iloadn hG dX12_nameOf_141 rfl ?_
    refine pm_top (v := nI 108) c12 ?_
    refine pm_bipush (v := nI 100) hG dX12_nameOf_142 (by decide) ?_
    refine pm_icmpN_ne (tgt := 152) hG dX12_nameOf_144 rfl (by omega) (by omega) (fun _ => ?_) (fun q => absurd q (by omega))
    refine pm_iconst (v := nI 0) hG dX12_nameOf_152 (by decide) ?_
    exact pm_iret hG hF dX12_nameOf_153 rfl (Nat.le_refl _) (Nat.le_refl _) ⟨_, rfl, by rw [c12]; decide, rfl, rfl⟩
  by_cases c13 : x = nI 109
  · refine pm_top (v := nI 109) c13 ?_
    refine pm_tswIn (tgt := 124) hG dX12_nameOf_1 (by decide) (by decide) rfl rfl ?_
    refine pm_iconst (v := nI 5) hG dX12_nameOf_124 (by decide) ?_
    exact pm_iret hG hF dX12_nameOf_125 rfl (Nat.le_refl _) (Nat.le_refl _) ⟨_, rfl, by rw [c13]; decide, rfl, rfl⟩
  by_cases c14 : x = nI 110
  · refine pm_top (v := nI 110) c14 ?_
    refine pm_tswIn (tgt := 141) hG dX12_nameOf_1 (by decide) (by decide) rfl rfl ?_
    refine pm_iloadn hG dX12_nameOf_141 rfl ?_
    refine pm_top (v := nI 110) c14 ?_
    refine pm_bipush (v := nI 100) hG dX12_nameOf_142 (by decide) ?_
    refine pm_icmpN_ne (tgt := 152) hG dX12_nameOf_144 rfl (by omega) (by omega) (fun _ => ?_) (fun q => absurd q (by omega))
    refine pm_iconst (v := nI 0) hG dX12_nameOf_152 (by decide) ?_
    exact pm_iret hG hF dX12_nameOf_153 rfl (Nat.le_refl _) (Nat.le_refl _) ⟨_, rfl, by rw [c14]; decide, rfl, rfl⟩
  by_cases c15 : x = nI 111
  · refine pm_top (v := nI 111) c15 ?_
    refine pm_tswIn (tgt := 135) hG dX12_nameOf_1 (by decide) (by decide) rfl rfl ?_
    refine pm_bipush (v := nI 9) hG dX12_nameOf_135 (by decide) ?_
    exact pm_iret hG hF dX12_nameOf_137 rfl (Nat.le_refl _) (Nat.le_refl _) ⟨_, rfl, by rw [c15]; decide, rfl, rfl⟩
  by_cases c16 : x = nI 112
  · refine pm_top (v := nI 112) c16 ?_
    refine pm_tswIn (tgt := 141) hG dX12_nameOf_1 (by decide) (by decide) rfl rfl ?_
    refine pm_iloadn hG dX12_nameOf_141 rfl ?_
    refine pm_top (v := nI 112) c16 ?_
    refine pm_bipush (v := nI 100) hG dX12_nameOf_142 (by decide) ?_
    refine pm_icmpN_ne (tgt := 152) hG dX12_nameOf_144 rfl (by omega) (by omega) (fun _ => ?_) (fun q => absurd q (by omega))
    refine pm_iconst (v := nI 0) hG dX12_nameOf_152 (by decide) ?_
    exact pm_iret hG hF dX12_nameOf_153 rfl (Nat.le_refl _) (Nat.le_refl _) ⟨_, rfl, by rw [c16]; decide, rfl, rfl⟩
  by_cases c17 : x = nI 113
  · refine pm_top (v := nI 113) c17 ?_
    refine pm_tswIn (tgt := 141) hG dX12_nameOf_1 (by decide) (by decide) rfl rfl ?_
    refine pm_iloadn hG dX12_nameOf_141 rfl ?_
    refine pm_top (v := nI 113) c17 ?_
    refine pm_bipush (v := nI 100) hG dX12_nameOf_142 (by decide) ?_
    refine pm_icmpN_ne (tgt := 152) hG dX12_nameOf_144 rfl (by omega) (by omega) (fun _ => ?_) (fun q => absurd q (by omega))
    refine pm_iconst (v := nI 0) hG dX12_nameOf_152 (by decide) ?_
    exact pm_iret hG hF dX12_nameOf_153 rfl (Nat.le_refl _) (Nat.le_refl _) ⟨_, rfl, by rw [c17]; decide, rfl, rfl⟩
  by_cases c18 : x = nI 114
  · refine pm_top (v := nI 114) c18 ?_
    refine pm_tswIn (tgt := 141) hG dX12_nameOf_1 (by decide) (by decide) rfl rfl ?_
    refine pm_iloadn hG dX12_nameOf_141 rfl ?_
    refine pm_top (v := nI 114) c18 ?_
    refine pm_bipush (v := nI 100) hG dX12_nameOf_142 (by decide) ?_
    refine pm_icmpN_ne (tgt := 152) hG dX12_nameOf_144 rfl (by omega) (by omega) (fun _ => ?_) (fun q => absurd q (by omega))
    refine pm_iconst (v := nI 0) hG dX12_nameOf_152 (by decide) ?_
    exact pm_iret hG hF dX12_nameOf_153 rfl (Nat.le_refl _) (Nat.le_refl _) ⟨_, rfl, by rw [c18]; decide, rfl, rfl⟩
  by_cases c19 : x = nI 115
  · refine pm_top (v := nI 115) c19 ?_
    refine pm_tswIn (tgt := 118) hG dX12_nameOf_1 (by decide) (by decide) rfl rfl ?_
    refine pm_iconst (v := nI 2) hG dX12_nameOf_118 (by decide) ?_
    exact pm_iret hG hF dX12_nameOf_119 rfl (Nat.le_refl _) (Nat.le_refl _) ⟨_, rfl, by rw [c19]; decide, rfl, rfl⟩
  by_cases c20 : x = nI 116
  · refine pm_top (v := nI 116) c20 ?_
    refine pm_tswIn (tgt := 126) hG dX12_nameOf_1 (by decide) (by decide) rfl rfl ?_
    refine pm_bipush (v := nI 6) hG dX12_nameOf_126 (by decide) ?_
    exact pm_iret hG hF dX12_nameOf_128 rfl (Nat.le_refl _) (Nat.le_refl _) ⟨_, rfl, by rw [c20]; decide, rfl, rfl⟩
  by_cases c21 : x = nI 117
  · refine pm_top (v := nI 117) c21 ?_
    refine pm_tswIn (tgt := 141) hG dX12_nameOf_1 (by decide) (by decide) rfl rfl ?_
    refine pm_iloadn hG dX12_nameOf_141 rfl ?_
    refine pm_top (v := nI 117) c21 ?_
    refine pm_bipush (v := nI 100) hG dX12_nameOf_142 (by decide) ?_
    refine pm_icmpN_ne (tgt := 152) hG dX12_nameOf_144 rfl (by omega) (by omega) (fun _ => ?_) (fun q => absurd q (by omega))
    refine pm_iconst (v := nI 0) hG dX12_nameOf_152 (by decide) ?_
    exact pm_iret hG hF dX12_nameOf_153 rfl (Nat.le_refl _) (Nat.le_refl _) ⟨_, rfl, by rw [c21]; decide, rfl, rfl⟩
  by_cases c22 : x = nI 118
  · refine pm_top (v := nI 118) c22 ?_
    refine pm_tswIn (tgt := 141) hG dX12_nameOf_1 (by decide) (by decide) rfl rfl ?_
    refine pm_iloadn hG dX12_nameOf_141 rfl ?_
    refine pm_top (v := nI 118) c22 ?_
    refine pm_bipush (v := nI 100) hG dX12_nameOf_142 (by decide) ?_
    refine pm_icmpN_ne (tgt := 152) hG dX12_nameOf_144 rfl (by omega) (by omega) (fun _ => ?_) (fun q => absurd q (by omega))
    refine pm_iconst (v := nI 0) hG dX12_nameOf_152 (by decide) ?_
    exact pm_iret hG hF dX12_nameOf_153 rfl (Nat.le_refl _) (Nat.le_refl _) ⟨_, rfl, by rw [c22]; decide, rfl, rfl⟩
  by_cases c23 : x = nI 119
  · refine pm_top (v := nI 119) c23 ?_
    refine pm_tswIn (tgt := 138) hG dX12_nameOf_1 (by decide) (by decide) rfl rfl ?_
    refine pm_bipush (v := nI 10) hG dX12_nameOf_138 (by decide) ?_
    exact pm_iret hG hF dX12_nameOf_140 rfl (Nat.le_refl _) (Nat.le_refl _) ⟨_, rfl, by rw [c23]; decide, rfl, rfl⟩
  by_cases c24 : x = nI 120
  · refine pm_top (v := nI 120) c24 ?_
    refine pm_tswIn (tgt := 141) hG dX12_nameOf_1 (by decide) (by decide) rfl rfl ?_
    refine pm_iloadn hG dX12_nameOf_141 rfl ?_
    refine pm_top (v := nI 120) c24 ?_
    refine pm_bipush (v := nI 100) hG dX12_nameOf_142 (by decide) ?_
    refine pm_icmpN_ne (tgt := 152) hG dX12_nameOf_144 rfl (by omega) (by omega) (fun _ => ?_) (fun q => absurd q (by omega))
    refine pm_iconst (v := nI 0) hG dX12_nameOf_152 (by decide) ?_
    exact pm_iret hG hF dX12_nameOf_153 rfl (Nat.le_refl _) (Nat.le_refl _) ⟨_, rfl, by rw [c24]; decide, rfl, rfl⟩
  by_cases c25 : x = nI 121
  · refine pm_top (v := nI 121) c25 ?_
    refine pm_tswIn (tgt := 132) hG dX12_nameOf_1 (by decide) (by decide) rfl rfl ?_
    refine pm_bipush (v := nI 8) hG dX12_nameOf_132 (by decide) ?_
    exact pm_iret hG hF dX12_nameOf_134 rfl (Nat.le_refl _) (Nat.le_refl _) ⟨_, rfl, by rw [c25]; decide, rfl, rfl⟩
  have tc1 : ¬ x.toInt = 97 := fun q => c1 (Int32.toInt_inj.mp (q.trans (by decide)))
  have tc2 : ¬ x.toInt = 98 := fun q => c2 (Int32.toInt_inj.mp (q.trans (by decide)))
  have tc3 : ¬ x.toInt = 99 := fun q => c3 (Int32.toInt_inj.mp (q.trans (by decide)))
  have tc4 : ¬ x.toInt = 100 := fun q => c4 (Int32.toInt_inj.mp (q.trans (by decide)))
  have tc5 : ¬ x.toInt = 101 := fun q => c5 (Int32.toInt_inj.mp (q.trans (by decide)))
  have tc6 : ¬ x.toInt = 102 := fun q => c6 (Int32.toInt_inj.mp (q.trans (by decide)))
  have tc7 : ¬ x.toInt = 103 := fun q => c7 (Int32.toInt_inj.mp (q.trans (by decide)))
  have tc8 : ¬ x.toInt = 104 := fun q => c8 (Int32.toInt_inj.mp (q.trans (by decide)))
  have tc9 : ¬ x.toInt = 105 := fun q => c9 (Int32.toInt_inj.mp (q.trans (by decide)))
  have tc10 : ¬ x.toInt = 106 := fun q => c10 (Int32.toInt_inj.mp (q.trans (by decide)))
  have tc11 : ¬ x.toInt = 107 := fun q => c11 (Int32.toInt_inj.mp (q.trans (by decide)))
  have tc12 : ¬ x.toInt = 108 := fun q => c12 (Int32.toInt_inj.mp (q.trans (by decide)))
  have tc13 : ¬ x.toInt = 109 := fun q => c13 (Int32.toInt_inj.mp (q.trans (by decide)))
  have tc14 : ¬ x.toInt = 110 := fun q => c14 (Int32.toInt_inj.mp (q.trans (by decide)))
  have tc15 : ¬ x.toInt = 111 := fun q => c15 (Int32.toInt_inj.mp (q.trans (by decide)))
  have tc16 : ¬ x.toInt = 112 := fun q => c16 (Int32.toInt_inj.mp (q.trans (by decide)))
  have tc17 : ¬ x.toInt = 113 := fun q => c17 (Int32.toInt_inj.mp (q.trans (by decide)))
  have tc18 : ¬ x.toInt = 114 := fun q => c18 (Int32.toInt_inj.mp (q.trans (by decide)))
  have tc19 : ¬ x.toInt = 115 := fun q => c19 (Int32.toInt_inj.mp (q.trans (by decide)))
  have tc20 : ¬ x.toInt = 116 := fun q => c20 (Int32.toInt_inj.mp (q.trans (by decide)))
  have tc21 : ¬ x.toInt = 117 := fun q => c21 (Int32.toInt_inj.mp (q.trans (by decide)))
  have tc22 : ¬ x.toInt = 118 := fun q => c22 (Int32.toInt_inj.mp (q.trans (by decide)))
  have tc23 : ¬ x.toInt = 119 := fun q => c23 (Int32.toInt_inj.mp (q.trans (by decide)))
  have tc24 : ¬ x.toInt = 120 := fun q => c24 (Int32.toInt_inj.mp (q.trans (by decide)))
  have tc25 : ¬ x.toInt = 121 := fun q => c25 (Int32.toInt_inj.mp (q.trans (by decide)))
  refine pm_tswOut (tgt := 141) hG dX12_nameOf_1 (by omega) rfl ?_
  refine pm_iloadn hG dX12_nameOf_141 rfl ?_
  refine pm_bipush (v := nI 100) hG dX12_nameOf_142 (by decide) ?_
  refine pm_icmp_ne (tgt := 152) hG dX12_nameOf_144 rfl (fun c26 => ?_) (fun c26 => ?_)
  · refine pm_iconst (v := nI 0) hG dX12_nameOf_152 (by decide) ?_
    exact pm_iret hG hF dX12_nameOf_153 rfl (Nat.le_refl _) (Nat.le_refl _) ⟨_, rfl, by have hr : nmB x = 0 := (by simp [nmB, show ¬ x = 97 from c1, show ¬ x = 98 from c2, show ¬ x = 99 from c3, show ¬ x = 100 from c4, show ¬ x = 101 from c5, show ¬ x = 102 from c6, show ¬ x = 103 from c7, show ¬ x = 104 from c8, show ¬ x = 105 from c9, show ¬ x = 106 from c10, show ¬ x = 107 from c11, show ¬ x = 108 from c12, show ¬ x = 109 from c13, show ¬ x = 110 from c14, show ¬ x = 111 from c15, show ¬ x = 112 from c16, show ¬ x = 113 from c17, show ¬ x = 114 from c18, show ¬ x = 115 from c19, show ¬ x = 116 from c20, show ¬ x = 117 from c21, show ¬ x = 118 from c22, show ¬ x = 119 from c23, show ¬ x = 120 from c24, show ¬ x = 121 from c25]); rw [hr], rfl, rfl⟩
  · refine pm_bipush (v := nI 11) hG dX12_nameOf_147 (by decide) ?_
    refine pm_goto (tgt := 153) hG dX12_nameOf_149 rfl ?_
    exact pm_iret hG hF dX12_nameOf_153 rfl (Nat.le_refl _) (Nat.le_refl _) ⟨_, rfl, by rw [c26]; decide, rfl, rfl⟩

set_option maxRecDepth 100000 in
theorem m_byteAt1 {d B cnt : Nat} {σ : pm_S} {I : Nat → Int32} {A : Nat → Nat → Int32} {n k z : Nat → Int32} {ac wt pl ps tr : Int32} {p T : Nat} (hT : n 10 = nI T) (hT2 : T ≤ 60) (hp : p ≤ 60) (hpT : p < T) : pm_met mX12_byteAt d 0 0 B [.ref (B + 54), .int (nI p)] cnt (pm_mid σ (md_L B I A n k z ac wt pl ps tr)) (pm_Qi (fun v σ' cnt' => v = n (p + 1991) ∧ σ' = (pm_mid σ (md_L B I A n k z ac wt pl ps tr)) ∧ cnt' = cnt)) := by
  refine pm_enter 0 (by decide) (Nat.le_of_ble_eq_true rfl) rfl (fun G hG hR hF => ?_)
  refine pm_iloadn hG dX12_byteAt_0 rfl ?_
  refine pm_aloadn hG dX12_byteAt_1 rfl ?_
  refine pm_getf hG dX12_byteAt_2 (flX12_7 _ rfl) rfl rfl ?_
  refine pm_bipush (v := nI 10) hG dX12_byteAt_5 (by decide) ?_
  refine pm_ialdN hG dX12_byteAt_7 rfl (by decide) (by omega) ?_
  refine pm_top (v := nI T) hT ?_
  refine pm_icmpN_ge (tgt := 24) hG dX12_byteAt_8 rfl (by omega) (by omega) (fun q => absurd q (by omega)) (fun _ => ?_)
  refine pm_aloadn hG dX12_byteAt_11 rfl ?_
  refine pm_getf hG dX12_byteAt_12 (flX12_7 _ rfl) rfl rfl ?_
  refine pm_sipush (v := nI 1991) hG dX12_byteAt_15 (by decide) ?_
  refine pm_iloadn hG dX12_byteAt_18 rfl ?_
  refine pm_iaddN (c := p + 1991) hG dX12_byteAt_19 (by omega) ?_
  refine pm_ialdN hG dX12_byteAt_20 rfl (by decide) (by omega) ?_
  refine pm_goto (tgt := 25) hG dX12_byteAt_21 rfl ?_
  exact pm_iret hG hF dX12_byteAt_25 rfl (Nat.le_refl _) (Nat.le_refl _) ⟨_, rfl, rfl, rfl, rfl⟩

set_option maxRecDepth 100000 in
theorem m_byteAt0 {d B cnt : Nat} {σ : pm_S} {I : Nat → Int32} {A : Nat → Nat → Int32} {n k z : Nat → Int32} {ac wt pl ps tr : Int32} {p T : Nat} (hT : n 10 = nI T) (hT2 : T ≤ 60) (hp : p ≤ 60) (hpT : T ≤ p) : pm_met mX12_byteAt d 0 0 B [.ref (B + 54), .int (nI p)] cnt (pm_mid σ (md_L B I A n k z ac wt pl ps tr)) (pm_Qi (fun v σ' cnt' => v = -1 ∧ σ' = (pm_mid σ (md_L B I A n k z ac wt pl ps tr)) ∧ cnt' = cnt)) := by
  refine pm_enter 0 (by decide) (Nat.le_of_ble_eq_true rfl) rfl (fun G hG hR hF => ?_)
  refine pm_iloadn hG dX12_byteAt_0 rfl ?_
  refine pm_aloadn hG dX12_byteAt_1 rfl ?_
  refine pm_getf hG dX12_byteAt_2 (flX12_7 _ rfl) rfl rfl ?_
  refine pm_bipush (v := nI 10) hG dX12_byteAt_5 (by decide) ?_
  refine pm_ialdN hG dX12_byteAt_7 rfl (by decide) (by omega) ?_
  refine pm_top (v := nI T) hT ?_
  refine pm_icmpN_ge (tgt := 24) hG dX12_byteAt_8 rfl (by omega) (by omega) (fun _ => ?_) (fun q => absurd q (by omega))
  refine pm_iconst (v := (-1)) hG dX12_byteAt_24 (by decide) ?_
  exact pm_iret hG hF dX12_byteAt_25 rfl (Nat.le_refl _) (Nat.le_refl _) ⟨_, rfl, rfl, rfl, rfl⟩

set_option maxRecDepth 100000 in
theorem m_lays {d B cnt : Nat} {σ : pm_S} {I : Nat → Int32} {A : Nat → Nat → Int32} {n k z : Nat → Int32} {ac wt pl ps tr : Int32} {x : Int32} {a : Nat} (ha : a < 60) : pm_met mX12_lays d 0 0 B [.ref (B + 54), .int x] cnt (pm_mid σ (md_L B I A n k z (nI a) wt pl ps tr)) (pm_Qv (fun σ' cnt' => ∃ A' : Nat → Nat → Int32, σ' = (pm_mid σ (md_L B I A' n k z (nI (a + 1)) wt pl ps tr)) ∧ A' 60 = upd (A 60) a x ∧ A' 61 = A 61 ∧ cnt' = cnt)) := by
  refine pm_enter 0 (by decide) (Nat.le_of_ble_eq_true rfl) rfl (fun G hG hR hF => ?_)
  refine pm_aloadn hG dX12_lays_0 rfl ?_
  refine pm_getf hG dX12_lays_1 (flX12_25 _ rfl) rfl rfl ?_
  refine pm_aloadn hG dX12_lays_4 rfl ?_
  refine pm_getf hG dX12_lays_5 (flX12_144 _ rfl) rfl rfl ?_
  refine pm_iloadn hG dX12_lays_8 rfl ?_
  refine pm_iastN hG dX12_lays_9 rfl (by decide) (by omega) ?_
  refine mdE_acts (fun A1 eA oA => ?_)
  refine pm_aloadn hG dX12_lays_10 rfl ?_
  refine pm_dup hG dX12_lays_11 rfl ?_
  refine pm_getf hG dX12_lays_12 (flX12_144 _ rfl) rfl rfl ?_
  refine pm_iconst (v := nI 1) hG dX12_lays_15 (by decide) ?_
  refine pm_iaddN (c := a + 1) hG dX12_lays_16 (by omega) ?_
  refine pm_putf hG dX12_lays_17 (fwX12_144 _ rfl) rfl rfl rfl ?_
  refine mdn_acted ?_
  exact pm_vret hG hF dX12_lays_20 rfl (Nat.le_refl _) (Nat.le_refl _) ⟨rfl, A1, rfl, eA, oA 61 (by decide), rfl⟩

set_option maxRecDepth 100000 in
theorem m_hasOpen {d B cnt : Nat} {σ : pm_S} {I : Nat → Int32} {A : Nat → Nat → Int32} {n k z : Nat → Int32} {ac wt pl ps tr : Int32} {w : Nat} (hdd : 1 ≤ d) (hw : w ≤ 60) : pm_met mX12_hasOpen d 0 0 B [.ref (B + 54)] cnt (pm_mid σ (md_L B I A n k z ac (nI w) pl ps tr)) (pm_Qi (fun v σ' cnt' => ((v = nI 1 ∧ ∃ j : Nat, j < w ∧ A 61 j = nI 40) ∨ v = nI 0) ∧ σ' = (pm_mid σ (md_L B I A n k z ac (nI w) pl ps tr)) ∧ cnt' = cnt)) := by
  refine pm_enter 1 (by decide) (Nat.le_of_ble_eq_true rfl) rfl (fun G hG hR hF => ?_)
  refine pm_iconst (v := nI 0) hG dX12_hasOpen_0 (by decide) ?_
  refine pm_istoreXn (loc' := [some (.ref (B + 54)), some (.int (nI 0))]) hG dX12_hasOpen_1 (by decide) (pm_c1b rfl) rfl ?_
  have loop2_1 : ∀ (m1 : Nat) (i1 : Nat), i1 ≤ 60 → 60 - i1 < m1 → pm_wp mX12_hasOpen G B 2 [some (.ref (B + 54)), some (.int (nI i1))] [] 0 0 cnt (pm_mid σ (md_L B I A n k z ac (nI w) pl ps tr)) := by
    intro m1
    induction m1 with
    | zero => intro i1 _ hm; exact absurd hm (Nat.not_lt_zero _)
    | succ m1 ih1 =>
      intro i1 hi1 hm1
      refine pm_iloadn hG dX12_hasOpen_2 rfl ?_
      refine pm_aloadn hG dX12_hasOpen_3 rfl ?_
      refine pm_getf hG dX12_hasOpen_4 (flX12_148 _ rfl) rfl rfl ?_
      refine pm_icmpN_ge (tgt := 29) hG dX12_hasOpen_7 rfl (by omega) (by omega) (fun c2 => ?_) (fun c2 => ?_)
      · refine pm_iconst (v := nI 0) hG dX12_hasOpen_29 (by decide) ?_
        exact pm_zret hG hF dX12_hasOpen_30 rfl (by rfl) (Nat.le_refl _) (Nat.le_refl _) ⟨_, rfl, Or.inr rfl, rfl, rfl⟩
      · refine pm_aloadn hG dX12_hasOpen_10 rfl ?_
        refine pm_getf hG dX12_hasOpen_11 (flX12_28 _ rfl) rfl rfl ?_
        refine pm_iloadn hG dX12_hasOpen_14 rfl ?_
        refine pm_ialdN hG dX12_hasOpen_15 rfl (by decide) (by omega) ?_
        refine pm_gen (fun x3 ex3 => ?_)
        refine pm_bipush (v := nI 40) hG dX12_hasOpen_16 (by decide) ?_
        refine pm_icmp_ne (tgt := 23) hG dX12_hasOpen_18 rfl (fun c4 => ?_) (fun c4 => ?_)
        · refine pm_iincX (v := nI (i1 + 1)) (loc' := [some (.ref (B + 54)), some (.int (nI (i1 + 1)))]) hG dX12_hasOpen_23 rfl (nI_1 _) (by decide) (pm_c1b rfl) rfl ?_
          refine pm_goto (tgt := 2) hG dX12_hasOpen_26 rfl ?_
          exact ih1 (i1 + 1) (by omega) (by omega)
        · refine pm_iconst (v := nI 1) hG dX12_hasOpen_21 (by decide) ?_
          exact pm_zret hG hF dX12_hasOpen_22 rfl (by rfl) (Nat.le_refl _) (Nat.le_refl _) ⟨_, rfl, Or.inl ⟨rfl, i1, by omega, ex3.trans c4⟩, rfl, rfl⟩
  exact loop2_1 _ 0 (by omega) (Nat.lt_succ_self _)

set_option maxRecDepth 100000 in
theorem m_openMany {d B cnt : Nat} {σ : pm_S} {I : Nat → Int32} {A : Nat → Nat → Int32} {n k z : Nat → Int32} {ac wt pl ps tr : Int32} {w : Nat} (hdd : 1 ≤ d) (hw : w ≤ 60) : pm_met mX12_openMany d 0 0 B [.ref (B + 54)] cnt (pm_mid σ (md_L B I A n k z ac (nI w) pl ps tr)) (pm_Qi (fun v σ' cnt' => True ∧ σ' = (pm_mid σ (md_L B I A n k z ac (nI w) pl ps tr)) ∧ cnt' = cnt)) := by
  refine pm_enter 2 (by decide) (Nat.le_of_ble_eq_true rfl) rfl (fun G hG hR hF => ?_)
  refine pm_iconst (v := nI 0) hG dX12_openMany_0 (by decide) ?_
  refine pm_istoreXn (loc' := [some (.ref (B + 54)), some (.int (nI 0)), none]) hG dX12_openMany_1 (by decide) (pm_c1b rfl) rfl ?_
  refine pm_iconst (v := nI 0) hG dX12_openMany_2 (by decide) ?_
  refine pm_istoreXn (loc' := [some (.ref (B + 54)), some (.int (nI 0)), some (.int (nI 0))]) hG dX12_openMany_3 (by decide) (pm_c1b rfl) rfl ?_
  have loop4_1 : ∀ (m1 : Nat) (x1_1 : Int32) (i1 : Nat), i1 ≤ 60 → 60 - i1 < m1 → pm_wp mX12_openMany G B 4 [some (.ref (B + 54)), some (.int x1_1), some (.int (nI i1))] [] 0 0 cnt (pm_mid σ (md_L B I A n k z ac (nI w) pl ps tr)) := by
    intro m1
    induction m1 with
    | zero => intro x1_1 i1 _ hm; exact absurd hm (Nat.not_lt_zero _)
    | succ m1 ih1 =>
      intro x1_1 i1 hi1 hm1
      refine pm_iloadn hG dX12_openMany_4 rfl ?_
      refine pm_aloadn hG dX12_openMany_5 rfl ?_
      refine pm_getf hG dX12_openMany_6 (flX12_148 _ rfl) rfl rfl ?_
      refine pm_icmpN_ge (tgt := 48) hG dX12_openMany_9 rfl (by omega) (by omega) (fun c2 => ?_) (fun c2 => ?_)
      · refine pm_iloadn hG dX12_openMany_48 rfl ?_
        exact pm_iret hG hF dX12_openMany_49 rfl (Nat.le_refl _) (Nat.le_refl _) ⟨_, rfl, trivial, rfl, rfl⟩
      · refine pm_iloadn hG dX12_openMany_12 rfl ?_
        refine pm_aloadn hG dX12_openMany_13 rfl ?_
        refine pm_getf hG dX12_openMany_14 (flX12_28 _ rfl) rfl rfl ?_
        refine pm_iloadn hG dX12_openMany_17 rfl ?_
        refine pm_ialdN hG dX12_openMany_18 rfl (by decide) (by omega) ?_
        refine pm_gen (fun x3 ex3 => ?_)
        refine pm_bipush (v := nI 33) hG dX12_openMany_19 (by decide) ?_
        refine pm_icmp_eq (tgt := 35) hG dX12_openMany_21 rfl (fun c4 => ?_) (fun c4 => ?_)
        · refine pm_iconst (v := nI 1) hG dX12_openMany_35 (by decide) ?_
          refine pm_goto (tgt := 40) hG dX12_openMany_36 rfl ?_
          refine pm_iadd hG dX12_openMany_40 ?_
          refine pm_istoreXn (loc' := [some (.ref (B + 54)), some (.int (x1_1 + (nI 1))), some (.int (nI i1))]) hG dX12_openMany_41 (by decide) (pm_c1b rfl) rfl ?_
          refine pm_iincX (v := nI (i1 + 1)) (loc' := [some (.ref (B + 54)), some (.int (x1_1 + (nI 1))), some (.int (nI (i1 + 1)))]) hG dX12_openMany_42 rfl (nI_1 _) (by decide) (pm_c1b rfl) rfl ?_
          refine pm_goto (tgt := 4) hG dX12_openMany_45 rfl ?_
          exact ih1 (x1_1 + (nI 1)) (i1 + 1) (by omega) (by omega)
        · refine pm_aloadn hG dX12_openMany_24 rfl ?_
          refine pm_getf hG dX12_openMany_25 (flX12_28 _ rfl) rfl rfl ?_
          refine pm_iloadn hG dX12_openMany_28 rfl ?_
          refine pm_ialdN hG dX12_openMany_29 rfl (by decide) (by omega) ?_
          refine pm_top (v := x3) ex3 ?_
          refine pm_bipush (v := nI 40) hG dX12_openMany_30 (by decide) ?_
          refine pm_icmp_ne (tgt := 39) hG dX12_openMany_32 rfl (fun c6 => ?_) (fun c6 => ?_)
          · refine pm_iconst (v := nI 0) hG dX12_openMany_39 (by decide) ?_
            refine pm_iadd hG dX12_openMany_40 ?_
            refine pm_istoreXn (loc' := [some (.ref (B + 54)), some (.int (x1_1 + (nI 0))), some (.int (nI i1))]) hG dX12_openMany_41 (by decide) (pm_c1b rfl) rfl ?_
            refine pm_iincX (v := nI (i1 + 1)) (loc' := [some (.ref (B + 54)), some (.int (x1_1 + (nI 0))), some (.int (nI (i1 + 1)))]) hG dX12_openMany_42 rfl (nI_1 _) (by decide) (pm_c1b rfl) rfl ?_
            refine pm_goto (tgt := 4) hG dX12_openMany_45 rfl ?_
            exact ih1 (x1_1 + (nI 0)) (i1 + 1) (by omega) (by omega)
          · refine pm_iconst (v := nI 1) hG dX12_openMany_35 (by decide) ?_
            refine pm_goto (tgt := 40) hG dX12_openMany_36 rfl ?_
            refine pm_iadd hG dX12_openMany_40 ?_
            refine pm_istoreXn (loc' := [some (.ref (B + 54)), some (.int (x1_1 + (nI 1))), some (.int (nI i1))]) hG dX12_openMany_41 (by decide) (pm_c1b rfl) rfl ?_
            refine pm_iincX (v := nI (i1 + 1)) (loc' := [some (.ref (B + 54)), some (.int (x1_1 + (nI 1))), some (.int (nI (i1 + 1)))]) hG dX12_openMany_42 rfl (nI_1 _) (by decide) (pm_c1b rfl) rfl ?_
            refine pm_goto (tgt := 4) hG dX12_openMany_45 rfl ?_
            exact ih1 (x1_1 + (nI 1)) (i1 + 1) (by omega) (by omega)
  exact loop4_1 _ (nI 0) 0 (by omega) (Nat.lt_succ_self _)

set_option maxRecDepth 100000 in
theorem m_isTested {d B cnt : Nat} {σ : pm_S} {I : Nat → Int32} {A : Nat → Nat → Int32} {n k z : Nat → Int32} {ac wt pl ps tr : Int32} {w : Nat} (hdd : 1 ≤ d) (hw : w ≤ 60) : pm_met mX12_isTested d 0 0 B [.ref (B + 54)] cnt (pm_mid σ (md_L B I A n k z ac (nI w) pl ps tr)) (pm_Qi (fun v σ' cnt' => (v = 0 ∨ v = 1) ∧ σ' = (pm_mid σ (md_L B I A n k z ac (nI w) pl ps tr)) ∧ cnt' = cnt)) := by
  refine pm_enter 1 (by decide) (Nat.le_of_ble_eq_true rfl) rfl (fun G hG hR hF => ?_)
  refine pm_aloadn hG dX12_isTested_0 rfl ?_
  refine pm_getf hG dX12_isTested_1 (flX12_148 _ rfl) rfl rfl ?_
  refine pm_iconst (v := nI 1) hG dX12_isTested_4 (by decide) ?_
  refine pm_isub hG dX12_isTested_5 ?_
  refine pm_istoreXn (loc' := [some (.ref (B + 54)), some (.int ((nI w) - (nI 1)))]) hG dX12_isTested_6 (by decide) (pm_c1b rfl) rfl ?_
  have loop7_1 : ∀ (m1 : Nat) (i1 : Nat), i1 ≤ 60 → i1 < m1 → pm_wp mX12_isTested G B 7 [some (.ref (B + 54)), some (.int (nI i1 - nI 1))] [] 0 0 cnt (pm_mid σ (md_L B I A n k z ac (nI w) pl ps tr)) := by
    intro m1
    induction m1 with
    | zero => intro i1 _ hm; exact absurd hm (Nat.not_lt_zero _)
    | succ m1 ih1 =>
      intro i1 hi1 hm1
      rcases i1 with _ | i1
      · refine pm_iloadn hG dX12_isTested_7 rfl ?_
        refine pm_top (v := (-1)) (by decide) ?_
        refine pm_if_lt (tgt := 30) hG dX12_isTested_8 rfl (fun _ => ?_) (fun q => absurd q (by decide))
        refine pm_iloadn hG dX12_isTested_30 rfl ?_
        refine pm_top (v := (-1)) (by decide) ?_
        refine pm_if_lt (tgt := 51) hG dX12_isTested_31 rfl (fun _ => ?_) (fun q => absurd q (by decide))
        refine pm_iconst (v := nI 0) hG dX12_isTested_51 (by decide) ?_
        exact pm_zret hG hF dX12_isTested_52 rfl (by rfl) (Nat.le_refl _) (Nat.le_refl _) ⟨_, rfl, Or.inl rfl, rfl, rfl⟩
      · refine pm_iloadn hG dX12_isTested_7 rfl ?_
        refine pm_top (v := nI i1) (nI_pred _) ?_
        refine pm_ifN_lt hG dX12_isTested_8 rfl (by omega) ?_
        refine pm_aloadn hG dX12_isTested_11 rfl ?_
        refine pm_getf hG dX12_isTested_12 (flX12_28 _ rfl) rfl rfl ?_
        refine pm_iloadn hG dX12_isTested_15 rfl ?_
        refine pm_top (v := nI i1) (nI_pred _) ?_
        refine pm_ialdN hG dX12_isTested_16 rfl (by decide) (by omega) ?_
        refine pm_gen (fun x2 ex2 => ?_)
        refine pm_callS (As := [.int x2]) (rest := []) hG hR dX12_isTested_17 (lkX12_151 _ rfl) okS_X12_rankOf (m_rankOf (d := 0)) rfl rfl hdd (Nat.le_refl _) (Nat.le_refl _) (by decide) (pm_ki (fun v3 σ' cnt' hq => ?_))
        obtain ⟨rfl, rfl, rfl⟩ := hq
        have hv3 := rk_le x2
        refine pm_iconst (v := nI 3) hG dX12_isTested_20 (by decide) ?_
        refine pm_icmpN_le (tgt := 30) hG dX12_isTested_21 rfl (by omega) (by omega) (fun c4 => ?_) (fun c4 => ?_)
        · refine pm_iloadn hG dX12_isTested_30 rfl ?_
          refine pm_top (v := nI i1) (nI_pred _) ?_
          refine pm_ifN_lt hG dX12_isTested_31 rfl (by omega) ?_
          refine pm_aloadn hG dX12_isTested_34 rfl ?_
          refine pm_getf hG dX12_isTested_35 (flX12_28 _ rfl) rfl rfl ?_
          refine pm_iloadn hG dX12_isTested_38 rfl ?_
          refine pm_top (v := nI i1) (nI_pred _) ?_
          refine pm_ialdN hG dX12_isTested_39 rfl (by decide) (by omega) ?_
          refine pm_top (v := x2) ex2 ?_
          refine pm_callS (As := [.int x2]) (rest := []) hG hR dX12_isTested_40 (lkX12_151 _ rfl) okS_X12_rankOf (m_rankOf (d := 0)) rfl rfl hdd (Nat.le_refl _) (Nat.le_refl _) (by decide) (pm_ki (fun v6 σ' cnt' hq => ?_))
          obtain ⟨rfl, rfl, rfl⟩ := hq
          have hv6 := rk_le x2
          refine pm_iconst (v := nI 3) hG dX12_isTested_43 (by decide) ?_
          refine pm_icmpN_ne (tgt := 51) hG dX12_isTested_44 rfl (by omega) (by omega) (fun c7 => ?_) (fun c7 => ?_)
          · refine pm_iconst (v := nI 0) hG dX12_isTested_51 (by decide) ?_
            exact pm_zret hG hF dX12_isTested_52 rfl (by rfl) (Nat.le_refl _) (Nat.le_refl _) ⟨_, rfl, Or.inl rfl, rfl, rfl⟩
          · refine pm_iconst (v := nI 1) hG dX12_isTested_47 (by decide) ?_
            refine pm_goto (tgt := 52) hG dX12_isTested_48 rfl ?_
            exact pm_zret hG hF dX12_isTested_52 rfl (by rfl) (Nat.le_refl _) (Nat.le_refl _) ⟨_, rfl, Or.inr rfl, rfl, rfl⟩
        · refine pm_iincX (v := nI (i1 + 1) - nI 1 + (-1)) (loc' := [some (.ref (B + 54)), some (.int (nI (i1 + 1) - nI 1 + (-1)))]) hG dX12_isTested_24 rfl (by rfl) (by decide) (pm_c1b rfl) rfl ?_
          refine pm_goto (tgt := 7) hG dX12_isTested_27 rfl ?_
          refine pm_le (loc' := [some (.ref (B + 54)), some (.int (nI i1 - nI 1))]) (by rw [nI_dn]) ?_
          exact ih1 i1 (by omega) (by omega)
  exact loop7_1 _ w (by omega) (Nat.lt_succ_self _)
