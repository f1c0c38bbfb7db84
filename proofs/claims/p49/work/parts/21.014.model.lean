set_option maxRecDepth 100000 in
set_option maxHeartbeats 4000000 in
theorem m_done {d B cnt p0 t0 : Nat} {σ : pm_S} {I : Nat → Int32} {A : Nat → Nat → Int32} {n k z : Nat → Int32} {ac wt pl im : Int32} {y : Nat → Int32} {za zb zc : Int32} (hdd : 1 ≤ d) (hn : KI n) (hz : SZ z)  : pm_met mX12_done d 0 0 B [.int za, .int zb, .int zc] cnt (pm_mid σ (md_L B I A n k z ac wt pl (nI p0) (nI t0) im y)) (pm_Qi (fun v σ' cnt' => σ' = pm_mid σ (md_L B I A n k z ac wt pl (nI p0) (nI t0) im y) ∧ cnt = cnt')) := by
  refine pm_enter 0 (by decide) (Nat.le_of_ble_eq_true rfl) rfl (fun G hG hR hF => ?_)
  refine pm_iloadn hG dX12_done_0 rfl ?_
  by_cases c1 : za = nI 38
  · refine pm_top (v := nI 38) c1 ?_
    refine pm_lsw (off := 73) (tgt := 74) hG dX12_done_1 (by decide) (by decide) rfl ?_
    refine pm_iloadn hG dX12_done_74 rfl ?_
    refine pm_if_eq (tgt := 86) hG dX12_done_75 rfl (fun c2 => ?_) (fun c2 => ?_)
    · refine pm_iconst (v := nI 0) hG dX12_done_86 (by decide) ?_
      exact pm_iret hG hF dX12_done_87 rfl (Nat.le_refl _) (Nat.le_refl _) ⟨_, rfl, rfl, rfl⟩
    · refine pm_iloadn hG dX12_done_78 rfl ?_
      refine pm_if_eq (tgt := 86) hG dX12_done_79 rfl (fun c3 => ?_) (fun c3 => ?_)
      · refine pm_iconst (v := nI 0) hG dX12_done_86 (by decide) ?_
        exact pm_iret hG hF dX12_done_87 rfl (Nat.le_refl _) (Nat.le_refl _) ⟨_, rfl, rfl, rfl⟩
      · refine pm_iconst (v := nI 1) hG dX12_done_82 (by decide) ?_
        refine pm_goto (tgt := 87) hG dX12_done_83 rfl ?_
        exact pm_iret hG hF dX12_done_87 rfl (Nat.le_refl _) (Nat.le_refl _) ⟨_, rfl, rfl, rfl⟩
  by_cases c4 : za = nI 43
  · refine pm_top (v := nI 43) c4 ?_
    refine pm_lsw (off := 120) (tgt := 121) hG dX12_done_1 (by decide) (by decide) rfl ?_
    refine pm_iloadn hG dX12_done_121 rfl ?_
    refine pm_iloadn hG dX12_done_122 rfl ?_
    refine pm_iadd hG dX12_done_123 ?_
    exact pm_iret hG hF dX12_done_124 rfl (Nat.le_refl _) (Nat.le_refl _) ⟨_, rfl, rfl, rfl⟩
  by_cases c5 : za = nI 60
  · refine pm_top (v := nI 60) c5 ?_
    refine pm_lsw (off := 87) (tgt := 88) hG dX12_done_1 (by decide) (by decide) rfl ?_
    refine pm_iloadn hG dX12_done_88 rfl ?_
    refine pm_iloadn hG dX12_done_89 rfl ?_
    refine pm_icmp_ge (tgt := 97) hG dX12_done_90 rfl (fun c6 => ?_) (fun c6 => ?_)
    · refine pm_iconst (v := nI 0) hG dX12_done_97 (by decide) ?_
      exact pm_iret hG hF dX12_done_98 rfl (Nat.le_refl _) (Nat.le_refl _) ⟨_, rfl, rfl, rfl⟩
    · refine pm_iconst (v := nI 1) hG dX12_done_93 (by decide) ?_
      refine pm_goto (tgt := 98) hG dX12_done_94 rfl ?_
      exact pm_iret hG hF dX12_done_98 rfl (Nat.le_refl _) (Nat.le_refl _) ⟨_, rfl, rfl, rfl⟩
  by_cases c7 : za = nI 61
  · refine pm_top (v := nI 61) c7 ?_
    refine pm_lsw (off := 98) (tgt := 99) hG dX12_done_1 (by decide) (by decide) rfl ?_
    refine pm_iloadn hG dX12_done_99 rfl ?_
    refine pm_iloadn hG dX12_done_100 rfl ?_
    refine pm_icmp_ne (tgt := 108) hG dX12_done_101 rfl (fun c8 => ?_) (fun c8 => ?_)
    · refine pm_iconst (v := nI 0) hG dX12_done_108 (by decide) ?_
      exact pm_iret hG hF dX12_done_109 rfl (Nat.le_refl _) (Nat.le_refl _) ⟨_, rfl, rfl, rfl⟩
    · refine pm_iconst (v := nI 1) hG dX12_done_104 (by decide) ?_
      refine pm_goto (tgt := 109) hG dX12_done_105 rfl ?_
      exact pm_iret hG hF dX12_done_109 rfl (Nat.le_refl _) (Nat.le_refl _) ⟨_, rfl, rfl, rfl⟩
  by_cases c9 : za = nI 62
  · refine pm_top (v := nI 62) c9 ?_
    refine pm_lsw (off := 109) (tgt := 110) hG dX12_done_1 (by decide) (by decide) rfl ?_
    refine pm_iloadn hG dX12_done_110 rfl ?_
    refine pm_iloadn hG dX12_done_111 rfl ?_
    refine pm_icmp_le (tgt := 119) hG dX12_done_112 rfl (fun c10 => ?_) (fun c10 => ?_)
    · refine pm_iconst (v := nI 0) hG dX12_done_119 (by decide) ?_
      exact pm_iret hG hF dX12_done_120 rfl (Nat.le_refl _) (Nat.le_refl _) ⟨_, rfl, rfl, rfl⟩
    · refine pm_iconst (v := nI 1) hG dX12_done_115 (by decide) ?_
      refine pm_goto (tgt := 120) hG dX12_done_116 rfl ?_
      exact pm_iret hG hF dX12_done_120 rfl (Nat.le_refl _) (Nat.le_refl _) ⟨_, rfl, rfl, rfl⟩
  by_cases c11 : za = nI 124
  · refine pm_top (v := nI 124) c11 ?_
    refine pm_lsw (off := 59) (tgt := 60) hG dX12_done_1 (by decide) (by decide) rfl ?_
    refine pm_iloadn hG dX12_done_60 rfl ?_
    refine pm_if_ne (tgt := 68) hG dX12_done_61 rfl (fun c12 => ?_) (fun c12 => ?_)
    · refine pm_iconst (v := nI 1) hG dX12_done_68 (by decide) ?_
      refine pm_goto (tgt := 73) hG dX12_done_69 rfl ?_
      exact pm_iret hG hF dX12_done_73 rfl (Nat.le_refl _) (Nat.le_refl _) ⟨_, rfl, rfl, rfl⟩
    · refine pm_iloadn hG dX12_done_64 rfl ?_
      refine pm_if_eq (tgt := 72) hG dX12_done_65 rfl (fun c13 => ?_) (fun c13 => ?_)
      · refine pm_iconst (v := nI 0) hG dX12_done_72 (by decide) ?_
        exact pm_iret hG hF dX12_done_73 rfl (Nat.le_refl _) (Nat.le_refl _) ⟨_, rfl, rfl, rfl⟩
      · refine pm_iconst (v := nI 1) hG dX12_done_68 (by decide) ?_
        refine pm_goto (tgt := 73) hG dX12_done_69 rfl ?_
        exact pm_iret hG hF dX12_done_73 rfl (Nat.le_refl _) (Nat.le_refl _) ⟨_, rfl, rfl, rfl⟩
  have tc1 : ¬ za.toInt = 38 := fun q => c1 (Int32.toInt_inj.mp (q.trans (by decide)))
  have tc4 : ¬ za.toInt = 43 := fun q => c4 (Int32.toInt_inj.mp (q.trans (by decide)))
  have tc5 : ¬ za.toInt = 60 := fun q => c5 (Int32.toInt_inj.mp (q.trans (by decide)))
  have tc7 : ¬ za.toInt = 61 := fun q => c7 (Int32.toInt_inj.mp (q.trans (by decide)))
  have tc9 : ¬ za.toInt = 62 := fun q => c9 (Int32.toInt_inj.mp (q.trans (by decide)))
  have tc11 : ¬ za.toInt = 124 := fun q => c11 (Int32.toInt_inj.mp (q.trans (by decide)))
  refine pm_lsw (off := 124) (tgt := 125) hG dX12_done_1 (by decide) (by simp [Op.lookupswitch.offset, tc1, Ne.symm tc1, tc4, Ne.symm tc4, tc5, Ne.symm tc5, tc7, Ne.symm tc7, tc9, Ne.symm tc9, tc11, Ne.symm tc11]) rfl ?_
  refine pm_iloadn hG dX12_done_125 rfl ?_
  refine pm_iloadn hG dX12_done_126 rfl ?_
  refine pm_isub hG dX12_done_127 ?_
  exact pm_iret hG hF dX12_done_128 rfl (Nat.le_refl _) (Nat.le_refl _) ⟨_, rfl, rfl, rfl⟩
