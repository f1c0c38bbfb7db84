set_option maxRecDepth 100000 in
set_option maxHeartbeats 4000000 in
theorem m_setNames_m_m {d B cnt p0 t0 : Nat} {σ : pm_S} {I : Nat → Int32} {A : Nat → Nat → Int32} {n k z : Nat → Int32} {ac wt pl im : Int32} {y : Nat → Int32} {zc : Int32} (hdd : 1 ≤ d) (hn : KI n) (hz : SZ z)  : pm_met mX12_setNames d 0 0 B [.ref (B + 54), .int (-1), .int (-1), .int zc] cnt (pm_mid σ (md_L B I A n k z ac wt pl (nI p0) (nI t0) im y)) (pm_Qv (fun σ' cnt' => (∃ (I' : Nat → Int32) (A' : Nat → Nat → Int32), σ' = pm_mid σ (md_L B I' A' n k z ac wt pl (nI p0) (nI t0) im y)) ∧ cnt = cnt')) := by
  refine pm_enter 0 (by decide) (Nat.le_of_ble_eq_true rfl) rfl (fun G hG hR hF => ?_)
  refine pm_aloadn hG dX12_setNames_0 rfl ?_
  refine pm_getf hG dX12_setNames_1 (flX12_34 _ rfl) rfl rfl ?_
  refine pm_iconst (v := nI 0) hG dX12_setNames_4 (by decide) ?_
  refine pm_iloadn hG dX12_setNames_5 rfl ?_
  refine pm_if_ge (tgt := 13) hG dX12_setNames_6 rfl (fun q => absurd q (by decide)) (fun _ => ?_)
  refine pm_iconst (v := nI 0) hG dX12_setNames_9 (by decide) ?_
  refine pm_goto (tgt := 25) hG dX12_setNames_10 rfl ?_
  refine pm_iastN hG dX12_setNames_25 rfl (by decide) (by omega) ?_
  refine mdn_names (fun A_1 => ?_)
  refine pm_aloadn hG dX12_setNames_26 rfl ?_
  refine pm_getf hG dX12_setNames_27 (flX12_34 _ rfl) rfl rfl ?_
  refine pm_iconst (v := nI 1) hG dX12_setNames_30 (by decide) ?_
  refine pm_iloadn hG dX12_setNames_31 rfl ?_
  refine pm_if_ge (tgt := 39) hG dX12_setNames_32 rfl (fun q => absurd q (by decide)) (fun _ => ?_)
  refine pm_iconst (v := nI 0) hG dX12_setNames_35 (by decide) ?_
  refine pm_goto (tgt := 45) hG dX12_setNames_36 rfl ?_
  refine pm_iastN hG dX12_setNames_45 rfl (by decide) (by omega) ?_
  refine mdn_names (fun A_2 => ?_)
  refine pm_aloadn hG dX12_setNames_46 rfl ?_
  refine pm_getf hG dX12_setNames_47 (flX12_34 _ rfl) rfl rfl ?_
  refine pm_iconst (v := nI 2) hG dX12_setNames_50 (by decide) ?_
  refine pm_iloadn hG dX12_setNames_51 rfl ?_
  refine pm_if_ge (tgt := 59) hG dX12_setNames_52 rfl (fun q => absurd q (by decide)) (fun _ => ?_)
  refine pm_iconst (v := nI 0) hG dX12_setNames_55 (by decide) ?_
  refine pm_goto (tgt := 64) hG dX12_setNames_56 rfl ?_
  refine pm_iastN hG dX12_setNames_64 rfl (by decide) (by omega) ?_
  refine mdn_names (fun A_3 => ?_)
  refine pm_aloadn hG dX12_setNames_65 rfl ?_
  refine pm_getf hG dX12_setNames_66 (flX12_34 _ rfl) rfl rfl ?_
  refine pm_iconst (v := nI 3) hG dX12_setNames_69 (by decide) ?_
  refine pm_iloadn hG dX12_setNames_70 rfl ?_
  refine pm_if_ge (tgt := 78) hG dX12_setNames_71 rfl (fun q => absurd q (by decide)) (fun _ => ?_)
  refine pm_iconst (v := nI 0) hG dX12_setNames_74 (by decide) ?_
  refine pm_goto (tgt := 85) hG dX12_setNames_75 rfl ?_
  refine pm_iastN hG dX12_setNames_85 rfl (by decide) (by omega) ?_
  refine mdn_names (fun A_4 => ?_)
  refine pm_aloadn hG dX12_setNames_86 rfl ?_
  refine pm_getf hG dX12_setNames_87 (flX12_34 _ rfl) rfl rfl ?_
  refine pm_iconst (v := nI 4) hG dX12_setNames_90 (by decide) ?_
  refine pm_iloadn hG dX12_setNames_91 rfl ?_
  refine pm_if_ge (tgt := 99) hG dX12_setNames_92 rfl (fun q => absurd q (by decide)) (fun _ => ?_)
  refine pm_iconst (v := nI 0) hG dX12_setNames_95 (by decide) ?_
  refine pm_goto (tgt := 106) hG dX12_setNames_96 rfl ?_
  refine pm_iastN hG dX12_setNames_106 rfl (by decide) (by omega) ?_
  refine mdn_names (fun A_5 => ?_)
  refine pm_aloadn hG dX12_setNames_107 rfl ?_
  refine pm_getf hG dX12_setNames_108 (flX12_34 _ rfl) rfl rfl ?_
  refine pm_iconst (v := nI 5) hG dX12_setNames_111 (by decide) ?_
  refine pm_iloadn hG dX12_setNames_112 rfl ?_
  refine pm_if_ge (tgt := 120) hG dX12_setNames_113 rfl (fun q => absurd q (by decide)) (fun _ => ?_)
  refine pm_iconst (v := nI 0) hG dX12_setNames_116 (by decide) ?_
  refine pm_goto (tgt := 140) hG dX12_setNames_117 rfl ?_
  refine pm_iastN hG dX12_setNames_140 rfl (by decide) (by omega) ?_
  refine mdn_names (fun A_6 => ?_)
  refine pm_aloadn hG dX12_setNames_141 rfl ?_
  refine pm_getf hG dX12_setNames_142 (flX12_34 _ rfl) rfl rfl ?_
  refine pm_bipush (v := nI 6) hG dX12_setNames_145 (by decide) ?_
  refine pm_iloadn hG dX12_setNames_147 rfl ?_
  refine pm_if_ge (tgt := 155) hG dX12_setNames_148 rfl (fun q => absurd q (by decide)) (fun _ => ?_)
  refine pm_iconst (v := nI 0) hG dX12_setNames_151 (by decide) ?_
  refine pm_goto (tgt := 160) hG dX12_setNames_152 rfl ?_
  refine pm_iastN hG dX12_setNames_160 rfl (by decide) (by omega) ?_
  refine mdn_names (fun A_7 => ?_)
  refine pm_aloadn hG dX12_setNames_161 rfl ?_
  refine pm_getf hG dX12_setNames_162 (flX12_34 _ rfl) rfl rfl ?_
  refine pm_bipush (v := nI 7) hG dX12_setNames_165 (by decide) ?_
  refine pm_iloadn hG dX12_setNames_167 rfl ?_
  refine pm_if_ge (tgt := 175) hG dX12_setNames_168 rfl (fun q => absurd q (by decide)) (fun _ => ?_)
  refine pm_iconst (v := nI 0) hG dX12_setNames_171 (by decide) ?_
  refine pm_goto (tgt := 184) hG dX12_setNames_172 rfl ?_
  refine pm_iastN hG dX12_setNames_184 rfl (by decide) (by omega) ?_
  refine mdn_names (fun A_8 => ?_)
  refine pm_aloadn hG dX12_setNames_185 rfl ?_
  refine pm_getf hG dX12_setNames_186 (flX12_34 _ rfl) rfl rfl ?_
  refine pm_bipush (v := nI 8) hG dX12_setNames_189 (by decide) ?_
  refine pm_iloadn hG dX12_setNames_191 rfl ?_
  refine pm_if_ge (tgt := 199) hG dX12_setNames_192 rfl (fun q => absurd q (by decide)) (fun _ => ?_)
  refine pm_iconst (v := nI 0) hG dX12_setNames_195 (by decide) ?_
  refine pm_goto (tgt := 205) hG dX12_setNames_196 rfl ?_
  refine pm_iastN hG dX12_setNames_205 rfl (by decide) (by omega) ?_
  refine mdn_names (fun A_9 => ?_)
  refine pm_aloadn hG dX12_setNames_206 rfl ?_
  refine pm_getf hG dX12_setNames_207 (flX12_34 _ rfl) rfl rfl ?_
  refine pm_bipush (v := nI 9) hG dX12_setNames_210 (by decide) ?_
  refine pm_iloadn hG dX12_setNames_212 rfl ?_
  refine pm_if_ge (tgt := 220) hG dX12_setNames_213 rfl (fun q => absurd q (by decide)) (fun _ => ?_)
  refine pm_iconst (v := nI 0) hG dX12_setNames_216 (by decide) ?_
  refine pm_goto (tgt := 226) hG dX12_setNames_217 rfl ?_
  refine pm_iastN hG dX12_setNames_226 rfl (by decide) (by omega) ?_
  refine mdn_names (fun A_10 => ?_)
  refine pm_aloadn hG dX12_setNames_227 rfl ?_
  refine pm_getf hG dX12_setNames_228 (flX12_34 _ rfl) rfl rfl ?_
  refine pm_bipush (v := nI 10) hG dX12_setNames_231 (by decide) ?_
  refine pm_iloadn hG dX12_setNames_233 rfl ?_
  refine pm_iastN hG dX12_setNames_234 rfl (by decide) (by omega) ?_
  refine mdn_names (fun A_11 => ?_)
  exact pm_vret hG hF dX12_setNames_235 rfl (Nat.le_refl _) (Nat.le_refl _) ⟨rfl, ⟨_, _, rfl⟩, rfl⟩
