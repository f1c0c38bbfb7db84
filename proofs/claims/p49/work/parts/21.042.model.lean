set_option maxRecDepth 100000 in
set_option maxHeartbeats 4000000 in
theorem m_debt {d B cnt p0 t0 : Nat} {σ : pm_S} {I : Nat → Int32} {A : Nat → Nat → Int32} {n k z : Nat → Int32} {ac wt pl im : Int32} {y : Nat → Int32} {za zb zc : Int32} (hdd : 2 ≤ d) (hn : KI n) (hr : NR n) (hz : SZ z)  : pm_met mX12_debt d 0 0 B [.ref (B + 54), .int za, .int zb, .int zc] cnt (pm_mid σ (md_L B I A n k z ac wt pl (nI p0) (nI t0) im y)) (pm_Qi (fun v σ' cnt' => (∃ (I' : Nat → Int32) (A' : Nat → Nat → Int32) (n' : Nat → Int32), σ' = pm_mid σ (md_L B I' A' n' k z ac wt pl (nI p0) (nI t0) im y) ∧ KI n' ∧ NR n') ∧ cnt = cnt')) := by
  refine pm_enter 1 (by decide) (Nat.le_of_ble_eq_true rfl) rfl (fun G hG hR hF => ?_)
  refine pm_iloadn hG dX12_debt_0 rfl ?_
  refine pm_iconst (v := nI 0) hG dX12_debt_1 (by decide) ?_
  refine pm_ldc hG dX12_debt_2 (ctX12_242 _ rfl) ?_
  refine pm_top (v := nI 99999) (by decide) ?_
  refine pm_callS (As := [.int za, .int (nI 0), .int (nI 99999)]) (rest := []) hG hR dX12_debt_4 (lkX12_68 _ rfl) okS_X12_in (m_in (d := 1)) rfl rfl hdd (Nat.le_refl _) (Nat.le_refl _) (by decide) (pm_ki (fun v1 σ' cnt' hq => ?_))
  obtain ⟨hq, rfl, rfl⟩ := hq
  rcases hq with ⟨rfl, ac2, bc2⟩ | ⟨rfl, c2⟩
  · obtain ⟨k3, hk3, ek3⟩ := in_nat (by omega) (by omega) ac2 bc2
    refine pm_ifN_eq (tgt := 51) hG dX12_debt_7 rfl (by omega) (fun q => absurd q (by omega)) (fun _ => ?_)
    refine pm_iloadn hG dX12_debt_10 rfl ?_
    refine pm_if_lt (tgt := 51) hG dX12_debt_11 rfl (fun c4 => ?_) (fun c4 => ?_)
    · refine pm_aloadn hG dX12_debt_51 rfl ?_
      refine pm_iconst (v := nI 1) hG dX12_debt_52 (by decide) ?_
      refine pm_callV (As := [.int (nI 1)]) (rest := []) hG hR dX12_debt_53 (lkX12_80 _ rfl) okV_X12_finds rfl rfl (m_finds (d := 1) (by decide) hn hz (by omega)) rfl rfl hdd (Nat.le_refl _) (Nat.le_refl _) (by decide) (pm_ki (fun v5 σ' cnt' hq => ?_))
      obtain ⟨⟨I6, A6, rfl⟩, rfl, fv5⟩ := hq
      exact pm_iret hG hF dX12_debt_56 rfl (Nat.le_refl _) (Nat.le_refl _) ⟨_, rfl, ⟨_, _, _, rfl, hn, hr⟩, rfl⟩
    · obtain ⟨k7, hk7, ek7⟩ := nI_of c4
      refine pm_iloadn hG dX12_debt_14 rfl ?_
      refine pm_top (v := nI k7) ek7 ?_
      refine pm_sipush (v := nI 10000) hG dX12_debt_15 (by decide) ?_
      refine pm_idivN hG dX12_debt_18 (by omega) (by decide) (by decide) ?_
      refine pm_iconst (v := nI 0) hG dX12_debt_19 (by decide) ?_
      refine pm_bipush (v := nI 99) hG dX12_debt_20 (by decide) ?_
      refine pm_callS (As := [.int (nI ((k7 / 10000))), .int (nI 0), .int (nI 99)]) (rest := []) hG hR dX12_debt_22 (lkX12_68 _ rfl) okS_X12_in (m_in (d := 1)) rfl rfl hdd (Nat.le_refl _) (Nat.le_refl _) (by decide) (pm_ki (fun v8 σ' cnt' hq => ?_))
      obtain ⟨hq, rfl, rfl⟩ := hq
      rcases hq with ⟨rfl, ac9, bc9⟩ | ⟨rfl, c9⟩
      · have ic9 := (nI_leI (by omega) (by omega)).mp (Int32.not_lt.mp ac9)
        have jc9 := (nI_leI (by omega) (by omega)).mp (Int32.not_lt.mp bc9)
        refine pm_ifN_eq (tgt := 51) hG dX12_debt_25 rfl (by omega) (fun q => absurd q (by omega)) (fun _ => ?_)
        refine pm_iloadn hG dX12_debt_28 rfl ?_
        refine pm_top (v := nI k7) ek7 ?_
        refine pm_sipush (v := nI 10000) hG dX12_debt_29 (by decide) ?_
        refine pm_iremM hG dX12_debt_32 (by omega) (by decide) (by decide) ?_
        refine pm_iconst (v := nI 1) hG dX12_debt_33 (by decide) ?_
        refine pm_sipush (v := nI 9999) hG dX12_debt_34 (by decide) ?_
        refine pm_callS (As := [.int (nI ((k7 % 10000))), .int (nI 1), .int (nI 9999)]) (rest := []) hG hR dX12_debt_37 (lkX12_68 _ rfl) okS_X12_in (m_in (d := 1)) rfl rfl hdd (Nat.le_refl _) (Nat.le_refl _) (by decide) (pm_ki (fun v10 σ' cnt' hq => ?_))
        obtain ⟨hq, rfl, rfl⟩ := hq
        rcases hq with ⟨rfl, ac11, bc11⟩ | ⟨rfl, c11⟩
        · have ic11 := (nI_leI (by omega) (by omega)).mp (Int32.not_lt.mp ac11)
          have jc11 := (nI_leI (by omega) (by omega)).mp (Int32.not_lt.mp bc11)
          refine pm_ifN_eq (tgt := 51) hG dX12_debt_40 rfl (by omega) (fun q => absurd q (by omega)) (fun _ => ?_)
          refine pm_aloadn hG dX12_debt_43 rfl ?_
          refine pm_iloadn hG dX12_debt_44 rfl ?_
          obtain ⟨k12, hk12, ek12⟩ := KI.nat hn (show kd 0 = (1, 11, true) by decide)
          refine pm_callV (As := [.int zc]) (rest := []) hG hR dX12_debt_45 (lkX12_84 _ rfl) okV_X12_isTown rfl rfl (m_isTown (d := 1) (by decide) ek12 (by omega)) rfl rfl hdd (Nat.le_refl _) (Nat.le_refl _) (by decide) (pm_ki (fun v13 σ' cnt' hq => ?_))
          obtain ⟨hq, rfl, rfl⟩ := hq
          rcases hq with ⟨rfl, k15, hk15, ek15⟩ | rfl
          · refine pm_ifN_ne (tgt := 57) hG dX12_debt_48 rfl (by omega) (fun _ => ?_) (fun q => absurd q (by omega))
            refine pm_aloadn hG dX12_debt_57 rfl ?_
            refine pm_getf hG dX12_debt_58 (flX12_7 _ rfl) rfl rfl ?_
            refine pm_bipush (v := nI 6) hG dX12_debt_61 (by decide) ?_
            refine pm_ialdN hG dX12_debt_63 rfl (by decide) (by omega) ?_
            obtain ⟨k16, hk16, ek16⟩ := KI.nat hn (show kd 6 = (1, 7, false) by decide)
            refine pm_top (v := nI k16) ek16 ?_
            refine pm_istoreXi (loc' := [some (.ref (B + 54)), some (.int za), some (.int zb), some (.int zc), some (.int (nI k16))]) hG dX12_debt_64 (by decide) (pm_c1b rfl) rfl ?_
            refine pm_iloadi hG dX12_debt_66 rfl ?_
            refine pm_bipush (v := nI 6) hG dX12_debt_68 (by decide) ?_
            refine pm_icmpN_ne (tgt := 79) hG dX12_debt_70 rfl (by omega) (by omega) (fun c17 => ?_) (fun c17 => ?_)
            · refine pm_aloadn hG dX12_debt_79 rfl ?_
              refine pm_getf hG dX12_debt_80 (flX12_7 _ rfl) rfl rfl ?_
              refine pm_bipush (v := nI 6) hG dX12_debt_83 (by decide) ?_
              refine pm_dup2 hG dX12_debt_85 rfl rfl ?_
              refine pm_ialdN hG dX12_debt_86 rfl (by decide) (by omega) ?_
              refine pm_top (v := nI k16) ek16 ?_
              refine pm_iconst (v := nI 1) hG dX12_debt_87 (by decide) ?_
              refine pm_iaddN (c := k16 + 1) hG dX12_debt_88 (by omega) ?_
              refine pm_iastN hG dX12_debt_89 rfl (by decide) (by omega) ?_
              refine mdn_now (fun n_18 en_18 => ?_)
              have hnn_18 := KI.w en_18 hn (okv_n (show kd 6 = (1, 7, false) by decide) (by omega))
              have hrn_18 := NRx.w en_18 hr (by rw [(show kd 6 = (1, 7, false) by decide)])
              have e19 : n_18 0 = nI k12 := by rw [en_18, pk_un (by omega)]; exact ek12
              have e20 : n_18 6 = nI (k16 + 1) := by rw [en_18, pk_us]
              refine pm_aloadn hG dX12_debt_90 rfl ?_
              refine pm_getf hG dX12_debt_91 (flX12_7 _ rfl) rfl rfl ?_
              refine pm_sipush (v := nI 1770) hG dX12_debt_94 (by decide) ?_
              refine pm_bipush (v := nI 6) hG dX12_debt_97 (by decide) ?_
              refine pm_iloadi hG dX12_debt_99 rfl ?_
              refine pm_imulN (c := 6 * k16) hG dX12_debt_101 (by omega) ?_
              refine pm_iaddN (c := 6 * k16 + 1770) hG dX12_debt_102 (by omega) ?_
              refine pm_iloadn hG dX12_debt_103 rfl ?_
              refine pm_top (v := nI k3) ek3 ?_
              refine pm_iastN hG dX12_debt_104 rfl (by decide) (by omega) ?_
              refine mdn_now (fun n_21 en_21 => ?_)
              have hnn_21 := KI.w en_21 hnn_18 (okv_f (show kd (6 * k16 + 1770) = (0, 0, false) from (kd_D (k := k16) (c := 0) (by omega) (by omega) (by decide))))
              have hrn_21 := NRx.w en_21 hrn_18 (by rw [(show kd (6 * k16 + 1770) = (0, 0, false) from (kd_D (k := k16) (c := 0) (by omega) (by omega) (by decide)))])
              have e22 : n_21 0 = nI k12 := by rw [en_21, pk_un (by omega)]; exact e19
              have e23 : n_21 6 = nI (k16 + 1) := by rw [en_21, pk_un (by omega)]; exact e20
              have e24 : n_21 (6 * k16 + 1770) = nI k3 := by rw [en_21, pk_us]
              refine pm_aloadn hG dX12_debt_105 rfl ?_
              refine pm_getf hG dX12_debt_106 (flX12_7 _ rfl) rfl rfl ?_
              refine pm_sipush (v := nI 1770) hG dX12_debt_109 (by decide) ?_
              refine pm_bipush (v := nI 6) hG dX12_debt_112 (by decide) ?_
              refine pm_iloadi hG dX12_debt_114 rfl ?_
              refine pm_imulN (c := 6 * k16) hG dX12_debt_116 (by omega) ?_
              refine pm_iaddN (c := 6 * k16 + 1770) hG dX12_debt_117 (by omega) ?_
              refine pm_iconst (v := nI 1) hG dX12_debt_118 (by decide) ?_
              refine pm_iaddN (c := 6 * k16 + 1771) hG dX12_debt_119 (by omega) ?_
              refine pm_iloadn hG dX12_debt_120 rfl ?_
              refine pm_top (v := nI k7) ek7 ?_
              refine pm_sipush (v := nI 10000) hG dX12_debt_121 (by decide) ?_
              refine pm_idivN hG dX12_debt_124 (by omega) (by decide) (by decide) ?_
              refine pm_iastN hG dX12_debt_125 rfl (by decide) (by omega) ?_
              refine mdn_now (fun n_25 en_25 => ?_)
              have hnn_25 := KI.w en_25 hnn_21 (okv_f (show kd (6 * k16 + 1771) = (0, 0, false) from (kd_D (k := k16) (c := 1) (by omega) (by omega) (by decide))))
              have hrn_25 := NRx.w en_25 hrn_21 (by rw [(show kd (6 * k16 + 1771) = (0, 0, false) from (kd_D (k := k16) (c := 1) (by omega) (by omega) (by decide)))])
              have e26 : n_25 0 = nI k12 := by rw [en_25, pk_un (by omega)]; exact e22
              have e27 : n_25 6 = nI (k16 + 1) := by rw [en_25, pk_un (by omega)]; exact e23
              have e28 : n_25 (6 * k16 + 1770) = nI k3 := by rw [en_25, pk_un (by omega)]; exact e24
              have e29 : n_25 (6 * k16 + 1771) = nI ((k7 / 10000)) := by rw [en_25, pk_us]
              refine pm_aloadn hG dX12_debt_126 rfl ?_
              refine pm_getf hG dX12_debt_127 (flX12_7 _ rfl) rfl rfl ?_
              refine pm_sipush (v := nI 1770) hG dX12_debt_130 (by decide) ?_
              refine pm_bipush (v := nI 6) hG dX12_debt_133 (by decide) ?_
              refine pm_iloadi hG dX12_debt_135 rfl ?_
              refine pm_imulN (c := 6 * k16) hG dX12_debt_137 (by omega) ?_
              refine pm_iaddN (c := 6 * k16 + 1770) hG dX12_debt_138 (by omega) ?_
              refine pm_iconst (v := nI 2) hG dX12_debt_139 (by decide) ?_
              refine pm_iaddN (c := 6 * k16 + 1772) hG dX12_debt_140 (by omega) ?_
              refine pm_iloadn hG dX12_debt_141 rfl ?_
              refine pm_top (v := nI k7) ek7 ?_
              refine pm_sipush (v := nI 10000) hG dX12_debt_142 (by decide) ?_
              refine pm_iremM hG dX12_debt_145 (by omega) (by decide) (by decide) ?_
              refine pm_iastN hG dX12_debt_146 rfl (by decide) (by omega) ?_
              refine mdn_now (fun n_30 en_30 => ?_)
              have hnn_30 := KI.w en_30 hnn_25 (okv_f (show kd (6 * k16 + 1772) = (0, 0, false) from (kd_D (k := k16) (c := 2) (by omega) (by omega) (by decide))))
              have hrn_30 := NRx.w en_30 hrn_25 (by rw [(show kd (6 * k16 + 1772) = (0, 0, false) from (kd_D (k := k16) (c := 2) (by omega) (by omega) (by decide)))])
              have e31 : n_30 0 = nI k12 := by rw [en_30, pk_un (by omega)]; exact e26
              have e32 : n_30 6 = nI (k16 + 1) := by rw [en_30, pk_un (by omega)]; exact e27
              have e33 : n_30 (6 * k16 + 1770) = nI k3 := by rw [en_30, pk_un (by omega)]; exact e28
              have e34 : n_30 (6 * k16 + 1771) = nI ((k7 / 10000)) := by rw [en_30, pk_un (by omega)]; exact e29
              have e35 : n_30 (6 * k16 + 1772) = nI ((k7 % 10000)) := by rw [en_30, pk_us]
              refine pm_aloadn hG dX12_debt_147 rfl ?_
              refine pm_getf hG dX12_debt_148 (flX12_7 _ rfl) rfl rfl ?_
              refine pm_sipush (v := nI 1770) hG dX12_debt_151 (by decide) ?_
              refine pm_bipush (v := nI 6) hG dX12_debt_154 (by decide) ?_
              refine pm_iloadi hG dX12_debt_156 rfl ?_
              refine pm_imulN (c := 6 * k16) hG dX12_debt_158 (by omega) ?_
              refine pm_iaddN (c := 6 * k16 + 1770) hG dX12_debt_159 (by omega) ?_
              refine pm_iconst (v := nI 3) hG dX12_debt_160 (by decide) ?_
              refine pm_iaddN (c := 6 * k16 + 1773) hG dX12_debt_161 (by omega) ?_
              refine pm_iconst (v := nI 0) hG dX12_debt_162 (by decide) ?_
              refine pm_iastN hG dX12_debt_163 rfl (by decide) (by omega) ?_
              refine mdn_now (fun n_36 en_36 => ?_)
              have hnn_36 := KI.w en_36 hnn_30 (okv_f (show kd (6 * k16 + 1773) = (0, 0, false) from (kd_D (k := k16) (c := 3) (by omega) (by omega) (by decide))))
              have hrn_36 := NRx.w en_36 hrn_30 (by rw [(show kd (6 * k16 + 1773) = (0, 0, false) from (kd_D (k := k16) (c := 3) (by omega) (by omega) (by decide)))])
              have e37 : n_36 0 = nI k12 := by rw [en_36, pk_un (by omega)]; exact e31
              have e38 : n_36 6 = nI (k16 + 1) := by rw [en_36, pk_un (by omega)]; exact e32
              have e39 : n_36 (6 * k16 + 1770) = nI k3 := by rw [en_36, pk_un (by omega)]; exact e33
              have e40 : n_36 (6 * k16 + 1771) = nI ((k7 / 10000)) := by rw [en_36, pk_un (by omega)]; exact e34
              have e41 : n_36 (6 * k16 + 1772) = nI ((k7 % 10000)) := by rw [en_36, pk_un (by omega)]; exact e35
              have e42 : n_36 (6 * k16 + 1773) = nI 0 := by rw [en_36, pk_us]
              refine pm_aloadn hG dX12_debt_164 rfl ?_
              refine pm_getf hG dX12_debt_165 (flX12_7 _ rfl) rfl rfl ?_
              refine pm_sipush (v := nI 1770) hG dX12_debt_168 (by decide) ?_
              refine pm_bipush (v := nI 6) hG dX12_debt_171 (by decide) ?_
              refine pm_iloadi hG dX12_debt_173 rfl ?_
              refine pm_imulN (c := 6 * k16) hG dX12_debt_175 (by omega) ?_
              refine pm_iaddN (c := 6 * k16 + 1770) hG dX12_debt_176 (by omega) ?_
              refine pm_iconst (v := nI 4) hG dX12_debt_177 (by decide) ?_
              refine pm_iaddN (c := 6 * k16 + 1774) hG dX12_debt_178 (by omega) ?_
              refine pm_iloadn hG dX12_debt_179 rfl ?_
              refine pm_top (v := nI k15) ek15 ?_
              refine pm_iastN hG dX12_debt_180 rfl (by decide) (by omega) ?_
              refine mdn_now (fun n_43 en_43 => ?_)
              have hnn_43 := KI.w en_43 hnn_36 (okv_n (show kd (6 * k16 + 1774) = (1, 10, false) from (kd_D (k := k16) (c := 4) (by omega) (by omega) (by decide))) (by omega))
              have hrn_43 := NRx.w en_43 hrn_36 (by rw [(show kd (6 * k16 + 1774) = (1, 10, false) from (kd_D (k := k16) (c := 4) (by omega) (by omega) (by decide)))])
              have e44 : n_43 0 = nI k12 := by rw [en_43, pk_un (by omega)]; exact e37
              have e45 : n_43 6 = nI (k16 + 1) := by rw [en_43, pk_un (by omega)]; exact e38
              have e46 : n_43 (6 * k16 + 1770) = nI k3 := by rw [en_43, pk_un (by omega)]; exact e39
              have e47 : n_43 (6 * k16 + 1771) = nI ((k7 / 10000)) := by rw [en_43, pk_un (by omega)]; exact e40
              have e48 : n_43 (6 * k16 + 1772) = nI ((k7 % 10000)) := by rw [en_43, pk_un (by omega)]; exact e41
              have e49 : n_43 (6 * k16 + 1773) = nI 0 := by rw [en_43, pk_un (by omega)]; exact e42
              have e50 : n_43 (6 * k16 + 1774) = nI k15 := by rw [en_43, pk_us]
              refine pm_aloadn hG dX12_debt_181 rfl ?_
              refine pm_getf hG dX12_debt_182 (flX12_7 _ rfl) rfl rfl ?_
              refine pm_bipush (v := nI 9) hG dX12_debt_185 (by decide) ?_
              refine pm_dup2 hG dX12_debt_187 rfl rfl ?_
              refine pm_ialdN hG dX12_debt_188 rfl (by decide) (by omega) ?_
              refine pm_gen (fun x51 ex51 => ?_)
              refine pm_iloadn hG dX12_debt_189 rfl ?_
              refine pm_top (v := nI k3) ek3 ?_
              refine pm_iadd hG dX12_debt_190 ?_
              refine pm_iastN hG dX12_debt_191 rfl (by decide) (by omega) ?_
              refine mdn_now (fun n_52 en_52 => ?_)
              have hnn_52 := KI.w en_52 hnn_43 (okv_f (show kd 9 = (0, 0, false) by decide))
              have hrn_52 := NRx.w en_52 hrn_43 (by rw [(show kd 9 = (0, 0, false) by decide)])
              have e53 : n_52 0 = nI k12 := by rw [en_52, pk_un (by omega)]; exact e44
              have e54 : n_52 6 = nI (k16 + 1) := by rw [en_52, pk_un (by omega)]; exact e45
              have e55 : n_52 (6 * k16 + 1770) = nI k3 := by rw [en_52, pk_un (by omega)]; exact e46
              have e56 : n_52 (6 * k16 + 1771) = nI ((k7 / 10000)) := by rw [en_52, pk_un (by omega)]; exact e47
              have e57 : n_52 (6 * k16 + 1772) = nI ((k7 % 10000)) := by rw [en_52, pk_un (by omega)]; exact e48
              have e58 : n_52 (6 * k16 + 1773) = nI 0 := by rw [en_52, pk_un (by omega)]; exact e49
              have e59 : n_52 (6 * k16 + 1774) = nI k15 := by rw [en_52, pk_un (by omega)]; exact e50
              have e60 : n_52 9 = x51 + (nI k3) := by rw [en_52, pk_us]
              refine pm_iloadi hG dX12_debt_192 rfl ?_
              exact pm_iret hG hF dX12_debt_194 rfl (Nat.le_refl _) (Nat.le_refl _) ⟨_, rfl, ⟨_, _, _, rfl, hnn_52, hrn_52⟩, rfl⟩
            · refine pm_aloadn hG dX12_debt_73 rfl ?_
              refine pm_iconst (v := nI 4) hG dX12_debt_74 (by decide) ?_
              refine pm_callV (As := [.int (nI 4)]) (rest := []) hG hR dX12_debt_75 (lkX12_80 _ rfl) okV_X12_finds rfl rfl (m_finds (d := 1) (by decide) hn hz (by omega)) rfl rfl hdd (Nat.le_refl _) (Nat.le_refl _) (by decide) (pm_ki (fun v61 σ' cnt' hq => ?_))
              obtain ⟨⟨I62, A62, rfl⟩, rfl, fv61⟩ := hq
              exact pm_iret hG hF dX12_debt_78 rfl (Nat.le_refl _) (Nat.le_refl _) ⟨_, rfl, ⟨_, _, _, rfl, hn, hr⟩, rfl⟩
          · refine pm_ifN_ne (tgt := 57) hG dX12_debt_48 rfl (by omega) (fun q => absurd q (by omega)) (fun _ => ?_)
            refine pm_aloadn hG dX12_debt_51 rfl ?_
            refine pm_iconst (v := nI 1) hG dX12_debt_52 (by decide) ?_
            refine pm_callV (As := [.int (nI 1)]) (rest := []) hG hR dX12_debt_53 (lkX12_80 _ rfl) okV_X12_finds rfl rfl (m_finds (d := 1) (by decide) hn hz (by omega)) rfl rfl hdd (Nat.le_refl _) (Nat.le_refl _) (by decide) (pm_ki (fun v63 σ' cnt' hq => ?_))
            obtain ⟨⟨I64, A64, rfl⟩, rfl, fv63⟩ := hq
            exact pm_iret hG hF dX12_debt_56 rfl (Nat.le_refl _) (Nat.le_refl _) ⟨_, rfl, ⟨_, _, _, rfl, hn, hr⟩, rfl⟩
        · refine pm_ifN_eq (tgt := 51) hG dX12_debt_40 rfl (by omega) (fun _ => ?_) (fun q => absurd q (by omega))
          refine pm_aloadn hG dX12_debt_51 rfl ?_
          refine pm_iconst (v := nI 1) hG dX12_debt_52 (by decide) ?_
          refine pm_callV (As := [.int (nI 1)]) (rest := []) hG hR dX12_debt_53 (lkX12_80 _ rfl) okV_X12_finds rfl rfl (m_finds (d := 1) (by decide) hn hz (by omega)) rfl rfl hdd (Nat.le_refl _) (Nat.le_refl _) (by decide) (pm_ki (fun v65 σ' cnt' hq => ?_))
          obtain ⟨⟨I66, A66, rfl⟩, rfl, fv65⟩ := hq
          exact pm_iret hG hF dX12_debt_56 rfl (Nat.le_refl _) (Nat.le_refl _) ⟨_, rfl, ⟨_, _, _, rfl, hn, hr⟩, rfl⟩
      · refine pm_ifN_eq (tgt := 51) hG dX12_debt_25 rfl (by omega) (fun _ => ?_) (fun q => absurd q (by omega))
        refine pm_aloadn hG dX12_debt_51 rfl ?_
        refine pm_iconst (v := nI 1) hG dX12_debt_52 (by decide) ?_
        refine pm_callV (As := [.int (nI 1)]) (rest := []) hG hR dX12_debt_53 (lkX12_80 _ rfl) okV_X12_finds rfl rfl (m_finds (d := 1) (by decide) hn hz (by omega)) rfl rfl hdd (Nat.le_refl _) (Nat.le_refl _) (by decide) (pm_ki (fun v67 σ' cnt' hq => ?_))
        obtain ⟨⟨I68, A68, rfl⟩, rfl, fv67⟩ := hq
        exact pm_iret hG hF dX12_debt_56 rfl (Nat.le_refl _) (Nat.le_refl _) ⟨_, rfl, ⟨_, _, _, rfl, hn, hr⟩, rfl⟩
  · refine pm_ifN_eq (tgt := 51) hG dX12_debt_7 rfl (by omega) (fun _ => ?_) (fun q => absurd q (by omega))
    refine pm_aloadn hG dX12_debt_51 rfl ?_
    refine pm_iconst (v := nI 1) hG dX12_debt_52 (by decide) ?_
    refine pm_callV (As := [.int (nI 1)]) (rest := []) hG hR dX12_debt_53 (lkX12_80 _ rfl) okV_X12_finds rfl rfl (m_finds (d := 1) (by decide) hn hz (by omega)) rfl rfl hdd (Nat.le_refl _) (Nat.le_refl _) (by decide) (pm_ki (fun v69 σ' cnt' hq => ?_))
    obtain ⟨⟨I70, A70, rfl⟩, rfl, fv69⟩ := hq
    exact pm_iret hG hF dX12_debt_56 rfl (Nat.le_refl _) (Nat.le_refl _) ⟨_, rfl, ⟨_, _, _, rfl, hn, hr⟩, rfl⟩
