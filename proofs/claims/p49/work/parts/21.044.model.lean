set_option maxRecDepth 100000 in
set_option maxHeartbeats 4000000 in
theorem m_die {d B cnt p0 t0 : Nat} {σ : pm_S} {I : Nat → Int32} {A : Nat → Nat → Int32} {n k z : Nat → Int32} {ac wt pl im : Int32} {y : Nat → Int32} {za : Int32} (hdd : 4 ≤ d) (hn : KI n) (hr : NR n) (hz : SZ z)  : pm_met mX12_die d 0 0 B [.ref (B + 54), .int za] cnt (pm_mid σ (md_L B I A n k z ac wt pl (nI p0) (nI t0) im y)) (pm_Qi (fun v σ' cnt' => (∃ (I' : Nat → Int32) (A' : Nat → Nat → Int32) (n' : Nat → Int32), σ' = pm_mid σ (md_L B I' A' n' k z ac wt pl (nI p0) (nI t0) im y) ∧ KI n' ∧ NR n') ∧ cnt = cnt')) := by
  refine pm_enter 3 (by decide) (Nat.le_of_ble_eq_true rfl) rfl (fun G hG hR hF => ?_)
  refine pm_aloadn hG dX12_die_0 rfl ?_
  refine pm_iloadn hG dX12_die_1 rfl ?_
  obtain ⟨k1, hk1, ek1⟩ := KI.nat hn (show kd 2 = (1, 21, true) by decide)
  refine pm_callV (As := [.int za]) (rest := []) hG hR dX12_die_2 (lkX12_91 _ rfl) okV_X12_isPerson rfl rfl (m_isPerson (d := 3) (by decide) ek1 (by omega)) rfl rfl hdd (Nat.le_refl _) (Nat.le_refl _) (by decide) (pm_ki (fun v2 σ' cnt' hq => ?_))
  obtain ⟨hq, rfl, rfl⟩ := hq
  rcases hq with ⟨rfl, k4, hk4, ek4⟩ | rfl
  · refine pm_ifN_ne (tgt := 14) hG dX12_die_5 rfl (by omega) (fun _ => ?_) (fun q => absurd q (by omega))
    refine pm_aloadn hG dX12_die_14 rfl ?_
    refine pm_iloadn hG dX12_die_15 rfl ?_
    refine pm_top (v := nI k4) ek4 ?_
    rcases KI.opt hn (show kd (14 * k4 + 119) = (2, 2001, false) from (kd_P (k := k4) (c := 9) (by omega) (by omega) (by decide))) with ek5 | ⟨k5, hk5, ek5⟩
    · refine pm_callV (As := [.int (nI k4)]) (rest := []) hG hR dX12_die_16 (lkX12_101 _ rfl) okV_X12_lives rfl rfl (m_lives1 (d := 3) (by decide) (by omega) (by omega : 14 * k4 + 119 = 14 * k4 + 119) ek5) rfl rfl hdd (Nat.le_refl _) (Nat.le_refl _) (by decide) (pm_ki (fun v6 σ' cnt' hq => ?_))
      obtain ⟨rfl, rfl, rfl⟩ := hq
      refine pm_ifN_ne (tgt := 28) hG dX12_die_19 rfl (by omega) (fun _ => ?_) (fun q => absurd q (by omega))
      refine pm_aloadn hG dX12_die_28 rfl ?_
      refine pm_iloadn hG dX12_die_29 rfl ?_
      refine pm_top (v := nI k4) ek4 ?_
      refine pm_bipush (v := nI 7) hG dX12_die_30 (by decide) ?_
      refine pm_callV (As := [.int (nI k4), .int (nI 7)]) (rest := []) hG hR dX12_die_32 (lkX12_72 _ rfl) okV_X12_man rfl rfl (m_man (d := 3) (e := 14 * k4 + 117) (by omega) (by omega) (by omega)) rfl rfl hdd (Nat.le_refl _) (Nat.le_refl _) (by decide) (pm_ki (fun v7 σ' cnt' hq => ?_))
      obtain ⟨rfl, rfl, rfl⟩ := hq
      refine pm_gen (fun x8 ex8 => ?_)
      refine pm_istoreXn (loc' := [some (.ref (B + 54)), some (.int za), some (.int x8), none, none]) hG dX12_die_35 (by decide) (pm_c1b rfl) rfl ?_
      refine pm_aloadn hG dX12_die_36 rfl ?_
      refine pm_iloadn hG dX12_die_37 rfl ?_
      refine pm_top (v := nI k4) ek4 ?_
      refine pm_bipush (v := nI 10) hG dX12_die_38 (by decide) ?_
      refine pm_aloadn hG dX12_die_40 rfl ?_
      refine pm_iloadn hG dX12_die_41 rfl ?_
      refine pm_top (v := nI k4) ek4 ?_
      refine pm_callV (As := [.int (nI k4)]) (rest := [.int (nI 10), .int (nI k4), .ref (B + 54)]) hG hR dX12_die_42 (lkX12_104 _ rfl) okV_X12_knownTo rfl rfl (m_knownTo (d := 3) (by decide) hn hz (by omega)) rfl rfl hdd (Nat.le_refl _) (Nat.le_refl _) (Nat.le_of_ble_eq_true rfl) (pm_ki (fun v9 σ' cnt' hq => ?_))
      obtain ⟨⟨I10, A10, rfl⟩, rfl⟩ := hq
      refine pm_callV (As := [.int (nI k4), .int (nI 10), .int v9]) (rest := []) hG hR dX12_die_45 (lkX12_97 _ rfl) okV_X12_sets rfl rfl (m_sets (d := 3) (e := 14 * k4 + 120) (by omega) (by omega) (by omega)) rfl rfl hdd (Nat.le_refl _) (Nat.le_refl _) (by decide) (pm_kv (fun σ' cnt' hq => ?_))
      obtain ⟨rfl, rfl⟩ := hq
      obtain ⟨n_11, en_11⟩ : ∃ f : Nat → Int32, f = upd n (14 * k4 + 120) v9 := ⟨_, rfl⟩
      rw [← en_11]
      have hnn_11 := KI.w en_11 hn (okv_f (show kd (14 * k4 + 120) = (0, 0, false) from (kd_P (k := k4) (c := 10) (by omega) (by omega) (by decide))))
      have hrn_11 := NRx.w en_11 hr (by rw [(show kd (14 * k4 + 120) = (0, 0, false) from (kd_P (k := k4) (c := 10) (by omega) (by omega) (by decide)))])
      have e12 : n_11 2 = nI k1 := by rw [en_11, pk_un (by omega)]; exact ek1
      have e13 : n_11 (14 * k4 + 119) = (-1) := by rw [en_11, pk_un (by omega)]; exact ek5
      have e14 : n_11 (14 * k4 + 117) = x8 := by rw [en_11, pk_un (by omega)]; exact ex8
      have e15 : n_11 (14 * k4 + 120) = v9 := by rw [en_11, pk_us]
      refine pm_aloadn hG dX12_die_48 rfl ?_
      refine pm_iloadn hG dX12_die_49 rfl ?_
      refine pm_top (v := nI k4) ek4 ?_
      refine pm_bipush (v := nI 9) hG dX12_die_50 (by decide) ?_
      refine pm_aloadn hG dX12_die_52 rfl ?_
      refine pm_getf hG dX12_die_53 (flX12_7 _ rfl) rfl rfl ?_
      refine pm_bipush (v := nI 8) hG dX12_die_56 (by decide) ?_
      refine pm_ialdN hG dX12_die_58 rfl (by decide) (by omega) ?_
      obtain ⟨k16, hk16, ek16⟩ := KI.nat hnn_11 (show kd 8 = (1, 2001, false) by decide)
      refine pm_top (v := nI k16) ek16 ?_
      refine pm_callV (As := [.int (nI k4), .int (nI 9), .int (nI k16)]) (rest := []) hG hR dX12_die_59 (lkX12_97 _ rfl) okV_X12_sets rfl rfl (m_sets (d := 3) (e := 14 * k4 + 119) (by omega) (by omega) (by omega)) rfl rfl hdd (Nat.le_refl _) (Nat.le_refl _) (by decide) (pm_kv (fun σ' cnt' hq => ?_))
      obtain ⟨rfl, rfl⟩ := hq
      obtain ⟨n_17, en_17⟩ : ∃ f : Nat → Int32, f = upd n_11 (14 * k4 + 119) (nI k16) := ⟨_, rfl⟩
      rw [← en_17]
      have hnn_17 := KI.w en_17 hnn_11 (okv_o (show kd (14 * k4 + 119) = (2, 2001, false) from (kd_P (k := k4) (c := 9) (by omega) (by omega) (by decide))) (by omega))
      have hrn_17 := NRx.w en_17 hrn_11 (by rw [(show kd (14 * k4 + 119) = (2, 2001, false) from (kd_P (k := k4) (c := 9) (by omega) (by omega) (by decide)))])
      have e18 : n_17 2 = nI k1 := by rw [en_17, pk_un (by omega)]; exact e12
      have e19 : n_17 (14 * k4 + 117) = x8 := by rw [en_17, pk_un (by omega)]; exact e14
      have e20 : n_17 (14 * k4 + 120) = v9 := by rw [en_17, pk_un (by omega)]; exact e15
      have e21 : n_17 8 = nI k16 := by rw [en_17, pk_un (by omega)]; exact ek16
      have e22 : n_17 (14 * k4 + 119) = nI k16 := by rw [en_17, pk_us]
      refine pm_aloadn hG dX12_die_62 rfl ?_
      refine pm_iloadn hG dX12_die_63 rfl ?_
      refine pm_top (v := nI k4) ek4 ?_
      refine pm_bipush (v := nI 7) hG dX12_die_64 (by decide) ?_
      refine pm_iconst (v := nI 0) hG dX12_die_66 (by decide) ?_
      refine pm_callV (As := [.int (nI k4), .int (nI 7), .int (nI 0)]) (rest := []) hG hR dX12_die_67 (lkX12_97 _ rfl) okV_X12_sets rfl rfl (m_sets (d := 3) (e := 14 * k4 + 117) (by omega) (by omega) (by omega)) rfl rfl hdd (Nat.le_refl _) (Nat.le_refl _) (by decide) (pm_kv (fun σ' cnt' hq => ?_))
      obtain ⟨rfl, rfl⟩ := hq
      obtain ⟨n_23, en_23⟩ : ∃ f : Nat → Int32, f = upd n_17 (14 * k4 + 117) (nI 0) := ⟨_, rfl⟩
      rw [← en_23]
      have hnn_23 := KI.w en_23 hnn_17 (okv_f (show kd (14 * k4 + 117) = (0, 0, false) from (kd_P (k := k4) (c := 7) (by omega) (by omega) (by decide))))
      have hrn_23 := NRx.w en_23 hrn_17 (by rw [(show kd (14 * k4 + 117) = (0, 0, false) from (kd_P (k := k4) (c := 7) (by omega) (by omega) (by decide)))])
      have e24 : n_23 2 = nI k1 := by rw [en_23, pk_un (by omega)]; exact e18
      have e25 : n_23 (14 * k4 + 120) = v9 := by rw [en_23, pk_un (by omega)]; exact e20
      have e26 : n_23 8 = nI k16 := by rw [en_23, pk_un (by omega)]; exact e21
      have e27 : n_23 (14 * k4 + 119) = nI k16 := by rw [en_23, pk_un (by omega)]; exact e22
      have e28 : n_23 (14 * k4 + 117) = nI 0 := by rw [en_23, pk_us]
      refine pm_aloadn hG dX12_die_70 rfl ?_
      refine pm_iloadn hG dX12_die_71 rfl ?_
      refine pm_top (v := nI k4) ek4 ?_
      refine pm_bipush (v := nI 8) hG dX12_die_72 (by decide) ?_
      refine pm_iconst (v := nI 0) hG dX12_die_74 (by decide) ?_
      refine pm_callV (As := [.int (nI k4), .int (nI 8), .int (nI 0)]) (rest := []) hG hR dX12_die_75 (lkX12_97 _ rfl) okV_X12_sets rfl rfl (m_sets (d := 3) (e := 14 * k4 + 118) (by omega) (by omega) (by omega)) rfl rfl hdd (Nat.le_refl _) (Nat.le_refl _) (by decide) (pm_kv (fun σ' cnt' hq => ?_))
      obtain ⟨rfl, rfl⟩ := hq
      obtain ⟨n_29, en_29⟩ : ∃ f : Nat → Int32, f = upd n_23 (14 * k4 + 118) (nI 0) := ⟨_, rfl⟩
      rw [← en_29]
      have hnn_29 := KI.w en_29 hnn_23 (okv_f (show kd (14 * k4 + 118) = (0, 0, false) from (kd_P (k := k4) (c := 8) (by omega) (by omega) (by decide))))
      have hrn_29 := NRx.w en_29 hrn_23 (by rw [(show kd (14 * k4 + 118) = (0, 0, false) from (kd_P (k := k4) (c := 8) (by omega) (by omega) (by decide)))])
      have e30 : n_29 2 = nI k1 := by rw [en_29, pk_un (by omega)]; exact e24
      have e31 : n_29 (14 * k4 + 120) = v9 := by rw [en_29, pk_un (by omega)]; exact e25
      have e32 : n_29 8 = nI k16 := by rw [en_29, pk_un (by omega)]; exact e26
      have e33 : n_29 (14 * k4 + 119) = nI k16 := by rw [en_29, pk_un (by omega)]; exact e27
      have e34 : n_29 (14 * k4 + 117) = nI 0 := by rw [en_29, pk_un (by omega)]; exact e28
      have e35 : n_29 (14 * k4 + 118) = nI 0 := by rw [en_29, pk_us]
      refine pm_aloadn hG dX12_die_78 rfl ?_
      refine pm_getf hG dX12_die_79 (flX12_7 _ rfl) rfl rfl ?_
      refine pm_bipush (v := nI 9) hG dX12_die_82 (by decide) ?_
      refine pm_dup2 hG dX12_die_84 rfl rfl ?_
      refine pm_ialdN hG dX12_die_85 rfl (by decide) (by omega) ?_
      refine pm_gen (fun x36 ex36 => ?_)
      refine pm_iloadn hG dX12_die_86 rfl ?_
      refine pm_iadd hG dX12_die_87 ?_
      refine pm_iastN hG dX12_die_88 rfl (by decide) (by omega) ?_
      refine mdn_now (fun n_37 en_37 => ?_)
      have hnn_37 := KI.w en_37 hnn_29 (okv_f (show kd 9 = (0, 0, false) by decide))
      have hrn_37 := NRx.w en_37 hrn_29 (by rw [(show kd 9 = (0, 0, false) by decide)])
      have e38 : n_37 2 = nI k1 := by rw [en_37, pk_un (by omega)]; exact e30
      have e39 : n_37 (14 * k4 + 120) = v9 := by rw [en_37, pk_un (by omega)]; exact e31
      have e40 : n_37 8 = nI k16 := by rw [en_37, pk_un (by omega)]; exact e32
      have e41 : n_37 (14 * k4 + 119) = nI k16 := by rw [en_37, pk_un (by omega)]; exact e33
      have e42 : n_37 (14 * k4 + 117) = nI 0 := by rw [en_37, pk_un (by omega)]; exact e34
      have e43 : n_37 (14 * k4 + 118) = nI 0 := by rw [en_37, pk_un (by omega)]; exact e35
      have e44 : n_37 9 = x36 + x8 := by rw [en_37, pk_us]
      refine pm_aloadn hG dX12_die_89 rfl ?_
      refine pm_iloadn hG dX12_die_90 rfl ?_
      refine pm_top (v := nI k4) ek4 ?_
      refine pm_bipush (v := nI 11) hG dX12_die_91 (by decide) ?_
      refine pm_callV (As := [.int (nI k4), .int (nI 11)]) (rest := []) hG hR dX12_die_93 (lkX12_72 _ rfl) okV_X12_man rfl rfl (m_man (d := 3) (e := 14 * k4 + 121) (by omega) (by omega) (by omega)) rfl rfl hdd (Nat.le_refl _) (Nat.le_refl _) (by decide) (pm_ki (fun v45 σ' cnt' hq => ?_))
      obtain ⟨rfl, rfl, rfl⟩ := hq
      obtain ⟨k46, hk46, ek46⟩ := KI.nat hnn_37 (show kd (14 * k4 + 121) = (1, 2, true) from (kd_P (k := k4) (c := 11) (by omega) (by omega) (by decide)))
      refine pm_top (v := nI k46) ek46 ?_
      refine pm_iconst (v := nI 1) hG dX12_die_96 (by decide) ?_
      refine pm_icmpN_ne (tgt := 105) hG dX12_die_97 rfl (by omega) (by omega) (fun c47 => ?_) (fun c47 => ?_)
      · refine pm_iconst (v := nI 0) hG dX12_die_105 (by decide) ?_
        refine pm_istoreXn (loc' := [some (.ref (B + 54)), some (.int za), some (.int x8), some (.int (nI 0)), none]) hG dX12_die_106 (by decide) (pm_c1b rfl) rfl ?_
        have loop107_48 : ∀ (m48 : Nat) (I48 : Nat → Int32) (A48 : Nat → Nat → Int32) (n_48 : Nat → Int32) (i48 : Nat), KI n_48 → NRx 40 n_48 → i48 ≤ 20 → 20 - i48 < m48 → pm_wp mX12_die G B 107 [some (.ref (B + 54)), some (.int za), some (.int x8), some (.int (nI i48)), none] [] 0 0 cnt (pm_mid σ (md_L B I48 A48 n_48 k z ac wt pl (nI p0) (nI t0) im y)) := by
          intro m48
          induction m48 with
          | zero => intro I48 A48 n_48 i48 _ _ _ hm; exact absurd hm (Nat.not_lt_zero _)
          | succ m48 ih48 =>
            intro I48 A48 n_48 i48 hnn_48 hrn_48 hi48 hm48
            refine pm_iloadn hG dX12_die_107 rfl ?_
            refine pm_aloadn hG dX12_die_108 rfl ?_
            refine pm_getf hG dX12_die_109 (flX12_7 _ rfl) rfl rfl ?_
            refine pm_iconst (v := nI 3) hG dX12_die_112 (by decide) ?_
            refine pm_ialdN hG dX12_die_113 rfl (by decide) (by omega) ?_
            obtain ⟨k49, hk49, ek49⟩ := KI.nat hnn_48 (show kd 3 = (1, 21, false) by decide)
            refine pm_top (v := nI k49) ek49 ?_
            refine pm_icmpN_ge (tgt := 172) hG dX12_die_114 rfl (by omega) (by omega) (fun c50 => ?_) (fun c50 => ?_)
            · refine pm_iloadn hG dX12_die_172 rfl ?_
              exact pm_iret hG hF dX12_die_173 rfl (Nat.le_refl _) (Nat.le_refl _) ⟨_, rfl, ⟨_, _, _, rfl, hnn_48, hrn_48⟩, rfl⟩
            · refine pm_aloadn hG dX12_die_117 rfl ?_
              refine pm_iloadn hG dX12_die_118 rfl ?_
              refine pm_iconst (v := nI 1) hG dX12_die_119 (by decide) ?_
              refine pm_callV (As := [.int (nI i48), .int (nI 1)]) (rest := []) hG hR dX12_die_120 (lkX12_110 _ rfl) okV_X12_its rfl rfl (m_its (d := 3) (e := 6 * i48 + 391) (by omega) (by omega) (by omega)) rfl rfl hdd (Nat.le_refl _) (Nat.le_refl _) (by decide) (pm_ki (fun v51 σ' cnt' hq => ?_))
              obtain ⟨rfl, rfl, rfl⟩ := hq
              rcases KI.opt hnn_48 (show kd (6 * i48 + 391) = (2, 20, false) from (kd_W (k := i48) (c := 1) (by omega) (by omega) (by decide))) with ek52 | ⟨k52, hk52, ek52⟩
              · refine pm_top (v := (-1)) ek52 ?_
                refine pm_iloadn hG dX12_die_123 rfl ?_
                refine pm_top (v := nI k4) ek4 ?_
                refine pm_icmp_ne (tgt := 131) hG dX12_die_124 rfl (fun _ => ?_) (fun q => absurd q ((fun q => nI_m1 (by omega) q.symm)))
                refine pm_iconst (v := nI 0) hG dX12_die_131 (by decide) ?_
                refine pm_istoreXi (loc' := [some (.ref (B + 54)), some (.int za), some (.int x8), some (.int (nI i48)), some (.int (nI 0))]) hG dX12_die_132 (by decide) (pm_c1b rfl) rfl ?_
                refine pm_iloadi hG dX12_die_134 rfl ?_
                refine pm_ifN_eq (tgt := 146) hG dX12_die_136 rfl (by omega) (fun _ => ?_) (fun q => absurd q (by omega))
                refine pm_iloadi hG dX12_die_146 rfl ?_
                refine pm_ifN_ne (tgt := 161) hG dX12_die_148 rfl (by omega) (fun q => absurd q (by omega)) (fun _ => ?_)
                refine pm_aloadn hG dX12_die_151 rfl ?_
                refine pm_iloadn hG dX12_die_152 rfl ?_
                refine pm_iconst (v := nI 2) hG dX12_die_153 (by decide) ?_
                refine pm_callV (As := [.int (nI i48), .int (nI 2)]) (rest := []) hG hR dX12_die_154 (lkX12_110 _ rfl) okV_X12_its rfl rfl (m_its (d := 3) (e := 6 * i48 + 392) (by omega) (by omega) (by omega)) rfl rfl hdd (Nat.le_refl _) (Nat.le_refl _) (by decide) (pm_ki (fun v53 σ' cnt' hq => ?_))
                obtain ⟨rfl, rfl, rfl⟩ := hq
                rcases KI.opt hnn_48 (show kd (6 * i48 + 392) = (2, 20, false) from (kd_W (k := i48) (c := 2) (by omega) (by omega) (by decide))) with ek54 | ⟨k54, hk54, ek54⟩
                · refine pm_top (v := (-1)) ek54 ?_
                  refine pm_iloadn hG dX12_die_157 rfl ?_
                  refine pm_top (v := nI k4) ek4 ?_
                  refine pm_icmp_ne (tgt := 166) hG dX12_die_158 rfl (fun _ => ?_) (fun q => absurd q ((fun q => nI_m1 (by omega) q.symm)))
                  refine pm_iincX (v := nI (i48 + 1)) (loc' := [some (.ref (B + 54)), some (.int za), some (.int x8), some (.int (nI (i48 + 1))), some (.int (nI 0))]) hG dX12_die_166 rfl (nI_1 _) (by decide) (pm_c1b rfl) rfl ?_
                  refine pm_goto (tgt := 107) hG dX12_die_169 rfl ?_
                  refine pm_fg 4 (loc' := [some (.ref (B + 54)), some (.int za), some (.int x8), some (.int (nI (i48 + 1))), none]) rfl ?_
                  exact ih48 I48 A48 n_48 (i48 + 1) hnn_48 hrn_48 (by omega) (by omega)
                · refine pm_top (v := nI k54) ek54 ?_
                  refine pm_iloadn hG dX12_die_157 rfl ?_
                  refine pm_top (v := nI k4) ek4 ?_
                  refine pm_icmpN_ne (tgt := 166) hG dX12_die_158 rfl (by omega) (by omega) (fun c55 => ?_) (fun c55 => ?_)
                  · refine pm_iincX (v := nI (i48 + 1)) (loc' := [some (.ref (B + 54)), some (.int za), some (.int x8), some (.int (nI (i48 + 1))), some (.int (nI 0))]) hG dX12_die_166 rfl (nI_1 _) (by decide) (pm_c1b rfl) rfl ?_
                    refine pm_goto (tgt := 107) hG dX12_die_169 rfl ?_
                    refine pm_fg 4 (loc' := [some (.ref (B + 54)), some (.int za), some (.int x8), some (.int (nI (i48 + 1))), none]) rfl ?_
                    exact ih48 I48 A48 n_48 (i48 + 1) hnn_48 hrn_48 (by omega) (by omega)
                  · refine pm_aloadn hG dX12_die_161 rfl ?_
                    refine pm_iloadn hG dX12_die_162 rfl ?_
                    refine pm_callV (As := [.int (nI i48)]) (rest := []) hG hR dX12_die_163 (lkX12_116 _ rfl) okV_X12_comesBack rfl rfl (m_comesBack (d := 3) (e := 6 * i48 + 392) (e2 := 6 * i48 + 393) (by decide) (by omega) (by omega) (by omega)) rfl rfl hdd (Nat.le_refl _) (Nat.le_refl _) (by decide) (pm_kv (fun σ' cnt' hq => ?_))
                    obtain ⟨rfl, rfl⟩ := hq
                    obtain ⟨n_56, en_56⟩ : ∃ f : Nat → Int32, f = upd n_48 (6 * i48 + 392) (-1) := ⟨_, rfl⟩
                    rw [← en_56]
                    have hnn_56 := KI.w en_56 hnn_48 (okv_m (show kd (6 * i48 + 392) = (2, 20, false) from (kd_W (k := i48) (c := 2) (by omega) (by omega) (by decide))))
                    have hrn_56 := NRx.w en_56 hrn_48 (by rw [(show kd (6 * i48 + 392) = (2, 20, false) from (kd_W (k := i48) (c := 2) (by omega) (by omega) (by decide)))])
                    have e57 : n_56 3 = nI k49 := by rw [en_56, pk_un (by omega)]; exact ek49
                    have e58 : n_56 (6 * i48 + 391) = (-1) := by rw [en_56, pk_un (by omega)]; exact ek52
                    have e59 : n_56 (6 * i48 + 392) = (-1) := by rw [en_56, pk_us]
                    obtain ⟨n_60, en_60⟩ : ∃ f : Nat → Int32, f = upd n_56 (6 * i48 + 393) (-1) := ⟨_, rfl⟩
                    rw [← en_60]
                    have hnn_60 := KI.w en_60 hnn_56 (okv_f (show kd (6 * i48 + 393) = (0, 0, false) from (kd_W (k := i48) (c := 3) (by omega) (by omega) (by decide))))
                    have hrn_60 := NRx.w en_60 hrn_56 (by rw [(show kd (6 * i48 + 393) = (0, 0, false) from (kd_W (k := i48) (c := 3) (by omega) (by omega) (by decide)))])
                    have e61 : n_60 3 = nI k49 := by rw [en_60, pk_un (by omega)]; exact e57
                    have e62 : n_60 (6 * i48 + 391) = (-1) := by rw [en_60, pk_un (by omega)]; exact e58
                    have e63 : n_60 (6 * i48 + 392) = (-1) := by rw [en_60, pk_un (by omega)]; exact e59
                    have e64 : n_60 (6 * i48 + 393) = (-1) := by rw [en_60, pk_us]
                    refine pm_iincX (v := nI (i48 + 1)) (loc' := [some (.ref (B + 54)), some (.int za), some (.int x8), some (.int (nI (i48 + 1))), some (.int (nI 0))]) hG dX12_die_166 rfl (nI_1 _) (by decide) (pm_c1b rfl) rfl ?_
                    refine pm_goto (tgt := 107) hG dX12_die_169 rfl ?_
                    refine pm_fg 4 (loc' := [some (.ref (B + 54)), some (.int za), some (.int x8), some (.int (nI (i48 + 1))), none]) rfl ?_
                    exact ih48 I48 A48 n_60 (i48 + 1) hnn_60 hrn_60 (by omega) (by omega)
              · refine pm_top (v := nI k52) ek52 ?_
                refine pm_iloadn hG dX12_die_123 rfl ?_
                refine pm_top (v := nI k4) ek4 ?_
                refine pm_icmpN_ne (tgt := 131) hG dX12_die_124 rfl (by omega) (by omega) (fun c65 => ?_) (fun c65 => ?_)
                · refine pm_iconst (v := nI 0) hG dX12_die_131 (by decide) ?_
                  refine pm_istoreXi (loc' := [some (.ref (B + 54)), some (.int za), some (.int x8), some (.int (nI i48)), some (.int (nI 0))]) hG dX12_die_132 (by decide) (pm_c1b rfl) rfl ?_
                  refine pm_iloadi hG dX12_die_134 rfl ?_
                  refine pm_ifN_eq (tgt := 146) hG dX12_die_136 rfl (by omega) (fun _ => ?_) (fun q => absurd q (by omega))
                  refine pm_iloadi hG dX12_die_146 rfl ?_
                  refine pm_ifN_ne (tgt := 161) hG dX12_die_148 rfl (by omega) (fun q => absurd q (by omega)) (fun _ => ?_)
                  refine pm_aloadn hG dX12_die_151 rfl ?_
                  refine pm_iloadn hG dX12_die_152 rfl ?_
                  refine pm_iconst (v := nI 2) hG dX12_die_153 (by decide) ?_
                  refine pm_callV (As := [.int (nI i48), .int (nI 2)]) (rest := []) hG hR dX12_die_154 (lkX12_110 _ rfl) okV_X12_its rfl rfl (m_its (d := 3) (e := 6 * i48 + 392) (by omega) (by omega) (by omega)) rfl rfl hdd (Nat.le_refl _) (Nat.le_refl _) (by decide) (pm_ki (fun v66 σ' cnt' hq => ?_))
                  obtain ⟨rfl, rfl, rfl⟩ := hq
                  rcases KI.opt hnn_48 (show kd (6 * i48 + 392) = (2, 20, false) from (kd_W (k := i48) (c := 2) (by omega) (by omega) (by decide))) with ek67 | ⟨k67, hk67, ek67⟩
                  · refine pm_top (v := (-1)) ek67 ?_
                    refine pm_iloadn hG dX12_die_157 rfl ?_
                    refine pm_top (v := nI k4) ek4 ?_
                    refine pm_icmp_ne (tgt := 166) hG dX12_die_158 rfl (fun _ => ?_) (fun q => absurd q ((fun q => nI_m1 (by omega) q.symm)))
                    refine pm_iincX (v := nI (i48 + 1)) (loc' := [some (.ref (B + 54)), some (.int za), some (.int x8), some (.int (nI (i48 + 1))), some (.int (nI 0))]) hG dX12_die_166 rfl (nI_1 _) (by decide) (pm_c1b rfl) rfl ?_
                    refine pm_goto (tgt := 107) hG dX12_die_169 rfl ?_
                    refine pm_fg 4 (loc' := [some (.ref (B + 54)), some (.int za), some (.int x8), some (.int (nI (i48 + 1))), none]) rfl ?_
                    exact ih48 I48 A48 n_48 (i48 + 1) hnn_48 hrn_48 (by omega) (by omega)
                  · refine pm_top (v := nI k67) ek67 ?_
                    refine pm_iloadn hG dX12_die_157 rfl ?_
                    refine pm_top (v := nI k4) ek4 ?_
                    refine pm_icmpN_ne (tgt := 166) hG dX12_die_158 rfl (by omega) (by omega) (fun c68 => ?_) (fun c68 => ?_)
                    · refine pm_iincX (v := nI (i48 + 1)) (loc' := [some (.ref (B + 54)), some (.int za), some (.int x8), some (.int (nI (i48 + 1))), some (.int (nI 0))]) hG dX12_die_166 rfl (nI_1 _) (by decide) (pm_c1b rfl) rfl ?_
                      refine pm_goto (tgt := 107) hG dX12_die_169 rfl ?_
                      refine pm_fg 4 (loc' := [some (.ref (B + 54)), some (.int za), some (.int x8), some (.int (nI (i48 + 1))), none]) rfl ?_
                      exact ih48 I48 A48 n_48 (i48 + 1) hnn_48 hrn_48 (by omega) (by omega)
                    · refine pm_aloadn hG dX12_die_161 rfl ?_
                      refine pm_iloadn hG dX12_die_162 rfl ?_
                      refine pm_callV (As := [.int (nI i48)]) (rest := []) hG hR dX12_die_163 (lkX12_116 _ rfl) okV_X12_comesBack rfl rfl (m_comesBack (d := 3) (e := 6 * i48 + 392) (e2 := 6 * i48 + 393) (by decide) (by omega) (by omega) (by omega)) rfl rfl hdd (Nat.le_refl _) (Nat.le_refl _) (by decide) (pm_kv (fun σ' cnt' hq => ?_))
                      obtain ⟨rfl, rfl⟩ := hq
                      obtain ⟨n_69, en_69⟩ : ∃ f : Nat → Int32, f = upd n_48 (6 * i48 + 392) (-1) := ⟨_, rfl⟩
                      rw [← en_69]
                      have hnn_69 := KI.w en_69 hnn_48 (okv_m (show kd (6 * i48 + 392) = (2, 20, false) from (kd_W (k := i48) (c := 2) (by omega) (by omega) (by decide))))
                      have hrn_69 := NRx.w en_69 hrn_48 (by rw [(show kd (6 * i48 + 392) = (2, 20, false) from (kd_W (k := i48) (c := 2) (by omega) (by omega) (by decide)))])
                      have e70 : n_69 3 = nI k49 := by rw [en_69, pk_un (by omega)]; exact ek49
                      have e71 : n_69 (6 * i48 + 391) = nI k52 := by rw [en_69, pk_un (by omega)]; exact ek52
                      have e72 : n_69 (6 * i48 + 392) = (-1) := by rw [en_69, pk_us]
                      obtain ⟨n_73, en_73⟩ : ∃ f : Nat → Int32, f = upd n_69 (6 * i48 + 393) (-1) := ⟨_, rfl⟩
                      rw [← en_73]
                      have hnn_73 := KI.w en_73 hnn_69 (okv_f (show kd (6 * i48 + 393) = (0, 0, false) from (kd_W (k := i48) (c := 3) (by omega) (by omega) (by decide))))
                      have hrn_73 := NRx.w en_73 hrn_69 (by rw [(show kd (6 * i48 + 393) = (0, 0, false) from (kd_W (k := i48) (c := 3) (by omega) (by omega) (by decide)))])
                      have e74 : n_73 3 = nI k49 := by rw [en_73, pk_un (by omega)]; exact e70
                      have e75 : n_73 (6 * i48 + 391) = nI k52 := by rw [en_73, pk_un (by omega)]; exact e71
                      have e76 : n_73 (6 * i48 + 392) = (-1) := by rw [en_73, pk_un (by omega)]; exact e72
                      have e77 : n_73 (6 * i48 + 393) = (-1) := by rw [en_73, pk_us]
                      refine pm_iincX (v := nI (i48 + 1)) (loc' := [some (.ref (B + 54)), some (.int za), some (.int x8), some (.int (nI (i48 + 1))), some (.int (nI 0))]) hG dX12_die_166 rfl (nI_1 _) (by decide) (pm_c1b rfl) rfl ?_
                      refine pm_goto (tgt := 107) hG dX12_die_169 rfl ?_
                      refine pm_fg 4 (loc' := [some (.ref (B + 54)), some (.int za), some (.int x8), some (.int (nI (i48 + 1))), none]) rfl ?_
                      exact ih48 I48 A48 n_73 (i48 + 1) hnn_73 hrn_73 (by omega) (by omega)
                · refine pm_iconst (v := nI 1) hG dX12_die_127 (by decide) ?_
                  refine pm_goto (tgt := 132) hG dX12_die_128 rfl ?_
                  refine pm_istoreXi (loc' := [some (.ref (B + 54)), some (.int za), some (.int x8), some (.int (nI i48)), some (.int (nI 1))]) hG dX12_die_132 (by decide) (pm_c1b rfl) rfl ?_
                  refine pm_iloadi hG dX12_die_134 rfl ?_
                  refine pm_ifN_eq (tgt := 146) hG dX12_die_136 rfl (by omega) (fun q => absurd q (by omega)) (fun _ => ?_)
                  refine pm_aloadn hG dX12_die_139 rfl ?_
                  refine pm_iloadn hG dX12_die_140 rfl ?_
                  refine pm_iconst (v := nI 1) hG dX12_die_141 (by decide) ?_
                  refine pm_iconst (v := (-1)) hG dX12_die_142 (by decide) ?_
                  refine pm_callV (As := [.int (nI i48), .int (nI 1), .int (-1)]) (rest := []) hG hR dX12_die_143 (lkX12_113 _ rfl) okV_X12_makes rfl rfl (m_makes (d := 3) (e := 6 * i48 + 391) (by omega) (by omega) (by omega)) rfl rfl hdd (Nat.le_refl _) (Nat.le_refl _) (by decide) (pm_kv (fun σ' cnt' hq => ?_))
                  obtain ⟨rfl, rfl⟩ := hq
                  obtain ⟨n_78, en_78⟩ : ∃ f : Nat → Int32, f = upd n_48 (6 * i48 + 391) (-1) := ⟨_, rfl⟩
                  rw [← en_78]
                  have hnn_78 := KI.w en_78 hnn_48 (okv_m (show kd (6 * i48 + 391) = (2, 20, false) from (kd_W (k := i48) (c := 1) (by omega) (by omega) (by decide))))
                  have hrn_78 := NRx.w en_78 hrn_48 (by rw [(show kd (6 * i48 + 391) = (2, 20, false) from (kd_W (k := i48) (c := 1) (by omega) (by omega) (by decide)))])
                  have e79 : n_78 3 = nI k49 := by rw [en_78, pk_un (by omega)]; exact ek49
                  have e80 : n_78 (6 * i48 + 391) = (-1) := by rw [en_78, pk_us]
                  refine pm_iloadi hG dX12_die_146 rfl ?_
                  refine pm_ifN_ne (tgt := 161) hG dX12_die_148 rfl (by omega) (fun _ => ?_) (fun q => absurd q (by omega))
                  refine pm_aloadn hG dX12_die_161 rfl ?_
                  refine pm_iloadn hG dX12_die_162 rfl ?_
                  refine pm_callV (As := [.int (nI i48)]) (rest := []) hG hR dX12_die_163 (lkX12_116 _ rfl) okV_X12_comesBack rfl rfl (m_comesBack (d := 3) (e := 6 * i48 + 392) (e2 := 6 * i48 + 393) (by decide) (by omega) (by omega) (by omega)) rfl rfl hdd (Nat.le_refl _) (Nat.le_refl _) (by decide) (pm_kv (fun σ' cnt' hq => ?_))
                  obtain ⟨rfl, rfl⟩ := hq
                  obtain ⟨n_81, en_81⟩ : ∃ f : Nat → Int32, f = upd n_78 (6 * i48 + 392) (-1) := ⟨_, rfl⟩
                  rw [← en_81]
                  have hnn_81 := KI.w en_81 hnn_78 (okv_m (show kd (6 * i48 + 392) = (2, 20, false) from (kd_W (k := i48) (c := 2) (by omega) (by omega) (by decide))))
                  have hrn_81 := NRx.w en_81 hrn_78 (by rw [(show kd (6 * i48 + 392) = (2, 20, false) from (kd_W (k := i48) (c := 2) (by omega) (by omega) (by decide)))])
                  have e82 : n_81 3 = nI k49 := by rw [en_81, pk_un (by omega)]; exact e79
                  have e83 : n_81 (6 * i48 + 391) = (-1) := by rw [en_81, pk_un (by omega)]; exact e80
                  have e84 : n_81 (6 * i48 + 392) = (-1) := by rw [en_81, pk_us]
                  obtain ⟨n_85, en_85⟩ : ∃ f : Nat → Int32, f = upd n_81 (6 * i48 + 393) (-1) := ⟨_, rfl⟩
                  rw [← en_85]
                  have hnn_85 := KI.w en_85 hnn_81 (okv_f (show kd (6 * i48 + 393) = (0, 0, false) from (kd_W (k := i48) (c := 3) (by omega) (by omega) (by decide))))
                  have hrn_85 := NRx.w en_85 hrn_81 (by rw [(show kd (6 * i48 + 393) = (0, 0, false) from (kd_W (k := i48) (c := 3) (by omega) (by omega) (by decide)))])
                  have e86 : n_85 3 = nI k49 := by rw [en_85, pk_un (by omega)]; exact e82
                  have e87 : n_85 (6 * i48 + 391) = (-1) := by rw [en_85, pk_un (by omega)]; exact e83
                  have e88 : n_85 (6 * i48 + 392) = (-1) := by rw [en_85, pk_un (by omega)]; exact e84
                  have e89 : n_85 (6 * i48 + 393) = (-1) := by rw [en_85, pk_us]
                  refine pm_iincX (v := nI (i48 + 1)) (loc' := [some (.ref (B + 54)), some (.int za), some (.int x8), some (.int (nI (i48 + 1))), some (.int (nI 1))]) hG dX12_die_166 rfl (nI_1 _) (by decide) (pm_c1b rfl) rfl ?_
                  refine pm_goto (tgt := 107) hG dX12_die_169 rfl ?_
                  refine pm_fg 4 (loc' := [some (.ref (B + 54)), some (.int za), some (.int x8), some (.int (nI (i48 + 1))), none]) rfl ?_
                  exact ih48 I48 A48 n_85 (i48 + 1) hnn_85 hrn_85 (by omega) (by omega)
        exact loop107_48 _ I10 A10 n_37 0 hnn_37 hrn_37 (by omega) (Nat.lt_succ_self _)
      · refine pm_aloadn hG dX12_die_100 rfl ?_
        refine pm_iloadn hG dX12_die_101 rfl ?_
        refine pm_top (v := nI k4) ek4 ?_
        refine pm_callV (As := [.int (nI k4)]) (rest := []) hG hR dX12_die_102 (lkX12_107 _ rfl) okV_X12_leaves rfl rfl (m_leaves (d := 3) (by decide) hnn_37 hrn_37 hz (by omega)) rfl rfl hdd (Nat.le_refl _) (Nat.le_refl _) (by decide) (pm_kv (fun σ' cnt' hq => ?_))
        obtain ⟨⟨n_91, rfl, hn91, hr91⟩, rfl⟩ := hq
        refine pm_iconst (v := nI 0) hG dX12_die_105 (by decide) ?_
        refine pm_istoreXn (loc' := [some (.ref (B + 54)), some (.int za), some (.int x8), some (.int (nI 0)), none]) hG dX12_die_106 (by decide) (pm_c1b rfl) rfl ?_
        have loop107_92 : ∀ (m92 : Nat) (I92 : Nat → Int32) (A92 : Nat → Nat → Int32) (n_92 : Nat → Int32) (i92 : Nat), KI n_92 → NRx 40 n_92 → i92 ≤ 20 → 20 - i92 < m92 → pm_wp mX12_die G B 107 [some (.ref (B + 54)), some (.int za), some (.int x8), some (.int (nI i92)), none] [] 0 0 cnt (pm_mid σ (md_L B I92 A92 n_92 k z ac wt pl (nI p0) (nI t0) im y)) := by
          intro m92
          induction m92 with
          | zero => intro I92 A92 n_92 i92 _ _ _ hm; exact absurd hm (Nat.not_lt_zero _)
          | succ m92 ih92 =>
            intro I92 A92 n_92 i92 hnn_92 hrn_92 hi92 hm92
            refine pm_iloadn hG dX12_die_107 rfl ?_
            refine pm_aloadn hG dX12_die_108 rfl ?_
            refine pm_getf hG dX12_die_109 (flX12_7 _ rfl) rfl rfl ?_
            refine pm_iconst (v := nI 3) hG dX12_die_112 (by decide) ?_
            refine pm_ialdN hG dX12_die_113 rfl (by decide) (by omega) ?_
            obtain ⟨k93, hk93, ek93⟩ := KI.nat hnn_92 (show kd 3 = (1, 21, false) by decide)
            refine pm_top (v := nI k93) ek93 ?_
            refine pm_icmpN_ge (tgt := 172) hG dX12_die_114 rfl (by omega) (by omega) (fun c94 => ?_) (fun c94 => ?_)
            · refine pm_iloadn hG dX12_die_172 rfl ?_
              exact pm_iret hG hF dX12_die_173 rfl (Nat.le_refl _) (Nat.le_refl _) ⟨_, rfl, ⟨_, _, _, rfl, hnn_92, hrn_92⟩, rfl⟩
            · refine pm_aloadn hG dX12_die_117 rfl ?_
              refine pm_iloadn hG dX12_die_118 rfl ?_
              refine pm_iconst (v := nI 1) hG dX12_die_119 (by decide) ?_
              refine pm_callV (As := [.int (nI i92), .int (nI 1)]) (rest := []) hG hR dX12_die_120 (lkX12_110 _ rfl) okV_X12_its rfl rfl (m_its (d := 3) (e := 6 * i92 + 391) (by omega) (by omega) (by omega)) rfl rfl hdd (Nat.le_refl _) (Nat.le_refl _) (by decide) (pm_ki (fun v95 σ' cnt' hq => ?_))
              obtain ⟨rfl, rfl, rfl⟩ := hq
              rcases KI.opt hnn_92 (show kd (6 * i92 + 391) = (2, 20, false) from (kd_W (k := i92) (c := 1) (by omega) (by omega) (by decide))) with ek96 | ⟨k96, hk96, ek96⟩
              · refine pm_top (v := (-1)) ek96 ?_
                refine pm_iloadn hG dX12_die_123 rfl ?_
                refine pm_top (v := nI k4) ek4 ?_
                refine pm_icmp_ne (tgt := 131) hG dX12_die_124 rfl (fun _ => ?_) (fun q => absurd q ((fun q => nI_m1 (by omega) q.symm)))
                refine pm_iconst (v := nI 0) hG dX12_die_131 (by decide) ?_
                refine pm_istoreXi (loc' := [some (.ref (B + 54)), some (.int za), some (.int x8), some (.int (nI i92)), some (.int (nI 0))]) hG dX12_die_132 (by decide) (pm_c1b rfl) rfl ?_
                refine pm_iloadi hG dX12_die_134 rfl ?_
                refine pm_ifN_eq (tgt := 146) hG dX12_die_136 rfl (by omega) (fun _ => ?_) (fun q => absurd q (by omega))
                refine pm_iloadi hG dX12_die_146 rfl ?_
                refine pm_ifN_ne (tgt := 161) hG dX12_die_148 rfl (by omega) (fun q => absurd q (by omega)) (fun _ => ?_)
                refine pm_aloadn hG dX12_die_151 rfl ?_
                refine pm_iloadn hG dX12_die_152 rfl ?_
                refine pm_iconst (v := nI 2) hG dX12_die_153 (by decide) ?_
                refine pm_callV (As := [.int (nI i92), .int (nI 2)]) (rest := []) hG hR dX12_die_154 (lkX12_110 _ rfl) okV_X12_its rfl rfl (m_its (d := 3) (e := 6 * i92 + 392) (by omega) (by omega) (by omega)) rfl rfl hdd (Nat.le_refl _) (Nat.le_refl _) (by decide) (pm_ki (fun v97 σ' cnt' hq => ?_))
                obtain ⟨rfl, rfl, rfl⟩ := hq
                rcases KI.opt hnn_92 (show kd (6 * i92 + 392) = (2, 20, false) from (kd_W (k := i92) (c := 2) (by omega) (by omega) (by decide))) with ek98 | ⟨k98, hk98, ek98⟩
                · refine pm_top (v := (-1)) ek98 ?_
                  refine pm_iloadn hG dX12_die_157 rfl ?_
                  refine pm_top (v := nI k4) ek4 ?_
                  refine pm_icmp_ne (tgt := 166) hG dX12_die_158 rfl (fun _ => ?_) (fun q => absurd q ((fun q => nI_m1 (by omega) q.symm)))
                  refine pm_iincX (v := nI (i92 + 1)) (loc' := [some (.ref (B + 54)), some (.int za), some (.int x8), some (.int (nI (i92 + 1))), some (.int (nI 0))]) hG dX12_die_166 rfl (nI_1 _) (by decide) (pm_c1b rfl) rfl ?_
                  refine pm_goto (tgt := 107) hG dX12_die_169 rfl ?_
                  refine pm_fg 4 (loc' := [some (.ref (B + 54)), some (.int za), some (.int x8), some (.int (nI (i92 + 1))), none]) rfl ?_
                  exact ih92 I92 A92 n_92 (i92 + 1) hnn_92 hrn_92 (by omega) (by omega)
                · refine pm_top (v := nI k98) ek98 ?_
                  refine pm_iloadn hG dX12_die_157 rfl ?_
                  refine pm_top (v := nI k4) ek4 ?_
                  refine pm_icmpN_ne (tgt := 166) hG dX12_die_158 rfl (by omega) (by omega) (fun c99 => ?_) (fun c99 => ?_)
                  · refine pm_iincX (v := nI (i92 + 1)) (loc' := [some (.ref (B + 54)), some (.int za), some (.int x8), some (.int (nI (i92 + 1))), some (.int (nI 0))]) hG dX12_die_166 rfl (nI_1 _) (by decide) (pm_c1b rfl) rfl ?_
                    refine pm_goto (tgt := 107) hG dX12_die_169 rfl ?_
                    refine pm_fg 4 (loc' := [some (.ref (B + 54)), some (.int za), some (.int x8), some (.int (nI (i92 + 1))), none]) rfl ?_
                    exact ih92 I92 A92 n_92 (i92 + 1) hnn_92 hrn_92 (by omega) (by omega)
                  · refine pm_aloadn hG dX12_die_161 rfl ?_
                    refine pm_iloadn hG dX12_die_162 rfl ?_
                    refine pm_callV (As := [.int (nI i92)]) (rest := []) hG hR dX12_die_163 (lkX12_116 _ rfl) okV_X12_comesBack rfl rfl (m_comesBack (d := 3) (e := 6 * i92 + 392) (e2 := 6 * i92 + 393) (by decide) (by omega) (by omega) (by omega)) rfl rfl hdd (Nat.le_refl _) (Nat.le_refl _) (by decide) (pm_kv (fun σ' cnt' hq => ?_))
                    obtain ⟨rfl, rfl⟩ := hq
                    obtain ⟨n_100, en_100⟩ : ∃ f : Nat → Int32, f = upd n_92 (6 * i92 + 392) (-1) := ⟨_, rfl⟩
                    rw [← en_100]
                    have hnn_100 := KI.w en_100 hnn_92 (okv_m (show kd (6 * i92 + 392) = (2, 20, false) from (kd_W (k := i92) (c := 2) (by omega) (by omega) (by decide))))
                    have hrn_100 := NRx.w en_100 hrn_92 (by rw [(show kd (6 * i92 + 392) = (2, 20, false) from (kd_W (k := i92) (c := 2) (by omega) (by omega) (by decide)))])
                    have e101 : n_100 3 = nI k93 := by rw [en_100, pk_un (by omega)]; exact ek93
                    have e102 : n_100 (6 * i92 + 391) = (-1) := by rw [en_100, pk_un (by omega)]; exact ek96
                    have e103 : n_100 (6 * i92 + 392) = (-1) := by rw [en_100, pk_us]
                    obtain ⟨n_104, en_104⟩ : ∃ f : Nat → Int32, f = upd n_100 (6 * i92 + 393) (-1) := ⟨_, rfl⟩
                    rw [← en_104]
                    have hnn_104 := KI.w en_104 hnn_100 (okv_f (show kd (6 * i92 + 393) = (0, 0, false) from (kd_W (k := i92) (c := 3) (by omega) (by omega) (by decide))))
                    have hrn_104 := NRx.w en_104 hrn_100 (by rw [(show kd (6 * i92 + 393) = (0, 0, false) from (kd_W (k := i92) (c := 3) (by omega) (by omega) (by decide)))])
                    have e105 : n_104 3 = nI k93 := by rw [en_104, pk_un (by omega)]; exact e101
                    have e106 : n_104 (6 * i92 + 391) = (-1) := by rw [en_104, pk_un (by omega)]; exact e102
                    have e107 : n_104 (6 * i92 + 392) = (-1) := by rw [en_104, pk_un (by omega)]; exact e103
                    have e108 : n_104 (6 * i92 + 393) = (-1) := by rw [en_104, pk_us]
                    refine pm_iincX (v := nI (i92 + 1)) (loc' := [some (.ref (B + 54)), some (.int za), some (.int x8), some (.int (nI (i92 + 1))), some (.int (nI 0))]) hG dX12_die_166 rfl (nI_1 _) (by decide) (pm_c1b rfl) rfl ?_
                    refine pm_goto (tgt := 107) hG dX12_die_169 rfl ?_
                    refine pm_fg 4 (loc' := [some (.ref (B + 54)), some (.int za), some (.int x8), some (.int (nI (i92 + 1))), none]) rfl ?_
                    exact ih92 I92 A92 n_104 (i92 + 1) hnn_104 hrn_104 (by omega) (by omega)
              · refine pm_top (v := nI k96) ek96 ?_
                refine pm_iloadn hG dX12_die_123 rfl ?_
                refine pm_top (v := nI k4) ek4 ?_
                refine pm_icmpN_ne (tgt := 131) hG dX12_die_124 rfl (by omega) (by omega) (fun c109 => ?_) (fun c109 => ?_)
                · refine pm_iconst (v := nI 0) hG dX12_die_131 (by decide) ?_
                  refine pm_istoreXi (loc' := [some (.ref (B + 54)), some (.int za), some (.int x8), some (.int (nI i92)), some (.int (nI 0))]) hG dX12_die_132 (by decide) (pm_c1b rfl) rfl ?_
                  refine pm_iloadi hG dX12_die_134 rfl ?_
                  refine pm_ifN_eq (tgt := 146) hG dX12_die_136 rfl (by omega) (fun _ => ?_) (fun q => absurd q (by omega))
                  refine pm_iloadi hG dX12_die_146 rfl ?_
                  refine pm_ifN_ne (tgt := 161) hG dX12_die_148 rfl (by omega) (fun q => absurd q (by omega)) (fun _ => ?_)
                  refine pm_aloadn hG dX12_die_151 rfl ?_
                  refine pm_iloadn hG dX12_die_152 rfl ?_
                  refine pm_iconst (v := nI 2) hG dX12_die_153 (by decide) ?_
                  refine pm_callV (As := [.int (nI i92), .int (nI 2)]) (rest := []) hG hR dX12_die_154 (lkX12_110 _ rfl) okV_X12_its rfl rfl (m_its (d := 3) (e := 6 * i92 + 392) (by omega) (by omega) (by omega)) rfl rfl hdd (Nat.le_refl _) (Nat.le_refl _) (by decide) (pm_ki (fun v110 σ' cnt' hq => ?_))
                  obtain ⟨rfl, rfl, rfl⟩ := hq
                  rcases KI.opt hnn_92 (show kd (6 * i92 + 392) = (2, 20, false) from (kd_W (k := i92) (c := 2) (by omega) (by omega) (by decide))) with ek111 | ⟨k111, hk111, ek111⟩
                  · refine pm_top (v := (-1)) ek111 ?_
                    refine pm_iloadn hG dX12_die_157 rfl ?_
                    refine pm_top (v := nI k4) ek4 ?_
                    refine pm_icmp_ne (tgt := 166) hG dX12_die_158 rfl (fun _ => ?_) (fun q => absurd q ((fun q => nI_m1 (by omega) q.symm)))
                    refine pm_iincX (v := nI (i92 + 1)) (loc' := [some (.ref (B + 54)), some (.int za), some (.int x8), some (.int (nI (i92 + 1))), some (.int (nI 0))]) hG dX12_die_166 rfl (nI_1 _) (by decide) (pm_c1b rfl) rfl ?_
                    refine pm_goto (tgt := 107) hG dX12_die_169 rfl ?_
                    refine pm_fg 4 (loc' := [some (.ref (B + 54)), some (.int za), some (.int x8), some (.int (nI (i92 + 1))), none]) rfl ?_
                    exact ih92 I92 A92 n_92 (i92 + 1) hnn_92 hrn_92 (by omega) (by omega)
                  · refine pm_top (v := nI k111) ek111 ?_
                    refine pm_iloadn hG dX12_die_157 rfl ?_
                    refine pm_top (v := nI k4) ek4 ?_
                    refine pm_icmpN_ne (tgt := 166) hG dX12_die_158 rfl (by omega) (by omega) (fun c112 => ?_) (fun c112 => ?_)
                    · refine pm_iincX (v := nI (i92 + 1)) (loc' := [some (.ref (B + 54)), some (.int za), some (.int x8), some (.int (nI (i92 + 1))), some (.int (nI 0))]) hG dX12_die_166 rfl (nI_1 _) (by decide) (pm_c1b rfl) rfl ?_
                      refine pm_goto (tgt := 107) hG dX12_die_169 rfl ?_
                      refine pm_fg 4 (loc' := [some (.ref (B + 54)), some (.int za), some (.int x8), some (.int (nI (i92 + 1))), none]) rfl ?_
                      exact ih92 I92 A92 n_92 (i92 + 1) hnn_92 hrn_92 (by omega) (by omega)
                    · refine pm_aloadn hG dX12_die_161 rfl ?_
                      refine pm_iloadn hG dX12_die_162 rfl ?_
                      refine pm_callV (As := [.int (nI i92)]) (rest := []) hG hR dX12_die_163 (lkX12_116 _ rfl) okV_X12_comesBack rfl rfl (m_comesBack (d := 3) (e := 6 * i92 + 392) (e2 := 6 * i92 + 393) (by decide) (by omega) (by omega) (by omega)) rfl rfl hdd (Nat.le_refl _) (Nat.le_refl _) (by decide) (pm_kv (fun σ' cnt' hq => ?_))
                      obtain ⟨rfl, rfl⟩ := hq
                      obtain ⟨n_113, en_113⟩ : ∃ f : Nat → Int32, f = upd n_92 (6 * i92 + 392) (-1) := ⟨_, rfl⟩
                      rw [← en_113]
                      have hnn_113 := KI.w en_113 hnn_92 (okv_m (show kd (6 * i92 + 392) = (2, 20, false) from (kd_W (k := i92) (c := 2) (by omega) (by omega) (by decide))))
                      have hrn_113 := NRx.w en_113 hrn_92 (by rw [(show kd (6 * i92 + 392) = (2, 20, false) from (kd_W (k := i92) (c := 2) (by omega) (by omega) (by decide)))])
                      have e114 : n_113 3 = nI k93 := by rw [en_113, pk_un (by omega)]; exact ek93
                      have e115 : n_113 (6 * i92 + 391) = nI k96 := by rw [en_113, pk_un (by omega)]; exact ek96
                      have e116 : n_113 (6 * i92 + 392) = (-1) := by rw [en_113, pk_us]
                      obtain ⟨n_117, en_117⟩ : ∃ f : Nat → Int32, f = upd n_113 (6 * i92 + 393) (-1) := ⟨_, rfl⟩
                      rw [← en_117]
                      have hnn_117 := KI.w en_117 hnn_113 (okv_f (show kd (6 * i92 + 393) = (0, 0, false) from (kd_W (k := i92) (c := 3) (by omega) (by omega) (by decide))))
                      have hrn_117 := NRx.w en_117 hrn_113 (by rw [(show kd (6 * i92 + 393) = (0, 0, false) from (kd_W (k := i92) (c := 3) (by omega) (by omega) (by decide)))])
                      have e118 : n_117 3 = nI k93 := by rw [en_117, pk_un (by omega)]; exact e114
                      have e119 : n_117 (6 * i92 + 391) = nI k96 := by rw [en_117, pk_un (by omega)]; exact e115
                      have e120 : n_117 (6 * i92 + 392) = (-1) := by rw [en_117, pk_un (by omega)]; exact e116
                      have e121 : n_117 (6 * i92 + 393) = (-1) := by rw [en_117, pk_us]
                      refine pm_iincX (v := nI (i92 + 1)) (loc' := [some (.ref (B + 54)), some (.int za), some (.int x8), some (.int (nI (i92 + 1))), some (.int (nI 0))]) hG dX12_die_166 rfl (nI_1 _) (by decide) (pm_c1b rfl) rfl ?_
                      refine pm_goto (tgt := 107) hG dX12_die_169 rfl ?_
                      refine pm_fg 4 (loc' := [some (.ref (B + 54)), some (.int za), some (.int x8), some (.int (nI (i92 + 1))), none]) rfl ?_
                      exact ih92 I92 A92 n_117 (i92 + 1) hnn_117 hrn_117 (by omega) (by omega)
                · refine pm_iconst (v := nI 1) hG dX12_die_127 (by decide) ?_
                  refine pm_goto (tgt := 132) hG dX12_die_128 rfl ?_
                  refine pm_istoreXi (loc' := [some (.ref (B + 54)), some (.int za), some (.int x8), some (.int (nI i92)), some (.int (nI 1))]) hG dX12_die_132 (by decide) (pm_c1b rfl) rfl ?_
                  refine pm_iloadi hG dX12_die_134 rfl ?_
                  refine pm_ifN_eq (tgt := 146) hG dX12_die_136 rfl (by omega) (fun q => absurd q (by omega)) (fun _ => ?_)
                  refine pm_aloadn hG dX12_die_139 rfl ?_
                  refine pm_iloadn hG dX12_die_140 rfl ?_
                  refine pm_iconst (v := nI 1) hG dX12_die_141 (by decide) ?_
                  refine pm_iconst (v := (-1)) hG dX12_die_142 (by decide) ?_
                  refine pm_callV (As := [.int (nI i92), .int (nI 1), .int (-1)]) (rest := []) hG hR dX12_die_143 (lkX12_113 _ rfl) okV_X12_makes rfl rfl (m_makes (d := 3) (e := 6 * i92 + 391) (by omega) (by omega) (by omega)) rfl rfl hdd (Nat.le_refl _) (Nat.le_refl _) (by decide) (pm_kv (fun σ' cnt' hq => ?_))
                  obtain ⟨rfl, rfl⟩ := hq
                  obtain ⟨n_122, en_122⟩ : ∃ f : Nat → Int32, f = upd n_92 (6 * i92 + 391) (-1) := ⟨_, rfl⟩
                  rw [← en_122]
                  have hnn_122 := KI.w en_122 hnn_92 (okv_m (show kd (6 * i92 + 391) = (2, 20, false) from (kd_W (k := i92) (c := 1) (by omega) (by omega) (by decide))))
                  have hrn_122 := NRx.w en_122 hrn_92 (by rw [(show kd (6 * i92 + 391) = (2, 20, false) from (kd_W (k := i92) (c := 1) (by omega) (by omega) (by decide)))])
                  have e123 : n_122 3 = nI k93 := by rw [en_122, pk_un (by omega)]; exact ek93
                  have e124 : n_122 (6 * i92 + 391) = (-1) := by rw [en_122, pk_us]
                  refine pm_iloadi hG dX12_die_146 rfl ?_
                  refine pm_ifN_ne (tgt := 161) hG dX12_die_148 rfl (by omega) (fun _ => ?_) (fun q => absurd q (by omega))
                  refine pm_aloadn hG dX12_die_161 rfl ?_
                  refine pm_iloadn hG dX12_die_162 rfl ?_
                  refine pm_callV (As := [.int (nI i92)]) (rest := []) hG hR dX12_die_163 (lkX12_116 _ rfl) okV_X12_comesBack rfl rfl (m_comesBack (d := 3) (e := 6 * i92 + 392) (e2 := 6 * i92 + 393) (by decide) (by omega) (by omega) (by omega)) rfl rfl hdd (Nat.le_refl _) (Nat.le_refl _) (by decide) (pm_kv (fun σ' cnt' hq => ?_))
                  obtain ⟨rfl, rfl⟩ := hq
                  obtain ⟨n_125, en_125⟩ : ∃ f : Nat → Int32, f = upd n_122 (6 * i92 + 392) (-1) := ⟨_, rfl⟩
                  rw [← en_125]
                  have hnn_125 := KI.w en_125 hnn_122 (okv_m (show kd (6 * i92 + 392) = (2, 20, false) from (kd_W (k := i92) (c := 2) (by omega) (by omega) (by decide))))
                  have hrn_125 := NRx.w en_125 hrn_122 (by rw [(show kd (6 * i92 + 392) = (2, 20, false) from (kd_W (k := i92) (c := 2) (by omega) (by omega) (by decide)))])
                  have e126 : n_125 3 = nI k93 := by rw [en_125, pk_un (by omega)]; exact e123
                  have e127 : n_125 (6 * i92 + 391) = (-1) := by rw [en_125, pk_un (by omega)]; exact e124
                  have e128 : n_125 (6 * i92 + 392) = (-1) := by rw [en_125, pk_us]
                  obtain ⟨n_129, en_129⟩ : ∃ f : Nat → Int32, f = upd n_125 (6 * i92 + 393) (-1) := ⟨_, rfl⟩
                  rw [← en_129]
                  have hnn_129 := KI.w en_129 hnn_125 (okv_f (show kd (6 * i92 + 393) = (0, 0, false) from (kd_W (k := i92) (c := 3) (by omega) (by omega) (by decide))))
                  have hrn_129 := NRx.w en_129 hrn_125 (by rw [(show kd (6 * i92 + 393) = (0, 0, false) from (kd_W (k := i92) (c := 3) (by omega) (by omega) (by decide)))])
                  have e130 : n_129 3 = nI k93 := by rw [en_129, pk_un (by omega)]; exact e126
                  have e131 : n_129 (6 * i92 + 391) = (-1) := by rw [en_129, pk_un (by omega)]; exact e127
                  have e132 : n_129 (6 * i92 + 392) = (-1) := by rw [en_129, pk_un (by omega)]; exact e128
                  have e133 : n_129 (6 * i92 + 393) = (-1) := by rw [en_129, pk_us]
                  refine pm_iincX (v := nI (i92 + 1)) (loc' := [some (.ref (B + 54)), some (.int za), some (.int x8), some (.int (nI (i92 + 1))), some (.int (nI 1))]) hG dX12_die_166 rfl (nI_1 _) (by decide) (pm_c1b rfl) rfl ?_
                  refine pm_goto (tgt := 107) hG dX12_die_169 rfl ?_
                  refine pm_fg 4 (loc' := [some (.ref (B + 54)), some (.int za), some (.int x8), some (.int (nI (i92 + 1))), none]) rfl ?_
                  exact ih92 I92 A92 n_129 (i92 + 1) hnn_129 hrn_129 (by omega) (by omega)
        exact loop107_92 _ I10 A10 n_91 0 hn91 hr91 (by omega) (Nat.lt_succ_self _)
    · refine pm_callV (As := [.int (nI k4)]) (rest := []) hG hR dX12_die_16 (lkX12_101 _ rfl) okV_X12_lives rfl rfl (m_lives0 (d := 3) (by decide) (by omega) (by omega : 14 * k4 + 119 = 14 * k4 + 119) ek5 (by omega)) rfl rfl hdd (Nat.le_refl _) (Nat.le_refl _) (by decide) (pm_ki (fun v134 σ' cnt' hq => ?_))
      obtain ⟨rfl, rfl, rfl⟩ := hq
      refine pm_ifN_ne (tgt := 28) hG dX12_die_19 rfl (by omega) (fun q => absurd q (by omega)) (fun _ => ?_)
      refine pm_aloadn hG dX12_die_22 rfl ?_
      refine pm_iconst (v := nI 3) hG dX12_die_23 (by decide) ?_
      refine pm_callV (As := [.int (nI 3)]) (rest := []) hG hR dX12_die_24 (lkX12_80 _ rfl) okV_X12_finds rfl rfl (m_finds (d := 3) (by decide) hn hz (by omega)) rfl rfl hdd (Nat.le_refl _) (Nat.le_refl _) (by decide) (pm_ki (fun v135 σ' cnt' hq => ?_))
      obtain ⟨⟨I136, A136, rfl⟩, rfl, fv135⟩ := hq
      exact pm_iret hG hF dX12_die_27 rfl (Nat.le_refl _) (Nat.le_refl _) ⟨_, rfl, ⟨_, _, _, rfl, hn, hr⟩, rfl⟩
  · refine pm_ifN_ne (tgt := 14) hG dX12_die_5 rfl (by omega) (fun q => absurd q (by omega)) (fun _ => ?_)
    refine pm_aloadn hG dX12_die_8 rfl ?_
    refine pm_iconst (v := nI 1) hG dX12_die_9 (by decide) ?_
    refine pm_callV (As := [.int (nI 1)]) (rest := []) hG hR dX12_die_10 (lkX12_80 _ rfl) okV_X12_finds rfl rfl (m_finds (d := 3) (by decide) hn hz (by omega)) rfl rfl hdd (Nat.le_refl _) (Nat.le_refl _) (by decide) (pm_ki (fun v137 σ' cnt' hq => ?_))
    obtain ⟨⟨I138, A138, rfl⟩, rfl, fv137⟩ := hq
    exact pm_iret hG hF dX12_die_13 rfl (Nat.le_refl _) (Nat.le_refl _) ⟨_, rfl, ⟨_, _, _, rfl, hn, hr⟩, rfl⟩
