set_option maxRecDepth 100000 in
set_option maxHeartbeats 4000000 in
theorem m_law {d B cnt p0 t0 : Nat} {σ : pm_S} {I : Nat → Int32} {A : Nat → Nat → Int32} {n k z : Nat → Int32} {ac wt pl im : Int32} {y : Nat → Int32} {za zb : Int32} (hdd : 5 ≤ d) (hn : KI n) (hr : NR n) (hz : SZ z)  : pm_met mX12_law d 0 0 B [.ref (B + 54), .int za, .int zb] cnt (pm_mid σ (md_L B I A n k z ac wt pl (nI p0) (nI t0) im y)) (pm_Qi (fun v σ' cnt' => (∃ (I' : Nat → Int32) (A' : Nat → Nat → Int32) (n' : Nat → Int32) (ac' : Int32) (wt' : Int32) (pl' : Int32), σ' = pm_mid σ (md_L B I' A' n' k z ac' wt' pl' (nI p0) (nI t0) im y) ∧ KI n' ∧ NR n') ∧ cnt = cnt')) := by
  refine pm_enter 4 (by decide) (Nat.le_of_ble_eq_true rfl) rfl (fun G hG hR hF => ?_)
  refine pm_iloadn hG dX12_law_0 rfl ?_
  refine pm_iconst (v := nI 0) hG dX12_law_1 (by decide) ?_
  refine pm_iconst (v := nI 4) hG dX12_law_2 (by decide) ?_
  refine pm_callS (As := [.int za, .int (nI 0), .int (nI 4)]) (rest := []) hG hR dX12_law_3 (lkX12_68 _ rfl) okS_X12_in (m_in (d := 4)) rfl rfl hdd (Nat.le_refl _) (Nat.le_refl _) (by decide) (pm_ki (fun v1 σ' cnt' hq => ?_))
  obtain ⟨hq, rfl, rfl⟩ := hq
  rcases hq with ⟨rfl, ac2, bc2⟩ | ⟨rfl, c2⟩
  · obtain ⟨k3, hk3, ek3⟩ := in_nat (by omega) (by omega) ac2 bc2
    refine pm_ifN_eq (tgt := 16) hG dX12_law_6 rfl (by omega) (fun q => absurd q (by omega)) (fun _ => ?_)
    refine pm_iloadn hG dX12_law_9 rfl ?_
    refine pm_callS (As := [.int zb]) (rest := []) hG hR dX12_law_10 (lkX12_186 _ rfl) okS_X12_isDay (m_isDay (d := 4) (by decide)) rfl rfl hdd (Nat.le_refl _) (Nat.le_refl _) (by decide) (pm_ki (fun v4 σ' cnt' hq => ?_))
    obtain ⟨hq, rfl, rfl⟩ := hq
    rcases hq with ⟨rfl, ac5, bc5⟩ | ⟨rfl, c5⟩
    · obtain ⟨k6, hk6, ek6⟩ := in_nat (by omega) (by omega) ac5 bc5
      refine pm_ifN_ne (tgt := 22) hG dX12_law_13 rfl (by omega) (fun _ => ?_) (fun q => absurd q (by omega))
      refine pm_aloadn hG dX12_law_22 rfl ?_
      refine pm_getf hG dX12_law_23 (flX12_7 _ rfl) rfl rfl ?_
      refine pm_iconst (v := nI 4) hG dX12_law_26 (by decide) ?_
      refine pm_ialdN hG dX12_law_27 rfl (by decide) (by omega) ?_
      obtain ⟨k7, hk7, ek7⟩ := KI.nat hn (show kd 4 = (1, 13, false) by decide)
      refine pm_top (v := nI k7) ek7 ?_
      refine pm_istoreXn (loc' := [some (.ref (B + 54)), some (.int za), some (.int zb), some (.int (nI k7)), none, none, none]) hG dX12_law_28 (by decide) (pm_c1b rfl) rfl ?_
      refine pm_iloadn hG dX12_law_29 rfl ?_
      refine pm_bipush (v := nI 12) hG dX12_law_30 (by decide) ?_
      refine pm_icmpN_ne (tgt := 41) hG dX12_law_32 rfl (by omega) (by omega) (fun c8 => ?_) (fun c8 => ?_)
      · refine pm_aloadn hG dX12_law_41 rfl ?_
        obtain ⟨k9, hk9, ek9⟩ := KI.nat hn (show kd 10 = (1, 61, false) by decide)
        refine pm_callV (As := []) (rest := []) hG hR dX12_law_42 (lkX12_189 _ rfl) okV_X12_reads rfl rfl (m_reads (d := 4) (by decide) hn ek9 (by omega)) rfl rfl hdd (Nat.le_refl _) (Nat.le_refl _) (by decide) (pm_ki (fun v10 σ' cnt' hq => ?_))
        obtain ⟨A_11, a_11, w_11, p_11, rfl, b_11, rfl, hq⟩ := hq
        rcases hq with rfl | ⟨rfl, D11, hD11⟩
        · refine pm_istoreXi (loc' := [some (.ref (B + 54)), some (.int za), some (.int zb), some (.int (nI k7)), some (.int (nI 0)), none, none]) hG dX12_law_45 (by decide) (pm_c1b rfl) rfl ?_
          refine pm_aloadn hG dX12_law_47 rfl ?_
          refine pm_getf hG dX12_law_48 (flX12_7 _ rfl) rfl rfl ?_
          refine pm_bipush (v := nI 10) hG dX12_law_51 (by decide) ?_
          refine pm_iconst (v := nI 0) hG dX12_law_53 (by decide) ?_
          refine pm_iastN hG dX12_law_54 rfl (by decide) (by omega) ?_
          refine mdn_now (fun n_12 en_12 => ?_)
          have hnn_12 := KI.w en_12 hn (okv_n (show kd 10 = (1, 61, false) by decide) (by omega))
          have hrn_12 := NRx.w en_12 hr (by rw [(show kd 10 = (1, 61, false) by decide)])
          have e13 : n_12 4 = nI k7 := by rw [en_12, pk_un (by omega)]; exact ek7
          have e14 : n_12 10 = nI 0 := by rw [en_12, pk_us]
          refine pm_iloadi hG dX12_law_55 rfl ?_
          refine pm_ifN_ne (tgt := 68) hG dX12_law_57 rfl (by omega) (fun q => absurd q (by omega)) (fun _ => ?_)
          refine pm_bipush (v := (-10)) hG dX12_law_60 (by decide) ?_
          refine pm_aloadn hG dX12_law_62 rfl ?_
          refine pm_getf hG dX12_law_63 (flX12_157 _ rfl) rfl rfl ?_
          refine pm_isub hG dX12_law_66 ?_
          exact pm_iret hG hF dX12_law_67 rfl (Nat.le_refl _) (Nat.le_refl _) ⟨_, rfl, ⟨_, _, _, _, _, _, rfl, hnn_12, hrn_12⟩, rfl⟩
        · refine pm_istoreXi (loc' := [some (.ref (B + 54)), some (.int za), some (.int zb), some (.int (nI k7)), some (.int (nI 1)), none, none]) hG dX12_law_45 (by decide) (pm_c1b rfl) rfl ?_
          refine pm_aloadn hG dX12_law_47 rfl ?_
          refine pm_getf hG dX12_law_48 (flX12_7 _ rfl) rfl rfl ?_
          refine pm_bipush (v := nI 10) hG dX12_law_51 (by decide) ?_
          refine pm_iconst (v := nI 0) hG dX12_law_53 (by decide) ?_
          refine pm_iastN hG dX12_law_54 rfl (by decide) (by omega) ?_
          refine mdn_now (fun n_15 en_15 => ?_)
          have hnn_15 := KI.w en_15 hn (okv_n (show kd 10 = (1, 61, false) by decide) (by omega))
          have hrn_15 := NRx.w en_15 hr (by rw [(show kd 10 = (1, 61, false) by decide)])
          have e16 : n_15 4 = nI k7 := by rw [en_15, pk_un (by omega)]; exact ek7
          have e17 : n_15 10 = nI 0 := by rw [en_15, pk_us]
          refine pm_iloadi hG dX12_law_55 rfl ?_
          refine pm_ifN_ne (tgt := 68) hG dX12_law_57 rfl (by omega) (fun _ => ?_) (fun q => absurd q (by omega))
          refine pm_sipush (v := nI 510) hG dX12_law_68 (by decide) ?_
          refine pm_bipush (v := nI 65) hG dX12_law_71 (by decide) ?_
          refine pm_iloadn hG dX12_law_73 rfl ?_
          refine pm_imulN (c := 65 * k7) hG dX12_law_74 (by omega) ?_
          refine pm_iaddN (c := 65 * k7 + 510) hG dX12_law_75 (by omega) ?_
          refine pm_istoreXi (loc' := [some (.ref (B + 54)), some (.int za), some (.int zb), some (.int (nI k7)), some (.int (nI 1)), some (.int (nI (65 * k7 + 510))), none]) hG dX12_law_76 (by decide) (pm_c1b rfl) rfl ?_
          refine pm_aloadn hG dX12_law_78 rfl ?_
          refine pm_getf hG dX12_law_79 (flX12_7 _ rfl) rfl rfl ?_
          refine pm_iconst (v := nI 4) hG dX12_law_82 (by decide) ?_
          refine pm_dup2 hG dX12_law_83 rfl rfl ?_
          refine pm_ialdN hG dX12_law_84 rfl (by decide) (by omega) ?_
          refine pm_top (v := nI k7) e16 ?_
          refine pm_iconst (v := nI 1) hG dX12_law_85 (by decide) ?_
          refine pm_iaddN (c := k7 + 1) hG dX12_law_86 (by omega) ?_
          refine pm_iastN hG dX12_law_87 rfl (by decide) (by omega) ?_
          refine mdn_now (fun n_18 en_18 => ?_)
          have hnn_18 := KI.w en_18 hnn_15 (okv_n (show kd 4 = (1, 13, false) by decide) (by omega))
          have hrn_18 := NRx.w en_18 hrn_15 (by rw [(show kd 4 = (1, 13, false) by decide)])
          have e19 : n_18 10 = nI 0 := by rw [en_18, pk_un (by omega)]; exact e17
          have e20 : n_18 4 = nI (k7 + 1) := by rw [en_18, pk_us]
          refine pm_aloadn hG dX12_law_88 rfl ?_
          refine pm_getf hG dX12_law_89 (flX12_7 _ rfl) rfl rfl ?_
          refine pm_iloadi hG dX12_law_92 rfl ?_
          refine pm_iloadn hG dX12_law_94 rfl ?_
          refine pm_top (v := nI k3) ek3 ?_
          refine pm_iastN hG dX12_law_95 rfl (by decide) (by omega) ?_
          refine mdn_now (fun n_21 en_21 => ?_)
          have hnn_21 := KI.w en_21 hnn_18 (okv_f (show kd (65 * k7 + 510) = (0, 0, false) from (kd_L (k := k7) (c := 0) (by omega) (by omega) (by decide))))
          have hrn_21 := NRx.w en_21 hrn_18 (by rw [(show kd (65 * k7 + 510) = (0, 0, false) from (kd_L (k := k7) (c := 0) (by omega) (by omega) (by decide)))])
          have e22 : n_21 10 = nI 0 := by rw [en_21, pk_un (by omega)]; exact e19
          have e23 : n_21 4 = nI (k7 + 1) := by rw [en_21, pk_un (by omega)]; exact e20
          have e24 : n_21 (65 * k7 + 510) = nI k3 := by rw [en_21, pk_us]
          refine pm_aloadn hG dX12_law_96 rfl ?_
          refine pm_getf hG dX12_law_97 (flX12_7 _ rfl) rfl rfl ?_
          refine pm_iloadi hG dX12_law_100 rfl ?_
          refine pm_iconst (v := nI 1) hG dX12_law_102 (by decide) ?_
          refine pm_iaddN (c := 65 * k7 + 511) hG dX12_law_103 (by omega) ?_
          refine pm_iloadn hG dX12_law_104 rfl ?_
          refine pm_top (v := nI k6) ek6 ?_
          refine pm_iastN hG dX12_law_105 rfl (by decide) (by omega) ?_
          refine mdn_now (fun n_25 en_25 => ?_)
          have hnn_25 := KI.w en_25 hnn_21 (okv_f (show kd (65 * k7 + 511) = (0, 0, false) from (kd_L (k := k7) (c := 1) (by omega) (by omega) (by decide))))
          have hrn_25 := NRx.w en_25 hrn_21 (by rw [(show kd (65 * k7 + 511) = (0, 0, false) from (kd_L (k := k7) (c := 1) (by omega) (by omega) (by decide)))])
          have e26 : n_25 10 = nI 0 := by rw [en_25, pk_un (by omega)]; exact e22
          have e27 : n_25 4 = nI (k7 + 1) := by rw [en_25, pk_un (by omega)]; exact e23
          have e28 : n_25 (65 * k7 + 511) = nI k6 := by rw [en_25, pk_us]
          refine pm_aloadn hG dX12_law_106 rfl ?_
          refine pm_getf hG dX12_law_107 (flX12_7 _ rfl) rfl rfl ?_
          refine pm_iloadi hG dX12_law_110 rfl ?_
          refine pm_iconst (v := nI 2) hG dX12_law_112 (by decide) ?_
          refine pm_iaddN (c := 65 * k7 + 512) hG dX12_law_113 (by omega) ?_
          refine pm_aloadn hG dX12_law_114 rfl ?_
          refine pm_getf hG dX12_law_115 (flX12_7 _ rfl) rfl rfl ?_
          refine pm_bipush (v := nI 8) hG dX12_law_118 (by decide) ?_
          refine pm_ialdN hG dX12_law_120 rfl (by decide) (by omega) ?_
          obtain ⟨k29, hk29, ek29⟩ := KI.nat hnn_25 (show kd 8 = (1, 2001, false) by decide)
          refine pm_top (v := nI k29) ek29 ?_
          refine pm_iastN hG dX12_law_121 rfl (by decide) (by omega) ?_
          refine mdn_now (fun n_30 en_30 => ?_)
          have hnn_30 := KI.w en_30 hnn_25 (okv_f (show kd (65 * k7 + 512) = (0, 0, false) from (kd_L (k := k7) (c := 2) (by omega) (by omega) (by decide))))
          have hrn_30 := NRx.w en_30 hrn_25 (by rw [(show kd (65 * k7 + 512) = (0, 0, false) from (kd_L (k := k7) (c := 2) (by omega) (by omega) (by decide)))])
          have e31 : n_30 10 = nI 0 := by rw [en_30, pk_un (by omega)]; exact e26
          have e32 : n_30 4 = nI (k7 + 1) := by rw [en_30, pk_un (by omega)]; exact e27
          have e33 : n_30 8 = nI k29 := by rw [en_30, pk_un (by omega)]; exact ek29
          have e34 : n_30 (65 * k7 + 512) = nI k29 := by rw [en_30, pk_us]
          refine pm_aloadn hG dX12_law_122 rfl ?_
          refine pm_getf hG dX12_law_123 (flX12_7 _ rfl) rfl rfl ?_
          refine pm_iloadi hG dX12_law_126 rfl ?_
          refine pm_iconst (v := nI 3) hG dX12_law_128 (by decide) ?_
          refine pm_iaddN (c := 65 * k7 + 513) hG dX12_law_129 (by omega) ?_
          refine pm_iconst (v := (-1)) hG dX12_law_130 (by decide) ?_
          refine pm_iastN hG dX12_law_131 rfl (by decide) (by omega) ?_
          refine mdn_now (fun n_35 en_35 => ?_)
          have hnn_35 := KI.w en_35 hnn_30 (okv_f (show kd (65 * k7 + 513) = (0, 0, false) from (kd_L (k := k7) (c := 3) (by omega) (by omega) (by decide))))
          have hrn_35 := NRx.w en_35 hrn_30 (by rw [(show kd (65 * k7 + 513) = (0, 0, false) from (kd_L (k := k7) (c := 3) (by omega) (by omega) (by decide)))])
          have e36 : n_35 10 = nI 0 := by rw [en_35, pk_un (by omega)]; exact e31
          have e37 : n_35 4 = nI (k7 + 1) := by rw [en_35, pk_un (by omega)]; exact e32
          have e38 : n_35 8 = nI k29 := by rw [en_35, pk_un (by omega)]; exact e33
          have e39 : n_35 (65 * k7 + 513) = (-1) := by rw [en_35, pk_us]
          refine pm_aloadn hG dX12_law_132 rfl ?_
          refine pm_getf hG dX12_law_133 (flX12_7 _ rfl) rfl rfl ?_
          refine pm_iloadi hG dX12_law_136 rfl ?_
          refine pm_iconst (v := nI 4) hG dX12_law_138 (by decide) ?_
          refine pm_iaddN (c := 65 * k7 + 514) hG dX12_law_139 (by omega) ?_
          refine pm_aloadn hG dX12_law_140 rfl ?_
          refine pm_getf hG dX12_law_141 (flX12_144 _ rfl) rfl rfl ?_
          refine pm_iastN hG dX12_law_144 rfl (by decide) (by omega) ?_
          refine mdn_now (fun n_40 en_40 => ?_)
          have hnn_40 := KI.w en_40 hnn_35 (okv_n (show kd (65 * k7 + 514) = (1, 61, true) from (kd_L (k := k7) (c := 4) (by omega) (by omega) (by decide))) (by omega))
          have hrn_40 := NRL.w (l := k7) en_40 (NRL.of k7 hrn_35) (by omega)
          have lcn_40 : n_40 (65 * k7 + 514) = nI a_11 := by rw [en_40, pk_us]
          have e41 : n_40 10 = nI 0 := by rw [en_40, pk_un (by omega)]; exact e36
          have e42 : n_40 4 = nI (k7 + 1) := by rw [en_40, pk_un (by omega)]; exact e37
          have e43 : n_40 8 = nI k29 := by rw [en_40, pk_un (by omega)]; exact e38
          have e44 : n_40 (65 * k7 + 514) = nI a_11 := by rw [en_40, pk_us]
          refine pm_iconst (v := nI 0) hG dX12_law_145 (by decide) ?_
          refine pm_istoreXi (loc' := [some (.ref (B + 54)), some (.int za), some (.int zb), some (.int (nI k7)), some (.int (nI 1)), some (.int (nI (65 * k7 + 510))), some (.int (nI 0))]) hG dX12_law_146 (by decide) (pm_c1b rfl) rfl ?_
          have loop148_45 : ∀ (m45 : Nat) (n_45 : Nat → Int32) (i45 : Nat), i45 ≤ 60 → KI n_45 → NRL k7 n_45 → n_45 (65 * k7 + 514) = nI a_11 → (∀ j : Nat, j < i45 → n_45 (65 * k7 + 515 + j) = A_11 60 j) → 60 - i45 < m45 → pm_wp mX12_law G B 148 [some (.ref (B + 54)), some (.int za), some (.int zb), some (.int (nI k7)), some (.int (nI 1)), some (.int (nI (65 * k7 + 510))), some (.int (nI i45))] [] 0 0 cnt (pm_mid σ (md_L B I A_11 n_45 k z (nI a_11) (nI w_11) (nI p_11) (nI p0) (nI t0) im y)) := by
            intro m45
            induction m45 with
            | zero => intro n_45 i45 _ _ _ _ _ hm; exact absurd hm (Nat.not_lt_zero _)
            | succ m45 ih45 =>
              intro n_45 i45 hi45 hn45 hr45 lc45 lcp45 hm45
              refine pm_iloadi hG dX12_law_148 rfl ?_
              refine pm_aloadn hG dX12_law_150 rfl ?_
              refine pm_getf hG dX12_law_151 (flX12_144 _ rfl) rfl rfl ?_
              refine pm_icmpN_ge (tgt := 182) hG dX12_law_154 rfl (by omega) (by omega) (fun c46 => ?_) (fun c46 => ?_)
              · refine pm_iloadn hG dX12_law_182 rfl ?_
                exact pm_iret hG hF dX12_law_183 rfl (Nat.le_refl _) (Nat.le_refl _) ⟨_, rfl, ⟨_, _, _, _, _, _, rfl, hn45, (NRL.cl hr45 lc45 (by omega) (fun j hj => lcp45 j (by omega)) hD11)⟩, rfl⟩
              · refine pm_aloadn hG dX12_law_157 rfl ?_
                refine pm_getf hG dX12_law_158 (flX12_7 _ rfl) rfl rfl ?_
                refine pm_iloadi hG dX12_law_161 rfl ?_
                refine pm_iconst (v := nI 5) hG dX12_law_163 (by decide) ?_
                refine pm_iaddN (c := 65 * k7 + 515) hG dX12_law_164 (by omega) ?_
                refine pm_iloadi hG dX12_law_165 rfl ?_
                refine pm_iaddN (c := i45 + 65 * k7 + 515) hG dX12_law_167 (by omega) ?_
                refine pm_aloadn hG dX12_law_168 rfl ?_
                refine pm_getf hG dX12_law_169 (flX12_25 _ rfl) rfl rfl ?_
                refine pm_iloadi hG dX12_law_172 rfl ?_
                refine pm_ialdN hG dX12_law_174 rfl (by decide) (by omega) ?_
                refine pm_gen (fun x47 ex47 => ?_)
                refine pm_iastN hG dX12_law_175 rfl (by decide) (by omega) ?_
                refine mdn_now (fun n_48 en_48 => ?_)
                have hnn_48 := KI.w en_48 hn45 (okv_f (show kd (i45 + 65 * k7 + 515) = (0, 0, true) from (kd_Lc (k := k7) (c := i45 + 5) (by omega) (by omega) (by omega) (by omega))))
                have hrn_48 := NRL.w (l := k7) en_48 hr45 (by omega)
                have lcn_48 : n_48 (65 * k7 + 514) = nI a_11 := by rw [en_48, pk_un (by omega)]; exact lc45
                have cpn_48 := cpyL (b := 65 * k7 + 515) lcp45 en_48 (by omega) ex47
                have e49 : n_48 (i45 + 65 * k7 + 515) = x47 := by rw [en_48, pk_us]
                refine pm_iincX (v := nI (i45 + 1)) (loc' := [some (.ref (B + 54)), some (.int za), some (.int zb), some (.int (nI k7)), some (.int (nI 1)), some (.int (nI (65 * k7 + 510))), some (.int (nI (i45 + 1)))]) hG dX12_law_176 rfl (nI_1 _) (by decide) (pm_c1b rfl) rfl ?_
                refine pm_goto (tgt := 148) hG dX12_law_179 rfl ?_
                exact ih45 n_48 (i45 + 1) (by omega) hnn_48 hrn_48 lcn_48 cpn_48 (by omega)
          exact loop148_45 _ n_40 0 (by omega) hnn_40 hrn_40 lcn_40 (fun _ h => absurd h (Nat.not_lt_zero _)) (Nat.lt_succ_self _)
      · refine pm_aloadn hG dX12_law_35 rfl ?_
        refine pm_iconst (v := nI 4) hG dX12_law_36 (by decide) ?_
        refine pm_callV (As := [.int (nI 4)]) (rest := []) hG hR dX12_law_37 (lkX12_80 _ rfl) okV_X12_finds rfl rfl (m_finds (d := 4) (by decide) hn hz (by omega)) rfl rfl hdd (Nat.le_refl _) (Nat.le_refl _) (by decide) (pm_ki (fun v50 σ' cnt' hq => ?_))
        obtain ⟨⟨I51, A51, rfl⟩, rfl, fv50⟩ := hq
        exact pm_iret hG hF dX12_law_40 rfl (Nat.le_refl _) (Nat.le_refl _) ⟨_, rfl, ⟨_, _, _, _, _, _, rfl, hn, hr⟩, rfl⟩
    · refine pm_ifN_ne (tgt := 22) hG dX12_law_13 rfl (by omega) (fun q => absurd q (by omega)) (fun _ => ?_)
      refine pm_aloadn hG dX12_law_16 rfl ?_
      refine pm_iconst (v := nI 1) hG dX12_law_17 (by decide) ?_
      refine pm_callV (As := [.int (nI 1)]) (rest := []) hG hR dX12_law_18 (lkX12_80 _ rfl) okV_X12_finds rfl rfl (m_finds (d := 4) (by decide) hn hz (by omega)) rfl rfl hdd (Nat.le_refl _) (Nat.le_refl _) (by decide) (pm_ki (fun v52 σ' cnt' hq => ?_))
      obtain ⟨⟨I53, A53, rfl⟩, rfl, fv52⟩ := hq
      exact pm_iret hG hF dX12_law_21 rfl (Nat.le_refl _) (Nat.le_refl _) ⟨_, rfl, ⟨_, _, _, _, _, _, rfl, hn, hr⟩, rfl⟩
  · refine pm_ifN_eq (tgt := 16) hG dX12_law_6 rfl (by omega) (fun _ => ?_) (fun q => absurd q (by omega))
    refine pm_aloadn hG dX12_law_16 rfl ?_
    refine pm_iconst (v := nI 1) hG dX12_law_17 (by decide) ?_
    refine pm_callV (As := [.int (nI 1)]) (rest := []) hG hR dX12_law_18 (lkX12_80 _ rfl) okV_X12_finds rfl rfl (m_finds (d := 4) (by decide) hn hz (by omega)) rfl rfl hdd (Nat.le_refl _) (Nat.le_refl _) (by decide) (pm_ki (fun v54 σ' cnt' hq => ?_))
    obtain ⟨⟨I55, A55, rfl⟩, rfl, fv54⟩ := hq
    exact pm_iret hG hF dX12_law_21 rfl (Nat.le_refl _) (Nat.le_refl _) ⟨_, rfl, ⟨_, _, _, _, _, _, rfl, hn, hr⟩, rfl⟩
