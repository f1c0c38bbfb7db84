set_option maxRecDepth 100000 in
set_option maxHeartbeats 4000000 in
theorem m_inForce {d B cnt p0 t0 : Nat} {σ : pm_S} {I : Nat → Int32} {A : Nat → Nat → Int32} {n k z : Nat → Int32} {ac wt pl im : Int32} {y : Nat → Int32} {za zb zc : Int32} (hdd : 1 ≤ d) (hn : KI n) (hz : SZ z)  : pm_met mX12_inForce d 0 0 B [.ref (B + 54), .int za, .int zb, .int zc] cnt (pm_mid σ (md_L B I A n k z ac wt pl (nI p0) (nI t0) im y)) (pm_Qi (fun v σ' cnt' => σ' = pm_mid σ (md_L B I A n k z ac wt pl (nI p0) (nI t0) im y) ∧ cnt = cnt' ∧ (v = -1 ∨ ∃ k : Nat, k < 12 ∧ v = nI k))) := by
  refine pm_enter 4 (by decide) (Nat.le_of_ble_eq_true rfl) rfl (fun G hG hR hF => ?_)
  refine pm_iconst (v := (-1)) hG dX12_inForce_0 (by decide) ?_
  refine pm_istoreXi (loc' := [some (.ref (B + 54)), some (.int za), some (.int zb), some (.int zc), some (.int (-1)), none, none, none]) hG dX12_inForce_1 (by decide) (pm_c1b rfl) rfl ?_
  refine pm_iconst (v := nI 0) hG dX12_inForce_3 (by decide) ?_
  refine pm_istoreXi (loc' := [some (.ref (B + 54)), some (.int za), some (.int zb), some (.int zc), some (.int (-1)), some (.int (nI 0)), none, none]) hG dX12_inForce_4 (by decide) (pm_c1b rfl) rfl ?_
  have loop6_1 : ∀ (m1 : Nat) (x1_4 : Int32) (i1 : Nat), (x1_4 = -1 ∨ ∃ q : Nat, q < 12 ∧ x1_4 = nI q) → i1 ≤ 12 → 12 - i1 < m1 → pm_wp mX12_inForce G B 6 [some (.ref (B + 54)), some (.int za), some (.int zb), some (.int zc), some (.int x1_4), some (.int (nI i1)), none, none] [] 0 0 cnt (pm_mid σ (md_L B I A n k z ac wt pl (nI p0) (nI t0) im y)) := by
    intro m1
    induction m1 with
    | zero => intro x1_4 i1 _ _ hm; exact absurd hm (Nat.not_lt_zero _)
    | succ m1 ih1 =>
      intro x1_4 i1 ho1_4 hi1 hm1
      rcases ho1_4 with rfl | ⟨k2, hk2, rfl⟩
      · refine pm_iloadi hG dX12_inForce_6 rfl ?_
        refine pm_aloadn hG dX12_inForce_8 rfl ?_
        refine pm_getf hG dX12_inForce_9 (flX12_7 _ rfl) rfl rfl ?_
        refine pm_iconst (v := nI 4) hG dX12_inForce_12 (by decide) ?_
        refine pm_ialdN hG dX12_inForce_13 rfl (by decide) (by omega) ?_
        obtain ⟨k3, hk3, ek3⟩ := KI.nat hn (show kd 4 = (1, 13, false) by decide)
        refine pm_top (v := nI k3) ek3 ?_
        refine pm_icmpN_ge (tgt := 137) hG dX12_inForce_14 rfl (by omega) (by omega) (fun c4 => ?_) (fun c4 => ?_)
        · refine pm_iloadi hG dX12_inForce_137 rfl ?_
          exact pm_iret hG hF dX12_inForce_139 rfl (Nat.le_refl _) (Nat.le_refl _) ⟨_, rfl, rfl, rfl, Or.inl rfl⟩
        · refine pm_sipush (v := nI 510) hG dX12_inForce_17 (by decide) ?_
          refine pm_bipush (v := nI 65) hG dX12_inForce_20 (by decide) ?_
          refine pm_iloadi hG dX12_inForce_22 rfl ?_
          refine pm_imulN (c := 65 * i1) hG dX12_inForce_24 (by omega) ?_
          refine pm_iaddN (c := 65 * i1 + 510) hG dX12_inForce_25 (by omega) ?_
          refine pm_istoreXi (loc' := [some (.ref (B + 54)), some (.int za), some (.int zb), some (.int zc), some (.int (-1)), some (.int (nI i1)), some (.int (nI (65 * i1 + 510))), none]) hG dX12_inForce_26 (by decide) (pm_c1b rfl) rfl ?_
          refine pm_aloadn hG dX12_inForce_28 rfl ?_
          refine pm_getf hG dX12_inForce_29 (flX12_7 _ rfl) rfl rfl ?_
          refine pm_iloadi hG dX12_inForce_32 rfl ?_
          refine pm_iconst (v := nI 3) hG dX12_inForce_34 (by decide) ?_
          refine pm_iaddN (c := 65 * i1 + 513) hG dX12_inForce_35 (by omega) ?_
          refine pm_ialdN hG dX12_inForce_36 rfl (by decide) (by omega) ?_
          refine pm_gen (fun x5 ex5 => ?_)
          refine pm_iconst (v := nI 0) hG dX12_inForce_37 (by decide) ?_
          refine pm_iloadn hG dX12_inForce_38 rfl ?_
          refine pm_callS (As := [.int x5, .int (nI 0), .int zc]) (rest := []) hG hR dX12_inForce_39 (lkX12_68 _ rfl) okS_X12_in (m_in (d := 0)) rfl rfl hdd (Nat.le_refl _) (Nat.le_refl _) (by decide) (pm_ki (fun v6 σ' cnt' hq => ?_))
          obtain ⟨hq, rfl, rfl⟩ := hq
          rcases hq with ⟨rfl, ac7, bc7⟩ | ⟨rfl, c7⟩
          · refine pm_istoreXi (loc' := [some (.ref (B + 54)), some (.int za), some (.int zb), some (.int zc), some (.int (-1)), some (.int (nI i1)), some (.int (nI (65 * i1 + 510))), some (.int (nI 1))]) hG dX12_inForce_42 (by decide) (pm_c1b rfl) rfl ?_
            refine pm_aloadn hG dX12_inForce_44 rfl ?_
            refine pm_getf hG dX12_inForce_45 (flX12_7 _ rfl) rfl rfl ?_
            refine pm_iloadi hG dX12_inForce_48 rfl ?_
            refine pm_ialdN hG dX12_inForce_50 rfl (by decide) (by omega) ?_
            refine pm_gen (fun x8 ex8 => ?_)
            refine pm_iloadn hG dX12_inForce_51 rfl ?_
            refine pm_icmp_ne (tgt := 131) hG dX12_inForce_52 rfl (fun c9 => ?_) (fun c9 => ?_)
            · refine pm_iincX (v := nI (i1 + 1)) (loc' := [some (.ref (B + 54)), some (.int za), some (.int zb), some (.int zc), some (.int (-1)), some (.int (nI (i1 + 1))), some (.int (nI (65 * i1 + 510))), some (.int (nI 1))]) hG dX12_inForce_131 rfl (nI_1 _) (by decide) (pm_c1b rfl) rfl ?_
              refine pm_goto (tgt := 6) hG dX12_inForce_134 rfl ?_
              refine pm_fg 6 (loc' := [some (.ref (B + 54)), some (.int za), some (.int zb), some (.int zc), some (.int (-1)), some (.int (nI (i1 + 1))), none, some (.int (nI 1))]) rfl ?_
              refine pm_fg 7 (loc' := [some (.ref (B + 54)), some (.int za), some (.int zb), some (.int zc), some (.int (-1)), some (.int (nI (i1 + 1))), none, none]) rfl ?_
              exact ih1 (-1) (i1 + 1) (Or.inl rfl) (by omega) (by omega)
            · refine pm_aloadn hG dX12_inForce_55 rfl ?_
              refine pm_getf hG dX12_inForce_56 (flX12_7 _ rfl) rfl rfl ?_
              refine pm_iloadi hG dX12_inForce_59 rfl ?_
              refine pm_iconst (v := nI 1) hG dX12_inForce_61 (by decide) ?_
              refine pm_iaddN (c := 65 * i1 + 511) hG dX12_inForce_62 (by omega) ?_
              refine pm_ialdN hG dX12_inForce_63 rfl (by decide) (by omega) ?_
              refine pm_gen (fun x10 ex10 => ?_)
              refine pm_iloadn hG dX12_inForce_64 rfl ?_
              refine pm_icmp_gt (tgt := 131) hG dX12_inForce_65 rfl (fun c11 => ?_) (fun c11 => ?_)
              · refine pm_iincX (v := nI (i1 + 1)) (loc' := [some (.ref (B + 54)), some (.int za), some (.int zb), some (.int zc), some (.int (-1)), some (.int (nI (i1 + 1))), some (.int (nI (65 * i1 + 510))), some (.int (nI 1))]) hG dX12_inForce_131 rfl (nI_1 _) (by decide) (pm_c1b rfl) rfl ?_
                refine pm_goto (tgt := 6) hG dX12_inForce_134 rfl ?_
                refine pm_fg 6 (loc' := [some (.ref (B + 54)), some (.int za), some (.int zb), some (.int zc), some (.int (-1)), some (.int (nI (i1 + 1))), none, some (.int (nI 1))]) rfl ?_
                refine pm_fg 7 (loc' := [some (.ref (B + 54)), some (.int za), some (.int zb), some (.int zc), some (.int (-1)), some (.int (nI (i1 + 1))), none, none]) rfl ?_
                exact ih1 (-1) (i1 + 1) (Or.inl rfl) (by omega) (by omega)
              · refine pm_aloadn hG dX12_inForce_68 rfl ?_
                refine pm_getf hG dX12_inForce_69 (flX12_7 _ rfl) rfl rfl ?_
                refine pm_iloadi hG dX12_inForce_72 rfl ?_
                refine pm_iconst (v := nI 2) hG dX12_inForce_74 (by decide) ?_
                refine pm_iaddN (c := 65 * i1 + 512) hG dX12_inForce_75 (by omega) ?_
                refine pm_ialdN hG dX12_inForce_76 rfl (by decide) (by omega) ?_
                refine pm_gen (fun x12 ex12 => ?_)
                refine pm_iloadn hG dX12_inForce_77 rfl ?_
                refine pm_icmp_gt (tgt := 131) hG dX12_inForce_78 rfl (fun c13 => ?_) (fun c13 => ?_)
                · refine pm_iincX (v := nI (i1 + 1)) (loc' := [some (.ref (B + 54)), some (.int za), some (.int zb), some (.int zc), some (.int (-1)), some (.int (nI (i1 + 1))), some (.int (nI (65 * i1 + 510))), some (.int (nI 1))]) hG dX12_inForce_131 rfl (nI_1 _) (by decide) (pm_c1b rfl) rfl ?_
                  refine pm_goto (tgt := 6) hG dX12_inForce_134 rfl ?_
                  refine pm_fg 6 (loc' := [some (.ref (B + 54)), some (.int za), some (.int zb), some (.int zc), some (.int (-1)), some (.int (nI (i1 + 1))), none, some (.int (nI 1))]) rfl ?_
                  refine pm_fg 7 (loc' := [some (.ref (B + 54)), some (.int za), some (.int zb), some (.int zc), some (.int (-1)), some (.int (nI (i1 + 1))), none, none]) rfl ?_
                  exact ih1 (-1) (i1 + 1) (Or.inl rfl) (by omega) (by omega)
                · refine pm_iloadi hG dX12_inForce_81 rfl ?_
                  refine pm_ifN_eq (tgt := 89) hG dX12_inForce_83 rfl (by omega) (fun q => absurd q (by omega)) (fun _ => ?_)
                  refine pm_goto (tgt := 131) hG dX12_inForce_86 rfl ?_
                  refine pm_iincX (v := nI (i1 + 1)) (loc' := [some (.ref (B + 54)), some (.int za), some (.int zb), some (.int zc), some (.int (-1)), some (.int (nI (i1 + 1))), some (.int (nI (65 * i1 + 510))), some (.int (nI 1))]) hG dX12_inForce_131 rfl (nI_1 _) (by decide) (pm_c1b rfl) rfl ?_
                  refine pm_goto (tgt := 6) hG dX12_inForce_134 rfl ?_
                  refine pm_fg 6 (loc' := [some (.ref (B + 54)), some (.int za), some (.int zb), some (.int zc), some (.int (-1)), some (.int (nI (i1 + 1))), none, some (.int (nI 1))]) rfl ?_
                  refine pm_fg 7 (loc' := [some (.ref (B + 54)), some (.int za), some (.int zb), some (.int zc), some (.int (-1)), some (.int (nI (i1 + 1))), none, none]) rfl ?_
                  exact ih1 (-1) (i1 + 1) (Or.inl rfl) (by omega) (by omega)
          · refine pm_istoreXi (loc' := [some (.ref (B + 54)), some (.int za), some (.int zb), some (.int zc), some (.int (-1)), some (.int (nI i1)), some (.int (nI (65 * i1 + 510))), some (.int (nI 0))]) hG dX12_inForce_42 (by decide) (pm_c1b rfl) rfl ?_
            refine pm_aloadn hG dX12_inForce_44 rfl ?_
            refine pm_getf hG dX12_inForce_45 (flX12_7 _ rfl) rfl rfl ?_
            refine pm_iloadi hG dX12_inForce_48 rfl ?_
            refine pm_ialdN hG dX12_inForce_50 rfl (by decide) (by omega) ?_
            refine pm_gen (fun x14 ex14 => ?_)
            refine pm_iloadn hG dX12_inForce_51 rfl ?_
            refine pm_icmp_ne (tgt := 131) hG dX12_inForce_52 rfl (fun c15 => ?_) (fun c15 => ?_)
            · refine pm_iincX (v := nI (i1 + 1)) (loc' := [some (.ref (B + 54)), some (.int za), some (.int zb), some (.int zc), some (.int (-1)), some (.int (nI (i1 + 1))), some (.int (nI (65 * i1 + 510))), some (.int (nI 0))]) hG dX12_inForce_131 rfl (nI_1 _) (by decide) (pm_c1b rfl) rfl ?_
              refine pm_goto (tgt := 6) hG dX12_inForce_134 rfl ?_
              refine pm_fg 6 (loc' := [some (.ref (B + 54)), some (.int za), some (.int zb), some (.int zc), some (.int (-1)), some (.int (nI (i1 + 1))), none, some (.int (nI 0))]) rfl ?_
              refine pm_fg 7 (loc' := [some (.ref (B + 54)), some (.int za), some (.int zb), some (.int zc), some (.int (-1)), some (.int (nI (i1 + 1))), none, none]) rfl ?_
              exact ih1 (-1) (i1 + 1) (Or.inl rfl) (by omega) (by omega)
            · refine pm_aloadn hG dX12_inForce_55 rfl ?_
              refine pm_getf hG dX12_inForce_56 (flX12_7 _ rfl) rfl rfl ?_
              refine pm_iloadi hG dX12_inForce_59 rfl ?_
              refine pm_iconst (v := nI 1) hG dX12_inForce_61 (by decide) ?_
              refine pm_iaddN (c := 65 * i1 + 511) hG dX12_inForce_62 (by omega) ?_
              refine pm_ialdN hG dX12_inForce_63 rfl (by decide) (by omega) ?_
              refine pm_gen (fun x16 ex16 => ?_)
              refine pm_iloadn hG dX12_inForce_64 rfl ?_
              refine pm_icmp_gt (tgt := 131) hG dX12_inForce_65 rfl (fun c17 => ?_) (fun c17 => ?_)
              · refine pm_iincX (v := nI (i1 + 1)) (loc' := [some (.ref (B + 54)), some (.int za), some (.int zb), some (.int zc), some (.int (-1)), some (.int (nI (i1 + 1))), some (.int (nI (65 * i1 + 510))), some (.int (nI 0))]) hG dX12_inForce_131 rfl (nI_1 _) (by decide) (pm_c1b rfl) rfl ?_
                refine pm_goto (tgt := 6) hG dX12_inForce_134 rfl ?_
                refine pm_fg 6 (loc' := [some (.ref (B + 54)), some (.int za), some (.int zb), some (.int zc), some (.int (-1)), some (.int (nI (i1 + 1))), none, some (.int (nI 0))]) rfl ?_
                refine pm_fg 7 (loc' := [some (.ref (B + 54)), some (.int za), some (.int zb), some (.int zc), some (.int (-1)), some (.int (nI (i1 + 1))), none, none]) rfl ?_
                exact ih1 (-1) (i1 + 1) (Or.inl rfl) (by omega) (by omega)
              · refine pm_aloadn hG dX12_inForce_68 rfl ?_
                refine pm_getf hG dX12_inForce_69 (flX12_7 _ rfl) rfl rfl ?_
                refine pm_iloadi hG dX12_inForce_72 rfl ?_
                refine pm_iconst (v := nI 2) hG dX12_inForce_74 (by decide) ?_
                refine pm_iaddN (c := 65 * i1 + 512) hG dX12_inForce_75 (by omega) ?_
                refine pm_ialdN hG dX12_inForce_76 rfl (by decide) (by omega) ?_
                refine pm_gen (fun x18 ex18 => ?_)
                refine pm_iloadn hG dX12_inForce_77 rfl ?_
                refine pm_icmp_gt (tgt := 131) hG dX12_inForce_78 rfl (fun c19 => ?_) (fun c19 => ?_)
                · refine pm_iincX (v := nI (i1 + 1)) (loc' := [some (.ref (B + 54)), some (.int za), some (.int zb), some (.int zc), some (.int (-1)), some (.int (nI (i1 + 1))), some (.int (nI (65 * i1 + 510))), some (.int (nI 0))]) hG dX12_inForce_131 rfl (nI_1 _) (by decide) (pm_c1b rfl) rfl ?_
                  refine pm_goto (tgt := 6) hG dX12_inForce_134 rfl ?_
                  refine pm_fg 6 (loc' := [some (.ref (B + 54)), some (.int za), some (.int zb), some (.int zc), some (.int (-1)), some (.int (nI (i1 + 1))), none, some (.int (nI 0))]) rfl ?_
                  refine pm_fg 7 (loc' := [some (.ref (B + 54)), some (.int za), some (.int zb), some (.int zc), some (.int (-1)), some (.int (nI (i1 + 1))), none, none]) rfl ?_
                  exact ih1 (-1) (i1 + 1) (Or.inl rfl) (by omega) (by omega)
                · refine pm_iloadi hG dX12_inForce_81 rfl ?_
                  refine pm_ifN_eq (tgt := 89) hG dX12_inForce_83 rfl (by omega) (fun _ => ?_) (fun q => absurd q (by omega))
                  refine pm_iloadi hG dX12_inForce_89 rfl ?_
                  refine pm_if_lt (tgt := 122) hG dX12_inForce_91 rfl (fun _ => ?_) (fun q => absurd q (by decide))
                  refine pm_iloadi hG dX12_inForce_122 rfl ?_
                  refine pm_goto (tgt := 129) hG dX12_inForce_124 rfl ?_
                  refine pm_istoreXi (loc' := [some (.ref (B + 54)), some (.int za), some (.int zb), some (.int zc), some (.int (nI i1)), some (.int (nI i1)), some (.int (nI (65 * i1 + 510))), some (.int (nI 0))]) hG dX12_inForce_129 (by decide) (pm_c1b rfl) rfl ?_
                  refine pm_iincX (v := nI (i1 + 1)) (loc' := [some (.ref (B + 54)), some (.int za), some (.int zb), some (.int zc), some (.int (nI i1)), some (.int (nI (i1 + 1))), some (.int (nI (65 * i1 + 510))), some (.int (nI 0))]) hG dX12_inForce_131 rfl (nI_1 _) (by decide) (pm_c1b rfl) rfl ?_
                  refine pm_goto (tgt := 6) hG dX12_inForce_134 rfl ?_
                  refine pm_fg 6 (loc' := [some (.ref (B + 54)), some (.int za), some (.int zb), some (.int zc), some (.int (nI i1)), some (.int (nI (i1 + 1))), none, some (.int (nI 0))]) rfl ?_
                  refine pm_fg 7 (loc' := [some (.ref (B + 54)), some (.int za), some (.int zb), some (.int zc), some (.int (nI i1)), some (.int (nI (i1 + 1))), none, none]) rfl ?_
                  exact ih1 (nI i1) (i1 + 1) (Or.inr ⟨i1, by omega, rfl⟩) (by omega) (by omega)
      · refine pm_iloadi hG dX12_inForce_6 rfl ?_
        refine pm_aloadn hG dX12_inForce_8 rfl ?_
        refine pm_getf hG dX12_inForce_9 (flX12_7 _ rfl) rfl rfl ?_
        refine pm_iconst (v := nI 4) hG dX12_inForce_12 (by decide) ?_
        refine pm_ialdN hG dX12_inForce_13 rfl (by decide) (by omega) ?_
        obtain ⟨k20, hk20, ek20⟩ := KI.nat hn (show kd 4 = (1, 13, false) by decide)
        refine pm_top (v := nI k20) ek20 ?_
        refine pm_icmpN_ge (tgt := 137) hG dX12_inForce_14 rfl (by omega) (by omega) (fun c21 => ?_) (fun c21 => ?_)
        · refine pm_iloadi hG dX12_inForce_137 rfl ?_
          exact pm_iret hG hF dX12_inForce_139 rfl (Nat.le_refl _) (Nat.le_refl _) ⟨_, rfl, rfl, rfl, Or.inr ⟨k2, by omega, rfl⟩⟩
        · refine pm_sipush (v := nI 510) hG dX12_inForce_17 (by decide) ?_
          refine pm_bipush (v := nI 65) hG dX12_inForce_20 (by decide) ?_
          refine pm_iloadi hG dX12_inForce_22 rfl ?_
          refine pm_imulN (c := 65 * i1) hG dX12_inForce_24 (by omega) ?_
          refine pm_iaddN (c := 65 * i1 + 510) hG dX12_inForce_25 (by omega) ?_
          refine pm_istoreXi (loc' := [some (.ref (B + 54)), some (.int za), some (.int zb), some (.int zc), some (.int (nI k2)), some (.int (nI i1)), some (.int (nI (65 * i1 + 510))), none]) hG dX12_inForce_26 (by decide) (pm_c1b rfl) rfl ?_
          refine pm_aloadn hG dX12_inForce_28 rfl ?_
          refine pm_getf hG dX12_inForce_29 (flX12_7 _ rfl) rfl rfl ?_
          refine pm_iloadi hG dX12_inForce_32 rfl ?_
          refine pm_iconst (v := nI 3) hG dX12_inForce_34 (by decide) ?_
          refine pm_iaddN (c := 65 * i1 + 513) hG dX12_inForce_35 (by omega) ?_
          refine pm_ialdN hG dX12_inForce_36 rfl (by decide) (by omega) ?_
          refine pm_gen (fun x22 ex22 => ?_)
          refine pm_iconst (v := nI 0) hG dX12_inForce_37 (by decide) ?_
          refine pm_iloadn hG dX12_inForce_38 rfl ?_
          refine pm_callS (As := [.int x22, .int (nI 0), .int zc]) (rest := []) hG hR dX12_inForce_39 (lkX12_68 _ rfl) okS_X12_in (m_in (d := 0)) rfl rfl hdd (Nat.le_refl _) (Nat.le_refl _) (by decide) (pm_ki (fun v23 σ' cnt' hq => ?_))
          obtain ⟨hq, rfl, rfl⟩ := hq
          rcases hq with ⟨rfl, ac24, bc24⟩ | ⟨rfl, c24⟩
          · refine pm_istoreXi (loc' := [some (.ref (B + 54)), some (.int za), some (.int zb), some (.int zc), some (.int (nI k2)), some (.int (nI i1)), some (.int (nI (65 * i1 + 510))), some (.int (nI 1))]) hG dX12_inForce_42 (by decide) (pm_c1b rfl) rfl ?_
            refine pm_aloadn hG dX12_inForce_44 rfl ?_
            refine pm_getf hG dX12_inForce_45 (flX12_7 _ rfl) rfl rfl ?_
            refine pm_iloadi hG dX12_inForce_48 rfl ?_
            refine pm_ialdN hG dX12_inForce_50 rfl (by decide) (by omega) ?_
            refine pm_gen (fun x25 ex25 => ?_)
            refine pm_iloadn hG dX12_inForce_51 rfl ?_
            refine pm_icmp_ne (tgt := 131) hG dX12_inForce_52 rfl (fun c26 => ?_) (fun c26 => ?_)
            · refine pm_iincX (v := nI (i1 + 1)) (loc' := [some (.ref (B + 54)), some (.int za), some (.int zb), some (.int zc), some (.int (nI k2)), some (.int (nI (i1 + 1))), some (.int (nI (65 * i1 + 510))), some (.int (nI 1))]) hG dX12_inForce_131 rfl (nI_1 _) (by decide) (pm_c1b rfl) rfl ?_
              refine pm_goto (tgt := 6) hG dX12_inForce_134 rfl ?_
              refine pm_fg 6 (loc' := [some (.ref (B + 54)), some (.int za), some (.int zb), some (.int zc), some (.int (nI k2)), some (.int (nI (i1 + 1))), none, some (.int (nI 1))]) rfl ?_
              refine pm_fg 7 (loc' := [some (.ref (B + 54)), some (.int za), some (.int zb), some (.int zc), some (.int (nI k2)), some (.int (nI (i1 + 1))), none, none]) rfl ?_
              exact ih1 (nI k2) (i1 + 1) (Or.inr ⟨k2, by omega, rfl⟩) (by omega) (by omega)
            · refine pm_aloadn hG dX12_inForce_55 rfl ?_
              refine pm_getf hG dX12_inForce_56 (flX12_7 _ rfl) rfl rfl ?_
              refine pm_iloadi hG dX12_inForce_59 rfl ?_
              refine pm_iconst (v := nI 1) hG dX12_inForce_61 (by decide) ?_
              refine pm_iaddN (c := 65 * i1 + 511) hG dX12_inForce_62 (by omega) ?_
              refine pm_ialdN hG dX12_inForce_63 rfl (by decide) (by omega) ?_
              refine pm_gen (fun x27 ex27 => ?_)
              refine pm_iloadn hG dX12_inForce_64 rfl ?_
              refine pm_icmp_gt (tgt := 131) hG dX12_inForce_65 rfl (fun c28 => ?_) (fun c28 => ?_)
              · refine pm_iincX (v := nI (i1 + 1)) (loc' := [some (.ref (B + 54)), some (.int za), some (.int zb), some (.int zc), some (.int (nI k2)), some (.int (nI (i1 + 1))), some (.int (nI (65 * i1 + 510))), some (.int (nI 1))]) hG dX12_inForce_131 rfl (nI_1 _) (by decide) (pm_c1b rfl) rfl ?_
                refine pm_goto (tgt := 6) hG dX12_inForce_134 rfl ?_
                refine pm_fg 6 (loc' := [some (.ref (B + 54)), some (.int za), some (.int zb), some (.int zc), some (.int (nI k2)), some (.int (nI (i1 + 1))), none, some (.int (nI 1))]) rfl ?_
                refine pm_fg 7 (loc' := [some (.ref (B + 54)), some (.int za), some (.int zb), some (.int zc), some (.int (nI k2)), some (.int (nI (i1 + 1))), none, none]) rfl ?_
                exact ih1 (nI k2) (i1 + 1) (Or.inr ⟨k2, by omega, rfl⟩) (by omega) (by omega)
              · refine pm_aloadn hG dX12_inForce_68 rfl ?_
                refine pm_getf hG dX12_inForce_69 (flX12_7 _ rfl) rfl rfl ?_
                refine pm_iloadi hG dX12_inForce_72 rfl ?_
                refine pm_iconst (v := nI 2) hG dX12_inForce_74 (by decide) ?_
                refine pm_iaddN (c := 65 * i1 + 512) hG dX12_inForce_75 (by omega) ?_
                refine pm_ialdN hG dX12_inForce_76 rfl (by decide) (by omega) ?_
                refine pm_gen (fun x29 ex29 => ?_)
                refine pm_iloadn hG dX12_inForce_77 rfl ?_
                refine pm_icmp_gt (tgt := 131) hG dX12_inForce_78 rfl (fun c30 => ?_) (fun c30 => ?_)
                · refine pm_iincX (v := nI (i1 + 1)) (loc' := [some (.ref (B + 54)), some (.int za), some (.int zb), some (.int zc), some (.int (nI k2)), some (.int (nI (i1 + 1))), some (.int (nI (65 * i1 + 510))), some (.int (nI 1))]) hG dX12_inForce_131 rfl (nI_1 _) (by decide) (pm_c1b rfl) rfl ?_
                  refine pm_goto (tgt := 6) hG dX12_inForce_134 rfl ?_
                  refine pm_fg 6 (loc' := [some (.ref (B + 54)), some (.int za), some (.int zb), some (.int zc), some (.int (nI k2)), some (.int (nI (i1 + 1))), none, some (.int (nI 1))]) rfl ?_
                  refine pm_fg 7 (loc' := [some (.ref (B + 54)), some (.int za), some (.int zb), some (.int zc), some (.int (nI k2)), some (.int (nI (i1 + 1))), none, none]) rfl ?_
                  exact ih1 (nI k2) (i1 + 1) (Or.inr ⟨k2, by omega, rfl⟩) (by omega) (by omega)
                · refine pm_iloadi hG dX12_inForce_81 rfl ?_
                  refine pm_ifN_eq (tgt := 89) hG dX12_inForce_83 rfl (by omega) (fun q => absurd q (by omega)) (fun _ => ?_)
                  refine pm_goto (tgt := 131) hG dX12_inForce_86 rfl ?_
                  refine pm_iincX (v := nI (i1 + 1)) (loc' := [some (.ref (B + 54)), some (.int za), some (.int zb), some (.int zc), some (.int (nI k2)), some (.int (nI (i1 + 1))), some (.int (nI (65 * i1 + 510))), some (.int (nI 1))]) hG dX12_inForce_131 rfl (nI_1 _) (by decide) (pm_c1b rfl) rfl ?_
                  refine pm_goto (tgt := 6) hG dX12_inForce_134 rfl ?_
                  refine pm_fg 6 (loc' := [some (.ref (B + 54)), some (.int za), some (.int zb), some (.int zc), some (.int (nI k2)), some (.int (nI (i1 + 1))), none, some (.int (nI 1))]) rfl ?_
                  refine pm_fg 7 (loc' := [some (.ref (B + 54)), some (.int za), some (.int zb), some (.int zc), some (.int (nI k2)), some (.int (nI (i1 + 1))), none, none]) rfl ?_
                  exact ih1 (nI k2) (i1 + 1) (Or.inr ⟨k2, by omega, rfl⟩) (by omega) (by omega)
          · refine pm_istoreXi (loc' := [some (.ref (B + 54)), some (.int za), some (.int zb), some (.int zc), some (.int (nI k2)), some (.int (nI i1)), some (.int (nI (65 * i1 + 510))), some (.int (nI 0))]) hG dX12_inForce_42 (by decide) (pm_c1b rfl) rfl ?_
            refine pm_aloadn hG dX12_inForce_44 rfl ?_
            refine pm_getf hG dX12_inForce_45 (flX12_7 _ rfl) rfl rfl ?_
            refine pm_iloadi hG dX12_inForce_48 rfl ?_
            refine pm_ialdN hG dX12_inForce_50 rfl (by decide) (by omega) ?_
            refine pm_gen (fun x31 ex31 => ?_)
            refine pm_iloadn hG dX12_inForce_51 rfl ?_
            refine pm_icmp_ne (tgt := 131) hG dX12_inForce_52 rfl (fun c32 => ?_) (fun c32 => ?_)
            · refine pm_iincX (v := nI (i1 + 1)) (loc' := [some (.ref (B + 54)), some (.int za), some (.int zb), some (.int zc), some (.int (nI k2)), some (.int (nI (i1 + 1))), some (.int (nI (65 * i1 + 510))), some (.int (nI 0))]) hG dX12_inForce_131 rfl (nI_1 _) (by decide) (pm_c1b rfl) rfl ?_
              refine pm_goto (tgt := 6) hG dX12_inForce_134 rfl ?_
              refine pm_fg 6 (loc' := [some (.ref (B + 54)), some (.int za), some (.int zb), some (.int zc), some (.int (nI k2)), some (.int (nI (i1 + 1))), none, some (.int (nI 0))]) rfl ?_
              refine pm_fg 7 (loc' := [some (.ref (B + 54)), some (.int za), some (.int zb), some (.int zc), some (.int (nI k2)), some (.int (nI (i1 + 1))), none, none]) rfl ?_
              exact ih1 (nI k2) (i1 + 1) (Or.inr ⟨k2, by omega, rfl⟩) (by omega) (by omega)
            · refine pm_aloadn hG dX12_inForce_55 rfl ?_
              refine pm_getf hG dX12_inForce_56 (flX12_7 _ rfl) rfl rfl ?_
              refine pm_iloadi hG dX12_inForce_59 rfl ?_
              refine pm_iconst (v := nI 1) hG dX12_inForce_61 (by decide) ?_
              refine pm_iaddN (c := 65 * i1 + 511) hG dX12_inForce_62 (by omega) ?_
              refine pm_ialdN hG dX12_inForce_63 rfl (by decide) (by omega) ?_
              refine pm_gen (fun x33 ex33 => ?_)
              refine pm_iloadn hG dX12_inForce_64 rfl ?_
              refine pm_icmp_gt (tgt := 131) hG dX12_inForce_65 rfl (fun c34 => ?_) (fun c34 => ?_)
              · refine pm_iincX (v := nI (i1 + 1)) (loc' := [some (.ref (B + 54)), some (.int za), some (.int zb), some (.int zc), some (.int (nI k2)), some (.int (nI (i1 + 1))), some (.int (nI (65 * i1 + 510))), some (.int (nI 0))]) hG dX12_inForce_131 rfl (nI_1 _) (by decide) (pm_c1b rfl) rfl ?_
                refine pm_goto (tgt := 6) hG dX12_inForce_134 rfl ?_
                refine pm_fg 6 (loc' := [some (.ref (B + 54)), some (.int za), some (.int zb), some (.int zc), some (.int (nI k2)), some (.int (nI (i1 + 1))), none, some (.int (nI 0))]) rfl ?_
                refine pm_fg 7 (loc' := [some (.ref (B + 54)), some (.int za), some (.int zb), some (.int zc), some (.int (nI k2)), some (.int (nI (i1 + 1))), none, none]) rfl ?_
                exact ih1 (nI k2) (i1 + 1) (Or.inr ⟨k2, by omega, rfl⟩) (by omega) (by omega)
              · refine pm_aloadn hG dX12_inForce_68 rfl ?_
                refine pm_getf hG dX12_inForce_69 (flX12_7 _ rfl) rfl rfl ?_
                refine pm_iloadi hG dX12_inForce_72 rfl ?_
                refine pm_iconst (v := nI 2) hG dX12_inForce_74 (by decide) ?_
                refine pm_iaddN (c := 65 * i1 + 512) hG dX12_inForce_75 (by omega) ?_
                refine pm_ialdN hG dX12_inForce_76 rfl (by decide) (by omega) ?_
                refine pm_gen (fun x35 ex35 => ?_)
                refine pm_iloadn hG dX12_inForce_77 rfl ?_
                refine pm_icmp_gt (tgt := 131) hG dX12_inForce_78 rfl (fun c36 => ?_) (fun c36 => ?_)
                · refine pm_iincX (v := nI (i1 + 1)) (loc' := [some (.ref (B + 54)), some (.int za), some (.int zb), some (.int zc), some (.int (nI k2)), some (.int (nI (i1 + 1))), some (.int (nI (65 * i1 + 510))), some (.int (nI 0))]) hG dX12_inForce_131 rfl (nI_1 _) (by decide) (pm_c1b rfl) rfl ?_
                  refine pm_goto (tgt := 6) hG dX12_inForce_134 rfl ?_
                  refine pm_fg 6 (loc' := [some (.ref (B + 54)), some (.int za), some (.int zb), some (.int zc), some (.int (nI k2)), some (.int (nI (i1 + 1))), none, some (.int (nI 0))]) rfl ?_
                  refine pm_fg 7 (loc' := [some (.ref (B + 54)), some (.int za), some (.int zb), some (.int zc), some (.int (nI k2)), some (.int (nI (i1 + 1))), none, none]) rfl ?_
                  exact ih1 (nI k2) (i1 + 1) (Or.inr ⟨k2, by omega, rfl⟩) (by omega) (by omega)
                · refine pm_iloadi hG dX12_inForce_81 rfl ?_
                  refine pm_ifN_eq (tgt := 89) hG dX12_inForce_83 rfl (by omega) (fun _ => ?_) (fun q => absurd q (by omega))
                  refine pm_iloadi hG dX12_inForce_89 rfl ?_
                  refine pm_ifN_lt hG dX12_inForce_91 rfl (by omega) ?_
                  refine pm_aloadn hG dX12_inForce_94 rfl ?_
                  refine pm_getf hG dX12_inForce_95 (flX12_7 _ rfl) rfl rfl ?_
                  refine pm_iloadi hG dX12_inForce_98 rfl ?_
                  refine pm_iconst (v := nI 2) hG dX12_inForce_100 (by decide) ?_
                  refine pm_iaddN (c := 65 * i1 + 512) hG dX12_inForce_101 (by omega) ?_
                  refine pm_ialdN hG dX12_inForce_102 rfl (by decide) (by omega) ?_
                  refine pm_top (v := x35) ex35 ?_
                  refine pm_aloadn hG dX12_inForce_103 rfl ?_
                  refine pm_getf hG dX12_inForce_104 (flX12_7 _ rfl) rfl rfl ?_
                  refine pm_sipush (v := nI 510) hG dX12_inForce_107 (by decide) ?_
                  refine pm_bipush (v := nI 65) hG dX12_inForce_110 (by decide) ?_
                  refine pm_iloadi hG dX12_inForce_112 rfl ?_
                  refine pm_imulN (c := 65 * k2) hG dX12_inForce_114 (by omega) ?_
                  refine pm_iaddN (c := 65 * k2 + 510) hG dX12_inForce_115 (by omega) ?_
                  refine pm_iconst (v := nI 2) hG dX12_inForce_116 (by decide) ?_
                  refine pm_iaddN (c := 65 * k2 + 512) hG dX12_inForce_117 (by omega) ?_
                  refine pm_ialdN hG dX12_inForce_118 rfl (by decide) (by omega) ?_
                  refine pm_gen (fun x37 ex37 => ?_)
                  refine pm_icmp_lt (tgt := 127) hG dX12_inForce_119 rfl (fun c38 => ?_) (fun c38 => ?_)
                  · refine pm_iloadi hG dX12_inForce_127 rfl ?_
                    refine pm_istoreXi (loc' := [some (.ref (B + 54)), some (.int za), some (.int zb), some (.int zc), some (.int (nI k2)), some (.int (nI i1)), some (.int (nI (65 * i1 + 510))), some (.int (nI 0))]) hG dX12_inForce_129 (by decide) (pm_c1b rfl) rfl ?_
                    refine pm_iincX (v := nI (i1 + 1)) (loc' := [some (.ref (B + 54)), some (.int za), some (.int zb), some (.int zc), some (.int (nI k2)), some (.int (nI (i1 + 1))), some (.int (nI (65 * i1 + 510))), some (.int (nI 0))]) hG dX12_inForce_131 rfl (nI_1 _) (by decide) (pm_c1b rfl) rfl ?_
                    refine pm_goto (tgt := 6) hG dX12_inForce_134 rfl ?_
                    refine pm_fg 6 (loc' := [some (.ref (B + 54)), some (.int za), some (.int zb), some (.int zc), some (.int (nI k2)), some (.int (nI (i1 + 1))), none, some (.int (nI 0))]) rfl ?_
                    refine pm_fg 7 (loc' := [some (.ref (B + 54)), some (.int za), some (.int zb), some (.int zc), some (.int (nI k2)), some (.int (nI (i1 + 1))), none, none]) rfl ?_
                    exact ih1 (nI k2) (i1 + 1) (Or.inr ⟨k2, by omega, rfl⟩) (by omega) (by omega)
                  · refine pm_iloadi hG dX12_inForce_122 rfl ?_
                    refine pm_goto (tgt := 129) hG dX12_inForce_124 rfl ?_
                    refine pm_istoreXi (loc' := [some (.ref (B + 54)), some (.int za), some (.int zb), some (.int zc), some (.int (nI i1)), some (.int (nI i1)), some (.int (nI (65 * i1 + 510))), some (.int (nI 0))]) hG dX12_inForce_129 (by decide) (pm_c1b rfl) rfl ?_
                    refine pm_iincX (v := nI (i1 + 1)) (loc' := [some (.ref (B + 54)), some (.int za), some (.int zb), some (.int zc), some (.int (nI i1)), some (.int (nI (i1 + 1))), some (.int (nI (65 * i1 + 510))), some (.int (nI 0))]) hG dX12_inForce_131 rfl (nI_1 _) (by decide) (pm_c1b rfl) rfl ?_
                    refine pm_goto (tgt := 6) hG dX12_inForce_134 rfl ?_
                    refine pm_fg 6 (loc' := [some (.ref (B + 54)), some (.int za), some (.int zb), some (.int zc), some (.int (nI i1)), some (.int (nI (i1 + 1))), none, some (.int (nI 0))]) rfl ?_
                    refine pm_fg 7 (loc' := [some (.ref (B + 54)), some (.int za), some (.int zb), some (.int zc), some (.int (nI i1)), some (.int (nI (i1 + 1))), none, none]) rfl ?_
                    exact ih1 (nI i1) (i1 + 1) (Or.inr ⟨i1, by omega, rfl⟩) (by omega) (by omega)
  exact loop6_1 _ (-1) 0 (Or.inl rfl) (by omega) (Nat.lt_succ_self _)
