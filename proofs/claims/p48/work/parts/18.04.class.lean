set_option maxRecDepth 100000 in
set_option maxHeartbeats 4000000 in
theorem g_X5_passQuarter {d B cnt : Nat} {kp : Value} {ρ : pm_S} {I : Nat → Int32} {A : Nat → Nat → Int32} {za : Int32} (hdd : 3 ≤ d) (h : gs I) : pm_met mX5_passQuarter d 0 0 B [.ref (B + 42), .int za] cnt (pm_two (cl_L B kp I A) ρ) (pm_Qv (fun σ' cnt' => hvc B kp ρ cnt σ' cnt')) := by
  refine pm_enter 6 (by decide) (Nat.le_of_ble_eq_true rfl) rfl (fun G hG hR hF => ?_)
  refine pm_bipush (v := 63) hG dX5_passQuarter_0 (by decide) ?_
  refine pm_istoreXn (loc' := [some (.ref (B + 42)), some (.int za), some (.int 63), none, none, none, none, none]) hG dX5_passQuarter_2 (by decide) (pm_c1b rfl) rfl ?_
  have loop3 : ∀ (m3 : Nat) (I1 : Nat → Int32) (A1 : Nat → Nat → Int32) (x1_2 : Int32), gs I1 → (x1_2.toInt + 1 - (0 : Int32).toInt).toNat < m3 → pm_wp mX5_passQuarter G B 3 [some (.ref (B + 42)), some (.int za), some (.int x1_2), none, none, none, none, none] [] 0 0 cnt (pm_two (cl_L B kp I1 A1) ρ) := by
    intro m3
    induction m3 with
    | zero => intro I1 A1 x1_2 _  hm; exact absurd hm (Nat.not_lt_zero _)
    | succ m3 ih3 =>
      intro I1 A1 x1_2 h1  hm3
      refine pm_iloadn hG dX5_passQuarter_3 rfl ?_
      refine pm_if_lt (tgt := 118) hG dX5_passQuarter_4 rfl (fun c2 => ?_) (fun c2 => ?_)
      · exact pm_vret hG hF dX5_passQuarter_118 rfl (Nat.le_refl _) (Nat.le_refl _) ⟨rfl, _, _, rfl, rfl, h1⟩
      · refine pm_iconst (v := (-1)) hG dX5_passQuarter_7 (by decide) ?_
        refine pm_istoreXn (loc' := [some (.ref (B + 42)), some (.int za), some (.int x1_2), some (.int (-1)), none, none, none, none]) hG dX5_passQuarter_8 (by decide) (pm_c1b rfl) rfl ?_
        refine pm_iconst (v := 0) hG dX5_passQuarter_9 (by decide) ?_
        refine pm_istoreXi (loc' := [some (.ref (B + 42)), some (.int za), some (.int x1_2), some (.int (-1)), some (.int 0), none, none, none]) hG dX5_passQuarter_10 (by decide) (pm_c1b rfl) rfl ?_
        refine pm_iconst (v := 0) hG dX5_passQuarter_12 (by decide) ?_
        refine pm_istoreXi (loc' := [some (.ref (B + 42)), some (.int za), some (.int x1_2), some (.int (-1)), some (.int 0), some (.int 0), none, none]) hG dX5_passQuarter_13 (by decide) (pm_c1b rfl) rfl ?_
        have loop15 : ∀ (m15 : Nat) (I3 : Nat → Int32) (A3 : Nat → Nat → Int32) (x3_3 x3_4 x3_5 : Int32), gs I3 → ((7 : Int32).toInt - x3_5.toInt).toNat < m15 → pm_wp mX5_passQuarter G B 15 [some (.ref (B + 42)), some (.int za), some (.int x1_2), some (.int x3_3), some (.int x3_4), some (.int x3_5), none, none] [] 0 0 cnt (pm_two (cl_L B kp I3 A3) ρ) := by
          intro m15
          induction m15 with
          | zero => intro I3 A3 x3_3 x3_4 x3_5 _  hm; exact absurd hm (Nat.not_lt_zero _)
          | succ m15 ih15 =>
            intro I3 A3 x3_3 x3_4 x3_5 h3  hm15
            refine pm_iloadi hG dX5_passQuarter_15 rfl ?_
            refine pm_bipush (v := 7) hG dX5_passQuarter_17 (by decide) ?_
            refine pm_icmp_ge (tgt := 97) hG dX5_passQuarter_19 rfl (fun c4 => ?_) (fun c4 => ?_)
            · refine pm_aloadn hG dX5_passQuarter_97 rfl ?_
              refine pm_getf hG dX5_passQuarter_98 (flX5_11 _ rfl) rfl rfl ?_
              refine pm_iloadn hG dX5_passQuarter_101 rfl ?_
              refine pm_iloadn hG dX5_passQuarter_102 rfl ?_
              refine pm_iast hG dX5_passQuarter_103 rfl (pm_ibt (by have q := And.intro True.intro True.intro;  simp only [Int32.lt_iff_toInt_lt, Int32.le_iff_toInt_le, ← Int32.toInt_inj, (show (0 : Int32).toInt = 0 from rfl), (show (7 : Int32).toInt = 7 from rfl)] at *; omega)) ?_
              refine pm_nrm (L' := cl_L B kp I3 (ua A3 43 (upd (A3 43) x1_2.toNatClampNeg x3_3))) (by decide) (Nat.le_of_ble_eq_true rfl) rfl ?_
              refine pm_aloadn hG dX5_passQuarter_104 rfl ?_
              refine pm_getf hG dX5_passQuarter_105 (flX5_15 _ rfl) rfl rfl ?_
              refine pm_iloadn hG dX5_passQuarter_108 rfl ?_
              refine pm_iloadi hG dX5_passQuarter_109 rfl ?_
              refine pm_iast hG dX5_passQuarter_111 rfl (pm_ibt (by have q := And.intro True.intro True.intro;  simp only [Int32.lt_iff_toInt_lt, Int32.le_iff_toInt_le, ← Int32.toInt_inj, (show (0 : Int32).toInt = 0 from rfl), (show (7 : Int32).toInt = 7 from rfl)] at *; omega)) ?_
              refine pm_nrm (L' := cl_L B kp I3 (ua (ua A3 43 (upd (A3 43) x1_2.toNatClampNeg x3_3)) 44 (upd ((ua A3 43 (upd (A3 43) x1_2.toNatClampNeg x3_3)) 44) x1_2.toNatClampNeg x3_4))) (by decide) (Nat.le_of_ble_eq_true rfl) rfl ?_
              refine pm_iincX (v := x1_2 + (-1)) (loc' := [some (.ref (B + 42)), some (.int za), some (.int (x1_2 + (-1))), some (.int x3_3), some (.int x3_4), some (.int x3_5), none, none]) hG dX5_passQuarter_112 rfl (by rfl) (by decide) (pm_c1b rfl) rfl ?_
              refine pm_goto (tgt := 3) hG dX5_passQuarter_115 rfl ?_
              refine pm_fg 3 (loc' := [some (.ref (B + 42)), some (.int za), some (.int (x1_2 + (-1))), none, some (.int x3_4), some (.int x3_5), none, none]) rfl ?_
              refine pm_fg 4 (loc' := [some (.ref (B + 42)), some (.int za), some (.int (x1_2 + (-1))), none, none, some (.int x3_5), none, none]) rfl ?_
              refine pm_fg 5 (loc' := [some (.ref (B + 42)), some (.int za), some (.int (x1_2 + (-1))), none, none, none, none, none]) rfl ?_
              exact ih3 _ _ (x1_2 + (-1)) h3 (Nat.lt_of_lt_of_le (pm_md1 c2 (by decide)) (Nat.le_of_lt_succ hm3))
            · refine pm_aloadn hG dX5_passQuarter_22 rfl ?_
              refine pm_iloadn hG dX5_passQuarter_23 rfl ?_
              refine pm_iloadi hG dX5_passQuarter_24 rfl ?_
              refine pm_iloadn hG dX5_passQuarter_26 rfl ?_
              refine pm_callV (As := [.int x1_2, .int x3_5, .int za]) (rest := []) hG hR dX5_passQuarter_27 (lkX5_58 _ rfl) okV_X5_leftBy rfl rfl (g_X5_leftBy (d := 2) (by decide) h3) rfl rfl hdd (Nat.le_refl _) (Nat.le_refl _) (by decide) (pm_ki (fun v5 σ' cnt' hq => ?_))
              obtain ⟨I5, A5, rfl, rfl, h5⟩ := hq
              refine pm_istoreXi (loc' := [some (.ref (B + 42)), some (.int za), some (.int x1_2), some (.int x3_3), some (.int x3_4), some (.int x3_5), some (.int v5), none]) hG dX5_passQuarter_30 (by decide) (pm_c1b rfl) rfl ?_
              refine pm_iloadi hG dX5_passQuarter_32 rfl ?_
              refine pm_if_ge (tgt := 41) hG dX5_passQuarter_34 rfl (fun c6 => ?_) (fun c6 => ?_)
              · refine pm_aloadn hG dX5_passQuarter_41 rfl ?_
                refine pm_getf hG dX5_passQuarter_42 (flX5_15 _ rfl) rfl rfl ?_
                refine pm_iloadn hG dX5_passQuarter_45 rfl ?_
                refine pm_iloadi hG dX5_passQuarter_46 rfl ?_
                refine pm_callS (As := [.int x1_2, .int x3_5]) (rest := [.ref (B + 44)]) hG hR dX5_passQuarter_48 (lkX5_62 _ rfl) okS_X5_before (g_X5_before (d := 2) (by decide) h5) rfl rfl hdd (Nat.le_refl _) (Nat.le_refl _) (by first | decide | exact Nat.le_of_ble_eq_true rfl) (pm_ki (fun v7 σ' cnt' hq => ?_))
                obtain ⟨I7, A7, rfl, rfl, h7⟩ := hq
                refine pm_iald hG dX5_passQuarter_51 rfl (pm_ibt (by have q := And.intro True.intro True.intro;  simp only [Int32.lt_iff_toInt_lt, Int32.le_iff_toInt_le, ← Int32.toInt_inj, (show (0 : Int32).toInt = 0 from rfl), (show (7 : Int32).toInt = 7 from rfl)] at *; omega)) ?_
                refine pm_bipush (v := 7) hG dX5_passQuarter_52 (by decide) ?_
                refine pm_imul hG dX5_passQuarter_54 ?_
                refine pm_iloadi hG dX5_passQuarter_55 rfl ?_
                refine pm_iadd hG dX5_passQuarter_57 ?_
                refine pm_istoreXi (loc' := [some (.ref (B + 42)), some (.int za), some (.int x1_2), some (.int x3_3), some (.int x3_4), some (.int x3_5), some (.int v5), some (.int ((((A7 44) v7.toNatClampNeg) * 7) + x3_5))]) hG dX5_passQuarter_58 (by decide) (pm_c1b rfl) rfl ?_
                refine pm_iloadi hG dX5_passQuarter_60 rfl ?_
                refine pm_iloadn hG dX5_passQuarter_62 rfl ?_
                refine pm_icmp_gt (tgt := 84) hG dX5_passQuarter_63 rfl (fun c8 => ?_) (fun c8 => ?_)
                · refine pm_iloadi hG dX5_passQuarter_84 rfl ?_
                  refine pm_istoreXn (loc' := [some (.ref (B + 42)), some (.int za), some (.int x1_2), some (.int v5), some (.int x3_4), some (.int x3_5), some (.int v5), some (.int ((((A7 44) v7.toNatClampNeg) * 7) + x3_5))]) hG dX5_passQuarter_86 (by decide) (pm_c1b rfl) rfl ?_
                  refine pm_iloadi hG dX5_passQuarter_87 rfl ?_
                  refine pm_istoreXi (loc' := [some (.ref (B + 42)), some (.int za), some (.int x1_2), some (.int v5), some (.int ((((A7 44) v7.toNatClampNeg) * 7) + x3_5)), some (.int x3_5), some (.int v5), some (.int ((((A7 44) v7.toNatClampNeg) * 7) + x3_5))]) hG dX5_passQuarter_89 (by decide) (pm_c1b rfl) rfl ?_
                  refine pm_iincX (v := x3_5 + 1) (loc' := [some (.ref (B + 42)), some (.int za), some (.int x1_2), some (.int v5), some (.int ((((A7 44) v7.toNatClampNeg) * 7) + x3_5)), some (.int (x3_5 + 1)), some (.int v5), some (.int ((((A7 44) v7.toNatClampNeg) * 7) + x3_5))]) hG dX5_passQuarter_91 rfl (by rfl) (by decide) (pm_c1b rfl) rfl ?_
                  refine pm_goto (tgt := 15) hG dX5_passQuarter_94 rfl ?_
                  refine pm_fg 6 (loc' := [some (.ref (B + 42)), some (.int za), some (.int x1_2), some (.int v5), some (.int ((((A7 44) v7.toNatClampNeg) * 7) + x3_5)), some (.int (x3_5 + 1)), none, some (.int ((((A7 44) v7.toNatClampNeg) * 7) + x3_5))]) rfl ?_
                  refine pm_fg 7 (loc' := [some (.ref (B + 42)), some (.int za), some (.int x1_2), some (.int v5), some (.int ((((A7 44) v7.toNatClampNeg) * 7) + x3_5)), some (.int (x3_5 + 1)), none, none]) rfl ?_
                  exact ih15 _ _ v5 ((((A7 44) v7.toNatClampNeg) * 7) + x3_5) (x3_5 + 1) h7 (Nat.lt_of_lt_of_le (pm_mu1 c4) (Nat.le_of_lt_succ hm15))
                · refine pm_iloadi hG dX5_passQuarter_66 rfl ?_
                  refine pm_if_lt (tgt := 91) hG dX5_passQuarter_68 rfl (fun c9 => ?_) (fun c9 => ?_)
                  · refine pm_iincX (v := x3_5 + 1) (loc' := [some (.ref (B + 42)), some (.int za), some (.int x1_2), some (.int x3_3), some (.int x3_4), some (.int (x3_5 + 1)), some (.int v5), some (.int ((((A7 44) v7.toNatClampNeg) * 7) + x3_5))]) hG dX5_passQuarter_91 rfl (by rfl) (by decide) (pm_c1b rfl) rfl ?_
                    refine pm_goto (tgt := 15) hG dX5_passQuarter_94 rfl ?_
                    refine pm_fg 6 (loc' := [some (.ref (B + 42)), some (.int za), some (.int x1_2), some (.int x3_3), some (.int x3_4), some (.int (x3_5 + 1)), none, some (.int ((((A7 44) v7.toNatClampNeg) * 7) + x3_5))]) rfl ?_
                    refine pm_fg 7 (loc' := [some (.ref (B + 42)), some (.int za), some (.int x1_2), some (.int x3_3), some (.int x3_4), some (.int (x3_5 + 1)), none, none]) rfl ?_
                    exact ih15 _ _ x3_3 x3_4 (x3_5 + 1) h7 (Nat.lt_of_lt_of_le (pm_mu1 c4) (Nat.le_of_lt_succ hm15))
                  · refine pm_iloadi hG dX5_passQuarter_71 rfl ?_
                    refine pm_iloadn hG dX5_passQuarter_73 rfl ?_
                    refine pm_icmp_ne (tgt := 91) hG dX5_passQuarter_74 rfl (fun c10 => ?_) (fun c10 => ?_)
                    · refine pm_iincX (v := x3_5 + 1) (loc' := [some (.ref (B + 42)), some (.int za), some (.int x1_2), some (.int x3_3), some (.int x3_4), some (.int (x3_5 + 1)), some (.int v5), some (.int ((((A7 44) v7.toNatClampNeg) * 7) + x3_5))]) hG dX5_passQuarter_91 rfl (by rfl) (by decide) (pm_c1b rfl) rfl ?_
                      refine pm_goto (tgt := 15) hG dX5_passQuarter_94 rfl ?_
                      refine pm_fg 6 (loc' := [some (.ref (B + 42)), some (.int za), some (.int x1_2), some (.int x3_3), some (.int x3_4), some (.int (x3_5 + 1)), none, some (.int ((((A7 44) v7.toNatClampNeg) * 7) + x3_5))]) rfl ?_
                      refine pm_fg 7 (loc' := [some (.ref (B + 42)), some (.int za), some (.int x1_2), some (.int x3_3), some (.int x3_4), some (.int (x3_5 + 1)), none, none]) rfl ?_
                      exact ih15 _ _ x3_3 x3_4 (x3_5 + 1) h7 (Nat.lt_of_lt_of_le (pm_mu1 c4) (Nat.le_of_lt_succ hm15))
                    · refine pm_iloadi hG dX5_passQuarter_77 rfl ?_
                      refine pm_iloadi hG dX5_passQuarter_79 rfl ?_
                      refine pm_icmp_ge (tgt := 91) hG dX5_passQuarter_81 rfl (fun c11 => ?_) (fun c11 => ?_)
                      · refine pm_iincX (v := x3_5 + 1) (loc' := [some (.ref (B + 42)), some (.int za), some (.int x1_2), some (.int x3_3), some (.int x3_4), some (.int (x3_5 + 1)), some (.int v5), some (.int ((((A7 44) v7.toNatClampNeg) * 7) + x3_5))]) hG dX5_passQuarter_91 rfl (by rfl) (by decide) (pm_c1b rfl) rfl ?_
                        refine pm_goto (tgt := 15) hG dX5_passQuarter_94 rfl ?_
                        refine pm_fg 6 (loc' := [some (.ref (B + 42)), some (.int za), some (.int x1_2), some (.int x3_3), some (.int x3_4), some (.int (x3_5 + 1)), none, some (.int ((((A7 44) v7.toNatClampNeg) * 7) + x3_5))]) rfl ?_
                        refine pm_fg 7 (loc' := [some (.ref (B + 42)), some (.int za), some (.int x1_2), some (.int x3_3), some (.int x3_4), some (.int (x3_5 + 1)), none, none]) rfl ?_
                        exact ih15 _ _ x3_3 x3_4 (x3_5 + 1) h7 (Nat.lt_of_lt_of_le (pm_mu1 c4) (Nat.le_of_lt_succ hm15))
                      · refine pm_iloadi hG dX5_passQuarter_84 rfl ?_
                        refine pm_istoreXn (loc' := [some (.ref (B + 42)), some (.int za), some (.int x1_2), some (.int v5), some (.int x3_4), some (.int x3_5), some (.int v5), some (.int ((((A7 44) v7.toNatClampNeg) * 7) + x3_5))]) hG dX5_passQuarter_86 (by decide) (pm_c1b rfl) rfl ?_
                        refine pm_iloadi hG dX5_passQuarter_87 rfl ?_
                        refine pm_istoreXi (loc' := [some (.ref (B + 42)), some (.int za), some (.int x1_2), some (.int v5), some (.int ((((A7 44) v7.toNatClampNeg) * 7) + x3_5)), some (.int x3_5), some (.int v5), some (.int ((((A7 44) v7.toNatClampNeg) * 7) + x3_5))]) hG dX5_passQuarter_89 (by decide) (pm_c1b rfl) rfl ?_
                        refine pm_iincX (v := x3_5 + 1) (loc' := [some (.ref (B + 42)), some (.int za), some (.int x1_2), some (.int v5), some (.int ((((A7 44) v7.toNatClampNeg) * 7) + x3_5)), some (.int (x3_5 + 1)), some (.int v5), some (.int ((((A7 44) v7.toNatClampNeg) * 7) + x3_5))]) hG dX5_passQuarter_91 rfl (by rfl) (by decide) (pm_c1b rfl) rfl ?_
                        refine pm_goto (tgt := 15) hG dX5_passQuarter_94 rfl ?_
                        refine pm_fg 6 (loc' := [some (.ref (B + 42)), some (.int za), some (.int x1_2), some (.int v5), some (.int ((((A7 44) v7.toNatClampNeg) * 7) + x3_5)), some (.int (x3_5 + 1)), none, some (.int ((((A7 44) v7.toNatClampNeg) * 7) + x3_5))]) rfl ?_
                        refine pm_fg 7 (loc' := [some (.ref (B + 42)), some (.int za), some (.int x1_2), some (.int v5), some (.int ((((A7 44) v7.toNatClampNeg) * 7) + x3_5)), some (.int (x3_5 + 1)), none, none]) rfl ?_
                        exact ih15 _ _ v5 ((((A7 44) v7.toNatClampNeg) * 7) + x3_5) (x3_5 + 1) h7 (Nat.lt_of_lt_of_le (pm_mu1 c4) (Nat.le_of_lt_succ hm15))
              · refine pm_iconst (v := 0) hG dX5_passQuarter_37 (by decide) ?_
                refine pm_goto (tgt := 58) hG dX5_passQuarter_38 rfl ?_
                refine pm_istoreXi (loc' := [some (.ref (B + 42)), some (.int za), some (.int x1_2), some (.int x3_3), some (.int x3_4), some (.int x3_5), some (.int v5), some (.int 0)]) hG dX5_passQuarter_58 (by decide) (pm_c1b rfl) rfl ?_
                refine pm_iloadi hG dX5_passQuarter_60 rfl ?_
                refine pm_iloadn hG dX5_passQuarter_62 rfl ?_
                refine pm_icmp_gt (tgt := 84) hG dX5_passQuarter_63 rfl (fun c12 => ?_) (fun c12 => ?_)
                · refine pm_iloadi hG dX5_passQuarter_84 rfl ?_
                  refine pm_istoreXn (loc' := [some (.ref (B + 42)), some (.int za), some (.int x1_2), some (.int v5), some (.int x3_4), some (.int x3_5), some (.int v5), some (.int 0)]) hG dX5_passQuarter_86 (by decide) (pm_c1b rfl) rfl ?_
                  refine pm_iloadi hG dX5_passQuarter_87 rfl ?_
                  refine pm_istoreXi (loc' := [some (.ref (B + 42)), some (.int za), some (.int x1_2), some (.int v5), some (.int 0), some (.int x3_5), some (.int v5), some (.int 0)]) hG dX5_passQuarter_89 (by decide) (pm_c1b rfl) rfl ?_
                  refine pm_iincX (v := x3_5 + 1) (loc' := [some (.ref (B + 42)), some (.int za), some (.int x1_2), some (.int v5), some (.int 0), some (.int (x3_5 + 1)), some (.int v5), some (.int 0)]) hG dX5_passQuarter_91 rfl (by rfl) (by decide) (pm_c1b rfl) rfl ?_
                  refine pm_goto (tgt := 15) hG dX5_passQuarter_94 rfl ?_
                  refine pm_fg 6 (loc' := [some (.ref (B + 42)), some (.int za), some (.int x1_2), some (.int v5), some (.int 0), some (.int (x3_5 + 1)), none, some (.int 0)]) rfl ?_
                  refine pm_fg 7 (loc' := [some (.ref (B + 42)), some (.int za), some (.int x1_2), some (.int v5), some (.int 0), some (.int (x3_5 + 1)), none, none]) rfl ?_
                  exact ih15 _ _ v5 0 (x3_5 + 1) h5 (Nat.lt_of_lt_of_le (pm_mu1 c4) (Nat.le_of_lt_succ hm15))
                · refine pm_iloadi hG dX5_passQuarter_66 rfl ?_
                  refine pm_if_lt (tgt := 91) hG dX5_passQuarter_68 rfl (fun c13 => ?_) (fun c13 => ?_)
                  · refine pm_iincX (v := x3_5 + 1) (loc' := [some (.ref (B + 42)), some (.int za), some (.int x1_2), some (.int x3_3), some (.int x3_4), some (.int (x3_5 + 1)), some (.int v5), some (.int 0)]) hG dX5_passQuarter_91 rfl (by rfl) (by decide) (pm_c1b rfl) rfl ?_
                    refine pm_goto (tgt := 15) hG dX5_passQuarter_94 rfl ?_
                    refine pm_fg 6 (loc' := [some (.ref (B + 42)), some (.int za), some (.int x1_2), some (.int x3_3), some (.int x3_4), some (.int (x3_5 + 1)), none, some (.int 0)]) rfl ?_
                    refine pm_fg 7 (loc' := [some (.ref (B + 42)), some (.int za), some (.int x1_2), some (.int x3_3), some (.int x3_4), some (.int (x3_5 + 1)), none, none]) rfl ?_
                    exact ih15 _ _ x3_3 x3_4 (x3_5 + 1) h5 (Nat.lt_of_lt_of_le (pm_mu1 c4) (Nat.le_of_lt_succ hm15))
                  · refine pm_iloadi hG dX5_passQuarter_71 rfl ?_
                    refine pm_iloadn hG dX5_passQuarter_73 rfl ?_
                    refine pm_icmp_ne (tgt := 91) hG dX5_passQuarter_74 rfl (fun c14 => ?_) (fun c14 => ?_)
                    · refine pm_iincX (v := x3_5 + 1) (loc' := [some (.ref (B + 42)), some (.int za), some (.int x1_2), some (.int x3_3), some (.int x3_4), some (.int (x3_5 + 1)), some (.int v5), some (.int 0)]) hG dX5_passQuarter_91 rfl (by rfl) (by decide) (pm_c1b rfl) rfl ?_
                      refine pm_goto (tgt := 15) hG dX5_passQuarter_94 rfl ?_
                      refine pm_fg 6 (loc' := [some (.ref (B + 42)), some (.int za), some (.int x1_2), some (.int x3_3), some (.int x3_4), some (.int (x3_5 + 1)), none, some (.int 0)]) rfl ?_
                      refine pm_fg 7 (loc' := [some (.ref (B + 42)), some (.int za), some (.int x1_2), some (.int x3_3), some (.int x3_4), some (.int (x3_5 + 1)), none, none]) rfl ?_
                      exact ih15 _ _ x3_3 x3_4 (x3_5 + 1) h5 (Nat.lt_of_lt_of_le (pm_mu1 c4) (Nat.le_of_lt_succ hm15))
                    · refine pm_iloadi hG dX5_passQuarter_77 rfl ?_
                      refine pm_iloadi hG dX5_passQuarter_79 rfl ?_
                      refine pm_icmp_ge (tgt := 91) hG dX5_passQuarter_81 rfl (fun c15 => ?_) (fun c15 => ?_)
                      · refine pm_iincX (v := x3_5 + 1) (loc' := [some (.ref (B + 42)), some (.int za), some (.int x1_2), some (.int x3_3), some (.int x3_4), some (.int (x3_5 + 1)), some (.int v5), some (.int 0)]) hG dX5_passQuarter_91 rfl (by rfl) (by decide) (pm_c1b rfl) rfl ?_
                        refine pm_goto (tgt := 15) hG dX5_passQuarter_94 rfl ?_
                        refine pm_fg 6 (loc' := [some (.ref (B + 42)), some (.int za), some (.int x1_2), some (.int x3_3), some (.int x3_4), some (.int (x3_5 + 1)), none, some (.int 0)]) rfl ?_
                        refine pm_fg 7 (loc' := [some (.ref (B + 42)), some (.int za), some (.int x1_2), some (.int x3_3), some (.int x3_4), some (.int (x3_5 + 1)), none, none]) rfl ?_
                        exact ih15 _ _ x3_3 x3_4 (x3_5 + 1) h5 (Nat.lt_of_lt_of_le (pm_mu1 c4) (Nat.le_of_lt_succ hm15))
                      · refine pm_iloadi hG dX5_passQuarter_84 rfl ?_
                        refine pm_istoreXn (loc' := [some (.ref (B + 42)), some (.int za), some (.int x1_2), some (.int v5), some (.int x3_4), some (.int x3_5), some (.int v5), some (.int 0)]) hG dX5_passQuarter_86 (by decide) (pm_c1b rfl) rfl ?_
                        refine pm_iloadi hG dX5_passQuarter_87 rfl ?_
                        refine pm_istoreXi (loc' := [some (.ref (B + 42)), some (.int za), some (.int x1_2), some (.int v5), some (.int 0), some (.int x3_5), some (.int v5), some (.int 0)]) hG dX5_passQuarter_89 (by decide) (pm_c1b rfl) rfl ?_
                        refine pm_iincX (v := x3_5 + 1) (loc' := [some (.ref (B + 42)), some (.int za), some (.int x1_2), some (.int v5), some (.int 0), some (.int (x3_5 + 1)), some (.int v5), some (.int 0)]) hG dX5_passQuarter_91 rfl (by rfl) (by decide) (pm_c1b rfl) rfl ?_
                        refine pm_goto (tgt := 15) hG dX5_passQuarter_94 rfl ?_
                        refine pm_fg 6 (loc' := [some (.ref (B + 42)), some (.int za), some (.int x1_2), some (.int v5), some (.int 0), some (.int (x3_5 + 1)), none, some (.int 0)]) rfl ?_
                        refine pm_fg 7 (loc' := [some (.ref (B + 42)), some (.int za), some (.int x1_2), some (.int v5), some (.int 0), some (.int (x3_5 + 1)), none, none]) rfl ?_
                        exact ih15 _ _ v5 0 (x3_5 + 1) h5 (Nat.lt_of_lt_of_le (pm_mu1 c4) (Nat.le_of_lt_succ hm15))
        exact loop15 _ _ _ (-1) 0 0 h1 (Nat.lt_succ_self _)
  exact loop3 _ _ _ 63 h (Nat.lt_succ_self _)

set_option maxRecDepth 100000 in
set_option maxHeartbeats 4000000 in
theorem g_X5_pledgedIn {d B cnt : Nat} {kp : Value} {ρ : pm_S} {I : Nat → Int32} {A : Nat → Nat → Int32} {za zb : Int32} (hdd : 1 ≤ d) (h : gs I) : pm_met mX5_pledgedIn d 0 0 B [.ref (B + 42), .int za, .int zb] cnt (pm_two (cl_L B kp I A) ρ) (pm_Qi (fun _ σ' cnt' => hvc B kp ρ cnt σ' cnt')) := by
  refine pm_enter 2 (by decide) (Nat.le_of_ble_eq_true rfl) rfl (fun G hG hR hF => ?_)
  refine pm_aloadn hG dX5_pledgedIn_0 rfl ?_
  refine pm_getf hG dX5_pledgedIn_1 (flX5_73 _ rfl) rfl rfl ?_
  refine pm_istoreXn (loc' := [some (.ref (B + 42)), some (.int za), some (.int zb), some (.int (I 114)), none]) hG dX5_pledgedIn_4 (by decide) (pm_c1b rfl) rfl ?_
  refine pm_iloadn hG dX5_pledgedIn_5 rfl ?_
  refine pm_iconst (v := 1) hG dX5_pledgedIn_6 (by decide) ?_
  refine pm_isub hG dX5_pledgedIn_7 ?_
  refine pm_istoreXi (loc' := [some (.ref (B + 42)), some (.int za), some (.int zb), some (.int (I 114)), some (.int (zb - 1))]) hG dX5_pledgedIn_8 (by decide) (pm_c1b rfl) rfl ?_
  have loop10 : ∀ (m10 : Nat) (I1 : Nat → Int32) (A1 : Nat → Nat → Int32) (x1_3 x1_4 : Int32), gs I1 → (x1_4.toInt - (za : Int32).toInt).toNat < m10 → pm_wp mX5_pledgedIn G B 10 [some (.ref (B + 42)), some (.int za), some (.int zb), some (.int x1_3), some (.int x1_4)] [] 0 0 cnt (pm_two (cl_L B kp I1 A1) ρ) := by
    intro m10
    induction m10 with
    | zero => intro I1 A1 x1_3 x1_4 _  hm; exact absurd hm (Nat.not_lt_zero _)
    | succ m10 ih10 =>
      intro I1 A1 x1_3 x1_4 h1  hm10
      refine pm_iloadi hG dX5_pledgedIn_10 rfl ?_
      refine pm_iloadn hG dX5_pledgedIn_12 rfl ?_
      refine pm_icmp_le (tgt := 27) hG dX5_pledgedIn_13 rfl (fun c2 => ?_) (fun c2 => ?_)
      · refine pm_iloadn hG dX5_pledgedIn_27 rfl ?_
        refine pm_bipush (v := 7) hG dX5_pledgedIn_28 (by decide) ?_
        refine pm_irem hG dX5_pledgedIn_30 (by decide) ?_
        refine pm_iconst (v := 1) hG dX5_pledgedIn_31 (by decide) ?_
        refine pm_isub hG dX5_pledgedIn_32 ?_
        exact pm_iret hG hF dX5_pledgedIn_33 rfl (Nat.le_refl _) (Nat.le_refl _) ⟨_, rfl, _, _, rfl, rfl, h1⟩
      · refine pm_iloadn hG dX5_pledgedIn_16 rfl ?_
        refine pm_bipush (v := 7) hG dX5_pledgedIn_17 (by decide) ?_
        refine pm_idiv hG dX5_pledgedIn_19 (by decide) ?_
        refine pm_istoreXn (loc' := [some (.ref (B + 42)), some (.int za), some (.int zb), some (.int (x1_3 / 7)), some (.int x1_4)]) hG dX5_pledgedIn_20 (by decide) (pm_c1b rfl) rfl ?_
        refine pm_iincX (v := x1_4 + (-1)) (loc' := [some (.ref (B + 42)), some (.int za), some (.int zb), some (.int (x1_3 / 7)), some (.int (x1_4 + (-1)))]) hG dX5_pledgedIn_21 rfl (by rfl) (by decide) (pm_c1b rfl) rfl ?_
        refine pm_goto (tgt := 10) hG dX5_pledgedIn_24 rfl ?_
        exact ih10 _ _ (x1_3 / 7) (x1_4 + (-1)) h1 (Nat.lt_of_lt_of_le (pm_md2 c2) (Nat.le_of_lt_succ hm10))
  exact loop10 _ _ _ (I 114) (zb - 1) h (Nat.lt_succ_self _)

set_option maxRecDepth 100000 in
set_option maxHeartbeats 4000000 in
theorem g_X5_rentsBut {d B cnt : Nat} {kp : Value} {ρ : pm_S} {I : Nat → Int32} {A : Nat → Nat → Int32} {za : Int32} (hdd : 1 ≤ d) (h : gs I) : pm_met mX5_rentsBut d 0 0 B [.ref (B + 42), .int za] cnt (pm_two (cl_L B kp I A) ρ) (pm_Qi (fun _ σ' cnt' => hvc B kp ρ cnt σ' cnt')) := by
  refine pm_enter 2 (by decide) (Nat.le_of_ble_eq_true rfl) rfl (fun G hG hR hF => ?_)
  refine pm_iconst (v := 0) hG dX5_rentsBut_0 (by decide) ?_
  refine pm_istoreXn (loc' := [some (.ref (B + 42)), some (.int za), some (.int 0), none]) hG dX5_rentsBut_1 (by decide) (pm_c1b rfl) rfl ?_
  refine pm_iconst (v := 0) hG dX5_rentsBut_2 (by decide) ?_
  refine pm_istoreXn (loc' := [some (.ref (B + 42)), some (.int za), some (.int 0), some (.int 0)]) hG dX5_rentsBut_3 (by decide) (pm_c1b rfl) rfl ?_
  have loop4 : ∀ (m4 : Nat) (I1 : Nat → Int32) (A1 : Nat → Nat → Int32) (x1_2 x1_3 : Int32), gs I1 → ((6 : Int32).toInt - x1_3.toInt).toNat < m4 → pm_wp mX5_rentsBut G B 4 [some (.ref (B + 42)), some (.int za), some (.int x1_2), some (.int x1_3)] [] 0 0 cnt (pm_two (cl_L B kp I1 A1) ρ) := by
    intro m4
    induction m4 with
    | zero => intro I1 A1 x1_2 x1_3 _  hm; exact absurd hm (Nat.not_lt_zero _)
    | succ m4 ih4 =>
      intro I1 A1 x1_2 x1_3 h1  hm4
      refine pm_iloadn hG dX5_rentsBut_4 rfl ?_
      refine pm_bipush (v := 6) hG dX5_rentsBut_5 (by decide) ?_
      refine pm_icmp_ge (tgt := 46) hG dX5_rentsBut_7 rfl (fun c2 => ?_) (fun c2 => ?_)
      · refine pm_iloadn hG dX5_rentsBut_46 rfl ?_
        exact pm_iret hG hF dX5_rentsBut_47 rfl (Nat.le_refl _) (Nat.le_refl _) ⟨_, rfl, _, _, rfl, rfl, h1⟩
      · refine pm_aloadn hG dX5_rentsBut_10 rfl ?_
        refine pm_getf hG dX5_rentsBut_11 (flX5_37 _ rfl) rfl rfl ?_
        refine pm_iloadn hG dX5_rentsBut_14 rfl ?_
        refine pm_iconst (v := (-1)) hG dX5_rentsBut_15 (by decide) ?_
        refine pm_ixor hG dX5_rentsBut_16 ?_
        refine pm_iand hG dX5_rentsBut_17 ?_
        refine pm_iconst (v := 1) hG dX5_rentsBut_18 (by decide) ?_
        refine pm_iloadn hG dX5_rentsBut_19 rfl ?_
        refine pm_ishl hG dX5_rentsBut_20 ?_
        refine pm_iand hG dX5_rentsBut_21 ?_
        refine pm_if_eq (tgt := 40) hG dX5_rentsBut_22 rfl (fun c3 => ?_) (fun c3 => ?_)
        · refine pm_iincX (v := x1_3 + 1) (loc' := [some (.ref (B + 42)), some (.int za), some (.int x1_2), some (.int (x1_3 + 1))]) hG dX5_rentsBut_40 rfl (by rfl) (by decide) (pm_c1b rfl) rfl ?_
          refine pm_goto (tgt := 4) hG dX5_rentsBut_43 rfl ?_
          exact ih4 _ _ x1_2 (x1_3 + 1) h1 (Nat.lt_of_lt_of_le (pm_mu1 c2) (Nat.le_of_lt_succ hm4))
        · refine pm_iloadn hG dX5_rentsBut_25 rfl ?_
          refine pm_aloadn hG dX5_rentsBut_26 rfl ?_
          refine pm_getf hG dX5_rentsBut_27 (flX5_21 _ rfl) rfl rfl ?_
          refine pm_getf hG dX5_rentsBut_30 (flX5_40 _ rfl) rfl rfl ?_
          refine pm_iloadn hG dX5_rentsBut_33 rfl ?_
          refine pm_iconst (v := 0) hG dX5_rentsBut_34 (by decide) ?_
          refine pm_callV (As := [.int x1_3, .int 0]) (rest := [.int x1_2]) hG hR dX5_rentsBut_35 (lkX5_50 _ rfl) okV_X9_get rfl rfl (tb_get (d := 0) rfl rfl (pm_tw_of 10 3 (by decide) (by decide) (by decide))) rfl rfl hdd (Nat.le_refl _) (Nat.le_refl _) (by first | decide | exact Nat.le_of_ble_eq_true rfl) (pm_ki (fun v4 σ' cnt' hq => ?_))
          obtain ⟨I4, A4, rfl, rfl, h4⟩ := hv_id (kp := kp) (I := I1) (A := A1) h1 hq.2
          refine pm_iadd hG dX5_rentsBut_38 ?_
          refine pm_istoreXn (loc' := [some (.ref (B + 42)), some (.int za), some (.int (x1_2 + v4)), some (.int x1_3)]) hG dX5_rentsBut_39 (by decide) (pm_c1b rfl) rfl ?_
          refine pm_iincX (v := x1_3 + 1) (loc' := [some (.ref (B + 42)), some (.int za), some (.int (x1_2 + v4)), some (.int (x1_3 + 1))]) hG dX5_rentsBut_40 rfl (by rfl) (by decide) (pm_c1b rfl) rfl ?_
          refine pm_goto (tgt := 4) hG dX5_rentsBut_43 rfl ?_
          exact ih4 _ _ (x1_2 + v4) (x1_3 + 1) h4 (Nat.lt_of_lt_of_le (pm_mu1 c2) (Nat.le_of_lt_succ hm4))
  exact loop4 _ _ _ 0 0 h (Nat.lt_succ_self _)

set_option maxRecDepth 100000 in
set_option maxHeartbeats 4000000 in
theorem g_X6_fail {d B cnt : Nat} {kp : Value} {ρ : pm_S} {I : Nat → Int32} {A : Nat → Nat → Int32} (hdd : 1 ≤ d) (h : gs I) : pm_met mX6_fail d 0 0 B [.ref (B + 27)] cnt (pm_two (cl_L B kp I A) ρ) (pm_Qv (fun σ' cnt' => hvc B kp ρ cnt σ' cnt')) := by
  refine pm_enter 0 (by decide) (Nat.le_of_ble_eq_true rfl) rfl (fun G hG hR hF => ?_)
  refine pm_aloadn hG dX6_fail_0 rfl ?_
  refine pm_getf hG dX6_fail_1 (flX6_30 _ rfl) rfl rfl ?_
  refine pm_if_ge (tgt := 15) hG dX6_fail_4 rfl (fun c1 => ?_) (fun c1 => ?_)
  · exact pm_vret hG hF dX6_fail_15 rfl (Nat.le_refl _) (Nat.le_refl _) ⟨rfl, _, _, rfl, rfl, h⟩
  · refine pm_aloadn hG dX6_fail_7 rfl ?_
    refine pm_aloadn hG dX6_fail_8 rfl ?_
    refine pm_getf hG dX6_fail_9 (flX6_26 _ rfl) rfl rfl ?_
    refine pm_putf hG dX6_fail_12 (fwX6_30 _ rfl) rfl rfl rfl ?_
    refine pm_nrm (L' := cl_L B kp (ui I 106 (I 105)) A) (by decide) (Nat.le_of_ble_eq_true rfl) rfl ?_
    exact pm_vret hG hF dX6_fail_15 rfl (Nat.le_refl _) (Nat.le_refl _) ⟨rfl, _, _, rfl, rfl, (gs.wi (k := 106) rfl h)⟩

set_option maxRecDepth 100000 in
set_option maxHeartbeats 4000000 in
theorem g_X6_isDigit {d B cnt : Nat} {kp : Value} {ρ : pm_S} {I : Nat → Int32} {A : Nat → Nat → Int32} {za : Int32} (hdd : 1 ≤ d) (h : gs I) : pm_met mX6_isDigit d 0 0 B [.int za] cnt (pm_two (cl_L B kp I A) ρ) (pm_Qi (fun v σ' cnt' => (v = 0 ∨ v = 1) ∧ hvc B kp ρ cnt σ' cnt')) := by
  refine pm_enter 0 (by decide) (Nat.le_of_ble_eq_true rfl) rfl (fun G hG hR hF => ?_)
  refine pm_iloadn hG dX6_isDigit_0 rfl ?_
  refine pm_bipush (v := 48) hG dX6_isDigit_1 (by decide) ?_
  refine pm_icmp_lt (tgt := 16) hG dX6_isDigit_3 rfl (fun c1 => ?_) (fun c1 => ?_)
  · refine pm_iconst (v := 0) hG dX6_isDigit_16 (by decide) ?_
    exact pm_zret hG hF dX6_isDigit_17 rfl (pm_nz (Or.inl rfl)) (Nat.le_refl _) (Nat.le_refl _) ⟨_, rfl, (Or.inl rfl), _, _, rfl, rfl, h⟩
  · refine pm_iloadn hG dX6_isDigit_6 rfl ?_
    refine pm_bipush (v := 57) hG dX6_isDigit_7 (by decide) ?_
    refine pm_icmp_gt (tgt := 16) hG dX6_isDigit_9 rfl (fun c2 => ?_) (fun c2 => ?_)
    · refine pm_iconst (v := 0) hG dX6_isDigit_16 (by decide) ?_
      exact pm_zret hG hF dX6_isDigit_17 rfl (pm_nz (Or.inl rfl)) (Nat.le_refl _) (Nat.le_refl _) ⟨_, rfl, (Or.inl rfl), _, _, rfl, rfl, h⟩
    · refine pm_iconst (v := 1) hG dX6_isDigit_12 (by decide) ?_
      refine pm_goto (tgt := 17) hG dX6_isDigit_13 rfl ?_
      exact pm_zret hG hF dX6_isDigit_17 rfl (pm_nz (Or.inr rfl)) (Nat.le_refl _) (Nat.le_refl _) ⟨_, rfl, (Or.inr rfl), _, _, rfl, rfl, h⟩

set_option maxRecDepth 100000 in
set_option maxHeartbeats 4000000 in
theorem g_X6_readClosing {d B cnt : Nat} {kp : Value} {ρ : pm_S} {I : Nat → Int32} {A : Nat → Nat → Int32} (hdd : 2 ≤ d) (h : gs I) : pm_met mX6_readClosing d 0 0 B [.ref (B + 27)] cnt (pm_two (cl_L B kp I A) ρ) (pm_Qv (fun σ' cnt' => hvc B kp ρ cnt σ' cnt')) := by
  refine pm_enter 0 (by decide) (Nat.le_of_ble_eq_true rfl) rfl (fun G hG hR hF => ?_)
  refine pm_aloadn hG dX6_readClosing_0 rfl ?_
  refine pm_callV (As := []) (rest := []) hG hR dX6_readClosing_1 (lkX6_47 _ rfl) okV_X6_next rfl rfl (g_X6_next (d := 1) (by decide) h) rfl rfl hdd (Nat.le_refl _) (Nat.le_refl _) (by decide) (pm_ki (fun v1 σ' cnt' hq => ?_))
  obtain ⟨I1, A1, rfl, rfl, h1⟩ := hq
  refine pm_bipush (v := 41) hG dX6_readClosing_4 (by decide) ?_
  refine pm_icmp_ne (tgt := 22) hG dX6_readClosing_6 rfl (fun c2 => ?_) (fun c2 => ?_)
  · refine pm_aloadn hG dX6_readClosing_22 rfl ?_
    refine pm_callV (As := []) (rest := []) hG hR dX6_readClosing_23 (lkX6_41 _ rfl) okV_X6_fail rfl rfl (g_X6_fail (d := 1) (by decide) h1) rfl rfl hdd (Nat.le_refl _) (Nat.le_refl _) (by decide) (pm_kv (fun σ' cnt' hq => ?_))
    obtain ⟨I3, A3, rfl, rfl, h3⟩ := hq
    exact pm_vret hG hF dX6_readClosing_26 rfl (Nat.le_refl _) (Nat.le_refl _) ⟨rfl, _, _, rfl, rfl, h3⟩
  · refine pm_aloadn hG dX6_readClosing_9 rfl ?_
    refine pm_dup hG dX6_readClosing_10 rfl ?_
    refine pm_getf hG dX6_readClosing_11 (flX6_26 _ rfl) rfl rfl ?_
    refine pm_iconst (v := 1) hG dX6_readClosing_14 (by decide) ?_
    refine pm_iadd hG dX6_readClosing_15 ?_
    refine pm_putf hG dX6_readClosing_16 (fwX6_26 _ rfl) rfl rfl rfl ?_
    refine pm_nrm (L' := cl_L B kp (ui I1 105 ((I1 105) + 1)) A1) (by decide) (Nat.le_of_ble_eq_true rfl) rfl ?_
    refine pm_goto (tgt := 26) hG dX6_readClosing_19 rfl ?_
    exact pm_vret hG hF dX6_readClosing_26 rfl (Nat.le_refl _) (Nat.le_refl _) ⟨rfl, _, _, rfl, rfl, (gs.wi (k := 105) rfl h1)⟩

set_option maxRecDepth 100000 in
set_option maxHeartbeats 4000000 in
theorem g_X6_readNumber {d B cnt : Nat} {kp : Value} {ρ : pm_S} {I : Nat → Int32} {A : Nat → Nat → Int32} (hdd : 2 ≤ d) (h : gs I) : pm_met mX6_readNumber d 0 0 B [.ref (B + 27)] cnt (pm_two (cl_L B kp I A) ρ) (pm_Qv (fun σ' cnt' => hvc B kp ρ cnt σ' cnt')) := by
  refine pm_enter 2 (by decide) (Nat.le_of_ble_eq_true rfl) rfl (fun G hG hR hF => ?_)
  refine pm_iconst (v := 0) hG dX6_readNumber_0 (by decide) ?_
  refine pm_istoreXn (loc' := [some (.ref (B + 27)), some (.int 0), none]) hG dX6_readNumber_1 (by decide) (pm_c1b rfl) rfl ?_
  refine pm_iconst (v := 0) hG dX6_readNumber_2 (by decide) ?_
  refine pm_istoreXn (loc' := [some (.ref (B + 27)), some (.int 0), some (.int 0)]) hG dX6_readNumber_3 (by decide) (pm_c1b rfl) rfl ?_
  have loop4 : ∀ (m4 : Nat) (I1 : Nat → Int32) (A1 : Nat → Nat → Int32) (x1_1 x1_2 : Int32), gs I1 → ((4 : Int32).toInt - x1_2.toInt).toNat < m4 → pm_wp mX6_readNumber G B 4 [some (.ref (B + 27)), some (.int x1_1), some (.int x1_2)] [] 0 0 cnt (pm_two (cl_L B kp I1 A1) ρ) := by
    intro m4
    induction m4 with
    | zero => intro I1 A1 x1_1 x1_2 _  hm; exact absurd hm (Nat.not_lt_zero _)
    | succ m4 ih4 =>
      intro I1 A1 x1_1 x1_2 h1  hm4
      refine pm_iloadn hG dX6_readNumber_4 rfl ?_
      refine pm_iconst (v := 4) hG dX6_readNumber_5 (by decide) ?_
      refine pm_icmp_ge (tgt := 48) hG dX6_readNumber_6 rfl (fun c2 => ?_) (fun c2 => ?_)
      · refine pm_aloadn hG dX6_readNumber_48 rfl ?_
        refine pm_getf hG dX6_readNumber_49 (flX6_20 _ rfl) rfl rfl ?_
        refine pm_iloadn hG dX6_readNumber_52 rfl ?_
        obtain ⟨k3, hk3, hu3⟩ := gs.used h1 28 60 (by decide)
        have ht3 : pm_two (cl_L B kp I1 A1) ρ 28 = some (.inr (9, [.int (nI 60), .int (nI 1), .ref (B + 29), .int (nI k3)])) := by rw [← hu3]; rfl
        refine pm_callV (As := [.int x1_1]) (rest := []) hG hR dX6_readNumber_53 (lkX6_50 _ rfl) okV_X9_append rfl rfl (tb_append (d := 1) (by decide) ht3 rfl (by decide) (by decide) (by decide) (by decide) (by decide) (by decide) hk3) rfl rfl hdd (Nat.le_refl _) (Nat.le_refl _) (by decide) (pm_ki (fun v3 σ' cnt' hq => ?_))
        obtain ⟨I3, A3, rfl, rfl, h3⟩ := hv_p28 (kp := kp) (I := I1) (A := A1) hk3 h1 hq
        refine pm_pop hG dX6_readNumber_56 rfl ?_
        exact pm_vret hG hF dX6_readNumber_57 rfl (Nat.le_refl _) (Nat.le_refl _) ⟨rfl, _, _, rfl, rfl, h3⟩
      · refine pm_aloadn hG dX6_readNumber_9 rfl ?_
        refine pm_callV (As := []) (rest := []) hG hR dX6_readNumber_10 (lkX6_47 _ rfl) okV_X6_next rfl rfl (g_X6_next (d := 1) (by decide) h1) rfl rfl hdd (Nat.le_refl _) (Nat.le_refl _) (by decide) (pm_ki (fun v4 σ' cnt' hq => ?_))
        obtain ⟨I4, A4, rfl, rfl, h4⟩ := hq
        refine pm_callS (As := [.int v4]) (rest := []) hG hR dX6_readNumber_13 (lkX6_70 _ rfl) okS_X6_isDigit (g_X6_isDigit (d := 1) (by decide) h4) rfl rfl hdd (Nat.le_refl _) (Nat.le_refl _) (by decide) (pm_ki (fun v5 σ' cnt' hq => ?_))
        obtain ⟨b5, I5, A5, rfl, rfl, h5⟩ := hq
        refine pm_if_eq (tgt := 48) hG dX6_readNumber_16 rfl (fun c6 => ?_) (fun c6 => ?_)
        · refine pm_aloadn hG dX6_readNumber_48 rfl ?_
          refine pm_getf hG dX6_readNumber_49 (flX6_20 _ rfl) rfl rfl ?_
          refine pm_iloadn hG dX6_readNumber_52 rfl ?_
          obtain ⟨k7, hk7, hu7⟩ := gs.used h5 28 60 (by decide)
          have ht7 : pm_two (cl_L B kp I5 A5) ρ 28 = some (.inr (9, [.int (nI 60), .int (nI 1), .ref (B + 29), .int (nI k7)])) := by rw [← hu7]; rfl
          refine pm_callV (As := [.int x1_1]) (rest := []) hG hR dX6_readNumber_53 (lkX6_50 _ rfl) okV_X9_append rfl rfl (tb_append (d := 1) (by decide) ht7 rfl (by decide) (by decide) (by decide) (by decide) (by decide) (by decide) hk7) rfl rfl hdd (Nat.le_refl _) (Nat.le_refl _) (by decide) (pm_ki (fun v7 σ' cnt' hq => ?_))
          obtain ⟨I7, A7, rfl, rfl, h7⟩ := hv_p28 (kp := kp) (I := I5) (A := A5) hk7 h5 hq
          refine pm_pop hG dX6_readNumber_56 rfl ?_
          exact pm_vret hG hF dX6_readNumber_57 rfl (Nat.le_refl _) (Nat.le_refl _) ⟨rfl, _, _, rfl, rfl, h7⟩
        · refine pm_iloadn hG dX6_readNumber_19 rfl ?_
          refine pm_bipush (v := 10) hG dX6_readNumber_20 (by decide) ?_
          refine pm_imul hG dX6_readNumber_22 ?_
          refine pm_aloadn hG dX6_readNumber_23 rfl ?_
          refine pm_callV (As := []) (rest := [.int (x1_1 * 10)]) hG hR dX6_readNumber_24 (lkX6_47 _ rfl) okV_X6_next rfl rfl (g_X6_next (d := 1) (by decide) h5) rfl rfl hdd (Nat.le_refl _) (Nat.le_refl _) (by first | decide | exact Nat.le_of_ble_eq_true rfl) (pm_ki (fun v8 σ' cnt' hq => ?_))
          obtain ⟨I8, A8, rfl, rfl, h8⟩ := hq
          refine pm_iadd hG dX6_readNumber_27 ?_
          refine pm_bipush (v := 48) hG dX6_readNumber_28 (by decide) ?_
          refine pm_isub hG dX6_readNumber_30 ?_
          refine pm_istoreXn (loc' := [some (.ref (B + 27)), some (.int (((x1_1 * 10) + v8) - 48)), some (.int x1_2)]) hG dX6_readNumber_31 (by decide) (pm_c1b rfl) rfl ?_
          refine pm_aloadn hG dX6_readNumber_32 rfl ?_
          refine pm_dup hG dX6_readNumber_33 rfl ?_
          refine pm_getf hG dX6_readNumber_34 (flX6_26 _ rfl) rfl rfl ?_
          refine pm_iconst (v := 1) hG dX6_readNumber_37 (by decide) ?_
          refine pm_iadd hG dX6_readNumber_38 ?_
          refine pm_putf hG dX6_readNumber_39 (fwX6_26 _ rfl) rfl rfl rfl ?_
          refine pm_nrm (L' := cl_L B kp (ui I8 105 ((I8 105) + 1)) A8) (by decide) (Nat.le_of_ble_eq_true rfl) rfl ?_
          refine pm_iincX (v := x1_2 + 1) (loc' := [some (.ref (B + 27)), some (.int (((x1_1 * 10) + v8) - 48)), some (.int (x1_2 + 1))]) hG dX6_readNumber_42 rfl (by rfl) (by decide) (pm_c1b rfl) rfl ?_
          refine pm_goto (tgt := 4) hG dX6_readNumber_45 rfl ?_
          exact ih4 _ _ (((x1_1 * 10) + v8) - 48) (x1_2 + 1) (gs.wi (k := 105) rfl h8) (Nat.lt_of_lt_of_le (pm_mu1 c2) (Nat.le_of_lt_succ hm4))
  exact loop4 _ _ _ 0 0 h (Nat.lt_succ_self _)

set_option maxRecDepth 100000 in
set_option maxHeartbeats 4000000 in
theorem g_X7_addCopy {d B cnt : Nat} {kp : Value} {ρ : pm_S} {I : Nat → Int32} {A : Nat → Nat → Int32} {za : Int32} (hdd : 3 ≤ d) (h : gs I) : pm_met mX7_addCopy d 0 0 B [.ref (B + 1), .int za] cnt (pm_two (cl_L B kp I A) ρ) (pm_Qi (fun _ σ' cnt' => hvc B kp ρ cnt σ' cnt')) := by
  refine pm_enter 1 (by decide) (Nat.le_of_ble_eq_true rfl) rfl (fun G hG hR hF => ?_)
  refine pm_aloadn hG dX7_addCopy_0 rfl ?_
  refine pm_iconst (v := 2) hG dX7_addCopy_1 (by decide) ?_
  refine pm_aloadn hG dX7_addCopy_2 rfl ?_
  refine pm_iloadn hG dX7_addCopy_3 rfl ?_
  refine pm_callV (As := [.int za]) (rest := [.int 2, .ref (B + 1)]) hG hR dX7_addCopy_4 (lkX7_128 _ rfl) okV_X7_whoHas rfl rfl (g_X7_whoHas (d := 2) (by decide) h) rfl rfl hdd (Nat.le_refl _) (Nat.le_refl _) (by first | decide | exact Nat.le_of_ble_eq_true rfl) (pm_ki (fun v1 σ' cnt' hq => ?_))
  obtain ⟨I1, A1, rfl, rfl, h1⟩ := hq
  refine pm_iconst (v := 0) hG dX7_addCopy_7 (by decide) ?_
  refine pm_callV (As := [.int 2, .int v1, .int 0]) (rest := []) hG hR dX7_addCopy_8 (lkX7_131 _ rfl) okV_X7_addPower rfl rfl (g_X7_addPower (d := 2) (by decide) h1) rfl rfl hdd (Nat.le_refl _) (Nat.le_refl _) (by decide) (pm_ki (fun v2 σ' cnt' hq => ?_))
  obtain ⟨I2, A2, rfl, rfl, h2⟩ := hq
  refine pm_istoreXn (loc' := [some (.ref (B + 1)), some (.int za), some (.int v2)]) hG dX7_addCopy_11 (by decide) (pm_c1b rfl) rfl ?_
  refine pm_aloadn hG dX7_addCopy_12 rfl ?_
  refine pm_getf hG dX7_addCopy_13 (flX7_26 _ rfl) rfl rfl ?_
  refine pm_iloadn hG dX7_addCopy_16 rfl ?_
  refine pm_iconst (v := 5) hG dX7_addCopy_17 (by decide) ?_
  refine pm_aloadn hG dX7_addCopy_18 rfl ?_
  refine pm_getf hG dX7_addCopy_19 (flX7_26 _ rfl) rfl rfl ?_
  refine pm_iloadn hG dX7_addCopy_22 rfl ?_
  refine pm_iconst (v := 5) hG dX7_addCopy_23 (by decide) ?_
  refine pm_callV (As := [.int za, .int 5]) (rest := [.int 5, .int v2, .ref (B + 8)]) hG hR dX7_addCopy_24 (lkX7_83 _ rfl) okV_X9_get rfl rfl (tb_get (d := 2) rfl rfl (pm_tw_of 20 6 (by decide) (by decide) (by decide))) rfl rfl hdd (Nat.le_refl _) (Nat.le_refl _) (by first | decide | exact Nat.le_of_ble_eq_true rfl) (pm_ki (fun v3 σ' cnt' hq => ?_))
  obtain ⟨I3, A3, rfl, rfl, h3⟩ := hv_id (kp := kp) (I := I2) (A := A2) h2 hq.2
  refine pm_callV (As := [.int v2, .int 5, .int v3]) (rest := []) hG hR dX7_addCopy_27 (lkX7_61 _ rfl) okV_X9_set rfl rfl (tb_set (d := 2) rfl rfl (pm_tw_of 20 6 (by decide) (by decide) (by decide)) (by decide)) rfl rfl hdd (Nat.le_refl _) (Nat.le_refl _) (by decide) (pm_kv (fun σ' cnt' hq => ?_))
  obtain ⟨I4, A4, rfl, rfl, h4⟩ := hv_a9 (kp := kp) (I := I3) (A := A3) h3 hq
  refine pm_iloadn hG dX7_addCopy_30 rfl ?_
  exact pm_iret hG hF dX7_addCopy_31 rfl (Nat.le_refl _) (Nat.le_refl _) ⟨_, rfl, _, _, rfl, rfl, h4⟩
