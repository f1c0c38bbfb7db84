section
set_option maxRecDepth 100000 in
set_option maxHeartbeats 4000000 in
theorem c_X12_says {d : Nat} {B cnt : Nat} {σ : pm_S} {S : FS} {za : Int32} {zb : Int32} {zc : Int32} {R : Int32 × FS} (hdd : 5 ≤ d) (hE : f_X12_says S za zb zc = some R) : pm_met mX12_says d 0 0 B [.ref (B + 54), .int za, .int zb, .int zc] cnt (mst B S σ) (pm_Qi (fun v σ' cnt' => v = R.1 ∧ σ' = (mst B R.2 σ) ∧ cnt' = cnt)) := by
  refine pm_enter 0 (by decide) (Nat.le_of_ble_eq_true rfl) rfl (fun G hG hR hF => ?_)
  unfold f_X12_says at hE
  refine pm_aloadn hG dX12_says_0 rfl ?_
  refine pm_iloadn hG dX12_says_1 rfl ?_
  refine pm_callV (As := [.int za]) (rest := []) hG hR dX12_says_2 (lkX12_192 _ rfl) okV_X12_isLaw rfl rfl (c_X12_isLaw (d := 4) (by decide) rfl) rfl rfl hdd (Nat.le_refl _) (Nat.le_refl _) (by decide) (fx_ki ?_)
  refine pm_if_eq (tgt := 34) hG dX12_says_5 rfl (fun c1 => ?_) (fun c1 => ?_)
  · replace hE := fx_t c1 hE
    refine pm_aloadn hG dX12_says_34 rfl ?_
    refine pm_iconst (v := 1) hG dX12_says_35 (by decide) ?_
    obtain ⟨r3, h2, hE⟩ := fb_some hE
    refine pm_callV (As := [.int 1]) (rest := []) hG hR dX12_says_36 (lkX12_80 _ rfl) okV_X12_finds rfl rfl (c_X12_finds (d := 4) (by decide) h2) rfl rfl hdd (Nat.le_refl _) (Nat.le_refl _) (by decide) (fx_ki ?_)
    exact pm_iret hG hF dX12_says_39 rfl (Nat.le_refl _) (Nat.le_refl _) (fx_rim hE)
  · replace hE := fx_f c1 hE
    refine pm_iloadn hG dX12_says_8 rfl ?_
    refine pm_iconst (v := (-1)) hG dX12_says_9 (by decide) ?_
    refine pm_icmp_eq (tgt := 21) hG dX12_says_10 rfl (fun c4 => ?_) (fun c4 => ?_)
    · replace hE := fx_t c4 hE
      refine pm_iloadn hG dX12_says_21 rfl ?_
      refine pm_iconst (v := (-1)) hG dX12_says_22 (by decide) ?_
      refine pm_icmp_eq (tgt := 40) hG dX12_says_23 rfl (fun c5 => ?_) (fun c5 => ?_)
      · replace hE := fx_t c5 hE
        refine pm_aloadn hG dX12_says_40 rfl ?_
        refine pm_iloadn hG dX12_says_41 rfl ?_
        refine pm_iloadn hG dX12_says_42 rfl ?_
        refine pm_iloadn hG dX12_says_43 rfl ?_
        refine pm_aloadn hG dX12_says_44 rfl ?_
        refine pm_getf hG dX12_says_45 (flX12_7 _ rfl) rfl rfl ?_
        refine pm_bipush (v := 8) hG dX12_says_48 (by decide) ?_
        refine fx_iald hG dX12_says_50 rfl (ix_lit (by decide) rfl) ?_
        obtain ⟨r7, h6, hE⟩ := fb_some hE
        refine pm_callV (As := [.int za, .int zb, .int zc, .int (S.2 55 8)]) (rest := []) hG hR dX12_says_51 (lkX12_214 _ rfl) okV_X12_comesTo rfl rfl (c_X12_comesTo (d := 4) (by decide) h6) rfl rfl hdd (Nat.le_refl _) (Nat.le_refl _) (by decide) (fx_ki ?_)
        exact pm_iret hG hF dX12_says_54 rfl (Nat.le_refl _) (Nat.le_refl _) (fx_rim hE)
      · replace hE := fx_f c5 hE
        refine pm_aloadn hG dX12_says_26 rfl ?_
        refine pm_iloadn hG dX12_says_27 rfl ?_
        refine pm_callV (As := [.int zc]) (rest := []) hG hR dX12_says_28 (lkX12_211 _ rfl) okV_X12_isLetter rfl rfl (c_X12_isLetter (d := 4) (by decide) rfl) rfl rfl hdd (Nat.le_refl _) (Nat.le_refl _) (by decide) (fx_ki ?_)
        refine pm_if_ne (tgt := 40) hG dX12_says_31 rfl (fun c8 => ?_) (fun c8 => ?_)
        · replace hE := fx_f c8 hE
          refine pm_aloadn hG dX12_says_40 rfl ?_
          refine pm_iloadn hG dX12_says_41 rfl ?_
          refine pm_iloadn hG dX12_says_42 rfl ?_
          refine pm_iloadn hG dX12_says_43 rfl ?_
          refine pm_aloadn hG dX12_says_44 rfl ?_
          refine pm_getf hG dX12_says_45 (flX12_7 _ rfl) rfl rfl ?_
          refine pm_bipush (v := 8) hG dX12_says_48 (by decide) ?_
          refine fx_iald hG dX12_says_50 rfl (ix_lit (by decide) rfl) ?_
          obtain ⟨r10, h9, hE⟩ := fb_some hE
          refine pm_callV (As := [.int za, .int zb, .int zc, .int (S.2 55 8)]) (rest := []) hG hR dX12_says_51 (lkX12_214 _ rfl) okV_X12_comesTo rfl rfl (c_X12_comesTo (d := 4) (by decide) h9) rfl rfl hdd (Nat.le_refl _) (Nat.le_refl _) (by decide) (fx_ki ?_)
          exact pm_iret hG hF dX12_says_54 rfl (Nat.le_refl _) (Nat.le_refl _) (fx_rim hE)
        · replace hE := fx_t c8 hE
          refine pm_aloadn hG dX12_says_34 rfl ?_
          refine pm_iconst (v := 1) hG dX12_says_35 (by decide) ?_
          obtain ⟨r12, h11, hE⟩ := fb_some hE
          refine pm_callV (As := [.int 1]) (rest := []) hG hR dX12_says_36 (lkX12_80 _ rfl) okV_X12_finds rfl rfl (c_X12_finds (d := 4) (by decide) h11) rfl rfl hdd (Nat.le_refl _) (Nat.le_refl _) (by decide) (fx_ki ?_)
          exact pm_iret hG hF dX12_says_39 rfl (Nat.le_refl _) (Nat.le_refl _) (fx_rim hE)
    · replace hE := fx_f c4 hE
      refine pm_aloadn hG dX12_says_13 rfl ?_
      refine pm_iloadn hG dX12_says_14 rfl ?_
      refine pm_callV (As := [.int zb]) (rest := []) hG hR dX12_says_15 (lkX12_91 _ rfl) okV_X12_isPerson rfl rfl (c_X12_isPerson (d := 4) (by decide) rfl) rfl rfl hdd (Nat.le_refl _) (Nat.le_refl _) (by decide) (fx_ki ?_)
      refine pm_if_eq (tgt := 34) hG dX12_says_18 rfl (fun c13 => ?_) (fun c13 => ?_)
      · replace hE := fx_t c13 hE
        refine pm_aloadn hG dX12_says_34 rfl ?_
        refine pm_iconst (v := 1) hG dX12_says_35 (by decide) ?_
        obtain ⟨r15, h14, hE⟩ := fb_some hE
        refine pm_callV (As := [.int 1]) (rest := []) hG hR dX12_says_36 (lkX12_80 _ rfl) okV_X12_finds rfl rfl (c_X12_finds (d := 4) (by decide) h14) rfl rfl hdd (Nat.le_refl _) (Nat.le_refl _) (by decide) (fx_ki ?_)
        exact pm_iret hG hF dX12_says_39 rfl (Nat.le_refl _) (Nat.le_refl _) (fx_rim hE)
      · replace hE := fx_f c13 hE
        refine pm_iloadn hG dX12_says_21 rfl ?_
        refine pm_iconst (v := (-1)) hG dX12_says_22 (by decide) ?_
        refine pm_icmp_eq (tgt := 40) hG dX12_says_23 rfl (fun c16 => ?_) (fun c16 => ?_)
        · replace hE := fx_t c16 hE
          refine pm_aloadn hG dX12_says_40 rfl ?_
          refine pm_iloadn hG dX12_says_41 rfl ?_
          refine pm_iloadn hG dX12_says_42 rfl ?_
          refine pm_iloadn hG dX12_says_43 rfl ?_
          refine pm_aloadn hG dX12_says_44 rfl ?_
          refine pm_getf hG dX12_says_45 (flX12_7 _ rfl) rfl rfl ?_
          refine pm_bipush (v := 8) hG dX12_says_48 (by decide) ?_
          refine fx_iald hG dX12_says_50 rfl (ix_lit (by decide) rfl) ?_
          obtain ⟨r18, h17, hE⟩ := fb_some hE
          refine pm_callV (As := [.int za, .int zb, .int zc, .int (S.2 55 8)]) (rest := []) hG hR dX12_says_51 (lkX12_214 _ rfl) okV_X12_comesTo rfl rfl (c_X12_comesTo (d := 4) (by decide) h17) rfl rfl hdd (Nat.le_refl _) (Nat.le_refl _) (by decide) (fx_ki ?_)
          exact pm_iret hG hF dX12_says_54 rfl (Nat.le_refl _) (Nat.le_refl _) (fx_rim hE)
        · replace hE := fx_f c16 hE
          refine pm_aloadn hG dX12_says_26 rfl ?_
          refine pm_iloadn hG dX12_says_27 rfl ?_
          refine pm_callV (As := [.int zc]) (rest := []) hG hR dX12_says_28 (lkX12_211 _ rfl) okV_X12_isLetter rfl rfl (c_X12_isLetter (d := 4) (by decide) rfl) rfl rfl hdd (Nat.le_refl _) (Nat.le_refl _) (by decide) (fx_ki ?_)
          refine pm_if_ne (tgt := 40) hG dX12_says_31 rfl (fun c19 => ?_) (fun c19 => ?_)
          · replace hE := fx_f c19 hE
            refine pm_aloadn hG dX12_says_40 rfl ?_
            refine pm_iloadn hG dX12_says_41 rfl ?_
            refine pm_iloadn hG dX12_says_42 rfl ?_
            refine pm_iloadn hG dX12_says_43 rfl ?_
            refine pm_aloadn hG dX12_says_44 rfl ?_
            refine pm_getf hG dX12_says_45 (flX12_7 _ rfl) rfl rfl ?_
            refine pm_bipush (v := 8) hG dX12_says_48 (by decide) ?_
            refine fx_iald hG dX12_says_50 rfl (ix_lit (by decide) rfl) ?_
            obtain ⟨r21, h20, hE⟩ := fb_some hE
            refine pm_callV (As := [.int za, .int zb, .int zc, .int (S.2 55 8)]) (rest := []) hG hR dX12_says_51 (lkX12_214 _ rfl) okV_X12_comesTo rfl rfl (c_X12_comesTo (d := 4) (by decide) h20) rfl rfl hdd (Nat.le_refl _) (Nat.le_refl _) (by decide) (fx_ki ?_)
            exact pm_iret hG hF dX12_says_54 rfl (Nat.le_refl _) (Nat.le_refl _) (fx_rim hE)
          · replace hE := fx_t c19 hE
            refine pm_aloadn hG dX12_says_34 rfl ?_
            refine pm_iconst (v := 1) hG dX12_says_35 (by decide) ?_
            obtain ⟨r23, h22, hE⟩ := fb_some hE
            refine pm_callV (As := [.int 1]) (rest := []) hG hR dX12_says_36 (lkX12_80 _ rfl) okV_X12_finds rfl rfl (c_X12_finds (d := 4) (by decide) h22) rfl rfl hdd (Nat.le_refl _) (Nat.le_refl _) (by decide) (fx_ki ?_)
            exact pm_iret hG hF dX12_says_39 rfl (Nat.le_refl _) (Nat.le_refl _) (fx_rim hE)

set_option maxRecDepth 100000 in
set_option maxHeartbeats 4000000 in
theorem c_X12_seat {d : Nat} {B cnt : Nat} {σ : pm_S} {S : FS} {za : Int32} {zb : Int32} {R : Int32 × FS} (hdd : 3 ≤ d) (hE : f_X12_seat S za zb = some R) : pm_met mX12_seat d 0 0 B [.ref (B + 54), .int za, .int zb] cnt (mst B S σ) (pm_Qi (fun v σ' cnt' => v = R.1 ∧ σ' = (mst B R.2 σ) ∧ cnt' = cnt)) := by
  refine pm_enter 0 (by decide) (Nat.le_of_ble_eq_true rfl) rfl (fun G hG hR hF => ?_)
  unfold f_X12_seat at hE
  refine pm_aloadn hG dX12_seat_0 rfl ?_
  refine pm_iloadn hG dX12_seat_1 rfl ?_
  refine pm_callV (As := [.int za]) (rest := []) hG hR dX12_seat_2 (lkX12_91 _ rfl) okV_X12_isPerson rfl rfl (c_X12_isPerson (d := 2) (by decide) rfl) rfl rfl hdd (Nat.le_refl _) (Nat.le_refl _) (by decide) (fx_ki ?_)
  refine pm_if_ne (tgt := 14) hG dX12_seat_5 rfl (fun c1 => ?_) (fun c1 => ?_)
  · replace hE := fx_f c1 hE
    refine pm_aloadn hG dX12_seat_14 rfl ?_
    refine pm_iloadn hG dX12_seat_15 rfl ?_
    obtain ⟨x3, h2, hE⟩ := fb_some hE
    refine pm_callV (As := [.int za]) (rest := []) hG hR dX12_seat_16 (lkX12_101 _ rfl) okV_X12_lives rfl rfl (c_X12_lives (d := 2) (by decide) h2) rfl rfl hdd (Nat.le_refl _) (Nat.le_refl _) (by decide) (fx_ki ?_)
    refine pm_if_eq (tgt := 42) hG dX12_seat_19 rfl (fun c4 => ?_) (fun c4 => ?_)
    · replace hE := fx_t c4 hE
      refine pm_aloadn hG dX12_seat_42 rfl ?_
      refine pm_iconst (v := 3) hG dX12_seat_43 (by decide) ?_
      obtain ⟨r6, h5, hE⟩ := fb_some hE
      refine pm_callV (As := [.int 3]) (rest := []) hG hR dX12_seat_44 (lkX12_80 _ rfl) okV_X12_finds rfl rfl (c_X12_finds (d := 2) (by decide) h5) rfl rfl hdd (Nat.le_refl _) (Nat.le_refl _) (by decide) (fx_ki ?_)
      exact pm_iret hG hF dX12_seat_47 rfl (Nat.le_refl _) (Nat.le_refl _) (fx_rim hE)
    · replace hE := fx_f c4 hE
      refine pm_aloadn hG dX12_seat_22 rfl ?_
      refine pm_iloadn hG dX12_seat_23 rfl ?_
      refine pm_bipush (v := 11) hG dX12_seat_24 (by decide) ?_
      obtain ⟨x8, h7, hE⟩ := fb_some hE
      refine pm_callV (As := [.int za, .int 11]) (rest := []) hG hR dX12_seat_26 (lkX12_72 _ rfl) okV_X12_man rfl rfl (c_X12_man (d := 2) (by decide) h7) rfl rfl hdd (Nat.le_refl _) (Nat.le_refl _) (by decide) (fx_ki ?_)
      refine pm_iconst (v := 1) hG dX12_seat_29 (by decide) ?_
      refine pm_icmp_ne (tgt := 37) hG dX12_seat_30 rfl (fun c9 => ?_) (fun c9 => ?_)
      · replace hE := fx_f c9 hE
        refine pm_iconst (v := 0) hG dX12_seat_37 (by decide) ?_
        refine pm_iloadn hG dX12_seat_38 rfl ?_
        refine pm_icmp_ne (tgt := 48) hG dX12_seat_39 rfl (fun c10 => ?_) (fun c10 => ?_)
        · replace hE := fx_f c10 hE
          refine pm_iloadn hG dX12_seat_48 rfl ?_
          refine pm_if_eq (tgt := 67) hG dX12_seat_49 rfl (fun q => absurd q (Ne.symm c10)) (fun _ => ?_)
          refine pm_aloadn hG dX12_seat_52 rfl ?_
          obtain ⟨x12, h11, hE⟩ := fb_some hE
          refine pm_callV (As := []) (rest := []) hG hR dX12_seat_53 (lkX12_243 _ rfl) okV_X12_seatedMany rfl rfl (c_X12_seatedMany (d := 2) (by decide) h11) rfl rfl hdd (Nat.le_refl _) (Nat.le_refl _) (by decide) (fx_ki ?_)
          refine pm_bipush (v := 9) hG dX12_seat_56 (by decide) ?_
          refine pm_icmp_ne (tgt := 67) hG dX12_seat_58 rfl (fun c13 => ?_) (fun c13 => ?_)
          · replace hE := fx_f c13 hE
            refine pm_iloadn hG dX12_seat_67 rfl ?_
            refine pm_if_eq (tgt := 82) hG dX12_seat_68 rfl (fun q => absurd q (Ne.symm c10)) (fun _ => ?_)
            refine pm_aloadn hG dX12_seat_71 rfl ?_
            refine pm_iloadn hG dX12_seat_72 rfl ?_
            refine pm_bipush (v := 11) hG dX12_seat_73 (by decide) ?_
            refine pm_iconst (v := 1) hG dX12_seat_75 (by decide) ?_
            obtain ⟨r15, h14, hE⟩ := fb_some hE
            refine pm_callV (As := [.int za, .int 11, .int 1]) (rest := []) hG hR dX12_seat_76 (lkX12_97 _ rfl) okV_X12_sets rfl rfl (c_X12_sets (d := 2) (by decide) h14) rfl rfl hdd (Nat.le_refl _) (Nat.le_refl _) (by decide) (fx_kv ?_)
            refine pm_goto (tgt := 87) hG dX12_seat_79 rfl ?_
            refine pm_aloadn hG dX12_seat_87 rfl ?_
            obtain ⟨x17, h16, hE⟩ := fb_some hE
            refine pm_callV (As := []) (rest := []) hG hR dX12_seat_88 (lkX12_243 _ rfl) okV_X12_seatedMany rfl rfl (c_X12_seatedMany (d := 2) (by decide) h16) rfl rfl hdd (Nat.le_refl _) (Nat.le_refl _) (by decide) (fx_ki ?_)
            exact pm_iret hG hF dX12_seat_91 rfl (Nat.le_refl _) (Nat.le_refl _) (fx_rim hE)
          · replace hE := fx_t c13 hE
            refine pm_aloadn hG dX12_seat_61 rfl ?_
            refine pm_iconst (v := 4) hG dX12_seat_62 (by decide) ?_
            obtain ⟨r19, h18, hE⟩ := fb_some hE
            refine pm_callV (As := [.int 4]) (rest := []) hG hR dX12_seat_63 (lkX12_80 _ rfl) okV_X12_finds rfl rfl (c_X12_finds (d := 2) (by decide) h18) rfl rfl hdd (Nat.le_refl _) (Nat.le_refl _) (by decide) (fx_ki ?_)
            exact pm_iret hG hF dX12_seat_66 rfl (Nat.le_refl _) (Nat.le_refl _) (fx_rim hE)
        · replace hE := fx_t c10 hE
          refine pm_aloadn hG dX12_seat_42 rfl ?_
          refine pm_iconst (v := 3) hG dX12_seat_43 (by decide) ?_
          obtain ⟨r21, h20, hE⟩ := fb_some hE
          refine pm_callV (As := [.int 3]) (rest := []) hG hR dX12_seat_44 (lkX12_80 _ rfl) okV_X12_finds rfl rfl (c_X12_finds (d := 2) (by decide) h20) rfl rfl hdd (Nat.le_refl _) (Nat.le_refl _) (by decide) (fx_ki ?_)
          exact pm_iret hG hF dX12_seat_47 rfl (Nat.le_refl _) (Nat.le_refl _) (fx_rim hE)
      · replace hE := fx_t c9 hE
        refine pm_iconst (v := 1) hG dX12_seat_33 (by decide) ?_
        refine pm_goto (tgt := 38) hG dX12_seat_34 rfl ?_
        refine pm_iloadn hG dX12_seat_38 rfl ?_
        refine pm_icmp_ne (tgt := 48) hG dX12_seat_39 rfl (fun c22 => ?_) (fun c22 => ?_)
        · replace hE := fx_f c22 hE
          refine pm_iloadn hG dX12_seat_48 rfl ?_
          refine pm_if_eq (tgt := 67) hG dX12_seat_49 rfl (fun c23 => ?_) (fun c23 => ?_)
          · replace hE := fx_t c23 hE
            refine pm_iloadn hG dX12_seat_67 rfl ?_
            refine pm_if_eq (tgt := 82) hG dX12_seat_68 rfl (fun _ => ?_) (fun q => absurd c23 q)
            refine pm_aloadn hG dX12_seat_82 rfl ?_
            refine pm_iloadn hG dX12_seat_83 rfl ?_
            obtain ⟨r25, h24, hE⟩ := fb_some hE
            refine pm_callV (As := [.int za]) (rest := []) hG hR dX12_seat_84 (lkX12_107 _ rfl) okV_X12_leaves rfl rfl (c_X12_leaves (d := 2) (by decide) h24) rfl rfl hdd (Nat.le_refl _) (Nat.le_refl _) (by decide) (fx_kv ?_)
            refine pm_aloadn hG dX12_seat_87 rfl ?_
            obtain ⟨x27, h26, hE⟩ := fb_some hE
            refine pm_callV (As := []) (rest := []) hG hR dX12_seat_88 (lkX12_243 _ rfl) okV_X12_seatedMany rfl rfl (c_X12_seatedMany (d := 2) (by decide) h26) rfl rfl hdd (Nat.le_refl _) (Nat.le_refl _) (by decide) (fx_ki ?_)
            exact pm_iret hG hF dX12_seat_91 rfl (Nat.le_refl _) (Nat.le_refl _) (fx_rim hE)
          · replace hE := fx_f c23 hE
            refine pm_aloadn hG dX12_seat_52 rfl ?_
            obtain ⟨x29, h28, hE⟩ := fb_some hE
            refine pm_callV (As := []) (rest := []) hG hR dX12_seat_53 (lkX12_243 _ rfl) okV_X12_seatedMany rfl rfl (c_X12_seatedMany (d := 2) (by decide) h28) rfl rfl hdd (Nat.le_refl _) (Nat.le_refl _) (by decide) (fx_ki ?_)
            refine pm_bipush (v := 9) hG dX12_seat_56 (by decide) ?_
            refine pm_icmp_ne (tgt := 67) hG dX12_seat_58 rfl (fun c30 => ?_) (fun c30 => ?_)
            · replace hE := fx_f c30 hE
              refine pm_iloadn hG dX12_seat_67 rfl ?_
              refine pm_if_eq (tgt := 82) hG dX12_seat_68 rfl (fun q => absurd q c23) (fun _ => ?_)
              refine pm_aloadn hG dX12_seat_71 rfl ?_
              refine pm_iloadn hG dX12_seat_72 rfl ?_
              refine pm_bipush (v := 11) hG dX12_seat_73 (by decide) ?_
              refine pm_iconst (v := 1) hG dX12_seat_75 (by decide) ?_
              obtain ⟨r32, h31, hE⟩ := fb_some hE
              refine pm_callV (As := [.int za, .int 11, .int 1]) (rest := []) hG hR dX12_seat_76 (lkX12_97 _ rfl) okV_X12_sets rfl rfl (c_X12_sets (d := 2) (by decide) h31) rfl rfl hdd (Nat.le_refl _) (Nat.le_refl _) (by decide) (fx_kv ?_)
              refine pm_goto (tgt := 87) hG dX12_seat_79 rfl ?_
              refine pm_aloadn hG dX12_seat_87 rfl ?_
              obtain ⟨x34, h33, hE⟩ := fb_some hE
              refine pm_callV (As := []) (rest := []) hG hR dX12_seat_88 (lkX12_243 _ rfl) okV_X12_seatedMany rfl rfl (c_X12_seatedMany (d := 2) (by decide) h33) rfl rfl hdd (Nat.le_refl _) (Nat.le_refl _) (by decide) (fx_ki ?_)
              exact pm_iret hG hF dX12_seat_91 rfl (Nat.le_refl _) (Nat.le_refl _) (fx_rim hE)
            · replace hE := fx_t c30 hE
              refine pm_aloadn hG dX12_seat_61 rfl ?_
              refine pm_iconst (v := 4) hG dX12_seat_62 (by decide) ?_
              obtain ⟨r36, h35, hE⟩ := fb_some hE
              refine pm_callV (As := [.int 4]) (rest := []) hG hR dX12_seat_63 (lkX12_80 _ rfl) okV_X12_finds rfl rfl (c_X12_finds (d := 2) (by decide) h35) rfl rfl hdd (Nat.le_refl _) (Nat.le_refl _) (by decide) (fx_ki ?_)
              exact pm_iret hG hF dX12_seat_66 rfl (Nat.le_refl _) (Nat.le_refl _) (fx_rim hE)
        · replace hE := fx_t c22 hE
          refine pm_aloadn hG dX12_seat_42 rfl ?_
          refine pm_iconst (v := 3) hG dX12_seat_43 (by decide) ?_
          obtain ⟨r38, h37, hE⟩ := fb_some hE
          refine pm_callV (As := [.int 3]) (rest := []) hG hR dX12_seat_44 (lkX12_80 _ rfl) okV_X12_finds rfl rfl (c_X12_finds (d := 2) (by decide) h37) rfl rfl hdd (Nat.le_refl _) (Nat.le_refl _) (by decide) (fx_ki ?_)
          exact pm_iret hG hF dX12_seat_47 rfl (Nat.le_refl _) (Nat.le_refl _) (fx_rim hE)
  · replace hE := fx_t c1 hE
    refine pm_aloadn hG dX12_seat_8 rfl ?_
    refine pm_iconst (v := 1) hG dX12_seat_9 (by decide) ?_
    obtain ⟨r40, h39, hE⟩ := fb_some hE
    refine pm_callV (As := [.int 1]) (rest := []) hG hR dX12_seat_10 (lkX12_80 _ rfl) okV_X12_finds rfl rfl (c_X12_finds (d := 2) (by decide) h39) rfl rfl hdd (Nat.le_refl _) (Nat.le_refl _) (by decide) (fx_ki ?_)
    exact pm_iret hG hF dX12_seat_13 rfl (Nat.le_refl _) (Nat.le_refl _) (fx_rim hE)

set_option maxRecDepth 100000 in
set_option maxHeartbeats 4000000 in
theorem c_X12_send {d : Nat} {B cnt : Nat} {σ : pm_S} {S : FS} {za : Int32} {zb : Int32} {R : Int32 × FS} (hdd : 3 ≤ d) (hE : f_X12_send S za zb = some R) : pm_met mX12_send d 0 0 B [.ref (B + 54), .int za, .int zb] cnt (mst B S σ) (pm_Qi (fun v σ' cnt' => v = R.1 ∧ σ' = (mst B R.2 σ) ∧ cnt' = cnt)) := by
  refine pm_enter 1 (by decide) (Nat.le_of_ble_eq_true rfl) rfl (fun G hG hR hF => ?_)
  unfold f_X12_send at hE
  refine pm_aloadn hG dX12_send_0 rfl ?_
  refine pm_iloadn hG dX12_send_1 rfl ?_
  refine pm_callV (As := [.int za]) (rest := []) hG hR dX12_send_2 (lkX12_211 _ rfl) okV_X12_isLetter rfl rfl (c_X12_isLetter (d := 2) (by decide) rfl) rfl rfl hdd (Nat.le_refl _) (Nat.le_refl _) (by decide) (fx_ki ?_)
  refine pm_if_eq (tgt := 16) hG dX12_send_5 rfl (fun c1 => ?_) (fun c1 => ?_)
  · replace hE := fx_t c1 hE
    refine pm_aloadn hG dX12_send_16 rfl ?_
    refine pm_iconst (v := 1) hG dX12_send_17 (by decide) ?_
    obtain ⟨r3, h2, hE⟩ := fb_some hE
    refine pm_callV (As := [.int 1]) (rest := []) hG hR dX12_send_18 (lkX12_80 _ rfl) okV_X12_finds rfl rfl (c_X12_finds (d := 2) (by decide) h2) rfl rfl hdd (Nat.le_refl _) (Nat.le_refl _) (by decide) (fx_ki ?_)
    exact pm_iret hG hF dX12_send_21 rfl (Nat.le_refl _) (Nat.le_refl _) (fx_rim hE)
  · replace hE := fx_f c1 hE
    refine pm_aloadn hG dX12_send_8 rfl ?_
    refine pm_iloadn hG dX12_send_9 rfl ?_
    refine pm_callV (As := [.int zb]) (rest := []) hG hR dX12_send_10 (lkX12_91 _ rfl) okV_X12_isPerson rfl rfl (c_X12_isPerson (d := 2) (by decide) rfl) rfl rfl hdd (Nat.le_refl _) (Nat.le_refl _) (by decide) (fx_ki ?_)
    refine pm_if_ne (tgt := 22) hG dX12_send_13 rfl (fun c4 => ?_) (fun c4 => ?_)
    · replace hE := fx_f c4 hE
      refine pm_aloadn hG dX12_send_22 rfl ?_
      refine pm_iloadn hG dX12_send_23 rfl ?_
      refine pm_iconst (v := 4) hG dX12_send_24 (by decide) ?_
      obtain ⟨x6, h5, hE⟩ := fb_some hE
      refine pm_callV (As := [.int za, .int 4]) (rest := []) hG hR dX12_send_25 (lkX12_199 _ rfl) okV_X12_of rfl rfl (c_X12_of (d := 2) (by decide) h5) rfl rfl hdd (Nat.le_refl _) (Nat.le_refl _) (by decide) (fx_ki ?_)
      refine pm_if_ge (tgt := 48) hG dX12_send_28 rfl (fun c7 => ?_) (fun c7 => ?_)
      · replace c7 := Int32.not_lt.mpr c7
        replace hE := fx_f c7 hE
        refine pm_aloadn hG dX12_send_48 rfl ?_
        refine pm_iconst (v := 3) hG dX12_send_49 (by decide) ?_
        obtain ⟨r9, h8, hE⟩ := fb_some hE
        refine pm_callV (As := [.int 3]) (rest := []) hG hR dX12_send_50 (lkX12_80 _ rfl) okV_X12_finds rfl rfl (c_X12_finds (d := 2) (by decide) h8) rfl rfl hdd (Nat.le_refl _) (Nat.le_refl _) (by decide) (fx_ki ?_)
        exact pm_iret hG hF dX12_send_53 rfl (Nat.le_refl _) (Nat.le_refl _) (fx_rim hE)
      · replace c7 := Int32.not_le.mp c7
        replace hE := fx_t c7 hE
        refine pm_aloadn hG dX12_send_31 rfl ?_
        refine pm_iloadn hG dX12_send_32 rfl ?_
        obtain ⟨x11, h10, hE⟩ := fb_some hE
        refine pm_callV (As := [.int zb]) (rest := []) hG hR dX12_send_33 (lkX12_101 _ rfl) okV_X12_lives rfl rfl (c_X12_lives (d := 2) (by decide) h10) rfl rfl hdd (Nat.le_refl _) (Nat.le_refl _) (by decide) (fx_ki ?_)
        refine pm_if_eq (tgt := 48) hG dX12_send_36 rfl (fun c12 => ?_) (fun c12 => ?_)
        · replace hE := fx_t c12 hE
          refine pm_aloadn hG dX12_send_48 rfl ?_
          refine pm_iconst (v := 3) hG dX12_send_49 (by decide) ?_
          obtain ⟨r14, h13, hE⟩ := fb_some hE
          refine pm_callV (As := [.int 3]) (rest := []) hG hR dX12_send_50 (lkX12_80 _ rfl) okV_X12_finds rfl rfl (c_X12_finds (d := 2) (by decide) h13) rfl rfl hdd (Nat.le_refl _) (Nat.le_refl _) (by decide) (fx_ki ?_)
          exact pm_iret hG hF dX12_send_53 rfl (Nat.le_refl _) (Nat.le_refl _) (fx_rim hE)
        · replace hE := fx_f c12 hE
          refine pm_aloadn hG dX12_send_39 rfl ?_
          refine pm_iloadn hG dX12_send_40 rfl ?_
          refine pm_iconst (v := 4) hG dX12_send_41 (by decide) ?_
          obtain ⟨x16, h15, hE⟩ := fb_some hE
          refine pm_callV (As := [.int zb, .int 4]) (rest := []) hG hR dX12_send_42 (lkX12_72 _ rfl) okV_X12_man rfl rfl (c_X12_man (d := 2) (by decide) h15) rfl rfl hdd (Nat.le_refl _) (Nat.le_refl _) (by decide) (fx_ki ?_)
          refine pm_if_ge (tgt := 54) hG dX12_send_45 rfl (fun c17 => ?_) (fun c17 => ?_)
          · replace c17 := Int32.not_lt.mpr c17
            replace hE := fx_f c17 hE
            refine pm_aloadn hG dX12_send_54 rfl ?_
            refine pm_aloadn hG dX12_send_55 rfl ?_
            refine pm_iloadn hG dX12_send_56 rfl ?_
            refine pm_bipush (v := 10) hG dX12_send_57 (by decide) ?_
            obtain ⟨x19, h18, hE⟩ := fb_some hE
            refine pm_callV (As := [.int za, .int 10]) (rest := [.ref (B + 54)]) hG hR dX12_send_59 (lkX12_199 _ rfl) okV_X12_of rfl rfl (c_X12_of (d := 2) (by decide) h18) rfl rfl hdd (Nat.le_refl _) (Nat.le_refl _) (by first | decide | exact Nat.le_of_ble_eq_true rfl) (fx_ki ?_)
            refine pm_aloadn hG dX12_send_62 rfl ?_
            refine pm_iloadn hG dX12_send_63 rfl ?_
            refine pm_iconst (v := 4) hG dX12_send_64 (by decide) ?_
            obtain ⟨x21, h20, hE⟩ := fb_some hE
            refine pm_callV (As := [.int zb, .int 4]) (rest := [.int x19, .ref (B + 54)]) hG hR dX12_send_65 (lkX12_72 _ rfl) okV_X12_man rfl rfl (c_X12_man (d := 2) (by decide) h20) rfl rfl hdd (Nat.le_refl _) (Nat.le_refl _) (by first | decide | exact Nat.le_of_ble_eq_true rfl) (fx_ki ?_)
            obtain ⟨r23, h22, hE⟩ := fb_some hE
            refine pm_callV (As := [.int x19, .int x21]) (rest := []) hG hR dX12_send_68 (lkX12_88 _ rfl) okV_X12_farOf rfl rfl (c_X12_farOf (d := 2) (by decide) h22) rfl rfl hdd (Nat.le_refl _) (Nat.le_refl _) (by decide) (fx_ki ?_)
            refine pm_istoreXn (loc' := [some (.ref (B + 54)), some (.int za), some (.int zb), some (.int r23.1)]) hG dX12_send_71 (by decide) (pm_c1b rfl) rfl ?_
            refine pm_iloadn hG dX12_send_72 rfl ?_
            refine pm_if_ge (tgt := 82) hG dX12_send_73 rfl (fun c24 => ?_) (fun c24 => ?_)
            · replace c24 := Int32.not_lt.mpr c24
              replace hE := fx_f c24 hE
              refine pm_aloadn hG dX12_send_82 rfl ?_
              refine pm_iloadn hG dX12_send_83 rfl ?_
              refine pm_iconst (v := 4) hG dX12_send_84 (by decide) ?_
              refine pm_iloadn hG dX12_send_85 rfl ?_
              obtain ⟨r26, h25, hE⟩ := fb_some hE
              refine pm_callV (As := [.int za, .int 4, .int zb]) (rest := []) hG hR dX12_send_86 (lkX12_217 _ rfl) okV_X12_writes rfl rfl (c_X12_writes (d := 2) (by decide) h25) rfl rfl hdd (Nat.le_refl _) (Nat.le_refl _) (by decide) (fx_kv ?_)
              refine pm_aloadn hG dX12_send_89 rfl ?_
              refine pm_iloadn hG dX12_send_90 rfl ?_
              refine pm_iconst (v := 5) hG dX12_send_91 (by decide) ?_
              refine pm_aloadn hG dX12_send_92 rfl ?_
              refine pm_getf hG dX12_send_93 (flX12_7 _ rfl) rfl rfl ?_
              refine pm_bipush (v := 8) hG dX12_send_96 (by decide) ?_
              refine fx_iald hG dX12_send_98 rfl (ix_lit (by decide) rfl) ?_
              refine pm_iloadn hG dX12_send_99 rfl ?_
              refine pm_iadd hG dX12_send_100 ?_
              obtain ⟨r28, h27, hE⟩ := fb_some hE
              refine pm_callV (As := [.int za, .int 5, .int ((r26.2.2 55 8) + r23.1)]) (rest := []) hG hR dX12_send_101 (lkX12_217 _ rfl) okV_X12_writes rfl rfl (c_X12_writes (d := 2) (by decide) h27) rfl rfl hdd (Nat.le_refl _) (Nat.le_refl _) (by decide) (fx_kv ?_)
              refine pm_aloadn hG dX12_send_104 rfl ?_
              refine pm_iloadn hG dX12_send_105 rfl ?_
              refine pm_bipush (v := 10) hG dX12_send_106 (by decide) ?_
              refine pm_aloadn hG dX12_send_108 rfl ?_
              refine pm_iloadn hG dX12_send_109 rfl ?_
              refine pm_iconst (v := 4) hG dX12_send_110 (by decide) ?_
              obtain ⟨x30, h29, hE⟩ := fb_some hE
              refine pm_callV (As := [.int zb, .int 4]) (rest := [.int 10, .int za, .ref (B + 54)]) hG hR dX12_send_111 (lkX12_72 _ rfl) okV_X12_man rfl rfl (c_X12_man (d := 2) (by decide) h29) rfl rfl hdd (Nat.le_refl _) (Nat.le_refl _) (by first | decide | exact Nat.le_of_ble_eq_true rfl) (fx_ki ?_)
              obtain ⟨r32, h31, hE⟩ := fb_some hE
              refine pm_callV (As := [.int za, .int 10, .int x30]) (rest := []) hG hR dX12_send_114 (lkX12_217 _ rfl) okV_X12_writes rfl rfl (c_X12_writes (d := 2) (by decide) h31) rfl rfl hdd (Nat.le_refl _) (Nat.le_refl _) (by decide) (fx_kv ?_)
              refine pm_aloadn hG dX12_send_117 rfl ?_
              refine pm_getf hG dX12_send_118 (flX12_7 _ rfl) rfl rfl ?_
              refine pm_bipush (v := 8) hG dX12_send_121 (by decide) ?_
              refine fx_iald hG dX12_send_123 rfl (ix_lit (by decide) rfl) ?_
              refine pm_iloadn hG dX12_send_124 rfl ?_
              refine pm_iadd hG dX12_send_125 ?_
              exact pm_iret hG hF dX12_send_126 rfl (Nat.le_refl _) (Nat.le_refl _) (fx_rim hE)
            · replace c24 := Int32.not_le.mp c24
              replace hE := fx_t c24 hE
              refine pm_aloadn hG dX12_send_76 rfl ?_
              refine pm_iconst (v := 2) hG dX12_send_77 (by decide) ?_
              obtain ⟨r34, h33, hE⟩ := fb_some hE
              refine pm_callV (As := [.int 2]) (rest := []) hG hR dX12_send_78 (lkX12_80 _ rfl) okV_X12_finds rfl rfl (c_X12_finds (d := 2) (by decide) h33) rfl rfl hdd (Nat.le_refl _) (Nat.le_refl _) (by decide) (fx_ki ?_)
              exact pm_iret hG hF dX12_send_81 rfl (Nat.le_refl _) (Nat.le_refl _) (fx_rim hE)
          · replace c17 := Int32.not_le.mp c17
            replace hE := fx_t c17 hE
            refine pm_aloadn hG dX12_send_48 rfl ?_
            refine pm_iconst (v := 3) hG dX12_send_49 (by decide) ?_
            obtain ⟨r36, h35, hE⟩ := fb_some hE
            refine pm_callV (As := [.int 3]) (rest := []) hG hR dX12_send_50 (lkX12_80 _ rfl) okV_X12_finds rfl rfl (c_X12_finds (d := 2) (by decide) h35) rfl rfl hdd (Nat.le_refl _) (Nat.le_refl _) (by decide) (fx_ki ?_)
            exact pm_iret hG hF dX12_send_53 rfl (Nat.le_refl _) (Nat.le_refl _) (fx_rim hE)
    · replace hE := fx_t c4 hE
      refine pm_aloadn hG dX12_send_16 rfl ?_
      refine pm_iconst (v := 1) hG dX12_send_17 (by decide) ?_
      obtain ⟨r38, h37, hE⟩ := fb_some hE
      refine pm_callV (As := [.int 1]) (rest := []) hG hR dX12_send_18 (lkX12_80 _ rfl) okV_X12_finds rfl rfl (c_X12_finds (d := 2) (by decide) h37) rfl rfl hdd (Nat.le_refl _) (Nat.le_refl _) (by decide) (fx_ki ?_)
      exact pm_iret hG hF dX12_send_21 rfl (Nat.le_refl _) (Nat.le_refl _) (fx_rim hE)

set_option maxRecDepth 100000 in
set_option maxHeartbeats 4000000 in
theorem c_X12_sheet {d : Nat} {B cnt : Nat} {σ : pm_S} {S : FS} {za : Int32} {zb : Int32} {zc : Int32} {R : Int32 × FS} (hdd : 3 ≤ d) (hE : f_X12_sheet S za zb zc = some R) : pm_met mX12_sheet d 0 0 B [.ref (B + 54), .int za, .int zb, .int zc] cnt (mst B S σ) (pm_Qi (fun v σ' cnt' => v = R.1 ∧ σ' = (mst B R.2 σ) ∧ cnt' = cnt)) := by
  refine pm_enter 1 (by decide) (Nat.le_of_ble_eq_true rfl) rfl (fun G hG hR hF => ?_)
  unfold f_X12_sheet at hE
  have join65 : ∀ (S1 : FS), j_X12_sheet_65 za zb zc S1 = some R → pm_wp mX12_sheet G B 65 [some (.ref (B + 54)), some (.int za), some (.int zb), some (.int zc), none] [] 0 0 cnt (mst B S1 σ) := by
    intro S1 hE
    unfold j_X12_sheet_65 at hE
    have join87 : ∀ (S2 : FS), j_X12_sheet_87 za S2 = some R → pm_wp mX12_sheet G B 87 [some (.ref (B + 54)), some (.int za), some (.int zb), some (.int zc), none] [] 0 0 cnt (mst B S2 σ) := by
      intro S2 hE
      unfold j_X12_sheet_87 at hE
      refine pm_iconst (v := 0) hG dX12_sheet_87 (by decide) ?_
      refine pm_istoreXi (loc' := [some (.ref (B + 54)), some (.int za), some (.int zb), some (.int zc), some (.int 0)]) hG dX12_sheet_88 (by decide) (pm_c1b rfl) rfl ?_
      have loop90 : ∀ (k90 : FS → Int32 → Option (Int32 × FS)), (∀ (S3 : FS) (x3_4 : Int32), k90 S3  x3_4 = some R → pm_wp mX12_sheet G B 116 [some (.ref (B + 54)), some (.int za), some (.int zb), some (.int zc), some (.int x3_4)] [] 0 0 cnt (mst B S3 σ)) → ∀ (m90 : Nat) (S3 : FS) (x3_4 : Int32), l_X12_sheet_90 za k90 m90 S3  x3_4 = some R → pm_wp mX12_sheet G B 90 [some (.ref (B + 54)), some (.int za), some (.int zb), some (.int zc), some (.int x3_4)] [] 0 0 cnt (mst B S3 σ) := by
        intro k90 hk90 m90
        induction m90 with
        | zero => intro S3  x3_4 hE; exact fx_no hE
        | succ m90 ih90 =>
          intro S3  x3_4 hE
          rw [l_X12_sheet_90] at hE
          refine pm_iloadi hG dX12_sheet_90 rfl ?_
          refine pm_bipush (v := 24) hG dX12_sheet_92 (by decide) ?_
          refine pm_icmp_ge (tgt := 116) hG dX12_sheet_94 rfl (fun c4 => ?_) (fun c4 => ?_)
          · replace c4 := Int32.not_lt.mpr c4
            replace hE := fx_f c4 hE
            exact hk90 _ _ hE
          · replace c4 := Int32.not_le.mp c4
            replace hE := fx_t c4 hE
            refine pm_aloadn hG dX12_sheet_97 rfl ?_
            refine pm_getf hG dX12_sheet_98 (flX12_61 _ rfl) rfl rfl ?_
            refine pm_bipush (v := 24) hG dX12_sheet_101 (by decide) ?_
            refine pm_iloadn hG dX12_sheet_103 rfl ?_
            refine pm_imul hG dX12_sheet_104 ?_
            refine pm_iloadi hG dX12_sheet_105 rfl ?_
            refine pm_iadd hG dX12_sheet_107 ?_
            refine pm_iconst (v := 0) hG dX12_sheet_108 (by decide) ?_
            obtain ⟨j5, hj5, hE⟩ := fb_some hE
            refine fx_iast hG dX12_sheet_109 rfl hj5 ?_
            refine ma_72 ?_
            refine fx_letm hE (fun S6 hE => ?_)
            refine pm_iincX (v := x3_4 + 1) (loc' := [some (.ref (B + 54)), some (.int za), some (.int zb), some (.int zc), some (.int (x3_4 + 1))]) hG dX12_sheet_110 rfl (by rfl) (by decide) (pm_c1b rfl) rfl ?_
            refine pm_goto (tgt := 90) hG dX12_sheet_113 rfl ?_
            exact ih90 _ _ hE
      refine loop90 _ (fun S7 x7_4 hE => ?_) _ _ _ hE
      refine pm_iconst (v := 1) hG dX12_sheet_116 (by decide) ?_
      exact pm_iret hG hF dX12_sheet_117 rfl (Nat.le_refl _) (Nat.le_refl _) (fx_rim hE)
    refine pm_aloadn hG dX12_sheet_65 rfl ?_
    refine pm_getf hG dX12_sheet_66 (flX12_55 _ rfl) rfl rfl ?_
    refine pm_iloadn hG dX12_sheet_69 rfl ?_
    refine pm_iloadn hG dX12_sheet_70 rfl ?_
    obtain ⟨j8, hj8, hE⟩ := fb_some hE
    refine fx_iast hG dX12_sheet_71 rfl hj8 ?_
    refine ma_70 ?_
    refine fx_letm hE (fun S9 hE => ?_)
    refine pm_aloadn hG dX12_sheet_72 rfl ?_
    refine pm_getf hG dX12_sheet_73 (flX12_58 _ rfl) rfl rfl ?_
    refine pm_iloadn hG dX12_sheet_76 rfl ?_
    refine pm_iloadn hG dX12_sheet_77 rfl ?_
    refine pm_if_ne (tgt := 85) hG dX12_sheet_78 rfl (fun c10 => ?_) (fun c10 => ?_)
    · replace hE := fx_f c10 hE
      refine pm_iloadn hG dX12_sheet_85 rfl ?_
      refine fx_iast hG dX12_sheet_86 rfl hj8 ?_
      refine ma_71 ?_
      refine fx_letm hE (fun S11 hE => ?_)
      exact join87 _ hE
    · replace hE := fx_t c10 hE
      refine pm_iconst (v := 0) hG dX12_sheet_81 (by decide) ?_
      refine pm_goto (tgt := 86) hG dX12_sheet_82 rfl ?_
      refine fx_iast hG dX12_sheet_86 rfl hj8 ?_
      refine ma_71 ?_
      refine fx_letm hE (fun S12 hE => ?_)
      exact join87 _ hE
  refine pm_iloadn hG dX12_sheet_0 rfl ?_
  refine pm_callS (As := [.int za]) (rest := []) hG hR dX12_sheet_1 (lkX12_239 _ rfl) okS_X12_isSheet (c_X12_isSheet (d := 2) (by decide) rfl) rfl rfl hdd (Nat.le_refl _) (Nat.le_refl _) (by decide) (fx_ki ?_)
  refine pm_if_eq (tgt := 29) hG dX12_sheet_4 rfl (fun c13 => ?_) (fun c13 => ?_)
  · replace hE := fx_t c13 hE
    refine pm_aloadn hG dX12_sheet_29 rfl ?_
    refine pm_iconst (v := 1) hG dX12_sheet_30 (by decide) ?_
    obtain ⟨r15, h14, hE⟩ := fb_some hE
    refine pm_callV (As := [.int 1]) (rest := []) hG hR dX12_sheet_31 (lkX12_80 _ rfl) okV_X12_finds rfl rfl (c_X12_finds (d := 2) (by decide) h14) rfl rfl hdd (Nat.le_refl _) (Nat.le_refl _) (by decide) (fx_ki ?_)
    exact pm_iret hG hF dX12_sheet_34 rfl (Nat.le_refl _) (Nat.le_refl _) (fx_rim hE)
  · replace hE := fx_f c13 hE
    refine pm_iloadn hG dX12_sheet_7 rfl ?_
    refine pm_if_eq (tgt := 35) hG dX12_sheet_8 rfl (fun c16 => ?_) (fun c16 => ?_)
    · replace hE := fx_t c16 hE
      refine pm_iloadn hG dX12_sheet_35 rfl ?_
      refine pm_if_eq (tgt := 49) hG dX12_sheet_36 rfl (fun _ => ?_) (fun q => absurd c16 q)
      refine pm_iloadn hG dX12_sheet_49 rfl ?_
      refine pm_if_eq (tgt := 65) hG dX12_sheet_50 rfl (fun _ => ?_) (fun q => absurd c16 q)
      exact join65 _ hE
    · replace hE := fx_f c16 hE
      refine pm_iloadn hG dX12_sheet_11 rfl ?_
      refine pm_bipush (v := 8) hG dX12_sheet_12 (by decide) ?_
      refine pm_icmp_eq (tgt := 35) hG dX12_sheet_14 rfl (fun c17 => ?_) (fun c17 => ?_)
      · replace hE := fx_t c17 hE
        refine pm_iloadn hG dX12_sheet_35 rfl ?_
        refine pm_if_eq (tgt := 49) hG dX12_sheet_36 rfl (fun q => absurd q c16) (fun _ => ?_)
        refine pm_iloadn hG dX12_sheet_39 rfl ?_
        refine pm_if_ge (tgt := 49) hG dX12_sheet_40 rfl (fun c18 => ?_) (fun c18 => ?_)
        · replace c18 := Int32.not_lt.mpr c18
          replace hE := fx_f c18 hE
          refine pm_iloadn hG dX12_sheet_49 rfl ?_
          refine pm_if_eq (tgt := 65) hG dX12_sheet_50 rfl (fun q => absurd q c16) (fun _ => ?_)
          refine pm_iloadn hG dX12_sheet_53 rfl ?_
          refine pm_bipush (v := 24) hG dX12_sheet_54 (by decide) ?_
          refine pm_icmp_le (tgt := 65) hG dX12_sheet_56 rfl (fun c19 => ?_) (fun c19 => ?_)
          · replace c19 := Int32.not_lt.mpr c19
            replace hE := fx_f c19 hE
            exact join65 _ hE
          · replace c19 := Int32.not_le.mp c19
            replace hE := fx_t c19 hE
            refine pm_aloadn hG dX12_sheet_59 rfl ?_
            refine pm_iconst (v := 1) hG dX12_sheet_60 (by decide) ?_
            obtain ⟨r21, h20, hE⟩ := fb_some hE
            refine pm_callV (As := [.int 1]) (rest := []) hG hR dX12_sheet_61 (lkX12_80 _ rfl) okV_X12_finds rfl rfl (c_X12_finds (d := 2) (by decide) h20) rfl rfl hdd (Nat.le_refl _) (Nat.le_refl _) (by decide) (fx_ki ?_)
            exact pm_iret hG hF dX12_sheet_64 rfl (Nat.le_refl _) (Nat.le_refl _) (fx_rim hE)
        · replace c18 := Int32.not_le.mp c18
          replace hE := fx_t c18 hE
          refine pm_aloadn hG dX12_sheet_43 rfl ?_
          refine pm_iconst (v := 3) hG dX12_sheet_44 (by decide) ?_
          obtain ⟨r23, h22, hE⟩ := fb_some hE
          refine pm_callV (As := [.int 3]) (rest := []) hG hR dX12_sheet_45 (lkX12_80 _ rfl) okV_X12_finds rfl rfl (c_X12_finds (d := 2) (by decide) h22) rfl rfl hdd (Nat.le_refl _) (Nat.le_refl _) (by decide) (fx_ki ?_)
          exact pm_iret hG hF dX12_sheet_48 rfl (Nat.le_refl _) (Nat.le_refl _) (fx_rim hE)
      · replace hE := fx_f c17 hE
        refine pm_iloadn hG dX12_sheet_17 rfl ?_
        refine pm_bipush (v := 16) hG dX12_sheet_18 (by decide) ?_
        refine pm_icmp_eq (tgt := 35) hG dX12_sheet_20 rfl (fun c24 => ?_) (fun c24 => ?_)
        · replace hE := fx_t c24 hE
          refine pm_iloadn hG dX12_sheet_35 rfl ?_
          refine pm_if_eq (tgt := 49) hG dX12_sheet_36 rfl (fun q => absurd q c16) (fun _ => ?_)
          refine pm_iloadn hG dX12_sheet_39 rfl ?_
          refine pm_if_ge (tgt := 49) hG dX12_sheet_40 rfl (fun c25 => ?_) (fun c25 => ?_)
          · replace c25 := Int32.not_lt.mpr c25
            replace hE := fx_f c25 hE
            refine pm_iloadn hG dX12_sheet_49 rfl ?_
            refine pm_if_eq (tgt := 65) hG dX12_sheet_50 rfl (fun q => absurd q c16) (fun _ => ?_)
            refine pm_iloadn hG dX12_sheet_53 rfl ?_
            refine pm_bipush (v := 24) hG dX12_sheet_54 (by decide) ?_
            refine pm_icmp_le (tgt := 65) hG dX12_sheet_56 rfl (fun c26 => ?_) (fun c26 => ?_)
            · replace c26 := Int32.not_lt.mpr c26
              replace hE := fx_f c26 hE
              exact join65 _ hE
            · replace c26 := Int32.not_le.mp c26
              replace hE := fx_t c26 hE
              refine pm_aloadn hG dX12_sheet_59 rfl ?_
              refine pm_iconst (v := 1) hG dX12_sheet_60 (by decide) ?_
              obtain ⟨r28, h27, hE⟩ := fb_some hE
              refine pm_callV (As := [.int 1]) (rest := []) hG hR dX12_sheet_61 (lkX12_80 _ rfl) okV_X12_finds rfl rfl (c_X12_finds (d := 2) (by decide) h27) rfl rfl hdd (Nat.le_refl _) (Nat.le_refl _) (by decide) (fx_ki ?_)
              exact pm_iret hG hF dX12_sheet_64 rfl (Nat.le_refl _) (Nat.le_refl _) (fx_rim hE)
          · replace c25 := Int32.not_le.mp c25
            replace hE := fx_t c25 hE
            refine pm_aloadn hG dX12_sheet_43 rfl ?_
            refine pm_iconst (v := 3) hG dX12_sheet_44 (by decide) ?_
            obtain ⟨r30, h29, hE⟩ := fb_some hE
            refine pm_callV (As := [.int 3]) (rest := []) hG hR dX12_sheet_45 (lkX12_80 _ rfl) okV_X12_finds rfl rfl (c_X12_finds (d := 2) (by decide) h29) rfl rfl hdd (Nat.le_refl _) (Nat.le_refl _) (by decide) (fx_ki ?_)
            exact pm_iret hG hF dX12_sheet_48 rfl (Nat.le_refl _) (Nat.le_refl _) (fx_rim hE)
        · replace hE := fx_f c24 hE
          refine pm_iloadn hG dX12_sheet_23 rfl ?_
          refine pm_bipush (v := 32) hG dX12_sheet_24 (by decide) ?_
          refine pm_icmp_eq (tgt := 35) hG dX12_sheet_26 rfl (fun c31 => ?_) (fun c31 => ?_)
          · replace hE := fx_t c31 hE
            refine pm_iloadn hG dX12_sheet_35 rfl ?_
            refine pm_if_eq (tgt := 49) hG dX12_sheet_36 rfl (fun q => absurd q c16) (fun _ => ?_)
            refine pm_iloadn hG dX12_sheet_39 rfl ?_
            refine pm_if_ge (tgt := 49) hG dX12_sheet_40 rfl (fun c32 => ?_) (fun c32 => ?_)
            · replace c32 := Int32.not_lt.mpr c32
              replace hE := fx_f c32 hE
              refine pm_iloadn hG dX12_sheet_49 rfl ?_
              refine pm_if_eq (tgt := 65) hG dX12_sheet_50 rfl (fun q => absurd q c16) (fun _ => ?_)
              refine pm_iloadn hG dX12_sheet_53 rfl ?_
              refine pm_bipush (v := 24) hG dX12_sheet_54 (by decide) ?_
              refine pm_icmp_le (tgt := 65) hG dX12_sheet_56 rfl (fun c33 => ?_) (fun c33 => ?_)
              · replace c33 := Int32.not_lt.mpr c33
                replace hE := fx_f c33 hE
                exact join65 _ hE
              · replace c33 := Int32.not_le.mp c33
                replace hE := fx_t c33 hE
                refine pm_aloadn hG dX12_sheet_59 rfl ?_
                refine pm_iconst (v := 1) hG dX12_sheet_60 (by decide) ?_
                obtain ⟨r35, h34, hE⟩ := fb_some hE
                refine pm_callV (As := [.int 1]) (rest := []) hG hR dX12_sheet_61 (lkX12_80 _ rfl) okV_X12_finds rfl rfl (c_X12_finds (d := 2) (by decide) h34) rfl rfl hdd (Nat.le_refl _) (Nat.le_refl _) (by decide) (fx_ki ?_)
                exact pm_iret hG hF dX12_sheet_64 rfl (Nat.le_refl _) (Nat.le_refl _) (fx_rim hE)
            · replace c32 := Int32.not_le.mp c32
              replace hE := fx_t c32 hE
              refine pm_aloadn hG dX12_sheet_43 rfl ?_
              refine pm_iconst (v := 3) hG dX12_sheet_44 (by decide) ?_
              obtain ⟨r37, h36, hE⟩ := fb_some hE
              refine pm_callV (As := [.int 3]) (rest := []) hG hR dX12_sheet_45 (lkX12_80 _ rfl) okV_X12_finds rfl rfl (c_X12_finds (d := 2) (by decide) h36) rfl rfl hdd (Nat.le_refl _) (Nat.le_refl _) (by decide) (fx_ki ?_)
              exact pm_iret hG hF dX12_sheet_48 rfl (Nat.le_refl _) (Nat.le_refl _) (fx_rim hE)
          · replace hE := fx_f c31 hE
            refine pm_aloadn hG dX12_sheet_29 rfl ?_
            refine pm_iconst (v := 1) hG dX12_sheet_30 (by decide) ?_
            obtain ⟨r39, h38, hE⟩ := fb_some hE
            refine pm_callV (As := [.int 1]) (rest := []) hG hR dX12_sheet_31 (lkX12_80 _ rfl) okV_X12_finds rfl rfl (c_X12_finds (d := 2) (by decide) h38) rfl rfl hdd (Nat.le_refl _) (Nat.le_refl _) (by decide) (fx_ki ?_)
            exact pm_iret hG hF dX12_sheet_34 rfl (Nat.le_refl _) (Nat.le_refl _) (fx_rim hE)

set_option maxRecDepth 100000 in
set_option maxHeartbeats 4000000 in
theorem c_X12_strike {d : Nat} {B cnt : Nat} {σ : pm_S} {S : FS} {za : Int32} {R : Int32 × FS} (hdd : 3 ≤ d) (hE : f_X12_strike S za = some R) : pm_met mX12_strike d 0 0 B [.ref (B + 54), .int za] cnt (mst B S σ) (pm_Qi (fun v σ' cnt' => v = R.1 ∧ σ' = (mst B R.2 σ) ∧ cnt' = cnt)) := by
  refine pm_enter 0 (by decide) (Nat.le_of_ble_eq_true rfl) rfl (fun G hG hR hF => ?_)
  unfold f_X12_strike at hE
  refine pm_aloadn hG dX12_strike_0 rfl ?_
  refine pm_iloadn hG dX12_strike_1 rfl ?_
  refine pm_callV (As := [.int za]) (rest := []) hG hR dX12_strike_2 (lkX12_192 _ rfl) okV_X12_isLaw rfl rfl (c_X12_isLaw (d := 2) (by decide) rfl) rfl rfl hdd (Nat.le_refl _) (Nat.le_refl _) (by decide) (fx_ki ?_)
  refine pm_if_ne (tgt := 14) hG dX12_strike_5 rfl (fun c1 => ?_) (fun c1 => ?_)
  · replace hE := fx_f c1 hE
    refine pm_aloadn hG dX12_strike_14 rfl ?_
    refine pm_getf hG dX12_strike_15 (flX12_7 _ rfl) rfl rfl ?_
    refine pm_sipush (v := 510) hG dX12_strike_18 (by decide) ?_
    refine pm_bipush (v := 65) hG dX12_strike_21 (by decide) ?_
    refine pm_iloadn hG dX12_strike_23 rfl ?_
    refine pm_imul hG dX12_strike_24 ?_
    refine pm_iadd hG dX12_strike_25 ?_
    refine pm_iconst (v := 3) hG dX12_strike_26 (by decide) ?_
    refine pm_iadd hG dX12_strike_27 ?_
    obtain ⟨j2, hj2, hE⟩ := fb_some hE
    refine fx_iald hG dX12_strike_28 rfl hj2 ?_
    refine pm_if_lt (tgt := 38) hG dX12_strike_29 rfl (fun c3 => ?_) (fun c3 => ?_)
    · replace hE := fx_t c3 hE
      refine pm_aloadn hG dX12_strike_38 rfl ?_
      refine pm_getf hG dX12_strike_39 (flX12_7 _ rfl) rfl rfl ?_
      refine pm_sipush (v := 510) hG dX12_strike_42 (by decide) ?_
      refine pm_bipush (v := 65) hG dX12_strike_45 (by decide) ?_
      refine pm_iloadn hG dX12_strike_47 rfl ?_
      refine pm_imul hG dX12_strike_48 ?_
      refine pm_iadd hG dX12_strike_49 ?_
      refine pm_iconst (v := 3) hG dX12_strike_50 (by decide) ?_
      refine pm_iadd hG dX12_strike_51 ?_
      refine pm_aloadn hG dX12_strike_52 rfl ?_
      refine pm_getf hG dX12_strike_53 (flX12_7 _ rfl) rfl rfl ?_
      refine pm_bipush (v := 8) hG dX12_strike_56 (by decide) ?_
      refine fx_iald hG dX12_strike_58 rfl (ix_lit (by decide) rfl) ?_
      refine fx_iast hG dX12_strike_59 rfl hj2 ?_
      refine ma_55 ?_
      refine fx_letm hE (fun S4 hE => ?_)
      refine pm_iconst (v := 1) hG dX12_strike_60 (by decide) ?_
      exact pm_iret hG hF dX12_strike_61 rfl (Nat.le_refl _) (Nat.le_refl _) (fx_rim hE)
    · replace hE := fx_f c3 hE
      refine pm_aloadn hG dX12_strike_32 rfl ?_
      refine pm_iconst (v := 3) hG dX12_strike_33 (by decide) ?_
      obtain ⟨r6, h5, hE⟩ := fb_some hE
      refine pm_callV (As := [.int 3]) (rest := []) hG hR dX12_strike_34 (lkX12_80 _ rfl) okV_X12_finds rfl rfl (c_X12_finds (d := 2) (by decide) h5) rfl rfl hdd (Nat.le_refl _) (Nat.le_refl _) (by decide) (fx_ki ?_)
      exact pm_iret hG hF dX12_strike_37 rfl (Nat.le_refl _) (Nat.le_refl _) (fx_rim hE)
  · replace hE := fx_t c1 hE
    refine pm_aloadn hG dX12_strike_8 rfl ?_
    refine pm_iconst (v := 1) hG dX12_strike_9 (by decide) ?_
    obtain ⟨r8, h7, hE⟩ := fb_some hE
    refine pm_callV (As := [.int 1]) (rest := []) hG hR dX12_strike_10 (lkX12_80 _ rfl) okV_X12_finds rfl rfl (c_X12_finds (d := 2) (by decide) h7) rfl rfl hdd (Nat.le_refl _) (Nat.le_refl _) (by decide) (fx_ki ?_)
    exact pm_iret hG hF dX12_strike_13 rfl (Nat.le_refl _) (Nat.le_refl _) (fx_rim hE)

set_option maxRecDepth 100000 in
set_option maxHeartbeats 4000000 in
theorem c_X12_tell {d : Nat} {B cnt : Nat} {σ : pm_S} {S : FS} {za : Int32} {R : Int32 × FS} (hdd : 2 ≤ d) (hE : f_X12_tell S za = some R) : pm_met mX12_tell d 0 0 B [.ref (B + 54), .int za] cnt (mst B S σ) (pm_Qi (fun v σ' cnt' => v = R.1 ∧ σ' = (mst B R.2 σ) ∧ cnt' = cnt)) := by
  refine pm_enter 0 (by decide) (Nat.le_of_ble_eq_true rfl) rfl (fun G hG hR hF => ?_)
  unfold f_X12_tell at hE
  refine pm_aloadn hG dX12_tell_0 rfl ?_
  refine pm_getf hG dX12_tell_1 (flX12_7 _ rfl) rfl rfl ?_
  refine pm_bipush (v := 11) hG dX12_tell_4 (by decide) ?_
  refine fx_iald hG dX12_tell_6 rfl (ix_lit (by decide) rfl) ?_
  refine pm_bipush (v := 20) hG dX12_tell_7 (by decide) ?_
  refine pm_icmp_ne (tgt := 18) hG dX12_tell_9 rfl (fun c1 => ?_) (fun c1 => ?_)
  · replace hE := fx_f c1 hE
    refine pm_aloadn hG dX12_tell_18 rfl ?_
    refine pm_getf hG dX12_tell_19 (flX12_7 _ rfl) rfl rfl ?_
    refine pm_sipush (v := 2051) hG dX12_tell_22 (by decide) ?_
    refine pm_aloadn hG dX12_tell_25 rfl ?_
    refine pm_getf hG dX12_tell_26 (flX12_7 _ rfl) rfl rfl ?_
    refine pm_bipush (v := 11) hG dX12_tell_29 (by decide) ?_
    refine fx_iald hG dX12_tell_31 rfl (ix_lit (by decide) rfl) ?_
    refine pm_iadd hG dX12_tell_32 ?_
    refine pm_iloadn hG dX12_tell_33 rfl ?_
    obtain ⟨j2, hj2, hE⟩ := fb_some hE
    refine fx_iast hG dX12_tell_34 rfl hj2 ?_
    refine ma_55 ?_
    refine fx_letm hE (fun S3 hE => ?_)
    refine pm_aloadn hG dX12_tell_35 rfl ?_
    refine pm_getf hG dX12_tell_36 (flX12_7 _ rfl) rfl rfl ?_
    refine pm_bipush (v := 11) hG dX12_tell_39 (by decide) ?_
    refine pm_dup2 hG dX12_tell_41 rfl rfl ?_
    refine fx_iald hG dX12_tell_42 rfl (ix_lit (by decide) rfl) ?_
    refine pm_iconst (v := 1) hG dX12_tell_43 (by decide) ?_
    refine pm_iadd hG dX12_tell_44 ?_
    refine fx_iast hG dX12_tell_45 rfl (ix_lit (by decide) rfl) ?_
    refine ma_55 ?_
    refine fx_letm hE (fun S4 hE => ?_)
    refine pm_aloadn hG dX12_tell_46 rfl ?_
    refine pm_getf hG dX12_tell_47 (flX12_7 _ rfl) rfl rfl ?_
    refine pm_bipush (v := 11) hG dX12_tell_50 (by decide) ?_
    refine fx_iald hG dX12_tell_52 rfl (ix_lit (by decide) rfl) ?_
    exact pm_iret hG hF dX12_tell_53 rfl (Nat.le_refl _) (Nat.le_refl _) (fx_rim hE)
  · replace hE := fx_t c1 hE
    refine pm_aloadn hG dX12_tell_12 rfl ?_
    refine pm_iconst (v := 4) hG dX12_tell_13 (by decide) ?_
    obtain ⟨r6, h5, hE⟩ := fb_some hE
    refine pm_callV (As := [.int 4]) (rest := []) hG hR dX12_tell_14 (lkX12_80 _ rfl) okV_X12_finds rfl rfl (c_X12_finds (d := 1) (by decide) h5) rfl rfl hdd (Nat.le_refl _) (Nat.le_refl _) (by decide) (fx_ki ?_)
    exact pm_iret hG hF dX12_tell_17 rfl (Nat.le_refl _) (Nat.le_refl _) (fx_rim hE)

set_option maxRecDepth 100000 in
set_option maxHeartbeats 4000000 in
theorem c_X12_tellsPower {d : Nat} {B cnt : Nat} {σ : pm_S} {S : FS} {za : Int32} {zb : Int32} {R : Int32 × FS} (hdd : 7 ≤ d) (hE : f_X12_tellsPower S za zb = some R) : pm_met mX12_tellsPower d 0 0 B [.ref (B + 54), .int za, .int zb] cnt (mst B S σ) (pm_Qi (fun v σ' cnt' => v = R.1 ∧ σ' = (mst B R.2 σ) ∧ cnt' = cnt)) := by
  refine pm_enter 1 (by decide) (Nat.le_of_ble_eq_true rfl) rfl (fun G hG hR hF => ?_)
  unfold f_X12_tellsPower at hE
  refine pm_aloadn hG dX12_tellsPower_0 rfl ?_
  refine pm_bipush (v := 13) hG dX12_tellsPower_1 (by decide) ?_
  obtain ⟨r2, h1, hE⟩ := fb_some hE
  refine pm_callV (As := [.int 13]) (rest := []) hG hR dX12_tellsPower_3 (lkX12_286 _ rfl) okV_X12_ran rfl rfl (c_X12_ran (d := 6) (by decide) h1) rfl rfl hdd (Nat.le_refl _) (Nat.le_refl _) (by decide) (fx_kv ?_)
  refine pm_aloadn hG dX12_tellsPower_6 rfl ?_
  refine pm_iloadn hG dX12_tellsPower_7 rfl ?_
  refine pm_iloadn hG dX12_tellsPower_8 rfl ?_
  obtain ⟨r4, h3, hE⟩ := fb_some hE
  refine pm_callV (As := [.int za, .int zb]) (rest := []) hG hR dX12_tellsPower_9 (lkX12_304 _ rfl) okV_X12_bindsOf rfl rfl (c_X12_bindsOf (d := 6) (by decide) h3) rfl rfl hdd (Nat.le_refl _) (Nat.le_refl _) (by decide) (fx_ki ?_)
  refine pm_istoreXn (loc' := [some (.ref (B + 54)), some (.int za), some (.int zb), some (.int r4.1)]) hG dX12_tellsPower_12 (by decide) (pm_c1b rfl) rfl ?_
  refine pm_iloadn hG dX12_tellsPower_13 rfl ?_
  refine pm_aloadn hG dX12_tellsPower_14 rfl ?_
  refine pm_iloadn hG dX12_tellsPower_15 rfl ?_
  refine pm_iloadn hG dX12_tellsPower_16 rfl ?_
  obtain ⟨r6, h5, hE⟩ := fb_some hE
  refine pm_callV (As := [.int za, .int zb]) (rest := [.int r4.1]) hG hR dX12_tellsPower_17 (lkX12_307 _ rfl) okV_X12_ranksOf rfl rfl (c_X12_ranksOf (d := 6) (by decide) h5) rfl rfl hdd (Nat.le_refl _) (Nat.le_refl _) (by first | decide | exact Nat.le_of_ble_eq_true rfl) (fx_ki ?_)
  refine pm_ixor hG dX12_tellsPower_20 ?_
  exact pm_iret hG hF dX12_tellsPower_21 rfl (Nat.le_refl _) (Nat.le_refl _) (fx_rim hE)

set_option maxRecDepth 100000 in
set_option maxHeartbeats 4000000 in
theorem c_X12_tellsOffice {d : Nat} {B cnt : Nat} {σ : pm_S} {S : FS} {za : Int32} {zb : Int32} {R : Int32 × FS} (hdd : 8 ≤ d) (hE : f_X12_tellsOffice S za zb = some R) : pm_met mX12_tellsOffice d 0 0 B [.ref (B + 54), .int za, .int zb] cnt (mst B S σ) (pm_Qi (fun v σ' cnt' => v = R.1 ∧ σ' = (mst B R.2 σ) ∧ cnt' = cnt)) := by
  refine pm_enter 0 (by decide) (Nat.le_of_ble_eq_true rfl) rfl (fun G hG hR hF => ?_)
  unfold f_X12_tellsOffice at hE
  refine pm_aloadn hG dX12_tellsOffice_0 rfl ?_
  refine pm_bipush (v := 21) hG dX12_tellsOffice_1 (by decide) ?_
  obtain ⟨r2, h1, hE⟩ := fb_some hE
  refine pm_callV (As := [.int 21]) (rest := []) hG hR dX12_tellsOffice_3 (lkX12_286 _ rfl) okV_X12_ran rfl rfl (c_X12_ran (d := 7) (by decide) h1) rfl rfl hdd (Nat.le_refl _) (Nat.le_refl _) (by decide) (fx_kv ?_)
  refine pm_aloadn hG dX12_tellsOffice_6 rfl ?_
  refine pm_iloadn hG dX12_tellsOffice_7 rfl ?_
  refine pm_iloadn hG dX12_tellsOffice_8 rfl ?_
  refine pm_iconst (v := 1) hG dX12_tellsOffice_9 (by decide) ?_
  refine pm_iadd hG dX12_tellsOffice_10 ?_
  obtain ⟨r4, h3, hE⟩ := fb_some hE
  refine pm_callV (As := [.int za, .int (zb + 1)]) (rest := []) hG hR dX12_tellsOffice_11 (lkX12_310 _ rfl) okV_X12_tellsPower rfl rfl (c_X12_tellsPower (d := 7) (by decide) h3) rfl rfl hdd (Nat.le_refl _) (Nat.le_refl _) (by decide) (fx_ki ?_)
  exact pm_iret hG hF dX12_tellsOffice_14 rfl (Nat.le_refl _) (Nat.le_refl _) (fx_rim hE)

set_option maxRecDepth 100000 in
set_option maxHeartbeats 4000000 in
theorem c_X12_tellsOf {d : Nat} {B cnt : Nat} {σ : pm_S} {S : FS} {za : Int32} {zb : Int32} {R : Int32 × FS} (hdd : 9 ≤ d) (hE : f_X12_tellsOf S za zb = some R) : pm_met mX12_tellsOf d 0 0 B [.ref (B + 54), .int za, .int zb] cnt (mst B S σ) (pm_Qi (fun v σ' cnt' => v = R.1 ∧ σ' = (mst B R.2 σ) ∧ cnt' = cnt)) := by
  refine pm_enter 2 (by decide) (Nat.le_of_ble_eq_true rfl) rfl (fun G hG hR hF => ?_)
  unfold f_X12_tellsOf at hE
  refine pm_aloadn hG dX12_tellsOf_0 rfl ?_
  refine pm_iloadn hG dX12_tellsOf_1 rfl ?_
  refine pm_iconst (v := 0) hG dX12_tellsOf_2 (by decide) ?_
  obtain ⟨x2, h1, hE⟩ := fb_some hE
  refine pm_callV (As := [.int za, .int 0]) (rest := []) hG hR dX12_tellsOf_3 (lkX12_110 _ rfl) okV_X12_its rfl rfl (c_X12_its (d := 8) (by decide) h1) rfl rfl hdd (Nat.le_refl _) (Nat.le_refl _) (by decide) (fx_ki ?_)
  refine pm_istoreXn (loc' := [some (.ref (B + 54)), some (.int za), some (.int zb), some (.int x2), none]) hG dX12_tellsOf_6 (by decide) (pm_c1b rfl) rfl ?_
  refine pm_iloadn hG dX12_tellsOf_7 rfl ?_
  refine pm_iconst (v := 1) hG dX12_tellsOf_8 (by decide) ?_
  refine pm_icmp_eq (tgt := 17) hG dX12_tellsOf_9 rfl (fun c3 => ?_) (fun c3 => ?_)
  · replace hE := fx_t c3 hE
    refine pm_aloadn hG dX12_tellsOf_17 rfl ?_
    refine pm_iloadn hG dX12_tellsOf_18 rfl ?_
    refine pm_iloadn hG dX12_tellsOf_19 rfl ?_
    obtain ⟨r5, h4, hE⟩ := fb_some hE
    refine pm_callV (As := [.int za, .int zb]) (rest := []) hG hR dX12_tellsOf_20 (lkX12_313 _ rfl) okV_X12_tellsOffice rfl rfl (c_X12_tellsOffice (d := 8) (by decide) h4) rfl rfl hdd (Nat.le_refl _) (Nat.le_refl _) (by decide) (fx_ki ?_)
    exact pm_iret hG hF dX12_tellsOf_23 rfl (Nat.le_refl _) (Nat.le_refl _) (fx_rim hE)
  · replace hE := fx_f c3 hE
    refine pm_iloadn hG dX12_tellsOf_12 rfl ?_
    refine pm_iconst (v := 3) hG dX12_tellsOf_13 (by decide) ?_
    refine pm_icmp_ne (tgt := 24) hG dX12_tellsOf_14 rfl (fun c6 => ?_) (fun c6 => ?_)
    · replace hE := fx_f c6 hE
      refine pm_iloadn hG dX12_tellsOf_24 rfl ?_
      refine pm_iconst (v := 4) hG dX12_tellsOf_25 (by decide) ?_
      refine pm_icmp_eq (tgt := 36) hG dX12_tellsOf_26 rfl (fun c7 => ?_) (fun c7 => ?_)
      · replace hE := fx_t c7 hE
        refine pm_aloadn hG dX12_tellsOf_36 rfl ?_
        refine pm_bipush (v := 51) hG dX12_tellsOf_37 (by decide) ?_
        obtain ⟨r9, h8, hE⟩ := fb_some hE
        refine pm_callV (As := [.int 51]) (rest := []) hG hR dX12_tellsOf_39 (lkX12_286 _ rfl) okV_X12_ran rfl rfl (c_X12_ran (d := 8) (by decide) h8) rfl rfl hdd (Nat.le_refl _) (Nat.le_refl _) (by decide) (fx_kv ?_)
        refine pm_aloadn hG dX12_tellsOf_42 rfl ?_
        refine pm_iloadn hG dX12_tellsOf_43 rfl ?_
        refine pm_iloadn hG dX12_tellsOf_44 rfl ?_
        obtain ⟨r11, h10, hE⟩ := fb_some hE
        refine pm_callV (As := [.int za, .int zb]) (rest := []) hG hR dX12_tellsOf_45 (lkX12_307 _ rfl) okV_X12_ranksOf rfl rfl (c_X12_ranksOf (d := 8) (by decide) h10) rfl rfl hdd (Nat.le_refl _) (Nat.le_refl _) (by decide) (fx_ki ?_)
        refine pm_istoreXi (loc' := [some (.ref (B + 54)), some (.int za), some (.int zb), some (.int x2), some (.int r11.1)]) hG dX12_tellsOf_48 (by decide) (pm_c1b rfl) rfl ?_
        refine pm_iloadi hG dX12_tellsOf_50 rfl ?_
        refine pm_aloadn hG dX12_tellsOf_52 rfl ?_
        refine pm_iloadn hG dX12_tellsOf_53 rfl ?_
        refine pm_iloadn hG dX12_tellsOf_54 rfl ?_
        obtain ⟨r13, h12, hE⟩ := fb_some hE
        refine pm_callV (As := [.int za, .int zb]) (rest := [.int r11.1]) hG hR dX12_tellsOf_55 (lkX12_313 _ rfl) okV_X12_tellsOffice rfl rfl (c_X12_tellsOffice (d := 8) (by decide) h12) rfl rfl hdd (Nat.le_refl _) (Nat.le_refl _) (by first | decide | exact Nat.le_of_ble_eq_true rfl) (fx_ki ?_)
        refine pm_isub hG dX12_tellsOf_58 ?_
        exact pm_iret hG hF dX12_tellsOf_59 rfl (Nat.le_refl _) (Nat.le_refl _) (fx_rim hE)
      · replace hE := fx_f c7 hE
        refine pm_aloadn hG dX12_tellsOf_29 rfl ?_
        refine pm_iloadn hG dX12_tellsOf_30 rfl ?_
        refine pm_iloadn hG dX12_tellsOf_31 rfl ?_
        obtain ⟨r15, h14, hE⟩ := fb_some hE
        refine pm_callV (As := [.int za, .int zb]) (rest := []) hG hR dX12_tellsOf_32 (lkX12_310 _ rfl) okV_X12_tellsPower rfl rfl (c_X12_tellsPower (d := 8) (by decide) h14) rfl rfl hdd (Nat.le_refl _) (Nat.le_refl _) (by decide) (fx_ki ?_)
        exact pm_iret hG hF dX12_tellsOf_35 rfl (Nat.le_refl _) (Nat.le_refl _) (fx_rim hE)
    · replace hE := fx_t c6 hE
      refine pm_aloadn hG dX12_tellsOf_17 rfl ?_
      refine pm_iloadn hG dX12_tellsOf_18 rfl ?_
      refine pm_iloadn hG dX12_tellsOf_19 rfl ?_
      obtain ⟨r17, h16, hE⟩ := fb_some hE
      refine pm_callV (As := [.int za, .int zb]) (rest := []) hG hR dX12_tellsOf_20 (lkX12_313 _ rfl) okV_X12_tellsOffice rfl rfl (c_X12_tellsOffice (d := 8) (by decide) h16) rfl rfl hdd (Nat.le_refl _) (Nat.le_refl _) (by decide) (fx_ki ?_)
      exact pm_iret hG hF dX12_tellsOf_23 rfl (Nat.le_refl _) (Nat.le_refl _) (fx_rim hE)

set_option maxRecDepth 100000 in
set_option maxHeartbeats 4000000 in
theorem c_X12_town {d : Nat} {B cnt : Nat} {σ : pm_S} {S : FS} {R : Int32 × FS} (hdd : 2 ≤ d) (hE : f_X12_town S = some R) : pm_met mX12_town d 0 0 B [.ref (B + 54)] cnt (mst B S σ) (pm_Qi (fun v σ' cnt' => v = R.1 ∧ σ' = (mst B R.2 σ) ∧ cnt' = cnt)) := by
  refine pm_enter 1 (by decide) (Nat.le_of_ble_eq_true rfl) rfl (fun G hG hR hF => ?_)
  unfold f_X12_town at hE
  refine pm_aloadn hG dX12_town_0 rfl ?_
  refine pm_getf hG dX12_town_1 (flX12_7 _ rfl) rfl rfl ?_
  refine pm_iconst (v := 0) hG dX12_town_4 (by decide) ?_
  refine fx_iald hG dX12_town_5 rfl (ix_lit (by decide) rfl) ?_
  refine fx_letv hE (fun x1 hE => ?_)
  refine pm_istoreXn (loc' := [some (.ref (B + 54)), some (.int x1)]) hG dX12_town_6 (by decide) (pm_c1b rfl) rfl ?_
  refine pm_iloadn hG dX12_town_7 rfl ?_
  refine pm_bipush (v := 10) hG dX12_town_8 (by decide) ?_
  refine pm_icmp_ne (tgt := 19) hG dX12_town_10 rfl (fun c2 => ?_) (fun c2 => ?_)
  · replace hE := fx_f c2 hE
    refine pm_aloadn hG dX12_town_19 rfl ?_
    refine pm_getf hG dX12_town_20 (flX12_7 _ rfl) rfl rfl ?_
    refine pm_iconst (v := 0) hG dX12_town_23 (by decide) ?_
    refine pm_dup2 hG dX12_town_24 rfl rfl ?_
    refine fx_iald hG dX12_town_25 rfl (ix_lit (by decide) rfl) ?_
    refine pm_iconst (v := 1) hG dX12_town_26 (by decide) ?_
    refine pm_iadd hG dX12_town_27 ?_
    refine fx_iast hG dX12_town_28 rfl (ix_lit (by decide) rfl) ?_
    refine ma_55 ?_
    refine fx_letm hE (fun S3 hE => ?_)
    refine pm_aloadn hG dX12_town_29 rfl ?_
    refine pm_getf hG dX12_town_30 (flX12_7 _ rfl) rfl rfl ?_
    refine pm_bipush (v := 20) hG dX12_town_33 (by decide) ?_
    refine pm_iconst (v := 3) hG dX12_town_35 (by decide) ?_
    refine pm_iloadn hG dX12_town_36 rfl ?_
    refine pm_imul hG dX12_town_37 ?_
    refine pm_iadd hG dX12_town_38 ?_
    refine pm_iconst (v := 0) hG dX12_town_39 (by decide) ?_
    obtain ⟨j4, hj4, hE⟩ := fb_some hE
    refine fx_iast hG dX12_town_40 rfl hj4 ?_
    refine ma_55 ?_
    refine fx_letm hE (fun S5 hE => ?_)
    refine pm_aloadn hG dX12_town_41 rfl ?_
    refine pm_getf hG dX12_town_42 (flX12_7 _ rfl) rfl rfl ?_
    refine pm_bipush (v := 20) hG dX12_town_45 (by decide) ?_
    refine pm_iconst (v := 3) hG dX12_town_47 (by decide) ?_
    refine pm_iloadn hG dX12_town_48 rfl ?_
    refine pm_imul hG dX12_town_49 ?_
    refine pm_iadd hG dX12_town_50 ?_
    refine pm_iconst (v := 1) hG dX12_town_51 (by decide) ?_
    refine pm_iadd hG dX12_town_52 ?_
    refine pm_iconst (v := (-1)) hG dX12_town_53 (by decide) ?_
    obtain ⟨j6, hj6, hE⟩ := fb_some hE
    refine fx_iast hG dX12_town_54 rfl hj6 ?_
    refine ma_55 ?_
    refine fx_letm hE (fun S7 hE => ?_)
    refine pm_aloadn hG dX12_town_55 rfl ?_
    refine pm_getf hG dX12_town_56 (flX12_7 _ rfl) rfl rfl ?_
    refine pm_bipush (v := 20) hG dX12_town_59 (by decide) ?_
    refine pm_iconst (v := 3) hG dX12_town_61 (by decide) ?_
    refine pm_iloadn hG dX12_town_62 rfl ?_
    refine pm_imul hG dX12_town_63 ?_
    refine pm_iadd hG dX12_town_64 ?_
    refine pm_iconst (v := 2) hG dX12_town_65 (by decide) ?_
    refine pm_iadd hG dX12_town_66 ?_
    refine pm_iconst (v := 0) hG dX12_town_67 (by decide) ?_
    obtain ⟨j8, hj8, hE⟩ := fb_some hE
    refine fx_iast hG dX12_town_68 rfl hj8 ?_
    refine ma_55 ?_
    refine fx_letm hE (fun S9 hE => ?_)
    refine pm_iloadn hG dX12_town_69 rfl ?_
    exact pm_iret hG hF dX12_town_70 rfl (Nat.le_refl _) (Nat.le_refl _) (fx_rim hE)
  · replace hE := fx_t c2 hE
    refine pm_aloadn hG dX12_town_13 rfl ?_
    refine pm_iconst (v := 4) hG dX12_town_14 (by decide) ?_
    obtain ⟨r11, h10, hE⟩ := fb_some hE
    refine pm_callV (As := [.int 4]) (rest := []) hG hR dX12_town_15 (lkX12_80 _ rfl) okV_X12_finds rfl rfl (c_X12_finds (d := 1) (by decide) h10) rfl rfl hdd (Nat.le_refl _) (Nat.le_refl _) (by decide) (fx_ki ?_)
    exact pm_iret hG hF dX12_town_18 rfl (Nat.le_refl _) (Nat.le_refl _) (fx_rim hE)
end
section
set_option maxRecDepth 100000 in
set_option maxHeartbeats 4000000 in
theorem c_X12_trace {d : Nat} {B cnt : Nat} {σ : pm_S} {S : FS} {za : Int32} {R : Int32 × FS} (hdd : 2 ≤ d) (hE : f_X12_trace S za = some R) : pm_met mX12_trace d 0 0 B [.ref (B + 54), .int za] cnt (mst B S σ) (pm_Qi (fun v σ' cnt' => v = R.1 ∧ σ' = (mst B R.2 σ) ∧ cnt' = cnt)) := by
  refine pm_enter 0 (by decide) (Nat.le_of_ble_eq_true rfl) rfl (fun G hG hR hF => ?_)
  unfold f_X12_trace at hE
  refine pm_iloadn hG dX12_trace_0 rfl ?_
  refine pm_iconst (v := 0) hG dX12_trace_1 (by decide) ?_
  refine pm_aloadn hG dX12_trace_2 rfl ?_
  refine pm_getf hG dX12_trace_3 (flX12_283 _ rfl) rfl rfl ?_
  refine pm_iconst (v := 1) hG dX12_trace_6 (by decide) ?_
  refine pm_isub hG dX12_trace_7 ?_
  refine pm_callS (As := [.int za, .int 0, .int ((S.1 22) - 1)]) (rest := []) hG hR dX12_trace_8 (lkX12_68 _ rfl) okS_X12_in (c_X12_in (d := 1) (by decide) rfl) rfl rfl hdd (Nat.le_refl _) (Nat.le_refl _) (by decide) (fx_ki ?_)
  refine pm_if_eq (tgt := 23) hG dX12_trace_11 rfl (fun c1 => ?_) (fun c1 => ?_)
  · replace hE := fx_t c1 hE
    refine pm_aloadn hG dX12_trace_23 rfl ?_
    refine pm_iconst (v := 2) hG dX12_trace_24 (by decide) ?_
    obtain ⟨r3, h2, hE⟩ := fb_some hE
    refine pm_callV (As := [.int 2]) (rest := []) hG hR dX12_trace_25 (lkX12_80 _ rfl) okV_X12_finds rfl rfl (c_X12_finds (d := 1) (by decide) h2) rfl rfl hdd (Nat.le_refl _) (Nat.le_refl _) (by decide) (fx_ki ?_)
    exact pm_iret hG hF dX12_trace_28 rfl (Nat.le_refl _) (Nat.le_refl _) (fx_rim hE)
  · replace hE := fx_f c1 hE
    refine pm_aloadn hG dX12_trace_14 rfl ?_
    refine pm_getf hG dX12_trace_15 (flX12_52 _ rfl) rfl rfl ?_
    refine pm_iloadn hG dX12_trace_18 rfl ?_
    obtain ⟨j4, hj4, hE⟩ := fb_some hE
    refine fx_iald hG dX12_trace_19 rfl hj4 ?_
    refine pm_goto (tgt := 28) hG dX12_trace_20 rfl ?_
    exact pm_iret hG hF dX12_trace_28 rfl (Nat.le_refl _) (Nat.le_refl _) (fx_rim hE)

set_option maxRecDepth 100000 in
set_option maxHeartbeats 4000000 in
theorem c_X12_voice {d : Nat} {B cnt : Nat} {σ : pm_S} {S : FS} {za : Int32} {zb : Int32} {zc : Int32} {R : Int32 × FS} (hdd : 10 ≤ d) (hE : f_X12_voice S za zb zc = some R) : pm_met mX12_voice d 0 0 B [.ref (B + 54), .int za, .int zb, .int zc] cnt (mst B S σ) (pm_Qi (fun v σ' cnt' => v = R.1 ∧ σ' = (mst B R.2 σ) ∧ cnt' = cnt)) := by
  refine pm_enter 0 (by decide) (Nat.le_of_ble_eq_true rfl) rfl (fun G hG hR hF => ?_)
  unfold f_X12_voice at hE
  refine pm_aloadn hG dX12_voice_0 rfl ?_
  refine pm_iloadn hG dX12_voice_1 rfl ?_
  refine pm_callV (As := [.int za]) (rest := []) hG hR dX12_voice_2 (lkX12_132 _ rfl) okV_X12_isPower rfl rfl (c_X12_isPower (d := 9) (by decide) rfl) rfl rfl hdd (Nat.le_refl _) (Nat.le_refl _) (by decide) (fx_ki ?_)
  refine pm_if_eq (tgt := 17) hG dX12_voice_5 rfl (fun c1 => ?_) (fun c1 => ?_)
  · replace hE := fx_t c1 hE
    refine pm_aloadn hG dX12_voice_17 rfl ?_
    refine pm_iconst (v := 1) hG dX12_voice_18 (by decide) ?_
    obtain ⟨r3, h2, hE⟩ := fb_some hE
    refine pm_callV (As := [.int 1]) (rest := []) hG hR dX12_voice_19 (lkX12_80 _ rfl) okV_X12_finds rfl rfl (c_X12_finds (d := 9) (by decide) h2) rfl rfl hdd (Nat.le_refl _) (Nat.le_refl _) (by decide) (fx_ki ?_)
    exact pm_iret hG hF dX12_voice_22 rfl (Nat.le_refl _) (Nat.le_refl _) (fx_rim hE)
  · replace hE := fx_f c1 hE
    refine pm_iloadn hG dX12_voice_8 rfl ?_
    refine pm_iconst (v := 0) hG dX12_voice_9 (by decide) ?_
    refine pm_iconst (v := 3) hG dX12_voice_10 (by decide) ?_
    refine pm_callS (As := [.int zb, .int 0, .int 3]) (rest := []) hG hR dX12_voice_11 (lkX12_68 _ rfl) okS_X12_in (c_X12_in (d := 9) (by decide) rfl) rfl rfl hdd (Nat.le_refl _) (Nat.le_refl _) (by decide) (fx_ki ?_)
    refine pm_if_ne (tgt := 23) hG dX12_voice_14 rfl (fun c4 => ?_) (fun c4 => ?_)
    · replace hE := fx_f c4 hE
      refine pm_aloadn hG dX12_voice_23 rfl ?_
      refine pm_iconst (v := 0) hG dX12_voice_24 (by decide) ?_
      refine pm_putf hG dX12_voice_25 (fwX12_283 _ rfl) rfl rfl rfl ?_
      refine mi_22 ?_
      refine fx_letm hE (fun S5 hE => ?_)
      refine pm_iloadn hG dX12_voice_28 rfl ?_
      by_cases c6 : zb = 0
      · replace hE := fx_t c6 hE
        refine pm_top (v := 0) c6 ?_
        refine pm_tswIn (tgt := 56) hG dX12_voice_29 (by decide) (by decide) rfl rfl ?_
        refine pm_aloadn hG dX12_voice_56 rfl ?_
        refine pm_iloadn hG dX12_voice_57 rfl ?_
        refine pm_iloadn hG dX12_voice_58 rfl ?_
        obtain ⟨r8, h7, hE⟩ := fb_some hE
        refine pm_callV (As := [.int za, .int zc]) (rest := []) hG hR dX12_voice_59 (lkX12_295 _ rfl) okV_X12_actsOf rfl rfl (c_X12_actsOf (d := 9) (by decide) h7) rfl rfl hdd (Nat.le_refl _) (Nat.le_refl _) (by decide) (fx_ki ?_)
        exact pm_iret hG hF dX12_voice_62 rfl (Nat.le_refl _) (Nat.le_refl _) (fx_rim hE)
      replace hE := fx_f c6 hE
      by_cases c9 : zb = 1
      · replace hE := fx_t c9 hE
        refine pm_top (v := 1) c9 ?_
        refine pm_tswIn (tgt := 63) hG dX12_voice_29 (by decide) (by decide) rfl rfl ?_
        refine pm_aloadn hG dX12_voice_63 rfl ?_
        refine pm_iloadn hG dX12_voice_64 rfl ?_
        refine pm_iloadn hG dX12_voice_65 rfl ?_
        obtain ⟨r11, h10, hE⟩ := fb_some hE
        refine pm_callV (As := [.int za, .int zc]) (rest := []) hG hR dX12_voice_66 (lkX12_304 _ rfl) okV_X12_bindsOf rfl rfl (c_X12_bindsOf (d := 9) (by decide) h10) rfl rfl hdd (Nat.le_refl _) (Nat.le_refl _) (by decide) (fx_ki ?_)
        exact pm_iret hG hF dX12_voice_69 rfl (Nat.le_refl _) (Nat.le_refl _) (fx_rim hE)
      replace hE := fx_f c9 hE
      by_cases c12 : zb = 2
      · replace hE := fx_t c12 hE
        refine pm_top (v := 2) c12 ?_
        refine pm_tswIn (tgt := 70) hG dX12_voice_29 (by decide) (by decide) rfl rfl ?_
        refine pm_aloadn hG dX12_voice_70 rfl ?_
        refine pm_iloadn hG dX12_voice_71 rfl ?_
        refine pm_iloadn hG dX12_voice_72 rfl ?_
        obtain ⟨r14, h13, hE⟩ := fb_some hE
        refine pm_callV (As := [.int za, .int zc]) (rest := []) hG hR dX12_voice_73 (lkX12_307 _ rfl) okV_X12_ranksOf rfl rfl (c_X12_ranksOf (d := 9) (by decide) h13) rfl rfl hdd (Nat.le_refl _) (Nat.le_refl _) (by decide) (fx_ki ?_)
        exact pm_iret hG hF dX12_voice_76 rfl (Nat.le_refl _) (Nat.le_refl _) (fx_rim hE)
      replace hE := fx_f c12 hE
      have tc6 : ¬ zb.toInt = 0 := fun q => c6 (Int32.toInt_inj.mp q)
      have tc9 : ¬ zb.toInt = 1 := fun q => c9 (Int32.toInt_inj.mp q)
      have tc12 : ¬ zb.toInt = 2 := fun q => c12 (Int32.toInt_inj.mp q)
      refine pm_tswOut (tgt := 77) hG dX12_voice_29 (by omega) rfl ?_
      refine pm_aloadn hG dX12_voice_77 rfl ?_
      refine pm_iloadn hG dX12_voice_78 rfl ?_
      refine pm_iloadn hG dX12_voice_79 rfl ?_
      obtain ⟨r16, h15, hE⟩ := fb_some hE
      refine pm_callV (As := [.int za, .int zc]) (rest := []) hG hR dX12_voice_80 (lkX12_316 _ rfl) okV_X12_tellsOf rfl rfl (c_X12_tellsOf (d := 9) (by decide) h15) rfl rfl hdd (Nat.le_refl _) (Nat.le_refl _) (by decide) (fx_ki ?_)
      exact pm_iret hG hF dX12_voice_83 rfl (Nat.le_refl _) (Nat.le_refl _) (fx_rim hE)
    · replace hE := fx_t c4 hE
      refine pm_aloadn hG dX12_voice_17 rfl ?_
      refine pm_iconst (v := 1) hG dX12_voice_18 (by decide) ?_
      obtain ⟨r18, h17, hE⟩ := fb_some hE
      refine pm_callV (As := [.int 1]) (rest := []) hG hR dX12_voice_19 (lkX12_80 _ rfl) okV_X12_finds rfl rfl (c_X12_finds (d := 9) (by decide) h17) rfl rfl hdd (Nat.le_refl _) (Nat.le_refl _) (by decide) (fx_ki ?_)
      exact pm_iret hG hF dX12_voice_22 rfl (Nat.le_refl _) (Nat.le_refl _) (fx_rim hE)
end
