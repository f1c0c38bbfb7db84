set_option maxRecDepth 100000 in
set_option maxHeartbeats 4000000 in
theorem fm_X12_isTown_1 {B : Nat} {za : Int32} {d : Nat} (hdd : 2 ≤ d) : pm_met mX12_isTown d 0 0 B [.ref (B + 54), .int za] 74 (pm_cat (fun _ => none) 54 (l_k_model B)) (pm_Qi (fun v σ' cnt' => v = 0 ∧ σ' = (pm_cat (fun _ => none) 54 (l_k_model B)) ∧ cnt' = 74)) := by
  refine pm_enter 0 (by decide) (Nat.le_of_ble_eq_true rfl) rfl (fun G hG hR hF => ?_)
  refine pm_iloadn hG dX12_isTown_0 rfl ?_
  refine pm_iconst (v := 0) hG dX12_isTown_1 (by decide) ?_
  refine pm_aloadn hG dX12_isTown_2 rfl ?_
  refine pm_getf hG dX12_isTown_3 (flX12_7 _ rfl) rfl rfl ?_
  refine pm_iconst (v := 0) hG dX12_isTown_6 (by decide) ?_
  refine pm_ialdX (v := 0) hG dX12_isTown_7 rfl (pm_inb (by decide)) (by rfl) ?_
  refine pm_iconst (v := 1) hG dX12_isTown_8 (by decide) ?_
  refine pm_isub hG dX12_isTown_9 ?_
  refine pm_top (v := (-1)) (by decide) ?_
  refine pm_callS (As := [.int za, .int 0, .int (-1)]) (rest := []) hG hR dX12_isTown_10 (lkX12_68 _ rfl) okS_X12_in (mx_in (d := 1)) rfl rfl hdd (by decide) (by decide) (by decide) (pm_ki (fun v σ' cnt' hq => ?_))
  obtain ⟨rfl, rfl, rfl⟩ := hq
  refine pm_top (v := 0) (pm_in0 _) ?_
  exact pm_zret hG hF dX12_isTown_13 rfl (by rfl) (by decide) (by decide) ⟨_, rfl, ⟨rfl, rfl, rfl⟩⟩

set_option maxRecDepth 100000 in
set_option maxHeartbeats 4000000 in
theorem fm_X12_finds_2 {B : Nat} {d : Nat} (hdd : 1 ≤ d) : pm_met mX12_finds d 0 0 B [.ref (B + 54), .int 1] 74 (pm_cat (fun _ => none) 54 (l_k_model B)) (pm_Qi (fun v σ' cnt' => v = (-1000001) ∧ σ' = (pm_up (pm_cat (fun _ => none) 54 (l_k_model B)) 57 (.inl (6, upd (fun _ => 0) (1 : Int32).toNatClampNeg 1))) ∧ cnt' = 74)) := by
  refine pm_enter 0 (by decide) (Nat.le_of_ble_eq_true rfl) rfl (fun G hG hR hF => ?_)
  refine pm_aloadn hG dX12_finds_0 rfl ?_
  refine pm_getf hG dX12_finds_1 (flX12_16 _ rfl) rfl rfl ?_
  refine pm_iloadn hG dX12_finds_4 rfl ?_
  refine pm_dup2 hG dX12_finds_5 rfl rfl ?_
  refine pm_ialdX (v := 0) hG dX12_finds_6 rfl (pm_inb (by decide)) (by rfl) ?_
  refine pm_iconst (v := 1) hG dX12_finds_7 (by decide) ?_
  refine pm_iadd hG dX12_finds_8 ?_
  refine pm_top (v := 1) (by decide) ?_
  refine pm_iast hG dX12_finds_9 rfl (pm_inb (by decide)) ?_
  refine pm_ldc hG dX12_finds_10 (ctX12_67 _ rfl) ?_
  refine pm_iloadn hG dX12_finds_12 rfl ?_
  refine pm_isub hG dX12_finds_13 ?_
  refine pm_top (v := (-1000001)) (by decide) ?_
  exact pm_iret hG hF dX12_finds_14 rfl (by decide) (by decide) ⟨_, rfl, ⟨rfl, rfl, rfl⟩⟩

set_option maxRecDepth 100000 in
set_option maxHeartbeats 8000000 in
theorem om_road {B : Nat} {za zb zc : Int32} {d : Nat} (hdd : 3 ≤ d) : pm_met mX12_road d 0 0 B [.ref (B + 54), .int za, .int zb, .int zc] 74 (pm_cat (fun _ => none) 54 (l_k_model B)) (pm_Qi (fun v _ _ => v = v_road za zb zc)) := by
  refine pm_enter 1 (by decide) (Nat.le_of_ble_eq_true rfl) rfl (fun G hG hR hF => ?_)
  refine pm_aloadn hG dX12_road_0 rfl ?_
  refine pm_iloadn hG dX12_road_1 rfl ?_
  refine pm_callV (As := [.int za]) (rest := []) hG hR dX12_road_2 (lkX12_84 _ rfl) okV_X12_isTown rfl rfl (fm_X12_isTown_1 (d := 2) (by decide)) rfl rfl hdd (by decide) (by decide) (by decide) (pm_ki (fun v σ' cnt' hq => ?_))
  obtain ⟨rfl, rfl, rfl⟩ := hq
  refine pm_if_eq (tgt := 31) hG dX12_road_5 rfl (fun _ => ?_) (fun q => absurd q (by decide))
  refine pm_aloadn hG dX12_road_31 rfl ?_
  refine pm_iconst (v := 1) hG dX12_road_32 (by decide) ?_
  refine pm_callV (As := [.int 1]) (rest := []) hG hR dX12_road_33 (lkX12_80 _ rfl) okV_X12_finds rfl rfl (fm_X12_finds_2 (d := 2) (by decide)) rfl rfl hdd (by decide) (by decide) (by decide) (pm_ki (fun v σ' cnt' hq => ?_))
  obtain ⟨rfl, rfl, rfl⟩ := hq
  exact pm_iret hG hF dX12_road_36 rfl (by decide) (by decide) ⟨_, rfl, (by clear hF hR hG; first | rfl | (unfold v_road; (repeat' split) <;> first | rfl | (exfalso; simp only [Int32.lt_iff_toInt_lt, Int32.le_iff_toInt_le, ← Int32.toInt_inj, Int32.toInt_zero, L_m1000001] at *; omega) | (apply Int32.toInt_inj.mp; simp only [Int32.lt_iff_toInt_lt, Int32.le_iff_toInt_le, ← Int32.toInt_inj, Int32.toInt_zero, L_m1000001] at *; omega)))⟩

set_option maxRecDepth 100000 in
set_option maxHeartbeats 8000000 in
theorem om_far {B : Nat} {za zb : Int32} {d : Nat} (hdd : 3 ≤ d) : pm_met mX12_far d 0 0 B [.ref (B + 54), .int za, .int zb] 74 (pm_cat (fun _ => none) 54 (l_k_model B)) (pm_Qi (fun v _ _ => v = v_far za zb)) := by
  refine pm_enter 1 (by decide) (Nat.le_of_ble_eq_true rfl) rfl (fun G hG hR hF => ?_)
  refine pm_aloadn hG dX12_far_0 rfl ?_
  refine pm_iloadn hG dX12_far_1 rfl ?_
  refine pm_callV (As := [.int za]) (rest := []) hG hR dX12_far_2 (lkX12_84 _ rfl) okV_X12_isTown rfl rfl (fm_X12_isTown_1 (d := 2) (by decide)) rfl rfl hdd (by decide) (by decide) (by decide) (pm_ki (fun v σ' cnt' hq => ?_))
  obtain ⟨rfl, rfl, rfl⟩ := hq
  refine pm_if_eq (tgt := 16) hG dX12_far_5 rfl (fun _ => ?_) (fun q => absurd q (by decide))
  refine pm_aloadn hG dX12_far_16 rfl ?_
  refine pm_iconst (v := 1) hG dX12_far_17 (by decide) ?_
  refine pm_callV (As := [.int 1]) (rest := []) hG hR dX12_far_18 (lkX12_80 _ rfl) okV_X12_finds rfl rfl (fm_X12_finds_2 (d := 2) (by decide)) rfl rfl hdd (by decide) (by decide) (by decide) (pm_ki (fun v σ' cnt' hq => ?_))
  obtain ⟨rfl, rfl, rfl⟩ := hq
  exact pm_iret hG hF dX12_far_21 rfl (by decide) (by decide) ⟨_, rfl, (by clear hF hR hG; first | rfl | (unfold v_far; (repeat' split) <;> first | rfl | (exfalso; simp only [Int32.lt_iff_toInt_lt, Int32.le_iff_toInt_le, ← Int32.toInt_inj, Int32.toInt_zero, L_m1000001] at *; omega) | (apply Int32.toInt_inj.mp; simp only [Int32.lt_iff_toInt_lt, Int32.le_iff_toInt_le, ← Int32.toInt_inj, Int32.toInt_zero, L_m1000001] at *; omega)))⟩

set_option maxRecDepth 100000 in
set_option maxHeartbeats 4000000 in
theorem fm_X12_isPerson_4 {B : Nat} {zc : Int32} {d : Nat} (hdd : 2 ≤ d) : pm_met mX12_isPerson d 0 0 B [.ref (B + 54), .int ((zc / 100) - 1)] 74 (pm_cat (fun _ => none) 54 (l_k_model B)) (pm_Qi (fun v σ' cnt' => v = 0 ∧ σ' = (pm_cat (fun _ => none) 54 (l_k_model B)) ∧ cnt' = 74)) := by
  refine pm_enter 0 (by decide) (Nat.le_of_ble_eq_true rfl) rfl (fun G hG hR hF => ?_)
  refine pm_iloadn hG dX12_isPerson_0 rfl ?_
  refine pm_iconst (v := 0) hG dX12_isPerson_1 (by decide) ?_
  refine pm_aloadn hG dX12_isPerson_2 rfl ?_
  refine pm_getf hG dX12_isPerson_3 (flX12_7 _ rfl) rfl rfl ?_
  refine pm_iconst (v := 2) hG dX12_isPerson_6 (by decide) ?_
  refine pm_ialdX (v := 0) hG dX12_isPerson_7 rfl (pm_inb (by decide)) (by rfl) ?_
  refine pm_iconst (v := 1) hG dX12_isPerson_8 (by decide) ?_
  refine pm_isub hG dX12_isPerson_9 ?_
  refine pm_top (v := (-1)) (by decide) ?_
  refine pm_callS (As := [.int ((zc / 100) - 1), .int 0, .int (-1)]) (rest := []) hG hR dX12_isPerson_10 (lkX12_68 _ rfl) okS_X12_in (mx_in (d := 1)) rfl rfl hdd (by decide) (by decide) (by decide) (pm_ki (fun v σ' cnt' hq => ?_))
  obtain ⟨rfl, rfl, rfl⟩ := hq
  refine pm_top (v := 0) (pm_in0 _) ?_
  exact pm_zret hG hF dX12_isPerson_13 rfl (by rfl) (by decide) (by decide) ⟨_, rfl, ⟨rfl, rfl, rfl⟩⟩

set_option maxRecDepth 100000 in
set_option maxHeartbeats 4000000 in
theorem fm_X12_isParent_3 {B : Nat} {zb zc : Int32} {d : Nat} (hdd : 3 ≤ d) : pm_met mX12_isParent d 0 0 B [.ref (B + 54), .int ((zc / 100) - 1), .int 1, .int zb] 74 (pm_cat (fun _ => none) 54 (l_k_model B)) (pm_Qi (fun v σ' cnt' => ((((zc / 100) - 1) = (-1)) ∧ v = 1 ∧ σ' = (pm_cat (fun _ => none) 54 (l_k_model B)) ∧ cnt' = 74) ∨ ((¬ (((zc / 100) - 1) = (-1))) ∧ v = 0 ∧ σ' = (pm_cat (fun _ => none) 54 (l_k_model B)) ∧ cnt' = 74))) := by
  refine pm_enter 0 (by decide) (Nat.le_of_ble_eq_true rfl) rfl (fun G hG hR hF => ?_)
  refine pm_iloadn hG dX12_isParent_0 rfl ?_
  refine pm_iconst (v := (-1)) hG dX12_isParent_1 (by decide) ?_
  refine pm_icmp_eq (tgt := 33) hG dX12_isParent_2 rfl (fun c1 => ?_) (fun c1 => ?_)
  · refine pm_iconst (v := 1) hG dX12_isParent_33 (by decide) ?_
    refine pm_goto (tgt := 38) hG dX12_isParent_34 rfl ?_
    exact pm_zret hG hF dX12_isParent_38 rfl (by rfl) (by decide) (by decide) ⟨_, rfl, (Or.inl ⟨c1, rfl, rfl, rfl⟩)⟩
  · refine pm_aloadn hG dX12_isParent_5 rfl ?_
    refine pm_iloadn hG dX12_isParent_6 rfl ?_
    refine pm_callV (As := [.int ((zc / 100) - 1)]) (rest := []) hG hR dX12_isParent_7 (lkX12_91 _ rfl) okV_X12_isPerson rfl rfl (fm_X12_isPerson_4 (d := 2) (by decide)) rfl rfl hdd (by decide) (by decide) (by decide) (pm_ki (fun v σ' cnt' hq => ?_))
    obtain ⟨rfl, rfl, rfl⟩ := hq
    refine pm_if_eq (tgt := 37) hG dX12_isParent_10 rfl (fun _ => ?_) (fun q => absurd q (by decide))
    refine pm_iconst (v := 0) hG dX12_isParent_37 (by decide) ?_
    exact pm_zret hG hF dX12_isParent_38 rfl (by rfl) (by decide) (by decide) ⟨_, rfl, (Or.inr ⟨c1, rfl, rfl, rfl⟩)⟩

set_option maxRecDepth 100000 in
set_option maxHeartbeats 4000000 in
theorem fm_X12_isPerson_6 {B : Nat} {zc : Int32} {d : Nat} (hdd : 2 ≤ d) : pm_met mX12_isPerson d 0 0 B [.ref (B + 54), .int ((zc - zc / 100 * 100) - 1)] 74 (pm_cat (fun _ => none) 54 (l_k_model B)) (pm_Qi (fun v σ' cnt' => v = 0 ∧ σ' = (pm_cat (fun _ => none) 54 (l_k_model B)) ∧ cnt' = 74)) := by
  refine pm_enter 0 (by decide) (Nat.le_of_ble_eq_true rfl) rfl (fun G hG hR hF => ?_)
  refine pm_iloadn hG dX12_isPerson_0 rfl ?_
  refine pm_iconst (v := 0) hG dX12_isPerson_1 (by decide) ?_
  refine pm_aloadn hG dX12_isPerson_2 rfl ?_
  refine pm_getf hG dX12_isPerson_3 (flX12_7 _ rfl) rfl rfl ?_
  refine pm_iconst (v := 2) hG dX12_isPerson_6 (by decide) ?_
  refine pm_ialdX (v := 0) hG dX12_isPerson_7 rfl (pm_inb (by decide)) (by rfl) ?_
  refine pm_iconst (v := 1) hG dX12_isPerson_8 (by decide) ?_
  refine pm_isub hG dX12_isPerson_9 ?_
  refine pm_top (v := (-1)) (by decide) ?_
  refine pm_callS (As := [.int ((zc - zc / 100 * 100) - 1), .int 0, .int (-1)]) (rest := []) hG hR dX12_isPerson_10 (lkX12_68 _ rfl) okS_X12_in (mx_in (d := 1)) rfl rfl hdd (by decide) (by decide) (by decide) (pm_ki (fun v σ' cnt' hq => ?_))
  obtain ⟨rfl, rfl, rfl⟩ := hq
  refine pm_top (v := 0) (pm_in0 _) ?_
  exact pm_zret hG hF dX12_isPerson_13 rfl (by rfl) (by decide) (by decide) ⟨_, rfl, ⟨rfl, rfl, rfl⟩⟩

set_option maxRecDepth 100000 in
set_option maxHeartbeats 4000000 in
theorem fm_X12_isParent_5 {B : Nat} {zb zc : Int32} {d : Nat} (hdd : 3 ≤ d) : pm_met mX12_isParent d 0 0 B [.ref (B + 54), .int ((zc - zc / 100 * 100) - 1), .int 0, .int zb] 74 (pm_cat (fun _ => none) 54 (l_k_model B)) (pm_Qi (fun v σ' cnt' => ((((zc - zc / 100 * 100) - 1) = (-1)) ∧ v = 1 ∧ σ' = (pm_cat (fun _ => none) 54 (l_k_model B)) ∧ cnt' = 74) ∨ ((¬ (((zc - zc / 100 * 100) - 1) = (-1))) ∧ v = 0 ∧ σ' = (pm_cat (fun _ => none) 54 (l_k_model B)) ∧ cnt' = 74))) := by
  refine pm_enter 0 (by decide) (Nat.le_of_ble_eq_true rfl) rfl (fun G hG hR hF => ?_)
  refine pm_iloadn hG dX12_isParent_0 rfl ?_
  refine pm_iconst (v := (-1)) hG dX12_isParent_1 (by decide) ?_
  refine pm_icmp_eq (tgt := 33) hG dX12_isParent_2 rfl (fun c1 => ?_) (fun c1 => ?_)
  · refine pm_iconst (v := 1) hG dX12_isParent_33 (by decide) ?_
    refine pm_goto (tgt := 38) hG dX12_isParent_34 rfl ?_
    exact pm_zret hG hF dX12_isParent_38 rfl (by rfl) (by decide) (by decide) ⟨_, rfl, (Or.inl ⟨c1, rfl, rfl, rfl⟩)⟩
  · refine pm_aloadn hG dX12_isParent_5 rfl ?_
    refine pm_iloadn hG dX12_isParent_6 rfl ?_
    refine pm_callV (As := [.int ((zc - zc / 100 * 100) - 1)]) (rest := []) hG hR dX12_isParent_7 (lkX12_91 _ rfl) okV_X12_isPerson rfl rfl (fm_X12_isPerson_6 (d := 2) (by decide)) rfl rfl hdd (by decide) (by decide) (by decide) (pm_ki (fun v σ' cnt' hq => ?_))
    obtain ⟨rfl, rfl, rfl⟩ := hq
    refine pm_if_eq (tgt := 37) hG dX12_isParent_10 rfl (fun _ => ?_) (fun q => absurd q (by decide))
    refine pm_iconst (v := 0) hG dX12_isParent_37 (by decide) ?_
    exact pm_zret hG hF dX12_isParent_38 rfl (by rfl) (by decide) (by decide) ⟨_, rfl, (Or.inr ⟨c1, rfl, rfl, rfl⟩)⟩

set_option maxRecDepth 100000 in
set_option maxHeartbeats 4000000 in
theorem fm_X12_isTown_7 {B : Nat} {zd : Int32} {d : Nat} (hdd : 2 ≤ d) : pm_met mX12_isTown d 0 0 B [.ref (B + 54), .int zd] 74 (pm_cat (fun _ => none) 54 (l_k_model B)) (pm_Qi (fun v σ' cnt' => v = 0 ∧ σ' = (pm_cat (fun _ => none) 54 (l_k_model B)) ∧ cnt' = 74)) := by
  refine pm_enter 0 (by decide) (Nat.le_of_ble_eq_true rfl) rfl (fun G hG hR hF => ?_)
  refine pm_iloadn hG dX12_isTown_0 rfl ?_
  refine pm_iconst (v := 0) hG dX12_isTown_1 (by decide) ?_
  refine pm_aloadn hG dX12_isTown_2 rfl ?_
  refine pm_getf hG dX12_isTown_3 (flX12_7 _ rfl) rfl rfl ?_
  refine pm_iconst (v := 0) hG dX12_isTown_6 (by decide) ?_
  refine pm_ialdX (v := 0) hG dX12_isTown_7 rfl (pm_inb (by decide)) (by rfl) ?_
  refine pm_iconst (v := 1) hG dX12_isTown_8 (by decide) ?_
  refine pm_isub hG dX12_isTown_9 ?_
  refine pm_top (v := (-1)) (by decide) ?_
  refine pm_callS (As := [.int zd, .int 0, .int (-1)]) (rest := []) hG hR dX12_isTown_10 (lkX12_68 _ rfl) okS_X12_in (mx_in (d := 1)) rfl rfl hdd (by decide) (by decide) (by decide) (pm_ki (fun v σ' cnt' hq => ?_))
  obtain ⟨rfl, rfl, rfl⟩ := hq
  refine pm_top (v := 0) (pm_in0 _) ?_
  exact pm_zret hG hF dX12_isTown_13 rfl (by rfl) (by decide) (by decide) ⟨_, rfl, ⟨rfl, rfl, rfl⟩⟩

set_option maxRecDepth 100000 in
set_option maxHeartbeats 8000000 in
theorem om_person {B : Nat} {za zb zc zd : Int32} {d : Nat} (hdd : 4 ≤ d) : pm_met mX12_person d 0 0 B [.ref (B + 54), .int za, .int zb, .int zc, .int zd] 74 (pm_cat (fun _ => none) 54 (l_k_model B)) (pm_Qi (fun v _ _ => v = v_person za zb zc zd)) := by
  refine pm_enter 3 (by decide) (Nat.le_of_ble_eq_true rfl) rfl (fun G hG hR hF => ?_)
  refine pm_iloadn hG dX12_person_0 rfl ?_
  refine pm_iconst (v := 0) hG dX12_person_1 (by decide) ?_
  refine pm_iconst (v := 1) hG dX12_person_2 (by decide) ?_
  refine pm_callS (As := [.int za, .int 0, .int 1]) (rest := []) hG hR dX12_person_3 (lkX12_68 _ rfl) okS_X12_in (mx_in (d := 3)) rfl rfl hdd (by decide) (by decide) (by decide) (pm_ki (fun v σ' cnt' hq => ?_))
  obtain ⟨rfl, rfl, rfl⟩ := hq
  by_cases c1 : za < 0 ∨ 1 < za
  · refine pm_top (v := 0) (if_pos c1) ?_
    refine pm_if_eq (tgt := 73) hG dX12_person_6 rfl (fun _ => ?_) (fun q => absurd q (by decide))
    refine pm_iconst (v := 0) hG dX12_person_73 (by decide) ?_
    refine pm_istoreXi (loc' := [some (.ref (B + 54)), some (.int za), some (.int zb), some (.int zc), some (.int zd), some (.int 0), none, none]) hG dX12_person_74 (by decide) (pm_c1b rfl) rfl ?_
    refine pm_iloadi hG dX12_person_76 rfl ?_
    refine pm_if_ne (tgt := 87) hG dX12_person_78 rfl (fun q => absurd q (by decide)) (fun _ => ?_)
    refine pm_aloadn hG dX12_person_81 rfl ?_
    refine pm_iconst (v := 1) hG dX12_person_82 (by decide) ?_
    refine pm_callV (As := [.int 1]) (rest := []) hG hR dX12_person_83 (lkX12_80 _ rfl) okV_X12_finds rfl rfl (fm_X12_finds_2 (d := 3) (by decide)) rfl rfl hdd (by decide) (by decide) (by decide) (pm_ki (fun v σ' cnt' hq => ?_))
    obtain ⟨rfl, rfl, rfl⟩ := hq
    exact pm_iret hG hF dX12_person_86 rfl (by decide) (by decide) ⟨_, rfl, (by clear hF hR hG; first | rfl | (unfold v_person; (repeat' split) <;> first | rfl | (exfalso; simp only [Int32.lt_iff_toInt_lt, Int32.le_iff_toInt_le, ← Int32.toInt_inj, Int32.toInt_zero, L_1, L_m1000001] at *; omega) | (apply Int32.toInt_inj.mp; simp only [Int32.lt_iff_toInt_lt, Int32.le_iff_toInt_le, ← Int32.toInt_inj, Int32.toInt_zero, L_1, L_m1000001] at *; omega)))⟩
  · refine pm_top (v := 1) (if_neg c1) ?_
    refine pm_if_eq (tgt := 73) hG dX12_person_6 rfl (fun q => absurd q (by decide)) (fun _ => ?_)
    refine pm_iloadn hG dX12_person_9 rfl ?_
    refine pm_sipush (v := (-20000)) hG dX12_person_10 (by decide) ?_
    refine pm_aloadn hG dX12_person_13 rfl ?_
    refine pm_getf hG dX12_person_14 (flX12_7 _ rfl) rfl rfl ?_
    refine pm_bipush (v := 8) hG dX12_person_17 (by decide) ?_
    refine pm_ialdX (v := 0) hG dX12_person_19 rfl (pm_inb (by decide)) (by rfl) ?_
    refine pm_callS (As := [.int zb, .int (-20000), .int 0]) (rest := []) hG hR dX12_person_20 (lkX12_68 _ rfl) okS_X12_in (mx_in (d := 3)) rfl rfl hdd (by decide) (by decide) (by decide) (pm_ki (fun v σ' cnt' hq => ?_))
    obtain ⟨rfl, rfl, rfl⟩ := hq
    by_cases c2 : zb < (-20000) ∨ 0 < zb
    · refine pm_top (v := 0) (if_pos c2) ?_
      refine pm_if_eq (tgt := 73) hG dX12_person_23 rfl (fun _ => ?_) (fun q => absurd q (by decide))
      refine pm_iconst (v := 0) hG dX12_person_73 (by decide) ?_
      refine pm_istoreXi (loc' := [some (.ref (B + 54)), some (.int za), some (.int zb), some (.int zc), some (.int zd), some (.int 0), none, none]) hG dX12_person_74 (by decide) (pm_c1b rfl) rfl ?_
      refine pm_iloadi hG dX12_person_76 rfl ?_
      refine pm_if_ne (tgt := 87) hG dX12_person_78 rfl (fun q => absurd q (by decide)) (fun _ => ?_)
      refine pm_aloadn hG dX12_person_81 rfl ?_
      refine pm_iconst (v := 1) hG dX12_person_82 (by decide) ?_
      refine pm_callV (As := [.int 1]) (rest := []) hG hR dX12_person_83 (lkX12_80 _ rfl) okV_X12_finds rfl rfl (fm_X12_finds_2 (d := 3) (by decide)) rfl rfl hdd (by decide) (by decide) (by decide) (pm_ki (fun v σ' cnt' hq => ?_))
      obtain ⟨rfl, rfl, rfl⟩ := hq
      exact pm_iret hG hF dX12_person_86 rfl (by decide) (by decide) ⟨_, rfl, (by clear hF hR hG; first | rfl | (unfold v_person; (repeat' split) <;> first | rfl | (exfalso; simp only [Int32.lt_iff_toInt_lt, Int32.le_iff_toInt_le, ← Int32.toInt_inj, Int32.toInt_zero, L_1, L_m1000001, L_m20000] at *; omega) | (apply Int32.toInt_inj.mp; simp only [Int32.lt_iff_toInt_lt, Int32.le_iff_toInt_le, ← Int32.toInt_inj, Int32.toInt_zero, L_1, L_m1000001, L_m20000] at *; omega)))⟩
    · refine pm_top (v := 1) (if_neg c2) ?_
      refine pm_if_eq (tgt := 73) hG dX12_person_23 rfl (fun q => absurd q (by decide)) (fun _ => ?_)
      refine pm_iloadn hG dX12_person_26 rfl ?_
      refine pm_if_lt (tgt := 73) hG dX12_person_27 rfl (fun c3 => ?_) (fun c3 => ?_)
      · refine pm_iconst (v := 0) hG dX12_person_73 (by decide) ?_
        refine pm_istoreXi (loc' := [some (.ref (B + 54)), some (.int za), some (.int zb), some (.int zc), some (.int zd), some (.int 0), none, none]) hG dX12_person_74 (by decide) (pm_c1b rfl) rfl ?_
        refine pm_iloadi hG dX12_person_76 rfl ?_
        refine pm_if_ne (tgt := 87) hG dX12_person_78 rfl (fun q => absurd q (by decide)) (fun _ => ?_)
        refine pm_aloadn hG dX12_person_81 rfl ?_
        refine pm_iconst (v := 1) hG dX12_person_82 (by decide) ?_
        refine pm_callV (As := [.int 1]) (rest := []) hG hR dX12_person_83 (lkX12_80 _ rfl) okV_X12_finds rfl rfl (fm_X12_finds_2 (d := 3) (by decide)) rfl rfl hdd (by decide) (by decide) (by decide) (pm_ki (fun v σ' cnt' hq => ?_))
        obtain ⟨rfl, rfl, rfl⟩ := hq
        exact pm_iret hG hF dX12_person_86 rfl (by decide) (by decide) ⟨_, rfl, (by clear hF hR hG; first | rfl | (unfold v_person; (repeat' split) <;> first | rfl | (exfalso; simp only [Int32.lt_iff_toInt_lt, Int32.le_iff_toInt_le, ← Int32.toInt_inj, Int32.toInt_zero, L_1, L_m1000001, L_m20000] at *; omega) | (apply Int32.toInt_inj.mp; simp only [Int32.lt_iff_toInt_lt, Int32.le_iff_toInt_le, ← Int32.toInt_inj, Int32.toInt_zero, L_1, L_m1000001, L_m20000] at *; omega)))⟩
      · refine pm_aloadn hG dX12_person_30 rfl ?_
        refine pm_iloadn hG dX12_person_31 rfl ?_
        refine pm_bipush (v := 100) hG dX12_person_32 (by decide) ?_
        refine pm_idiv hG dX12_person_34 (by decide) ?_
        refine pm_iconst (v := 1) hG dX12_person_35 (by decide) ?_
        refine pm_isub hG dX12_person_36 ?_
        refine pm_iconst (v := 1) hG dX12_person_37 (by decide) ?_
        refine pm_iloadn hG dX12_person_38 rfl ?_
        refine pm_callV (As := [.int ((zc / 100) - 1), .int 1, .int zb]) (rest := []) hG hR dX12_person_39 (lkX12_94 _ rfl) okV_X12_isParent rfl rfl (fm_X12_isParent_3 (d := 3) (by decide)) rfl rfl hdd (by decide) (by decide) (by decide) (pm_ki (fun v σ' cnt' hq => ?_))
        rcases hq with ⟨c4, rfl, rfl, rfl⟩ | ⟨c5, rfl, rfl, rfl⟩
        · refine pm_if_eq (tgt := 73) hG dX12_person_42 rfl (fun q => absurd q (by decide)) (fun _ => ?_)
          refine pm_aloadn hG dX12_person_45 rfl ?_
          refine pm_iloadn hG dX12_person_46 rfl ?_
          refine pm_bipush (v := 100) hG dX12_person_47 (by decide) ?_
          refine pm_irem hG dX12_person_49 (by decide) ?_
          refine pm_iconst (v := 1) hG dX12_person_50 (by decide) ?_
          refine pm_isub hG dX12_person_51 ?_
          refine pm_iconst (v := 0) hG dX12_person_52 (by decide) ?_
          refine pm_iloadn hG dX12_person_53 rfl ?_
          refine pm_callV (As := [.int ((zc - zc / 100 * 100) - 1), .int 0, .int zb]) (rest := []) hG hR dX12_person_54 (lkX12_94 _ rfl) okV_X12_isParent rfl rfl (fm_X12_isParent_5 (d := 3) (by decide)) rfl rfl hdd (by decide) (by decide) (by decide) (pm_ki (fun v σ' cnt' hq => ?_))
          rcases hq with ⟨c6, rfl, rfl, rfl⟩ | ⟨c7, rfl, rfl, rfl⟩
          · refine pm_if_eq (tgt := 73) hG dX12_person_57 rfl (fun q => absurd q (by decide)) (fun _ => ?_)
            refine pm_aloadn hG dX12_person_60 rfl ?_
            refine pm_iloadi hG dX12_person_61 rfl ?_
            refine pm_callV (As := [.int zd]) (rest := []) hG hR dX12_person_63 (lkX12_84 _ rfl) okV_X12_isTown rfl rfl (fm_X12_isTown_7 (d := 3) (by decide)) rfl rfl hdd (by decide) (by decide) (by decide) (pm_ki (fun v σ' cnt' hq => ?_))
            obtain ⟨rfl, rfl, rfl⟩ := hq
            refine pm_if_eq (tgt := 73) hG dX12_person_66 rfl (fun _ => ?_) (fun q => absurd q (by decide))
            refine pm_iconst (v := 0) hG dX12_person_73 (by decide) ?_
            refine pm_istoreXi (loc' := [some (.ref (B + 54)), some (.int za), some (.int zb), some (.int zc), some (.int zd), some (.int 0), none, none]) hG dX12_person_74 (by decide) (pm_c1b rfl) rfl ?_
            refine pm_iloadi hG dX12_person_76 rfl ?_
            refine pm_if_ne (tgt := 87) hG dX12_person_78 rfl (fun q => absurd q (by decide)) (fun _ => ?_)
            refine pm_aloadn hG dX12_person_81 rfl ?_
            refine pm_iconst (v := 1) hG dX12_person_82 (by decide) ?_
            refine pm_callV (As := [.int 1]) (rest := []) hG hR dX12_person_83 (lkX12_80 _ rfl) okV_X12_finds rfl rfl (fm_X12_finds_2 (d := 3) (by decide)) rfl rfl hdd (by decide) (by decide) (by decide) (pm_ki (fun v σ' cnt' hq => ?_))
            obtain ⟨rfl, rfl, rfl⟩ := hq
            exact pm_iret hG hF dX12_person_86 rfl (by decide) (by decide) ⟨_, rfl, (by clear hF hR hG; first | rfl | (unfold v_person; (repeat' split) <;> first | rfl | (exfalso; simp only [Int32.lt_iff_toInt_lt, Int32.le_iff_toInt_le, ← Int32.toInt_inj, Int32.toInt_zero, L_1, L_m1, L_m1000001, L_m20000] at *; omega) | (apply Int32.toInt_inj.mp; simp only [Int32.lt_iff_toInt_lt, Int32.le_iff_toInt_le, ← Int32.toInt_inj, Int32.toInt_zero, L_1, L_m1, L_m1000001, L_m20000] at *; omega)))⟩
          · refine pm_if_eq (tgt := 73) hG dX12_person_57 rfl (fun _ => ?_) (fun q => absurd q (by decide))
            refine pm_iconst (v := 0) hG dX12_person_73 (by decide) ?_
            refine pm_istoreXi (loc' := [some (.ref (B + 54)), some (.int za), some (.int zb), some (.int zc), some (.int zd), some (.int 0), none, none]) hG dX12_person_74 (by decide) (pm_c1b rfl) rfl ?_
            refine pm_iloadi hG dX12_person_76 rfl ?_
            refine pm_if_ne (tgt := 87) hG dX12_person_78 rfl (fun q => absurd q (by decide)) (fun _ => ?_)
            refine pm_aloadn hG dX12_person_81 rfl ?_
            refine pm_iconst (v := 1) hG dX12_person_82 (by decide) ?_
            refine pm_callV (As := [.int 1]) (rest := []) hG hR dX12_person_83 (lkX12_80 _ rfl) okV_X12_finds rfl rfl (fm_X12_finds_2 (d := 3) (by decide)) rfl rfl hdd (by decide) (by decide) (by decide) (pm_ki (fun v σ' cnt' hq => ?_))
            obtain ⟨rfl, rfl, rfl⟩ := hq
            exact pm_iret hG hF dX12_person_86 rfl (by decide) (by decide) ⟨_, rfl, (by clear hF hR hG; first | rfl | (unfold v_person; (repeat' split) <;> first | rfl | (exfalso; simp only [Int32.lt_iff_toInt_lt, Int32.le_iff_toInt_le, ← Int32.toInt_inj, Int32.toInt_zero, L_1, L_m1, L_m1000001, L_m20000] at *; omega) | (apply Int32.toInt_inj.mp; simp only [Int32.lt_iff_toInt_lt, Int32.le_iff_toInt_le, ← Int32.toInt_inj, Int32.toInt_zero, L_1, L_m1, L_m1000001, L_m20000] at *; omega)))⟩
        · refine pm_if_eq (tgt := 73) hG dX12_person_42 rfl (fun _ => ?_) (fun q => absurd q (by decide))
          refine pm_iconst (v := 0) hG dX12_person_73 (by decide) ?_
          refine pm_istoreXi (loc' := [some (.ref (B + 54)), some (.int za), some (.int zb), some (.int zc), some (.int zd), some (.int 0), none, none]) hG dX12_person_74 (by decide) (pm_c1b rfl) rfl ?_
          refine pm_iloadi hG dX12_person_76 rfl ?_
          refine pm_if_ne (tgt := 87) hG dX12_person_78 rfl (fun q => absurd q (by decide)) (fun _ => ?_)
          refine pm_aloadn hG dX12_person_81 rfl ?_
          refine pm_iconst (v := 1) hG dX12_person_82 (by decide) ?_
          refine pm_callV (As := [.int 1]) (rest := []) hG hR dX12_person_83 (lkX12_80 _ rfl) okV_X12_finds rfl rfl (fm_X12_finds_2 (d := 3) (by decide)) rfl rfl hdd (by decide) (by decide) (by decide) (pm_ki (fun v σ' cnt' hq => ?_))
          obtain ⟨rfl, rfl, rfl⟩ := hq
          exact pm_iret hG hF dX12_person_86 rfl (by decide) (by decide) ⟨_, rfl, (by clear hF hR hG; first | rfl | (unfold v_person; (repeat' split) <;> first | rfl | (exfalso; simp only [Int32.lt_iff_toInt_lt, Int32.le_iff_toInt_le, ← Int32.toInt_inj, Int32.toInt_zero, L_1, L_m1, L_m1000001, L_m20000] at *; omega) | (apply Int32.toInt_inj.mp; simp only [Int32.lt_iff_toInt_lt, Int32.le_iff_toInt_le, ← Int32.toInt_inj, Int32.toInt_zero, L_1, L_m1, L_m1000001, L_m20000] at *; omega)))⟩

set_option maxRecDepth 100000 in
set_option maxHeartbeats 4000000 in
theorem fm_X12_isPerson_8 {B : Nat} {za : Int32} {d : Nat} (hdd : 2 ≤ d) : pm_met mX12_isPerson d 0 0 B [.ref (B + 54), .int za] 74 (pm_cat (fun _ => none) 54 (l_k_model B)) (pm_Qi (fun v σ' cnt' => v = 0 ∧ σ' = (pm_cat (fun _ => none) 54 (l_k_model B)) ∧ cnt' = 74)) := by
  refine pm_enter 0 (by decide) (Nat.le_of_ble_eq_true rfl) rfl (fun G hG hR hF => ?_)
  refine pm_iloadn hG dX12_isPerson_0 rfl ?_
  refine pm_iconst (v := 0) hG dX12_isPerson_1 (by decide) ?_
  refine pm_aloadn hG dX12_isPerson_2 rfl ?_
  refine pm_getf hG dX12_isPerson_3 (flX12_7 _ rfl) rfl rfl ?_
  refine pm_iconst (v := 2) hG dX12_isPerson_6 (by decide) ?_
  refine pm_ialdX (v := 0) hG dX12_isPerson_7 rfl (pm_inb (by decide)) (by rfl) ?_
  refine pm_iconst (v := 1) hG dX12_isPerson_8 (by decide) ?_
  refine pm_isub hG dX12_isPerson_9 ?_
  refine pm_top (v := (-1)) (by decide) ?_
  refine pm_callS (As := [.int za, .int 0, .int (-1)]) (rest := []) hG hR dX12_isPerson_10 (lkX12_68 _ rfl) okS_X12_in (mx_in (d := 1)) rfl rfl hdd (by decide) (by decide) (by decide) (pm_ki (fun v σ' cnt' hq => ?_))
  obtain ⟨rfl, rfl, rfl⟩ := hq
  refine pm_top (v := 0) (pm_in0 _) ?_
  exact pm_zret hG hF dX12_isPerson_13 rfl (by rfl) (by decide) (by decide) ⟨_, rfl, ⟨rfl, rfl, rfl⟩⟩

set_option maxRecDepth 100000 in
set_option maxHeartbeats 8000000 in
theorem om_die {B : Nat} {za : Int32} {d : Nat} (hdd : 3 ≤ d) : pm_met mX12_die d 0 0 B [.ref (B + 54), .int za] 74 (pm_cat (fun _ => none) 54 (l_k_model B)) (pm_Qi (fun v _ _ => v = v_die za)) := by
  refine pm_enter 3 (by decide) (Nat.le_of_ble_eq_true rfl) rfl (fun G hG hR hF => ?_)
  refine pm_aloadn hG dX12_die_0 rfl ?_
  refine pm_iloadn hG dX12_die_1 rfl ?_
  refine pm_callV (As := [.int za]) (rest := []) hG hR dX12_die_2 (lkX12_91 _ rfl) okV_X12_isPerson rfl rfl (fm_X12_isPerson_8 (d := 2) (by decide)) rfl rfl hdd (by decide) (by decide) (by decide) (pm_ki (fun v σ' cnt' hq => ?_))
  obtain ⟨rfl, rfl, rfl⟩ := hq
  refine pm_if_ne (tgt := 14) hG dX12_die_5 rfl (fun q => absurd q (by decide)) (fun _ => ?_)
  refine pm_aloadn hG dX12_die_8 rfl ?_
  refine pm_iconst (v := 1) hG dX12_die_9 (by decide) ?_
  refine pm_callV (As := [.int 1]) (rest := []) hG hR dX12_die_10 (lkX12_80 _ rfl) okV_X12_finds rfl rfl (fm_X12_finds_2 (d := 2) (by decide)) rfl rfl hdd (by decide) (by decide) (by decide) (pm_ki (fun v σ' cnt' hq => ?_))
  obtain ⟨rfl, rfl, rfl⟩ := hq
  exact pm_iret hG hF dX12_die_13 rfl (by decide) (by decide) ⟨_, rfl, (by clear hF hR hG; first | rfl | (unfold v_die; (repeat' split) <;> first | rfl | (exfalso; simp only [Int32.lt_iff_toInt_lt, Int32.le_iff_toInt_le, ← Int32.toInt_inj, Int32.toInt_zero, L_m1000001] at *; omega) | (apply Int32.toInt_inj.mp; simp only [Int32.lt_iff_toInt_lt, Int32.le_iff_toInt_le, ← Int32.toInt_inj, Int32.toInt_zero, L_m1000001] at *; omega)))⟩

set_option maxRecDepth 100000 in
set_option maxHeartbeats 8000000 in
theorem om_go {B : Nat} {za zb : Int32} {d : Nat} (hdd : 3 ≤ d) : pm_met mX12_go d 0 0 B [.ref (B + 54), .int za, .int zb] 74 (pm_cat (fun _ => none) 54 (l_k_model B)) (pm_Qi (fun v _ _ => v = v_go za zb)) := by
  refine pm_enter 1 (by decide) (Nat.le_of_ble_eq_true rfl) rfl (fun G hG hR hF => ?_)
  refine pm_aloadn hG dX12_go_0 rfl ?_
  refine pm_iloadn hG dX12_go_1 rfl ?_
  refine pm_callV (As := [.int za]) (rest := []) hG hR dX12_go_2 (lkX12_91 _ rfl) okV_X12_isPerson rfl rfl (fm_X12_isPerson_8 (d := 2) (by decide)) rfl rfl hdd (by decide) (by decide) (by decide) (pm_ki (fun v σ' cnt' hq => ?_))
  obtain ⟨rfl, rfl, rfl⟩ := hq
  refine pm_if_eq (tgt := 16) hG dX12_go_5 rfl (fun _ => ?_) (fun q => absurd q (by decide))
  refine pm_aloadn hG dX12_go_16 rfl ?_
  refine pm_iconst (v := 1) hG dX12_go_17 (by decide) ?_
  refine pm_callV (As := [.int 1]) (rest := []) hG hR dX12_go_18 (lkX12_80 _ rfl) okV_X12_finds rfl rfl (fm_X12_finds_2 (d := 2) (by decide)) rfl rfl hdd (by decide) (by decide) (by decide) (pm_ki (fun v σ' cnt' hq => ?_))
  obtain ⟨rfl, rfl, rfl⟩ := hq
  exact pm_iret hG hF dX12_go_21 rfl (by decide) (by decide) ⟨_, rfl, (by clear hF hR hG; first | rfl | (unfold v_go; (repeat' split) <;> first | rfl | (exfalso; simp only [Int32.lt_iff_toInt_lt, Int32.le_iff_toInt_le, ← Int32.toInt_inj, Int32.toInt_zero, L_m1000001] at *; omega) | (apply Int32.toInt_inj.mp; simp only [Int32.lt_iff_toInt_lt, Int32.le_iff_toInt_le, ← Int32.toInt_inj, Int32.toInt_zero, L_m1000001] at *; omega)))⟩

set_option maxRecDepth 100000 in
set_option maxHeartbeats 8000000 in
theorem om_about {B : Nat} {za zb : Int32} {d : Nat} (hdd : 3 ≤ d) : pm_met mX12_about d 0 0 B [.ref (B + 54), .int za, .int zb] 74 (pm_cat (fun _ => none) 54 (l_k_model B)) (pm_Qi (fun v _ _ => v = v_about za zb)) := by
  refine pm_enter 0 (by decide) (Nat.le_of_ble_eq_true rfl) rfl (fun G hG hR hF => ?_)
  refine pm_aloadn hG dX12_about_0 rfl ?_
  refine pm_iloadn hG dX12_about_1 rfl ?_
  refine pm_callV (As := [.int za]) (rest := []) hG hR dX12_about_2 (lkX12_91 _ rfl) okV_X12_isPerson rfl rfl (fm_X12_isPerson_8 (d := 2) (by decide)) rfl rfl hdd (by decide) (by decide) (by decide) (pm_ki (fun v σ' cnt' hq => ?_))
  obtain ⟨rfl, rfl, rfl⟩ := hq
  refine pm_if_ne (tgt := 14) hG dX12_about_5 rfl (fun q => absurd q (by decide)) (fun _ => ?_)
  refine pm_aloadn hG dX12_about_8 rfl ?_
  refine pm_iconst (v := 1) hG dX12_about_9 (by decide) ?_
  refine pm_callV (As := [.int 1]) (rest := []) hG hR dX12_about_10 (lkX12_80 _ rfl) okV_X12_finds rfl rfl (fm_X12_finds_2 (d := 2) (by decide)) rfl rfl hdd (by decide) (by decide) (by decide) (pm_ki (fun v σ' cnt' hq => ?_))
  obtain ⟨rfl, rfl, rfl⟩ := hq
  exact pm_iret hG hF dX12_about_13 rfl (by decide) (by decide) ⟨_, rfl, (by clear hF hR hG; first | rfl | (unfold v_about; (repeat' split) <;> first | rfl | (exfalso; simp only [Int32.lt_iff_toInt_lt, Int32.le_iff_toInt_le, ← Int32.toInt_inj, Int32.toInt_zero, L_m1000001] at *; omega) | (apply Int32.toInt_inj.mp; simp only [Int32.lt_iff_toInt_lt, Int32.le_iff_toInt_le, ← Int32.toInt_inj, Int32.toInt_zero, L_m1000001] at *; omega)))⟩

set_option maxRecDepth 100000 in
set_option maxHeartbeats 8000000 in
theorem om_pay {B : Nat} {za zb : Int32} {d : Nat} (hdd : 3 ≤ d) : pm_met mX12_pay d 0 0 B [.ref (B + 54), .int za, .int zb] 74 (pm_cat (fun _ => none) 54 (l_k_model B)) (pm_Qi (fun v _ _ => v = v_pay za zb)) := by
  refine pm_enter 0 (by decide) (Nat.le_of_ble_eq_true rfl) rfl (fun G hG hR hF => ?_)
  refine pm_aloadn hG dX12_pay_0 rfl ?_
  refine pm_iloadn hG dX12_pay_1 rfl ?_
  refine pm_callV (As := [.int za]) (rest := []) hG hR dX12_pay_2 (lkX12_91 _ rfl) okV_X12_isPerson rfl rfl (fm_X12_isPerson_8 (d := 2) (by decide)) rfl rfl hdd (by decide) (by decide) (by decide) (pm_ki (fun v σ' cnt' hq => ?_))
  obtain ⟨rfl, rfl, rfl⟩ := hq
  refine pm_if_eq (tgt := 19) hG dX12_pay_5 rfl (fun _ => ?_) (fun q => absurd q (by decide))
  refine pm_aloadn hG dX12_pay_19 rfl ?_
  refine pm_iconst (v := 1) hG dX12_pay_20 (by decide) ?_
  refine pm_callV (As := [.int 1]) (rest := []) hG hR dX12_pay_21 (lkX12_80 _ rfl) okV_X12_finds rfl rfl (fm_X12_finds_2 (d := 2) (by decide)) rfl rfl hdd (by decide) (by decide) (by decide) (pm_ki (fun v σ' cnt' hq => ?_))
  obtain ⟨rfl, rfl, rfl⟩ := hq
  exact pm_iret hG hF dX12_pay_24 rfl (by decide) (by decide) ⟨_, rfl, (by clear hF hR hG; first | rfl | (unfold v_pay; (repeat' split) <;> first | rfl | (exfalso; simp only [Int32.lt_iff_toInt_lt, Int32.le_iff_toInt_le, ← Int32.toInt_inj, Int32.toInt_zero, L_m1000001] at *; omega) | (apply Int32.toInt_inj.mp; simp only [Int32.lt_iff_toInt_lt, Int32.le_iff_toInt_le, ← Int32.toInt_inj, Int32.toInt_zero, L_m1000001] at *; omega)))⟩

set_option maxRecDepth 100000 in
set_option maxHeartbeats 8000000 in
theorem om_men {B : Nat} {za zb : Int32} {d : Nat} (hdd : 3 ≤ d) : pm_met mX12_men d 0 0 B [.ref (B + 54), .int za, .int zb] 74 (pm_cat (fun _ => none) 54 (l_k_model B)) (pm_Qi (fun v _ _ => v = v_men za zb)) := by
  refine pm_enter 0 (by decide) (Nat.le_of_ble_eq_true rfl) rfl (fun G hG hR hF => ?_)
  refine pm_aloadn hG dX12_men_0 rfl ?_
  refine pm_iloadn hG dX12_men_1 rfl ?_
  refine pm_callV (As := [.int za]) (rest := []) hG hR dX12_men_2 (lkX12_91 _ rfl) okV_X12_isPerson rfl rfl (fm_X12_isPerson_8 (d := 2) (by decide)) rfl rfl hdd (by decide) (by decide) (by decide) (pm_ki (fun v σ' cnt' hq => ?_))
  obtain ⟨rfl, rfl, rfl⟩ := hq
  refine pm_if_eq (tgt := 19) hG dX12_men_5 rfl (fun _ => ?_) (fun q => absurd q (by decide))
  refine pm_aloadn hG dX12_men_19 rfl ?_
  refine pm_iconst (v := 1) hG dX12_men_20 (by decide) ?_
  refine pm_callV (As := [.int 1]) (rest := []) hG hR dX12_men_21 (lkX12_80 _ rfl) okV_X12_finds rfl rfl (fm_X12_finds_2 (d := 2) (by decide)) rfl rfl hdd (by decide) (by decide) (by decide) (pm_ki (fun v σ' cnt' hq => ?_))
  obtain ⟨rfl, rfl, rfl⟩ := hq
  exact pm_iret hG hF dX12_men_24 rfl (by decide) (by decide) ⟨_, rfl, (by clear hF hR hG; first | rfl | (unfold v_men; (repeat' split) <;> first | rfl | (exfalso; simp only [Int32.lt_iff_toInt_lt, Int32.le_iff_toInt_le, ← Int32.toInt_inj, Int32.toInt_zero, L_m1000001] at *; omega) | (apply Int32.toInt_inj.mp; simp only [Int32.lt_iff_toInt_lt, Int32.le_iff_toInt_le, ← Int32.toInt_inj, Int32.toInt_zero, L_m1000001] at *; omega)))⟩

set_option maxRecDepth 100000 in
set_option maxHeartbeats 4000000 in
theorem fm_X12_isPower_9 {B : Nat} {za : Int32} {d : Nat} (hdd : 2 ≤ d) : pm_met mX12_isPower d 0 0 B [.ref (B + 54), .int za] 74 (pm_cat (fun _ => none) 54 (l_k_model B)) (pm_Qi (fun v σ' cnt' => v = 0 ∧ σ' = (pm_cat (fun _ => none) 54 (l_k_model B)) ∧ cnt' = 74)) := by
  refine pm_enter 0 (by decide) (Nat.le_of_ble_eq_true rfl) rfl (fun G hG hR hF => ?_)
  refine pm_iloadn hG dX12_isPower_0 rfl ?_
  refine pm_iconst (v := 0) hG dX12_isPower_1 (by decide) ?_
  refine pm_aloadn hG dX12_isPower_2 rfl ?_
  refine pm_getf hG dX12_isPower_3 (flX12_7 _ rfl) rfl rfl ?_
  refine pm_iconst (v := 3) hG dX12_isPower_6 (by decide) ?_
  refine pm_ialdX (v := 0) hG dX12_isPower_7 rfl (pm_inb (by decide)) (by rfl) ?_
  refine pm_iconst (v := 1) hG dX12_isPower_8 (by decide) ?_
  refine pm_isub hG dX12_isPower_9 ?_
  refine pm_top (v := (-1)) (by decide) ?_
  refine pm_callS (As := [.int za, .int 0, .int (-1)]) (rest := []) hG hR dX12_isPower_10 (lkX12_68 _ rfl) okS_X12_in (mx_in (d := 1)) rfl rfl hdd (by decide) (by decide) (by decide) (pm_ki (fun v σ' cnt' hq => ?_))
  obtain ⟨rfl, rfl, rfl⟩ := hq
  refine pm_top (v := 0) (pm_in0 _) ?_
  exact pm_zret hG hF dX12_isPower_13 rfl (by rfl) (by decide) (by decide) ⟨_, rfl, ⟨rfl, rfl, rfl⟩⟩

set_option maxRecDepth 100000 in
set_option maxHeartbeats 8000000 in
theorem om_as {B : Nat} {za zb : Int32} {d : Nat} (hdd : 3 ≤ d) : pm_met mX12_as d 0 0 B [.ref (B + 54), .int za, .int zb] 74 (pm_cat (fun _ => none) 54 (l_k_model B)) (pm_Qi (fun v _ _ => v = v_as za zb)) := by
  refine pm_enter 0 (by decide) (Nat.le_of_ble_eq_true rfl) rfl (fun G hG hR hF => ?_)
  refine pm_aloadn hG dX12_as_0 rfl ?_
  refine pm_iloadn hG dX12_as_1 rfl ?_
  refine pm_callV (As := [.int za]) (rest := []) hG hR dX12_as_2 (lkX12_132 _ rfl) okV_X12_isPower rfl rfl (fm_X12_isPower_9 (d := 2) (by decide)) rfl rfl hdd (by decide) (by decide) (by decide) (pm_ki (fun v σ' cnt' hq => ?_))
  obtain ⟨rfl, rfl, rfl⟩ := hq
  refine pm_if_eq (tgt := 17) hG dX12_as_5 rfl (fun _ => ?_) (fun q => absurd q (by decide))
  refine pm_aloadn hG dX12_as_17 rfl ?_
  refine pm_iconst (v := 1) hG dX12_as_18 (by decide) ?_
  refine pm_callV (As := [.int 1]) (rest := []) hG hR dX12_as_19 (lkX12_80 _ rfl) okV_X12_finds rfl rfl (fm_X12_finds_2 (d := 2) (by decide)) rfl rfl hdd (by decide) (by decide) (by decide) (pm_ki (fun v σ' cnt' hq => ?_))
  obtain ⟨rfl, rfl, rfl⟩ := hq
  exact pm_iret hG hF dX12_as_22 rfl (by decide) (by decide) ⟨_, rfl, (by clear hF hR hG; first | rfl | (unfold v_as; (repeat' split) <;> first | rfl | (exfalso; simp only [Int32.lt_iff_toInt_lt, Int32.le_iff_toInt_le, ← Int32.toInt_inj, Int32.toInt_zero, L_m1000001] at *; omega) | (apply Int32.toInt_inj.mp; simp only [Int32.lt_iff_toInt_lt, Int32.le_iff_toInt_le, ← Int32.toInt_inj, Int32.toInt_zero, L_m1000001] at *; omega)))⟩

set_option maxRecDepth 100000 in
set_option maxHeartbeats 8000000 in
theorem om_held {B : Nat} {za zb : Int32} {d : Nat} (hdd : 3 ≤ d) : pm_met mX12_held d 0 0 B [.ref (B + 54), .int za, .int zb] 74 (pm_cat (fun _ => none) 54 (l_k_model B)) (pm_Qi (fun v _ _ => v = v_held za zb)) := by
  refine pm_enter 0 (by decide) (Nat.le_of_ble_eq_true rfl) rfl (fun G hG hR hF => ?_)
  refine pm_aloadn hG dX12_held_0 rfl ?_
  refine pm_iloadn hG dX12_held_1 rfl ?_
  refine pm_callV (As := [.int za]) (rest := []) hG hR dX12_held_2 (lkX12_132 _ rfl) okV_X12_isPower rfl rfl (fm_X12_isPower_9 (d := 2) (by decide)) rfl rfl hdd (by decide) (by decide) (by decide) (pm_ki (fun v σ' cnt' hq => ?_))
  obtain ⟨rfl, rfl, rfl⟩ := hq
  refine pm_if_ne (tgt := 14) hG dX12_held_5 rfl (fun q => absurd q (by decide)) (fun _ => ?_)
  refine pm_aloadn hG dX12_held_8 rfl ?_
  refine pm_iconst (v := 1) hG dX12_held_9 (by decide) ?_
  refine pm_callV (As := [.int 1]) (rest := []) hG hR dX12_held_10 (lkX12_80 _ rfl) okV_X12_finds rfl rfl (fm_X12_finds_2 (d := 2) (by decide)) rfl rfl hdd (by decide) (by decide) (by decide) (pm_ki (fun v σ' cnt' hq => ?_))
  obtain ⟨rfl, rfl, rfl⟩ := hq
  exact pm_iret hG hF dX12_held_13 rfl (by decide) (by decide) ⟨_, rfl, (by clear hF hR hG; first | rfl | (unfold v_held; (repeat' split) <;> first | rfl | (exfalso; simp only [Int32.lt_iff_toInt_lt, Int32.le_iff_toInt_le, ← Int32.toInt_inj, Int32.toInt_zero, L_m1000001] at *; omega) | (apply Int32.toInt_inj.mp; simp only [Int32.lt_iff_toInt_lt, Int32.le_iff_toInt_le, ← Int32.toInt_inj, Int32.toInt_zero, L_m1000001] at *; omega)))⟩

set_option maxRecDepth 100000 in
set_option maxHeartbeats 8000000 in
theorem om_give {B : Nat} {za zb : Int32} {d : Nat} (hdd : 3 ≤ d) : pm_met mX12_give d 0 0 B [.ref (B + 54), .int za, .int zb] 74 (pm_cat (fun _ => none) 54 (l_k_model B)) (pm_Qi (fun v _ _ => v = v_give za zb)) := by
  refine pm_enter 1 (by decide) (Nat.le_of_ble_eq_true rfl) rfl (fun G hG hR hF => ?_)
  refine pm_aloadn hG dX12_give_0 rfl ?_
  refine pm_iloadn hG dX12_give_1 rfl ?_
  refine pm_callV (As := [.int za]) (rest := []) hG hR dX12_give_2 (lkX12_132 _ rfl) okV_X12_isPower rfl rfl (fm_X12_isPower_9 (d := 2) (by decide)) rfl rfl hdd (by decide) (by decide) (by decide) (pm_ki (fun v σ' cnt' hq => ?_))
  obtain ⟨rfl, rfl, rfl⟩ := hq
  refine pm_if_eq (tgt := 29) hG dX12_give_5 rfl (fun _ => ?_) (fun q => absurd q (by decide))
  refine pm_aloadn hG dX12_give_29 rfl ?_
  refine pm_iconst (v := 1) hG dX12_give_30 (by decide) ?_
  refine pm_callV (As := [.int 1]) (rest := []) hG hR dX12_give_31 (lkX12_80 _ rfl) okV_X12_finds rfl rfl (fm_X12_finds_2 (d := 2) (by decide)) rfl rfl hdd (by decide) (by decide) (by decide) (pm_ki (fun v σ' cnt' hq => ?_))
  obtain ⟨rfl, rfl, rfl⟩ := hq
  exact pm_iret hG hF dX12_give_34 rfl (by decide) (by decide) ⟨_, rfl, (by clear hF hR hG; first | rfl | (unfold v_give; (repeat' split) <;> first | rfl | (exfalso; simp only [Int32.lt_iff_toInt_lt, Int32.le_iff_toInt_le, ← Int32.toInt_inj, Int32.toInt_zero, L_m1000001] at *; omega) | (apply Int32.toInt_inj.mp; simp only [Int32.lt_iff_toInt_lt, Int32.le_iff_toInt_le, ← Int32.toInt_inj, Int32.toInt_zero, L_m1000001] at *; omega)))⟩

set_option maxRecDepth 100000 in
set_option maxHeartbeats 8000000 in
theorem om_lend {B : Nat} {za zb zc : Int32} {d : Nat} (hdd : 3 ≤ d) : pm_met mX12_lend d 0 0 B [.ref (B + 54), .int za, .int zb, .int zc] 74 (pm_cat (fun _ => none) 54 (l_k_model B)) (pm_Qi (fun v _ _ => v = v_lend za zb zc)) := by
  refine pm_enter 0 (by decide) (Nat.le_of_ble_eq_true rfl) rfl (fun G hG hR hF => ?_)
  refine pm_aloadn hG dX12_lend_0 rfl ?_
  refine pm_iloadn hG dX12_lend_1 rfl ?_
  refine pm_callV (As := [.int za]) (rest := []) hG hR dX12_lend_2 (lkX12_132 _ rfl) okV_X12_isPower rfl rfl (fm_X12_isPower_9 (d := 2) (by decide)) rfl rfl hdd (by decide) (by decide) (by decide) (pm_ki (fun v σ' cnt' hq => ?_))
  obtain ⟨rfl, rfl, rfl⟩ := hq
  refine pm_if_eq (tgt := 41) hG dX12_lend_5 rfl (fun _ => ?_) (fun q => absurd q (by decide))
  refine pm_aloadn hG dX12_lend_41 rfl ?_
  refine pm_iconst (v := 1) hG dX12_lend_42 (by decide) ?_
  refine pm_callV (As := [.int 1]) (rest := []) hG hR dX12_lend_43 (lkX12_80 _ rfl) okV_X12_finds rfl rfl (fm_X12_finds_2 (d := 2) (by decide)) rfl rfl hdd (by decide) (by decide) (by decide) (pm_ki (fun v σ' cnt' hq => ?_))
  obtain ⟨rfl, rfl, rfl⟩ := hq
  exact pm_iret hG hF dX12_lend_46 rfl (by decide) (by decide) ⟨_, rfl, (by clear hF hR hG; first | rfl | (unfold v_lend; (repeat' split) <;> first | rfl | (exfalso; simp only [Int32.lt_iff_toInt_lt, Int32.le_iff_toInt_le, ← Int32.toInt_inj, Int32.toInt_zero, L_m1000001] at *; omega) | (apply Int32.toInt_inj.mp; simp only [Int32.lt_iff_toInt_lt, Int32.le_iff_toInt_le, ← Int32.toInt_inj, Int32.toInt_zero, L_m1000001] at *; omega)))⟩

set_option maxRecDepth 100000 in
set_option maxHeartbeats 8000000 in
theorem om_copy {B : Nat} {za : Int32} {d : Nat} (hdd : 3 ≤ d) : pm_met mX12_copy d 0 0 B [.ref (B + 54), .int za] 74 (pm_cat (fun _ => none) 54 (l_k_model B)) (pm_Qi (fun v _ _ => v = v_copy za)) := by
  refine pm_enter 0 (by decide) (Nat.le_of_ble_eq_true rfl) rfl (fun G hG hR hF => ?_)
  refine pm_aloadn hG dX12_copy_0 rfl ?_
  refine pm_iloadn hG dX12_copy_1 rfl ?_
  refine pm_callV (As := [.int za]) (rest := []) hG hR dX12_copy_2 (lkX12_132 _ rfl) okV_X12_isPower rfl rfl (fm_X12_isPower_9 (d := 2) (by decide)) rfl rfl hdd (by decide) (by decide) (by decide) (pm_ki (fun v σ' cnt' hq => ?_))
  obtain ⟨rfl, rfl, rfl⟩ := hq
  refine pm_if_ne (tgt := 14) hG dX12_copy_5 rfl (fun q => absurd q (by decide)) (fun _ => ?_)
  refine pm_aloadn hG dX12_copy_8 rfl ?_
  refine pm_iconst (v := 1) hG dX12_copy_9 (by decide) ?_
  refine pm_callV (As := [.int 1]) (rest := []) hG hR dX12_copy_10 (lkX12_80 _ rfl) okV_X12_finds rfl rfl (fm_X12_finds_2 (d := 2) (by decide)) rfl rfl hdd (by decide) (by decide) (by decide) (pm_ki (fun v σ' cnt' hq => ?_))
  obtain ⟨rfl, rfl, rfl⟩ := hq
  exact pm_iret hG hF dX12_copy_13 rfl (by decide) (by decide) ⟨_, rfl, (by clear hF hR hG; first | rfl | (unfold v_copy; (repeat' split) <;> first | rfl | (exfalso; simp only [Int32.lt_iff_toInt_lt, Int32.le_iff_toInt_le, ← Int32.toInt_inj, Int32.toInt_zero, L_m1000001] at *; omega) | (apply Int32.toInt_inj.mp; simp only [Int32.lt_iff_toInt_lt, Int32.le_iff_toInt_le, ← Int32.toInt_inj, Int32.toInt_zero, L_m1000001] at *; omega)))⟩

set_option maxRecDepth 100000 in
set_option maxHeartbeats 4000000 in
theorem fm_X12_isLaw_10 {B : Nat} {za : Int32} {d : Nat} (hdd : 2 ≤ d) : pm_met mX12_isLaw d 0 0 B [.ref (B + 54), .int za] 74 (pm_cat (fun _ => none) 54 (l_k_model B)) (pm_Qi (fun v σ' cnt' => v = 0 ∧ σ' = (pm_cat (fun _ => none) 54 (l_k_model B)) ∧ cnt' = 74)) := by
  refine pm_enter 0 (by decide) (Nat.le_of_ble_eq_true rfl) rfl (fun G hG hR hF => ?_)
  refine pm_iloadn hG dX12_isLaw_0 rfl ?_
  refine pm_iconst (v := 0) hG dX12_isLaw_1 (by decide) ?_
  refine pm_aloadn hG dX12_isLaw_2 rfl ?_
  refine pm_getf hG dX12_isLaw_3 (flX12_7 _ rfl) rfl rfl ?_
  refine pm_iconst (v := 4) hG dX12_isLaw_6 (by decide) ?_
  refine pm_ialdX (v := 0) hG dX12_isLaw_7 rfl (pm_inb (by decide)) (by rfl) ?_
  refine pm_iconst (v := 1) hG dX12_isLaw_8 (by decide) ?_
  refine pm_isub hG dX12_isLaw_9 ?_
  refine pm_top (v := (-1)) (by decide) ?_
  refine pm_callS (As := [.int za, .int 0, .int (-1)]) (rest := []) hG hR dX12_isLaw_10 (lkX12_68 _ rfl) okS_X12_in (mx_in (d := 1)) rfl rfl hdd (by decide) (by decide) (by decide) (pm_ki (fun v σ' cnt' hq => ?_))
  obtain ⟨rfl, rfl, rfl⟩ := hq
  refine pm_top (v := 0) (pm_in0 _) ?_
  exact pm_zret hG hF dX12_isLaw_13 rfl (by rfl) (by decide) (by decide) ⟨_, rfl, ⟨rfl, rfl, rfl⟩⟩

set_option maxRecDepth 100000 in
set_option maxHeartbeats 8000000 in
theorem om_strike {B : Nat} {za : Int32} {d : Nat} (hdd : 3 ≤ d) : pm_met mX12_strike d 0 0 B [.ref (B + 54), .int za] 74 (pm_cat (fun _ => none) 54 (l_k_model B)) (pm_Qi (fun v _ _ => v = v_strike za)) := by
  refine pm_enter 0 (by decide) (Nat.le_of_ble_eq_true rfl) rfl (fun G hG hR hF => ?_)
  refine pm_aloadn hG dX12_strike_0 rfl ?_
  refine pm_iloadn hG dX12_strike_1 rfl ?_
  refine pm_callV (As := [.int za]) (rest := []) hG hR dX12_strike_2 (lkX12_192 _ rfl) okV_X12_isLaw rfl rfl (fm_X12_isLaw_10 (d := 2) (by decide)) rfl rfl hdd (by decide) (by decide) (by decide) (pm_ki (fun v σ' cnt' hq => ?_))
  obtain ⟨rfl, rfl, rfl⟩ := hq
  refine pm_if_ne (tgt := 14) hG dX12_strike_5 rfl (fun q => absurd q (by decide)) (fun _ => ?_)
  refine pm_aloadn hG dX12_strike_8 rfl ?_
  refine pm_iconst (v := 1) hG dX12_strike_9 (by decide) ?_
  refine pm_callV (As := [.int 1]) (rest := []) hG hR dX12_strike_10 (lkX12_80 _ rfl) okV_X12_finds rfl rfl (fm_X12_finds_2 (d := 2) (by decide)) rfl rfl hdd (by decide) (by decide) (by decide) (pm_ki (fun v σ' cnt' hq => ?_))
  obtain ⟨rfl, rfl, rfl⟩ := hq
  exact pm_iret hG hF dX12_strike_13 rfl (by decide) (by decide) ⟨_, rfl, (by clear hF hR hG; first | rfl | (unfold v_strike; (repeat' split) <;> first | rfl | (exfalso; simp only [Int32.lt_iff_toInt_lt, Int32.le_iff_toInt_le, ← Int32.toInt_inj, Int32.toInt_zero, L_m1000001] at *; omega) | (apply Int32.toInt_inj.mp; simp only [Int32.lt_iff_toInt_lt, Int32.le_iff_toInt_le, ← Int32.toInt_inj, Int32.toInt_zero, L_m1000001] at *; omega)))⟩

set_option maxRecDepth 100000 in
set_option maxHeartbeats 8000000 in
theorem om_says {B : Nat} {za zb zc : Int32} {d : Nat} (hdd : 3 ≤ d) : pm_met mX12_says d 0 0 B [.ref (B + 54), .int za, .int zb, .int zc] 74 (pm_cat (fun _ => none) 54 (l_k_model B)) (pm_Qi (fun v _ _ => v = v_says za zb zc)) := by
  refine pm_enter 0 (by decide) (Nat.le_of_ble_eq_true rfl) rfl (fun G hG hR hF => ?_)
  refine pm_aloadn hG dX12_says_0 rfl ?_
  refine pm_iloadn hG dX12_says_1 rfl ?_
  refine pm_callV (As := [.int za]) (rest := []) hG hR dX12_says_2 (lkX12_192 _ rfl) okV_X12_isLaw rfl rfl (fm_X12_isLaw_10 (d := 2) (by decide)) rfl rfl hdd (by decide) (by decide) (by decide) (pm_ki (fun v σ' cnt' hq => ?_))
  obtain ⟨rfl, rfl, rfl⟩ := hq
  refine pm_if_eq (tgt := 34) hG dX12_says_5 rfl (fun _ => ?_) (fun q => absurd q (by decide))
  refine pm_aloadn hG dX12_says_34 rfl ?_
  refine pm_iconst (v := 1) hG dX12_says_35 (by decide) ?_
  refine pm_callV (As := [.int 1]) (rest := []) hG hR dX12_says_36 (lkX12_80 _ rfl) okV_X12_finds rfl rfl (fm_X12_finds_2 (d := 2) (by decide)) rfl rfl hdd (by decide) (by decide) (by decide) (pm_ki (fun v σ' cnt' hq => ?_))
  obtain ⟨rfl, rfl, rfl⟩ := hq
  exact pm_iret hG hF dX12_says_39 rfl (by decide) (by decide) ⟨_, rfl, (by clear hF hR hG; first | rfl | (unfold v_says; (repeat' split) <;> first | rfl | (exfalso; simp only [Int32.lt_iff_toInt_lt, Int32.le_iff_toInt_le, ← Int32.toInt_inj, Int32.toInt_zero, L_m1000001] at *; omega) | (apply Int32.toInt_inj.mp; simp only [Int32.lt_iff_toInt_lt, Int32.le_iff_toInt_le, ← Int32.toInt_inj, Int32.toInt_zero, L_m1000001] at *; omega)))⟩

set_option maxRecDepth 100000 in
set_option maxHeartbeats 8000000 in
theorem om_draw {B : Nat} {za zb zc : Int32} {d : Nat} (hdd : 3 ≤ d) : pm_met mX12_draw d 0 0 B [.ref (B + 54), .int za, .int zb, .int zc] 74 (pm_cat (fun _ => none) 54 (l_k_model B)) (pm_Qi (fun v _ _ => v = v_draw za zb zc)) := by
  refine pm_enter 2 (by decide) (Nat.le_of_ble_eq_true rfl) rfl (fun G hG hR hF => ?_)
  refine pm_aloadn hG dX12_draw_0 rfl ?_
  refine pm_iloadn hG dX12_draw_1 rfl ?_
  refine pm_callV (As := [.int za]) (rest := []) hG hR dX12_draw_2 (lkX12_91 _ rfl) okV_X12_isPerson rfl rfl (fm_X12_isPerson_8 (d := 2) (by decide)) rfl rfl hdd (by decide) (by decide) (by decide) (pm_ki (fun v σ' cnt' hq => ?_))
  obtain ⟨rfl, rfl, rfl⟩ := hq
  refine pm_if_eq (tgt := 28) hG dX12_draw_5 rfl (fun _ => ?_) (fun q => absurd q (by decide))
  refine pm_aloadn hG dX12_draw_28 rfl ?_
  refine pm_iconst (v := 1) hG dX12_draw_29 (by decide) ?_
  refine pm_callV (As := [.int 1]) (rest := []) hG hR dX12_draw_30 (lkX12_80 _ rfl) okV_X12_finds rfl rfl (fm_X12_finds_2 (d := 2) (by decide)) rfl rfl hdd (by decide) (by decide) (by decide) (pm_ki (fun v σ' cnt' hq => ?_))
  obtain ⟨rfl, rfl, rfl⟩ := hq
  exact pm_iret hG hF dX12_draw_33 rfl (by decide) (by decide) ⟨_, rfl, (by clear hF hR hG; first | rfl | (unfold v_draw; (repeat' split) <;> first | rfl | (exfalso; simp only [Int32.lt_iff_toInt_lt, Int32.le_iff_toInt_le, ← Int32.toInt_inj, Int32.toInt_zero, L_m1000001] at *; omega) | (apply Int32.toInt_inj.mp; simp only [Int32.lt_iff_toInt_lt, Int32.le_iff_toInt_le, ← Int32.toInt_inj, Int32.toInt_zero, L_m1000001] at *; omega)))⟩

set_option maxRecDepth 100000 in
set_option maxHeartbeats 4000000 in
theorem fm_X12_isLetter_11 {B : Nat} {za : Int32} {d : Nat} (hdd : 2 ≤ d) : pm_met mX12_isLetter d 0 0 B [.ref (B + 54), .int za] 74 (pm_cat (fun _ => none) 54 (l_k_model B)) (pm_Qi (fun v σ' cnt' => v = 0 ∧ σ' = (pm_cat (fun _ => none) 54 (l_k_model B)) ∧ cnt' = 74)) := by
  refine pm_enter 0 (by decide) (Nat.le_of_ble_eq_true rfl) rfl (fun G hG hR hF => ?_)
  refine pm_iloadn hG dX12_isLetter_0 rfl ?_
  refine pm_iconst (v := 0) hG dX12_isLetter_1 (by decide) ?_
  refine pm_aloadn hG dX12_isLetter_2 rfl ?_
  refine pm_getf hG dX12_isLetter_3 (flX12_7 _ rfl) rfl rfl ?_
  refine pm_iconst (v := 5) hG dX12_isLetter_6 (by decide) ?_
  refine pm_ialdX (v := 0) hG dX12_isLetter_7 rfl (pm_inb (by decide)) (by rfl) ?_
  refine pm_iconst (v := 1) hG dX12_isLetter_8 (by decide) ?_
  refine pm_isub hG dX12_isLetter_9 ?_
  refine pm_top (v := (-1)) (by decide) ?_
  refine pm_callS (As := [.int za, .int 0, .int (-1)]) (rest := []) hG hR dX12_isLetter_10 (lkX12_68 _ rfl) okS_X12_in (mx_in (d := 1)) rfl rfl hdd (by decide) (by decide) (by decide) (pm_ki (fun v σ' cnt' hq => ?_))
  obtain ⟨rfl, rfl, rfl⟩ := hq
  refine pm_top (v := 0) (pm_in0 _) ?_
  exact pm_zret hG hF dX12_isLetter_13 rfl (by rfl) (by decide) (by decide) ⟨_, rfl, ⟨rfl, rfl, rfl⟩⟩

set_option maxRecDepth 100000 in
set_option maxHeartbeats 8000000 in
theorem om_press {B : Nat} {za zb : Int32} {d : Nat} (hdd : 3 ≤ d) : pm_met mX12_press d 0 0 B [.ref (B + 54), .int za, .int zb] 74 (pm_cat (fun _ => none) 54 (l_k_model B)) (pm_Qi (fun v _ _ => v = v_press za zb)) := by
  refine pm_enter 3 (by decide) (Nat.le_of_ble_eq_true rfl) rfl (fun G hG hR hF => ?_)
  refine pm_aloadn hG dX12_press_0 rfl ?_
  refine pm_iloadn hG dX12_press_1 rfl ?_
  refine pm_callV (As := [.int za]) (rest := []) hG hR dX12_press_2 (lkX12_211 _ rfl) okV_X12_isLetter rfl rfl (fm_X12_isLetter_11 (d := 2) (by decide)) rfl rfl hdd (by decide) (by decide) (by decide) (pm_ki (fun v σ' cnt' hq => ?_))
  obtain ⟨rfl, rfl, rfl⟩ := hq
  refine pm_if_eq (tgt := 16) hG dX12_press_5 rfl (fun _ => ?_) (fun q => absurd q (by decide))
  refine pm_aloadn hG dX12_press_16 rfl ?_
  refine pm_iconst (v := 1) hG dX12_press_17 (by decide) ?_
  refine pm_callV (As := [.int 1]) (rest := []) hG hR dX12_press_18 (lkX12_80 _ rfl) okV_X12_finds rfl rfl (fm_X12_finds_2 (d := 2) (by decide)) rfl rfl hdd (by decide) (by decide) (by decide) (pm_ki (fun v σ' cnt' hq => ?_))
  obtain ⟨rfl, rfl, rfl⟩ := hq
  exact pm_iret hG hF dX12_press_21 rfl (by decide) (by decide) ⟨_, rfl, (by clear hF hR hG; first | rfl | (unfold v_press; (repeat' split) <;> first | rfl | (exfalso; simp only [Int32.lt_iff_toInt_lt, Int32.le_iff_toInt_le, ← Int32.toInt_inj, Int32.toInt_zero, L_m1000001] at *; omega) | (apply Int32.toInt_inj.mp; simp only [Int32.lt_iff_toInt_lt, Int32.le_iff_toInt_le, ← Int32.toInt_inj, Int32.toInt_zero, L_m1000001] at *; omega)))⟩

set_option maxRecDepth 100000 in
set_option maxHeartbeats 8000000 in
theorem om_send {B : Nat} {za zb : Int32} {d : Nat} (hdd : 3 ≤ d) : pm_met mX12_send d 0 0 B [.ref (B + 54), .int za, .int zb] 74 (pm_cat (fun _ => none) 54 (l_k_model B)) (pm_Qi (fun v _ _ => v = v_send za zb)) := by
  refine pm_enter 1 (by decide) (Nat.le_of_ble_eq_true rfl) rfl (fun G hG hR hF => ?_)
  refine pm_aloadn hG dX12_send_0 rfl ?_
  refine pm_iloadn hG dX12_send_1 rfl ?_
  refine pm_callV (As := [.int za]) (rest := []) hG hR dX12_send_2 (lkX12_211 _ rfl) okV_X12_isLetter rfl rfl (fm_X12_isLetter_11 (d := 2) (by decide)) rfl rfl hdd (by decide) (by decide) (by decide) (pm_ki (fun v σ' cnt' hq => ?_))
  obtain ⟨rfl, rfl, rfl⟩ := hq
  refine pm_if_eq (tgt := 16) hG dX12_send_5 rfl (fun _ => ?_) (fun q => absurd q (by decide))
  refine pm_aloadn hG dX12_send_16 rfl ?_
  refine pm_iconst (v := 1) hG dX12_send_17 (by decide) ?_
  refine pm_callV (As := [.int 1]) (rest := []) hG hR dX12_send_18 (lkX12_80 _ rfl) okV_X12_finds rfl rfl (fm_X12_finds_2 (d := 2) (by decide)) rfl rfl hdd (by decide) (by decide) (by decide) (pm_ki (fun v σ' cnt' hq => ?_))
  obtain ⟨rfl, rfl, rfl⟩ := hq
  exact pm_iret hG hF dX12_send_21 rfl (by decide) (by decide) ⟨_, rfl, (by clear hF hR hG; first | rfl | (unfold v_send; (repeat' split) <;> first | rfl | (exfalso; simp only [Int32.lt_iff_toInt_lt, Int32.le_iff_toInt_le, ← Int32.toInt_inj, Int32.toInt_zero, L_m1000001] at *; omega) | (apply Int32.toInt_inj.mp; simp only [Int32.lt_iff_toInt_lt, Int32.le_iff_toInt_le, ← Int32.toInt_inj, Int32.toInt_zero, L_m1000001] at *; omega)))⟩

set_option maxRecDepth 100000 in
set_option maxHeartbeats 8000000 in
theorem om_open {B : Nat} {za : Int32} {d : Nat} (hdd : 3 ≤ d) : pm_met mX12_open d 0 0 B [.ref (B + 54), .int za] 74 (pm_cat (fun _ => none) 54 (l_k_model B)) (pm_Qi (fun v _ _ => v = v_open za)) := by
  refine pm_enter 2 (by decide) (Nat.le_of_ble_eq_true rfl) rfl (fun G hG hR hF => ?_)
  refine pm_aloadn hG dX12_open_0 rfl ?_
  refine pm_iloadn hG dX12_open_1 rfl ?_
  refine pm_callV (As := [.int za]) (rest := []) hG hR dX12_open_2 (lkX12_211 _ rfl) okV_X12_isLetter rfl rfl (fm_X12_isLetter_11 (d := 2) (by decide)) rfl rfl hdd (by decide) (by decide) (by decide) (pm_ki (fun v σ' cnt' hq => ?_))
  obtain ⟨rfl, rfl, rfl⟩ := hq
  refine pm_if_ne (tgt := 14) hG dX12_open_5 rfl (fun q => absurd q (by decide)) (fun _ => ?_)
  refine pm_aloadn hG dX12_open_8 rfl ?_
  refine pm_iconst (v := 1) hG dX12_open_9 (by decide) ?_
  refine pm_callV (As := [.int 1]) (rest := []) hG hR dX12_open_10 (lkX12_80 _ rfl) okV_X12_finds rfl rfl (fm_X12_finds_2 (d := 2) (by decide)) rfl rfl hdd (by decide) (by decide) (by decide) (pm_ki (fun v σ' cnt' hq => ?_))
  obtain ⟨rfl, rfl, rfl⟩ := hq
  exact pm_iret hG hF dX12_open_13 rfl (by decide) (by decide) ⟨_, rfl, (by clear hF hR hG; first | rfl | (unfold v_open; (repeat' split) <;> first | rfl | (exfalso; simp only [Int32.lt_iff_toInt_lt, Int32.le_iff_toInt_le, ← Int32.toInt_inj, Int32.toInt_zero, L_m1000001] at *; omega) | (apply Int32.toInt_inj.mp; simp only [Int32.lt_iff_toInt_lt, Int32.le_iff_toInt_le, ← Int32.toInt_inj, Int32.toInt_zero, L_m1000001] at *; omega)))⟩

set_option maxRecDepth 100000 in
set_option maxHeartbeats 8000000 in
theorem om_obey {B : Nat} {za : Int32} {d : Nat} (hdd : 3 ≤ d) : pm_met mX12_obey d 0 0 B [.ref (B + 54), .int za] 74 (pm_cat (fun _ => none) 54 (l_k_model B)) (pm_Qi (fun v _ _ => v = v_obey za)) := by
  refine pm_enter 0 (by decide) (Nat.le_of_ble_eq_true rfl) rfl (fun G hG hR hF => ?_)
  refine pm_aloadn hG dX12_obey_0 rfl ?_
  refine pm_iloadn hG dX12_obey_1 rfl ?_
  refine pm_callV (As := [.int za]) (rest := []) hG hR dX12_obey_2 (lkX12_211 _ rfl) okV_X12_isLetter rfl rfl (fm_X12_isLetter_11 (d := 2) (by decide)) rfl rfl hdd (by decide) (by decide) (by decide) (pm_ki (fun v σ' cnt' hq => ?_))
  obtain ⟨rfl, rfl, rfl⟩ := hq
  refine pm_if_ne (tgt := 14) hG dX12_obey_5 rfl (fun q => absurd q (by decide)) (fun _ => ?_)
  refine pm_aloadn hG dX12_obey_8 rfl ?_
  refine pm_iconst (v := 1) hG dX12_obey_9 (by decide) ?_
  refine pm_callV (As := [.int 1]) (rest := []) hG hR dX12_obey_10 (lkX12_80 _ rfl) okV_X12_finds rfl rfl (fm_X12_finds_2 (d := 2) (by decide)) rfl rfl hdd (by decide) (by decide) (by decide) (pm_ki (fun v σ' cnt' hq => ?_))
  obtain ⟨rfl, rfl, rfl⟩ := hq
  exact pm_iret hG hF dX12_obey_13 rfl (by decide) (by decide) ⟨_, rfl, (by clear hF hR hG; first | rfl | (unfold v_obey; (repeat' split) <;> first | rfl | (exfalso; simp only [Int32.lt_iff_toInt_lt, Int32.le_iff_toInt_le, ← Int32.toInt_inj, Int32.toInt_zero, L_m1000001] at *; omega) | (apply Int32.toInt_inj.mp; simp only [Int32.lt_iff_toInt_lt, Int32.le_iff_toInt_le, ← Int32.toInt_inj, Int32.toInt_zero, L_m1000001] at *; omega)))⟩

set_option maxRecDepth 100000 in
set_option maxHeartbeats 8000000 in
theorem om_letter {B : Nat} {za zb : Int32} {d : Nat} (hdd : 3 ≤ d) : pm_met mX12_letter d 0 0 B [.ref (B + 54), .int za, .int zb] 74 (pm_cat (fun _ => none) 54 (l_k_model B)) (pm_Qi (fun v _ _ => v = v_letter za zb)) := by
  refine pm_enter 0 (by decide) (Nat.le_of_ble_eq_true rfl) rfl (fun G hG hR hF => ?_)
  refine pm_aloadn hG dX12_letter_0 rfl ?_
  refine pm_iloadn hG dX12_letter_1 rfl ?_
  refine pm_callV (As := [.int za]) (rest := []) hG hR dX12_letter_2 (lkX12_211 _ rfl) okV_X12_isLetter rfl rfl (fm_X12_isLetter_11 (d := 2) (by decide)) rfl rfl hdd (by decide) (by decide) (by decide) (pm_ki (fun v σ' cnt' hq => ?_))
  obtain ⟨rfl, rfl, rfl⟩ := hq
  refine pm_if_eq (tgt := 27) hG dX12_letter_5 rfl (fun _ => ?_) (fun q => absurd q (by decide))
  refine pm_aloadn hG dX12_letter_27 rfl ?_
  refine pm_iconst (v := 1) hG dX12_letter_28 (by decide) ?_
  refine pm_callV (As := [.int 1]) (rest := []) hG hR dX12_letter_29 (lkX12_80 _ rfl) okV_X12_finds rfl rfl (fm_X12_finds_2 (d := 2) (by decide)) rfl rfl hdd (by decide) (by decide) (by decide) (pm_ki (fun v σ' cnt' hq => ?_))
  obtain ⟨rfl, rfl, rfl⟩ := hq
  exact pm_iret hG hF dX12_letter_32 rfl (by decide) (by decide) ⟨_, rfl, (by clear hF hR hG; first | rfl | (unfold v_letter; (repeat' split) <;> first | rfl | (exfalso; simp only [Int32.lt_iff_toInt_lt, Int32.le_iff_toInt_le, ← Int32.toInt_inj, Int32.toInt_zero, L_m1000001] at *; omega) | (apply Int32.toInt_inj.mp; simp only [Int32.lt_iff_toInt_lt, Int32.le_iff_toInt_le, ← Int32.toInt_inj, Int32.toInt_zero, L_m1000001] at *; omega)))⟩

set_option maxRecDepth 100000 in
set_option maxHeartbeats 8000000 in
theorem om_rent {B : Nat} {za zb : Int32} {d : Nat} (hdd : 3 ≤ d) : pm_met mX12_rent d 0 0 B [.ref (B + 54), .int za, .int zb] 74 (pm_cat (fun _ => none) 54 (l_k_model B)) (pm_Qi (fun v _ _ => v = v_rent za zb)) := by
  refine pm_enter 1 (by decide) (Nat.le_of_ble_eq_true rfl) rfl (fun G hG hR hF => ?_)
  refine pm_aloadn hG dX12_rent_0 rfl ?_
  refine pm_iloadn hG dX12_rent_1 rfl ?_
  refine pm_callV (As := [.int za]) (rest := []) hG hR dX12_rent_2 (lkX12_84 _ rfl) okV_X12_isTown rfl rfl (fm_X12_isTown_1 (d := 2) (by decide)) rfl rfl hdd (by decide) (by decide) (by decide) (pm_ki (fun v σ' cnt' hq => ?_))
  obtain ⟨rfl, rfl, rfl⟩ := hq
  refine pm_if_eq (tgt := 19) hG dX12_rent_5 rfl (fun _ => ?_) (fun q => absurd q (by decide))
  refine pm_aloadn hG dX12_rent_19 rfl ?_
  refine pm_iconst (v := 1) hG dX12_rent_20 (by decide) ?_
  refine pm_callV (As := [.int 1]) (rest := []) hG hR dX12_rent_21 (lkX12_80 _ rfl) okV_X12_finds rfl rfl (fm_X12_finds_2 (d := 2) (by decide)) rfl rfl hdd (by decide) (by decide) (by decide) (pm_ki (fun v σ' cnt' hq => ?_))
  obtain ⟨rfl, rfl, rfl⟩ := hq
  exact pm_iret hG hF dX12_rent_24 rfl (by decide) (by decide) ⟨_, rfl, (by clear hF hR hG; first | rfl | (unfold v_rent; (repeat' split) <;> first | rfl | (exfalso; simp only [Int32.lt_iff_toInt_lt, Int32.le_iff_toInt_le, ← Int32.toInt_inj, Int32.toInt_zero, L_m1000001] at *; omega) | (apply Int32.toInt_inj.mp; simp only [Int32.lt_iff_toInt_lt, Int32.le_iff_toInt_le, ← Int32.toInt_inj, Int32.toInt_zero, L_m1000001] at *; omega)))⟩

set_option maxRecDepth 100000 in
set_option maxHeartbeats 8000000 in
theorem om_own {B : Nat} {za zb : Int32} {d : Nat} (hdd : 3 ≤ d) : pm_met mX12_own d 0 0 B [.ref (B + 54), .int za, .int zb] 74 (pm_cat (fun _ => none) 54 (l_k_model B)) (pm_Qi (fun v _ _ => v = v_own za zb)) := by
  refine pm_enter 1 (by decide) (Nat.le_of_ble_eq_true rfl) rfl (fun G hG hR hF => ?_)
  refine pm_aloadn hG dX12_own_0 rfl ?_
  refine pm_iloadn hG dX12_own_1 rfl ?_
  refine pm_callV (As := [.int za]) (rest := []) hG hR dX12_own_2 (lkX12_84 _ rfl) okV_X12_isTown rfl rfl (fm_X12_isTown_1 (d := 2) (by decide)) rfl rfl hdd (by decide) (by decide) (by decide) (pm_ki (fun v σ' cnt' hq => ?_))
  obtain ⟨rfl, rfl, rfl⟩ := hq
  refine pm_if_eq (tgt := 29) hG dX12_own_5 rfl (fun _ => ?_) (fun q => absurd q (by decide))
  refine pm_aloadn hG dX12_own_29 rfl ?_
  refine pm_iconst (v := 1) hG dX12_own_30 (by decide) ?_
  refine pm_callV (As := [.int 1]) (rest := []) hG hR dX12_own_31 (lkX12_80 _ rfl) okV_X12_finds rfl rfl (fm_X12_finds_2 (d := 2) (by decide)) rfl rfl hdd (by decide) (by decide) (by decide) (pm_ki (fun v σ' cnt' hq => ?_))
  obtain ⟨rfl, rfl, rfl⟩ := hq
  exact pm_iret hG hF dX12_own_34 rfl (by decide) (by decide) ⟨_, rfl, (by clear hF hR hG; first | rfl | (unfold v_own; (repeat' split) <;> first | rfl | (exfalso; simp only [Int32.lt_iff_toInt_lt, Int32.le_iff_toInt_le, ← Int32.toInt_inj, Int32.toInt_zero, L_m1000001] at *; omega) | (apply Int32.toInt_inj.mp; simp only [Int32.lt_iff_toInt_lt, Int32.le_iff_toInt_le, ← Int32.toInt_inj, Int32.toInt_zero, L_m1000001] at *; omega)))⟩

set_option maxRecDepth 100000 in
set_option maxHeartbeats 4000000 in
theorem fm_X12_isTown_12 {B : Nat} {zc : Int32} {d : Nat} (hdd : 2 ≤ d) : pm_met mX12_isTown d 0 0 B [.ref (B + 54), .int zc] 74 (pm_cat (fun _ => none) 54 (l_k_model B)) (pm_Qi (fun v σ' cnt' => v = 0 ∧ σ' = (pm_cat (fun _ => none) 54 (l_k_model B)) ∧ cnt' = 74)) := by
  refine pm_enter 0 (by decide) (Nat.le_of_ble_eq_true rfl) rfl (fun G hG hR hF => ?_)
  refine pm_iloadn hG dX12_isTown_0 rfl ?_
  refine pm_iconst (v := 0) hG dX12_isTown_1 (by decide) ?_
  refine pm_aloadn hG dX12_isTown_2 rfl ?_
  refine pm_getf hG dX12_isTown_3 (flX12_7 _ rfl) rfl rfl ?_
  refine pm_iconst (v := 0) hG dX12_isTown_6 (by decide) ?_
  refine pm_ialdX (v := 0) hG dX12_isTown_7 rfl (pm_inb (by decide)) (by rfl) ?_
  refine pm_iconst (v := 1) hG dX12_isTown_8 (by decide) ?_
  refine pm_isub hG dX12_isTown_9 ?_
  refine pm_top (v := (-1)) (by decide) ?_
  refine pm_callS (As := [.int zc, .int 0, .int (-1)]) (rest := []) hG hR dX12_isTown_10 (lkX12_68 _ rfl) okS_X12_in (mx_in (d := 1)) rfl rfl hdd (by decide) (by decide) (by decide) (pm_ki (fun v σ' cnt' hq => ?_))
  obtain ⟨rfl, rfl, rfl⟩ := hq
  refine pm_top (v := 0) (pm_in0 _) ?_
  exact pm_zret hG hF dX12_isTown_13 rfl (by rfl) (by decide) (by decide) ⟨_, rfl, ⟨rfl, rfl, rfl⟩⟩

set_option maxRecDepth 100000 in
set_option maxHeartbeats 8000000 in
theorem om_debt {B : Nat} {za zb zc : Int32} {d : Nat} (hdd : 3 ≤ d) : pm_met mX12_debt d 0 0 B [.ref (B + 54), .int za, .int zb, .int zc] 74 (pm_cat (fun _ => none) 54 (l_k_model B)) (pm_Qi (fun v _ _ => v = v_debt za zb zc)) := by
  refine pm_enter 1 (by decide) (Nat.le_of_ble_eq_true rfl) rfl (fun G hG hR hF => ?_)
  refine pm_iloadn hG dX12_debt_0 rfl ?_
  refine pm_iconst (v := 0) hG dX12_debt_1 (by decide) ?_
  refine pm_ldc hG dX12_debt_2 (ctX12_242 _ rfl) ?_
  refine pm_callS (As := [.int za, .int 0, .int 99999]) (rest := []) hG hR dX12_debt_4 (lkX12_68 _ rfl) okS_X12_in (mx_in (d := 2)) rfl rfl hdd (by decide) (by decide) (by decide) (pm_ki (fun v σ' cnt' hq => ?_))
  obtain ⟨rfl, rfl, rfl⟩ := hq
  by_cases c1 : za < 0 ∨ 99999 < za
  · refine pm_top (v := 0) (if_pos c1) ?_
    refine pm_if_eq (tgt := 51) hG dX12_debt_7 rfl (fun _ => ?_) (fun q => absurd q (by decide))
    refine pm_aloadn hG dX12_debt_51 rfl ?_
    refine pm_iconst (v := 1) hG dX12_debt_52 (by decide) ?_
    refine pm_callV (As := [.int 1]) (rest := []) hG hR dX12_debt_53 (lkX12_80 _ rfl) okV_X12_finds rfl rfl (fm_X12_finds_2 (d := 2) (by decide)) rfl rfl hdd (by decide) (by decide) (by decide) (pm_ki (fun v σ' cnt' hq => ?_))
    obtain ⟨rfl, rfl, rfl⟩ := hq
    exact pm_iret hG hF dX12_debt_56 rfl (by decide) (by decide) ⟨_, rfl, (by clear hF hR hG; first | rfl | (unfold v_debt; (repeat' split) <;> first | rfl | (exfalso; simp only [Int32.lt_iff_toInt_lt, Int32.le_iff_toInt_le, ← Int32.toInt_inj, Int32.toInt_zero, L_99999, L_m1000001] at *; omega) | (apply Int32.toInt_inj.mp; simp only [Int32.lt_iff_toInt_lt, Int32.le_iff_toInt_le, ← Int32.toInt_inj, Int32.toInt_zero, L_99999, L_m1000001] at *; omega)))⟩
  · refine pm_top (v := 1) (if_neg c1) ?_
    refine pm_if_eq (tgt := 51) hG dX12_debt_7 rfl (fun q => absurd q (by decide)) (fun _ => ?_)
    refine pm_iloadn hG dX12_debt_10 rfl ?_
    refine pm_if_lt (tgt := 51) hG dX12_debt_11 rfl (fun c2 => ?_) (fun c2 => ?_)
    · refine pm_aloadn hG dX12_debt_51 rfl ?_
      refine pm_iconst (v := 1) hG dX12_debt_52 (by decide) ?_
      refine pm_callV (As := [.int 1]) (rest := []) hG hR dX12_debt_53 (lkX12_80 _ rfl) okV_X12_finds rfl rfl (fm_X12_finds_2 (d := 2) (by decide)) rfl rfl hdd (by decide) (by decide) (by decide) (pm_ki (fun v σ' cnt' hq => ?_))
      obtain ⟨rfl, rfl, rfl⟩ := hq
      exact pm_iret hG hF dX12_debt_56 rfl (by decide) (by decide) ⟨_, rfl, (by clear hF hR hG; first | rfl | (unfold v_debt; (repeat' split) <;> first | rfl | (exfalso; simp only [Int32.lt_iff_toInt_lt, Int32.le_iff_toInt_le, ← Int32.toInt_inj, Int32.toInt_zero, L_99999, L_m1000001] at *; omega) | (apply Int32.toInt_inj.mp; simp only [Int32.lt_iff_toInt_lt, Int32.le_iff_toInt_le, ← Int32.toInt_inj, Int32.toInt_zero, L_99999, L_m1000001] at *; omega)))⟩
    · refine pm_iloadn hG dX12_debt_14 rfl ?_
      refine pm_sipush (v := 10000) hG dX12_debt_15 (by decide) ?_
      refine pm_idiv hG dX12_debt_18 (by decide) ?_
      refine pm_iconst (v := 0) hG dX12_debt_19 (by decide) ?_
      refine pm_bipush (v := 99) hG dX12_debt_20 (by decide) ?_
      refine pm_callS (As := [.int (zb / 10000), .int 0, .int 99]) (rest := []) hG hR dX12_debt_22 (lkX12_68 _ rfl) okS_X12_in (mx_in (d := 2)) rfl rfl hdd (by decide) (by decide) (by decide) (pm_ki (fun v σ' cnt' hq => ?_))
      obtain ⟨rfl, rfl, rfl⟩ := hq
      by_cases c3 : (zb / 10000) < 0 ∨ 99 < (zb / 10000)
      · refine pm_top (v := 0) (if_pos c3) ?_
        refine pm_if_eq (tgt := 51) hG dX12_debt_25 rfl (fun _ => ?_) (fun q => absurd q (by decide))
        refine pm_aloadn hG dX12_debt_51 rfl ?_
        refine pm_iconst (v := 1) hG dX12_debt_52 (by decide) ?_
        refine pm_callV (As := [.int 1]) (rest := []) hG hR dX12_debt_53 (lkX12_80 _ rfl) okV_X12_finds rfl rfl (fm_X12_finds_2 (d := 2) (by decide)) rfl rfl hdd (by decide) (by decide) (by decide) (pm_ki (fun v σ' cnt' hq => ?_))
        obtain ⟨rfl, rfl, rfl⟩ := hq
        exact pm_iret hG hF dX12_debt_56 rfl (by decide) (by decide) ⟨_, rfl, (by clear hF hR hG; first | rfl | (unfold v_debt; (repeat' split) <;> first | rfl | (exfalso; simp only [Int32.lt_iff_toInt_lt, Int32.le_iff_toInt_le, ← Int32.toInt_inj, Int32.toInt_zero, L_99, L_99999, L_m1000001] at *; omega) | (apply Int32.toInt_inj.mp; simp only [Int32.lt_iff_toInt_lt, Int32.le_iff_toInt_le, ← Int32.toInt_inj, Int32.toInt_zero, L_99, L_99999, L_m1000001] at *; omega)))⟩
      · refine pm_top (v := 1) (if_neg c3) ?_
        refine pm_if_eq (tgt := 51) hG dX12_debt_25 rfl (fun q => absurd q (by decide)) (fun _ => ?_)
        refine pm_iloadn hG dX12_debt_28 rfl ?_
        refine pm_sipush (v := 10000) hG dX12_debt_29 (by decide) ?_
        refine pm_irem hG dX12_debt_32 (by decide) ?_
        refine pm_iconst (v := 1) hG dX12_debt_33 (by decide) ?_
        refine pm_sipush (v := 9999) hG dX12_debt_34 (by decide) ?_
        refine pm_callS (As := [.int (zb - zb / 10000 * 10000), .int 1, .int 9999]) (rest := []) hG hR dX12_debt_37 (lkX12_68 _ rfl) okS_X12_in (mx_in (d := 2)) rfl rfl hdd (by decide) (by decide) (by decide) (pm_ki (fun v σ' cnt' hq => ?_))
        obtain ⟨rfl, rfl, rfl⟩ := hq
        by_cases c4 : (zb - zb / 10000 * 10000) < 1 ∨ 9999 < (zb - zb / 10000 * 10000)
        · refine pm_top (v := 0) (if_pos c4) ?_
          refine pm_if_eq (tgt := 51) hG dX12_debt_40 rfl (fun _ => ?_) (fun q => absurd q (by decide))
          refine pm_aloadn hG dX12_debt_51 rfl ?_
          refine pm_iconst (v := 1) hG dX12_debt_52 (by decide) ?_
          refine pm_callV (As := [.int 1]) (rest := []) hG hR dX12_debt_53 (lkX12_80 _ rfl) okV_X12_finds rfl rfl (fm_X12_finds_2 (d := 2) (by decide)) rfl rfl hdd (by decide) (by decide) (by decide) (pm_ki (fun v σ' cnt' hq => ?_))
          obtain ⟨rfl, rfl, rfl⟩ := hq
          exact pm_iret hG hF dX12_debt_56 rfl (by decide) (by decide) ⟨_, rfl, (by clear hF hR hG; first | rfl | (unfold v_debt; (repeat' split) <;> first | rfl | (exfalso; simp only [Int32.lt_iff_toInt_lt, Int32.le_iff_toInt_le, ← Int32.toInt_inj, Int32.toInt_zero, L_1, L_99, L_9999, L_99999, L_m1000001] at *; omega) | (apply Int32.toInt_inj.mp; simp only [Int32.lt_iff_toInt_lt, Int32.le_iff_toInt_le, ← Int32.toInt_inj, Int32.toInt_zero, L_1, L_99, L_9999, L_99999, L_m1000001] at *; omega)))⟩
        · refine pm_top (v := 1) (if_neg c4) ?_
          refine pm_if_eq (tgt := 51) hG dX12_debt_40 rfl (fun q => absurd q (by decide)) (fun _ => ?_)
          refine pm_aloadn hG dX12_debt_43 rfl ?_
          refine pm_iloadn hG dX12_debt_44 rfl ?_
          refine pm_callV (As := [.int zc]) (rest := []) hG hR dX12_debt_45 (lkX12_84 _ rfl) okV_X12_isTown rfl rfl (fm_X12_isTown_12 (d := 2) (by decide)) rfl rfl hdd (by decide) (by decide) (by decide) (pm_ki (fun v σ' cnt' hq => ?_))
          obtain ⟨rfl, rfl, rfl⟩ := hq
          refine pm_if_ne (tgt := 57) hG dX12_debt_48 rfl (fun q => absurd q (by decide)) (fun _ => ?_)
          refine pm_aloadn hG dX12_debt_51 rfl ?_
          refine pm_iconst (v := 1) hG dX12_debt_52 (by decide) ?_
          refine pm_callV (As := [.int 1]) (rest := []) hG hR dX12_debt_53 (lkX12_80 _ rfl) okV_X12_finds rfl rfl (fm_X12_finds_2 (d := 2) (by decide)) rfl rfl hdd (by decide) (by decide) (by decide) (pm_ki (fun v σ' cnt' hq => ?_))
          obtain ⟨rfl, rfl, rfl⟩ := hq
          exact pm_iret hG hF dX12_debt_56 rfl (by decide) (by decide) ⟨_, rfl, (by clear hF hR hG; first | rfl | (unfold v_debt; (repeat' split) <;> first | rfl | (exfalso; simp only [Int32.lt_iff_toInt_lt, Int32.le_iff_toInt_le, ← Int32.toInt_inj, Int32.toInt_zero, L_1, L_99, L_9999, L_99999, L_m1000001] at *; omega) | (apply Int32.toInt_inj.mp; simp only [Int32.lt_iff_toInt_lt, Int32.le_iff_toInt_le, ← Int32.toInt_inj, Int32.toInt_zero, L_1, L_99, L_9999, L_99999, L_m1000001] at *; omega)))⟩

set_option maxRecDepth 100000 in
set_option maxHeartbeats 8000000 in
theorem om_owed {B : Nat} {za zb : Int32} {d : Nat} (hdd : 2 ≤ d) : pm_met mX12_owed d 0 0 B [.ref (B + 54), .int za, .int zb] 74 (pm_cat (fun _ => none) 54 (l_k_model B)) (pm_Qi (fun v _ _ => v = v_owed za zb)) := by
  refine pm_enter 3 (by decide) (Nat.le_of_ble_eq_true rfl) rfl (fun G hG hR hF => ?_)
  refine pm_iloadn hG dX12_owed_0 rfl ?_
  refine pm_iconst (v := 0) hG dX12_owed_1 (by decide) ?_
  refine pm_aloadn hG dX12_owed_2 rfl ?_
  refine pm_getf hG dX12_owed_3 (flX12_7 _ rfl) rfl rfl ?_
  refine pm_bipush (v := 6) hG dX12_owed_6 (by decide) ?_
  refine pm_ialdX (v := 0) hG dX12_owed_8 rfl (pm_inb (by decide)) (by rfl) ?_
  refine pm_iconst (v := 1) hG dX12_owed_9 (by decide) ?_
  refine pm_isub hG dX12_owed_10 ?_
  refine pm_top (v := (-1)) (by decide) ?_
  refine pm_callS (As := [.int za, .int 0, .int (-1)]) (rest := []) hG hR dX12_owed_11 (lkX12_68 _ rfl) okS_X12_in (mx_in (d := 1)) rfl rfl hdd (by decide) (by decide) (by decide) (pm_ki (fun v σ' cnt' hq => ?_))
  obtain ⟨rfl, rfl, rfl⟩ := hq
  refine pm_top (v := 0) (pm_in0 _) ?_
  refine pm_if_ne (tgt := 23) hG dX12_owed_14 rfl (fun q => absurd q (by decide)) (fun _ => ?_)
  refine pm_aloadn hG dX12_owed_17 rfl ?_
  refine pm_iconst (v := 1) hG dX12_owed_18 (by decide) ?_
  refine pm_callV (As := [.int 1]) (rest := []) hG hR dX12_owed_19 (lkX12_80 _ rfl) okV_X12_finds rfl rfl (fm_X12_finds_2 (d := 1) (by decide)) rfl rfl hdd (by decide) (by decide) (by decide) (pm_ki (fun v σ' cnt' hq => ?_))
  obtain ⟨rfl, rfl, rfl⟩ := hq
  exact pm_iret hG hF dX12_owed_22 rfl (by decide) (by decide) ⟨_, rfl, (by clear hF hR hG; first | rfl | (unfold v_owed; (repeat' split) <;> first | rfl | (exfalso; simp only [Int32.lt_iff_toInt_lt, Int32.le_iff_toInt_le, ← Int32.toInt_inj, Int32.toInt_zero, L_m1000001] at *; omega) | (apply Int32.toInt_inj.mp; simp only [Int32.lt_iff_toInt_lt, Int32.le_iff_toInt_le, ← Int32.toInt_inj, Int32.toInt_zero, L_m1000001] at *; omega)))⟩

set_option maxRecDepth 100000 in
set_option maxHeartbeats 8000000 in
theorem om_seat {B : Nat} {za zb : Int32} {d : Nat} (hdd : 3 ≤ d) : pm_met mX12_seat d 0 0 B [.ref (B + 54), .int za, .int zb] 74 (pm_cat (fun _ => none) 54 (l_k_model B)) (pm_Qi (fun v _ _ => v = v_seat za zb)) := by
  refine pm_enter 0 (by decide) (Nat.le_of_ble_eq_true rfl) rfl (fun G hG hR hF => ?_)
  refine pm_aloadn hG dX12_seat_0 rfl ?_
  refine pm_iloadn hG dX12_seat_1 rfl ?_
  refine pm_callV (As := [.int za]) (rest := []) hG hR dX12_seat_2 (lkX12_91 _ rfl) okV_X12_isPerson rfl rfl (fm_X12_isPerson_8 (d := 2) (by decide)) rfl rfl hdd (by decide) (by decide) (by decide) (pm_ki (fun v σ' cnt' hq => ?_))
  obtain ⟨rfl, rfl, rfl⟩ := hq
  refine pm_if_ne (tgt := 14) hG dX12_seat_5 rfl (fun q => absurd q (by decide)) (fun _ => ?_)
  refine pm_aloadn hG dX12_seat_8 rfl ?_
  refine pm_iconst (v := 1) hG dX12_seat_9 (by decide) ?_
  refine pm_callV (As := [.int 1]) (rest := []) hG hR dX12_seat_10 (lkX12_80 _ rfl) okV_X12_finds rfl rfl (fm_X12_finds_2 (d := 2) (by decide)) rfl rfl hdd (by decide) (by decide) (by decide) (pm_ki (fun v σ' cnt' hq => ?_))
  obtain ⟨rfl, rfl, rfl⟩ := hq
  exact pm_iret hG hF dX12_seat_13 rfl (by decide) (by decide) ⟨_, rfl, (by clear hF hR hG; first | rfl | (unfold v_seat; (repeat' split) <;> first | rfl | (exfalso; simp only [Int32.lt_iff_toInt_lt, Int32.le_iff_toInt_le, ← Int32.toInt_inj, Int32.toInt_zero, L_m1000001] at *; omega) | (apply Int32.toInt_inj.mp; simp only [Int32.lt_iff_toInt_lt, Int32.le_iff_toInt_le, ← Int32.toInt_inj, Int32.toInt_zero, L_m1000001] at *; omega)))⟩

set_option maxRecDepth 100000 in
set_option maxHeartbeats 8000000 in
theorem om_promise {B : Nat} {za zb zc zd : Int32} {d : Nat} (hdd : 3 ≤ d) : pm_met mX12_promise d 0 0 B [.ref (B + 54), .int za, .int zb, .int zc, .int zd] 74 (pm_cat (fun _ => none) 54 (l_k_model B)) (pm_Qi (fun v _ _ => v = v_promise za zb zc zd)) := by
  refine pm_enter 2 (by decide) (Nat.le_of_ble_eq_true rfl) rfl (fun G hG hR hF => ?_)
  refine pm_aloadn hG dX12_promise_0 rfl ?_
  refine pm_iloadn hG dX12_promise_1 rfl ?_
  refine pm_callV (As := [.int za]) (rest := []) hG hR dX12_promise_2 (lkX12_91 _ rfl) okV_X12_isPerson rfl rfl (fm_X12_isPerson_8 (d := 2) (by decide)) rfl rfl hdd (by decide) (by decide) (by decide) (pm_ki (fun v σ' cnt' hq => ?_))
  obtain ⟨rfl, rfl, rfl⟩ := hq
  refine pm_if_eq (tgt := 34) hG dX12_promise_5 rfl (fun _ => ?_) (fun q => absurd q (by decide))
  refine pm_aloadn hG dX12_promise_34 rfl ?_
  refine pm_iconst (v := 1) hG dX12_promise_35 (by decide) ?_
  refine pm_callV (As := [.int 1]) (rest := []) hG hR dX12_promise_36 (lkX12_80 _ rfl) okV_X12_finds rfl rfl (fm_X12_finds_2 (d := 2) (by decide)) rfl rfl hdd (by decide) (by decide) (by decide) (pm_ki (fun v σ' cnt' hq => ?_))
  obtain ⟨rfl, rfl, rfl⟩ := hq
  exact pm_iret hG hF dX12_promise_39 rfl (by decide) (by decide) ⟨_, rfl, (by clear hF hR hG; first | rfl | (unfold v_promise; (repeat' split) <;> first | rfl | (exfalso; simp only [Int32.lt_iff_toInt_lt, Int32.le_iff_toInt_le, ← Int32.toInt_inj, Int32.toInt_zero, L_m1000001] at *; omega) | (apply Int32.toInt_inj.mp; simp only [Int32.lt_iff_toInt_lt, Int32.le_iff_toInt_le, ← Int32.toInt_inj, Int32.toInt_zero, L_m1000001] at *; omega)))⟩

set_option maxRecDepth 100000 in
set_option maxHeartbeats 8000000 in
theorem om_breaks {B : Nat} {za : Int32} {d : Nat} (hdd : 2 ≤ d) : pm_met mX12_breaks d 0 0 B [.ref (B + 54), .int za] 74 (pm_cat (fun _ => none) 54 (l_k_model B)) (pm_Qi (fun v _ _ => v = v_breaks za)) := by
  refine pm_enter 0 (by decide) (Nat.le_of_ble_eq_true rfl) rfl (fun G hG hR hF => ?_)
  refine pm_iloadn hG dX12_breaks_0 rfl ?_
  refine pm_iconst (v := 0) hG dX12_breaks_1 (by decide) ?_
  refine pm_aloadn hG dX12_breaks_2 rfl ?_
  refine pm_getf hG dX12_breaks_3 (flX12_7 _ rfl) rfl rfl ?_
  refine pm_bipush (v := 7) hG dX12_breaks_6 (by decide) ?_
  refine pm_ialdX (v := 0) hG dX12_breaks_8 rfl (pm_inb (by decide)) (by rfl) ?_
  refine pm_iconst (v := 1) hG dX12_breaks_9 (by decide) ?_
  refine pm_isub hG dX12_breaks_10 ?_
  refine pm_top (v := (-1)) (by decide) ?_
  refine pm_callS (As := [.int za, .int 0, .int (-1)]) (rest := []) hG hR dX12_breaks_11 (lkX12_68 _ rfl) okS_X12_in (mx_in (d := 1)) rfl rfl hdd (by decide) (by decide) (by decide) (pm_ki (fun v σ' cnt' hq => ?_))
  obtain ⟨rfl, rfl, rfl⟩ := hq
  refine pm_top (v := 0) (pm_in0 _) ?_
  refine pm_if_ne (tgt := 23) hG dX12_breaks_14 rfl (fun q => absurd q (by decide)) (fun _ => ?_)
  refine pm_aloadn hG dX12_breaks_17 rfl ?_
  refine pm_iconst (v := 1) hG dX12_breaks_18 (by decide) ?_
  refine pm_callV (As := [.int 1]) (rest := []) hG hR dX12_breaks_19 (lkX12_80 _ rfl) okV_X12_finds rfl rfl (fm_X12_finds_2 (d := 1) (by decide)) rfl rfl hdd (by decide) (by decide) (by decide) (pm_ki (fun v σ' cnt' hq => ?_))
  obtain ⟨rfl, rfl, rfl⟩ := hq
  exact pm_iret hG hF dX12_breaks_22 rfl (by decide) (by decide) ⟨_, rfl, (by clear hF hR hG; first | rfl | (unfold v_breaks; (repeat' split) <;> first | rfl | (exfalso; simp only [Int32.lt_iff_toInt_lt, Int32.le_iff_toInt_le, ← Int32.toInt_inj, Int32.toInt_zero, L_m1000001] at *; omega) | (apply Int32.toInt_inj.mp; simp only [Int32.lt_iff_toInt_lt, Int32.le_iff_toInt_le, ← Int32.toInt_inj, Int32.toInt_zero, L_m1000001] at *; omega)))⟩

set_option maxRecDepth 100000 in
set_option maxHeartbeats 8000000 in
theorem om_price {B : Nat} {za zb : Int32} {d : Nat} (hdd : 3 ≤ d) : pm_met mX12_price d 0 0 B [.ref (B + 54), .int za, .int zb] 74 (pm_cat (fun _ => none) 54 (l_k_model B)) (pm_Qi (fun v _ _ => v = v_price za zb)) := by
  refine pm_enter 1 (by decide) (Nat.le_of_ble_eq_true rfl) rfl (fun G hG hR hF => ?_)
  refine pm_aloadn hG dX12_price_0 rfl ?_
  refine pm_iloadn hG dX12_price_1 rfl ?_
  refine pm_callV (As := [.int za]) (rest := []) hG hR dX12_price_2 (lkX12_91 _ rfl) okV_X12_isPerson rfl rfl (fm_X12_isPerson_8 (d := 2) (by decide)) rfl rfl hdd (by decide) (by decide) (by decide) (pm_ki (fun v σ' cnt' hq => ?_))
  obtain ⟨rfl, rfl, rfl⟩ := hq
  refine pm_if_eq (tgt := 19) hG dX12_price_5 rfl (fun _ => ?_) (fun q => absurd q (by decide))
  refine pm_aloadn hG dX12_price_19 rfl ?_
  refine pm_iconst (v := 1) hG dX12_price_20 (by decide) ?_
  refine pm_callV (As := [.int 1]) (rest := []) hG hR dX12_price_21 (lkX12_80 _ rfl) okV_X12_finds rfl rfl (fm_X12_finds_2 (d := 2) (by decide)) rfl rfl hdd (by decide) (by decide) (by decide) (pm_ki (fun v σ' cnt' hq => ?_))
  obtain ⟨rfl, rfl, rfl⟩ := hq
  exact pm_iret hG hF dX12_price_24 rfl (by decide) (by decide) ⟨_, rfl, (by clear hF hR hG; first | rfl | (unfold v_price; (repeat' split) <;> first | rfl | (exfalso; simp only [Int32.lt_iff_toInt_lt, Int32.le_iff_toInt_le, ← Int32.toInt_inj, Int32.toInt_zero, L_m1000001] at *; omega) | (apply Int32.toInt_inj.mp; simp only [Int32.lt_iff_toInt_lt, Int32.le_iff_toInt_le, ← Int32.toInt_inj, Int32.toInt_zero, L_m1000001] at *; omega)))⟩

set_option maxRecDepth 100000 in
set_option maxHeartbeats 8000000 in
theorem om_after {B : Nat} {za : Int32} {d : Nat} (hdd : 3 ≤ d) : pm_met mX12_after d 0 0 B [.ref (B + 54), .int za] 74 (pm_cat (fun _ => none) 54 (l_k_model B)) (pm_Qi (fun v _ _ => v = v_after za)) := by
  refine pm_enter 2 (by decide) (Nat.le_of_ble_eq_true rfl) rfl (fun G hG hR hF => ?_)
  refine pm_aloadn hG dX12_after_0 rfl ?_
  refine pm_iloadn hG dX12_after_1 rfl ?_
  refine pm_callV (As := [.int za]) (rest := []) hG hR dX12_after_2 (lkX12_132 _ rfl) okV_X12_isPower rfl rfl (fm_X12_isPower_9 (d := 2) (by decide)) rfl rfl hdd (by decide) (by decide) (by decide) (pm_ki (fun v σ' cnt' hq => ?_))
  obtain ⟨rfl, rfl, rfl⟩ := hq
  refine pm_if_ne (tgt := 14) hG dX12_after_5 rfl (fun q => absurd q (by decide)) (fun _ => ?_)
  refine pm_aloadn hG dX12_after_8 rfl ?_
  refine pm_iconst (v := 1) hG dX12_after_9 (by decide) ?_
  refine pm_callV (As := [.int 1]) (rest := []) hG hR dX12_after_10 (lkX12_80 _ rfl) okV_X12_finds rfl rfl (fm_X12_finds_2 (d := 2) (by decide)) rfl rfl hdd (by decide) (by decide) (by decide) (pm_ki (fun v σ' cnt' hq => ?_))
  obtain ⟨rfl, rfl, rfl⟩ := hq
  exact pm_iret hG hF dX12_after_13 rfl (by decide) (by decide) ⟨_, rfl, (by clear hF hR hG; first | rfl | (unfold v_after; (repeat' split) <;> first | rfl | (exfalso; simp only [Int32.lt_iff_toInt_lt, Int32.le_iff_toInt_le, ← Int32.toInt_inj, Int32.toInt_zero, L_m1000001] at *; omega) | (apply Int32.toInt_inj.mp; simp only [Int32.lt_iff_toInt_lt, Int32.le_iff_toInt_le, ← Int32.toInt_inj, Int32.toInt_zero, L_m1000001] at *; omega)))⟩

set_option maxRecDepth 100000 in
set_option maxHeartbeats 8000000 in
theorem om_voice {B : Nat} {za zb zc : Int32} {d : Nat} (hdd : 3 ≤ d) : pm_met mX12_voice d 0 0 B [.ref (B + 54), .int za, .int zb, .int zc] 74 (pm_cat (fun _ => none) 54 (l_k_model B)) (pm_Qi (fun v _ _ => v = v_voice za zb zc)) := by
  refine pm_enter 0 (by decide) (Nat.le_of_ble_eq_true rfl) rfl (fun G hG hR hF => ?_)
  refine pm_aloadn hG dX12_voice_0 rfl ?_
  refine pm_iloadn hG dX12_voice_1 rfl ?_
  refine pm_callV (As := [.int za]) (rest := []) hG hR dX12_voice_2 (lkX12_132 _ rfl) okV_X12_isPower rfl rfl (fm_X12_isPower_9 (d := 2) (by decide)) rfl rfl hdd (by decide) (by decide) (by decide) (pm_ki (fun v σ' cnt' hq => ?_))
  obtain ⟨rfl, rfl, rfl⟩ := hq
  refine pm_if_eq (tgt := 17) hG dX12_voice_5 rfl (fun _ => ?_) (fun q => absurd q (by decide))
  refine pm_aloadn hG dX12_voice_17 rfl ?_
  refine pm_iconst (v := 1) hG dX12_voice_18 (by decide) ?_
  refine pm_callV (As := [.int 1]) (rest := []) hG hR dX12_voice_19 (lkX12_80 _ rfl) okV_X12_finds rfl rfl (fm_X12_finds_2 (d := 2) (by decide)) rfl rfl hdd (by decide) (by decide) (by decide) (pm_ki (fun v σ' cnt' hq => ?_))
  obtain ⟨rfl, rfl, rfl⟩ := hq
  exact pm_iret hG hF dX12_voice_22 rfl (by decide) (by decide) ⟨_, rfl, (by clear hF hR hG; first | rfl | (unfold v_voice; (repeat' split) <;> first | rfl | (exfalso; simp only [Int32.lt_iff_toInt_lt, Int32.le_iff_toInt_le, ← Int32.toInt_inj, Int32.toInt_zero, L_m1000001] at *; omega) | (apply Int32.toInt_inj.mp; simp only [Int32.lt_iff_toInt_lt, Int32.le_iff_toInt_le, ← Int32.toInt_inj, Int32.toInt_zero, L_m1000001] at *; omega)))⟩

set_option maxRecDepth 100000 in
set_option maxHeartbeats 8000000 in
theorem om_town {B : Nat} {d : Nat} (hdd : 1 ≤ d) : pm_met mX12_town d 0 0 B [.ref (B + 54)] 74 (pm_cat (fun _ => none) 54 (l_k_model B)) (pm_Qi (fun v _ _ => v = v_town)) := by
  refine pm_enter 1 (by decide) (Nat.le_of_ble_eq_true rfl) rfl (fun G hG hR hF => ?_)
  refine pm_aloadn hG dX12_town_0 rfl ?_
  refine pm_getf hG dX12_town_1 (flX12_7 _ rfl) rfl rfl ?_
  refine pm_iconst (v := 0) hG dX12_town_4 (by decide) ?_
  refine pm_ialdX (v := 0) hG dX12_town_5 rfl (pm_inb (by decide)) (by rfl) ?_
  refine pm_istoreXn (loc' := [some (.ref (B + 54)), some (.int 0)]) hG dX12_town_6 (by decide) (pm_c1b rfl) rfl ?_
  refine pm_iloadn hG dX12_town_7 rfl ?_
  refine pm_bipush (v := 10) hG dX12_town_8 (by decide) ?_
  refine pm_icmp_ne (tgt := 19) hG dX12_town_10 rfl (fun _ => ?_) (fun q => absurd q (by decide))
  refine pm_aloadn hG dX12_town_19 rfl ?_
  refine pm_getf hG dX12_town_20 (flX12_7 _ rfl) rfl rfl ?_
  refine pm_iconst (v := 0) hG dX12_town_23 (by decide) ?_
  refine pm_dup2 hG dX12_town_24 rfl rfl ?_
  refine pm_ialdX (v := 0) hG dX12_town_25 rfl (pm_inb (by decide)) (by rfl) ?_
  refine pm_iconst (v := 1) hG dX12_town_26 (by decide) ?_
  refine pm_iadd hG dX12_town_27 ?_
  refine pm_top (v := 1) (by decide) ?_
  refine pm_iast hG dX12_town_28 rfl (pm_inb (by decide)) ?_
  refine pm_aloadn hG dX12_town_29 rfl ?_
  refine pm_getf hG dX12_town_30 (flX12_7 _ rfl) rfl rfl ?_
  refine pm_bipush (v := 20) hG dX12_town_33 (by decide) ?_
  refine pm_iconst (v := 3) hG dX12_town_35 (by decide) ?_
  refine pm_iloadn hG dX12_town_36 rfl ?_
  refine pm_imul hG dX12_town_37 ?_
  refine pm_top (v := 0) (by decide) ?_
  refine pm_iadd hG dX12_town_38 ?_
  refine pm_top (v := 20) (by decide) ?_
  refine pm_iconst (v := 0) hG dX12_town_39 (by decide) ?_
  refine pm_iast hG dX12_town_40 rfl (pm_inb (by decide)) ?_
  refine pm_aloadn hG dX12_town_41 rfl ?_
  refine pm_getf hG dX12_town_42 (flX12_7 _ rfl) rfl rfl ?_
  refine pm_bipush (v := 20) hG dX12_town_45 (by decide) ?_
  refine pm_iconst (v := 3) hG dX12_town_47 (by decide) ?_
  refine pm_iloadn hG dX12_town_48 rfl ?_
  refine pm_imul hG dX12_town_49 ?_
  refine pm_top (v := 0) (by decide) ?_
  refine pm_iadd hG dX12_town_50 ?_
  refine pm_top (v := 20) (by decide) ?_
  refine pm_iconst (v := 1) hG dX12_town_51 (by decide) ?_
  refine pm_iadd hG dX12_town_52 ?_
  refine pm_top (v := 21) (by decide) ?_
  refine pm_iconst (v := (-1)) hG dX12_town_53 (by decide) ?_
  refine pm_iast hG dX12_town_54 rfl (pm_inb (by decide)) ?_
  refine pm_aloadn hG dX12_town_55 rfl ?_
  refine pm_getf hG dX12_town_56 (flX12_7 _ rfl) rfl rfl ?_
  refine pm_bipush (v := 20) hG dX12_town_59 (by decide) ?_
  refine pm_iconst (v := 3) hG dX12_town_61 (by decide) ?_
  refine pm_iloadn hG dX12_town_62 rfl ?_
  refine pm_imul hG dX12_town_63 ?_
  refine pm_top (v := 0) (by decide) ?_
  refine pm_iadd hG dX12_town_64 ?_
  refine pm_top (v := 20) (by decide) ?_
  refine pm_iconst (v := 2) hG dX12_town_65 (by decide) ?_
  refine pm_iadd hG dX12_town_66 ?_
  refine pm_top (v := 22) (by decide) ?_
  refine pm_iconst (v := 0) hG dX12_town_67 (by decide) ?_
  refine pm_iast hG dX12_town_68 rfl (pm_inb (by decide)) ?_
  refine pm_iloadn hG dX12_town_69 rfl ?_
  exact pm_iret hG hF dX12_town_70 rfl (by decide) (by decide) ⟨_, rfl, (by clear hF hR hG; first | rfl | (unfold v_town; (repeat' split) <;> first | rfl | (exfalso; simp only [Int32.lt_iff_toInt_lt, Int32.le_iff_toInt_le, ← Int32.toInt_inj, Int32.toInt_zero] at *; omega) | (apply Int32.toInt_inj.mp; simp only [Int32.lt_iff_toInt_lt, Int32.le_iff_toInt_le, ← Int32.toInt_inj, Int32.toInt_zero] at *; omega)))⟩

set_option maxRecDepth 100000 in
set_option maxHeartbeats 4000000 in
theorem fm_X12_makes_14 {B : Nat} {za : Int32} {d : Nat} (hdd : 1 ≤ d) : pm_met mX12_makes d 0 0 B [.ref (B + 54), .int 0, .int 0, .int za] 74 (pm_up (pm_cat (fun _ => none) 54 (l_k_model B)) 55 (.inl (2071, upd (upd (fun _ => 0) (9 : Int32).toNatClampNeg 1000) (3 : Int32).toNatClampNeg 1))) (pm_Qv (fun σ' cnt' => σ' = (pm_up (pm_up (pm_cat (fun _ => none) 54 (l_k_model B)) 55 (.inl (2071, upd (upd (fun _ => 0) (9 : Int32).toNatClampNeg 1000) (3 : Int32).toNatClampNeg 1))) 55 (.inl (2071, upd (upd (upd (fun _ => 0) (9 : Int32).toNatClampNeg 1000) (3 : Int32).toNatClampNeg 1) (390 : Int32).toNatClampNeg za))) ∧ cnt' = 74)) := by
  refine pm_enter 0 (by decide) (Nat.le_of_ble_eq_true rfl) rfl (fun G hG hR hF => ?_)
  refine pm_aloadn hG dX12_makes_0 rfl ?_
  refine pm_getf hG dX12_makes_1 (flX12_7 _ rfl) rfl rfl ?_
  refine pm_sipush (v := 390) hG dX12_makes_4 (by decide) ?_
  refine pm_bipush (v := 6) hG dX12_makes_7 (by decide) ?_
  refine pm_iloadn hG dX12_makes_9 rfl ?_
  refine pm_imul hG dX12_makes_10 ?_
  refine pm_top (v := 0) (by decide) ?_
  refine pm_iadd hG dX12_makes_11 ?_
  refine pm_top (v := 390) (by decide) ?_
  refine pm_iloadn hG dX12_makes_12 rfl ?_
  refine pm_iadd hG dX12_makes_13 ?_
  refine pm_top (v := 390) (by decide) ?_
  refine pm_iloadn hG dX12_makes_14 rfl ?_
  refine pm_iast hG dX12_makes_15 rfl (pm_inb (by decide)) ?_
  exact pm_vret hG hF dX12_makes_16 rfl (by decide) (by decide) ⟨rfl, ⟨rfl, rfl⟩⟩

set_option maxRecDepth 100000 in
set_option maxHeartbeats 4000000 in
theorem fm_X12_makes_15 {B : Nat} {za zb : Int32} {d : Nat} (hdd : 1 ≤ d) : pm_met mX12_makes d 0 0 B [.ref (B + 54), .int 0, .int 1, .int zb] 74 (pm_up (pm_up (pm_cat (fun _ => none) 54 (l_k_model B)) 55 (.inl (2071, upd (upd (fun _ => 0) (9 : Int32).toNatClampNeg 1000) (3 : Int32).toNatClampNeg 1))) 55 (.inl (2071, upd (upd (upd (fun _ => 0) (9 : Int32).toNatClampNeg 1000) (3 : Int32).toNatClampNeg 1) (390 : Int32).toNatClampNeg za))) (pm_Qv (fun σ' cnt' => σ' = (pm_up (pm_up (pm_up (pm_cat (fun _ => none) 54 (l_k_model B)) 55 (.inl (2071, upd (upd (fun _ => 0) (9 : Int32).toNatClampNeg 1000) (3 : Int32).toNatClampNeg 1))) 55 (.inl (2071, upd (upd (upd (fun _ => 0) (9 : Int32).toNatClampNeg 1000) (3 : Int32).toNatClampNeg 1) (390 : Int32).toNatClampNeg za))) 55 (.inl (2071, upd (upd (upd (upd (fun _ => 0) (9 : Int32).toNatClampNeg 1000) (3 : Int32).toNatClampNeg 1) (390 : Int32).toNatClampNeg za) (391 : Int32).toNatClampNeg zb))) ∧ cnt' = 74)) := by
  refine pm_enter 0 (by decide) (Nat.le_of_ble_eq_true rfl) rfl (fun G hG hR hF => ?_)
  refine pm_aloadn hG dX12_makes_0 rfl ?_
  refine pm_getf hG dX12_makes_1 (flX12_7 _ rfl) rfl rfl ?_
  refine pm_sipush (v := 390) hG dX12_makes_4 (by decide) ?_
  refine pm_bipush (v := 6) hG dX12_makes_7 (by decide) ?_
  refine pm_iloadn hG dX12_makes_9 rfl ?_
  refine pm_imul hG dX12_makes_10 ?_
  refine pm_top (v := 0) (by decide) ?_
  refine pm_iadd hG dX12_makes_11 ?_
  refine pm_top (v := 390) (by decide) ?_
  refine pm_iloadn hG dX12_makes_12 rfl ?_
  refine pm_iadd hG dX12_makes_13 ?_
  refine pm_top (v := 391) (by decide) ?_
  refine pm_iloadn hG dX12_makes_14 rfl ?_
  refine pm_iast hG dX12_makes_15 rfl (pm_inb (by decide)) ?_
  exact pm_vret hG hF dX12_makes_16 rfl (by decide) (by decide) ⟨rfl, ⟨rfl, rfl⟩⟩

set_option maxRecDepth 100000 in
set_option maxHeartbeats 4000000 in
theorem fm_X12_makes_16 {B : Nat} {za zb zc : Int32} {d : Nat} (hdd : 1 ≤ d) : pm_met mX12_makes d 0 0 B [.ref (B + 54), .int 0, .int 4, .int zc] 74 (pm_up (pm_up (pm_up (pm_cat (fun _ => none) 54 (l_k_model B)) 55 (.inl (2071, upd (upd (fun _ => 0) (9 : Int32).toNatClampNeg 1000) (3 : Int32).toNatClampNeg 1))) 55 (.inl (2071, upd (upd (upd (fun _ => 0) (9 : Int32).toNatClampNeg 1000) (3 : Int32).toNatClampNeg 1) (390 : Int32).toNatClampNeg za))) 55 (.inl (2071, upd (upd (upd (upd (fun _ => 0) (9 : Int32).toNatClampNeg 1000) (3 : Int32).toNatClampNeg 1) (390 : Int32).toNatClampNeg za) (391 : Int32).toNatClampNeg zb))) (pm_Qv (fun σ' cnt' => σ' = (pm_up (pm_up (pm_up (pm_up (pm_cat (fun _ => none) 54 (l_k_model B)) 55 (.inl (2071, upd (upd (fun _ => 0) (9 : Int32).toNatClampNeg 1000) (3 : Int32).toNatClampNeg 1))) 55 (.inl (2071, upd (upd (upd (fun _ => 0) (9 : Int32).toNatClampNeg 1000) (3 : Int32).toNatClampNeg 1) (390 : Int32).toNatClampNeg za))) 55 (.inl (2071, upd (upd (upd (upd (fun _ => 0) (9 : Int32).toNatClampNeg 1000) (3 : Int32).toNatClampNeg 1) (390 : Int32).toNatClampNeg za) (391 : Int32).toNatClampNeg zb))) 55 (.inl (2071, upd (upd (upd (upd (upd (fun _ => 0) (9 : Int32).toNatClampNeg 1000) (3 : Int32).toNatClampNeg 1) (390 : Int32).toNatClampNeg za) (391 : Int32).toNatClampNeg zb) (394 : Int32).toNatClampNeg zc))) ∧ cnt' = 74)) := by
  refine pm_enter 0 (by decide) (Nat.le_of_ble_eq_true rfl) rfl (fun G hG hR hF => ?_)
  refine pm_aloadn hG dX12_makes_0 rfl ?_
  refine pm_getf hG dX12_makes_1 (flX12_7 _ rfl) rfl rfl ?_
  refine pm_sipush (v := 390) hG dX12_makes_4 (by decide) ?_
  refine pm_bipush (v := 6) hG dX12_makes_7 (by decide) ?_
  refine pm_iloadn hG dX12_makes_9 rfl ?_
  refine pm_imul hG dX12_makes_10 ?_
  refine pm_top (v := 0) (by decide) ?_
  refine pm_iadd hG dX12_makes_11 ?_
  refine pm_top (v := 390) (by decide) ?_
  refine pm_iloadn hG dX12_makes_12 rfl ?_
  refine pm_iadd hG dX12_makes_13 ?_
  refine pm_top (v := 394) (by decide) ?_
  refine pm_iloadn hG dX12_makes_14 rfl ?_
  refine pm_iast hG dX12_makes_15 rfl (pm_inb (by decide)) ?_
  exact pm_vret hG hF dX12_makes_16 rfl (by decide) (by decide) ⟨rfl, ⟨rfl, rfl⟩⟩

set_option maxRecDepth 100000 in
set_option maxHeartbeats 4000000 in
theorem fm_X12_makes_17 {B : Nat} {za zb zc : Int32} {d : Nat} (hdd : 1 ≤ d) : pm_met mX12_makes d 0 0 B [.ref (B + 54), .int 0, .int 5, .int 0] 74 (pm_up (pm_up (pm_up (pm_up (pm_cat (fun _ => none) 54 (l_k_model B)) 55 (.inl (2071, upd (upd (fun _ => 0) (9 : Int32).toNatClampNeg 1000) (3 : Int32).toNatClampNeg 1))) 55 (.inl (2071, upd (upd (upd (fun _ => 0) (9 : Int32).toNatClampNeg 1000) (3 : Int32).toNatClampNeg 1) (390 : Int32).toNatClampNeg za))) 55 (.inl (2071, upd (upd (upd (upd (fun _ => 0) (9 : Int32).toNatClampNeg 1000) (3 : Int32).toNatClampNeg 1) (390 : Int32).toNatClampNeg za) (391 : Int32).toNatClampNeg zb))) 55 (.inl (2071, upd (upd (upd (upd (upd (fun _ => 0) (9 : Int32).toNatClampNeg 1000) (3 : Int32).toNatClampNeg 1) (390 : Int32).toNatClampNeg za) (391 : Int32).toNatClampNeg zb) (394 : Int32).toNatClampNeg zc))) (pm_Qv (fun σ' cnt' => σ' = (pm_up (pm_up (pm_up (pm_up (pm_up (pm_cat (fun _ => none) 54 (l_k_model B)) 55 (.inl (2071, upd (upd (fun _ => 0) (9 : Int32).toNatClampNeg 1000) (3 : Int32).toNatClampNeg 1))) 55 (.inl (2071, upd (upd (upd (fun _ => 0) (9 : Int32).toNatClampNeg 1000) (3 : Int32).toNatClampNeg 1) (390 : Int32).toNatClampNeg za))) 55 (.inl (2071, upd (upd (upd (upd (fun _ => 0) (9 : Int32).toNatClampNeg 1000) (3 : Int32).toNatClampNeg 1) (390 : Int32).toNatClampNeg za) (391 : Int32).toNatClampNeg zb))) 55 (.inl (2071, upd (upd (upd (upd (upd (fun _ => 0) (9 : Int32).toNatClampNeg 1000) (3 : Int32).toNatClampNeg 1) (390 : Int32).toNatClampNeg za) (391 : Int32).toNatClampNeg zb) (394 : Int32).toNatClampNeg zc))) 55 (.inl (2071, upd (upd (upd (upd (upd (upd (fun _ => 0) (9 : Int32).toNatClampNeg 1000) (3 : Int32).toNatClampNeg 1) (390 : Int32).toNatClampNeg za) (391 : Int32).toNatClampNeg zb) (394 : Int32).toNatClampNeg zc) (395 : Int32).toNatClampNeg 0))) ∧ cnt' = 74)) := by
  refine pm_enter 0 (by decide) (Nat.le_of_ble_eq_true rfl) rfl (fun G hG hR hF => ?_)
  refine pm_aloadn hG dX12_makes_0 rfl ?_
  refine pm_getf hG dX12_makes_1 (flX12_7 _ rfl) rfl rfl ?_
  refine pm_sipush (v := 390) hG dX12_makes_4 (by decide) ?_
  refine pm_bipush (v := 6) hG dX12_makes_7 (by decide) ?_
  refine pm_iloadn hG dX12_makes_9 rfl ?_
  refine pm_imul hG dX12_makes_10 ?_
  refine pm_top (v := 0) (by decide) ?_
  refine pm_iadd hG dX12_makes_11 ?_
  refine pm_top (v := 390) (by decide) ?_
  refine pm_iloadn hG dX12_makes_12 rfl ?_
  refine pm_iadd hG dX12_makes_13 ?_
  refine pm_top (v := 395) (by decide) ?_
  refine pm_iloadn hG dX12_makes_14 rfl ?_
  refine pm_iast hG dX12_makes_15 rfl (pm_inb (by decide)) ?_
  exact pm_vret hG hF dX12_makes_16 rfl (by decide) (by decide) ⟨rfl, ⟨rfl, rfl⟩⟩

set_option maxRecDepth 100000 in
set_option maxHeartbeats 4000000 in
theorem fm_X12_makes_19 {B : Nat} {za zb zc : Int32} {d : Nat} (hdd : 1 ≤ d) : pm_met mX12_makes d 0 0 B [.ref (B + 54), .int 0, .int 2, .int (-1)] 74 (pm_up (pm_up (pm_up (pm_up (pm_up (pm_cat (fun _ => none) 54 (l_k_model B)) 55 (.inl (2071, upd (upd (fun _ => 0) (9 : Int32).toNatClampNeg 1000) (3 : Int32).toNatClampNeg 1))) 55 (.inl (2071, upd (upd (upd (fun _ => 0) (9 : Int32).toNatClampNeg 1000) (3 : Int32).toNatClampNeg 1) (390 : Int32).toNatClampNeg za))) 55 (.inl (2071, upd (upd (upd (upd (fun _ => 0) (9 : Int32).toNatClampNeg 1000) (3 : Int32).toNatClampNeg 1) (390 : Int32).toNatClampNeg za) (391 : Int32).toNatClampNeg zb))) 55 (.inl (2071, upd (upd (upd (upd (upd (fun _ => 0) (9 : Int32).toNatClampNeg 1000) (3 : Int32).toNatClampNeg 1) (390 : Int32).toNatClampNeg za) (391 : Int32).toNatClampNeg zb) (394 : Int32).toNatClampNeg zc))) 55 (.inl (2071, upd (upd (upd (upd (upd (upd (fun _ => 0) (9 : Int32).toNatClampNeg 1000) (3 : Int32).toNatClampNeg 1) (390 : Int32).toNatClampNeg za) (391 : Int32).toNatClampNeg zb) (394 : Int32).toNatClampNeg zc) (395 : Int32).toNatClampNeg 0))) (pm_Qv (fun σ' cnt' => σ' = (pm_up (pm_up (pm_up (pm_up (pm_up (pm_up (pm_cat (fun _ => none) 54 (l_k_model B)) 55 (.inl (2071, upd (upd (fun _ => 0) (9 : Int32).toNatClampNeg 1000) (3 : Int32).toNatClampNeg 1))) 55 (.inl (2071, upd (upd (upd (fun _ => 0) (9 : Int32).toNatClampNeg 1000) (3 : Int32).toNatClampNeg 1) (390 : Int32).toNatClampNeg za))) 55 (.inl (2071, upd (upd (upd (upd (fun _ => 0) (9 : Int32).toNatClampNeg 1000) (3 : Int32).toNatClampNeg 1) (390 : Int32).toNatClampNeg za) (391 : Int32).toNatClampNeg zb))) 55 (.inl (2071, upd (upd (upd (upd (upd (fun _ => 0) (9 : Int32).toNatClampNeg 1000) (3 : Int32).toNatClampNeg 1) (390 : Int32).toNatClampNeg za) (391 : Int32).toNatClampNeg zb) (394 : Int32).toNatClampNeg zc))) 55 (.inl (2071, upd (upd (upd (upd (upd (upd (fun _ => 0) (9 : Int32).toNatClampNeg 1000) (3 : Int32).toNatClampNeg 1) (390 : Int32).toNatClampNeg za) (391 : Int32).toNatClampNeg zb) (394 : Int32).toNatClampNeg zc) (395 : Int32).toNatClampNeg 0))) 55 (.inl (2071, upd (upd (upd (upd (upd (upd (upd (fun _ => 0) (9 : Int32).toNatClampNeg 1000) (3 : Int32).toNatClampNeg 1) (390 : Int32).toNatClampNeg za) (391 : Int32).toNatClampNeg zb) (394 : Int32).toNatClampNeg zc) (395 : Int32).toNatClampNeg 0) (392 : Int32).toNatClampNeg (-1)))) ∧ cnt' = 74)) := by
  refine pm_enter 0 (by decide) (Nat.le_of_ble_eq_true rfl) rfl (fun G hG hR hF => ?_)
  refine pm_aloadn hG dX12_makes_0 rfl ?_
  refine pm_getf hG dX12_makes_1 (flX12_7 _ rfl) rfl rfl ?_
  refine pm_sipush (v := 390) hG dX12_makes_4 (by decide) ?_
  refine pm_bipush (v := 6) hG dX12_makes_7 (by decide) ?_
  refine pm_iloadn hG dX12_makes_9 rfl ?_
  refine pm_imul hG dX12_makes_10 ?_
  refine pm_top (v := 0) (by decide) ?_
  refine pm_iadd hG dX12_makes_11 ?_
  refine pm_top (v := 390) (by decide) ?_
  refine pm_iloadn hG dX12_makes_12 rfl ?_
  refine pm_iadd hG dX12_makes_13 ?_
  refine pm_top (v := 392) (by decide) ?_
  refine pm_iloadn hG dX12_makes_14 rfl ?_
  refine pm_iast hG dX12_makes_15 rfl (pm_inb (by decide)) ?_
  exact pm_vret hG hF dX12_makes_16 rfl (by decide) (by decide) ⟨rfl, ⟨rfl, rfl⟩⟩

set_option maxRecDepth 100000 in
set_option maxHeartbeats 4000000 in
theorem fm_X12_makes_20 {B : Nat} {za zb zc : Int32} {d : Nat} (hdd : 1 ≤ d) : pm_met mX12_makes d 0 0 B [.ref (B + 54), .int 0, .int 3, .int (-1)] 74 (pm_up (pm_up (pm_up (pm_up (pm_up (pm_up (pm_cat (fun _ => none) 54 (l_k_model B)) 55 (.inl (2071, upd (upd (fun _ => 0) (9 : Int32).toNatClampNeg 1000) (3 : Int32).toNatClampNeg 1))) 55 (.inl (2071, upd (upd (upd (fun _ => 0) (9 : Int32).toNatClampNeg 1000) (3 : Int32).toNatClampNeg 1) (390 : Int32).toNatClampNeg za))) 55 (.inl (2071, upd (upd (upd (upd (fun _ => 0) (9 : Int32).toNatClampNeg 1000) (3 : Int32).toNatClampNeg 1) (390 : Int32).toNatClampNeg za) (391 : Int32).toNatClampNeg zb))) 55 (.inl (2071, upd (upd (upd (upd (upd (fun _ => 0) (9 : Int32).toNatClampNeg 1000) (3 : Int32).toNatClampNeg 1) (390 : Int32).toNatClampNeg za) (391 : Int32).toNatClampNeg zb) (394 : Int32).toNatClampNeg zc))) 55 (.inl (2071, upd (upd (upd (upd (upd (upd (fun _ => 0) (9 : Int32).toNatClampNeg 1000) (3 : Int32).toNatClampNeg 1) (390 : Int32).toNatClampNeg za) (391 : Int32).toNatClampNeg zb) (394 : Int32).toNatClampNeg zc) (395 : Int32).toNatClampNeg 0))) 55 (.inl (2071, upd (upd (upd (upd (upd (upd (upd (fun _ => 0) (9 : Int32).toNatClampNeg 1000) (3 : Int32).toNatClampNeg 1) (390 : Int32).toNatClampNeg za) (391 : Int32).toNatClampNeg zb) (394 : Int32).toNatClampNeg zc) (395 : Int32).toNatClampNeg 0) (392 : Int32).toNatClampNeg (-1)))) (pm_Qv (fun σ' cnt' => σ' = (pm_up (pm_up (pm_up (pm_up (pm_up (pm_up (pm_up (pm_cat (fun _ => none) 54 (l_k_model B)) 55 (.inl (2071, upd (upd (fun _ => 0) (9 : Int32).toNatClampNeg 1000) (3 : Int32).toNatClampNeg 1))) 55 (.inl (2071, upd (upd (upd (fun _ => 0) (9 : Int32).toNatClampNeg 1000) (3 : Int32).toNatClampNeg 1) (390 : Int32).toNatClampNeg za))) 55 (.inl (2071, upd (upd (upd (upd (fun _ => 0) (9 : Int32).toNatClampNeg 1000) (3 : Int32).toNatClampNeg 1) (390 : Int32).toNatClampNeg za) (391 : Int32).toNatClampNeg zb))) 55 (.inl (2071, upd (upd (upd (upd (upd (fun _ => 0) (9 : Int32).toNatClampNeg 1000) (3 : Int32).toNatClampNeg 1) (390 : Int32).toNatClampNeg za) (391 : Int32).toNatClampNeg zb) (394 : Int32).toNatClampNeg zc))) 55 (.inl (2071, upd (upd (upd (upd (upd (upd (fun _ => 0) (9 : Int32).toNatClampNeg 1000) (3 : Int32).toNatClampNeg 1) (390 : Int32).toNatClampNeg za) (391 : Int32).toNatClampNeg zb) (394 : Int32).toNatClampNeg zc) (395 : Int32).toNatClampNeg 0))) 55 (.inl (2071, upd (upd (upd (upd (upd (upd (upd (fun _ => 0) (9 : Int32).toNatClampNeg 1000) (3 : Int32).toNatClampNeg 1) (390 : Int32).toNatClampNeg za) (391 : Int32).toNatClampNeg zb) (394 : Int32).toNatClampNeg zc) (395 : Int32).toNatClampNeg 0) (392 : Int32).toNatClampNeg (-1)))) 55 (.inl (2071, upd (upd (upd (upd (upd (upd (upd (upd (fun _ => 0) (9 : Int32).toNatClampNeg 1000) (3 : Int32).toNatClampNeg 1) (390 : Int32).toNatClampNeg za) (391 : Int32).toNatClampNeg zb) (394 : Int32).toNatClampNeg zc) (395 : Int32).toNatClampNeg 0) (392 : Int32).toNatClampNeg (-1)) (393 : Int32).toNatClampNeg (-1)))) ∧ cnt' = 74)) := by
  refine pm_enter 0 (by decide) (Nat.le_of_ble_eq_true rfl) rfl (fun G hG hR hF => ?_)
  refine pm_aloadn hG dX12_makes_0 rfl ?_
  refine pm_getf hG dX12_makes_1 (flX12_7 _ rfl) rfl rfl ?_
  refine pm_sipush (v := 390) hG dX12_makes_4 (by decide) ?_
  refine pm_bipush (v := 6) hG dX12_makes_7 (by decide) ?_
  refine pm_iloadn hG dX12_makes_9 rfl ?_
  refine pm_imul hG dX12_makes_10 ?_
  refine pm_top (v := 0) (by decide) ?_
  refine pm_iadd hG dX12_makes_11 ?_
  refine pm_top (v := 390) (by decide) ?_
  refine pm_iloadn hG dX12_makes_12 rfl ?_
  refine pm_iadd hG dX12_makes_13 ?_
  refine pm_top (v := 393) (by decide) ?_
  refine pm_iloadn hG dX12_makes_14 rfl ?_
  refine pm_iast hG dX12_makes_15 rfl (pm_inb (by decide)) ?_
  exact pm_vret hG hF dX12_makes_16 rfl (by decide) (by decide) ⟨rfl, ⟨rfl, rfl⟩⟩

set_option maxRecDepth 100000 in
set_option maxHeartbeats 4000000 in
theorem fm_X12_comesBack_18 {B : Nat} {za zb zc : Int32} {d : Nat} (hdd : 2 ≤ d) : pm_met mX12_comesBack d 0 0 B [.ref (B + 54), .int 0] 74 (pm_up (pm_up (pm_up (pm_up (pm_up (pm_cat (fun _ => none) 54 (l_k_model B)) 55 (.inl (2071, upd (upd (fun _ => 0) (9 : Int32).toNatClampNeg 1000) (3 : Int32).toNatClampNeg 1))) 55 (.inl (2071, upd (upd (upd (fun _ => 0) (9 : Int32).toNatClampNeg 1000) (3 : Int32).toNatClampNeg 1) (390 : Int32).toNatClampNeg za))) 55 (.inl (2071, upd (upd (upd (upd (fun _ => 0) (9 : Int32).toNatClampNeg 1000) (3 : Int32).toNatClampNeg 1) (390 : Int32).toNatClampNeg za) (391 : Int32).toNatClampNeg zb))) 55 (.inl (2071, upd (upd (upd (upd (upd (fun _ => 0) (9 : Int32).toNatClampNeg 1000) (3 : Int32).toNatClampNeg 1) (390 : Int32).toNatClampNeg za) (391 : Int32).toNatClampNeg zb) (394 : Int32).toNatClampNeg zc))) 55 (.inl (2071, upd (upd (upd (upd (upd (upd (fun _ => 0) (9 : Int32).toNatClampNeg 1000) (3 : Int32).toNatClampNeg 1) (390 : Int32).toNatClampNeg za) (391 : Int32).toNatClampNeg zb) (394 : Int32).toNatClampNeg zc) (395 : Int32).toNatClampNeg 0))) (pm_Qv (fun σ' cnt' => σ' = (pm_up (pm_up (pm_up (pm_up (pm_up (pm_up (pm_up (pm_cat (fun _ => none) 54 (l_k_model B)) 55 (.inl (2071, upd (upd (fun _ => 0) (9 : Int32).toNatClampNeg 1000) (3 : Int32).toNatClampNeg 1))) 55 (.inl (2071, upd (upd (upd (fun _ => 0) (9 : Int32).toNatClampNeg 1000) (3 : Int32).toNatClampNeg 1) (390 : Int32).toNatClampNeg za))) 55 (.inl (2071, upd (upd (upd (upd (fun _ => 0) (9 : Int32).toNatClampNeg 1000) (3 : Int32).toNatClampNeg 1) (390 : Int32).toNatClampNeg za) (391 : Int32).toNatClampNeg zb))) 55 (.inl (2071, upd (upd (upd (upd (upd (fun _ => 0) (9 : Int32).toNatClampNeg 1000) (3 : Int32).toNatClampNeg 1) (390 : Int32).toNatClampNeg za) (391 : Int32).toNatClampNeg zb) (394 : Int32).toNatClampNeg zc))) 55 (.inl (2071, upd (upd (upd (upd (upd (upd (fun _ => 0) (9 : Int32).toNatClampNeg 1000) (3 : Int32).toNatClampNeg 1) (390 : Int32).toNatClampNeg za) (391 : Int32).toNatClampNeg zb) (394 : Int32).toNatClampNeg zc) (395 : Int32).toNatClampNeg 0))) 55 (.inl (2071, upd (upd (upd (upd (upd (upd (upd (fun _ => 0) (9 : Int32).toNatClampNeg 1000) (3 : Int32).toNatClampNeg 1) (390 : Int32).toNatClampNeg za) (391 : Int32).toNatClampNeg zb) (394 : Int32).toNatClampNeg zc) (395 : Int32).toNatClampNeg 0) (392 : Int32).toNatClampNeg (-1)))) 55 (.inl (2071, upd (upd (upd (upd (upd (upd (upd (upd (fun _ => 0) (9 : Int32).toNatClampNeg 1000) (3 : Int32).toNatClampNeg 1) (390 : Int32).toNatClampNeg za) (391 : Int32).toNatClampNeg zb) (394 : Int32).toNatClampNeg zc) (395 : Int32).toNatClampNeg 0) (392 : Int32).toNatClampNeg (-1)) (393 : Int32).toNatClampNeg (-1)))) ∧ cnt' = 74)) := by
  refine pm_enter 0 (by decide) (Nat.le_of_ble_eq_true rfl) rfl (fun G hG hR hF => ?_)
  refine pm_aloadn hG dX12_comesBack_0 rfl ?_
  refine pm_iloadn hG dX12_comesBack_1 rfl ?_
  refine pm_iconst (v := 2) hG dX12_comesBack_2 (by decide) ?_
  refine pm_iconst (v := (-1)) hG dX12_comesBack_3 (by decide) ?_
  refine pm_callV (As := [.int 0, .int 2, .int (-1)]) (rest := []) hG hR dX12_comesBack_4 (lkX12_113 _ rfl) okV_X12_makes rfl rfl (fm_X12_makes_19 (d := 1) (by decide)) rfl rfl hdd (by decide) (by decide) (by decide) (pm_kv (fun σ' cnt' hq => ?_))
  obtain ⟨rfl, rfl⟩ := hq
  refine pm_aloadn hG dX12_comesBack_7 rfl ?_
  refine pm_iloadn hG dX12_comesBack_8 rfl ?_
  refine pm_iconst (v := 3) hG dX12_comesBack_9 (by decide) ?_
  refine pm_iconst (v := (-1)) hG dX12_comesBack_10 (by decide) ?_
  refine pm_callV (As := [.int 0, .int 3, .int (-1)]) (rest := []) hG hR dX12_comesBack_11 (lkX12_113 _ rfl) okV_X12_makes rfl rfl (fm_X12_makes_20 (d := 1) (by decide)) rfl rfl hdd (by decide) (by decide) (by decide) (pm_kv (fun σ' cnt' hq => ?_))
  obtain ⟨rfl, rfl⟩ := hq
  exact pm_vret hG hF dX12_comesBack_14 rfl (by decide) (by decide) ⟨rfl, ⟨rfl, rfl⟩⟩

set_option maxRecDepth 100000 in
set_option maxHeartbeats 4000000 in
theorem fm_X12_newPower_13 {B : Nat} {za zb zc : Int32} {d : Nat} (hdd : 3 ≤ d) : pm_met mX12_newPower d 0 0 B [.ref (B + 54), .int za, .int zb, .int zc, .int (-1)] 74 (pm_cat (fun _ => none) 54 (l_k_model B)) (pm_Qi (fun v σ' cnt' => v = 0 ∧ σ' = (pm_up (pm_up (pm_up (pm_up (pm_up (pm_up (pm_up (pm_cat (fun _ => none) 54 (l_k_model B)) 55 (.inl (2071, upd (upd (fun _ => 0) (9 : Int32).toNatClampNeg 1000) (3 : Int32).toNatClampNeg 1))) 55 (.inl (2071, upd (upd (upd (fun _ => 0) (9 : Int32).toNatClampNeg 1000) (3 : Int32).toNatClampNeg 1) (390 : Int32).toNatClampNeg za))) 55 (.inl (2071, upd (upd (upd (upd (fun _ => 0) (9 : Int32).toNatClampNeg 1000) (3 : Int32).toNatClampNeg 1) (390 : Int32).toNatClampNeg za) (391 : Int32).toNatClampNeg zb))) 55 (.inl (2071, upd (upd (upd (upd (upd (fun _ => 0) (9 : Int32).toNatClampNeg 1000) (3 : Int32).toNatClampNeg 1) (390 : Int32).toNatClampNeg za) (391 : Int32).toNatClampNeg zb) (394 : Int32).toNatClampNeg zc))) 55 (.inl (2071, upd (upd (upd (upd (upd (upd (fun _ => 0) (9 : Int32).toNatClampNeg 1000) (3 : Int32).toNatClampNeg 1) (390 : Int32).toNatClampNeg za) (391 : Int32).toNatClampNeg zb) (394 : Int32).toNatClampNeg zc) (395 : Int32).toNatClampNeg 0))) 55 (.inl (2071, upd (upd (upd (upd (upd (upd (upd (fun _ => 0) (9 : Int32).toNatClampNeg 1000) (3 : Int32).toNatClampNeg 1) (390 : Int32).toNatClampNeg za) (391 : Int32).toNatClampNeg zb) (394 : Int32).toNatClampNeg zc) (395 : Int32).toNatClampNeg 0) (392 : Int32).toNatClampNeg (-1)))) 55 (.inl (2071, upd (upd (upd (upd (upd (upd (upd (upd (fun _ => 0) (9 : Int32).toNatClampNeg 1000) (3 : Int32).toNatClampNeg 1) (390 : Int32).toNatClampNeg za) (391 : Int32).toNatClampNeg zb) (394 : Int32).toNatClampNeg zc) (395 : Int32).toNatClampNeg 0) (392 : Int32).toNatClampNeg (-1)) (393 : Int32).toNatClampNeg (-1)))) ∧ cnt' = 74)) := by
  refine pm_enter 1 (by decide) (Nat.le_of_ble_eq_true rfl) rfl (fun G hG hR hF => ?_)
  refine pm_aloadn hG dX12_newPower_0 rfl ?_
  refine pm_getf hG dX12_newPower_1 (flX12_7 _ rfl) rfl rfl ?_
  refine pm_iconst (v := 3) hG dX12_newPower_4 (by decide) ?_
  refine pm_ialdX (v := 0) hG dX12_newPower_5 rfl (pm_inb (by decide)) (by rfl) ?_
  refine pm_istoreXi (loc' := [some (.ref (B + 54)), some (.int za), some (.int zb), some (.int zc), some (.int (-1)), some (.int 0)]) hG dX12_newPower_6 (by decide) (pm_c1b rfl) rfl ?_
  refine pm_aloadn hG dX12_newPower_8 rfl ?_
  refine pm_getf hG dX12_newPower_9 (flX12_7 _ rfl) rfl rfl ?_
  refine pm_iconst (v := 3) hG dX12_newPower_12 (by decide) ?_
  refine pm_dup2 hG dX12_newPower_13 rfl rfl ?_
  refine pm_ialdX (v := 0) hG dX12_newPower_14 rfl (pm_inb (by decide)) (by rfl) ?_
  refine pm_iconst (v := 1) hG dX12_newPower_15 (by decide) ?_
  refine pm_iadd hG dX12_newPower_16 ?_
  refine pm_top (v := 1) (by decide) ?_
  refine pm_iast hG dX12_newPower_17 rfl (pm_inb (by decide)) ?_
  refine pm_aloadn hG dX12_newPower_18 rfl ?_
  refine pm_iloadi hG dX12_newPower_19 rfl ?_
  refine pm_iconst (v := 0) hG dX12_newPower_21 (by decide) ?_
  refine pm_iloadn hG dX12_newPower_22 rfl ?_
  refine pm_callV (As := [.int 0, .int 0, .int za]) (rest := []) hG hR dX12_newPower_23 (lkX12_113 _ rfl) okV_X12_makes rfl rfl (fm_X12_makes_14 (d := 2) (by decide)) rfl rfl hdd (by decide) (by decide) (by decide) (pm_kv (fun σ' cnt' hq => ?_))
  obtain ⟨rfl, rfl⟩ := hq
  refine pm_aloadn hG dX12_newPower_26 rfl ?_
  refine pm_iloadi hG dX12_newPower_27 rfl ?_
  refine pm_iconst (v := 1) hG dX12_newPower_29 (by decide) ?_
  refine pm_iloadn hG dX12_newPower_30 rfl ?_
  refine pm_callV (As := [.int 0, .int 1, .int zb]) (rest := []) hG hR dX12_newPower_31 (lkX12_113 _ rfl) okV_X12_makes rfl rfl (fm_X12_makes_15 (d := 2) (by decide)) rfl rfl hdd (by decide) (by decide) (by decide) (pm_kv (fun σ' cnt' hq => ?_))
  obtain ⟨rfl, rfl⟩ := hq
  refine pm_aloadn hG dX12_newPower_34 rfl ?_
  refine pm_iloadi hG dX12_newPower_35 rfl ?_
  refine pm_iconst (v := 4) hG dX12_newPower_37 (by decide) ?_
  refine pm_iloadn hG dX12_newPower_38 rfl ?_
  refine pm_callV (As := [.int 0, .int 4, .int zc]) (rest := []) hG hR dX12_newPower_39 (lkX12_113 _ rfl) okV_X12_makes rfl rfl (fm_X12_makes_16 (d := 2) (by decide)) rfl rfl hdd (by decide) (by decide) (by decide) (pm_kv (fun σ' cnt' hq => ?_))
  obtain ⟨rfl, rfl⟩ := hq
  refine pm_aloadn hG dX12_newPower_42 rfl ?_
  refine pm_iloadi hG dX12_newPower_43 rfl ?_
  refine pm_iconst (v := 5) hG dX12_newPower_45 (by decide) ?_
  refine pm_iloadi hG dX12_newPower_46 rfl ?_
  refine pm_if_ge (tgt := 56) hG dX12_newPower_48 rfl (fun q => absurd q (by decide)) (fun _ => ?_)
  refine pm_iloadi hG dX12_newPower_51 rfl ?_
  refine pm_goto (tgt := 58) hG dX12_newPower_53 rfl ?_
  refine pm_callV (As := [.int 0, .int 5, .int 0]) (rest := []) hG hR dX12_newPower_58 (lkX12_113 _ rfl) okV_X12_makes rfl rfl (fm_X12_makes_17 (d := 2) (by decide)) rfl rfl hdd (by decide) (by decide) (by decide) (pm_kv (fun σ' cnt' hq => ?_))
  obtain ⟨rfl, rfl⟩ := hq
  refine pm_aloadn hG dX12_newPower_61 rfl ?_
  refine pm_iloadi hG dX12_newPower_62 rfl ?_
  refine pm_callV (As := [.int 0]) (rest := []) hG hR dX12_newPower_64 (lkX12_116 _ rfl) okV_X12_comesBack rfl rfl (fm_X12_comesBack_18 (d := 2) (by decide)) rfl rfl hdd (by decide) (by decide) (by decide) (pm_kv (fun σ' cnt' hq => ?_))
  obtain ⟨rfl, rfl⟩ := hq
  refine pm_iloadi hG dX12_newPower_67 rfl ?_
  exact pm_iret hG hF dX12_newPower_69 rfl (by decide) (by decide) ⟨_, rfl, ⟨rfl, rfl, rfl⟩⟩

set_option maxRecDepth 100000 in
set_option maxHeartbeats 4000000 in
theorem fm_X12_isPerson_21 {B : Nat} {zb : Int32} {d : Nat} (hdd : 2 ≤ d) : pm_met mX12_isPerson d 0 0 B [.ref (B + 54), .int zb] 74 (pm_cat (fun _ => none) 54 (l_k_model B)) (pm_Qi (fun v σ' cnt' => v = 0 ∧ σ' = (pm_cat (fun _ => none) 54 (l_k_model B)) ∧ cnt' = 74)) := by
  refine pm_enter 0 (by decide) (Nat.le_of_ble_eq_true rfl) rfl (fun G hG hR hF => ?_)
  refine pm_iloadn hG dX12_isPerson_0 rfl ?_
  refine pm_iconst (v := 0) hG dX12_isPerson_1 (by decide) ?_
  refine pm_aloadn hG dX12_isPerson_2 rfl ?_
  refine pm_getf hG dX12_isPerson_3 (flX12_7 _ rfl) rfl rfl ?_
  refine pm_iconst (v := 2) hG dX12_isPerson_6 (by decide) ?_
  refine pm_ialdX (v := 0) hG dX12_isPerson_7 rfl (pm_inb (by decide)) (by rfl) ?_
  refine pm_iconst (v := 1) hG dX12_isPerson_8 (by decide) ?_
  refine pm_isub hG dX12_isPerson_9 ?_
  refine pm_top (v := (-1)) (by decide) ?_
  refine pm_callS (As := [.int zb, .int 0, .int (-1)]) (rest := []) hG hR dX12_isPerson_10 (lkX12_68 _ rfl) okS_X12_in (mx_in (d := 1)) rfl rfl hdd (by decide) (by decide) (by decide) (pm_ki (fun v σ' cnt' hq => ?_))
  obtain ⟨rfl, rfl, rfl⟩ := hq
  refine pm_top (v := 0) (pm_in0 _) ?_
  exact pm_zret hG hF dX12_isPerson_13 rfl (by rfl) (by decide) (by decide) ⟨_, rfl, ⟨rfl, rfl, rfl⟩⟩

set_option maxRecDepth 100000 in
set_option maxHeartbeats 8000000 in
theorem om_power {B : Nat} {za zb zc : Int32} {d : Nat} (hdd : 4 ≤ d) : pm_met mX12_power d 0 0 B [.ref (B + 54), .int za, .int zb, .int zc] 74 (pm_cat (fun _ => none) 54 (l_k_model B)) (pm_Qi (fun v _ _ => v = v_power za zb zc)) := by
  refine pm_enter 0 (by decide) (Nat.le_of_ble_eq_true rfl) rfl (fun G hG hR hF => ?_)
  refine pm_iloadn hG dX12_power_0 rfl ?_
  refine pm_iconst (v := 0) hG dX12_power_1 (by decide) ?_
  refine pm_iconst (v := 5) hG dX12_power_2 (by decide) ?_
  refine pm_callS (As := [.int za, .int 0, .int 5]) (rest := []) hG hR dX12_power_3 (lkX12_68 _ rfl) okS_X12_in (mx_in (d := 3)) rfl rfl hdd (by decide) (by decide) (by decide) (pm_ki (fun v σ' cnt' hq => ?_))
  obtain ⟨rfl, rfl, rfl⟩ := hq
  by_cases c1 : za < 0 ∨ 5 < za
  · refine pm_top (v := 0) (if_pos c1) ?_
    refine pm_if_eq (tgt := 40) hG dX12_power_6 rfl (fun _ => ?_) (fun q => absurd q (by decide))
    refine pm_aloadn hG dX12_power_40 rfl ?_
    refine pm_iconst (v := 1) hG dX12_power_41 (by decide) ?_
    refine pm_callV (As := [.int 1]) (rest := []) hG hR dX12_power_42 (lkX12_80 _ rfl) okV_X12_finds rfl rfl (fm_X12_finds_2 (d := 3) (by decide)) rfl rfl hdd (by decide) (by decide) (by decide) (pm_ki (fun v σ' cnt' hq => ?_))
    obtain ⟨rfl, rfl, rfl⟩ := hq
    exact pm_iret hG hF dX12_power_45 rfl (by decide) (by decide) ⟨_, rfl, (by clear hF hR hG; first | rfl | (unfold v_power; (repeat' split) <;> first | rfl | (exfalso; simp only [Int32.lt_iff_toInt_lt, Int32.le_iff_toInt_le, ← Int32.toInt_inj, Int32.toInt_zero, L_5, L_99, L_m1, L_m1000001] at *; omega) | (apply Int32.toInt_inj.mp; simp only [Int32.lt_iff_toInt_lt, Int32.le_iff_toInt_le, ← Int32.toInt_inj, Int32.toInt_zero, L_5, L_99, L_m1, L_m1000001] at *; omega)))⟩
  · refine pm_top (v := 1) (if_neg c1) ?_
    refine pm_if_eq (tgt := 40) hG dX12_power_6 rfl (fun q => absurd q (by decide)) (fun _ => ?_)
    refine pm_iloadn hG dX12_power_9 rfl ?_
    refine pm_iconst (v := (-1)) hG dX12_power_10 (by decide) ?_
    refine pm_icmp_eq (tgt := 30) hG dX12_power_11 rfl (fun c2 => ?_) (fun c2 => ?_)
    · refine pm_iloadn hG dX12_power_30 rfl ?_
      refine pm_iconst (v := 0) hG dX12_power_31 (by decide) ?_
      refine pm_bipush (v := 99) hG dX12_power_32 (by decide) ?_
      refine pm_callS (As := [.int zc, .int 0, .int 99]) (rest := []) hG hR dX12_power_34 (lkX12_68 _ rfl) okS_X12_in (mx_in (d := 3)) rfl rfl hdd (by decide) (by decide) (by decide) (pm_ki (fun v σ' cnt' hq => ?_))
      obtain ⟨rfl, rfl, rfl⟩ := hq
      by_cases c3 : zc < 0 ∨ 99 < zc
      · refine pm_top (v := 0) (if_pos c3) ?_
        refine pm_if_ne (tgt := 46) hG dX12_power_37 rfl (fun q => absurd q (by decide)) (fun _ => ?_)
        refine pm_aloadn hG dX12_power_40 rfl ?_
        refine pm_iconst (v := 1) hG dX12_power_41 (by decide) ?_
        refine pm_callV (As := [.int 1]) (rest := []) hG hR dX12_power_42 (lkX12_80 _ rfl) okV_X12_finds rfl rfl (fm_X12_finds_2 (d := 3) (by decide)) rfl rfl hdd (by decide) (by decide) (by decide) (pm_ki (fun v σ' cnt' hq => ?_))
        obtain ⟨rfl, rfl, rfl⟩ := hq
        exact pm_iret hG hF dX12_power_45 rfl (by decide) (by decide) ⟨_, rfl, (by clear hF hR hG; first | rfl | (unfold v_power; (repeat' split) <;> first | rfl | (exfalso; simp only [Int32.lt_iff_toInt_lt, Int32.le_iff_toInt_le, ← Int32.toInt_inj, Int32.toInt_zero, L_5, L_99, L_m1, L_m1000001] at *; omega) | (apply Int32.toInt_inj.mp; simp only [Int32.lt_iff_toInt_lt, Int32.le_iff_toInt_le, ← Int32.toInt_inj, Int32.toInt_zero, L_5, L_99, L_m1, L_m1000001] at *; omega)))⟩
      · refine pm_top (v := 1) (if_neg c3) ?_
        refine pm_if_ne (tgt := 46) hG dX12_power_37 rfl (fun _ => ?_) (fun q => absurd q (by decide))
        refine pm_aloadn hG dX12_power_46 rfl ?_
        refine pm_getf hG dX12_power_47 (flX12_7 _ rfl) rfl rfl ?_
        refine pm_iconst (v := 3) hG dX12_power_50 (by decide) ?_
        refine pm_ialdX (v := 0) hG dX12_power_51 rfl (pm_inb (by decide)) (by rfl) ?_
        refine pm_bipush (v := 20) hG dX12_power_52 (by decide) ?_
        refine pm_icmp_ne (tgt := 65) hG dX12_power_54 rfl (fun _ => ?_) (fun q => absurd q (by decide))
        refine pm_aloadn hG dX12_power_65 rfl ?_
        refine pm_iloadn hG dX12_power_66 rfl ?_
        refine pm_iloadn hG dX12_power_67 rfl ?_
        refine pm_iloadn hG dX12_power_68 rfl ?_
        refine pm_iconst (v := (-1)) hG dX12_power_69 (by decide) ?_
        refine pm_callV (As := [.int za, .int zb, .int zc, .int (-1)]) (rest := []) hG hR dX12_power_70 (lkX12_128 _ rfl) okV_X12_newPower rfl rfl (fm_X12_newPower_13 (d := 3) (by decide)) rfl rfl hdd (by decide) (by decide) (by decide) (pm_ki (fun v σ' cnt' hq => ?_))
        obtain ⟨rfl, rfl, rfl⟩ := hq
        exact pm_iret hG hF dX12_power_73 rfl (by decide) (by decide) ⟨_, rfl, (by clear hF hR hG; first | rfl | (unfold v_power; (repeat' split) <;> first | rfl | (exfalso; simp only [Int32.lt_iff_toInt_lt, Int32.le_iff_toInt_le, ← Int32.toInt_inj, Int32.toInt_zero, L_5, L_99, L_m1, L_m1000001] at *; omega) | (apply Int32.toInt_inj.mp; simp only [Int32.lt_iff_toInt_lt, Int32.le_iff_toInt_le, ← Int32.toInt_inj, Int32.toInt_zero, L_5, L_99, L_m1, L_m1000001] at *; omega)))⟩
    · refine pm_aloadn hG dX12_power_14 rfl ?_
      refine pm_iloadn hG dX12_power_15 rfl ?_
      refine pm_callV (As := [.int zb]) (rest := []) hG hR dX12_power_16 (lkX12_91 _ rfl) okV_X12_isPerson rfl rfl (fm_X12_isPerson_21 (d := 3) (by decide)) rfl rfl hdd (by decide) (by decide) (by decide) (pm_ki (fun v σ' cnt' hq => ?_))
      obtain ⟨rfl, rfl, rfl⟩ := hq
      refine pm_if_eq (tgt := 40) hG dX12_power_19 rfl (fun _ => ?_) (fun q => absurd q (by decide))
      refine pm_aloadn hG dX12_power_40 rfl ?_
      refine pm_iconst (v := 1) hG dX12_power_41 (by decide) ?_
      refine pm_callV (As := [.int 1]) (rest := []) hG hR dX12_power_42 (lkX12_80 _ rfl) okV_X12_finds rfl rfl (fm_X12_finds_2 (d := 3) (by decide)) rfl rfl hdd (by decide) (by decide) (by decide) (pm_ki (fun v σ' cnt' hq => ?_))
      obtain ⟨rfl, rfl, rfl⟩ := hq
      exact pm_iret hG hF dX12_power_45 rfl (by decide) (by decide) ⟨_, rfl, (by clear hF hR hG; first | rfl | (unfold v_power; (repeat' split) <;> first | rfl | (exfalso; simp only [Int32.lt_iff_toInt_lt, Int32.le_iff_toInt_le, ← Int32.toInt_inj, Int32.toInt_zero, L_5, L_99, L_m1, L_m1000001] at *; omega) | (apply Int32.toInt_inj.mp; simp only [Int32.lt_iff_toInt_lt, Int32.le_iff_toInt_le, ← Int32.toInt_inj, Int32.toInt_zero, L_5, L_99, L_m1, L_m1000001] at *; omega)))⟩

set_option maxRecDepth 100000 in
set_option maxHeartbeats 8000000 in
theorem om_feed {B : Nat} {za : Int32} {zl : Int64} {d : Nat} (hdd : 2 ≤ d) : pm_met mX12_feed d 0 0 B [.ref (B + 54), .long zl, .int za] 74 (pm_cat (fun _ => none) 54 (l_k_model B)) (pm_Qi (fun v _ _ => v = v_feed za)) := by
  refine pm_enter 1 (by decide) (Nat.le_of_ble_eq_true rfl) rfl (fun G hG hR hF => ?_)
  refine pm_iloadn hG dX12_feed_0 rfl ?_
  refine pm_iconst (v := 1) hG dX12_feed_1 (by decide) ?_
  refine pm_bipush (v := 8) hG dX12_feed_2 (by decide) ?_
  refine pm_callS (As := [.int za, .int 1, .int 8]) (rest := []) hG hR dX12_feed_4 (lkX12_68 _ rfl) okS_X12_in (mx_in (d := 1)) rfl rfl hdd (by decide) (by decide) (by decide) (pm_ki (fun v σ' cnt' hq => ?_))
  obtain ⟨rfl, rfl, rfl⟩ := hq
  by_cases c1 : za < 1 ∨ 8 < za
  · refine pm_top (v := 0) (if_pos c1) ?_
    refine pm_if_ne (tgt := 16) hG dX12_feed_7 rfl (fun q => absurd q (by decide)) (fun _ => ?_)
    refine pm_aloadn hG dX12_feed_10 rfl ?_
    refine pm_iconst (v := 1) hG dX12_feed_11 (by decide) ?_
    refine pm_callV (As := [.int 1]) (rest := []) hG hR dX12_feed_12 (lkX12_80 _ rfl) okV_X12_finds rfl rfl (fm_X12_finds_2 (d := 1) (by decide)) rfl rfl hdd (by decide) (by decide) (by decide) (pm_ki (fun v σ' cnt' hq => ?_))
    obtain ⟨rfl, rfl, rfl⟩ := hq
    exact pm_iret hG hF dX12_feed_15 rfl (by decide) (by decide) ⟨_, rfl, (by clear hF hR hG; first | rfl | (unfold v_feed; (repeat' split) <;> first | rfl | (exfalso; simp only [Int32.lt_iff_toInt_lt, Int32.le_iff_toInt_le, ← Int32.toInt_inj, Int32.toInt_zero, L_1, L_8, L_m1000001] at *; omega) | (apply Int32.toInt_inj.mp; simp only [Int32.lt_iff_toInt_lt, Int32.le_iff_toInt_le, ← Int32.toInt_inj, Int32.toInt_zero, L_1, L_8, L_m1000001] at *; omega)))⟩
  · refine pm_top (v := 1) (if_neg c1) ?_
    refine pm_if_ne (tgt := 16) hG dX12_feed_7 rfl (fun _ => ?_) (fun q => absurd q (by decide))
    refine pm_aloadn hG dX12_feed_16 rfl ?_
    refine pm_getf hG dX12_feed_17 (flX12_7 _ rfl) rfl rfl ?_
    refine pm_bipush (v := 10) hG dX12_feed_20 (by decide) ?_
    refine pm_ialdX (v := 0) hG dX12_feed_22 rfl (pm_inb (by decide)) (by rfl) ?_
    refine pm_iloadn hG dX12_feed_23 rfl ?_
    refine pm_iadd hG dX12_feed_24 ?_
    refine pm_top (v := za) (Int32.zero_add _) ?_
    refine pm_bipush (v := 60) hG dX12_feed_25 (by decide) ?_
    refine pm_icmp_le (tgt := 36) hG dX12_feed_27 rfl (fun _ => ?_) (fun q => False.elim (by revert c1 q; simp only [Int32.lt_iff_toInt_lt, Int32.le_iff_toInt_le, ← Int32.toInt_inj, Int32.toInt_zero, L_1, L_60, L_8]; omega))
    refine pm_iconst (v := 0) hG dX12_feed_36 (by decide) ?_
    refine pm_istoreXi (loc' := [some (.ref (B + 54)), some (.long zl), none, some (.int za), some (.int 0)]) hG dX12_feed_37 (by decide) (pm_c1b rfl) rfl ?_
    refine pm_iloadi hG dX12_feed_39 rfl ?_
    refine pm_iloadn hG dX12_feed_41 rfl ?_
    refine pm_icmp_ge (tgt := 90) hG dX12_feed_42 rfl (fun q => False.elim (by revert c1 q; simp only [Int32.lt_iff_toInt_lt, Int32.le_iff_toInt_le, ← Int32.toInt_inj, Int32.toInt_zero, L_1, L_8]; omega)) (fun _ => ?_)
    refine pm_aloadn hG dX12_feed_45 rfl ?_
    refine pm_getf hG dX12_feed_46 (flX12_7 _ rfl) rfl rfl ?_
    refine pm_sipush (v := 1991) hG dX12_feed_49 (by decide) ?_
    refine pm_aloadn hG dX12_feed_52 rfl ?_
    refine pm_getf hG dX12_feed_53 (flX12_7 _ rfl) rfl rfl ?_
    refine pm_bipush (v := 10) hG dX12_feed_56 (by decide) ?_
    refine pm_ialdX (v := 0) hG dX12_feed_58 rfl (pm_inb (by decide)) (by rfl) ?_
    refine pm_iadd hG dX12_feed_59 ?_
    refine pm_top (v := 1991) (by decide) ?_
    refine pm_lloadn hG dX12_feed_60 rfl ?_
    refine pm_bipush (v := 8) hG dX12_feed_61 (by decide) ?_
    refine pm_iloadi hG dX12_feed_63 rfl ?_
    refine pm_imul hG dX12_feed_65 ?_
    refine pm_top (v := 0) (by decide) ?_
    refine pm_lshr hG dX12_feed_66 rfl ?_
    refine pm_ldc2 hG dX12_feed_67 (ctX12_142 _ rfl) ?_
    refine pm_land hG dX12_feed_70 ?_
    refine pm_l2i hG dX12_feed_71 rfl ?_
    refine pm_iast hG dX12_feed_72 rfl (pm_inb (by decide)) ?_
    refine pm_aloadn hG dX12_feed_73 rfl ?_
    refine pm_getf hG dX12_feed_74 (flX12_7 _ rfl) rfl rfl ?_
    refine pm_bipush (v := 10) hG dX12_feed_77 (by decide) ?_
    refine pm_dup2 hG dX12_feed_79 rfl rfl ?_
    refine pm_ialdX (v := 0) hG dX12_feed_80 rfl (pm_inb (by decide)) (by rfl) ?_
    refine pm_iconst (v := 1) hG dX12_feed_81 (by decide) ?_
    refine pm_iadd hG dX12_feed_82 ?_
    refine pm_top (v := 1) (by decide) ?_
    refine pm_iast hG dX12_feed_83 rfl (pm_inb (by decide)) ?_
    refine pm_iincX (v := 1) (loc' := [some (.ref (B + 54)), some (.long zl), none, some (.int za), some (.int 1)]) hG dX12_feed_84 rfl (by rfl) (by decide) (pm_c1b rfl) rfl ?_
    refine pm_goto (tgt := 39) hG dX12_feed_87 rfl ?_
    refine pm_iloadi hG dX12_feed_39 rfl ?_
    refine pm_iloadn hG dX12_feed_41 rfl ?_
    refine pm_icmp_ge (tgt := 90) hG dX12_feed_42 rfl (fun c2 => ?_) (fun c2 => ?_)
    · refine pm_aloadn hG dX12_feed_90 rfl ?_
      refine pm_getf hG dX12_feed_91 (flX12_7 _ rfl) rfl rfl ?_
      refine pm_bipush (v := 10) hG dX12_feed_94 (by decide) ?_
      refine pm_ialdX (v := 1) hG dX12_feed_96 rfl (pm_inb (by decide)) (by rfl) ?_
      exact pm_iret hG hF dX12_feed_97 rfl (by decide) (by decide) ⟨_, rfl, (by clear hF hR hG; first | rfl | (unfold v_feed; (repeat' split) <;> first | rfl | (exfalso; simp only [Int32.lt_iff_toInt_lt, Int32.le_iff_toInt_le, ← Int32.toInt_inj, Int32.toInt_zero, L_1, L_8, L_m1000001] at *; omega) | (apply Int32.toInt_inj.mp; simp only [Int32.lt_iff_toInt_lt, Int32.le_iff_toInt_le, ← Int32.toInt_inj, Int32.toInt_zero, L_1, L_8, L_m1000001] at *; omega)))⟩
    · refine pm_aloadn hG dX12_feed_45 rfl ?_
      refine pm_getf hG dX12_feed_46 (flX12_7 _ rfl) rfl rfl ?_
      refine pm_sipush (v := 1991) hG dX12_feed_49 (by decide) ?_
      refine pm_aloadn hG dX12_feed_52 rfl ?_
      refine pm_getf hG dX12_feed_53 (flX12_7 _ rfl) rfl rfl ?_
      refine pm_bipush (v := 10) hG dX12_feed_56 (by decide) ?_
      refine pm_ialdX (v := 1) hG dX12_feed_58 rfl (pm_inb (by decide)) (by rfl) ?_
      refine pm_iadd hG dX12_feed_59 ?_
      refine pm_top (v := 1992) (by decide) ?_
      refine pm_lloadn hG dX12_feed_60 rfl ?_
      refine pm_bipush (v := 8) hG dX12_feed_61 (by decide) ?_
      refine pm_iloadi hG dX12_feed_63 rfl ?_
      refine pm_imul hG dX12_feed_65 ?_
      refine pm_top (v := 8) (by decide) ?_
      refine pm_lshr hG dX12_feed_66 rfl ?_
      refine pm_ldc2 hG dX12_feed_67 (ctX12_142 _ rfl) ?_
      refine pm_land hG dX12_feed_70 ?_
      refine pm_l2i hG dX12_feed_71 rfl ?_
      refine pm_iast hG dX12_feed_72 rfl (pm_inb (by decide)) ?_
      refine pm_aloadn hG dX12_feed_73 rfl ?_
      refine pm_getf hG dX12_feed_74 (flX12_7 _ rfl) rfl rfl ?_
      refine pm_bipush (v := 10) hG dX12_feed_77 (by decide) ?_
      refine pm_dup2 hG dX12_feed_79 rfl rfl ?_
      refine pm_ialdX (v := 1) hG dX12_feed_80 rfl (pm_inb (by decide)) (by rfl) ?_
      refine pm_iconst (v := 1) hG dX12_feed_81 (by decide) ?_
      refine pm_iadd hG dX12_feed_82 ?_
      refine pm_top (v := 2) (by decide) ?_
      refine pm_iast hG dX12_feed_83 rfl (pm_inb (by decide)) ?_
      refine pm_iincX (v := 2) (loc' := [some (.ref (B + 54)), some (.long zl), none, some (.int za), some (.int 2)]) hG dX12_feed_84 rfl (by rfl) (by decide) (pm_c1b rfl) rfl ?_
      refine pm_goto (tgt := 39) hG dX12_feed_87 rfl ?_
      refine pm_iloadi hG dX12_feed_39 rfl ?_
      refine pm_iloadn hG dX12_feed_41 rfl ?_
      refine pm_icmp_ge (tgt := 90) hG dX12_feed_42 rfl (fun c3 => ?_) (fun c3 => ?_)
      · refine pm_aloadn hG dX12_feed_90 rfl ?_
        refine pm_getf hG dX12_feed_91 (flX12_7 _ rfl) rfl rfl ?_
        refine pm_bipush (v := 10) hG dX12_feed_94 (by decide) ?_
        refine pm_ialdX (v := 2) hG dX12_feed_96 rfl (pm_inb (by decide)) (by rfl) ?_
        exact pm_iret hG hF dX12_feed_97 rfl (by decide) (by decide) ⟨_, rfl, (by clear hF hR hG; first | rfl | (unfold v_feed; (repeat' split) <;> first | rfl | (exfalso; simp only [Int32.lt_iff_toInt_lt, Int32.le_iff_toInt_le, ← Int32.toInt_inj, Int32.toInt_zero, L_1, L_2, L_8, L_m1000001] at *; omega) | (apply Int32.toInt_inj.mp; simp only [Int32.lt_iff_toInt_lt, Int32.le_iff_toInt_le, ← Int32.toInt_inj, Int32.toInt_zero, L_1, L_2, L_8, L_m1000001] at *; omega)))⟩
      · refine pm_aloadn hG dX12_feed_45 rfl ?_
        refine pm_getf hG dX12_feed_46 (flX12_7 _ rfl) rfl rfl ?_
        refine pm_sipush (v := 1991) hG dX12_feed_49 (by decide) ?_
        refine pm_aloadn hG dX12_feed_52 rfl ?_
        refine pm_getf hG dX12_feed_53 (flX12_7 _ rfl) rfl rfl ?_
        refine pm_bipush (v := 10) hG dX12_feed_56 (by decide) ?_
        refine pm_ialdX (v := 2) hG dX12_feed_58 rfl (pm_inb (by decide)) (by rfl) ?_
        refine pm_iadd hG dX12_feed_59 ?_
        refine pm_top (v := 1993) (by decide) ?_
        refine pm_lloadn hG dX12_feed_60 rfl ?_
        refine pm_bipush (v := 8) hG dX12_feed_61 (by decide) ?_
        refine pm_iloadi hG dX12_feed_63 rfl ?_
        refine pm_imul hG dX12_feed_65 ?_
        refine pm_top (v := 16) (by decide) ?_
        refine pm_lshr hG dX12_feed_66 rfl ?_
        refine pm_ldc2 hG dX12_feed_67 (ctX12_142 _ rfl) ?_
        refine pm_land hG dX12_feed_70 ?_
        refine pm_l2i hG dX12_feed_71 rfl ?_
        refine pm_iast hG dX12_feed_72 rfl (pm_inb (by decide)) ?_
        refine pm_aloadn hG dX12_feed_73 rfl ?_
        refine pm_getf hG dX12_feed_74 (flX12_7 _ rfl) rfl rfl ?_
        refine pm_bipush (v := 10) hG dX12_feed_77 (by decide) ?_
        refine pm_dup2 hG dX12_feed_79 rfl rfl ?_
        refine pm_ialdX (v := 2) hG dX12_feed_80 rfl (pm_inb (by decide)) (by rfl) ?_
        refine pm_iconst (v := 1) hG dX12_feed_81 (by decide) ?_
        refine pm_iadd hG dX12_feed_82 ?_
        refine pm_top (v := 3) (by decide) ?_
        refine pm_iast hG dX12_feed_83 rfl (pm_inb (by decide)) ?_
        refine pm_iincX (v := 3) (loc' := [some (.ref (B + 54)), some (.long zl), none, some (.int za), some (.int 3)]) hG dX12_feed_84 rfl (by rfl) (by decide) (pm_c1b rfl) rfl ?_
        refine pm_goto (tgt := 39) hG dX12_feed_87 rfl ?_
        refine pm_iloadi hG dX12_feed_39 rfl ?_
        refine pm_iloadn hG dX12_feed_41 rfl ?_
        refine pm_icmp_ge (tgt := 90) hG dX12_feed_42 rfl (fun c4 => ?_) (fun c4 => ?_)
        · refine pm_aloadn hG dX12_feed_90 rfl ?_
          refine pm_getf hG dX12_feed_91 (flX12_7 _ rfl) rfl rfl ?_
          refine pm_bipush (v := 10) hG dX12_feed_94 (by decide) ?_
          refine pm_ialdX (v := 3) hG dX12_feed_96 rfl (pm_inb (by decide)) (by rfl) ?_
          exact pm_iret hG hF dX12_feed_97 rfl (by decide) (by decide) ⟨_, rfl, (by clear hF hR hG; first | rfl | (unfold v_feed; (repeat' split) <;> first | rfl | (exfalso; simp only [Int32.lt_iff_toInt_lt, Int32.le_iff_toInt_le, ← Int32.toInt_inj, Int32.toInt_zero, L_1, L_2, L_3, L_8, L_m1000001] at *; omega) | (apply Int32.toInt_inj.mp; simp only [Int32.lt_iff_toInt_lt, Int32.le_iff_toInt_le, ← Int32.toInt_inj, Int32.toInt_zero, L_1, L_2, L_3, L_8, L_m1000001] at *; omega)))⟩
        · refine pm_aloadn hG dX12_feed_45 rfl ?_
          refine pm_getf hG dX12_feed_46 (flX12_7 _ rfl) rfl rfl ?_
          refine pm_sipush (v := 1991) hG dX12_feed_49 (by decide) ?_
          refine pm_aloadn hG dX12_feed_52 rfl ?_
          refine pm_getf hG dX12_feed_53 (flX12_7 _ rfl) rfl rfl ?_
          refine pm_bipush (v := 10) hG dX12_feed_56 (by decide) ?_
          refine pm_ialdX (v := 3) hG dX12_feed_58 rfl (pm_inb (by decide)) (by rfl) ?_
          refine pm_iadd hG dX12_feed_59 ?_
          refine pm_top (v := 1994) (by decide) ?_
          refine pm_lloadn hG dX12_feed_60 rfl ?_
          refine pm_bipush (v := 8) hG dX12_feed_61 (by decide) ?_
          refine pm_iloadi hG dX12_feed_63 rfl ?_
          refine pm_imul hG dX12_feed_65 ?_
          refine pm_top (v := 24) (by decide) ?_
          refine pm_lshr hG dX12_feed_66 rfl ?_
          refine pm_ldc2 hG dX12_feed_67 (ctX12_142 _ rfl) ?_
          refine pm_land hG dX12_feed_70 ?_
          refine pm_l2i hG dX12_feed_71 rfl ?_
          refine pm_iast hG dX12_feed_72 rfl (pm_inb (by decide)) ?_
          refine pm_aloadn hG dX12_feed_73 rfl ?_
          refine pm_getf hG dX12_feed_74 (flX12_7 _ rfl) rfl rfl ?_
          refine pm_bipush (v := 10) hG dX12_feed_77 (by decide) ?_
          refine pm_dup2 hG dX12_feed_79 rfl rfl ?_
          refine pm_ialdX (v := 3) hG dX12_feed_80 rfl (pm_inb (by decide)) (by rfl) ?_
          refine pm_iconst (v := 1) hG dX12_feed_81 (by decide) ?_
          refine pm_iadd hG dX12_feed_82 ?_
          refine pm_top (v := 4) (by decide) ?_
          refine pm_iast hG dX12_feed_83 rfl (pm_inb (by decide)) ?_
          refine pm_iincX (v := 4) (loc' := [some (.ref (B + 54)), some (.long zl), none, some (.int za), some (.int 4)]) hG dX12_feed_84 rfl (by rfl) (by decide) (pm_c1b rfl) rfl ?_
          refine pm_goto (tgt := 39) hG dX12_feed_87 rfl ?_
          refine pm_iloadi hG dX12_feed_39 rfl ?_
          refine pm_iloadn hG dX12_feed_41 rfl ?_
          refine pm_icmp_ge (tgt := 90) hG dX12_feed_42 rfl (fun c5 => ?_) (fun c5 => ?_)
          · refine pm_aloadn hG dX12_feed_90 rfl ?_
            refine pm_getf hG dX12_feed_91 (flX12_7 _ rfl) rfl rfl ?_
            refine pm_bipush (v := 10) hG dX12_feed_94 (by decide) ?_
            refine pm_ialdX (v := 4) hG dX12_feed_96 rfl (pm_inb (by decide)) (by rfl) ?_
            exact pm_iret hG hF dX12_feed_97 rfl (by decide) (by decide) ⟨_, rfl, (by clear hF hR hG; first | rfl | (unfold v_feed; (repeat' split) <;> first | rfl | (exfalso; simp only [Int32.lt_iff_toInt_lt, Int32.le_iff_toInt_le, ← Int32.toInt_inj, Int32.toInt_zero, L_1, L_2, L_3, L_4, L_8, L_m1000001] at *; omega) | (apply Int32.toInt_inj.mp; simp only [Int32.lt_iff_toInt_lt, Int32.le_iff_toInt_le, ← Int32.toInt_inj, Int32.toInt_zero, L_1, L_2, L_3, L_4, L_8, L_m1000001] at *; omega)))⟩
          · refine pm_aloadn hG dX12_feed_45 rfl ?_
            refine pm_getf hG dX12_feed_46 (flX12_7 _ rfl) rfl rfl ?_
            refine pm_sipush (v := 1991) hG dX12_feed_49 (by decide) ?_
            refine pm_aloadn hG dX12_feed_52 rfl ?_
            refine pm_getf hG dX12_feed_53 (flX12_7 _ rfl) rfl rfl ?_
            refine pm_bipush (v := 10) hG dX12_feed_56 (by decide) ?_
            refine pm_ialdX (v := 4) hG dX12_feed_58 rfl (pm_inb (by decide)) (by rfl) ?_
            refine pm_iadd hG dX12_feed_59 ?_
            refine pm_top (v := 1995) (by decide) ?_
            refine pm_lloadn hG dX12_feed_60 rfl ?_
            refine pm_bipush (v := 8) hG dX12_feed_61 (by decide) ?_
            refine pm_iloadi hG dX12_feed_63 rfl ?_
            refine pm_imul hG dX12_feed_65 ?_
            refine pm_top (v := 32) (by decide) ?_
            refine pm_lshr hG dX12_feed_66 rfl ?_
            refine pm_ldc2 hG dX12_feed_67 (ctX12_142 _ rfl) ?_
            refine pm_land hG dX12_feed_70 ?_
            refine pm_l2i hG dX12_feed_71 rfl ?_
            refine pm_iast hG dX12_feed_72 rfl (pm_inb (by decide)) ?_
            refine pm_aloadn hG dX12_feed_73 rfl ?_
            refine pm_getf hG dX12_feed_74 (flX12_7 _ rfl) rfl rfl ?_
            refine pm_bipush (v := 10) hG dX12_feed_77 (by decide) ?_
            refine pm_dup2 hG dX12_feed_79 rfl rfl ?_
            refine pm_ialdX (v := 4) hG dX12_feed_80 rfl (pm_inb (by decide)) (by rfl) ?_
            refine pm_iconst (v := 1) hG dX12_feed_81 (by decide) ?_
            refine pm_iadd hG dX12_feed_82 ?_
            refine pm_top (v := 5) (by decide) ?_
            refine pm_iast hG dX12_feed_83 rfl (pm_inb (by decide)) ?_
            refine pm_iincX (v := 5) (loc' := [some (.ref (B + 54)), some (.long zl), none, some (.int za), some (.int 5)]) hG dX12_feed_84 rfl (by rfl) (by decide) (pm_c1b rfl) rfl ?_
            refine pm_goto (tgt := 39) hG dX12_feed_87 rfl ?_
            refine pm_iloadi hG dX12_feed_39 rfl ?_
            refine pm_iloadn hG dX12_feed_41 rfl ?_
            refine pm_icmp_ge (tgt := 90) hG dX12_feed_42 rfl (fun c6 => ?_) (fun c6 => ?_)
            · refine pm_aloadn hG dX12_feed_90 rfl ?_
              refine pm_getf hG dX12_feed_91 (flX12_7 _ rfl) rfl rfl ?_
              refine pm_bipush (v := 10) hG dX12_feed_94 (by decide) ?_
              refine pm_ialdX (v := 5) hG dX12_feed_96 rfl (pm_inb (by decide)) (by rfl) ?_
              exact pm_iret hG hF dX12_feed_97 rfl (by decide) (by decide) ⟨_, rfl, (by clear hF hR hG; first | rfl | (unfold v_feed; (repeat' split) <;> first | rfl | (exfalso; simp only [Int32.lt_iff_toInt_lt, Int32.le_iff_toInt_le, ← Int32.toInt_inj, Int32.toInt_zero, L_1, L_2, L_3, L_4, L_5, L_8, L_m1000001] at *; omega) | (apply Int32.toInt_inj.mp; simp only [Int32.lt_iff_toInt_lt, Int32.le_iff_toInt_le, ← Int32.toInt_inj, Int32.toInt_zero, L_1, L_2, L_3, L_4, L_5, L_8, L_m1000001] at *; omega)))⟩
            · refine pm_aloadn hG dX12_feed_45 rfl ?_
              refine pm_getf hG dX12_feed_46 (flX12_7 _ rfl) rfl rfl ?_
              refine pm_sipush (v := 1991) hG dX12_feed_49 (by decide) ?_
              refine pm_aloadn hG dX12_feed_52 rfl ?_
              refine pm_getf hG dX12_feed_53 (flX12_7 _ rfl) rfl rfl ?_
              refine pm_bipush (v := 10) hG dX12_feed_56 (by decide) ?_
              refine pm_ialdX (v := 5) hG dX12_feed_58 rfl (pm_inb (by decide)) (by rfl) ?_
              refine pm_iadd hG dX12_feed_59 ?_
              refine pm_top (v := 1996) (by decide) ?_
              refine pm_lloadn hG dX12_feed_60 rfl ?_
              refine pm_bipush (v := 8) hG dX12_feed_61 (by decide) ?_
              refine pm_iloadi hG dX12_feed_63 rfl ?_
              refine pm_imul hG dX12_feed_65 ?_
              refine pm_top (v := 40) (by decide) ?_
              refine pm_lshr hG dX12_feed_66 rfl ?_
              refine pm_ldc2 hG dX12_feed_67 (ctX12_142 _ rfl) ?_
              refine pm_land hG dX12_feed_70 ?_
              refine pm_l2i hG dX12_feed_71 rfl ?_
              refine pm_iast hG dX12_feed_72 rfl (pm_inb (by decide)) ?_
              refine pm_aloadn hG dX12_feed_73 rfl ?_
              refine pm_getf hG dX12_feed_74 (flX12_7 _ rfl) rfl rfl ?_
              refine pm_bipush (v := 10) hG dX12_feed_77 (by decide) ?_
              refine pm_dup2 hG dX12_feed_79 rfl rfl ?_
              refine pm_ialdX (v := 5) hG dX12_feed_80 rfl (pm_inb (by decide)) (by rfl) ?_
              refine pm_iconst (v := 1) hG dX12_feed_81 (by decide) ?_
              refine pm_iadd hG dX12_feed_82 ?_
              refine pm_top (v := 6) (by decide) ?_
              refine pm_iast hG dX12_feed_83 rfl (pm_inb (by decide)) ?_
              refine pm_iincX (v := 6) (loc' := [some (.ref (B + 54)), some (.long zl), none, some (.int za), some (.int 6)]) hG dX12_feed_84 rfl (by rfl) (by decide) (pm_c1b rfl) rfl ?_
              refine pm_goto (tgt := 39) hG dX12_feed_87 rfl ?_
              refine pm_iloadi hG dX12_feed_39 rfl ?_
              refine pm_iloadn hG dX12_feed_41 rfl ?_
              refine pm_icmp_ge (tgt := 90) hG dX12_feed_42 rfl (fun c7 => ?_) (fun c7 => ?_)
              · refine pm_aloadn hG dX12_feed_90 rfl ?_
                refine pm_getf hG dX12_feed_91 (flX12_7 _ rfl) rfl rfl ?_
                refine pm_bipush (v := 10) hG dX12_feed_94 (by decide) ?_
                refine pm_ialdX (v := 6) hG dX12_feed_96 rfl (pm_inb (by decide)) (by rfl) ?_
                exact pm_iret hG hF dX12_feed_97 rfl (by decide) (by decide) ⟨_, rfl, (by clear hF hR hG; first | rfl | (unfold v_feed; (repeat' split) <;> first | rfl | (exfalso; simp only [Int32.lt_iff_toInt_lt, Int32.le_iff_toInt_le, ← Int32.toInt_inj, Int32.toInt_zero, L_1, L_2, L_3, L_4, L_5, L_6, L_8, L_m1000001] at *; omega) | (apply Int32.toInt_inj.mp; simp only [Int32.lt_iff_toInt_lt, Int32.le_iff_toInt_le, ← Int32.toInt_inj, Int32.toInt_zero, L_1, L_2, L_3, L_4, L_5, L_6, L_8, L_m1000001] at *; omega)))⟩
              · refine pm_aloadn hG dX12_feed_45 rfl ?_
                refine pm_getf hG dX12_feed_46 (flX12_7 _ rfl) rfl rfl ?_
                refine pm_sipush (v := 1991) hG dX12_feed_49 (by decide) ?_
                refine pm_aloadn hG dX12_feed_52 rfl ?_
                refine pm_getf hG dX12_feed_53 (flX12_7 _ rfl) rfl rfl ?_
                refine pm_bipush (v := 10) hG dX12_feed_56 (by decide) ?_
                refine pm_ialdX (v := 6) hG dX12_feed_58 rfl (pm_inb (by decide)) (by rfl) ?_
                refine pm_iadd hG dX12_feed_59 ?_
                refine pm_top (v := 1997) (by decide) ?_
                refine pm_lloadn hG dX12_feed_60 rfl ?_
                refine pm_bipush (v := 8) hG dX12_feed_61 (by decide) ?_
                refine pm_iloadi hG dX12_feed_63 rfl ?_
                refine pm_imul hG dX12_feed_65 ?_
                refine pm_top (v := 48) (by decide) ?_
                refine pm_lshr hG dX12_feed_66 rfl ?_
                refine pm_ldc2 hG dX12_feed_67 (ctX12_142 _ rfl) ?_
                refine pm_land hG dX12_feed_70 ?_
                refine pm_l2i hG dX12_feed_71 rfl ?_
                refine pm_iast hG dX12_feed_72 rfl (pm_inb (by decide)) ?_
                refine pm_aloadn hG dX12_feed_73 rfl ?_
                refine pm_getf hG dX12_feed_74 (flX12_7 _ rfl) rfl rfl ?_
                refine pm_bipush (v := 10) hG dX12_feed_77 (by decide) ?_
                refine pm_dup2 hG dX12_feed_79 rfl rfl ?_
                refine pm_ialdX (v := 6) hG dX12_feed_80 rfl (pm_inb (by decide)) (by rfl) ?_
                refine pm_iconst (v := 1) hG dX12_feed_81 (by decide) ?_
                refine pm_iadd hG dX12_feed_82 ?_
                refine pm_top (v := 7) (by decide) ?_
                refine pm_iast hG dX12_feed_83 rfl (pm_inb (by decide)) ?_
                refine pm_iincX (v := 7) (loc' := [some (.ref (B + 54)), some (.long zl), none, some (.int za), some (.int 7)]) hG dX12_feed_84 rfl (by rfl) (by decide) (pm_c1b rfl) rfl ?_
                refine pm_goto (tgt := 39) hG dX12_feed_87 rfl ?_
                refine pm_iloadi hG dX12_feed_39 rfl ?_
                refine pm_iloadn hG dX12_feed_41 rfl ?_
                refine pm_icmp_ge (tgt := 90) hG dX12_feed_42 rfl (fun c8 => ?_) (fun c8 => ?_)
                · refine pm_aloadn hG dX12_feed_90 rfl ?_
                  refine pm_getf hG dX12_feed_91 (flX12_7 _ rfl) rfl rfl ?_
                  refine pm_bipush (v := 10) hG dX12_feed_94 (by decide) ?_
                  refine pm_ialdX (v := 7) hG dX12_feed_96 rfl (pm_inb (by decide)) (by rfl) ?_
                  exact pm_iret hG hF dX12_feed_97 rfl (by decide) (by decide) ⟨_, rfl, (by clear hF hR hG; first | rfl | (unfold v_feed; (repeat' split) <;> first | rfl | (exfalso; simp only [Int32.lt_iff_toInt_lt, Int32.le_iff_toInt_le, ← Int32.toInt_inj, Int32.toInt_zero, L_1, L_2, L_3, L_4, L_5, L_6, L_7, L_8, L_m1000001] at *; omega) | (apply Int32.toInt_inj.mp; simp only [Int32.lt_iff_toInt_lt, Int32.le_iff_toInt_le, ← Int32.toInt_inj, Int32.toInt_zero, L_1, L_2, L_3, L_4, L_5, L_6, L_7, L_8, L_m1000001] at *; omega)))⟩
                · refine pm_aloadn hG dX12_feed_45 rfl ?_
                  refine pm_getf hG dX12_feed_46 (flX12_7 _ rfl) rfl rfl ?_
                  refine pm_sipush (v := 1991) hG dX12_feed_49 (by decide) ?_
                  refine pm_aloadn hG dX12_feed_52 rfl ?_
                  refine pm_getf hG dX12_feed_53 (flX12_7 _ rfl) rfl rfl ?_
                  refine pm_bipush (v := 10) hG dX12_feed_56 (by decide) ?_
                  refine pm_ialdX (v := 7) hG dX12_feed_58 rfl (pm_inb (by decide)) (by rfl) ?_
                  refine pm_iadd hG dX12_feed_59 ?_
                  refine pm_top (v := 1998) (by decide) ?_
                  refine pm_lloadn hG dX12_feed_60 rfl ?_
                  refine pm_bipush (v := 8) hG dX12_feed_61 (by decide) ?_
                  refine pm_iloadi hG dX12_feed_63 rfl ?_
                  refine pm_imul hG dX12_feed_65 ?_
                  refine pm_top (v := 56) (by decide) ?_
                  refine pm_lshr hG dX12_feed_66 rfl ?_
                  refine pm_ldc2 hG dX12_feed_67 (ctX12_142 _ rfl) ?_
                  refine pm_land hG dX12_feed_70 ?_
                  refine pm_l2i hG dX12_feed_71 rfl ?_
                  refine pm_iast hG dX12_feed_72 rfl (pm_inb (by decide)) ?_
                  refine pm_aloadn hG dX12_feed_73 rfl ?_
                  refine pm_getf hG dX12_feed_74 (flX12_7 _ rfl) rfl rfl ?_
                  refine pm_bipush (v := 10) hG dX12_feed_77 (by decide) ?_
                  refine pm_dup2 hG dX12_feed_79 rfl rfl ?_
                  refine pm_ialdX (v := 7) hG dX12_feed_80 rfl (pm_inb (by decide)) (by rfl) ?_
                  refine pm_iconst (v := 1) hG dX12_feed_81 (by decide) ?_
                  refine pm_iadd hG dX12_feed_82 ?_
                  refine pm_top (v := 8) (by decide) ?_
                  refine pm_iast hG dX12_feed_83 rfl (pm_inb (by decide)) ?_
                  refine pm_iincX (v := 8) (loc' := [some (.ref (B + 54)), some (.long zl), none, some (.int za), some (.int 8)]) hG dX12_feed_84 rfl (by rfl) (by decide) (pm_c1b rfl) rfl ?_
                  refine pm_goto (tgt := 39) hG dX12_feed_87 rfl ?_
                  refine pm_iloadi hG dX12_feed_39 rfl ?_
                  refine pm_iloadn hG dX12_feed_41 rfl ?_
                  refine pm_icmp_ge (tgt := 90) hG dX12_feed_42 rfl (fun _ => ?_) (fun q => False.elim (by revert c1 c2 c3 c4 c5 c6 c7 c8 q; simp only [Int32.lt_iff_toInt_lt, Int32.le_iff_toInt_le, ← Int32.toInt_inj, Int32.toInt_zero, L_1, L_2, L_3, L_4, L_5, L_6, L_7, L_8]; omega))
                  refine pm_aloadn hG dX12_feed_90 rfl ?_
                  refine pm_getf hG dX12_feed_91 (flX12_7 _ rfl) rfl rfl ?_
                  refine pm_bipush (v := 10) hG dX12_feed_94 (by decide) ?_
                  refine pm_ialdX (v := 8) hG dX12_feed_96 rfl (pm_inb (by decide)) (by rfl) ?_
                  exact pm_iret hG hF dX12_feed_97 rfl (by decide) (by decide) ⟨_, rfl, (by clear hF hR hG; first | rfl | (unfold v_feed; (repeat' split) <;> first | rfl | (exfalso; simp only [Int32.lt_iff_toInt_lt, Int32.le_iff_toInt_le, ← Int32.toInt_inj, Int32.toInt_zero, L_1, L_2, L_3, L_4, L_5, L_6, L_7, L_8, L_m1000001] at *; omega) | (apply Int32.toInt_inj.mp; simp only [Int32.lt_iff_toInt_lt, Int32.le_iff_toInt_le, ← Int32.toInt_inj, Int32.toInt_zero, L_1, L_2, L_3, L_4, L_5, L_6, L_7, L_8, L_m1000001] at *; omega)))⟩

set_option maxRecDepth 100000 in
set_option maxHeartbeats 4000000 in
theorem fm_X12_isDay_22 {B : Nat} {zb : Int32} {d : Nat} (hdd : 2 ≤ d) : pm_met mX12_isDay d 0 0 B [.int zb] 74 (pm_cat (fun _ => none) 54 (l_k_model B)) (pm_Qi (fun v σ' cnt' => ((zb < 0 ∨ 2000 < zb) ∧ v = 0 ∧ σ' = (pm_cat (fun _ => none) 54 (l_k_model B)) ∧ cnt' = 74) ∨ ((¬ (zb < 0 ∨ 2000 < zb)) ∧ v = 1 ∧ σ' = (pm_cat (fun _ => none) 54 (l_k_model B)) ∧ cnt' = 74))) := by
  refine pm_enter 0 (by decide) (Nat.le_of_ble_eq_true rfl) rfl (fun G hG hR hF => ?_)
  refine pm_iloadn hG dX12_isDay_0 rfl ?_
  refine pm_iconst (v := 0) hG dX12_isDay_1 (by decide) ?_
  refine pm_sipush (v := 2000) hG dX12_isDay_2 (by decide) ?_
  refine pm_callS (As := [.int zb, .int 0, .int 2000]) (rest := []) hG hR dX12_isDay_5 (lkX12_68 _ rfl) okS_X12_in (mx_in (d := 1)) rfl rfl hdd (by decide) (by decide) (by decide) (pm_ki (fun v σ' cnt' hq => ?_))
  obtain ⟨rfl, rfl, rfl⟩ := hq
  by_cases c1 : zb < 0 ∨ 2000 < zb
  · refine pm_top (v := 0) (if_pos c1) ?_
    exact pm_zret hG hF dX12_isDay_8 rfl (by rfl) (by decide) (by decide) ⟨_, rfl, (Or.inl ⟨c1, rfl, rfl, rfl⟩)⟩
  · refine pm_top (v := 1) (if_neg c1) ?_
    exact pm_zret hG hF dX12_isDay_8 rfl (by rfl) (by decide) (by decide) ⟨_, rfl, (Or.inr ⟨c1, rfl, rfl, rfl⟩)⟩

set_option maxRecDepth 100000 in
set_option maxHeartbeats 4000000 in
theorem fm_X12_byteAt_24 {B : Nat} {d : Nat} (hdd : 1 ≤ d) : pm_met mX12_byteAt d 0 0 B [.ref (B + 54), .int 0] 74 (pm_up (pm_up (pm_up (pm_cat (fun _ => none) 54 (l_k_model B)) 54 (.inr (12, [.ref (B + 55), .ref (B + 56), .ref (B + 57), .int 0, .ref (B + 58), .ref (B + 59), .ref (B + 60), .ref (B + 61), .ref (B + 62), .ref (B + 63), .int 0, .int 0, .int 0, .ref (B + 64), .ref (B + 65), .ref (B + 66), .ref (B + 67), .ref (B + 68), .int 0, .int 0, .int 0, .ref (B + 69), .int 0, .ref (B + 70), .ref (B + 71), .ref (B + 72), .ref (B + 73)]))) 54 (.inr (12, [.ref (B + 55), .ref (B + 56), .ref (B + 57), .int 0, .ref (B + 58), .ref (B + 59), .ref (B + 60), .ref (B + 61), .ref (B + 62), .ref (B + 63), .int 0, .int 0, .int 0, .ref (B + 64), .ref (B + 65), .ref (B + 66), .ref (B + 67), .ref (B + 68), .int 0, .int 0, .int 0, .ref (B + 69), .int 0, .ref (B + 70), .ref (B + 71), .ref (B + 72), .ref (B + 73)]))) 54 (.inr (12, [.ref (B + 55), .ref (B + 56), .ref (B + 57), .int 0, .ref (B + 58), .ref (B + 59), .ref (B + 60), .ref (B + 61), .ref (B + 62), .ref (B + 63), .int 0, .int 0, .int 0, .ref (B + 64), .ref (B + 65), .ref (B + 66), .ref (B + 67), .ref (B + 68), .int 0, .int 0, .int 0, .ref (B + 69), .int 0, .ref (B + 70), .ref (B + 71), .ref (B + 72), .ref (B + 73)]))) (pm_Qi (fun v σ' cnt' => v = (-1) ∧ σ' = (pm_up (pm_up (pm_up (pm_cat (fun _ => none) 54 (l_k_model B)) 54 (.inr (12, [.ref (B + 55), .ref (B + 56), .ref (B + 57), .int 0, .ref (B + 58), .ref (B + 59), .ref (B + 60), .ref (B + 61), .ref (B + 62), .ref (B + 63), .int 0, .int 0, .int 0, .ref (B + 64), .ref (B + 65), .ref (B + 66), .ref (B + 67), .ref (B + 68), .int 0, .int 0, .int 0, .ref (B + 69), .int 0, .ref (B + 70), .ref (B + 71), .ref (B + 72), .ref (B + 73)]))) 54 (.inr (12, [.ref (B + 55), .ref (B + 56), .ref (B + 57), .int 0, .ref (B + 58), .ref (B + 59), .ref (B + 60), .ref (B + 61), .ref (B + 62), .ref (B + 63), .int 0, .int 0, .int 0, .ref (B + 64), .ref (B + 65), .ref (B + 66), .ref (B + 67), .ref (B + 68), .int 0, .int 0, .int 0, .ref (B + 69), .int 0, .ref (B + 70), .ref (B + 71), .ref (B + 72), .ref (B + 73)]))) 54 (.inr (12, [.ref (B + 55), .ref (B + 56), .ref (B + 57), .int 0, .ref (B + 58), .ref (B + 59), .ref (B + 60), .ref (B + 61), .ref (B + 62), .ref (B + 63), .int 0, .int 0, .int 0, .ref (B + 64), .ref (B + 65), .ref (B + 66), .ref (B + 67), .ref (B + 68), .int 0, .int 0, .int 0, .ref (B + 69), .int 0, .ref (B + 70), .ref (B + 71), .ref (B + 72), .ref (B + 73)]))) ∧ cnt' = 74)) := by
  refine pm_enter 0 (by decide) (Nat.le_of_ble_eq_true rfl) rfl (fun G hG hR hF => ?_)
  refine pm_iloadn hG dX12_byteAt_0 rfl ?_
  refine pm_aloadn hG dX12_byteAt_1 rfl ?_
  refine pm_getf hG dX12_byteAt_2 (flX12_7 _ rfl) rfl rfl ?_
  refine pm_bipush (v := 10) hG dX12_byteAt_5 (by decide) ?_
  refine pm_ialdX (v := 0) hG dX12_byteAt_7 rfl (pm_inb (by decide)) (by rfl) ?_
  refine pm_icmp_ge (tgt := 24) hG dX12_byteAt_8 rfl (fun _ => ?_) (fun q => absurd q (by decide))
  refine pm_iconst (v := (-1)) hG dX12_byteAt_24 (by decide) ?_
  exact pm_iret hG hF dX12_byteAt_25 rfl (by decide) (by decide) ⟨_, rfl, ⟨rfl, rfl, rfl⟩⟩

set_option maxRecDepth 100000 in
set_option maxHeartbeats 4000000 in
theorem fm_X12_nameOf_26 {B : Nat} {d : Nat} (hdd : 1 ≤ d) : pm_met mX12_nameOf d 0 0 B [.int (-1)] 74 (pm_up (pm_up (pm_up (pm_cat (fun _ => none) 54 (l_k_model B)) 54 (.inr (12, [.ref (B + 55), .ref (B + 56), .ref (B + 57), .int 0, .ref (B + 58), .ref (B + 59), .ref (B + 60), .ref (B + 61), .ref (B + 62), .ref (B + 63), .int 0, .int 0, .int 0, .ref (B + 64), .ref (B + 65), .ref (B + 66), .ref (B + 67), .ref (B + 68), .int 0, .int 0, .int 0, .ref (B + 69), .int 0, .ref (B + 70), .ref (B + 71), .ref (B + 72), .ref (B + 73)]))) 54 (.inr (12, [.ref (B + 55), .ref (B + 56), .ref (B + 57), .int 0, .ref (B + 58), .ref (B + 59), .ref (B + 60), .ref (B + 61), .ref (B + 62), .ref (B + 63), .int 0, .int 0, .int 0, .ref (B + 64), .ref (B + 65), .ref (B + 66), .ref (B + 67), .ref (B + 68), .int 0, .int 0, .int 0, .ref (B + 69), .int 0, .ref (B + 70), .ref (B + 71), .ref (B + 72), .ref (B + 73)]))) 54 (.inr (12, [.ref (B + 55), .ref (B + 56), .ref (B + 57), .int 0, .ref (B + 58), .ref (B + 59), .ref (B + 60), .ref (B + 61), .ref (B + 62), .ref (B + 63), .int 0, .int 0, .int 0, .ref (B + 64), .ref (B + 65), .ref (B + 66), .ref (B + 67), .ref (B + 68), .int 0, .int 0, .int 0, .ref (B + 69), .int 0, .ref (B + 70), .ref (B + 71), .ref (B + 72), .ref (B + 73)]))) (pm_Qi (fun v σ' cnt' => v = 0 ∧ σ' = (pm_up (pm_up (pm_up (pm_cat (fun _ => none) 54 (l_k_model B)) 54 (.inr (12, [.ref (B + 55), .ref (B + 56), .ref (B + 57), .int 0, .ref (B + 58), .ref (B + 59), .ref (B + 60), .ref (B + 61), .ref (B + 62), .ref (B + 63), .int 0, .int 0, .int 0, .ref (B + 64), .ref (B + 65), .ref (B + 66), .ref (B + 67), .ref (B + 68), .int 0, .int 0, .int 0, .ref (B + 69), .int 0, .ref (B + 70), .ref (B + 71), .ref (B + 72), .ref (B + 73)]))) 54 (.inr (12, [.ref (B + 55), .ref (B + 56), .ref (B + 57), .int 0, .ref (B + 58), .ref (B + 59), .ref (B + 60), .ref (B + 61), .ref (B + 62), .ref (B + 63), .int 0, .int 0, .int 0, .ref (B + 64), .ref (B + 65), .ref (B + 66), .ref (B + 67), .ref (B + 68), .int 0, .int 0, .int 0, .ref (B + 69), .int 0, .ref (B + 70), .ref (B + 71), .ref (B + 72), .ref (B + 73)]))) 54 (.inr (12, [.ref (B + 55), .ref (B + 56), .ref (B + 57), .int 0, .ref (B + 58), .ref (B + 59), .ref (B + 60), .ref (B + 61), .ref (B + 62), .ref (B + 63), .int 0, .int 0, .int 0, .ref (B + 64), .ref (B + 65), .ref (B + 66), .ref (B + 67), .ref (B + 68), .int 0, .int 0, .int 0, .ref (B + 69), .int 0, .ref (B + 70), .ref (B + 71), .ref (B + 72), .ref (B + 73)]))) ∧ cnt' = 74)) := by
  refine pm_enter 0 (by decide) (Nat.le_of_ble_eq_true rfl) rfl (fun G hG hR hF => ?_)
  refine pm_iloadn hG dX12_nameOf_0 rfl ?_
  refine pm_tswOut (tgt := 141) hG dX12_nameOf_1 (by decide) rfl ?_
  refine pm_iloadn hG dX12_nameOf_141 rfl ?_
  refine pm_bipush (v := 100) hG dX12_nameOf_142 (by decide) ?_
  refine pm_icmp_ne (tgt := 152) hG dX12_nameOf_144 rfl (fun _ => ?_) (fun q => absurd q (by decide))
  refine pm_iconst (v := 0) hG dX12_nameOf_152 (by decide) ?_
  exact pm_iret hG hF dX12_nameOf_153 rfl (by decide) (by decide) ⟨_, rfl, ⟨rfl, rfl, rfl⟩⟩

set_option maxRecDepth 100000 in
set_option maxHeartbeats 4000000 in
theorem fm_X12_isDigit_27 {B : Nat} {d : Nat} (hdd : 1 ≤ d) : pm_met mX12_isDigit d 0 0 B [.int (-1)] 74 (pm_up (pm_up (pm_up (pm_cat (fun _ => none) 54 (l_k_model B)) 54 (.inr (12, [.ref (B + 55), .ref (B + 56), .ref (B + 57), .int 0, .ref (B + 58), .ref (B + 59), .ref (B + 60), .ref (B + 61), .ref (B + 62), .ref (B + 63), .int 0, .int 0, .int 0, .ref (B + 64), .ref (B + 65), .ref (B + 66), .ref (B + 67), .ref (B + 68), .int 0, .int 0, .int 0, .ref (B + 69), .int 0, .ref (B + 70), .ref (B + 71), .ref (B + 72), .ref (B + 73)]))) 54 (.inr (12, [.ref (B + 55), .ref (B + 56), .ref (B + 57), .int 0, .ref (B + 58), .ref (B + 59), .ref (B + 60), .ref (B + 61), .ref (B + 62), .ref (B + 63), .int 0, .int 0, .int 0, .ref (B + 64), .ref (B + 65), .ref (B + 66), .ref (B + 67), .ref (B + 68), .int 0, .int 0, .int 0, .ref (B + 69), .int 0, .ref (B + 70), .ref (B + 71), .ref (B + 72), .ref (B + 73)]))) 54 (.inr (12, [.ref (B + 55), .ref (B + 56), .ref (B + 57), .int 0, .ref (B + 58), .ref (B + 59), .ref (B + 60), .ref (B + 61), .ref (B + 62), .ref (B + 63), .int 0, .int 0, .int 0, .ref (B + 64), .ref (B + 65), .ref (B + 66), .ref (B + 67), .ref (B + 68), .int 0, .int 0, .int 0, .ref (B + 69), .int 0, .ref (B + 70), .ref (B + 71), .ref (B + 72), .ref (B + 73)]))) (pm_Qi (fun v σ' cnt' => v = 0 ∧ σ' = (pm_up (pm_up (pm_up (pm_cat (fun _ => none) 54 (l_k_model B)) 54 (.inr (12, [.ref (B + 55), .ref (B + 56), .ref (B + 57), .int 0, .ref (B + 58), .ref (B + 59), .ref (B + 60), .ref (B + 61), .ref (B + 62), .ref (B + 63), .int 0, .int 0, .int 0, .ref (B + 64), .ref (B + 65), .ref (B + 66), .ref (B + 67), .ref (B + 68), .int 0, .int 0, .int 0, .ref (B + 69), .int 0, .ref (B + 70), .ref (B + 71), .ref (B + 72), .ref (B + 73)]))) 54 (.inr (12, [.ref (B + 55), .ref (B + 56), .ref (B + 57), .int 0, .ref (B + 58), .ref (B + 59), .ref (B + 60), .ref (B + 61), .ref (B + 62), .ref (B + 63), .int 0, .int 0, .int 0, .ref (B + 64), .ref (B + 65), .ref (B + 66), .ref (B + 67), .ref (B + 68), .int 0, .int 0, .int 0, .ref (B + 69), .int 0, .ref (B + 70), .ref (B + 71), .ref (B + 72), .ref (B + 73)]))) 54 (.inr (12, [.ref (B + 55), .ref (B + 56), .ref (B + 57), .int 0, .ref (B + 58), .ref (B + 59), .ref (B + 60), .ref (B + 61), .ref (B + 62), .ref (B + 63), .int 0, .int 0, .int 0, .ref (B + 64), .ref (B + 65), .ref (B + 66), .ref (B + 67), .ref (B + 68), .int 0, .int 0, .int 0, .ref (B + 69), .int 0, .ref (B + 70), .ref (B + 71), .ref (B + 72), .ref (B + 73)]))) ∧ cnt' = 74)) := by
  refine pm_enter 0 (by decide) (Nat.le_of_ble_eq_true rfl) rfl (fun G hG hR hF => ?_)
  refine pm_iloadn hG dX12_isDigit_0 rfl ?_
  refine pm_bipush (v := 48) hG dX12_isDigit_1 (by decide) ?_
  refine pm_icmp_lt (tgt := 16) hG dX12_isDigit_3 rfl (fun _ => ?_) (fun q => absurd q (by decide))
  refine pm_iconst (v := 0) hG dX12_isDigit_16 (by decide) ?_
  exact pm_zret hG hF dX12_isDigit_17 rfl (by rfl) (by decide) (by decide) ⟨_, rfl, ⟨rfl, rfl, rfl⟩⟩

set_option maxRecDepth 100000 in
set_option maxHeartbeats 4000000 in
theorem fm_X12_lays_28 {B : Nat} {d : Nat} (hdd : 1 ≤ d) : pm_met mX12_lays d 0 0 B [.ref (B + 54), .int 0] 74 (pm_up (pm_up (pm_up (pm_cat (fun _ => none) 54 (l_k_model B)) 54 (.inr (12, [.ref (B + 55), .ref (B + 56), .ref (B + 57), .int 0, .ref (B + 58), .ref (B + 59), .ref (B + 60), .ref (B + 61), .ref (B + 62), .ref (B + 63), .int 0, .int 0, .int 0, .ref (B + 64), .ref (B + 65), .ref (B + 66), .ref (B + 67), .ref (B + 68), .int 0, .int 0, .int 0, .ref (B + 69), .int 0, .ref (B + 70), .ref (B + 71), .ref (B + 72), .ref (B + 73)]))) 54 (.inr (12, [.ref (B + 55), .ref (B + 56), .ref (B + 57), .int 0, .ref (B + 58), .ref (B + 59), .ref (B + 60), .ref (B + 61), .ref (B + 62), .ref (B + 63), .int 0, .int 0, .int 0, .ref (B + 64), .ref (B + 65), .ref (B + 66), .ref (B + 67), .ref (B + 68), .int 0, .int 0, .int 0, .ref (B + 69), .int 0, .ref (B + 70), .ref (B + 71), .ref (B + 72), .ref (B + 73)]))) 54 (.inr (12, [.ref (B + 55), .ref (B + 56), .ref (B + 57), .int 0, .ref (B + 58), .ref (B + 59), .ref (B + 60), .ref (B + 61), .ref (B + 62), .ref (B + 63), .int 0, .int 0, .int 0, .ref (B + 64), .ref (B + 65), .ref (B + 66), .ref (B + 67), .ref (B + 68), .int 0, .int 0, .int 0, .ref (B + 69), .int 0, .ref (B + 70), .ref (B + 71), .ref (B + 72), .ref (B + 73)]))) (pm_Qv (fun σ' cnt' => σ' = (pm_up (pm_up (pm_up (pm_up (pm_up (pm_cat (fun _ => none) 54 (l_k_model B)) 54 (.inr (12, [.ref (B + 55), .ref (B + 56), .ref (B + 57), .int 0, .ref (B + 58), .ref (B + 59), .ref (B + 60), .ref (B + 61), .ref (B + 62), .ref (B + 63), .int 0, .int 0, .int 0, .ref (B + 64), .ref (B + 65), .ref (B + 66), .ref (B + 67), .ref (B + 68), .int 0, .int 0, .int 0, .ref (B + 69), .int 0, .ref (B + 70), .ref (B + 71), .ref (B + 72), .ref (B + 73)]))) 54 (.inr (12, [.ref (B + 55), .ref (B + 56), .ref (B + 57), .int 0, .ref (B + 58), .ref (B + 59), .ref (B + 60), .ref (B + 61), .ref (B + 62), .ref (B + 63), .int 0, .int 0, .int 0, .ref (B + 64), .ref (B + 65), .ref (B + 66), .ref (B + 67), .ref (B + 68), .int 0, .int 0, .int 0, .ref (B + 69), .int 0, .ref (B + 70), .ref (B + 71), .ref (B + 72), .ref (B + 73)]))) 54 (.inr (12, [.ref (B + 55), .ref (B + 56), .ref (B + 57), .int 0, .ref (B + 58), .ref (B + 59), .ref (B + 60), .ref (B + 61), .ref (B + 62), .ref (B + 63), .int 0, .int 0, .int 0, .ref (B + 64), .ref (B + 65), .ref (B + 66), .ref (B + 67), .ref (B + 68), .int 0, .int 0, .int 0, .ref (B + 69), .int 0, .ref (B + 70), .ref (B + 71), .ref (B + 72), .ref (B + 73)]))) 60 (.inl (60, upd (fun _ => 0) (0 : Int32).toNatClampNeg 0))) 54 (.inr (12, [.ref (B + 55), .ref (B + 56), .ref (B + 57), .int 0, .ref (B + 58), .ref (B + 59), .ref (B + 60), .ref (B + 61), .ref (B + 62), .ref (B + 63), .int 1, .int 0, .int 0, .ref (B + 64), .ref (B + 65), .ref (B + 66), .ref (B + 67), .ref (B + 68), .int 0, .int 0, .int 0, .ref (B + 69), .int 0, .ref (B + 70), .ref (B + 71), .ref (B + 72), .ref (B + 73)]))) ∧ cnt' = 74)) := by
  refine pm_enter 0 (by decide) (Nat.le_of_ble_eq_true rfl) rfl (fun G hG hR hF => ?_)
  refine pm_aloadn hG dX12_lays_0 rfl ?_
  refine pm_getf hG dX12_lays_1 (flX12_25 _ rfl) rfl rfl ?_
  refine pm_aloadn hG dX12_lays_4 rfl ?_
  refine pm_getf hG dX12_lays_5 (flX12_144 _ rfl) rfl rfl ?_
  refine pm_iloadn hG dX12_lays_8 rfl ?_
  refine pm_iast hG dX12_lays_9 rfl (pm_inb (by decide)) ?_
  refine pm_aloadn hG dX12_lays_10 rfl ?_
  refine pm_dup hG dX12_lays_11 rfl ?_
  refine pm_getf hG dX12_lays_12 (flX12_144 _ rfl) rfl rfl ?_
  refine pm_iconst (v := 1) hG dX12_lays_15 (by decide) ?_
  refine pm_iadd hG dX12_lays_16 ?_
  refine pm_top (v := 1) (by decide) ?_
  refine pm_putf hG dX12_lays_17 (fwX12_144 _ rfl) rfl rfl rfl ?_
  exact pm_vret hG hF dX12_lays_20 rfl (by decide) (by decide) ⟨rfl, ⟨rfl, rfl⟩⟩

set_option maxRecDepth 100000 in
set_option maxHeartbeats 4000000 in
theorem fm_X12_readsOne_25 {B : Nat} {d : Nat} (hdd : 2 ≤ d) : pm_met mX12_readsOne d 0 0 B [.ref (B + 54)] 74 (pm_up (pm_up (pm_up (pm_cat (fun _ => none) 54 (l_k_model B)) 54 (.inr (12, [.ref (B + 55), .ref (B + 56), .ref (B + 57), .int 0, .ref (B + 58), .ref (B + 59), .ref (B + 60), .ref (B + 61), .ref (B + 62), .ref (B + 63), .int 0, .int 0, .int 0, .ref (B + 64), .ref (B + 65), .ref (B + 66), .ref (B + 67), .ref (B + 68), .int 0, .int 0, .int 0, .ref (B + 69), .int 0, .ref (B + 70), .ref (B + 71), .ref (B + 72), .ref (B + 73)]))) 54 (.inr (12, [.ref (B + 55), .ref (B + 56), .ref (B + 57), .int 0, .ref (B + 58), .ref (B + 59), .ref (B + 60), .ref (B + 61), .ref (B + 62), .ref (B + 63), .int 0, .int 0, .int 0, .ref (B + 64), .ref (B + 65), .ref (B + 66), .ref (B + 67), .ref (B + 68), .int 0, .int 0, .int 0, .ref (B + 69), .int 0, .ref (B + 70), .ref (B + 71), .ref (B + 72), .ref (B + 73)]))) 54 (.inr (12, [.ref (B + 55), .ref (B + 56), .ref (B + 57), .int 0, .ref (B + 58), .ref (B + 59), .ref (B + 60), .ref (B + 61), .ref (B + 62), .ref (B + 63), .int 0, .int 0, .int 0, .ref (B + 64), .ref (B + 65), .ref (B + 66), .ref (B + 67), .ref (B + 68), .int 0, .int 0, .int 0, .ref (B + 69), .int 0, .ref (B + 70), .ref (B + 71), .ref (B + 72), .ref (B + 73)]))) (pm_Qi (fun v σ' cnt' => v = 0 ∧ σ' = (pm_up (pm_up (pm_up (pm_up (pm_up (pm_cat (fun _ => none) 54 (l_k_model B)) 54 (.inr (12, [.ref (B + 55), .ref (B + 56), .ref (B + 57), .int 0, .ref (B + 58), .ref (B + 59), .ref (B + 60), .ref (B + 61), .ref (B + 62), .ref (B + 63), .int 0, .int 0, .int 0, .ref (B + 64), .ref (B + 65), .ref (B + 66), .ref (B + 67), .ref (B + 68), .int 0, .int 0, .int 0, .ref (B + 69), .int 0, .ref (B + 70), .ref (B + 71), .ref (B + 72), .ref (B + 73)]))) 54 (.inr (12, [.ref (B + 55), .ref (B + 56), .ref (B + 57), .int 0, .ref (B + 58), .ref (B + 59), .ref (B + 60), .ref (B + 61), .ref (B + 62), .ref (B + 63), .int 0, .int 0, .int 0, .ref (B + 64), .ref (B + 65), .ref (B + 66), .ref (B + 67), .ref (B + 68), .int 0, .int 0, .int 0, .ref (B + 69), .int 0, .ref (B + 70), .ref (B + 71), .ref (B + 72), .ref (B + 73)]))) 54 (.inr (12, [.ref (B + 55), .ref (B + 56), .ref (B + 57), .int 0, .ref (B + 58), .ref (B + 59), .ref (B + 60), .ref (B + 61), .ref (B + 62), .ref (B + 63), .int 0, .int 0, .int 0, .ref (B + 64), .ref (B + 65), .ref (B + 66), .ref (B + 67), .ref (B + 68), .int 0, .int 0, .int 0, .ref (B + 69), .int 0, .ref (B + 70), .ref (B + 71), .ref (B + 72), .ref (B + 73)]))) 60 (.inl (60, upd (fun _ => 0) (0 : Int32).toNatClampNeg 0))) 54 (.inr (12, [.ref (B + 55), .ref (B + 56), .ref (B + 57), .int 0, .ref (B + 58), .ref (B + 59), .ref (B + 60), .ref (B + 61), .ref (B + 62), .ref (B + 63), .int 1, .int 0, .int 0, .ref (B + 64), .ref (B + 65), .ref (B + 66), .ref (B + 67), .ref (B + 68), .int 0, .int 0, .int 0, .ref (B + 69), .int 0, .ref (B + 70), .ref (B + 71), .ref (B + 72), .ref (B + 73)]))) ∧ cnt' = 74)) := by
  refine pm_enter 3 (by decide) (Nat.le_of_ble_eq_true rfl) rfl (fun G hG hR hF => ?_)
  refine pm_aloadn hG dX12_readsOne_0 rfl ?_
  refine pm_aloadn hG dX12_readsOne_1 rfl ?_
  refine pm_getf hG dX12_readsOne_2 (flX12_157 _ rfl) rfl rfl ?_
  refine pm_callV (As := [.int 0]) (rest := []) hG hR dX12_readsOne_5 (lkX12_160 _ rfl) okV_X12_byteAt rfl rfl (fm_X12_byteAt_24 (d := 1) (by decide)) rfl rfl hdd (by decide) (by decide) (by decide) (pm_ki (fun v σ' cnt' hq => ?_))
  obtain ⟨rfl, rfl, rfl⟩ := hq
  refine pm_istoreXn (loc' := [some (.ref (B + 54)), some (.int (-1)), none, none]) hG dX12_readsOne_8 (by decide) (pm_c1b rfl) rfl ?_
  refine pm_iloadn hG dX12_readsOne_9 rfl ?_
  refine pm_bipush (v := 33) hG dX12_readsOne_10 (by decide) ?_
  refine pm_icmp_eq (tgt := 21) hG dX12_readsOne_12 rfl (fun q => absurd q (by decide)) (fun _ => ?_)
  refine pm_iloadn hG dX12_readsOne_15 rfl ?_
  refine pm_bipush (v := 40) hG dX12_readsOne_16 (by decide) ?_
  refine pm_icmp_ne (tgt := 63) hG dX12_readsOne_18 rfl (fun _ => ?_) (fun q => absurd q (by decide))
  refine pm_iloadn hG dX12_readsOne_63 rfl ?_
  refine pm_callS (As := [.int (-1)]) (rest := []) hG hR dX12_readsOne_64 (lkX12_167 _ rfl) okS_X12_nameOf (fm_X12_nameOf_26 (d := 1) (by decide)) rfl rfl hdd (by decide) (by decide) (by decide) (pm_ki (fun v σ' cnt' hq => ?_))
  obtain ⟨rfl, rfl, rfl⟩ := hq
  refine pm_if_le (tgt := 91) hG dX12_readsOne_67 rfl (fun _ => ?_) (fun q => absurd q (by decide))
  refine pm_iconst (v := 0) hG dX12_readsOne_91 (by decide) ?_
  refine pm_istoreXn (loc' := [some (.ref (B + 54)), some (.int (-1)), some (.int 0), none]) hG dX12_readsOne_92 (by decide) (pm_c1b rfl) rfl ?_
  refine pm_aloadn hG dX12_readsOne_93 rfl ?_
  refine pm_getf hG dX12_readsOne_94 (flX12_157 _ rfl) rfl rfl ?_
  refine pm_istoreXn (loc' := [some (.ref (B + 54)), some (.int (-1)), some (.int 0), some (.int 0)]) hG dX12_readsOne_97 (by decide) (pm_c1b rfl) rfl ?_
  refine pm_aloadn hG dX12_readsOne_98 rfl ?_
  refine pm_aloadn hG dX12_readsOne_99 rfl ?_
  refine pm_getf hG dX12_readsOne_100 (flX12_157 _ rfl) rfl rfl ?_
  refine pm_callV (As := [.int 0]) (rest := []) hG hR dX12_readsOne_103 (lkX12_160 _ rfl) okV_X12_byteAt rfl rfl (fm_X12_byteAt_24 (d := 1) (by decide)) rfl rfl hdd (by decide) (by decide) (by decide) (pm_ki (fun v σ' cnt' hq => ?_))
  obtain ⟨rfl, rfl, rfl⟩ := hq
  refine pm_callS (As := [.int (-1)]) (rest := []) hG hR dX12_readsOne_106 (lkX12_170 _ rfl) okS_X12_isDigit (fm_X12_isDigit_27 (d := 1) (by decide)) rfl rfl hdd (by decide) (by decide) (by decide) (pm_ki (fun v σ' cnt' hq => ?_))
  obtain ⟨rfl, rfl, rfl⟩ := hq
  refine pm_if_eq (tgt := 152) hG dX12_readsOne_109 rfl (fun _ => ?_) (fun q => absurd q (by decide))
  refine pm_aloadn hG dX12_readsOne_152 rfl ?_
  refine pm_iloadn hG dX12_readsOne_153 rfl ?_
  refine pm_callV (As := [.int 0]) (rest := []) hG hR dX12_readsOne_154 (lkX12_154 _ rfl) okV_X12_lays rfl rfl (fm_X12_lays_28 (d := 1) (by decide)) rfl rfl hdd (by decide) (by decide) (by decide) (pm_kv (fun σ' cnt' hq => ?_))
  obtain ⟨rfl, rfl⟩ := hq
  refine pm_aloadn hG dX12_readsOne_157 rfl ?_
  refine pm_getf hG dX12_readsOne_158 (flX12_157 _ rfl) rfl rfl ?_
  refine pm_iloadn hG dX12_readsOne_161 rfl ?_
  refine pm_icmp_le (tgt := 183) hG dX12_readsOne_162 rfl (fun _ => ?_) (fun q => absurd q (by decide))
  refine pm_iconst (v := 0) hG dX12_readsOne_183 (by decide) ?_
  exact pm_iret hG hF dX12_readsOne_184 rfl (by decide) (by decide) ⟨_, rfl, ⟨rfl, rfl, rfl⟩⟩

set_option maxRecDepth 100000 in
set_option maxHeartbeats 4000000 in
theorem fm_X12_reads_23 {B : Nat} {d : Nat} (hdd : 3 ≤ d) : pm_met mX12_reads d 0 0 B [.ref (B + 54)] 74 (pm_cat (fun _ => none) 54 (l_k_model B)) (pm_Qi (fun v σ' cnt' => v = 0 ∧ σ' = (pm_up (pm_up (pm_up (pm_up (pm_up (pm_cat (fun _ => none) 54 (l_k_model B)) 54 (.inr (12, [.ref (B + 55), .ref (B + 56), .ref (B + 57), .int 0, .ref (B + 58), .ref (B + 59), .ref (B + 60), .ref (B + 61), .ref (B + 62), .ref (B + 63), .int 0, .int 0, .int 0, .ref (B + 64), .ref (B + 65), .ref (B + 66), .ref (B + 67), .ref (B + 68), .int 0, .int 0, .int 0, .ref (B + 69), .int 0, .ref (B + 70), .ref (B + 71), .ref (B + 72), .ref (B + 73)]))) 54 (.inr (12, [.ref (B + 55), .ref (B + 56), .ref (B + 57), .int 0, .ref (B + 58), .ref (B + 59), .ref (B + 60), .ref (B + 61), .ref (B + 62), .ref (B + 63), .int 0, .int 0, .int 0, .ref (B + 64), .ref (B + 65), .ref (B + 66), .ref (B + 67), .ref (B + 68), .int 0, .int 0, .int 0, .ref (B + 69), .int 0, .ref (B + 70), .ref (B + 71), .ref (B + 72), .ref (B + 73)]))) 54 (.inr (12, [.ref (B + 55), .ref (B + 56), .ref (B + 57), .int 0, .ref (B + 58), .ref (B + 59), .ref (B + 60), .ref (B + 61), .ref (B + 62), .ref (B + 63), .int 0, .int 0, .int 0, .ref (B + 64), .ref (B + 65), .ref (B + 66), .ref (B + 67), .ref (B + 68), .int 0, .int 0, .int 0, .ref (B + 69), .int 0, .ref (B + 70), .ref (B + 71), .ref (B + 72), .ref (B + 73)]))) 60 (.inl (60, upd (fun _ => 0) (0 : Int32).toNatClampNeg 0))) 54 (.inr (12, [.ref (B + 55), .ref (B + 56), .ref (B + 57), .int 0, .ref (B + 58), .ref (B + 59), .ref (B + 60), .ref (B + 61), .ref (B + 62), .ref (B + 63), .int 1, .int 0, .int 0, .ref (B + 64), .ref (B + 65), .ref (B + 66), .ref (B + 67), .ref (B + 68), .int 0, .int 0, .int 0, .ref (B + 69), .int 0, .ref (B + 70), .ref (B + 71), .ref (B + 72), .ref (B + 73)]))) ∧ cnt' = 74)) := by
  refine pm_enter 3 (by decide) (Nat.le_of_ble_eq_true rfl) rfl (fun G hG hR hF => ?_)
  refine pm_aloadn hG dX12_reads_0 rfl ?_
  refine pm_iconst (v := 0) hG dX12_reads_1 (by decide) ?_
  refine pm_putf hG dX12_reads_2 (fwX12_144 _ rfl) rfl rfl rfl ?_
  refine pm_aloadn hG dX12_reads_5 rfl ?_
  refine pm_iconst (v := 0) hG dX12_reads_6 (by decide) ?_
  refine pm_putf hG dX12_reads_7 (fwX12_148 _ rfl) rfl rfl rfl ?_
  refine pm_aloadn hG dX12_reads_10 rfl ?_
  refine pm_iconst (v := 0) hG dX12_reads_11 (by decide) ?_
  refine pm_putf hG dX12_reads_12 (fwX12_157 _ rfl) rfl rfl rfl ?_
  refine pm_iconst (v := 1) hG dX12_reads_15 (by decide) ?_
  refine pm_istoreXn (loc' := [some (.ref (B + 54)), some (.int 1), none, none]) hG dX12_reads_16 (by decide) (pm_c1b rfl) rfl ?_
  refine pm_aloadn hG dX12_reads_17 rfl ?_
  refine pm_aloadn hG dX12_reads_18 rfl ?_
  refine pm_getf hG dX12_reads_19 (flX12_157 _ rfl) rfl rfl ?_
  refine pm_callV (As := [.int 0]) (rest := []) hG hR dX12_reads_22 (lkX12_160 _ rfl) okV_X12_byteAt rfl rfl (fm_X12_byteAt_24 (d := 2) (by decide)) rfl rfl hdd (by decide) (by decide) (by decide) (pm_ki (fun v σ' cnt' hq => ?_))
  obtain ⟨rfl, rfl, rfl⟩ := hq
  refine pm_istoreXn (loc' := [some (.ref (B + 54)), some (.int 1), some (.int (-1)), none]) hG dX12_reads_25 (by decide) (pm_c1b rfl) rfl ?_
  refine pm_iloadn hG dX12_reads_26 rfl ?_
  refine pm_if_eq (tgt := 64) hG dX12_reads_27 rfl (fun q => absurd q (by decide)) (fun _ => ?_)
  refine pm_aloadn hG dX12_reads_30 rfl ?_
  refine pm_callV (As := []) (rest := []) hG hR dX12_reads_31 (lkX12_173 _ rfl) okV_X12_readsOne rfl rfl (fm_X12_readsOne_25 (d := 2) (by decide)) rfl rfl hdd (by decide) (by decide) (by decide) (pm_ki (fun v σ' cnt' hq => ?_))
  obtain ⟨rfl, rfl, rfl⟩ := hq
  refine pm_istoreXn (loc' := [some (.ref (B + 54)), some (.int 1), some (.int (-1)), some (.int 0)]) hG dX12_reads_34 (by decide) (pm_c1b rfl) rfl ?_
  refine pm_iloadn hG dX12_reads_35 rfl ?_
  refine pm_if_ne (tgt := 41) hG dX12_reads_36 rfl (fun q => absurd q (by decide)) (fun _ => ?_)
  refine pm_iconst (v := 0) hG dX12_reads_39 (by decide) ?_
  exact pm_zret hG hF dX12_reads_40 rfl (by rfl) (by decide) (by decide) ⟨_, rfl, ⟨rfl, rfl, rfl⟩⟩

set_option maxRecDepth 100000 in
set_option maxHeartbeats 8000000 in
theorem om_law {B : Nat} {za zb : Int32} {d : Nat} (hdd : 4 ≤ d) : pm_met mX12_law d 0 0 B [.ref (B + 54), .int za, .int zb] 74 (pm_cat (fun _ => none) 54 (l_k_model B)) (pm_Qi (fun v _ _ => v = v_law za zb)) := by
  refine pm_enter 4 (by decide) (Nat.le_of_ble_eq_true rfl) rfl (fun G hG hR hF => ?_)
  refine pm_iloadn hG dX12_law_0 rfl ?_
  refine pm_iconst (v := 0) hG dX12_law_1 (by decide) ?_
  refine pm_iconst (v := 4) hG dX12_law_2 (by decide) ?_
  refine pm_callS (As := [.int za, .int 0, .int 4]) (rest := []) hG hR dX12_law_3 (lkX12_68 _ rfl) okS_X12_in (mx_in (d := 3)) rfl rfl hdd (by decide) (by decide) (by decide) (pm_ki (fun v σ' cnt' hq => ?_))
  obtain ⟨rfl, rfl, rfl⟩ := hq
  by_cases c1 : za < 0 ∨ 4 < za
  · refine pm_top (v := 0) (if_pos c1) ?_
    refine pm_if_eq (tgt := 16) hG dX12_law_6 rfl (fun _ => ?_) (fun q => absurd q (by decide))
    refine pm_aloadn hG dX12_law_16 rfl ?_
    refine pm_iconst (v := 1) hG dX12_law_17 (by decide) ?_
    refine pm_callV (As := [.int 1]) (rest := []) hG hR dX12_law_18 (lkX12_80 _ rfl) okV_X12_finds rfl rfl (fm_X12_finds_2 (d := 3) (by decide)) rfl rfl hdd (by decide) (by decide) (by decide) (pm_ki (fun v σ' cnt' hq => ?_))
    obtain ⟨rfl, rfl, rfl⟩ := hq
    exact pm_iret hG hF dX12_law_21 rfl (by decide) (by decide) ⟨_, rfl, (by clear hF hR hG; first | rfl | (unfold v_law; (repeat' split) <;> first | rfl | (exfalso; simp only [Int32.lt_iff_toInt_lt, Int32.le_iff_toInt_le, ← Int32.toInt_inj, Int32.toInt_zero, L_2000, L_4, L_m10, L_m1000001] at *; omega) | (apply Int32.toInt_inj.mp; simp only [Int32.lt_iff_toInt_lt, Int32.le_iff_toInt_le, ← Int32.toInt_inj, Int32.toInt_zero, L_2000, L_4, L_m10, L_m1000001] at *; omega)))⟩
  · refine pm_top (v := 1) (if_neg c1) ?_
    refine pm_if_eq (tgt := 16) hG dX12_law_6 rfl (fun q => absurd q (by decide)) (fun _ => ?_)
    refine pm_iloadn hG dX12_law_9 rfl ?_
    refine pm_callS (As := [.int zb]) (rest := []) hG hR dX12_law_10 (lkX12_186 _ rfl) okS_X12_isDay (fm_X12_isDay_22 (d := 3) (by decide)) rfl rfl hdd (by decide) (by decide) (by decide) (pm_ki (fun v σ' cnt' hq => ?_))
    rcases hq with ⟨c2, rfl, rfl, rfl⟩ | ⟨c3, rfl, rfl, rfl⟩
    · refine pm_if_ne (tgt := 22) hG dX12_law_13 rfl (fun q => absurd q (by decide)) (fun _ => ?_)
      refine pm_aloadn hG dX12_law_16 rfl ?_
      refine pm_iconst (v := 1) hG dX12_law_17 (by decide) ?_
      refine pm_callV (As := [.int 1]) (rest := []) hG hR dX12_law_18 (lkX12_80 _ rfl) okV_X12_finds rfl rfl (fm_X12_finds_2 (d := 3) (by decide)) rfl rfl hdd (by decide) (by decide) (by decide) (pm_ki (fun v σ' cnt' hq => ?_))
      obtain ⟨rfl, rfl, rfl⟩ := hq
      exact pm_iret hG hF dX12_law_21 rfl (by decide) (by decide) ⟨_, rfl, (by clear hF hR hG; first | rfl | (unfold v_law; (repeat' split) <;> first | rfl | (exfalso; simp only [Int32.lt_iff_toInt_lt, Int32.le_iff_toInt_le, ← Int32.toInt_inj, Int32.toInt_zero, L_2000, L_4, L_m10, L_m1000001] at *; omega) | (apply Int32.toInt_inj.mp; simp only [Int32.lt_iff_toInt_lt, Int32.le_iff_toInt_le, ← Int32.toInt_inj, Int32.toInt_zero, L_2000, L_4, L_m10, L_m1000001] at *; omega)))⟩
    · refine pm_if_ne (tgt := 22) hG dX12_law_13 rfl (fun _ => ?_) (fun q => absurd q (by decide))
      refine pm_aloadn hG dX12_law_22 rfl ?_
      refine pm_getf hG dX12_law_23 (flX12_7 _ rfl) rfl rfl ?_
      refine pm_iconst (v := 4) hG dX12_law_26 (by decide) ?_
      refine pm_ialdX (v := 0) hG dX12_law_27 rfl (pm_inb (by decide)) (by rfl) ?_
      refine pm_istoreXn (loc' := [some (.ref (B + 54)), some (.int za), some (.int zb), some (.int 0), none, none, none]) hG dX12_law_28 (by decide) (pm_c1b rfl) rfl ?_
      refine pm_iloadn hG dX12_law_29 rfl ?_
      refine pm_bipush (v := 12) hG dX12_law_30 (by decide) ?_
      refine pm_icmp_ne (tgt := 41) hG dX12_law_32 rfl (fun _ => ?_) (fun q => absurd q (by decide))
      refine pm_aloadn hG dX12_law_41 rfl ?_
      refine pm_callV (As := []) (rest := []) hG hR dX12_law_42 (lkX12_189 _ rfl) okV_X12_reads rfl rfl (fm_X12_reads_23 (d := 3) (by decide)) rfl rfl hdd (by decide) (by decide) (by decide) (pm_ki (fun v σ' cnt' hq => ?_))
      obtain ⟨rfl, rfl, rfl⟩ := hq
      refine pm_istoreXi (loc' := [some (.ref (B + 54)), some (.int za), some (.int zb), some (.int 0), some (.int 0), none, none]) hG dX12_law_45 (by decide) (pm_c1b rfl) rfl ?_
      refine pm_aloadn hG dX12_law_47 rfl ?_
      refine pm_getf hG dX12_law_48 (flX12_7 _ rfl) rfl rfl ?_
      refine pm_bipush (v := 10) hG dX12_law_51 (by decide) ?_
      refine pm_iconst (v := 0) hG dX12_law_53 (by decide) ?_
      refine pm_iast hG dX12_law_54 rfl (pm_inb (by decide)) ?_
      refine pm_iloadi hG dX12_law_55 rfl ?_
      refine pm_if_ne (tgt := 68) hG dX12_law_57 rfl (fun q => absurd q (by decide)) (fun _ => ?_)
      refine pm_bipush (v := (-10)) hG dX12_law_60 (by decide) ?_
      refine pm_aloadn hG dX12_law_62 rfl ?_
      refine pm_getf hG dX12_law_63 (flX12_157 _ rfl) rfl rfl ?_
      refine pm_isub hG dX12_law_66 ?_
      refine pm_top (v := (-10)) (by decide) ?_
      exact pm_iret hG hF dX12_law_67 rfl (by decide) (by decide) ⟨_, rfl, (by clear hF hR hG; first | rfl | (unfold v_law; (repeat' split) <;> first | rfl | (exfalso; simp only [Int32.lt_iff_toInt_lt, Int32.le_iff_toInt_le, ← Int32.toInt_inj, Int32.toInt_zero, L_2000, L_4, L_m10, L_m1000001] at *; omega) | (apply Int32.toInt_inj.mp; simp only [Int32.lt_iff_toInt_lt, Int32.le_iff_toInt_le, ← Int32.toInt_inj, Int32.toInt_zero, L_2000, L_4, L_m10, L_m1000001] at *; omega)))⟩

set_option maxRecDepth 100000 in
set_option maxHeartbeats 4000000 in
theorem fm_X12_inForce_29 {B : Nat} {za zb zc : Int32} {d : Nat} (hdd : 1 ≤ d) : pm_met mX12_inForce d 0 0 B [.ref (B + 54), .int za, .int zb, .int zc] 74 (pm_cat (fun _ => none) 54 (l_k_model B)) (pm_Qi (fun v σ' cnt' => v = (-1) ∧ σ' = (pm_cat (fun _ => none) 54 (l_k_model B)) ∧ cnt' = 74)) := by
  refine pm_enter 4 (by decide) (Nat.le_of_ble_eq_true rfl) rfl (fun G hG hR hF => ?_)
  refine pm_iconst (v := (-1)) hG dX12_inForce_0 (by decide) ?_
  refine pm_istoreXi (loc' := [some (.ref (B + 54)), some (.int za), some (.int zb), some (.int zc), some (.int (-1)), none, none, none]) hG dX12_inForce_1 (by decide) (pm_c1b rfl) rfl ?_
  refine pm_iconst (v := 0) hG dX12_inForce_3 (by decide) ?_
  refine pm_istoreXi (loc' := [some (.ref (B + 54)), some (.int za), some (.int zb), some (.int zc), some (.int (-1)), some (.int 0), none, none]) hG dX12_inForce_4 (by decide) (pm_c1b rfl) rfl ?_
  refine pm_iloadi hG dX12_inForce_6 rfl ?_
  refine pm_aloadn hG dX12_inForce_8 rfl ?_
  refine pm_getf hG dX12_inForce_9 (flX12_7 _ rfl) rfl rfl ?_
  refine pm_iconst (v := 4) hG dX12_inForce_12 (by decide) ?_
  refine pm_ialdX (v := 0) hG dX12_inForce_13 rfl (pm_inb (by decide)) (by rfl) ?_
  refine pm_icmp_ge (tgt := 137) hG dX12_inForce_14 rfl (fun _ => ?_) (fun q => absurd q (by decide))
  refine pm_iloadi hG dX12_inForce_137 rfl ?_
  exact pm_iret hG hF dX12_inForce_139 rfl (by decide) (by decide) ⟨_, rfl, ⟨rfl, rfl, rfl⟩⟩

set_option maxRecDepth 100000 in
set_option maxHeartbeats 4000000 in
theorem fm_X12_finds_30 {B : Nat} {d : Nat} (hdd : 1 ≤ d) : pm_met mX12_finds d 0 0 B [.ref (B + 54), .int 2] 74 (pm_cat (fun _ => none) 54 (l_k_model B)) (pm_Qi (fun v σ' cnt' => v = (-1000002) ∧ σ' = (pm_up (pm_cat (fun _ => none) 54 (l_k_model B)) 57 (.inl (6, upd (fun _ => 0) (2 : Int32).toNatClampNeg 1))) ∧ cnt' = 74)) := by
  refine pm_enter 0 (by decide) (Nat.le_of_ble_eq_true rfl) rfl (fun G hG hR hF => ?_)
  refine pm_aloadn hG dX12_finds_0 rfl ?_
  refine pm_getf hG dX12_finds_1 (flX12_16 _ rfl) rfl rfl ?_
  refine pm_iloadn hG dX12_finds_4 rfl ?_
  refine pm_dup2 hG dX12_finds_5 rfl rfl ?_
  refine pm_ialdX (v := 0) hG dX12_finds_6 rfl (pm_inb (by decide)) (by rfl) ?_
  refine pm_iconst (v := 1) hG dX12_finds_7 (by decide) ?_
  refine pm_iadd hG dX12_finds_8 ?_
  refine pm_top (v := 1) (by decide) ?_
  refine pm_iast hG dX12_finds_9 rfl (pm_inb (by decide)) ?_
  refine pm_ldc hG dX12_finds_10 (ctX12_67 _ rfl) ?_
  refine pm_iloadn hG dX12_finds_12 rfl ?_
  refine pm_isub hG dX12_finds_13 ?_
  refine pm_top (v := (-1000002)) (by decide) ?_
  exact pm_iret hG hF dX12_finds_14 rfl (by decide) (by decide) ⟨_, rfl, ⟨rfl, rfl, rfl⟩⟩

set_option maxRecDepth 100000 in
set_option maxHeartbeats 8000000 in
theorem om_force {B : Nat} {za zb zc : Int32} {d : Nat} (hdd : 3 ≤ d) : pm_met mX12_force d 0 0 B [.ref (B + 54), .int za, .int zb, .int zc] 74 (pm_cat (fun _ => none) 54 (l_k_model B)) (pm_Qi (fun v _ _ => v = v_force za zb zc)) := by
  refine pm_enter 1 (by decide) (Nat.le_of_ble_eq_true rfl) rfl (fun G hG hR hF => ?_)
  refine pm_iloadn hG dX12_force_0 rfl ?_
  refine pm_iconst (v := 0) hG dX12_force_1 (by decide) ?_
  refine pm_iconst (v := 4) hG dX12_force_2 (by decide) ?_
  refine pm_callS (As := [.int za, .int 0, .int 4]) (rest := []) hG hR dX12_force_3 (lkX12_68 _ rfl) okS_X12_in (mx_in (d := 2)) rfl rfl hdd (by decide) (by decide) (by decide) (pm_ki (fun v σ' cnt' hq => ?_))
  obtain ⟨rfl, rfl, rfl⟩ := hq
  by_cases c1 : za < 0 ∨ 4 < za
  · refine pm_top (v := 0) (if_pos c1) ?_
    refine pm_if_eq (tgt := 27) hG dX12_force_6 rfl (fun _ => ?_) (fun q => absurd q (by decide))
    refine pm_aloadn hG dX12_force_27 rfl ?_
    refine pm_iconst (v := 1) hG dX12_force_28 (by decide) ?_
    refine pm_callV (As := [.int 1]) (rest := []) hG hR dX12_force_29 (lkX12_80 _ rfl) okV_X12_finds rfl rfl (fm_X12_finds_2 (d := 2) (by decide)) rfl rfl hdd (by decide) (by decide) (by decide) (pm_ki (fun v σ' cnt' hq => ?_))
    obtain ⟨rfl, rfl, rfl⟩ := hq
    exact pm_iret hG hF dX12_force_32 rfl (by decide) (by decide) ⟨_, rfl, (by clear hF hR hG; first | rfl | (unfold v_force; (repeat' split) <;> first | rfl | (exfalso; simp only [Int32.lt_iff_toInt_lt, Int32.le_iff_toInt_le, ← Int32.toInt_inj, Int32.toInt_zero, L_2000, L_4, L_m1, L_m1000001, L_m1000002] at *; omega) | (apply Int32.toInt_inj.mp; simp only [Int32.lt_iff_toInt_lt, Int32.le_iff_toInt_le, ← Int32.toInt_inj, Int32.toInt_zero, L_2000, L_4, L_m1, L_m1000001, L_m1000002] at *; omega)))⟩
  · refine pm_top (v := 1) (if_neg c1) ?_
    refine pm_if_eq (tgt := 27) hG dX12_force_6 rfl (fun q => absurd q (by decide)) (fun _ => ?_)
    refine pm_iloadn hG dX12_force_9 rfl ?_
    refine pm_callS (As := [.int zb]) (rest := []) hG hR dX12_force_10 (lkX12_186 _ rfl) okS_X12_isDay (fm_X12_isDay_22 (d := 2) (by decide)) rfl rfl hdd (by decide) (by decide) (by decide) (pm_ki (fun v σ' cnt' hq => ?_))
    rcases hq with ⟨c2, rfl, rfl, rfl⟩ | ⟨c3, rfl, rfl, rfl⟩
    · refine pm_if_eq (tgt := 27) hG dX12_force_13 rfl (fun _ => ?_) (fun q => absurd q (by decide))
      refine pm_aloadn hG dX12_force_27 rfl ?_
      refine pm_iconst (v := 1) hG dX12_force_28 (by decide) ?_
      refine pm_callV (As := [.int 1]) (rest := []) hG hR dX12_force_29 (lkX12_80 _ rfl) okV_X12_finds rfl rfl (fm_X12_finds_2 (d := 2) (by decide)) rfl rfl hdd (by decide) (by decide) (by decide) (pm_ki (fun v σ' cnt' hq => ?_))
      obtain ⟨rfl, rfl, rfl⟩ := hq
      exact pm_iret hG hF dX12_force_32 rfl (by decide) (by decide) ⟨_, rfl, (by clear hF hR hG; first | rfl | (unfold v_force; (repeat' split) <;> first | rfl | (exfalso; simp only [Int32.lt_iff_toInt_lt, Int32.le_iff_toInt_le, ← Int32.toInt_inj, Int32.toInt_zero, L_2000, L_4, L_m1, L_m1000001, L_m1000002] at *; omega) | (apply Int32.toInt_inj.mp; simp only [Int32.lt_iff_toInt_lt, Int32.le_iff_toInt_le, ← Int32.toInt_inj, Int32.toInt_zero, L_2000, L_4, L_m1, L_m1000001, L_m1000002] at *; omega)))⟩
    · refine pm_if_eq (tgt := 27) hG dX12_force_13 rfl (fun q => absurd q (by decide)) (fun _ => ?_)
      refine pm_iloadn hG dX12_force_16 rfl ?_
      refine pm_iconst (v := (-1)) hG dX12_force_17 (by decide) ?_
      refine pm_sipush (v := 2000) hG dX12_force_18 (by decide) ?_
      refine pm_callS (As := [.int zc, .int (-1), .int 2000]) (rest := []) hG hR dX12_force_21 (lkX12_68 _ rfl) okS_X12_in (mx_in (d := 2)) rfl rfl hdd (by decide) (by decide) (by decide) (pm_ki (fun v σ' cnt' hq => ?_))
      obtain ⟨rfl, rfl, rfl⟩ := hq
      by_cases c4 : zc < (-1) ∨ 2000 < zc
      · refine pm_top (v := 0) (if_pos c4) ?_
        refine pm_if_ne (tgt := 33) hG dX12_force_24 rfl (fun q => absurd q (by decide)) (fun _ => ?_)
        refine pm_aloadn hG dX12_force_27 rfl ?_
        refine pm_iconst (v := 1) hG dX12_force_28 (by decide) ?_
        refine pm_callV (As := [.int 1]) (rest := []) hG hR dX12_force_29 (lkX12_80 _ rfl) okV_X12_finds rfl rfl (fm_X12_finds_2 (d := 2) (by decide)) rfl rfl hdd (by decide) (by decide) (by decide) (pm_ki (fun v σ' cnt' hq => ?_))
        obtain ⟨rfl, rfl, rfl⟩ := hq
        exact pm_iret hG hF dX12_force_32 rfl (by decide) (by decide) ⟨_, rfl, (by clear hF hR hG; first | rfl | (unfold v_force; (repeat' split) <;> first | rfl | (exfalso; simp only [Int32.lt_iff_toInt_lt, Int32.le_iff_toInt_le, ← Int32.toInt_inj, Int32.toInt_zero, L_2000, L_4, L_m1, L_m1000001, L_m1000002] at *; omega) | (apply Int32.toInt_inj.mp; simp only [Int32.lt_iff_toInt_lt, Int32.le_iff_toInt_le, ← Int32.toInt_inj, Int32.toInt_zero, L_2000, L_4, L_m1, L_m1000001, L_m1000002] at *; omega)))⟩
      · refine pm_top (v := 1) (if_neg c4) ?_
        refine pm_if_ne (tgt := 33) hG dX12_force_24 rfl (fun _ => ?_) (fun q => absurd q (by decide))
        refine pm_aloadn hG dX12_force_33 rfl ?_
        refine pm_iloadn hG dX12_force_34 rfl ?_
        refine pm_iloadn hG dX12_force_35 rfl ?_
        refine pm_iloadn hG dX12_force_36 rfl ?_
        refine pm_callV (As := [.int za, .int zb, .int zc]) (rest := []) hG hR dX12_force_37 (lkX12_195 _ rfl) okV_X12_inForce rfl rfl (fm_X12_inForce_29 (d := 2) (by decide)) rfl rfl hdd (by decide) (by decide) (by decide) (pm_ki (fun v σ' cnt' hq => ?_))
        obtain ⟨rfl, rfl, rfl⟩ := hq
        refine pm_istoreXi (loc' := [some (.ref (B + 54)), some (.int za), some (.int zb), some (.int zc), some (.int (-1))]) hG dX12_force_40 (by decide) (pm_c1b rfl) rfl ?_
        refine pm_iloadi hG dX12_force_42 rfl ?_
        refine pm_if_ge (tgt := 55) hG dX12_force_44 rfl (fun q => absurd q (by decide)) (fun _ => ?_)
        refine pm_aloadn hG dX12_force_47 rfl ?_
        refine pm_iconst (v := 2) hG dX12_force_48 (by decide) ?_
        refine pm_callV (As := [.int 2]) (rest := []) hG hR dX12_force_49 (lkX12_80 _ rfl) okV_X12_finds rfl rfl (fm_X12_finds_30 (d := 2) (by decide)) rfl rfl hdd (by decide) (by decide) (by decide) (pm_ki (fun v σ' cnt' hq => ?_))
        obtain ⟨rfl, rfl, rfl⟩ := hq
        refine pm_goto (tgt := 57) hG dX12_force_52 rfl ?_
        exact pm_iret hG hF dX12_force_57 rfl (by decide) (by decide) ⟨_, rfl, (by clear hF hR hG; first | rfl | (unfold v_force; (repeat' split) <;> first | rfl | (exfalso; simp only [Int32.lt_iff_toInt_lt, Int32.le_iff_toInt_le, ← Int32.toInt_inj, Int32.toInt_zero, L_2000, L_4, L_m1, L_m1000001, L_m1000002] at *; omega) | (apply Int32.toInt_inj.mp; simp only [Int32.lt_iff_toInt_lt, Int32.le_iff_toInt_le, ← Int32.toInt_inj, Int32.toInt_zero, L_2000, L_4, L_m1, L_m1000001, L_m1000002] at *; omega)))⟩

set_option maxRecDepth 100000 in
set_option maxHeartbeats 4000000 in
theorem fm_X12_isSheet_31 {B : Nat} {za : Int32} {d : Nat} (hdd : 2 ≤ d) : pm_met mX12_isSheet d 0 0 B [.int za] 74 (pm_cat (fun _ => none) 54 (l_k_model B)) (pm_Qi (fun v σ' cnt' => ((za < 0 ∨ 3 < za) ∧ v = 0 ∧ σ' = (pm_cat (fun _ => none) 54 (l_k_model B)) ∧ cnt' = 74) ∨ ((¬ (za < 0 ∨ 3 < za)) ∧ v = 1 ∧ σ' = (pm_cat (fun _ => none) 54 (l_k_model B)) ∧ cnt' = 74))) := by
  refine pm_enter 0 (by decide) (Nat.le_of_ble_eq_true rfl) rfl (fun G hG hR hF => ?_)
  refine pm_iloadn hG dX12_isSheet_0 rfl ?_
  refine pm_iconst (v := 0) hG dX12_isSheet_1 (by decide) ?_
  refine pm_iconst (v := 3) hG dX12_isSheet_2 (by decide) ?_
  refine pm_callS (As := [.int za, .int 0, .int 3]) (rest := []) hG hR dX12_isSheet_3 (lkX12_68 _ rfl) okS_X12_in (mx_in (d := 1)) rfl rfl hdd (by decide) (by decide) (by decide) (pm_ki (fun v σ' cnt' hq => ?_))
  obtain ⟨rfl, rfl, rfl⟩ := hq
  by_cases c1 : za < 0 ∨ 3 < za
  · refine pm_top (v := 0) (if_pos c1) ?_
    exact pm_zret hG hF dX12_isSheet_6 rfl (by rfl) (by decide) (by decide) ⟨_, rfl, (Or.inl ⟨c1, rfl, rfl, rfl⟩)⟩
  · refine pm_top (v := 1) (if_neg c1) ?_
    exact pm_zret hG hF dX12_isSheet_6 rfl (by rfl) (by decide) (by decide) ⟨_, rfl, (Or.inr ⟨c1, rfl, rfl, rfl⟩)⟩

set_option maxRecDepth 100000 in
set_option maxHeartbeats 8000000 in
theorem om_rents {B : Nat} {za zb : Int32} {d : Nat} (hdd : 3 ≤ d) : pm_met mX12_rents d 0 0 B [.ref (B + 54), .int za, .int zb] 74 (pm_cat (fun _ => none) 54 (l_k_model B)) (pm_Qi (fun v _ _ => v = v_rents za zb)) := by
  refine pm_enter 2 (by decide) (Nat.le_of_ble_eq_true rfl) rfl (fun G hG hR hF => ?_)
  refine pm_iloadn hG dX12_rents_0 rfl ?_
  refine pm_callS (As := [.int za]) (rest := []) hG hR dX12_rents_1 (lkX12_239 _ rfl) okS_X12_isSheet (fm_X12_isSheet_31 (d := 2) (by decide)) rfl rfl hdd (by decide) (by decide) (by decide) (pm_ki (fun v σ' cnt' hq => ?_))
  rcases hq with ⟨c1, rfl, rfl, rfl⟩ | ⟨c2, rfl, rfl, rfl⟩
  · refine pm_if_eq (tgt := 25) hG dX12_rents_4 rfl (fun _ => ?_) (fun q => absurd q (by decide))
    refine pm_aloadn hG dX12_rents_25 rfl ?_
    refine pm_iconst (v := 1) hG dX12_rents_26 (by decide) ?_
    refine pm_callV (As := [.int 1]) (rest := []) hG hR dX12_rents_27 (lkX12_80 _ rfl) okV_X12_finds rfl rfl (fm_X12_finds_2 (d := 2) (by decide)) rfl rfl hdd (by decide) (by decide) (by decide) (pm_ki (fun v σ' cnt' hq => ?_))
    obtain ⟨rfl, rfl, rfl⟩ := hq
    exact pm_iret hG hF dX12_rents_30 rfl (by decide) (by decide) ⟨_, rfl, (by clear hF hR hG; first | rfl | (unfold v_rents; (repeat' split) <;> first | rfl | (exfalso; simp only [Int32.lt_iff_toInt_lt, Int32.le_iff_toInt_le, ← Int32.toInt_inj, Int32.toInt_zero, L_16, L_3, L_32, L_8, L_m1000001, L_m1000002] at *; omega) | (apply Int32.toInt_inj.mp; simp only [Int32.lt_iff_toInt_lt, Int32.le_iff_toInt_le, ← Int32.toInt_inj, Int32.toInt_zero, L_16, L_3, L_32, L_8, L_m1000001, L_m1000002] at *; omega)))⟩
  · refine pm_if_eq (tgt := 25) hG dX12_rents_4 rfl (fun q => absurd q (by decide)) (fun _ => ?_)
    refine pm_iloadn hG dX12_rents_7 rfl ?_
    refine pm_bipush (v := 8) hG dX12_rents_8 (by decide) ?_
    refine pm_icmp_eq (tgt := 31) hG dX12_rents_10 rfl (fun c3 => ?_) (fun c3 => ?_)
    · refine pm_aloadn hG dX12_rents_31 rfl ?_
      refine pm_getf hG dX12_rents_32 (flX12_55 _ rfl) rfl rfl ?_
      refine pm_iloadn hG dX12_rents_35 rfl ?_
      refine pm_ialdX (v := 0) hG dX12_rents_36 rfl (vp_in_iff.mpr (by revert c2; simp only [Int32.lt_iff_toInt_lt, Int32.le_iff_toInt_le, ← Int32.toInt_inj, Int32.toInt_zero, Int32.toInt_add, Int32.toInt_mul, Int32.toInt_sub, Int.bmod_def, L_3]; omega)) (by rfl) ?_
      refine pm_if_ne (tgt := 46) hG dX12_rents_37 rfl (fun q => absurd q (by decide)) (fun _ => ?_)
      refine pm_aloadn hG dX12_rents_40 rfl ?_
      refine pm_iconst (v := 2) hG dX12_rents_41 (by decide) ?_
      refine pm_callV (As := [.int 2]) (rest := []) hG hR dX12_rents_42 (lkX12_80 _ rfl) okV_X12_finds rfl rfl (fm_X12_finds_30 (d := 2) (by decide)) rfl rfl hdd (by decide) (by decide) (by decide) (pm_ki (fun v σ' cnt' hq => ?_))
      obtain ⟨rfl, rfl, rfl⟩ := hq
      exact pm_iret hG hF dX12_rents_45 rfl (by decide) (by decide) ⟨_, rfl, (by clear hF hR hG; first | rfl | (unfold v_rents; (repeat' split) <;> first | rfl | (exfalso; simp only [Int32.lt_iff_toInt_lt, Int32.le_iff_toInt_le, ← Int32.toInt_inj, Int32.toInt_zero, L_16, L_3, L_32, L_8, L_m1000001, L_m1000002] at *; omega) | (apply Int32.toInt_inj.mp; simp only [Int32.lt_iff_toInt_lt, Int32.le_iff_toInt_le, ← Int32.toInt_inj, Int32.toInt_zero, L_16, L_3, L_32, L_8, L_m1000001, L_m1000002] at *; omega)))⟩
    · refine pm_iloadn hG dX12_rents_13 rfl ?_
      refine pm_bipush (v := 16) hG dX12_rents_14 (by decide) ?_
      refine pm_icmp_eq (tgt := 31) hG dX12_rents_16 rfl (fun c4 => ?_) (fun c4 => ?_)
      · refine pm_aloadn hG dX12_rents_31 rfl ?_
        refine pm_getf hG dX12_rents_32 (flX12_55 _ rfl) rfl rfl ?_
        refine pm_iloadn hG dX12_rents_35 rfl ?_
        refine pm_ialdX (v := 0) hG dX12_rents_36 rfl (vp_in_iff.mpr (by revert c2; simp only [Int32.lt_iff_toInt_lt, Int32.le_iff_toInt_le, ← Int32.toInt_inj, Int32.toInt_zero, Int32.toInt_add, Int32.toInt_mul, Int32.toInt_sub, Int.bmod_def, L_3]; omega)) (by rfl) ?_
        refine pm_if_ne (tgt := 46) hG dX12_rents_37 rfl (fun q => absurd q (by decide)) (fun _ => ?_)
        refine pm_aloadn hG dX12_rents_40 rfl ?_
        refine pm_iconst (v := 2) hG dX12_rents_41 (by decide) ?_
        refine pm_callV (As := [.int 2]) (rest := []) hG hR dX12_rents_42 (lkX12_80 _ rfl) okV_X12_finds rfl rfl (fm_X12_finds_30 (d := 2) (by decide)) rfl rfl hdd (by decide) (by decide) (by decide) (pm_ki (fun v σ' cnt' hq => ?_))
        obtain ⟨rfl, rfl, rfl⟩ := hq
        exact pm_iret hG hF dX12_rents_45 rfl (by decide) (by decide) ⟨_, rfl, (by clear hF hR hG; first | rfl | (unfold v_rents; (repeat' split) <;> first | rfl | (exfalso; simp only [Int32.lt_iff_toInt_lt, Int32.le_iff_toInt_le, ← Int32.toInt_inj, Int32.toInt_zero, L_16, L_3, L_32, L_8, L_m1000001, L_m1000002] at *; omega) | (apply Int32.toInt_inj.mp; simp only [Int32.lt_iff_toInt_lt, Int32.le_iff_toInt_le, ← Int32.toInt_inj, Int32.toInt_zero, L_16, L_3, L_32, L_8, L_m1000001, L_m1000002] at *; omega)))⟩
      · refine pm_iloadn hG dX12_rents_19 rfl ?_
        refine pm_bipush (v := 32) hG dX12_rents_20 (by decide) ?_
        refine pm_icmp_eq (tgt := 31) hG dX12_rents_22 rfl (fun c5 => ?_) (fun c5 => ?_)
        · refine pm_aloadn hG dX12_rents_31 rfl ?_
          refine pm_getf hG dX12_rents_32 (flX12_55 _ rfl) rfl rfl ?_
          refine pm_iloadn hG dX12_rents_35 rfl ?_
          refine pm_ialdX (v := 0) hG dX12_rents_36 rfl (vp_in_iff.mpr (by revert c2; simp only [Int32.lt_iff_toInt_lt, Int32.le_iff_toInt_le, ← Int32.toInt_inj, Int32.toInt_zero, Int32.toInt_add, Int32.toInt_mul, Int32.toInt_sub, Int.bmod_def, L_3]; omega)) (by rfl) ?_
          refine pm_if_ne (tgt := 46) hG dX12_rents_37 rfl (fun q => absurd q (by decide)) (fun _ => ?_)
          refine pm_aloadn hG dX12_rents_40 rfl ?_
          refine pm_iconst (v := 2) hG dX12_rents_41 (by decide) ?_
          refine pm_callV (As := [.int 2]) (rest := []) hG hR dX12_rents_42 (lkX12_80 _ rfl) okV_X12_finds rfl rfl (fm_X12_finds_30 (d := 2) (by decide)) rfl rfl hdd (by decide) (by decide) (by decide) (pm_ki (fun v σ' cnt' hq => ?_))
          obtain ⟨rfl, rfl, rfl⟩ := hq
          exact pm_iret hG hF dX12_rents_45 rfl (by decide) (by decide) ⟨_, rfl, (by clear hF hR hG; first | rfl | (unfold v_rents; (repeat' split) <;> first | rfl | (exfalso; simp only [Int32.lt_iff_toInt_lt, Int32.le_iff_toInt_le, ← Int32.toInt_inj, Int32.toInt_zero, L_16, L_3, L_32, L_8, L_m1000001, L_m1000002] at *; omega) | (apply Int32.toInt_inj.mp; simp only [Int32.lt_iff_toInt_lt, Int32.le_iff_toInt_le, ← Int32.toInt_inj, Int32.toInt_zero, L_16, L_3, L_32, L_8, L_m1000001, L_m1000002] at *; omega)))⟩
        · refine pm_aloadn hG dX12_rents_25 rfl ?_
          refine pm_iconst (v := 1) hG dX12_rents_26 (by decide) ?_
          refine pm_callV (As := [.int 1]) (rest := []) hG hR dX12_rents_27 (lkX12_80 _ rfl) okV_X12_finds rfl rfl (fm_X12_finds_2 (d := 2) (by decide)) rfl rfl hdd (by decide) (by decide) (by decide) (pm_ki (fun v σ' cnt' hq => ?_))
          obtain ⟨rfl, rfl, rfl⟩ := hq
          exact pm_iret hG hF dX12_rents_30 rfl (by decide) (by decide) ⟨_, rfl, (by clear hF hR hG; first | rfl | (unfold v_rents; (repeat' split) <;> first | rfl | (exfalso; simp only [Int32.lt_iff_toInt_lt, Int32.le_iff_toInt_le, ← Int32.toInt_inj, Int32.toInt_zero, L_16, L_3, L_32, L_8, L_m1000001, L_m1000002] at *; omega) | (apply Int32.toInt_inj.mp; simp only [Int32.lt_iff_toInt_lt, Int32.le_iff_toInt_le, ← Int32.toInt_inj, Int32.toInt_zero, L_16, L_3, L_32, L_8, L_m1000001, L_m1000002] at *; omega)))⟩

set_option maxRecDepth 100000 in
set_option maxHeartbeats 4000000 in
theorem fm_X12_weigh_32 {B : Nat} {za : Int32} {d : Nat} (hdd : 1 ≤ d) : pm_met mX12_weigh d 0 0 B [.ref (B + 54), .int za] 74 (pm_cat (fun _ => none) 54 (l_k_model B)) (pm_Qv (fun σ' cnt' => σ' = (pm_cat (fun _ => none) 54 (l_k_model B)) ∧ cnt' = 74)) := by
  refine pm_enter 5 (by decide) (Nat.le_of_ble_eq_true rfl) rfl (fun G hG hR hF => ?_)
  refine pm_iconst (v := (-1)) hG dX12_weigh_0 (by decide) ?_
  refine pm_istoreXn (loc' := [some (.ref (B + 54)), some (.int za), some (.int (-1)), none, none, none, none]) hG dX12_weigh_1 (by decide) (pm_c1b rfl) rfl ?_
  refine pm_aloadn hG dX12_weigh_2 rfl ?_
  refine pm_getf hG dX12_weigh_3 (flX12_7 _ rfl) rfl rfl ?_
  refine pm_iconst (v := 2) hG dX12_weigh_6 (by decide) ?_
  refine pm_ialdX (v := 0) hG dX12_weigh_7 rfl (pm_inb (by decide)) (by rfl) ?_
  refine pm_iconst (v := 1) hG dX12_weigh_8 (by decide) ?_
  refine pm_isub hG dX12_weigh_9 ?_
  refine pm_top (v := (-1)) (by decide) ?_
  refine pm_istoreXn (loc' := [some (.ref (B + 54)), some (.int za), some (.int (-1)), some (.int (-1)), none, none, none]) hG dX12_weigh_10 (by decide) (pm_c1b rfl) rfl ?_
  refine pm_iloadn hG dX12_weigh_11 rfl ?_
  refine pm_if_lt (tgt := 38) hG dX12_weigh_12 rfl (fun _ => ?_) (fun q => absurd q (by decide))
  refine pm_iloadn hG dX12_weigh_38 rfl ?_
  refine pm_if_ge (tgt := 46) hG dX12_weigh_39 rfl (fun q => absurd q (by decide)) (fun _ => ?_)
  refine pm_iconst (v := (-1)) hG dX12_weigh_42 (by decide) ?_
  refine pm_goto (tgt := 63) hG dX12_weigh_43 rfl ?_
  refine pm_istoreXn (loc' := [some (.ref (B + 54)), some (.int za), some (.int (-1)), some (.int (-1)), none, none, none]) hG dX12_weigh_63 (by decide) (pm_c1b rfl) rfl ?_
  refine pm_iconst (v := 0) hG dX12_weigh_64 (by decide) ?_
  refine pm_istoreXi (loc' := [some (.ref (B + 54)), some (.int za), some (.int (-1)), some (.int (-1)), some (.int 0), none, none]) hG dX12_weigh_65 (by decide) (pm_c1b rfl) rfl ?_
  refine pm_iloadi hG dX12_weigh_67 rfl ?_
  refine pm_aloadn hG dX12_weigh_69 rfl ?_
  refine pm_getf hG dX12_weigh_70 (flX12_7 _ rfl) rfl rfl ?_
  refine pm_iconst (v := 2) hG dX12_weigh_73 (by decide) ?_
  refine pm_ialdX (v := 0) hG dX12_weigh_74 rfl (pm_inb (by decide)) (by rfl) ?_
  refine pm_icmp_ge (tgt := 193) hG dX12_weigh_75 rfl (fun _ => ?_) (fun q => absurd q (by decide))
  refine pm_iconst (v := 0) hG dX12_weigh_193 (by decide) ?_
  refine pm_istoreXi (loc' := [some (.ref (B + 54)), some (.int za), some (.int (-1)), some (.int (-1)), some (.int 0), none, none]) hG dX12_weigh_194 (by decide) (pm_c1b rfl) rfl ?_
  refine pm_iloadi hG dX12_weigh_196 rfl ?_
  refine pm_aloadn hG dX12_weigh_198 rfl ?_
  refine pm_getf hG dX12_weigh_199 (flX12_7 _ rfl) rfl rfl ?_
  refine pm_bipush (v := 7) hG dX12_weigh_202 (by decide) ?_
  refine pm_ialdX (v := 0) hG dX12_weigh_204 rfl (pm_inb (by decide)) (by rfl) ?_
  refine pm_icmp_ge (tgt := 262) hG dX12_weigh_205 rfl (fun _ => ?_) (fun q => absurd q (by decide))
  exact pm_vret hG hF dX12_weigh_262 rfl (by decide) (by decide) ⟨rfl, ⟨rfl, rfl⟩⟩

set_option maxRecDepth 100000 in
set_option maxHeartbeats 4000000 in
theorem fm_X12_weightOf_33 {B : Nat} {d : Nat} (hdd : 1 ≤ d) : pm_met mX12_weightOf d 0 0 B [.ref (B + 54), .int 0] 74 (pm_cat (fun _ => none) 54 (l_k_model B)) (pm_Qi (fun v σ' cnt' => v = 0 ∧ σ' = (pm_cat (fun _ => none) 54 (l_k_model B)) ∧ cnt' = 74)) := by
  refine pm_enter 2 (by decide) (Nat.le_of_ble_eq_true rfl) rfl (fun G hG hR hF => ?_)
  refine pm_iconst (v := 0) hG dX12_weightOf_0 (by decide) ?_
  refine pm_istoreXn (loc' := [some (.ref (B + 54)), some (.int 0), some (.int 0), none]) hG dX12_weightOf_1 (by decide) (pm_c1b rfl) rfl ?_
  refine pm_iconst (v := 0) hG dX12_weightOf_2 (by decide) ?_
  refine pm_istoreXn (loc' := [some (.ref (B + 54)), some (.int 0), some (.int 0), some (.int 0)]) hG dX12_weightOf_3 (by decide) (pm_c1b rfl) rfl ?_
  refine pm_iloadn hG dX12_weightOf_4 rfl ?_
  refine pm_aloadn hG dX12_weightOf_5 rfl ?_
  refine pm_getf hG dX12_weightOf_6 (flX12_7 _ rfl) rfl rfl ?_
  refine pm_iconst (v := 2) hG dX12_weightOf_9 (by decide) ?_
  refine pm_ialdX (v := 0) hG dX12_weightOf_10 rfl (pm_inb (by decide)) (by rfl) ?_
  refine pm_icmp_ge (tgt := 47) hG dX12_weightOf_11 rfl (fun _ => ?_) (fun q => absurd q (by decide))
  refine pm_iloadn hG dX12_weightOf_47 rfl ?_
  exact pm_iret hG hF dX12_weightOf_48 rfl (by decide) (by decide) ⟨_, rfl, ⟨rfl, rfl, rfl⟩⟩

set_option maxRecDepth 100000 in
set_option maxHeartbeats 4000000 in
theorem fm_X12_weightOf_34 {B : Nat} {d : Nat} (hdd : 1 ≤ d) : pm_met mX12_weightOf d 0 0 B [.ref (B + 54), .int 1] 74 (pm_cat (fun _ => none) 54 (l_k_model B)) (pm_Qi (fun v σ' cnt' => v = 0 ∧ σ' = (pm_cat (fun _ => none) 54 (l_k_model B)) ∧ cnt' = 74)) := by
  refine pm_enter 2 (by decide) (Nat.le_of_ble_eq_true rfl) rfl (fun G hG hR hF => ?_)
  refine pm_iconst (v := 0) hG dX12_weightOf_0 (by decide) ?_
  refine pm_istoreXn (loc' := [some (.ref (B + 54)), some (.int 1), some (.int 0), none]) hG dX12_weightOf_1 (by decide) (pm_c1b rfl) rfl ?_
  refine pm_iconst (v := 0) hG dX12_weightOf_2 (by decide) ?_
  refine pm_istoreXn (loc' := [some (.ref (B + 54)), some (.int 1), some (.int 0), some (.int 0)]) hG dX12_weightOf_3 (by decide) (pm_c1b rfl) rfl ?_
  refine pm_iloadn hG dX12_weightOf_4 rfl ?_
  refine pm_aloadn hG dX12_weightOf_5 rfl ?_
  refine pm_getf hG dX12_weightOf_6 (flX12_7 _ rfl) rfl rfl ?_
  refine pm_iconst (v := 2) hG dX12_weightOf_9 (by decide) ?_
  refine pm_ialdX (v := 0) hG dX12_weightOf_10 rfl (pm_inb (by decide)) (by rfl) ?_
  refine pm_icmp_ge (tgt := 47) hG dX12_weightOf_11 rfl (fun _ => ?_) (fun q => absurd q (by decide))
  refine pm_iloadn hG dX12_weightOf_47 rfl ?_
  exact pm_iret hG hF dX12_weightOf_48 rfl (by decide) (by decide) ⟨_, rfl, ⟨rfl, rfl, rfl⟩⟩

set_option maxRecDepth 100000 in
set_option maxHeartbeats 8000000 in
theorem om_cause {B : Nat} {za zb : Int32} {d : Nat} (hdd : 2 ≤ d) : pm_met mX12_cause d 0 0 B [.ref (B + 54), .int za, .int zb] 74 (pm_cat (fun _ => none) 54 (l_k_model B)) (pm_Qi (fun v _ _ => v = v_cause za zb)) := by
  refine pm_enter 2 (by decide) (Nat.le_of_ble_eq_true rfl) rfl (fun G hG hR hF => ?_)
  refine pm_iloadn hG dX12_cause_0 rfl ?_
  refine pm_iconst (v := 0) hG dX12_cause_1 (by decide) ?_
  refine pm_iconst (v := 5) hG dX12_cause_2 (by decide) ?_
  refine pm_callS (As := [.int za, .int 0, .int 5]) (rest := []) hG hR dX12_cause_3 (lkX12_68 _ rfl) okS_X12_in (mx_in (d := 1)) rfl rfl hdd (by decide) (by decide) (by decide) (pm_ki (fun v σ' cnt' hq => ?_))
  obtain ⟨rfl, rfl, rfl⟩ := hq
  by_cases c1 : za < 0 ∨ 5 < za
  · refine pm_top (v := 0) (if_pos c1) ?_
    refine pm_if_eq (tgt := 18) hG dX12_cause_6 rfl (fun _ => ?_) (fun q => absurd q (by decide))
    refine pm_aloadn hG dX12_cause_18 rfl ?_
    refine pm_iconst (v := 1) hG dX12_cause_19 (by decide) ?_
    refine pm_callV (As := [.int 1]) (rest := []) hG hR dX12_cause_20 (lkX12_80 _ rfl) okV_X12_finds rfl rfl (fm_X12_finds_2 (d := 1) (by decide)) rfl rfl hdd (by decide) (by decide) (by decide) (pm_ki (fun v σ' cnt' hq => ?_))
    obtain ⟨rfl, rfl, rfl⟩ := hq
    exact pm_iret hG hF dX12_cause_23 rfl (by decide) (by decide) ⟨_, rfl, (by clear hF hR hG; first | rfl | (unfold v_cause; (repeat' split) <;> first | rfl | (exfalso; simp only [Int32.lt_iff_toInt_lt, Int32.le_iff_toInt_le, ← Int32.toInt_inj, Int32.toInt_zero, L_3, L_5, L_m1, L_m1000001] at *; omega) | (apply Int32.toInt_inj.mp; simp only [Int32.lt_iff_toInt_lt, Int32.le_iff_toInt_le, ← Int32.toInt_inj, Int32.toInt_zero, L_3, L_5, L_m1, L_m1000001] at *; omega)))⟩
  · refine pm_top (v := 1) (if_neg c1) ?_
    refine pm_if_eq (tgt := 18) hG dX12_cause_6 rfl (fun q => absurd q (by decide)) (fun _ => ?_)
    refine pm_iloadn hG dX12_cause_9 rfl ?_
    refine pm_iconst (v := 0) hG dX12_cause_10 (by decide) ?_
    refine pm_iconst (v := 3) hG dX12_cause_11 (by decide) ?_
    refine pm_callS (As := [.int zb, .int 0, .int 3]) (rest := []) hG hR dX12_cause_12 (lkX12_68 _ rfl) okS_X12_in (mx_in (d := 1)) rfl rfl hdd (by decide) (by decide) (by decide) (pm_ki (fun v σ' cnt' hq => ?_))
    obtain ⟨rfl, rfl, rfl⟩ := hq
    by_cases c2 : zb < 0 ∨ 3 < zb
    · refine pm_top (v := 0) (if_pos c2) ?_
      refine pm_if_ne (tgt := 24) hG dX12_cause_15 rfl (fun q => absurd q (by decide)) (fun _ => ?_)
      refine pm_aloadn hG dX12_cause_18 rfl ?_
      refine pm_iconst (v := 1) hG dX12_cause_19 (by decide) ?_
      refine pm_callV (As := [.int 1]) (rest := []) hG hR dX12_cause_20 (lkX12_80 _ rfl) okV_X12_finds rfl rfl (fm_X12_finds_2 (d := 1) (by decide)) rfl rfl hdd (by decide) (by decide) (by decide) (pm_ki (fun v σ' cnt' hq => ?_))
      obtain ⟨rfl, rfl, rfl⟩ := hq
      exact pm_iret hG hF dX12_cause_23 rfl (by decide) (by decide) ⟨_, rfl, (by clear hF hR hG; first | rfl | (unfold v_cause; (repeat' split) <;> first | rfl | (exfalso; simp only [Int32.lt_iff_toInt_lt, Int32.le_iff_toInt_le, ← Int32.toInt_inj, Int32.toInt_zero, L_3, L_5, L_m1, L_m1000001] at *; omega) | (apply Int32.toInt_inj.mp; simp only [Int32.lt_iff_toInt_lt, Int32.le_iff_toInt_le, ← Int32.toInt_inj, Int32.toInt_zero, L_3, L_5, L_m1, L_m1000001] at *; omega)))⟩
    · refine pm_top (v := 1) (if_neg c2) ?_
      refine pm_if_ne (tgt := 24) hG dX12_cause_15 rfl (fun _ => ?_) (fun q => absurd q (by decide))
      refine pm_iloadn hG dX12_cause_24 rfl ?_
      refine pm_iconst (v := 3) hG dX12_cause_25 (by decide) ?_
      refine pm_icmp_ne (tgt := 82) hG dX12_cause_26 rfl (fun c3 => ?_) (fun c3 => ?_)
      · refine pm_aloadn hG dX12_cause_82 rfl ?_
        refine pm_iloadn hG dX12_cause_83 rfl ?_
        refine pm_callV (As := [.int za]) (rest := []) hG hR dX12_cause_84 (lkX12_246 _ rfl) okV_X12_weigh rfl rfl (fm_X12_weigh_32 (d := 1) (by decide)) rfl rfl hdd (by decide) (by decide) (by decide) (pm_kv (fun σ' cnt' hq => ?_))
        obtain ⟨rfl, rfl⟩ := hq
        refine pm_aloadn hG dX12_cause_87 rfl ?_
        refine pm_iconst (v := 0) hG dX12_cause_88 (by decide) ?_
        refine pm_callV (As := [.int 0]) (rest := []) hG hR dX12_cause_89 (lkX12_249 _ rfl) okV_X12_weightOf rfl rfl (fm_X12_weightOf_33 (d := 1) (by decide)) rfl rfl hdd (by decide) (by decide) (by decide) (pm_ki (fun v σ' cnt' hq => ?_))
        obtain ⟨rfl, rfl, rfl⟩ := hq
        refine pm_istoreXn (loc' := [some (.ref (B + 54)), some (.int za), some (.int zb), some (.int 0), none]) hG dX12_cause_92 (by decide) (pm_c1b rfl) rfl ?_
        refine pm_aloadn hG dX12_cause_93 rfl ?_
        refine pm_iconst (v := 1) hG dX12_cause_94 (by decide) ?_
        refine pm_callV (As := [.int 1]) (rest := []) hG hR dX12_cause_95 (lkX12_249 _ rfl) okV_X12_weightOf rfl rfl (fm_X12_weightOf_34 (d := 1) (by decide)) rfl rfl hdd (by decide) (by decide) (by decide) (pm_ki (fun v σ' cnt' hq => ?_))
        obtain ⟨rfl, rfl, rfl⟩ := hq
        refine pm_istoreXi (loc' := [some (.ref (B + 54)), some (.int za), some (.int zb), some (.int 0), some (.int 0)]) hG dX12_cause_98 (by decide) (pm_c1b rfl) rfl ?_
        refine pm_iloadn hG dX12_cause_100 rfl ?_
        refine pm_if_ne (tgt := 108) hG dX12_cause_101 rfl (fun c4 => ?_) (fun c4 => ?_)
        · refine pm_iloadn hG dX12_cause_108 rfl ?_
          refine pm_iconst (v := 1) hG dX12_cause_109 (by decide) ?_
          refine pm_icmp_ne (tgt := 118) hG dX12_cause_110 rfl (fun c5 => ?_) (fun c5 => ?_)
          · refine pm_iconst (v := 2) hG dX12_cause_118 (by decide) ?_
            refine pm_iloadn hG dX12_cause_119 rfl ?_
            refine pm_imul hG dX12_cause_120 ?_
            refine pm_top (v := 0) (by decide) ?_
            refine pm_iloadi hG dX12_cause_121 rfl ?_
            refine pm_icmp_le (tgt := 130) hG dX12_cause_123 rfl (fun _ => ?_) (fun q => absurd q (by decide))
            refine pm_iconst (v := 0) hG dX12_cause_130 (by decide) ?_
            exact pm_iret hG hF dX12_cause_131 rfl (by decide) (by decide) ⟨_, rfl, (by clear hF hR hG; first | rfl | (unfold v_cause; (repeat' split) <;> first | rfl | (exfalso; simp only [Int32.lt_iff_toInt_lt, Int32.le_iff_toInt_le, ← Int32.toInt_inj, Int32.toInt_zero, L_1, L_3, L_5, L_m1, L_m1000001] at *; omega) | (apply Int32.toInt_inj.mp; simp only [Int32.lt_iff_toInt_lt, Int32.le_iff_toInt_le, ← Int32.toInt_inj, Int32.toInt_zero, L_1, L_3, L_5, L_m1, L_m1000001] at *; omega)))⟩
          · refine pm_iloadi hG dX12_cause_113 rfl ?_
            refine pm_goto (tgt := 131) hG dX12_cause_115 rfl ?_
            exact pm_iret hG hF dX12_cause_131 rfl (by decide) (by decide) ⟨_, rfl, (by clear hF hR hG; first | rfl | (unfold v_cause; (repeat' split) <;> first | rfl | (exfalso; simp only [Int32.lt_iff_toInt_lt, Int32.le_iff_toInt_le, ← Int32.toInt_inj, Int32.toInt_zero, L_1, L_3, L_5, L_m1, L_m1000001] at *; omega) | (apply Int32.toInt_inj.mp; simp only [Int32.lt_iff_toInt_lt, Int32.le_iff_toInt_le, ← Int32.toInt_inj, Int32.toInt_zero, L_1, L_3, L_5, L_m1, L_m1000001] at *; omega)))⟩
        · refine pm_iloadn hG dX12_cause_104 rfl ?_
          refine pm_goto (tgt := 131) hG dX12_cause_105 rfl ?_
          exact pm_iret hG hF dX12_cause_131 rfl (by decide) (by decide) ⟨_, rfl, (by clear hF hR hG; first | rfl | (unfold v_cause; (repeat' split) <;> first | rfl | (exfalso; simp only [Int32.lt_iff_toInt_lt, Int32.le_iff_toInt_le, ← Int32.toInt_inj, Int32.toInt_zero, L_3, L_5, L_m1, L_m1000001] at *; omega) | (apply Int32.toInt_inj.mp; simp only [Int32.lt_iff_toInt_lt, Int32.le_iff_toInt_le, ← Int32.toInt_inj, Int32.toInt_zero, L_3, L_5, L_m1, L_m1000001] at *; omega)))⟩
      · refine pm_iconst (v := 0) hG dX12_cause_29 (by decide) ?_
        refine pm_istoreXn (loc' := [some (.ref (B + 54)), some (.int za), some (.int zb), some (.int 0), none]) hG dX12_cause_30 (by decide) (pm_c1b rfl) rfl ?_
        refine pm_iloadn hG dX12_cause_31 rfl ?_
        refine pm_aloadn hG dX12_cause_32 rfl ?_
        refine pm_getf hG dX12_cause_33 (flX12_7 _ rfl) rfl rfl ?_
        refine pm_bipush (v := 7) hG dX12_cause_36 (by decide) ?_
        refine pm_ialdX (v := 0) hG dX12_cause_38 rfl (pm_inb (by decide)) (by rfl) ?_
        refine pm_icmp_ge (tgt := 80) hG dX12_cause_39 rfl (fun _ => ?_) (fun q => absurd q (by decide))
        refine pm_iconst (v := (-1)) hG dX12_cause_80 (by decide) ?_
        exact pm_iret hG hF dX12_cause_81 rfl (by decide) (by decide) ⟨_, rfl, (by clear hF hR hG; first | rfl | (unfold v_cause; (repeat' split) <;> first | rfl | (exfalso; simp only [Int32.lt_iff_toInt_lt, Int32.le_iff_toInt_le, ← Int32.toInt_inj, Int32.toInt_zero, L_3, L_5, L_m1, L_m1000001] at *; omega) | (apply Int32.toInt_inj.mp; simp only [Int32.lt_iff_toInt_lt, Int32.le_iff_toInt_le, ← Int32.toInt_inj, Int32.toInt_zero, L_3, L_5, L_m1, L_m1000001] at *; omega)))⟩

set_option maxRecDepth 100000 in
set_option maxHeartbeats 4000000 in
theorem fm_X12_weightOf_35 {B : Nat} {d : Nat} (hdd : 1 ≤ d) : pm_met mX12_weightOf d 0 0 B [.ref (B + 54), .int 0] 75 (pm_up (pm_cat (fun _ => none) 54 (l_k_model B)) 74 (.inl (9, (fun _ => 0)))) (pm_Qi (fun v σ' cnt' => v = 0 ∧ σ' = (pm_up (pm_cat (fun _ => none) 54 (l_k_model B)) 74 (.inl (9, (fun _ => 0)))) ∧ cnt' = 75)) := by
  refine pm_enter 2 (by decide) (Nat.le_of_ble_eq_true rfl) rfl (fun G hG hR hF => ?_)
  refine pm_iconst (v := 0) hG dX12_weightOf_0 (by decide) ?_
  refine pm_istoreXn (loc' := [some (.ref (B + 54)), some (.int 0), some (.int 0), none]) hG dX12_weightOf_1 (by decide) (pm_c1b rfl) rfl ?_
  refine pm_iconst (v := 0) hG dX12_weightOf_2 (by decide) ?_
  refine pm_istoreXn (loc' := [some (.ref (B + 54)), some (.int 0), some (.int 0), some (.int 0)]) hG dX12_weightOf_3 (by decide) (pm_c1b rfl) rfl ?_
  refine pm_iloadn hG dX12_weightOf_4 rfl ?_
  refine pm_aloadn hG dX12_weightOf_5 rfl ?_
  refine pm_getf hG dX12_weightOf_6 (flX12_7 _ rfl) rfl rfl ?_
  refine pm_iconst (v := 2) hG dX12_weightOf_9 (by decide) ?_
  refine pm_ialdX (v := 0) hG dX12_weightOf_10 rfl (pm_inb (by decide)) (by rfl) ?_
  refine pm_icmp_ge (tgt := 47) hG dX12_weightOf_11 rfl (fun _ => ?_) (fun q => absurd q (by decide))
  refine pm_iloadn hG dX12_weightOf_47 rfl ?_
  exact pm_iret hG hF dX12_weightOf_48 rfl (by decide) (by decide) ⟨_, rfl, ⟨rfl, rfl, rfl⟩⟩

set_option maxRecDepth 100000 in
set_option maxHeartbeats 4000000 in
theorem fm_X12_weightOf_36 {B : Nat} {d : Nat} (hdd : 1 ≤ d) : pm_met mX12_weightOf d 0 0 B [.ref (B + 54), .int 1] 75 (pm_up (pm_cat (fun _ => none) 54 (l_k_model B)) 74 (.inl (9, (fun _ => 0)))) (pm_Qi (fun v σ' cnt' => v = 0 ∧ σ' = (pm_up (pm_cat (fun _ => none) 54 (l_k_model B)) 74 (.inl (9, (fun _ => 0)))) ∧ cnt' = 75)) := by
  refine pm_enter 2 (by decide) (Nat.le_of_ble_eq_true rfl) rfl (fun G hG hR hF => ?_)
  refine pm_iconst (v := 0) hG dX12_weightOf_0 (by decide) ?_
  refine pm_istoreXn (loc' := [some (.ref (B + 54)), some (.int 1), some (.int 0), none]) hG dX12_weightOf_1 (by decide) (pm_c1b rfl) rfl ?_
  refine pm_iconst (v := 0) hG dX12_weightOf_2 (by decide) ?_
  refine pm_istoreXn (loc' := [some (.ref (B + 54)), some (.int 1), some (.int 0), some (.int 0)]) hG dX12_weightOf_3 (by decide) (pm_c1b rfl) rfl ?_
  refine pm_iloadn hG dX12_weightOf_4 rfl ?_
  refine pm_aloadn hG dX12_weightOf_5 rfl ?_
  refine pm_getf hG dX12_weightOf_6 (flX12_7 _ rfl) rfl rfl ?_
  refine pm_iconst (v := 2) hG dX12_weightOf_9 (by decide) ?_
  refine pm_ialdX (v := 0) hG dX12_weightOf_10 rfl (pm_inb (by decide)) (by rfl) ?_
  refine pm_icmp_ge (tgt := 47) hG dX12_weightOf_11 rfl (fun _ => ?_) (fun q => absurd q (by decide))
  refine pm_iloadn hG dX12_weightOf_47 rfl ?_
  exact pm_iret hG hF dX12_weightOf_48 rfl (by decide) (by decide) ⟨_, rfl, ⟨rfl, rfl, rfl⟩⟩

set_option maxRecDepth 100000 in
set_option maxHeartbeats 4000000 in
theorem fm_X12_finds_37 {B : Nat} {d : Nat} (hdd : 1 ≤ d) : pm_met mX12_finds d 0 0 B [.ref (B + 54), .int 2] 75 (pm_up (pm_cat (fun _ => none) 54 (l_k_model B)) 74 (.inl (9, (fun _ => 0)))) (pm_Qi (fun v σ' cnt' => v = (-1000002) ∧ σ' = (pm_up (pm_up (pm_cat (fun _ => none) 54 (l_k_model B)) 74 (.inl (9, (fun _ => 0)))) 57 (.inl (6, upd (fun _ => 0) (2 : Int32).toNatClampNeg 1))) ∧ cnt' = 75)) := by
  refine pm_enter 0 (by decide) (Nat.le_of_ble_eq_true rfl) rfl (fun G hG hR hF => ?_)
  refine pm_aloadn hG dX12_finds_0 rfl ?_
  refine pm_getf hG dX12_finds_1 (flX12_16 _ rfl) rfl rfl ?_
  refine pm_iloadn hG dX12_finds_4 rfl ?_
  refine pm_dup2 hG dX12_finds_5 rfl rfl ?_
  refine pm_ialdX (v := 0) hG dX12_finds_6 rfl (pm_inb (by decide)) (by rfl) ?_
  refine pm_iconst (v := 1) hG dX12_finds_7 (by decide) ?_
  refine pm_iadd hG dX12_finds_8 ?_
  refine pm_top (v := 1) (by decide) ?_
  refine pm_iast hG dX12_finds_9 rfl (pm_inb (by decide)) ?_
  refine pm_ldc hG dX12_finds_10 (ctX12_67 _ rfl) ?_
  refine pm_iloadn hG dX12_finds_12 rfl ?_
  refine pm_isub hG dX12_finds_13 ?_
  refine pm_top (v := (-1000002)) (by decide) ?_
  exact pm_iret hG hF dX12_finds_14 rfl (by decide) (by decide) ⟨_, rfl, ⟨rfl, rfl, rfl⟩⟩

set_option maxRecDepth 100000 in
set_option maxHeartbeats 8000000 in
theorem om_buying {B : Nat} {za zb : Int32} {d : Nat} (hdd : 2 ≤ d) : pm_met mX12_buying d 1 9 B [.ref (B + 54), .int za, .int zb] 74 (pm_cat (fun _ => none) 54 (l_k_model B)) (pm_Qi (fun v _ _ => v = v_buying za zb)) := by
  refine pm_enter 11 (by decide) (Nat.le_of_ble_eq_true rfl) rfl (fun G hG hR hF => ?_)
  refine pm_iloadn hG dX12_buying_0 rfl ?_
  refine pm_iconst (v := 0) hG dX12_buying_1 (by decide) ?_
  refine pm_iconst (v := 5) hG dX12_buying_2 (by decide) ?_
  refine pm_callS (As := [.int za, .int 0, .int 5]) (rest := []) hG hR dX12_buying_3 (lkX12_68 _ rfl) okS_X12_in (mx_in (d := 1)) rfl rfl hdd (by decide) (by decide) (by decide) (pm_ki (fun v σ' cnt' hq => ?_))
  obtain ⟨rfl, rfl, rfl⟩ := hq
  by_cases c1 : za < 0 ∨ 5 < za
  · refine pm_top (v := 0) (if_pos c1) ?_
    refine pm_if_eq (tgt := 18) hG dX12_buying_6 rfl (fun _ => ?_) (fun q => absurd q (by decide))
    refine pm_aloadn hG dX12_buying_18 rfl ?_
    refine pm_iconst (v := 1) hG dX12_buying_19 (by decide) ?_
    refine pm_callV (As := [.int 1]) (rest := []) hG hR dX12_buying_20 (lkX12_80 _ rfl) okV_X12_finds rfl rfl (fm_X12_finds_2 (d := 1) (by decide)) rfl rfl hdd (by decide) (by decide) (by decide) (pm_ki (fun v σ' cnt' hq => ?_))
    obtain ⟨rfl, rfl, rfl⟩ := hq
    exact pm_iret hG hF dX12_buying_23 rfl (by decide) (by decide) ⟨_, rfl, (by clear hF hR hG; first | rfl | (unfold v_buying; (repeat' split) <;> first | rfl | (exfalso; simp only [Int32.lt_iff_toInt_lt, Int32.le_iff_toInt_le, ← Int32.toInt_inj, Int32.toInt_zero, L_1, L_5, L_m1000001, L_m1000002] at *; omega) | (apply Int32.toInt_inj.mp; simp only [Int32.lt_iff_toInt_lt, Int32.le_iff_toInt_le, ← Int32.toInt_inj, Int32.toInt_zero, L_1, L_5, L_m1000001, L_m1000002] at *; omega)))⟩
  · refine pm_top (v := 1) (if_neg c1) ?_
    refine pm_if_eq (tgt := 18) hG dX12_buying_6 rfl (fun q => absurd q (by decide)) (fun _ => ?_)
    refine pm_iloadn hG dX12_buying_9 rfl ?_
    refine pm_iconst (v := 0) hG dX12_buying_10 (by decide) ?_
    refine pm_iconst (v := 1) hG dX12_buying_11 (by decide) ?_
    refine pm_callS (As := [.int zb, .int 0, .int 1]) (rest := []) hG hR dX12_buying_12 (lkX12_68 _ rfl) okS_X12_in (mx_in (d := 1)) rfl rfl hdd (by decide) (by decide) (by decide) (pm_ki (fun v σ' cnt' hq => ?_))
    obtain ⟨rfl, rfl, rfl⟩ := hq
    by_cases c2 : zb < 0 ∨ 1 < zb
    · refine pm_top (v := 0) (if_pos c2) ?_
      refine pm_if_ne (tgt := 24) hG dX12_buying_15 rfl (fun q => absurd q (by decide)) (fun _ => ?_)
      refine pm_aloadn hG dX12_buying_18 rfl ?_
      refine pm_iconst (v := 1) hG dX12_buying_19 (by decide) ?_
      refine pm_callV (As := [.int 1]) (rest := []) hG hR dX12_buying_20 (lkX12_80 _ rfl) okV_X12_finds rfl rfl (fm_X12_finds_2 (d := 1) (by decide)) rfl rfl hdd (by decide) (by decide) (by decide) (pm_ki (fun v σ' cnt' hq => ?_))
      obtain ⟨rfl, rfl, rfl⟩ := hq
      exact pm_iret hG hF dX12_buying_23 rfl (by decide) (by decide) ⟨_, rfl, (by clear hF hR hG; first | rfl | (unfold v_buying; (repeat' split) <;> first | rfl | (exfalso; simp only [Int32.lt_iff_toInt_lt, Int32.le_iff_toInt_le, ← Int32.toInt_inj, Int32.toInt_zero, L_1, L_5, L_m1000001, L_m1000002] at *; omega) | (apply Int32.toInt_inj.mp; simp only [Int32.lt_iff_toInt_lt, Int32.le_iff_toInt_le, ← Int32.toInt_inj, Int32.toInt_zero, L_1, L_5, L_m1000001, L_m1000002] at *; omega)))⟩
    · refine pm_top (v := 1) (if_neg c2) ?_
      refine pm_if_ne (tgt := 24) hG dX12_buying_15 rfl (fun _ => ?_) (fun q => absurd q (by decide))
      refine pm_aloadn hG dX12_buying_24 rfl ?_
      refine pm_iloadn hG dX12_buying_25 rfl ?_
      refine pm_callV (As := [.int za]) (rest := []) hG hR dX12_buying_26 (lkX12_246 _ rfl) okV_X12_weigh rfl rfl (fm_X12_weigh_32 (d := 1) (by decide)) rfl rfl hdd (by decide) (by decide) (by decide) (pm_kv (fun σ' cnt' hq => ?_))
      obtain ⟨rfl, rfl⟩ := hq
      refine pm_bipush (v := 9) hG dX12_buying_29 (by decide) ?_
      refine pm_newi (N := 9) hG hR dX12_buying_31 (by decide) (by decide) (by decide) (by decide) (by decide) ?_
      refine pm_nums (cs' := 1) (zs' := 9) (cnt' := 75) rfl rfl rfl ?_
      refine pm_astoreXn (loc' := [some (.ref (B + 54)), some (.int za), some (.int zb), some (.ref (B + 74)), none, none, none, none, none, none, none, none, none, none]) hG dX12_buying_33 (by decide) (pm_c1b rfl) rfl ?_
      refine pm_iconst (v := 0) hG dX12_buying_34 (by decide) ?_
      refine pm_istoreXi (loc' := [some (.ref (B + 54)), some (.int za), some (.int zb), some (.ref (B + 74)), some (.int 0), none, none, none, none, none, none, none, none, none]) hG dX12_buying_35 (by decide) (pm_c1b rfl) rfl ?_
      refine pm_iconst (v := 0) hG dX12_buying_37 (by decide) ?_
      refine pm_istoreXi (loc' := [some (.ref (B + 54)), some (.int za), some (.int zb), some (.ref (B + 74)), some (.int 0), some (.int 0), none, none, none, none, none, none, none, none]) hG dX12_buying_38 (by decide) (pm_c1b rfl) rfl ?_
      refine pm_iloadi hG dX12_buying_40 rfl ?_
      refine pm_aloadn hG dX12_buying_42 rfl ?_
      refine pm_getf hG dX12_buying_43 (flX12_7 _ rfl) rfl rfl ?_
      refine pm_iconst (v := 2) hG dX12_buying_46 (by decide) ?_
      refine pm_ialdX (v := 0) hG dX12_buying_47 rfl (pm_inb (by decide)) (by rfl) ?_
      refine pm_icmp_ge (tgt := 91) hG dX12_buying_48 rfl (fun _ => ?_) (fun q => absurd q (by decide))
      refine pm_aloadn hG dX12_buying_91 rfl ?_
      refine pm_iconst (v := 0) hG dX12_buying_92 (by decide) ?_
      refine pm_callV (As := [.int 0]) (rest := []) hG hR dX12_buying_93 (lkX12_249 _ rfl) okV_X12_weightOf rfl rfl (fm_X12_weightOf_35 (d := 1) (by decide)) rfl rfl hdd (by decide) (by decide) (by decide) (pm_ki (fun v σ' cnt' hq => ?_))
      obtain ⟨rfl, rfl, rfl⟩ := hq
      refine pm_istoreXi (loc' := [some (.ref (B + 54)), some (.int za), some (.int zb), some (.ref (B + 74)), some (.int 0), some (.int 0), none, none, none, none, none, none, none, none]) hG dX12_buying_96 (by decide) (pm_c1b rfl) rfl ?_
      refine pm_aloadn hG dX12_buying_98 rfl ?_
      refine pm_iconst (v := 1) hG dX12_buying_99 (by decide) ?_
      refine pm_callV (As := [.int 1]) (rest := []) hG hR dX12_buying_100 (lkX12_249 _ rfl) okV_X12_weightOf rfl rfl (fm_X12_weightOf_36 (d := 1) (by decide)) rfl rfl hdd (by decide) (by decide) (by decide) (pm_ki (fun v σ' cnt' hq => ?_))
      obtain ⟨rfl, rfl, rfl⟩ := hq
      refine pm_istoreXi (loc' := [some (.ref (B + 54)), some (.int za), some (.int zb), some (.ref (B + 74)), some (.int 0), some (.int 0), some (.int 0), none, none, none, none, none, none, none]) hG dX12_buying_103 (by decide) (pm_c1b rfl) rfl ?_
      refine pm_iconst (v := (-1)) hG dX12_buying_105 (by decide) ?_
      refine pm_istoreXi (loc' := [some (.ref (B + 54)), some (.int za), some (.int zb), some (.ref (B + 74)), some (.int 0), some (.int 0), some (.int 0), some (.int (-1)), none, none, none, none, none, none]) hG dX12_buying_106 (by decide) (pm_c1b rfl) rfl ?_
      refine pm_iconst (v := 0) hG dX12_buying_108 (by decide) ?_
      refine pm_istoreXi (loc' := [some (.ref (B + 54)), some (.int za), some (.int zb), some (.ref (B + 74)), some (.int 0), some (.int 0), some (.int 0), some (.int (-1)), some (.int 0), none, none, none, none, none]) hG dX12_buying_109 (by decide) (pm_c1b rfl) rfl ?_
      refine pm_iconst (v := 0) hG dX12_buying_111 (by decide) ?_
      refine pm_istoreXi (loc' := [some (.ref (B + 54)), some (.int za), some (.int zb), some (.ref (B + 74)), some (.int 0), some (.int 0), some (.int 0), some (.int (-1)), some (.int 0), some (.int 0), none, none, none, none]) hG dX12_buying_112 (by decide) (pm_c1b rfl) rfl ?_
      refine pm_iloadi hG dX12_buying_114 rfl ?_
      refine pm_iconst (v := 1) hG dX12_buying_116 (by decide) ?_
      refine pm_iloadi hG dX12_buying_117 rfl ?_
      refine pm_ishl hG dX12_buying_119 ?_
      refine pm_top (v := 1) (by decide) ?_
      refine pm_icmp_ge (tgt := 280) hG dX12_buying_120 rfl (fun q => absurd q (by decide)) (fun _ => ?_)
      refine pm_iloadi hG dX12_buying_123 rfl ?_
      refine pm_istoreXi (loc' := [some (.ref (B + 54)), some (.int za), some (.int zb), some (.ref (B + 74)), some (.int 0), some (.int 0), some (.int 0), some (.int (-1)), some (.int 0), some (.int 0), some (.int 0), none, none, none]) hG dX12_buying_125 (by decide) (pm_c1b rfl) rfl ?_
      refine pm_iconst (v := 0) hG dX12_buying_127 (by decide) ?_
      refine pm_istoreXi (loc' := [some (.ref (B + 54)), some (.int za), some (.int zb), some (.ref (B + 74)), some (.int 0), some (.int 0), some (.int 0), some (.int (-1)), some (.int 0), some (.int 0), some (.int 0), some (.int 0), none, none]) hG dX12_buying_128 (by decide) (pm_c1b rfl) rfl ?_
      refine pm_iconst (v := 0) hG dX12_buying_130 (by decide) ?_
      refine pm_istoreXi (loc' := [some (.ref (B + 54)), some (.int za), some (.int zb), some (.ref (B + 74)), some (.int 0), some (.int 0), some (.int 0), some (.int (-1)), some (.int 0), some (.int 0), some (.int 0), some (.int 0), some (.int 0), none]) hG dX12_buying_131 (by decide) (pm_c1b rfl) rfl ?_
      refine pm_iconst (v := 0) hG dX12_buying_133 (by decide) ?_
      refine pm_istoreXi (loc' := [some (.ref (B + 54)), some (.int za), some (.int zb), some (.ref (B + 74)), some (.int 0), some (.int 0), some (.int 0), some (.int (-1)), some (.int 0), some (.int 0), some (.int 0), some (.int 0), some (.int 0), some (.int 0)]) hG dX12_buying_134 (by decide) (pm_c1b rfl) rfl ?_
      refine pm_iloadi hG dX12_buying_136 rfl ?_
      refine pm_iloadi hG dX12_buying_138 rfl ?_
      refine pm_icmp_ge (tgt := 202) hG dX12_buying_140 rfl (fun _ => ?_) (fun q => absurd q (by decide))
      refine pm_iconst (v := 2) hG dX12_buying_202 (by decide) ?_
      refine pm_iloadi hG dX12_buying_203 rfl ?_
      refine pm_imul hG dX12_buying_205 ?_
      refine pm_top (v := 0) (by decide) ?_
      refine pm_iloadi hG dX12_buying_206 rfl ?_
      refine pm_icmp_le (tgt := 274) hG dX12_buying_208 rfl (fun _ => ?_) (fun q => absurd q (by decide))
      refine pm_iincX (v := 1) (loc' := [some (.ref (B + 54)), some (.int za), some (.int zb), some (.ref (B + 74)), some (.int 0), some (.int 0), some (.int 0), some (.int (-1)), some (.int 0), some (.int 1), some (.int 0), some (.int 0), some (.int 0), some (.int 0)]) hG dX12_buying_274 rfl (by rfl) (by decide) (pm_c1b rfl) rfl ?_
      refine pm_goto (tgt := 114) hG dX12_buying_277 rfl ?_
      refine pm_iloadi hG dX12_buying_114 rfl ?_
      refine pm_iconst (v := 1) hG dX12_buying_116 (by decide) ?_
      refine pm_iloadi hG dX12_buying_117 rfl ?_
      refine pm_ishl hG dX12_buying_119 ?_
      refine pm_top (v := 1) (by decide) ?_
      refine pm_icmp_ge (tgt := 280) hG dX12_buying_120 rfl (fun _ => ?_) (fun q => absurd q (by decide))
      refine pm_iloadi hG dX12_buying_280 rfl ?_
      refine pm_if_ge (tgt := 293) hG dX12_buying_282 rfl (fun q => absurd q (by decide)) (fun _ => ?_)
      refine pm_aloadn hG dX12_buying_285 rfl ?_
      refine pm_iconst (v := 2) hG dX12_buying_286 (by decide) ?_
      refine pm_callV (As := [.int 2]) (rest := []) hG hR dX12_buying_287 (lkX12_80 _ rfl) okV_X12_finds rfl rfl (fm_X12_finds_37 (d := 1) (by decide)) rfl rfl hdd (by decide) (by decide) (by decide) (pm_ki (fun v σ' cnt' hq => ?_))
      obtain ⟨rfl, rfl, rfl⟩ := hq
      refine pm_goto (tgt := 304) hG dX12_buying_290 rfl ?_
      exact pm_iret hG hF dX12_buying_304 rfl (by decide) (by decide) ⟨_, rfl, (by clear hF hR hG; first | rfl | (unfold v_buying; (repeat' split) <;> first | rfl | (exfalso; simp only [Int32.lt_iff_toInt_lt, Int32.le_iff_toInt_le, ← Int32.toInt_inj, Int32.toInt_zero, L_1, L_5, L_m1000001, L_m1000002] at *; omega) | (apply Int32.toInt_inj.mp; simp only [Int32.lt_iff_toInt_lt, Int32.le_iff_toInt_le, ← Int32.toInt_inj, Int32.toInt_zero, L_1, L_5, L_m1000001, L_m1000002] at *; omega)))⟩

set_option maxRecDepth 100000 in
set_option maxHeartbeats 8000000 in
theorem om_guard {B : Nat} {za zb : Int32} {d : Nat} (hdd : 2 ≤ d) : pm_met mX12_guard d 0 0 B [.ref (B + 54), .int za, .int zb] 74 (pm_cat (fun _ => none) 54 (l_k_model B)) (pm_Qi (fun v _ _ => v = v_guard za zb)) := by
  refine pm_enter 1 (by decide) (Nat.le_of_ble_eq_true rfl) rfl (fun G hG hR hF => ?_)
  refine pm_iloadn hG dX12_guard_0 rfl ?_
  refine pm_iconst (v := 0) hG dX12_guard_1 (by decide) ?_
  refine pm_iconst (v := 4) hG dX12_guard_2 (by decide) ?_
  refine pm_callS (As := [.int za, .int 0, .int 4]) (rest := []) hG hR dX12_guard_3 (lkX12_68 _ rfl) okS_X12_in (mx_in (d := 1)) rfl rfl hdd (by decide) (by decide) (by decide) (pm_ki (fun v σ' cnt' hq => ?_))
  obtain ⟨rfl, rfl, rfl⟩ := hq
  by_cases c1 : za < 0 ∨ 4 < za
  · refine pm_top (v := 0) (if_pos c1) ?_
    refine pm_if_eq (tgt := 19) hG dX12_guard_6 rfl (fun _ => ?_) (fun q => absurd q (by decide))
    refine pm_aloadn hG dX12_guard_19 rfl ?_
    refine pm_iconst (v := 1) hG dX12_guard_20 (by decide) ?_
    refine pm_callV (As := [.int 1]) (rest := []) hG hR dX12_guard_21 (lkX12_80 _ rfl) okV_X12_finds rfl rfl (fm_X12_finds_2 (d := 1) (by decide)) rfl rfl hdd (by decide) (by decide) (by decide) (pm_ki (fun v σ' cnt' hq => ?_))
    obtain ⟨rfl, rfl, rfl⟩ := hq
    exact pm_iret hG hF dX12_guard_24 rfl (by decide) (by decide) ⟨_, rfl, (by clear hF hR hG; first | rfl | (unfold v_guard; (repeat' split) <;> first | rfl | (exfalso; simp only [Int32.lt_iff_toInt_lt, Int32.le_iff_toInt_le, ← Int32.toInt_inj, Int32.toInt_zero, L_4, L_6, L_m1000001] at *; omega) | (apply Int32.toInt_inj.mp; simp only [Int32.lt_iff_toInt_lt, Int32.le_iff_toInt_le, ← Int32.toInt_inj, Int32.toInt_zero, L_4, L_6, L_m1000001] at *; omega)))⟩
  · refine pm_top (v := 1) (if_neg c1) ?_
    refine pm_if_eq (tgt := 19) hG dX12_guard_6 rfl (fun q => absurd q (by decide)) (fun _ => ?_)
    refine pm_iloadn hG dX12_guard_9 rfl ?_
    refine pm_iconst (v := 0) hG dX12_guard_10 (by decide) ?_
    refine pm_bipush (v := 6) hG dX12_guard_11 (by decide) ?_
    refine pm_callS (As := [.int zb, .int 0, .int 6]) (rest := []) hG hR dX12_guard_13 (lkX12_68 _ rfl) okS_X12_in (mx_in (d := 1)) rfl rfl hdd (by decide) (by decide) (by decide) (pm_ki (fun v σ' cnt' hq => ?_))
    obtain ⟨rfl, rfl, rfl⟩ := hq
    by_cases c2 : zb < 0 ∨ 6 < zb
    · refine pm_top (v := 0) (if_pos c2) ?_
      refine pm_if_ne (tgt := 25) hG dX12_guard_16 rfl (fun q => absurd q (by decide)) (fun _ => ?_)
      refine pm_aloadn hG dX12_guard_19 rfl ?_
      refine pm_iconst (v := 1) hG dX12_guard_20 (by decide) ?_
      refine pm_callV (As := [.int 1]) (rest := []) hG hR dX12_guard_21 (lkX12_80 _ rfl) okV_X12_finds rfl rfl (fm_X12_finds_2 (d := 1) (by decide)) rfl rfl hdd (by decide) (by decide) (by decide) (pm_ki (fun v σ' cnt' hq => ?_))
      obtain ⟨rfl, rfl, rfl⟩ := hq
      exact pm_iret hG hF dX12_guard_24 rfl (by decide) (by decide) ⟨_, rfl, (by clear hF hR hG; first | rfl | (unfold v_guard; (repeat' split) <;> first | rfl | (exfalso; simp only [Int32.lt_iff_toInt_lt, Int32.le_iff_toInt_le, ← Int32.toInt_inj, Int32.toInt_zero, L_4, L_6, L_m1000001] at *; omega) | (apply Int32.toInt_inj.mp; simp only [Int32.lt_iff_toInt_lt, Int32.le_iff_toInt_le, ← Int32.toInt_inj, Int32.toInt_zero, L_4, L_6, L_m1000001] at *; omega)))⟩
    · refine pm_top (v := 1) (if_neg c2) ?_
      refine pm_if_ne (tgt := 25) hG dX12_guard_16 rfl (fun _ => ?_) (fun q => absurd q (by decide))
      refine pm_aloadn hG dX12_guard_25 rfl ?_
      refine pm_getf hG dX12_guard_26 (flX12_7 _ rfl) rfl rfl ?_
      refine pm_sipush (v := 1986) hG dX12_guard_29 (by decide) ?_
      refine pm_iloadn hG dX12_guard_32 rfl ?_
      refine pm_iadd hG dX12_guard_33 ?_
      refine pm_iald hG dX12_guard_34 rfl (vp_in_iff.mpr (by revert c1; simp only [Int32.lt_iff_toInt_lt, Int32.le_iff_toInt_le, ← Int32.toInt_inj, Int32.toInt_zero, Int32.toInt_add, Int32.toInt_mul, Int32.toInt_sub, Int.bmod_def, L_1986, L_4]; omega)) ?_
      refine pm_istoreXn (loc' := [some (.ref (B + 54)), some (.int za), some (.int zb), some (.int ((upd (fun _ => 0) (9 : Int32).toNatClampNeg 1000) (1986 + za).toNatClampNeg))]) hG dX12_guard_35 (by decide) (pm_c1b rfl) rfl ?_
      refine pm_aloadn hG dX12_guard_36 rfl ?_
      refine pm_getf hG dX12_guard_37 (flX12_7 _ rfl) rfl rfl ?_
      refine pm_sipush (v := 1986) hG dX12_guard_40 (by decide) ?_
      refine pm_iloadn hG dX12_guard_43 rfl ?_
      refine pm_iadd hG dX12_guard_44 ?_
      refine pm_iloadn hG dX12_guard_45 rfl ?_
      refine pm_iast hG dX12_guard_46 rfl (vp_in_iff.mpr (by revert c1; simp only [Int32.lt_iff_toInt_lt, Int32.le_iff_toInt_le, ← Int32.toInt_inj, Int32.toInt_zero, Int32.toInt_add, Int32.toInt_mul, Int32.toInt_sub, Int.bmod_def, L_1986, L_4]; omega)) ?_
      refine pm_iloadn hG dX12_guard_47 rfl ?_
      exact pm_iret hG hF dX12_guard_48 rfl (by decide) (by decide) ⟨_, rfl, (by clear hF hR hG; first | rfl | (unfold v_guard; (repeat' split) <;> first | rfl | (exfalso; simp only [Int32.lt_iff_toInt_lt, Int32.le_iff_toInt_le, ← Int32.toInt_inj, Int32.toInt_zero, L_4, L_6, L_m1000001] at *; omega) | (apply Int32.toInt_inj.mp; simp only [Int32.lt_iff_toInt_lt, Int32.le_iff_toInt_le, ← Int32.toInt_inj, Int32.toInt_zero, L_4, L_6, L_m1000001] at *; omega)))⟩

set_option maxRecDepth 100000 in
set_option maxHeartbeats 4000000 in
theorem fm_X12_inForce_38 {B : Nat} {d : Nat} (hdd : 1 ≤ d) : pm_met mX12_inForce d 0 0 B [.ref (B + 54), .int 2, .int 0, .int 0] 74 (pm_cat (fun _ => none) 54 (l_k_model B)) (pm_Qi (fun v σ' cnt' => v = (-1) ∧ σ' = (pm_cat (fun _ => none) 54 (l_k_model B)) ∧ cnt' = 74)) := by
  refine pm_enter 4 (by decide) (Nat.le_of_ble_eq_true rfl) rfl (fun G hG hR hF => ?_)
  refine pm_iconst (v := (-1)) hG dX12_inForce_0 (by decide) ?_
  refine pm_istoreXi (loc' := [some (.ref (B + 54)), some (.int 2), some (.int 0), some (.int 0), some (.int (-1)), none, none, none]) hG dX12_inForce_1 (by decide) (pm_c1b rfl) rfl ?_
  refine pm_iconst (v := 0) hG dX12_inForce_3 (by decide) ?_
  refine pm_istoreXi (loc' := [some (.ref (B + 54)), some (.int 2), some (.int 0), some (.int 0), some (.int (-1)), some (.int 0), none, none]) hG dX12_inForce_4 (by decide) (pm_c1b rfl) rfl ?_
  refine pm_iloadi hG dX12_inForce_6 rfl ?_
  refine pm_aloadn hG dX12_inForce_8 rfl ?_
  refine pm_getf hG dX12_inForce_9 (flX12_7 _ rfl) rfl rfl ?_
  refine pm_iconst (v := 4) hG dX12_inForce_12 (by decide) ?_
  refine pm_ialdX (v := 0) hG dX12_inForce_13 rfl (pm_inb (by decide)) (by rfl) ?_
  refine pm_icmp_ge (tgt := 137) hG dX12_inForce_14 rfl (fun _ => ?_) (fun q => absurd q (by decide))
  refine pm_iloadi hG dX12_inForce_137 rfl ?_
  exact pm_iret hG hF dX12_inForce_139 rfl (by decide) (by decide) ⟨_, rfl, ⟨rfl, rfl, rfl⟩⟩

set_option maxRecDepth 100000 in
set_option maxHeartbeats 4000000 in
theorem fm_X12_finds_39 {B : Nat} {d : Nat} (hdd : 1 ≤ d) : pm_met mX12_finds d 0 0 B [.ref (B + 54), .int 2] 76 (pm_up (pm_up (pm_cat (fun _ => none) 54 (l_k_model B)) 74 (.inl (20, (fun _ => 0)))) 75 (.inl (20, (fun _ => 0)))) (pm_Qi (fun v σ' cnt' => v = (-1000002) ∧ σ' = (pm_up (pm_up (pm_up (pm_cat (fun _ => none) 54 (l_k_model B)) 74 (.inl (20, (fun _ => 0)))) 75 (.inl (20, (fun _ => 0)))) 57 (.inl (6, upd (fun _ => 0) (2 : Int32).toNatClampNeg 1))) ∧ cnt' = 76)) := by
  refine pm_enter 0 (by decide) (Nat.le_of_ble_eq_true rfl) rfl (fun G hG hR hF => ?_)
  refine pm_aloadn hG dX12_finds_0 rfl ?_
  refine pm_getf hG dX12_finds_1 (flX12_16 _ rfl) rfl rfl ?_
  refine pm_iloadn hG dX12_finds_4 rfl ?_
  refine pm_dup2 hG dX12_finds_5 rfl rfl ?_
  refine pm_ialdX (v := 0) hG dX12_finds_6 rfl (pm_inb (by decide)) (by rfl) ?_
  refine pm_iconst (v := 1) hG dX12_finds_7 (by decide) ?_
  refine pm_iadd hG dX12_finds_8 ?_
  refine pm_top (v := 1) (by decide) ?_
  refine pm_iast hG dX12_finds_9 rfl (pm_inb (by decide)) ?_
  refine pm_ldc hG dX12_finds_10 (ctX12_67 _ rfl) ?_
  refine pm_iloadn hG dX12_finds_12 rfl ?_
  refine pm_isub hG dX12_finds_13 ?_
  refine pm_top (v := (-1000002)) (by decide) ?_
  exact pm_iret hG hF dX12_finds_14 rfl (by decide) (by decide) ⟨_, rfl, ⟨rfl, rfl, rfl⟩⟩

set_option maxRecDepth 100000 in
set_option maxHeartbeats 8000000 in
theorem om_heir {B : Nat} {za : Int32} {d : Nat} (hdd : 2 ≤ d) : pm_met mX12_heir d 2 40 B [.ref (B + 54), .int za] 74 (pm_cat (fun _ => none) 54 (l_k_model B)) (pm_Qi (fun v _ _ => v = v_heir za)) := by
  refine pm_enter 7 (by decide) (Nat.le_of_ble_eq_true rfl) rfl (fun G hG hR hF => ?_)
  refine pm_iloadn hG dX12_heir_0 rfl ?_
  refine pm_if_ge (tgt := 10) hG dX12_heir_1 rfl (fun c1 => ?_) (fun c1 => ?_)
  · refine pm_aloadn hG dX12_heir_10 rfl ?_
    refine pm_iconst (v := 2) hG dX12_heir_11 (by decide) ?_
    refine pm_aloadn hG dX12_heir_12 rfl ?_
    refine pm_getf hG dX12_heir_13 (flX12_7 _ rfl) rfl rfl ?_
    refine pm_bipush (v := 8) hG dX12_heir_16 (by decide) ?_
    refine pm_ialdX (v := 0) hG dX12_heir_18 rfl (pm_inb (by decide)) (by rfl) ?_
    refine pm_aloadn hG dX12_heir_19 rfl ?_
    refine pm_getf hG dX12_heir_20 (flX12_7 _ rfl) rfl rfl ?_
    refine pm_bipush (v := 8) hG dX12_heir_23 (by decide) ?_
    refine pm_ialdX (v := 0) hG dX12_heir_25 rfl (pm_inb (by decide)) (by rfl) ?_
    refine pm_callV (As := [.int 2, .int 0, .int 0]) (rest := []) hG hR dX12_heir_26 (lkX12_195 _ rfl) okV_X12_inForce rfl rfl (fm_X12_inForce_38 (d := 1) (by decide)) rfl rfl hdd (by decide) (by decide) (by decide) (pm_ki (fun v σ' cnt' hq => ?_))
    obtain ⟨rfl, rfl, rfl⟩ := hq
    refine pm_istoreXn (loc' := [some (.ref (B + 54)), some (.int za), some (.int (-1)), none, none, none, none, none, none]) hG dX12_heir_29 (by decide) (pm_c1b rfl) rfl ?_
    refine pm_bipush (v := 20) hG dX12_heir_30 (by decide) ?_
    refine pm_newi (N := 20) hG hR dX12_heir_32 (by decide) (by decide) (by decide) (by decide) (by decide) ?_
    refine pm_nums (cs' := 1) (zs' := 20) (cnt' := 75) rfl rfl rfl ?_
    refine pm_astoreXn (loc' := [some (.ref (B + 54)), some (.int za), some (.int (-1)), some (.ref (B + 74)), none, none, none, none, none]) hG dX12_heir_34 (by decide) (pm_c1b rfl) rfl ?_
    refine pm_bipush (v := 20) hG dX12_heir_35 (by decide) ?_
    refine pm_newi (N := 20) hG hR dX12_heir_37 (by decide) (by decide) (by decide) (by decide) (by decide) ?_
    refine pm_nums (cs' := 2) (zs' := 40) (cnt' := 76) rfl rfl rfl ?_
    refine pm_astoreXi (loc' := [some (.ref (B + 54)), some (.int za), some (.int (-1)), some (.ref (B + 74)), some (.ref (B + 75)), none, none, none, none]) hG dX12_heir_39 (by decide) (pm_c1b rfl) rfl ?_
    refine pm_iconst (v := 0) hG dX12_heir_41 (by decide) ?_
    refine pm_istoreXi (loc' := [some (.ref (B + 54)), some (.int za), some (.int (-1)), some (.ref (B + 74)), some (.ref (B + 75)), some (.int 0), none, none, none]) hG dX12_heir_42 (by decide) (pm_c1b rfl) rfl ?_
    refine pm_iconst (v := 1) hG dX12_heir_44 (by decide) ?_
    refine pm_istoreXi (loc' := [some (.ref (B + 54)), some (.int za), some (.int (-1)), some (.ref (B + 74)), some (.ref (B + 75)), some (.int 0), some (.int 1), none, none]) hG dX12_heir_45 (by decide) (pm_c1b rfl) rfl ?_
    refine pm_iloadi hG dX12_heir_47 rfl ?_
    refine pm_aloadn hG dX12_heir_49 rfl ?_
    refine pm_getf hG dX12_heir_50 (flX12_7 _ rfl) rfl rfl ?_
    refine pm_iconst (v := 2) hG dX12_heir_53 (by decide) ?_
    refine pm_ialdX (v := 0) hG dX12_heir_54 rfl (pm_inb (by decide)) (by rfl) ?_
    refine pm_icmp_ge (tgt := 207) hG dX12_heir_55 rfl (fun _ => ?_) (fun q => absurd q (by decide))
    refine pm_iloadn hG dX12_heir_207 rfl ?_
    refine pm_iloadi hG dX12_heir_208 rfl ?_
    refine pm_icmp_ge (tgt := 219) hG dX12_heir_210 rfl (fun _ => ?_) (fun q => False.elim (by revert c1 q; simp only [Int32.lt_iff_toInt_lt, Int32.le_iff_toInt_le, ← Int32.toInt_inj, Int32.toInt_zero]; omega))
    refine pm_aloadn hG dX12_heir_219 rfl ?_
    refine pm_iconst (v := 2) hG dX12_heir_220 (by decide) ?_
    refine pm_callV (As := [.int 2]) (rest := []) hG hR dX12_heir_221 (lkX12_80 _ rfl) okV_X12_finds rfl rfl (fm_X12_finds_39 (d := 1) (by decide)) rfl rfl hdd (by decide) (by decide) (by decide) (pm_ki (fun v σ' cnt' hq => ?_))
    obtain ⟨rfl, rfl, rfl⟩ := hq
    exact pm_iret hG hF dX12_heir_224 rfl (by decide) (by decide) ⟨_, rfl, (by clear hF hR hG; first | rfl | (unfold v_heir; (repeat' split) <;> first | rfl | (exfalso; simp only [Int32.lt_iff_toInt_lt, Int32.le_iff_toInt_le, ← Int32.toInt_inj, Int32.toInt_zero, L_m1000001, L_m1000002] at *; omega) | (apply Int32.toInt_inj.mp; simp only [Int32.lt_iff_toInt_lt, Int32.le_iff_toInt_le, ← Int32.toInt_inj, Int32.toInt_zero, L_m1000001, L_m1000002] at *; omega)))⟩
  · refine pm_aloadn hG dX12_heir_4 rfl ?_
    refine pm_iconst (v := 1) hG dX12_heir_5 (by decide) ?_
    refine pm_callV (As := [.int 1]) (rest := []) hG hR dX12_heir_6 (lkX12_80 _ rfl) okV_X12_finds rfl rfl (fm_X12_finds_2 (d := 1) (by decide)) rfl rfl hdd (by decide) (by decide) (by decide) (pm_ki (fun v σ' cnt' hq => ?_))
    obtain ⟨rfl, rfl, rfl⟩ := hq
    exact pm_iret hG hF dX12_heir_9 rfl (by decide) (by decide) ⟨_, rfl, (by clear hF hR hG; first | rfl | (unfold v_heir; (repeat' split) <;> first | rfl | (exfalso; simp only [Int32.lt_iff_toInt_lt, Int32.le_iff_toInt_le, ← Int32.toInt_inj, Int32.toInt_zero, L_m1000001, L_m1000002] at *; omega) | (apply Int32.toInt_inj.mp; simp only [Int32.lt_iff_toInt_lt, Int32.le_iff_toInt_le, ← Int32.toInt_inj, Int32.toInt_zero, L_m1000001, L_m1000002] at *; omega)))⟩

set_option maxRecDepth 100000 in
set_option maxHeartbeats 4000000 in
theorem fm_X12_ageDay_40 {B : Nat} {d : Nat} (hdd : 1 ≤ d) : pm_met mX12_ageDay d 0 0 B [.ref (B + 54)] 74 (pm_cat (fun _ => none) 54 (l_k_model B)) (pm_Qi (fun v σ' cnt' => v = (-1) ∧ σ' = (pm_cat (fun _ => none) 54 (l_k_model B)) ∧ cnt' = 74)) := by
  refine pm_enter 1 (by decide) (Nat.le_of_ble_eq_true rfl) rfl (fun G hG hR hF => ?_)
  refine pm_aloadn hG dX12_ageDay_0 rfl ?_
  refine pm_getf hG dX12_ageDay_1 (flX12_7 _ rfl) rfl rfl ?_
  refine pm_iconst (v := 2) hG dX12_ageDay_4 (by decide) ?_
  refine pm_ialdX (v := 0) hG dX12_ageDay_5 rfl (pm_inb (by decide)) (by rfl) ?_
  refine pm_if_ne (tgt := 11) hG dX12_ageDay_6 rfl (fun q => absurd q (by decide)) (fun _ => ?_)
  refine pm_iconst (v := (-1)) hG dX12_ageDay_9 (by decide) ?_
  exact pm_iret hG hF dX12_ageDay_10 rfl (by decide) (by decide) ⟨_, rfl, ⟨rfl, rfl, rfl⟩⟩

set_option maxRecDepth 100000 in
set_option maxHeartbeats 8000000 in
theorem om_age {B : Nat} {d : Nat} (hdd : 2 ≤ d) : pm_met mX12_age d 0 0 B [.ref (B + 54)] 74 (pm_cat (fun _ => none) 54 (l_k_model B)) (pm_Qi (fun v _ _ => v = v_age)) := by
  refine pm_enter 1 (by decide) (Nat.le_of_ble_eq_true rfl) rfl (fun G hG hR hF => ?_)
  refine pm_aloadn hG dX12_age_0 rfl ?_
  refine pm_callV (As := []) (rest := []) hG hR dX12_age_1 (lkX12_267 _ rfl) okV_X12_ageDay rfl rfl (fm_X12_ageDay_40 (d := 1) (by decide)) rfl rfl hdd (by decide) (by decide) (by decide) (pm_ki (fun v σ' cnt' hq => ?_))
  obtain ⟨rfl, rfl, rfl⟩ := hq
  refine pm_istoreXn (loc' := [some (.ref (B + 54)), some (.int (-1))]) hG dX12_age_4 (by decide) (pm_c1b rfl) rfl ?_
  refine pm_iloadn hG dX12_age_5 rfl ?_
  refine pm_if_ge (tgt := 17) hG dX12_age_6 rfl (fun q => absurd q (by decide)) (fun _ => ?_)
  refine pm_aloadn hG dX12_age_9 rfl ?_
  refine pm_iconst (v := 2) hG dX12_age_10 (by decide) ?_
  refine pm_callV (As := [.int 2]) (rest := []) hG hR dX12_age_11 (lkX12_80 _ rfl) okV_X12_finds rfl rfl (fm_X12_finds_30 (d := 1) (by decide)) rfl rfl hdd (by decide) (by decide) (by decide) (pm_ki (fun v σ' cnt' hq => ?_))
  obtain ⟨rfl, rfl, rfl⟩ := hq
  refine pm_goto (tgt := 18) hG dX12_age_14 rfl ?_
  exact pm_iret hG hF dX12_age_18 rfl (by decide) (by decide) ⟨_, rfl, (by clear hF hR hG; first | rfl | (unfold v_age; (repeat' split) <;> first | rfl | (exfalso; simp only [Int32.lt_iff_toInt_lt, Int32.le_iff_toInt_le, ← Int32.toInt_inj, Int32.toInt_zero, L_m1000002] at *; omega) | (apply Int32.toInt_inj.mp; simp only [Int32.lt_iff_toInt_lt, Int32.le_iff_toInt_le, ← Int32.toInt_inj, Int32.toInt_zero, L_m1000002] at *; omega)))⟩

set_option maxRecDepth 100000 in
set_option maxHeartbeats 8000000 in
theorem om_plan {B : Nat} {za zb : Int32} {d : Nat} (hdd : 3 ≤ d) : pm_met mX12_plan d 0 0 B [.ref (B + 54), .int za, .int zb] 74 (pm_cat (fun _ => none) 54 (l_k_model B)) (pm_Qi (fun v _ _ => v = v_plan za zb)) := by
  refine pm_enter 3 (by decide) (Nat.le_of_ble_eq_true rfl) rfl (fun G hG hR hF => ?_)
  refine pm_iloadn hG dX12_plan_0 rfl ?_
  refine pm_callS (As := [.int za]) (rest := []) hG hR dX12_plan_1 (lkX12_239 _ rfl) okS_X12_isSheet (fm_X12_isSheet_31 (d := 2) (by decide)) rfl rfl hdd (by decide) (by decide) (by decide) (pm_ki (fun v σ' cnt' hq => ?_))
  rcases hq with ⟨c1, rfl, rfl, rfl⟩ | ⟨c2, rfl, rfl, rfl⟩
  · refine pm_if_ne (tgt := 13) hG dX12_plan_4 rfl (fun q => absurd q (by decide)) (fun _ => ?_)
    refine pm_aloadn hG dX12_plan_7 rfl ?_
    refine pm_iconst (v := 1) hG dX12_plan_8 (by decide) ?_
    refine pm_callV (As := [.int 1]) (rest := []) hG hR dX12_plan_9 (lkX12_80 _ rfl) okV_X12_finds rfl rfl (fm_X12_finds_2 (d := 2) (by decide)) rfl rfl hdd (by decide) (by decide) (by decide) (pm_ki (fun v σ' cnt' hq => ?_))
    obtain ⟨rfl, rfl, rfl⟩ := hq
    exact pm_iret hG hF dX12_plan_12 rfl (by decide) (by decide) ⟨_, rfl, (by clear hF hR hG; first | rfl | (unfold v_plan; (repeat' split) <;> first | rfl | (exfalso; simp only [Int32.lt_iff_toInt_lt, Int32.le_iff_toInt_le, ← Int32.toInt_inj, Int32.toInt_zero, L_3, L_m1000001, L_m1000002] at *; omega) | (apply Int32.toInt_inj.mp; simp only [Int32.lt_iff_toInt_lt, Int32.le_iff_toInt_le, ← Int32.toInt_inj, Int32.toInt_zero, L_3, L_m1000001, L_m1000002] at *; omega)))⟩
  · refine pm_if_ne (tgt := 13) hG dX12_plan_4 rfl (fun _ => ?_) (fun q => absurd q (by decide))
    refine pm_aloadn hG dX12_plan_13 rfl ?_
    refine pm_getf hG dX12_plan_14 (flX12_55 _ rfl) rfl rfl ?_
    refine pm_iloadn hG dX12_plan_17 rfl ?_
    refine pm_ialdX (v := 0) hG dX12_plan_18 rfl (vp_in_iff.mpr (by revert c2; simp only [Int32.lt_iff_toInt_lt, Int32.le_iff_toInt_le, ← Int32.toInt_inj, Int32.toInt_zero, Int32.toInt_add, Int32.toInt_mul, Int32.toInt_sub, Int.bmod_def, L_3]; omega)) (by rfl) ?_
    refine pm_if_ne (tgt := 28) hG dX12_plan_19 rfl (fun q => absurd q (by decide)) (fun _ => ?_)
    refine pm_aloadn hG dX12_plan_22 rfl ?_
    refine pm_iconst (v := 2) hG dX12_plan_23 (by decide) ?_
    refine pm_callV (As := [.int 2]) (rest := []) hG hR dX12_plan_24 (lkX12_80 _ rfl) okV_X12_finds rfl rfl (fm_X12_finds_30 (d := 2) (by decide)) rfl rfl hdd (by decide) (by decide) (by decide) (pm_ki (fun v σ' cnt' hq => ?_))
    obtain ⟨rfl, rfl, rfl⟩ := hq
    exact pm_iret hG hF dX12_plan_27 rfl (by decide) (by decide) ⟨_, rfl, (by clear hF hR hG; first | rfl | (unfold v_plan; (repeat' split) <;> first | rfl | (exfalso; simp only [Int32.lt_iff_toInt_lt, Int32.le_iff_toInt_le, ← Int32.toInt_inj, Int32.toInt_zero, L_3, L_m1000001, L_m1000002] at *; omega) | (apply Int32.toInt_inj.mp; simp only [Int32.lt_iff_toInt_lt, Int32.le_iff_toInt_le, ← Int32.toInt_inj, Int32.toInt_zero, L_3, L_m1000001, L_m1000002] at *; omega)))⟩

set_option maxRecDepth 100000 in
set_option maxHeartbeats 8000000 in
theorem om_trace {B : Nat} {za : Int32} {d : Nat} (hdd : 2 ≤ d) : pm_met mX12_trace d 0 0 B [.ref (B + 54), .int za] 74 (pm_cat (fun _ => none) 54 (l_k_model B)) (pm_Qi (fun v _ _ => v = v_trace za)) := by
  refine pm_enter 0 (by decide) (Nat.le_of_ble_eq_true rfl) rfl (fun G hG hR hF => ?_)
  refine pm_iloadn hG dX12_trace_0 rfl ?_
  refine pm_iconst (v := 0) hG dX12_trace_1 (by decide) ?_
  refine pm_aloadn hG dX12_trace_2 rfl ?_
  refine pm_getf hG dX12_trace_3 (flX12_283 _ rfl) rfl rfl ?_
  refine pm_iconst (v := 1) hG dX12_trace_6 (by decide) ?_
  refine pm_isub hG dX12_trace_7 ?_
  refine pm_top (v := (-1)) (by decide) ?_
  refine pm_callS (As := [.int za, .int 0, .int (-1)]) (rest := []) hG hR dX12_trace_8 (lkX12_68 _ rfl) okS_X12_in (mx_in (d := 1)) rfl rfl hdd (by decide) (by decide) (by decide) (pm_ki (fun v σ' cnt' hq => ?_))
  obtain ⟨rfl, rfl, rfl⟩ := hq
  refine pm_top (v := 0) (pm_in0 _) ?_
  refine pm_if_eq (tgt := 23) hG dX12_trace_11 rfl (fun _ => ?_) (fun q => absurd q (by decide))
  refine pm_aloadn hG dX12_trace_23 rfl ?_
  refine pm_iconst (v := 2) hG dX12_trace_24 (by decide) ?_
  refine pm_callV (As := [.int 2]) (rest := []) hG hR dX12_trace_25 (lkX12_80 _ rfl) okV_X12_finds rfl rfl (fm_X12_finds_30 (d := 1) (by decide)) rfl rfl hdd (by decide) (by decide) (by decide) (pm_ki (fun v σ' cnt' hq => ?_))
  obtain ⟨rfl, rfl, rfl⟩ := hq
  exact pm_iret hG hF dX12_trace_28 rfl (by decide) (by decide) ⟨_, rfl, (by clear hF hR hG; first | rfl | (unfold v_trace; (repeat' split) <;> first | rfl | (exfalso; simp only [Int32.lt_iff_toInt_lt, Int32.le_iff_toInt_le, ← Int32.toInt_inj, Int32.toInt_zero, L_m1000002] at *; omega) | (apply Int32.toInt_inj.mp; simp only [Int32.lt_iff_toInt_lt, Int32.le_iff_toInt_le, ← Int32.toInt_inj, Int32.toInt_zero, L_m1000002] at *; omega)))⟩

set_option maxRecDepth 100000 in
set_option maxHeartbeats 4000000 in
theorem fm_X12_finds_41 {B : Nat} {d : Nat} (hdd : 1 ≤ d) : pm_met mX12_finds d 0 0 B [.ref (B + 54), .int 3] 74 (pm_cat (fun _ => none) 54 (l_k_model B)) (pm_Qi (fun v σ' cnt' => v = (-1000003) ∧ σ' = (pm_up (pm_cat (fun _ => none) 54 (l_k_model B)) 57 (.inl (6, upd (fun _ => 0) (3 : Int32).toNatClampNeg 1))) ∧ cnt' = 74)) := by
  refine pm_enter 0 (by decide) (Nat.le_of_ble_eq_true rfl) rfl (fun G hG hR hF => ?_)
  refine pm_aloadn hG dX12_finds_0 rfl ?_
  refine pm_getf hG dX12_finds_1 (flX12_16 _ rfl) rfl rfl ?_
  refine pm_iloadn hG dX12_finds_4 rfl ?_
  refine pm_dup2 hG dX12_finds_5 rfl rfl ?_
  refine pm_ialdX (v := 0) hG dX12_finds_6 rfl (pm_inb (by decide)) (by rfl) ?_
  refine pm_iconst (v := 1) hG dX12_finds_7 (by decide) ?_
  refine pm_iadd hG dX12_finds_8 ?_
  refine pm_top (v := 1) (by decide) ?_
  refine pm_iast hG dX12_finds_9 rfl (pm_inb (by decide)) ?_
  refine pm_ldc hG dX12_finds_10 (ctX12_67 _ rfl) ?_
  refine pm_iloadn hG dX12_finds_12 rfl ?_
  refine pm_isub hG dX12_finds_13 ?_
  refine pm_top (v := (-1000003)) (by decide) ?_
  exact pm_iret hG hF dX12_finds_14 rfl (by decide) (by decide) ⟨_, rfl, ⟨rfl, rfl, rfl⟩⟩

set_option maxRecDepth 100000 in
set_option maxHeartbeats 8000000 in
theorem om_sheet {B : Nat} {za zb zc : Int32} {d : Nat} (hdd : 3 ≤ d) : pm_met mX12_sheet d 0 0 B [.ref (B + 54), .int za, .int zb, .int zc] 74 (pm_cat (fun _ => none) 54 (l_k_model B)) (pm_Qi (fun v _ _ => v = v_sheet za zb zc)) := by
  refine pm_enter 1 (by decide) (Nat.le_of_ble_eq_true rfl) rfl (fun G hG hR hF => ?_)
  refine pm_iloadn hG dX12_sheet_0 rfl ?_
  refine pm_callS (As := [.int za]) (rest := []) hG hR dX12_sheet_1 (lkX12_239 _ rfl) okS_X12_isSheet (fm_X12_isSheet_31 (d := 2) (by decide)) rfl rfl hdd (by decide) (by decide) (by decide) (pm_ki (fun v σ' cnt' hq => ?_))
  rcases hq with ⟨c1, rfl, rfl, rfl⟩ | ⟨c2, rfl, rfl, rfl⟩
  · refine pm_if_eq (tgt := 29) hG dX12_sheet_4 rfl (fun _ => ?_) (fun q => absurd q (by decide))
    refine pm_aloadn hG dX12_sheet_29 rfl ?_
    refine pm_iconst (v := 1) hG dX12_sheet_30 (by decide) ?_
    refine pm_callV (As := [.int 1]) (rest := []) hG hR dX12_sheet_31 (lkX12_80 _ rfl) okV_X12_finds rfl rfl (fm_X12_finds_2 (d := 2) (by decide)) rfl rfl hdd (by decide) (by decide) (by decide) (pm_ki (fun v σ' cnt' hq => ?_))
    obtain ⟨rfl, rfl, rfl⟩ := hq
    exact pm_iret hG hF dX12_sheet_34 rfl (by decide) (by decide) ⟨_, rfl, (by clear hF hR hG; first | rfl | (unfold v_sheet; (repeat' split) <;> first | rfl | (exfalso; simp only [Int32.lt_iff_toInt_lt, Int32.le_iff_toInt_le, ← Int32.toInt_inj, Int32.toInt_zero, L_1, L_16, L_24, L_3, L_32, L_8, L_m1000001, L_m1000003] at *; omega) | (apply Int32.toInt_inj.mp; simp only [Int32.lt_iff_toInt_lt, Int32.le_iff_toInt_le, ← Int32.toInt_inj, Int32.toInt_zero, L_1, L_16, L_24, L_3, L_32, L_8, L_m1000001, L_m1000003] at *; omega)))⟩
  · refine pm_if_eq (tgt := 29) hG dX12_sheet_4 rfl (fun q => absurd q (by decide)) (fun _ => ?_)
    refine pm_iloadn hG dX12_sheet_7 rfl ?_
    refine pm_if_eq (tgt := 35) hG dX12_sheet_8 rfl (fun c3 => ?_) (fun c3 => ?_)
    · refine pm_iloadn hG dX12_sheet_35 rfl ?_
      refine pm_if_eq (tgt := 49) hG dX12_sheet_36 rfl (fun _ => ?_) (fun q => False.elim (by revert c3 q; simp only [Int32.lt_iff_toInt_lt, Int32.le_iff_toInt_le, ← Int32.toInt_inj, Int32.toInt_zero]; omega))
      refine pm_iloadn hG dX12_sheet_49 rfl ?_
      refine pm_if_eq (tgt := 65) hG dX12_sheet_50 rfl (fun _ => ?_) (fun q => False.elim (by revert c3 q; simp only [Int32.lt_iff_toInt_lt, Int32.le_iff_toInt_le, ← Int32.toInt_inj, Int32.toInt_zero]; omega))
      refine pm_aloadn hG dX12_sheet_65 rfl ?_
      refine pm_getf hG dX12_sheet_66 (flX12_55 _ rfl) rfl rfl ?_
      refine pm_iloadn hG dX12_sheet_69 rfl ?_
      refine pm_iloadn hG dX12_sheet_70 rfl ?_
      refine pm_iast hG dX12_sheet_71 rfl (vp_in_iff.mpr (by revert c2; simp only [Int32.lt_iff_toInt_lt, Int32.le_iff_toInt_le, ← Int32.toInt_inj, Int32.toInt_zero, Int32.toInt_add, Int32.toInt_mul, Int32.toInt_sub, Int.bmod_def, L_3]; omega)) ?_
      refine pm_aloadn hG dX12_sheet_72 rfl ?_
      refine pm_getf hG dX12_sheet_73 (flX12_58 _ rfl) rfl rfl ?_
      refine pm_iloadn hG dX12_sheet_76 rfl ?_
      refine pm_iloadn hG dX12_sheet_77 rfl ?_
      refine pm_if_ne (tgt := 85) hG dX12_sheet_78 rfl (fun q => False.elim (by revert c3 q; simp only [Int32.lt_iff_toInt_lt, Int32.le_iff_toInt_le, ← Int32.toInt_inj, Int32.toInt_zero]; omega)) (fun _ => ?_)
      refine pm_iconst (v := 0) hG dX12_sheet_81 (by decide) ?_
      refine pm_goto (tgt := 86) hG dX12_sheet_82 rfl ?_
      refine pm_iast hG dX12_sheet_86 rfl (vp_in_iff.mpr (by revert c2; simp only [Int32.lt_iff_toInt_lt, Int32.le_iff_toInt_le, ← Int32.toInt_inj, Int32.toInt_zero, Int32.toInt_add, Int32.toInt_mul, Int32.toInt_sub, Int.bmod_def, L_3]; omega)) ?_
      refine pm_iconst (v := 0) hG dX12_sheet_87 (by decide) ?_
      refine pm_istoreXi (loc' := [some (.ref (B + 54)), some (.int za), some (.int zb), some (.int zc), some (.int 0)]) hG dX12_sheet_88 (by decide) (pm_c1b rfl) rfl ?_
      refine pm_iloadi hG dX12_sheet_90 rfl ?_
      refine pm_bipush (v := 24) hG dX12_sheet_92 (by decide) ?_
      refine pm_icmp_ge (tgt := 116) hG dX12_sheet_94 rfl (fun q => absurd q (by decide)) (fun _ => ?_)
      refine pm_aloadn hG dX12_sheet_97 rfl ?_
      refine pm_getf hG dX12_sheet_98 (flX12_61 _ rfl) rfl rfl ?_
      refine pm_bipush (v := 24) hG dX12_sheet_101 (by decide) ?_
      refine pm_iloadn hG dX12_sheet_103 rfl ?_
      refine pm_imul hG dX12_sheet_104 ?_
      refine pm_iloadi hG dX12_sheet_105 rfl ?_
      refine pm_iadd hG dX12_sheet_107 ?_
      refine pm_top (v := 24 * za) (Int32.add_zero _) ?_
      refine pm_iconst (v := 0) hG dX12_sheet_108 (by decide) ?_
      refine pm_iast hG dX12_sheet_109 rfl (vp_in_iff.mpr (by revert c2; simp only [Int32.lt_iff_toInt_lt, Int32.le_iff_toInt_le, ← Int32.toInt_inj, Int32.toInt_zero, Int32.toInt_add, Int32.toInt_mul, Int32.toInt_sub, Int.bmod_def, L_24, L_3]; omega)) ?_
      refine pm_iincX (v := 1) (loc' := [some (.ref (B + 54)), some (.int za), some (.int zb), some (.int zc), some (.int 1)]) hG dX12_sheet_110 rfl (by rfl) (by decide) (pm_c1b rfl) rfl ?_
      refine pm_goto (tgt := 90) hG dX12_sheet_113 rfl ?_
      refine pm_iloadi hG dX12_sheet_90 rfl ?_
      refine pm_bipush (v := 24) hG dX12_sheet_92 (by decide) ?_
      refine pm_icmp_ge (tgt := 116) hG dX12_sheet_94 rfl (fun q => absurd q (by decide)) (fun _ => ?_)
      refine pm_aloadn hG dX12_sheet_97 rfl ?_
      refine pm_getf hG dX12_sheet_98 (flX12_61 _ rfl) rfl rfl ?_
      refine pm_bipush (v := 24) hG dX12_sheet_101 (by decide) ?_
      refine pm_iloadn hG dX12_sheet_103 rfl ?_
      refine pm_imul hG dX12_sheet_104 ?_
      refine pm_iloadi hG dX12_sheet_105 rfl ?_
      refine pm_iadd hG dX12_sheet_107 ?_
      refine pm_iconst (v := 0) hG dX12_sheet_108 (by decide) ?_
      refine pm_iast hG dX12_sheet_109 rfl (vp_in_iff.mpr (by revert c2; simp only [Int32.lt_iff_toInt_lt, Int32.le_iff_toInt_le, ← Int32.toInt_inj, Int32.toInt_zero, Int32.toInt_add, Int32.toInt_mul, Int32.toInt_sub, Int.bmod_def, L_1, L_24, L_3]; omega)) ?_
      refine pm_iincX (v := 2) (loc' := [some (.ref (B + 54)), some (.int za), some (.int zb), some (.int zc), some (.int 2)]) hG dX12_sheet_110 rfl (by rfl) (by decide) (pm_c1b rfl) rfl ?_
      refine pm_goto (tgt := 90) hG dX12_sheet_113 rfl ?_
      refine pm_iloadi hG dX12_sheet_90 rfl ?_
      refine pm_bipush (v := 24) hG dX12_sheet_92 (by decide) ?_
      refine pm_icmp_ge (tgt := 116) hG dX12_sheet_94 rfl (fun q => absurd q (by decide)) (fun _ => ?_)
      refine pm_aloadn hG dX12_sheet_97 rfl ?_
      refine pm_getf hG dX12_sheet_98 (flX12_61 _ rfl) rfl rfl ?_
      refine pm_bipush (v := 24) hG dX12_sheet_101 (by decide) ?_
      refine pm_iloadn hG dX12_sheet_103 rfl ?_
      refine pm_imul hG dX12_sheet_104 ?_
      refine pm_iloadi hG dX12_sheet_105 rfl ?_
      refine pm_iadd hG dX12_sheet_107 ?_
      refine pm_iconst (v := 0) hG dX12_sheet_108 (by decide) ?_
      refine pm_iast hG dX12_sheet_109 rfl (vp_in_iff.mpr (by revert c2; simp only [Int32.lt_iff_toInt_lt, Int32.le_iff_toInt_le, ← Int32.toInt_inj, Int32.toInt_zero, Int32.toInt_add, Int32.toInt_mul, Int32.toInt_sub, Int.bmod_def, L_2, L_24, L_3]; omega)) ?_
      refine pm_iincX (v := 3) (loc' := [some (.ref (B + 54)), some (.int za), some (.int zb), some (.int zc), some (.int 3)]) hG dX12_sheet_110 rfl (by rfl) (by decide) (pm_c1b rfl) rfl ?_
      refine pm_goto (tgt := 90) hG dX12_sheet_113 rfl ?_
      refine pm_iloadi hG dX12_sheet_90 rfl ?_
      refine pm_bipush (v := 24) hG dX12_sheet_92 (by decide) ?_
      refine pm_icmp_ge (tgt := 116) hG dX12_sheet_94 rfl (fun q => absurd q (by decide)) (fun _ => ?_)
      refine pm_aloadn hG dX12_sheet_97 rfl ?_
      refine pm_getf hG dX12_sheet_98 (flX12_61 _ rfl) rfl rfl ?_
      refine pm_bipush (v := 24) hG dX12_sheet_101 (by decide) ?_
      refine pm_iloadn hG dX12_sheet_103 rfl ?_
      refine pm_imul hG dX12_sheet_104 ?_
      refine pm_iloadi hG dX12_sheet_105 rfl ?_
      refine pm_iadd hG dX12_sheet_107 ?_
      refine pm_iconst (v := 0) hG dX12_sheet_108 (by decide) ?_
      refine pm_iast hG dX12_sheet_109 rfl (vp_in_iff.mpr (by revert c2; simp only [Int32.lt_iff_toInt_lt, Int32.le_iff_toInt_le, ← Int32.toInt_inj, Int32.toInt_zero, Int32.toInt_add, Int32.toInt_mul, Int32.toInt_sub, Int.bmod_def, L_24, L_3]; omega)) ?_
      refine pm_iincX (v := 4) (loc' := [some (.ref (B + 54)), some (.int za), some (.int zb), some (.int zc), some (.int 4)]) hG dX12_sheet_110 rfl (by rfl) (by decide) (pm_c1b rfl) rfl ?_
      refine pm_goto (tgt := 90) hG dX12_sheet_113 rfl ?_
      refine pm_iloadi hG dX12_sheet_90 rfl ?_
      refine pm_bipush (v := 24) hG dX12_sheet_92 (by decide) ?_
      refine pm_icmp_ge (tgt := 116) hG dX12_sheet_94 rfl (fun q => absurd q (by decide)) (fun _ => ?_)
      refine pm_aloadn hG dX12_sheet_97 rfl ?_
      refine pm_getf hG dX12_sheet_98 (flX12_61 _ rfl) rfl rfl ?_
      refine pm_bipush (v := 24) hG dX12_sheet_101 (by decide) ?_
      refine pm_iloadn hG dX12_sheet_103 rfl ?_
      refine pm_imul hG dX12_sheet_104 ?_
      refine pm_iloadi hG dX12_sheet_105 rfl ?_
      refine pm_iadd hG dX12_sheet_107 ?_
      refine pm_iconst (v := 0) hG dX12_sheet_108 (by decide) ?_
      refine pm_iast hG dX12_sheet_109 rfl (vp_in_iff.mpr (by revert c2; simp only [Int32.lt_iff_toInt_lt, Int32.le_iff_toInt_le, ← Int32.toInt_inj, Int32.toInt_zero, Int32.toInt_add, Int32.toInt_mul, Int32.toInt_sub, Int.bmod_def, L_24, L_3, L_4]; omega)) ?_
      refine pm_iincX (v := 5) (loc' := [some (.ref (B + 54)), some (.int za), some (.int zb), some (.int zc), some (.int 5)]) hG dX12_sheet_110 rfl (by rfl) (by decide) (pm_c1b rfl) rfl ?_
      refine pm_goto (tgt := 90) hG dX12_sheet_113 rfl ?_
      refine pm_iloadi hG dX12_sheet_90 rfl ?_
      refine pm_bipush (v := 24) hG dX12_sheet_92 (by decide) ?_
      refine pm_icmp_ge (tgt := 116) hG dX12_sheet_94 rfl (fun q => absurd q (by decide)) (fun _ => ?_)
      refine pm_aloadn hG dX12_sheet_97 rfl ?_
      refine pm_getf hG dX12_sheet_98 (flX12_61 _ rfl) rfl rfl ?_
      refine pm_bipush (v := 24) hG dX12_sheet_101 (by decide) ?_
      refine pm_iloadn hG dX12_sheet_103 rfl ?_
      refine pm_imul hG dX12_sheet_104 ?_
      refine pm_iloadi hG dX12_sheet_105 rfl ?_
      refine pm_iadd hG dX12_sheet_107 ?_
      refine pm_iconst (v := 0) hG dX12_sheet_108 (by decide) ?_
      refine pm_iast hG dX12_sheet_109 rfl (vp_in_iff.mpr (by revert c2; simp only [Int32.lt_iff_toInt_lt, Int32.le_iff_toInt_le, ← Int32.toInt_inj, Int32.toInt_zero, Int32.toInt_add, Int32.toInt_mul, Int32.toInt_sub, Int.bmod_def, L_24, L_3, L_5]; omega)) ?_
      refine pm_iincX (v := 6) (loc' := [some (.ref (B + 54)), some (.int za), some (.int zb), some (.int zc), some (.int 6)]) hG dX12_sheet_110 rfl (by rfl) (by decide) (pm_c1b rfl) rfl ?_
      refine pm_goto (tgt := 90) hG dX12_sheet_113 rfl ?_
      refine pm_iloadi hG dX12_sheet_90 rfl ?_
      refine pm_bipush (v := 24) hG dX12_sheet_92 (by decide) ?_
      refine pm_icmp_ge (tgt := 116) hG dX12_sheet_94 rfl (fun q => absurd q (by decide)) (fun _ => ?_)
      refine pm_aloadn hG dX12_sheet_97 rfl ?_
      refine pm_getf hG dX12_sheet_98 (flX12_61 _ rfl) rfl rfl ?_
      refine pm_bipush (v := 24) hG dX12_sheet_101 (by decide) ?_
      refine pm_iloadn hG dX12_sheet_103 rfl ?_
      refine pm_imul hG dX12_sheet_104 ?_
      refine pm_iloadi hG dX12_sheet_105 rfl ?_
      refine pm_iadd hG dX12_sheet_107 ?_
      refine pm_iconst (v := 0) hG dX12_sheet_108 (by decide) ?_
      refine pm_iast hG dX12_sheet_109 rfl (vp_in_iff.mpr (by revert c2; simp only [Int32.lt_iff_toInt_lt, Int32.le_iff_toInt_le, ← Int32.toInt_inj, Int32.toInt_zero, Int32.toInt_add, Int32.toInt_mul, Int32.toInt_sub, Int.bmod_def, L_24, L_3, L_6]; omega)) ?_
      refine pm_iincX (v := 7) (loc' := [some (.ref (B + 54)), some (.int za), some (.int zb), some (.int zc), some (.int 7)]) hG dX12_sheet_110 rfl (by rfl) (by decide) (pm_c1b rfl) rfl ?_
      refine pm_goto (tgt := 90) hG dX12_sheet_113 rfl ?_
      refine pm_iloadi hG dX12_sheet_90 rfl ?_
      refine pm_bipush (v := 24) hG dX12_sheet_92 (by decide) ?_
      refine pm_icmp_ge (tgt := 116) hG dX12_sheet_94 rfl (fun q => absurd q (by decide)) (fun _ => ?_)
      refine pm_aloadn hG dX12_sheet_97 rfl ?_
      refine pm_getf hG dX12_sheet_98 (flX12_61 _ rfl) rfl rfl ?_
      refine pm_bipush (v := 24) hG dX12_sheet_101 (by decide) ?_
      refine pm_iloadn hG dX12_sheet_103 rfl ?_
      refine pm_imul hG dX12_sheet_104 ?_
      refine pm_iloadi hG dX12_sheet_105 rfl ?_
      refine pm_iadd hG dX12_sheet_107 ?_
      refine pm_iconst (v := 0) hG dX12_sheet_108 (by decide) ?_
      refine pm_iast hG dX12_sheet_109 rfl (vp_in_iff.mpr (by revert c2; simp only [Int32.lt_iff_toInt_lt, Int32.le_iff_toInt_le, ← Int32.toInt_inj, Int32.toInt_zero, Int32.toInt_add, Int32.toInt_mul, Int32.toInt_sub, Int.bmod_def, L_24, L_3, L_7]; omega)) ?_
      refine pm_iincX (v := 8) (loc' := [some (.ref (B + 54)), some (.int za), some (.int zb), some (.int zc), some (.int 8)]) hG dX12_sheet_110 rfl (by rfl) (by decide) (pm_c1b rfl) rfl ?_
      refine pm_goto (tgt := 90) hG dX12_sheet_113 rfl ?_
      refine pm_iloadi hG dX12_sheet_90 rfl ?_
      refine pm_bipush (v := 24) hG dX12_sheet_92 (by decide) ?_
      refine pm_icmp_ge (tgt := 116) hG dX12_sheet_94 rfl (fun q => absurd q (by decide)) (fun _ => ?_)
      refine pm_aloadn hG dX12_sheet_97 rfl ?_
      refine pm_getf hG dX12_sheet_98 (flX12_61 _ rfl) rfl rfl ?_
      refine pm_bipush (v := 24) hG dX12_sheet_101 (by decide) ?_
      refine pm_iloadn hG dX12_sheet_103 rfl ?_
      refine pm_imul hG dX12_sheet_104 ?_
      refine pm_iloadi hG dX12_sheet_105 rfl ?_
      refine pm_iadd hG dX12_sheet_107 ?_
      refine pm_iconst (v := 0) hG dX12_sheet_108 (by decide) ?_
      refine pm_iast hG dX12_sheet_109 rfl (vp_in_iff.mpr (by revert c2; simp only [Int32.lt_iff_toInt_lt, Int32.le_iff_toInt_le, ← Int32.toInt_inj, Int32.toInt_zero, Int32.toInt_add, Int32.toInt_mul, Int32.toInt_sub, Int.bmod_def, L_24, L_3, L_8]; omega)) ?_
      refine pm_iincX (v := 9) (loc' := [some (.ref (B + 54)), some (.int za), some (.int zb), some (.int zc), some (.int 9)]) hG dX12_sheet_110 rfl (by rfl) (by decide) (pm_c1b rfl) rfl ?_
      refine pm_goto (tgt := 90) hG dX12_sheet_113 rfl ?_
      refine pm_iloadi hG dX12_sheet_90 rfl ?_
      refine pm_bipush (v := 24) hG dX12_sheet_92 (by decide) ?_
      refine pm_icmp_ge (tgt := 116) hG dX12_sheet_94 rfl (fun q => absurd q (by decide)) (fun _ => ?_)
      refine pm_aloadn hG dX12_sheet_97 rfl ?_
      refine pm_getf hG dX12_sheet_98 (flX12_61 _ rfl) rfl rfl ?_
      refine pm_bipush (v := 24) hG dX12_sheet_101 (by decide) ?_
      refine pm_iloadn hG dX12_sheet_103 rfl ?_
      refine pm_imul hG dX12_sheet_104 ?_
      refine pm_iloadi hG dX12_sheet_105 rfl ?_
      refine pm_iadd hG dX12_sheet_107 ?_
      refine pm_iconst (v := 0) hG dX12_sheet_108 (by decide) ?_
      refine pm_iast hG dX12_sheet_109 rfl (vp_in_iff.mpr (by revert c2; simp only [Int32.lt_iff_toInt_lt, Int32.le_iff_toInt_le, ← Int32.toInt_inj, Int32.toInt_zero, Int32.toInt_add, Int32.toInt_mul, Int32.toInt_sub, Int.bmod_def, L_24, L_3, L_9]; omega)) ?_
      refine pm_iincX (v := 10) (loc' := [some (.ref (B + 54)), some (.int za), some (.int zb), some (.int zc), some (.int 10)]) hG dX12_sheet_110 rfl (by rfl) (by decide) (pm_c1b rfl) rfl ?_
      refine pm_goto (tgt := 90) hG dX12_sheet_113 rfl ?_
      refine pm_iloadi hG dX12_sheet_90 rfl ?_
      refine pm_bipush (v := 24) hG dX12_sheet_92 (by decide) ?_
      refine pm_icmp_ge (tgt := 116) hG dX12_sheet_94 rfl (fun q => absurd q (by decide)) (fun _ => ?_)
      refine pm_aloadn hG dX12_sheet_97 rfl ?_
      refine pm_getf hG dX12_sheet_98 (flX12_61 _ rfl) rfl rfl ?_
      refine pm_bipush (v := 24) hG dX12_sheet_101 (by decide) ?_
      refine pm_iloadn hG dX12_sheet_103 rfl ?_
      refine pm_imul hG dX12_sheet_104 ?_
      refine pm_iloadi hG dX12_sheet_105 rfl ?_
      refine pm_iadd hG dX12_sheet_107 ?_
      refine pm_iconst (v := 0) hG dX12_sheet_108 (by decide) ?_
      refine pm_iast hG dX12_sheet_109 rfl (vp_in_iff.mpr (by revert c2; simp only [Int32.lt_iff_toInt_lt, Int32.le_iff_toInt_le, ← Int32.toInt_inj, Int32.toInt_zero, Int32.toInt_add, Int32.toInt_mul, Int32.toInt_sub, Int.bmod_def, L_10, L_24, L_3]; omega)) ?_
      refine pm_iincX (v := 11) (loc' := [some (.ref (B + 54)), some (.int za), some (.int zb), some (.int zc), some (.int 11)]) hG dX12_sheet_110 rfl (by rfl) (by decide) (pm_c1b rfl) rfl ?_
      refine pm_goto (tgt := 90) hG dX12_sheet_113 rfl ?_
      refine pm_iloadi hG dX12_sheet_90 rfl ?_
      refine pm_bipush (v := 24) hG dX12_sheet_92 (by decide) ?_
      refine pm_icmp_ge (tgt := 116) hG dX12_sheet_94 rfl (fun q => absurd q (by decide)) (fun _ => ?_)
      refine pm_aloadn hG dX12_sheet_97 rfl ?_
      refine pm_getf hG dX12_sheet_98 (flX12_61 _ rfl) rfl rfl ?_
      refine pm_bipush (v := 24) hG dX12_sheet_101 (by decide) ?_
      refine pm_iloadn hG dX12_sheet_103 rfl ?_
      refine pm_imul hG dX12_sheet_104 ?_
      refine pm_iloadi hG dX12_sheet_105 rfl ?_
      refine pm_iadd hG dX12_sheet_107 ?_
      refine pm_iconst (v := 0) hG dX12_sheet_108 (by decide) ?_
      refine pm_iast hG dX12_sheet_109 rfl (vp_in_iff.mpr (by revert c2; simp only [Int32.lt_iff_toInt_lt, Int32.le_iff_toInt_le, ← Int32.toInt_inj, Int32.toInt_zero, Int32.toInt_add, Int32.toInt_mul, Int32.toInt_sub, Int.bmod_def, L_11, L_24, L_3]; omega)) ?_
      refine pm_iincX (v := 12) (loc' := [some (.ref (B + 54)), some (.int za), some (.int zb), some (.int zc), some (.int 12)]) hG dX12_sheet_110 rfl (by rfl) (by decide) (pm_c1b rfl) rfl ?_
      refine pm_goto (tgt := 90) hG dX12_sheet_113 rfl ?_
      refine pm_iloadi hG dX12_sheet_90 rfl ?_
      refine pm_bipush (v := 24) hG dX12_sheet_92 (by decide) ?_
      refine pm_icmp_ge (tgt := 116) hG dX12_sheet_94 rfl (fun q => absurd q (by decide)) (fun _ => ?_)
      refine pm_aloadn hG dX12_sheet_97 rfl ?_
      refine pm_getf hG dX12_sheet_98 (flX12_61 _ rfl) rfl rfl ?_
      refine pm_bipush (v := 24) hG dX12_sheet_101 (by decide) ?_
      refine pm_iloadn hG dX12_sheet_103 rfl ?_
      refine pm_imul hG dX12_sheet_104 ?_
      refine pm_iloadi hG dX12_sheet_105 rfl ?_
      refine pm_iadd hG dX12_sheet_107 ?_
      refine pm_iconst (v := 0) hG dX12_sheet_108 (by decide) ?_
      refine pm_iast hG dX12_sheet_109 rfl (vp_in_iff.mpr (by revert c2; simp only [Int32.lt_iff_toInt_lt, Int32.le_iff_toInt_le, ← Int32.toInt_inj, Int32.toInt_zero, Int32.toInt_add, Int32.toInt_mul, Int32.toInt_sub, Int.bmod_def, L_12, L_24, L_3]; omega)) ?_
      refine pm_iincX (v := 13) (loc' := [some (.ref (B + 54)), some (.int za), some (.int zb), some (.int zc), some (.int 13)]) hG dX12_sheet_110 rfl (by rfl) (by decide) (pm_c1b rfl) rfl ?_
      refine pm_goto (tgt := 90) hG dX12_sheet_113 rfl ?_
      refine pm_iloadi hG dX12_sheet_90 rfl ?_
      refine pm_bipush (v := 24) hG dX12_sheet_92 (by decide) ?_
      refine pm_icmp_ge (tgt := 116) hG dX12_sheet_94 rfl (fun q => absurd q (by decide)) (fun _ => ?_)
      refine pm_aloadn hG dX12_sheet_97 rfl ?_
      refine pm_getf hG dX12_sheet_98 (flX12_61 _ rfl) rfl rfl ?_
      refine pm_bipush (v := 24) hG dX12_sheet_101 (by decide) ?_
      refine pm_iloadn hG dX12_sheet_103 rfl ?_
      refine pm_imul hG dX12_sheet_104 ?_
      refine pm_iloadi hG dX12_sheet_105 rfl ?_
      refine pm_iadd hG dX12_sheet_107 ?_
      refine pm_iconst (v := 0) hG dX12_sheet_108 (by decide) ?_
      refine pm_iast hG dX12_sheet_109 rfl (vp_in_iff.mpr (by revert c2; simp only [Int32.lt_iff_toInt_lt, Int32.le_iff_toInt_le, ← Int32.toInt_inj, Int32.toInt_zero, Int32.toInt_add, Int32.toInt_mul, Int32.toInt_sub, Int.bmod_def, L_13, L_24, L_3]; omega)) ?_
      refine pm_iincX (v := 14) (loc' := [some (.ref (B + 54)), some (.int za), some (.int zb), some (.int zc), some (.int 14)]) hG dX12_sheet_110 rfl (by rfl) (by decide) (pm_c1b rfl) rfl ?_
      refine pm_goto (tgt := 90) hG dX12_sheet_113 rfl ?_
      refine pm_iloadi hG dX12_sheet_90 rfl ?_
      refine pm_bipush (v := 24) hG dX12_sheet_92 (by decide) ?_
      refine pm_icmp_ge (tgt := 116) hG dX12_sheet_94 rfl (fun q => absurd q (by decide)) (fun _ => ?_)
      refine pm_aloadn hG dX12_sheet_97 rfl ?_
      refine pm_getf hG dX12_sheet_98 (flX12_61 _ rfl) rfl rfl ?_
      refine pm_bipush (v := 24) hG dX12_sheet_101 (by decide) ?_
      refine pm_iloadn hG dX12_sheet_103 rfl ?_
      refine pm_imul hG dX12_sheet_104 ?_
      refine pm_iloadi hG dX12_sheet_105 rfl ?_
      refine pm_iadd hG dX12_sheet_107 ?_
      refine pm_iconst (v := 0) hG dX12_sheet_108 (by decide) ?_
      refine pm_iast hG dX12_sheet_109 rfl (vp_in_iff.mpr (by revert c2; simp only [Int32.lt_iff_toInt_lt, Int32.le_iff_toInt_le, ← Int32.toInt_inj, Int32.toInt_zero, Int32.toInt_add, Int32.toInt_mul, Int32.toInt_sub, Int.bmod_def, L_14, L_24, L_3]; omega)) ?_
      refine pm_iincX (v := 15) (loc' := [some (.ref (B + 54)), some (.int za), some (.int zb), some (.int zc), some (.int 15)]) hG dX12_sheet_110 rfl (by rfl) (by decide) (pm_c1b rfl) rfl ?_
      refine pm_goto (tgt := 90) hG dX12_sheet_113 rfl ?_
      refine pm_iloadi hG dX12_sheet_90 rfl ?_
      refine pm_bipush (v := 24) hG dX12_sheet_92 (by decide) ?_
      refine pm_icmp_ge (tgt := 116) hG dX12_sheet_94 rfl (fun q => absurd q (by decide)) (fun _ => ?_)
      refine pm_aloadn hG dX12_sheet_97 rfl ?_
      refine pm_getf hG dX12_sheet_98 (flX12_61 _ rfl) rfl rfl ?_
      refine pm_bipush (v := 24) hG dX12_sheet_101 (by decide) ?_
      refine pm_iloadn hG dX12_sheet_103 rfl ?_
      refine pm_imul hG dX12_sheet_104 ?_
      refine pm_iloadi hG dX12_sheet_105 rfl ?_
      refine pm_iadd hG dX12_sheet_107 ?_
      refine pm_iconst (v := 0) hG dX12_sheet_108 (by decide) ?_
      refine pm_iast hG dX12_sheet_109 rfl (vp_in_iff.mpr (by revert c2; simp only [Int32.lt_iff_toInt_lt, Int32.le_iff_toInt_le, ← Int32.toInt_inj, Int32.toInt_zero, Int32.toInt_add, Int32.toInt_mul, Int32.toInt_sub, Int.bmod_def, L_15, L_24, L_3]; omega)) ?_
      refine pm_iincX (v := 16) (loc' := [some (.ref (B + 54)), some (.int za), some (.int zb), some (.int zc), some (.int 16)]) hG dX12_sheet_110 rfl (by rfl) (by decide) (pm_c1b rfl) rfl ?_
      refine pm_goto (tgt := 90) hG dX12_sheet_113 rfl ?_
      refine pm_iloadi hG dX12_sheet_90 rfl ?_
      refine pm_bipush (v := 24) hG dX12_sheet_92 (by decide) ?_
      refine pm_icmp_ge (tgt := 116) hG dX12_sheet_94 rfl (fun q => absurd q (by decide)) (fun _ => ?_)
      refine pm_aloadn hG dX12_sheet_97 rfl ?_
      refine pm_getf hG dX12_sheet_98 (flX12_61 _ rfl) rfl rfl ?_
      refine pm_bipush (v := 24) hG dX12_sheet_101 (by decide) ?_
      refine pm_iloadn hG dX12_sheet_103 rfl ?_
      refine pm_imul hG dX12_sheet_104 ?_
      refine pm_iloadi hG dX12_sheet_105 rfl ?_
      refine pm_iadd hG dX12_sheet_107 ?_
      refine pm_iconst (v := 0) hG dX12_sheet_108 (by decide) ?_
      refine pm_iast hG dX12_sheet_109 rfl (vp_in_iff.mpr (by revert c2; simp only [Int32.lt_iff_toInt_lt, Int32.le_iff_toInt_le, ← Int32.toInt_inj, Int32.toInt_zero, Int32.toInt_add, Int32.toInt_mul, Int32.toInt_sub, Int.bmod_def, L_16, L_24, L_3]; omega)) ?_
      refine pm_iincX (v := 17) (loc' := [some (.ref (B + 54)), some (.int za), some (.int zb), some (.int zc), some (.int 17)]) hG dX12_sheet_110 rfl (by rfl) (by decide) (pm_c1b rfl) rfl ?_
      refine pm_goto (tgt := 90) hG dX12_sheet_113 rfl ?_
      refine pm_iloadi hG dX12_sheet_90 rfl ?_
      refine pm_bipush (v := 24) hG dX12_sheet_92 (by decide) ?_
      refine pm_icmp_ge (tgt := 116) hG dX12_sheet_94 rfl (fun q => absurd q (by decide)) (fun _ => ?_)
      refine pm_aloadn hG dX12_sheet_97 rfl ?_
      refine pm_getf hG dX12_sheet_98 (flX12_61 _ rfl) rfl rfl ?_
      refine pm_bipush (v := 24) hG dX12_sheet_101 (by decide) ?_
      refine pm_iloadn hG dX12_sheet_103 rfl ?_
      refine pm_imul hG dX12_sheet_104 ?_
      refine pm_iloadi hG dX12_sheet_105 rfl ?_
      refine pm_iadd hG dX12_sheet_107 ?_
      refine pm_iconst (v := 0) hG dX12_sheet_108 (by decide) ?_
      refine pm_iast hG dX12_sheet_109 rfl (vp_in_iff.mpr (by revert c2; simp only [Int32.lt_iff_toInt_lt, Int32.le_iff_toInt_le, ← Int32.toInt_inj, Int32.toInt_zero, Int32.toInt_add, Int32.toInt_mul, Int32.toInt_sub, Int.bmod_def, L_17, L_24, L_3]; omega)) ?_
      refine pm_iincX (v := 18) (loc' := [some (.ref (B + 54)), some (.int za), some (.int zb), some (.int zc), some (.int 18)]) hG dX12_sheet_110 rfl (by rfl) (by decide) (pm_c1b rfl) rfl ?_
      refine pm_goto (tgt := 90) hG dX12_sheet_113 rfl ?_
      refine pm_iloadi hG dX12_sheet_90 rfl ?_
      refine pm_bipush (v := 24) hG dX12_sheet_92 (by decide) ?_
      refine pm_icmp_ge (tgt := 116) hG dX12_sheet_94 rfl (fun q => absurd q (by decide)) (fun _ => ?_)
      refine pm_aloadn hG dX12_sheet_97 rfl ?_
      refine pm_getf hG dX12_sheet_98 (flX12_61 _ rfl) rfl rfl ?_
      refine pm_bipush (v := 24) hG dX12_sheet_101 (by decide) ?_
      refine pm_iloadn hG dX12_sheet_103 rfl ?_
      refine pm_imul hG dX12_sheet_104 ?_
      refine pm_iloadi hG dX12_sheet_105 rfl ?_
      refine pm_iadd hG dX12_sheet_107 ?_
      refine pm_iconst (v := 0) hG dX12_sheet_108 (by decide) ?_
      refine pm_iast hG dX12_sheet_109 rfl (vp_in_iff.mpr (by revert c2; simp only [Int32.lt_iff_toInt_lt, Int32.le_iff_toInt_le, ← Int32.toInt_inj, Int32.toInt_zero, Int32.toInt_add, Int32.toInt_mul, Int32.toInt_sub, Int.bmod_def, L_18, L_24, L_3]; omega)) ?_
      refine pm_iincX (v := 19) (loc' := [some (.ref (B + 54)), some (.int za), some (.int zb), some (.int zc), some (.int 19)]) hG dX12_sheet_110 rfl (by rfl) (by decide) (pm_c1b rfl) rfl ?_
      refine pm_goto (tgt := 90) hG dX12_sheet_113 rfl ?_
      refine pm_iloadi hG dX12_sheet_90 rfl ?_
      refine pm_bipush (v := 24) hG dX12_sheet_92 (by decide) ?_
      refine pm_icmp_ge (tgt := 116) hG dX12_sheet_94 rfl (fun q => absurd q (by decide)) (fun _ => ?_)
      refine pm_aloadn hG dX12_sheet_97 rfl ?_
      refine pm_getf hG dX12_sheet_98 (flX12_61 _ rfl) rfl rfl ?_
      refine pm_bipush (v := 24) hG dX12_sheet_101 (by decide) ?_
      refine pm_iloadn hG dX12_sheet_103 rfl ?_
      refine pm_imul hG dX12_sheet_104 ?_
      refine pm_iloadi hG dX12_sheet_105 rfl ?_
      refine pm_iadd hG dX12_sheet_107 ?_
      refine pm_iconst (v := 0) hG dX12_sheet_108 (by decide) ?_
      refine pm_iast hG dX12_sheet_109 rfl (vp_in_iff.mpr (by revert c2; simp only [Int32.lt_iff_toInt_lt, Int32.le_iff_toInt_le, ← Int32.toInt_inj, Int32.toInt_zero, Int32.toInt_add, Int32.toInt_mul, Int32.toInt_sub, Int.bmod_def, L_19, L_24, L_3]; omega)) ?_
      refine pm_iincX (v := 20) (loc' := [some (.ref (B + 54)), some (.int za), some (.int zb), some (.int zc), some (.int 20)]) hG dX12_sheet_110 rfl (by rfl) (by decide) (pm_c1b rfl) rfl ?_
      refine pm_goto (tgt := 90) hG dX12_sheet_113 rfl ?_
      refine pm_iloadi hG dX12_sheet_90 rfl ?_
      refine pm_bipush (v := 24) hG dX12_sheet_92 (by decide) ?_
      refine pm_icmp_ge (tgt := 116) hG dX12_sheet_94 rfl (fun q => absurd q (by decide)) (fun _ => ?_)
      refine pm_aloadn hG dX12_sheet_97 rfl ?_
      refine pm_getf hG dX12_sheet_98 (flX12_61 _ rfl) rfl rfl ?_
      refine pm_bipush (v := 24) hG dX12_sheet_101 (by decide) ?_
      refine pm_iloadn hG dX12_sheet_103 rfl ?_
      refine pm_imul hG dX12_sheet_104 ?_
      refine pm_iloadi hG dX12_sheet_105 rfl ?_
      refine pm_iadd hG dX12_sheet_107 ?_
      refine pm_iconst (v := 0) hG dX12_sheet_108 (by decide) ?_
      refine pm_iast hG dX12_sheet_109 rfl (vp_in_iff.mpr (by revert c2; simp only [Int32.lt_iff_toInt_lt, Int32.le_iff_toInt_le, ← Int32.toInt_inj, Int32.toInt_zero, Int32.toInt_add, Int32.toInt_mul, Int32.toInt_sub, Int.bmod_def, L_20, L_24, L_3]; omega)) ?_
      refine pm_iincX (v := 21) (loc' := [some (.ref (B + 54)), some (.int za), some (.int zb), some (.int zc), some (.int 21)]) hG dX12_sheet_110 rfl (by rfl) (by decide) (pm_c1b rfl) rfl ?_
      refine pm_goto (tgt := 90) hG dX12_sheet_113 rfl ?_
      refine pm_iloadi hG dX12_sheet_90 rfl ?_
      refine pm_bipush (v := 24) hG dX12_sheet_92 (by decide) ?_
      refine pm_icmp_ge (tgt := 116) hG dX12_sheet_94 rfl (fun q => absurd q (by decide)) (fun _ => ?_)
      refine pm_aloadn hG dX12_sheet_97 rfl ?_
      refine pm_getf hG dX12_sheet_98 (flX12_61 _ rfl) rfl rfl ?_
      refine pm_bipush (v := 24) hG dX12_sheet_101 (by decide) ?_
      refine pm_iloadn hG dX12_sheet_103 rfl ?_
      refine pm_imul hG dX12_sheet_104 ?_
      refine pm_iloadi hG dX12_sheet_105 rfl ?_
      refine pm_iadd hG dX12_sheet_107 ?_
      refine pm_iconst (v := 0) hG dX12_sheet_108 (by decide) ?_
      refine pm_iast hG dX12_sheet_109 rfl (vp_in_iff.mpr (by revert c2; simp only [Int32.lt_iff_toInt_lt, Int32.le_iff_toInt_le, ← Int32.toInt_inj, Int32.toInt_zero, Int32.toInt_add, Int32.toInt_mul, Int32.toInt_sub, Int.bmod_def, L_21, L_24, L_3]; omega)) ?_
      refine pm_iincX (v := 22) (loc' := [some (.ref (B + 54)), some (.int za), some (.int zb), some (.int zc), some (.int 22)]) hG dX12_sheet_110 rfl (by rfl) (by decide) (pm_c1b rfl) rfl ?_
      refine pm_goto (tgt := 90) hG dX12_sheet_113 rfl ?_
      refine pm_iloadi hG dX12_sheet_90 rfl ?_
      refine pm_bipush (v := 24) hG dX12_sheet_92 (by decide) ?_
      refine pm_icmp_ge (tgt := 116) hG dX12_sheet_94 rfl (fun q => absurd q (by decide)) (fun _ => ?_)
      refine pm_aloadn hG dX12_sheet_97 rfl ?_
      refine pm_getf hG dX12_sheet_98 (flX12_61 _ rfl) rfl rfl ?_
      refine pm_bipush (v := 24) hG dX12_sheet_101 (by decide) ?_
      refine pm_iloadn hG dX12_sheet_103 rfl ?_
      refine pm_imul hG dX12_sheet_104 ?_
      refine pm_iloadi hG dX12_sheet_105 rfl ?_
      refine pm_iadd hG dX12_sheet_107 ?_
      refine pm_iconst (v := 0) hG dX12_sheet_108 (by decide) ?_
      refine pm_iast hG dX12_sheet_109 rfl (vp_in_iff.mpr (by revert c2; simp only [Int32.lt_iff_toInt_lt, Int32.le_iff_toInt_le, ← Int32.toInt_inj, Int32.toInt_zero, Int32.toInt_add, Int32.toInt_mul, Int32.toInt_sub, Int.bmod_def, L_22, L_24, L_3]; omega)) ?_
      refine pm_iincX (v := 23) (loc' := [some (.ref (B + 54)), some (.int za), some (.int zb), some (.int zc), some (.int 23)]) hG dX12_sheet_110 rfl (by rfl) (by decide) (pm_c1b rfl) rfl ?_
      refine pm_goto (tgt := 90) hG dX12_sheet_113 rfl ?_
      refine pm_iloadi hG dX12_sheet_90 rfl ?_
      refine pm_bipush (v := 24) hG dX12_sheet_92 (by decide) ?_
      refine pm_icmp_ge (tgt := 116) hG dX12_sheet_94 rfl (fun q => absurd q (by decide)) (fun _ => ?_)
      refine pm_aloadn hG dX12_sheet_97 rfl ?_
      refine pm_getf hG dX12_sheet_98 (flX12_61 _ rfl) rfl rfl ?_
      refine pm_bipush (v := 24) hG dX12_sheet_101 (by decide) ?_
      refine pm_iloadn hG dX12_sheet_103 rfl ?_
      refine pm_imul hG dX12_sheet_104 ?_
      refine pm_iloadi hG dX12_sheet_105 rfl ?_
      refine pm_iadd hG dX12_sheet_107 ?_
      refine pm_iconst (v := 0) hG dX12_sheet_108 (by decide) ?_
      refine pm_iast hG dX12_sheet_109 rfl (vp_in_iff.mpr (by revert c2; simp only [Int32.lt_iff_toInt_lt, Int32.le_iff_toInt_le, ← Int32.toInt_inj, Int32.toInt_zero, Int32.toInt_add, Int32.toInt_mul, Int32.toInt_sub, Int.bmod_def, L_23, L_24, L_3]; omega)) ?_
      refine pm_iincX (v := 24) (loc' := [some (.ref (B + 54)), some (.int za), some (.int zb), some (.int zc), some (.int 24)]) hG dX12_sheet_110 rfl (by rfl) (by decide) (pm_c1b rfl) rfl ?_
      refine pm_goto (tgt := 90) hG dX12_sheet_113 rfl ?_
      refine pm_iloadi hG dX12_sheet_90 rfl ?_
      refine pm_bipush (v := 24) hG dX12_sheet_92 (by decide) ?_
      refine pm_icmp_ge (tgt := 116) hG dX12_sheet_94 rfl (fun _ => ?_) (fun q => absurd q (by decide))
      refine pm_iconst (v := 1) hG dX12_sheet_116 (by decide) ?_
      exact pm_iret hG hF dX12_sheet_117 rfl (by decide) (by decide) ⟨_, rfl, (by clear hF hR hG; first | rfl | (unfold v_sheet; (repeat' split) <;> first | rfl | (exfalso; simp only [Int32.lt_iff_toInt_lt, Int32.le_iff_toInt_le, ← Int32.toInt_inj, Int32.toInt_zero, L_1, L_16, L_24, L_3, L_32, L_8, L_m1000001, L_m1000003] at *; omega) | (apply Int32.toInt_inj.mp; simp only [Int32.lt_iff_toInt_lt, Int32.le_iff_toInt_le, ← Int32.toInt_inj, Int32.toInt_zero, L_1, L_16, L_24, L_3, L_32, L_8, L_m1000001, L_m1000003] at *; omega)))⟩
    · refine pm_iloadn hG dX12_sheet_11 rfl ?_
      refine pm_bipush (v := 8) hG dX12_sheet_12 (by decide) ?_
      refine pm_icmp_eq (tgt := 35) hG dX12_sheet_14 rfl (fun c4 => ?_) (fun c4 => ?_)
      · refine pm_iloadn hG dX12_sheet_35 rfl ?_
        refine pm_if_eq (tgt := 49) hG dX12_sheet_36 rfl (fun q => False.elim (by revert c3 c4 q; simp only [Int32.lt_iff_toInt_lt, Int32.le_iff_toInt_le, ← Int32.toInt_inj, Int32.toInt_zero, L_8]; omega)) (fun _ => ?_)
        refine pm_iloadn hG dX12_sheet_39 rfl ?_
        refine pm_if_ge (tgt := 49) hG dX12_sheet_40 rfl (fun c5 => ?_) (fun c5 => ?_)
        · refine pm_iloadn hG dX12_sheet_49 rfl ?_
          refine pm_if_eq (tgt := 65) hG dX12_sheet_50 rfl (fun q => False.elim (by revert c3 c4 q; simp only [Int32.lt_iff_toInt_lt, Int32.le_iff_toInt_le, ← Int32.toInt_inj, Int32.toInt_zero, L_8]; omega)) (fun _ => ?_)
          refine pm_iloadn hG dX12_sheet_53 rfl ?_
          refine pm_bipush (v := 24) hG dX12_sheet_54 (by decide) ?_
          refine pm_icmp_le (tgt := 65) hG dX12_sheet_56 rfl (fun c6 => ?_) (fun c6 => ?_)
          · refine pm_aloadn hG dX12_sheet_65 rfl ?_
            refine pm_getf hG dX12_sheet_66 (flX12_55 _ rfl) rfl rfl ?_
            refine pm_iloadn hG dX12_sheet_69 rfl ?_
            refine pm_iloadn hG dX12_sheet_70 rfl ?_
            refine pm_iast hG dX12_sheet_71 rfl (vp_in_iff.mpr (by revert c2; simp only [Int32.lt_iff_toInt_lt, Int32.le_iff_toInt_le, ← Int32.toInt_inj, Int32.toInt_zero, Int32.toInt_add, Int32.toInt_mul, Int32.toInt_sub, Int.bmod_def, L_3]; omega)) ?_
            refine pm_aloadn hG dX12_sheet_72 rfl ?_
            refine pm_getf hG dX12_sheet_73 (flX12_58 _ rfl) rfl rfl ?_
            refine pm_iloadn hG dX12_sheet_76 rfl ?_
            refine pm_iloadn hG dX12_sheet_77 rfl ?_
            refine pm_if_ne (tgt := 85) hG dX12_sheet_78 rfl (fun _ => ?_) (fun q => False.elim (by revert c3 c4 q; simp only [Int32.lt_iff_toInt_lt, Int32.le_iff_toInt_le, ← Int32.toInt_inj, Int32.toInt_zero, L_8]; omega))
            refine pm_iloadn hG dX12_sheet_85 rfl ?_
            refine pm_iast hG dX12_sheet_86 rfl (vp_in_iff.mpr (by revert c2; simp only [Int32.lt_iff_toInt_lt, Int32.le_iff_toInt_le, ← Int32.toInt_inj, Int32.toInt_zero, Int32.toInt_add, Int32.toInt_mul, Int32.toInt_sub, Int.bmod_def, L_3]; omega)) ?_
            refine pm_iconst (v := 0) hG dX12_sheet_87 (by decide) ?_
            refine pm_istoreXi (loc' := [some (.ref (B + 54)), some (.int za), some (.int zb), some (.int zc), some (.int 0)]) hG dX12_sheet_88 (by decide) (pm_c1b rfl) rfl ?_
            refine pm_iloadi hG dX12_sheet_90 rfl ?_
            refine pm_bipush (v := 24) hG dX12_sheet_92 (by decide) ?_
            refine pm_icmp_ge (tgt := 116) hG dX12_sheet_94 rfl (fun q => absurd q (by decide)) (fun _ => ?_)
            refine pm_aloadn hG dX12_sheet_97 rfl ?_
            refine pm_getf hG dX12_sheet_98 (flX12_61 _ rfl) rfl rfl ?_
            refine pm_bipush (v := 24) hG dX12_sheet_101 (by decide) ?_
            refine pm_iloadn hG dX12_sheet_103 rfl ?_
            refine pm_imul hG dX12_sheet_104 ?_
            refine pm_iloadi hG dX12_sheet_105 rfl ?_
            refine pm_iadd hG dX12_sheet_107 ?_
            refine pm_top (v := 24 * za) (Int32.add_zero _) ?_
            refine pm_iconst (v := 0) hG dX12_sheet_108 (by decide) ?_
            refine pm_iast hG dX12_sheet_109 rfl (vp_in_iff.mpr (by revert c2; simp only [Int32.lt_iff_toInt_lt, Int32.le_iff_toInt_le, ← Int32.toInt_inj, Int32.toInt_zero, Int32.toInt_add, Int32.toInt_mul, Int32.toInt_sub, Int.bmod_def, L_24, L_3]; omega)) ?_
            refine pm_iincX (v := 1) (loc' := [some (.ref (B + 54)), some (.int za), some (.int zb), some (.int zc), some (.int 1)]) hG dX12_sheet_110 rfl (by rfl) (by decide) (pm_c1b rfl) rfl ?_
            refine pm_goto (tgt := 90) hG dX12_sheet_113 rfl ?_
            refine pm_iloadi hG dX12_sheet_90 rfl ?_
            refine pm_bipush (v := 24) hG dX12_sheet_92 (by decide) ?_
            refine pm_icmp_ge (tgt := 116) hG dX12_sheet_94 rfl (fun q => absurd q (by decide)) (fun _ => ?_)
            refine pm_aloadn hG dX12_sheet_97 rfl ?_
            refine pm_getf hG dX12_sheet_98 (flX12_61 _ rfl) rfl rfl ?_
            refine pm_bipush (v := 24) hG dX12_sheet_101 (by decide) ?_
            refine pm_iloadn hG dX12_sheet_103 rfl ?_
            refine pm_imul hG dX12_sheet_104 ?_
            refine pm_iloadi hG dX12_sheet_105 rfl ?_
            refine pm_iadd hG dX12_sheet_107 ?_
            refine pm_iconst (v := 0) hG dX12_sheet_108 (by decide) ?_
            refine pm_iast hG dX12_sheet_109 rfl (vp_in_iff.mpr (by revert c2; simp only [Int32.lt_iff_toInt_lt, Int32.le_iff_toInt_le, ← Int32.toInt_inj, Int32.toInt_zero, Int32.toInt_add, Int32.toInt_mul, Int32.toInt_sub, Int.bmod_def, L_1, L_24, L_3]; omega)) ?_
            refine pm_iincX (v := 2) (loc' := [some (.ref (B + 54)), some (.int za), some (.int zb), some (.int zc), some (.int 2)]) hG dX12_sheet_110 rfl (by rfl) (by decide) (pm_c1b rfl) rfl ?_
            refine pm_goto (tgt := 90) hG dX12_sheet_113 rfl ?_
            refine pm_iloadi hG dX12_sheet_90 rfl ?_
            refine pm_bipush (v := 24) hG dX12_sheet_92 (by decide) ?_
            refine pm_icmp_ge (tgt := 116) hG dX12_sheet_94 rfl (fun q => absurd q (by decide)) (fun _ => ?_)
            refine pm_aloadn hG dX12_sheet_97 rfl ?_
            refine pm_getf hG dX12_sheet_98 (flX12_61 _ rfl) rfl rfl ?_
            refine pm_bipush (v := 24) hG dX12_sheet_101 (by decide) ?_
            refine pm_iloadn hG dX12_sheet_103 rfl ?_
            refine pm_imul hG dX12_sheet_104 ?_
            refine pm_iloadi hG dX12_sheet_105 rfl ?_
            refine pm_iadd hG dX12_sheet_107 ?_
            refine pm_iconst (v := 0) hG dX12_sheet_108 (by decide) ?_
            refine pm_iast hG dX12_sheet_109 rfl (vp_in_iff.mpr (by revert c2; simp only [Int32.lt_iff_toInt_lt, Int32.le_iff_toInt_le, ← Int32.toInt_inj, Int32.toInt_zero, Int32.toInt_add, Int32.toInt_mul, Int32.toInt_sub, Int.bmod_def, L_2, L_24, L_3]; omega)) ?_
            refine pm_iincX (v := 3) (loc' := [some (.ref (B + 54)), some (.int za), some (.int zb), some (.int zc), some (.int 3)]) hG dX12_sheet_110 rfl (by rfl) (by decide) (pm_c1b rfl) rfl ?_
            refine pm_goto (tgt := 90) hG dX12_sheet_113 rfl ?_
            refine pm_iloadi hG dX12_sheet_90 rfl ?_
            refine pm_bipush (v := 24) hG dX12_sheet_92 (by decide) ?_
            refine pm_icmp_ge (tgt := 116) hG dX12_sheet_94 rfl (fun q => absurd q (by decide)) (fun _ => ?_)
            refine pm_aloadn hG dX12_sheet_97 rfl ?_
            refine pm_getf hG dX12_sheet_98 (flX12_61 _ rfl) rfl rfl ?_
            refine pm_bipush (v := 24) hG dX12_sheet_101 (by decide) ?_
            refine pm_iloadn hG dX12_sheet_103 rfl ?_
            refine pm_imul hG dX12_sheet_104 ?_
            refine pm_iloadi hG dX12_sheet_105 rfl ?_
            refine pm_iadd hG dX12_sheet_107 ?_
            refine pm_iconst (v := 0) hG dX12_sheet_108 (by decide) ?_
            refine pm_iast hG dX12_sheet_109 rfl (vp_in_iff.mpr (by revert c2; simp only [Int32.lt_iff_toInt_lt, Int32.le_iff_toInt_le, ← Int32.toInt_inj, Int32.toInt_zero, Int32.toInt_add, Int32.toInt_mul, Int32.toInt_sub, Int.bmod_def, L_24, L_3]; omega)) ?_
            refine pm_iincX (v := 4) (loc' := [some (.ref (B + 54)), some (.int za), some (.int zb), some (.int zc), some (.int 4)]) hG dX12_sheet_110 rfl (by rfl) (by decide) (pm_c1b rfl) rfl ?_
            refine pm_goto (tgt := 90) hG dX12_sheet_113 rfl ?_
            refine pm_iloadi hG dX12_sheet_90 rfl ?_
            refine pm_bipush (v := 24) hG dX12_sheet_92 (by decide) ?_
            refine pm_icmp_ge (tgt := 116) hG dX12_sheet_94 rfl (fun q => absurd q (by decide)) (fun _ => ?_)
            refine pm_aloadn hG dX12_sheet_97 rfl ?_
            refine pm_getf hG dX12_sheet_98 (flX12_61 _ rfl) rfl rfl ?_
            refine pm_bipush (v := 24) hG dX12_sheet_101 (by decide) ?_
            refine pm_iloadn hG dX12_sheet_103 rfl ?_
            refine pm_imul hG dX12_sheet_104 ?_
            refine pm_iloadi hG dX12_sheet_105 rfl ?_
            refine pm_iadd hG dX12_sheet_107 ?_
            refine pm_iconst (v := 0) hG dX12_sheet_108 (by decide) ?_
            refine pm_iast hG dX12_sheet_109 rfl (vp_in_iff.mpr (by revert c2; simp only [Int32.lt_iff_toInt_lt, Int32.le_iff_toInt_le, ← Int32.toInt_inj, Int32.toInt_zero, Int32.toInt_add, Int32.toInt_mul, Int32.toInt_sub, Int.bmod_def, L_24, L_3, L_4]; omega)) ?_
            refine pm_iincX (v := 5) (loc' := [some (.ref (B + 54)), some (.int za), some (.int zb), some (.int zc), some (.int 5)]) hG dX12_sheet_110 rfl (by rfl) (by decide) (pm_c1b rfl) rfl ?_
            refine pm_goto (tgt := 90) hG dX12_sheet_113 rfl ?_
            refine pm_iloadi hG dX12_sheet_90 rfl ?_
            refine pm_bipush (v := 24) hG dX12_sheet_92 (by decide) ?_
            refine pm_icmp_ge (tgt := 116) hG dX12_sheet_94 rfl (fun q => absurd q (by decide)) (fun _ => ?_)
            refine pm_aloadn hG dX12_sheet_97 rfl ?_
            refine pm_getf hG dX12_sheet_98 (flX12_61 _ rfl) rfl rfl ?_
            refine pm_bipush (v := 24) hG dX12_sheet_101 (by decide) ?_
            refine pm_iloadn hG dX12_sheet_103 rfl ?_
            refine pm_imul hG dX12_sheet_104 ?_
            refine pm_iloadi hG dX12_sheet_105 rfl ?_
            refine pm_iadd hG dX12_sheet_107 ?_
            refine pm_iconst (v := 0) hG dX12_sheet_108 (by decide) ?_
            refine pm_iast hG dX12_sheet_109 rfl (vp_in_iff.mpr (by revert c2; simp only [Int32.lt_iff_toInt_lt, Int32.le_iff_toInt_le, ← Int32.toInt_inj, Int32.toInt_zero, Int32.toInt_add, Int32.toInt_mul, Int32.toInt_sub, Int.bmod_def, L_24, L_3, L_5]; omega)) ?_
            refine pm_iincX (v := 6) (loc' := [some (.ref (B + 54)), some (.int za), some (.int zb), some (.int zc), some (.int 6)]) hG dX12_sheet_110 rfl (by rfl) (by decide) (pm_c1b rfl) rfl ?_
            refine pm_goto (tgt := 90) hG dX12_sheet_113 rfl ?_
            refine pm_iloadi hG dX12_sheet_90 rfl ?_
            refine pm_bipush (v := 24) hG dX12_sheet_92 (by decide) ?_
            refine pm_icmp_ge (tgt := 116) hG dX12_sheet_94 rfl (fun q => absurd q (by decide)) (fun _ => ?_)
            refine pm_aloadn hG dX12_sheet_97 rfl ?_
            refine pm_getf hG dX12_sheet_98 (flX12_61 _ rfl) rfl rfl ?_
            refine pm_bipush (v := 24) hG dX12_sheet_101 (by decide) ?_
            refine pm_iloadn hG dX12_sheet_103 rfl ?_
            refine pm_imul hG dX12_sheet_104 ?_
            refine pm_iloadi hG dX12_sheet_105 rfl ?_
            refine pm_iadd hG dX12_sheet_107 ?_
            refine pm_iconst (v := 0) hG dX12_sheet_108 (by decide) ?_
            refine pm_iast hG dX12_sheet_109 rfl (vp_in_iff.mpr (by revert c2; simp only [Int32.lt_iff_toInt_lt, Int32.le_iff_toInt_le, ← Int32.toInt_inj, Int32.toInt_zero, Int32.toInt_add, Int32.toInt_mul, Int32.toInt_sub, Int.bmod_def, L_24, L_3, L_6]; omega)) ?_
            refine pm_iincX (v := 7) (loc' := [some (.ref (B + 54)), some (.int za), some (.int zb), some (.int zc), some (.int 7)]) hG dX12_sheet_110 rfl (by rfl) (by decide) (pm_c1b rfl) rfl ?_
            refine pm_goto (tgt := 90) hG dX12_sheet_113 rfl ?_
            refine pm_iloadi hG dX12_sheet_90 rfl ?_
            refine pm_bipush (v := 24) hG dX12_sheet_92 (by decide) ?_
            refine pm_icmp_ge (tgt := 116) hG dX12_sheet_94 rfl (fun q => absurd q (by decide)) (fun _ => ?_)
            refine pm_aloadn hG dX12_sheet_97 rfl ?_
            refine pm_getf hG dX12_sheet_98 (flX12_61 _ rfl) rfl rfl ?_
            refine pm_bipush (v := 24) hG dX12_sheet_101 (by decide) ?_
            refine pm_iloadn hG dX12_sheet_103 rfl ?_
            refine pm_imul hG dX12_sheet_104 ?_
            refine pm_iloadi hG dX12_sheet_105 rfl ?_
            refine pm_iadd hG dX12_sheet_107 ?_
            refine pm_iconst (v := 0) hG dX12_sheet_108 (by decide) ?_
            refine pm_iast hG dX12_sheet_109 rfl (vp_in_iff.mpr (by revert c2; simp only [Int32.lt_iff_toInt_lt, Int32.le_iff_toInt_le, ← Int32.toInt_inj, Int32.toInt_zero, Int32.toInt_add, Int32.toInt_mul, Int32.toInt_sub, Int.bmod_def, L_24, L_3, L_7]; omega)) ?_
            refine pm_iincX (v := 8) (loc' := [some (.ref (B + 54)), some (.int za), some (.int zb), some (.int zc), some (.int 8)]) hG dX12_sheet_110 rfl (by rfl) (by decide) (pm_c1b rfl) rfl ?_
            refine pm_goto (tgt := 90) hG dX12_sheet_113 rfl ?_
            refine pm_iloadi hG dX12_sheet_90 rfl ?_
            refine pm_bipush (v := 24) hG dX12_sheet_92 (by decide) ?_
            refine pm_icmp_ge (tgt := 116) hG dX12_sheet_94 rfl (fun q => absurd q (by decide)) (fun _ => ?_)
            refine pm_aloadn hG dX12_sheet_97 rfl ?_
            refine pm_getf hG dX12_sheet_98 (flX12_61 _ rfl) rfl rfl ?_
            refine pm_bipush (v := 24) hG dX12_sheet_101 (by decide) ?_
            refine pm_iloadn hG dX12_sheet_103 rfl ?_
            refine pm_imul hG dX12_sheet_104 ?_
            refine pm_iloadi hG dX12_sheet_105 rfl ?_
            refine pm_iadd hG dX12_sheet_107 ?_
            refine pm_iconst (v := 0) hG dX12_sheet_108 (by decide) ?_
            refine pm_iast hG dX12_sheet_109 rfl (vp_in_iff.mpr (by revert c2; simp only [Int32.lt_iff_toInt_lt, Int32.le_iff_toInt_le, ← Int32.toInt_inj, Int32.toInt_zero, Int32.toInt_add, Int32.toInt_mul, Int32.toInt_sub, Int.bmod_def, L_24, L_3, L_8]; omega)) ?_
            refine pm_iincX (v := 9) (loc' := [some (.ref (B + 54)), some (.int za), some (.int zb), some (.int zc), some (.int 9)]) hG dX12_sheet_110 rfl (by rfl) (by decide) (pm_c1b rfl) rfl ?_
            refine pm_goto (tgt := 90) hG dX12_sheet_113 rfl ?_
            refine pm_iloadi hG dX12_sheet_90 rfl ?_
            refine pm_bipush (v := 24) hG dX12_sheet_92 (by decide) ?_
            refine pm_icmp_ge (tgt := 116) hG dX12_sheet_94 rfl (fun q => absurd q (by decide)) (fun _ => ?_)
            refine pm_aloadn hG dX12_sheet_97 rfl ?_
            refine pm_getf hG dX12_sheet_98 (flX12_61 _ rfl) rfl rfl ?_
            refine pm_bipush (v := 24) hG dX12_sheet_101 (by decide) ?_
            refine pm_iloadn hG dX12_sheet_103 rfl ?_
            refine pm_imul hG dX12_sheet_104 ?_
            refine pm_iloadi hG dX12_sheet_105 rfl ?_
            refine pm_iadd hG dX12_sheet_107 ?_
            refine pm_iconst (v := 0) hG dX12_sheet_108 (by decide) ?_
            refine pm_iast hG dX12_sheet_109 rfl (vp_in_iff.mpr (by revert c2; simp only [Int32.lt_iff_toInt_lt, Int32.le_iff_toInt_le, ← Int32.toInt_inj, Int32.toInt_zero, Int32.toInt_add, Int32.toInt_mul, Int32.toInt_sub, Int.bmod_def, L_24, L_3, L_9]; omega)) ?_
            refine pm_iincX (v := 10) (loc' := [some (.ref (B + 54)), some (.int za), some (.int zb), some (.int zc), some (.int 10)]) hG dX12_sheet_110 rfl (by rfl) (by decide) (pm_c1b rfl) rfl ?_
            refine pm_goto (tgt := 90) hG dX12_sheet_113 rfl ?_
            refine pm_iloadi hG dX12_sheet_90 rfl ?_
            refine pm_bipush (v := 24) hG dX12_sheet_92 (by decide) ?_
            refine pm_icmp_ge (tgt := 116) hG dX12_sheet_94 rfl (fun q => absurd q (by decide)) (fun _ => ?_)
            refine pm_aloadn hG dX12_sheet_97 rfl ?_
            refine pm_getf hG dX12_sheet_98 (flX12_61 _ rfl) rfl rfl ?_
            refine pm_bipush (v := 24) hG dX12_sheet_101 (by decide) ?_
            refine pm_iloadn hG dX12_sheet_103 rfl ?_
            refine pm_imul hG dX12_sheet_104 ?_
            refine pm_iloadi hG dX12_sheet_105 rfl ?_
            refine pm_iadd hG dX12_sheet_107 ?_
            refine pm_iconst (v := 0) hG dX12_sheet_108 (by decide) ?_
            refine pm_iast hG dX12_sheet_109 rfl (vp_in_iff.mpr (by revert c2; simp only [Int32.lt_iff_toInt_lt, Int32.le_iff_toInt_le, ← Int32.toInt_inj, Int32.toInt_zero, Int32.toInt_add, Int32.toInt_mul, Int32.toInt_sub, Int.bmod_def, L_10, L_24, L_3]; omega)) ?_
            refine pm_iincX (v := 11) (loc' := [some (.ref (B + 54)), some (.int za), some (.int zb), some (.int zc), some (.int 11)]) hG dX12_sheet_110 rfl (by rfl) (by decide) (pm_c1b rfl) rfl ?_
            refine pm_goto (tgt := 90) hG dX12_sheet_113 rfl ?_
            refine pm_iloadi hG dX12_sheet_90 rfl ?_
            refine pm_bipush (v := 24) hG dX12_sheet_92 (by decide) ?_
            refine pm_icmp_ge (tgt := 116) hG dX12_sheet_94 rfl (fun q => absurd q (by decide)) (fun _ => ?_)
            refine pm_aloadn hG dX12_sheet_97 rfl ?_
            refine pm_getf hG dX12_sheet_98 (flX12_61 _ rfl) rfl rfl ?_
            refine pm_bipush (v := 24) hG dX12_sheet_101 (by decide) ?_
            refine pm_iloadn hG dX12_sheet_103 rfl ?_
            refine pm_imul hG dX12_sheet_104 ?_
            refine pm_iloadi hG dX12_sheet_105 rfl ?_
            refine pm_iadd hG dX12_sheet_107 ?_
            refine pm_iconst (v := 0) hG dX12_sheet_108 (by decide) ?_
            refine pm_iast hG dX12_sheet_109 rfl (vp_in_iff.mpr (by revert c2; simp only [Int32.lt_iff_toInt_lt, Int32.le_iff_toInt_le, ← Int32.toInt_inj, Int32.toInt_zero, Int32.toInt_add, Int32.toInt_mul, Int32.toInt_sub, Int.bmod_def, L_11, L_24, L_3]; omega)) ?_
            refine pm_iincX (v := 12) (loc' := [some (.ref (B + 54)), some (.int za), some (.int zb), some (.int zc), some (.int 12)]) hG dX12_sheet_110 rfl (by rfl) (by decide) (pm_c1b rfl) rfl ?_
            refine pm_goto (tgt := 90) hG dX12_sheet_113 rfl ?_
            refine pm_iloadi hG dX12_sheet_90 rfl ?_
            refine pm_bipush (v := 24) hG dX12_sheet_92 (by decide) ?_
            refine pm_icmp_ge (tgt := 116) hG dX12_sheet_94 rfl (fun q => absurd q (by decide)) (fun _ => ?_)
            refine pm_aloadn hG dX12_sheet_97 rfl ?_
            refine pm_getf hG dX12_sheet_98 (flX12_61 _ rfl) rfl rfl ?_
            refine pm_bipush (v := 24) hG dX12_sheet_101 (by decide) ?_
            refine pm_iloadn hG dX12_sheet_103 rfl ?_
            refine pm_imul hG dX12_sheet_104 ?_
            refine pm_iloadi hG dX12_sheet_105 rfl ?_
            refine pm_iadd hG dX12_sheet_107 ?_
            refine pm_iconst (v := 0) hG dX12_sheet_108 (by decide) ?_
            refine pm_iast hG dX12_sheet_109 rfl (vp_in_iff.mpr (by revert c2; simp only [Int32.lt_iff_toInt_lt, Int32.le_iff_toInt_le, ← Int32.toInt_inj, Int32.toInt_zero, Int32.toInt_add, Int32.toInt_mul, Int32.toInt_sub, Int.bmod_def, L_12, L_24, L_3]; omega)) ?_
            refine pm_iincX (v := 13) (loc' := [some (.ref (B + 54)), some (.int za), some (.int zb), some (.int zc), some (.int 13)]) hG dX12_sheet_110 rfl (by rfl) (by decide) (pm_c1b rfl) rfl ?_
            refine pm_goto (tgt := 90) hG dX12_sheet_113 rfl ?_
            refine pm_iloadi hG dX12_sheet_90 rfl ?_
            refine pm_bipush (v := 24) hG dX12_sheet_92 (by decide) ?_
            refine pm_icmp_ge (tgt := 116) hG dX12_sheet_94 rfl (fun q => absurd q (by decide)) (fun _ => ?_)
            refine pm_aloadn hG dX12_sheet_97 rfl ?_
            refine pm_getf hG dX12_sheet_98 (flX12_61 _ rfl) rfl rfl ?_
            refine pm_bipush (v := 24) hG dX12_sheet_101 (by decide) ?_
            refine pm_iloadn hG dX12_sheet_103 rfl ?_
            refine pm_imul hG dX12_sheet_104 ?_
            refine pm_iloadi hG dX12_sheet_105 rfl ?_
            refine pm_iadd hG dX12_sheet_107 ?_
            refine pm_iconst (v := 0) hG dX12_sheet_108 (by decide) ?_
            refine pm_iast hG dX12_sheet_109 rfl (vp_in_iff.mpr (by revert c2; simp only [Int32.lt_iff_toInt_lt, Int32.le_iff_toInt_le, ← Int32.toInt_inj, Int32.toInt_zero, Int32.toInt_add, Int32.toInt_mul, Int32.toInt_sub, Int.bmod_def, L_13, L_24, L_3]; omega)) ?_
            refine pm_iincX (v := 14) (loc' := [some (.ref (B + 54)), some (.int za), some (.int zb), some (.int zc), some (.int 14)]) hG dX12_sheet_110 rfl (by rfl) (by decide) (pm_c1b rfl) rfl ?_
            refine pm_goto (tgt := 90) hG dX12_sheet_113 rfl ?_
            refine pm_iloadi hG dX12_sheet_90 rfl ?_
            refine pm_bipush (v := 24) hG dX12_sheet_92 (by decide) ?_
            refine pm_icmp_ge (tgt := 116) hG dX12_sheet_94 rfl (fun q => absurd q (by decide)) (fun _ => ?_)
            refine pm_aloadn hG dX12_sheet_97 rfl ?_
            refine pm_getf hG dX12_sheet_98 (flX12_61 _ rfl) rfl rfl ?_
            refine pm_bipush (v := 24) hG dX12_sheet_101 (by decide) ?_
            refine pm_iloadn hG dX12_sheet_103 rfl ?_
            refine pm_imul hG dX12_sheet_104 ?_
            refine pm_iloadi hG dX12_sheet_105 rfl ?_
            refine pm_iadd hG dX12_sheet_107 ?_
            refine pm_iconst (v := 0) hG dX12_sheet_108 (by decide) ?_
            refine pm_iast hG dX12_sheet_109 rfl (vp_in_iff.mpr (by revert c2; simp only [Int32.lt_iff_toInt_lt, Int32.le_iff_toInt_le, ← Int32.toInt_inj, Int32.toInt_zero, Int32.toInt_add, Int32.toInt_mul, Int32.toInt_sub, Int.bmod_def, L_14, L_24, L_3]; omega)) ?_
            refine pm_iincX (v := 15) (loc' := [some (.ref (B + 54)), some (.int za), some (.int zb), some (.int zc), some (.int 15)]) hG dX12_sheet_110 rfl (by rfl) (by decide) (pm_c1b rfl) rfl ?_
            refine pm_goto (tgt := 90) hG dX12_sheet_113 rfl ?_
            refine pm_iloadi hG dX12_sheet_90 rfl ?_
            refine pm_bipush (v := 24) hG dX12_sheet_92 (by decide) ?_
            refine pm_icmp_ge (tgt := 116) hG dX12_sheet_94 rfl (fun q => absurd q (by decide)) (fun _ => ?_)
            refine pm_aloadn hG dX12_sheet_97 rfl ?_
            refine pm_getf hG dX12_sheet_98 (flX12_61 _ rfl) rfl rfl ?_
            refine pm_bipush (v := 24) hG dX12_sheet_101 (by decide) ?_
            refine pm_iloadn hG dX12_sheet_103 rfl ?_
            refine pm_imul hG dX12_sheet_104 ?_
            refine pm_iloadi hG dX12_sheet_105 rfl ?_
            refine pm_iadd hG dX12_sheet_107 ?_
            refine pm_iconst (v := 0) hG dX12_sheet_108 (by decide) ?_
            refine pm_iast hG dX12_sheet_109 rfl (vp_in_iff.mpr (by revert c2; simp only [Int32.lt_iff_toInt_lt, Int32.le_iff_toInt_le, ← Int32.toInt_inj, Int32.toInt_zero, Int32.toInt_add, Int32.toInt_mul, Int32.toInt_sub, Int.bmod_def, L_15, L_24, L_3]; omega)) ?_
            refine pm_iincX (v := 16) (loc' := [some (.ref (B + 54)), some (.int za), some (.int zb), some (.int zc), some (.int 16)]) hG dX12_sheet_110 rfl (by rfl) (by decide) (pm_c1b rfl) rfl ?_
            refine pm_goto (tgt := 90) hG dX12_sheet_113 rfl ?_
            refine pm_iloadi hG dX12_sheet_90 rfl ?_
            refine pm_bipush (v := 24) hG dX12_sheet_92 (by decide) ?_
            refine pm_icmp_ge (tgt := 116) hG dX12_sheet_94 rfl (fun q => absurd q (by decide)) (fun _ => ?_)
            refine pm_aloadn hG dX12_sheet_97 rfl ?_
            refine pm_getf hG dX12_sheet_98 (flX12_61 _ rfl) rfl rfl ?_
            refine pm_bipush (v := 24) hG dX12_sheet_101 (by decide) ?_
            refine pm_iloadn hG dX12_sheet_103 rfl ?_
            refine pm_imul hG dX12_sheet_104 ?_
            refine pm_iloadi hG dX12_sheet_105 rfl ?_
            refine pm_iadd hG dX12_sheet_107 ?_
            refine pm_iconst (v := 0) hG dX12_sheet_108 (by decide) ?_
            refine pm_iast hG dX12_sheet_109 rfl (vp_in_iff.mpr (by revert c2; simp only [Int32.lt_iff_toInt_lt, Int32.le_iff_toInt_le, ← Int32.toInt_inj, Int32.toInt_zero, Int32.toInt_add, Int32.toInt_mul, Int32.toInt_sub, Int.bmod_def, L_16, L_24, L_3]; omega)) ?_
            refine pm_iincX (v := 17) (loc' := [some (.ref (B + 54)), some (.int za), some (.int zb), some (.int zc), some (.int 17)]) hG dX12_sheet_110 rfl (by rfl) (by decide) (pm_c1b rfl) rfl ?_
            refine pm_goto (tgt := 90) hG dX12_sheet_113 rfl ?_
            refine pm_iloadi hG dX12_sheet_90 rfl ?_
            refine pm_bipush (v := 24) hG dX12_sheet_92 (by decide) ?_
            refine pm_icmp_ge (tgt := 116) hG dX12_sheet_94 rfl (fun q => absurd q (by decide)) (fun _ => ?_)
            refine pm_aloadn hG dX12_sheet_97 rfl ?_
            refine pm_getf hG dX12_sheet_98 (flX12_61 _ rfl) rfl rfl ?_
            refine pm_bipush (v := 24) hG dX12_sheet_101 (by decide) ?_
            refine pm_iloadn hG dX12_sheet_103 rfl ?_
            refine pm_imul hG dX12_sheet_104 ?_
            refine pm_iloadi hG dX12_sheet_105 rfl ?_
            refine pm_iadd hG dX12_sheet_107 ?_
            refine pm_iconst (v := 0) hG dX12_sheet_108 (by decide) ?_
            refine pm_iast hG dX12_sheet_109 rfl (vp_in_iff.mpr (by revert c2; simp only [Int32.lt_iff_toInt_lt, Int32.le_iff_toInt_le, ← Int32.toInt_inj, Int32.toInt_zero, Int32.toInt_add, Int32.toInt_mul, Int32.toInt_sub, Int.bmod_def, L_17, L_24, L_3]; omega)) ?_
            refine pm_iincX (v := 18) (loc' := [some (.ref (B + 54)), some (.int za), some (.int zb), some (.int zc), some (.int 18)]) hG dX12_sheet_110 rfl (by rfl) (by decide) (pm_c1b rfl) rfl ?_
            refine pm_goto (tgt := 90) hG dX12_sheet_113 rfl ?_
            refine pm_iloadi hG dX12_sheet_90 rfl ?_
            refine pm_bipush (v := 24) hG dX12_sheet_92 (by decide) ?_
            refine pm_icmp_ge (tgt := 116) hG dX12_sheet_94 rfl (fun q => absurd q (by decide)) (fun _ => ?_)
            refine pm_aloadn hG dX12_sheet_97 rfl ?_
            refine pm_getf hG dX12_sheet_98 (flX12_61 _ rfl) rfl rfl ?_
            refine pm_bipush (v := 24) hG dX12_sheet_101 (by decide) ?_
            refine pm_iloadn hG dX12_sheet_103 rfl ?_
            refine pm_imul hG dX12_sheet_104 ?_
            refine pm_iloadi hG dX12_sheet_105 rfl ?_
            refine pm_iadd hG dX12_sheet_107 ?_
            refine pm_iconst (v := 0) hG dX12_sheet_108 (by decide) ?_
            refine pm_iast hG dX12_sheet_109 rfl (vp_in_iff.mpr (by revert c2; simp only [Int32.lt_iff_toInt_lt, Int32.le_iff_toInt_le, ← Int32.toInt_inj, Int32.toInt_zero, Int32.toInt_add, Int32.toInt_mul, Int32.toInt_sub, Int.bmod_def, L_18, L_24, L_3]; omega)) ?_
            refine pm_iincX (v := 19) (loc' := [some (.ref (B + 54)), some (.int za), some (.int zb), some (.int zc), some (.int 19)]) hG dX12_sheet_110 rfl (by rfl) (by decide) (pm_c1b rfl) rfl ?_
            refine pm_goto (tgt := 90) hG dX12_sheet_113 rfl ?_
            refine pm_iloadi hG dX12_sheet_90 rfl ?_
            refine pm_bipush (v := 24) hG dX12_sheet_92 (by decide) ?_
            refine pm_icmp_ge (tgt := 116) hG dX12_sheet_94 rfl (fun q => absurd q (by decide)) (fun _ => ?_)
            refine pm_aloadn hG dX12_sheet_97 rfl ?_
            refine pm_getf hG dX12_sheet_98 (flX12_61 _ rfl) rfl rfl ?_
            refine pm_bipush (v := 24) hG dX12_sheet_101 (by decide) ?_
            refine pm_iloadn hG dX12_sheet_103 rfl ?_
            refine pm_imul hG dX12_sheet_104 ?_
            refine pm_iloadi hG dX12_sheet_105 rfl ?_
            refine pm_iadd hG dX12_sheet_107 ?_
            refine pm_iconst (v := 0) hG dX12_sheet_108 (by decide) ?_
            refine pm_iast hG dX12_sheet_109 rfl (vp_in_iff.mpr (by revert c2; simp only [Int32.lt_iff_toInt_lt, Int32.le_iff_toInt_le, ← Int32.toInt_inj, Int32.toInt_zero, Int32.toInt_add, Int32.toInt_mul, Int32.toInt_sub, Int.bmod_def, L_19, L_24, L_3]; omega)) ?_
            refine pm_iincX (v := 20) (loc' := [some (.ref (B + 54)), some (.int za), some (.int zb), some (.int zc), some (.int 20)]) hG dX12_sheet_110 rfl (by rfl) (by decide) (pm_c1b rfl) rfl ?_
            refine pm_goto (tgt := 90) hG dX12_sheet_113 rfl ?_
            refine pm_iloadi hG dX12_sheet_90 rfl ?_
            refine pm_bipush (v := 24) hG dX12_sheet_92 (by decide) ?_
            refine pm_icmp_ge (tgt := 116) hG dX12_sheet_94 rfl (fun q => absurd q (by decide)) (fun _ => ?_)
            refine pm_aloadn hG dX12_sheet_97 rfl ?_
            refine pm_getf hG dX12_sheet_98 (flX12_61 _ rfl) rfl rfl ?_
            refine pm_bipush (v := 24) hG dX12_sheet_101 (by decide) ?_
            refine pm_iloadn hG dX12_sheet_103 rfl ?_
            refine pm_imul hG dX12_sheet_104 ?_
            refine pm_iloadi hG dX12_sheet_105 rfl ?_
            refine pm_iadd hG dX12_sheet_107 ?_
            refine pm_iconst (v := 0) hG dX12_sheet_108 (by decide) ?_
            refine pm_iast hG dX12_sheet_109 rfl (vp_in_iff.mpr (by revert c2; simp only [Int32.lt_iff_toInt_lt, Int32.le_iff_toInt_le, ← Int32.toInt_inj, Int32.toInt_zero, Int32.toInt_add, Int32.toInt_mul, Int32.toInt_sub, Int.bmod_def, L_20, L_24, L_3]; omega)) ?_
            refine pm_iincX (v := 21) (loc' := [some (.ref (B + 54)), some (.int za), some (.int zb), some (.int zc), some (.int 21)]) hG dX12_sheet_110 rfl (by rfl) (by decide) (pm_c1b rfl) rfl ?_
            refine pm_goto (tgt := 90) hG dX12_sheet_113 rfl ?_
            refine pm_iloadi hG dX12_sheet_90 rfl ?_
            refine pm_bipush (v := 24) hG dX12_sheet_92 (by decide) ?_
            refine pm_icmp_ge (tgt := 116) hG dX12_sheet_94 rfl (fun q => absurd q (by decide)) (fun _ => ?_)
            refine pm_aloadn hG dX12_sheet_97 rfl ?_
            refine pm_getf hG dX12_sheet_98 (flX12_61 _ rfl) rfl rfl ?_
            refine pm_bipush (v := 24) hG dX12_sheet_101 (by decide) ?_
            refine pm_iloadn hG dX12_sheet_103 rfl ?_
            refine pm_imul hG dX12_sheet_104 ?_
            refine pm_iloadi hG dX12_sheet_105 rfl ?_
            refine pm_iadd hG dX12_sheet_107 ?_
            refine pm_iconst (v := 0) hG dX12_sheet_108 (by decide) ?_
            refine pm_iast hG dX12_sheet_109 rfl (vp_in_iff.mpr (by revert c2; simp only [Int32.lt_iff_toInt_lt, Int32.le_iff_toInt_le, ← Int32.toInt_inj, Int32.toInt_zero, Int32.toInt_add, Int32.toInt_mul, Int32.toInt_sub, Int.bmod_def, L_21, L_24, L_3]; omega)) ?_
            refine pm_iincX (v := 22) (loc' := [some (.ref (B + 54)), some (.int za), some (.int zb), some (.int zc), some (.int 22)]) hG dX12_sheet_110 rfl (by rfl) (by decide) (pm_c1b rfl) rfl ?_
            refine pm_goto (tgt := 90) hG dX12_sheet_113 rfl ?_
            refine pm_iloadi hG dX12_sheet_90 rfl ?_
            refine pm_bipush (v := 24) hG dX12_sheet_92 (by decide) ?_
            refine pm_icmp_ge (tgt := 116) hG dX12_sheet_94 rfl (fun q => absurd q (by decide)) (fun _ => ?_)
            refine pm_aloadn hG dX12_sheet_97 rfl ?_
            refine pm_getf hG dX12_sheet_98 (flX12_61 _ rfl) rfl rfl ?_
            refine pm_bipush (v := 24) hG dX12_sheet_101 (by decide) ?_
            refine pm_iloadn hG dX12_sheet_103 rfl ?_
            refine pm_imul hG dX12_sheet_104 ?_
            refine pm_iloadi hG dX12_sheet_105 rfl ?_
            refine pm_iadd hG dX12_sheet_107 ?_
            refine pm_iconst (v := 0) hG dX12_sheet_108 (by decide) ?_
            refine pm_iast hG dX12_sheet_109 rfl (vp_in_iff.mpr (by revert c2; simp only [Int32.lt_iff_toInt_lt, Int32.le_iff_toInt_le, ← Int32.toInt_inj, Int32.toInt_zero, Int32.toInt_add, Int32.toInt_mul, Int32.toInt_sub, Int.bmod_def, L_22, L_24, L_3]; omega)) ?_
            refine pm_iincX (v := 23) (loc' := [some (.ref (B + 54)), some (.int za), some (.int zb), some (.int zc), some (.int 23)]) hG dX12_sheet_110 rfl (by rfl) (by decide) (pm_c1b rfl) rfl ?_
            refine pm_goto (tgt := 90) hG dX12_sheet_113 rfl ?_
            refine pm_iloadi hG dX12_sheet_90 rfl ?_
            refine pm_bipush (v := 24) hG dX12_sheet_92 (by decide) ?_
            refine pm_icmp_ge (tgt := 116) hG dX12_sheet_94 rfl (fun q => absurd q (by decide)) (fun _ => ?_)
            refine pm_aloadn hG dX12_sheet_97 rfl ?_
            refine pm_getf hG dX12_sheet_98 (flX12_61 _ rfl) rfl rfl ?_
            refine pm_bipush (v := 24) hG dX12_sheet_101 (by decide) ?_
            refine pm_iloadn hG dX12_sheet_103 rfl ?_
            refine pm_imul hG dX12_sheet_104 ?_
            refine pm_iloadi hG dX12_sheet_105 rfl ?_
            refine pm_iadd hG dX12_sheet_107 ?_
            refine pm_iconst (v := 0) hG dX12_sheet_108 (by decide) ?_
            refine pm_iast hG dX12_sheet_109 rfl (vp_in_iff.mpr (by revert c2; simp only [Int32.lt_iff_toInt_lt, Int32.le_iff_toInt_le, ← Int32.toInt_inj, Int32.toInt_zero, Int32.toInt_add, Int32.toInt_mul, Int32.toInt_sub, Int.bmod_def, L_23, L_24, L_3]; omega)) ?_
            refine pm_iincX (v := 24) (loc' := [some (.ref (B + 54)), some (.int za), some (.int zb), some (.int zc), some (.int 24)]) hG dX12_sheet_110 rfl (by rfl) (by decide) (pm_c1b rfl) rfl ?_
            refine pm_goto (tgt := 90) hG dX12_sheet_113 rfl ?_
            refine pm_iloadi hG dX12_sheet_90 rfl ?_
            refine pm_bipush (v := 24) hG dX12_sheet_92 (by decide) ?_
            refine pm_icmp_ge (tgt := 116) hG dX12_sheet_94 rfl (fun _ => ?_) (fun q => absurd q (by decide))
            refine pm_iconst (v := 1) hG dX12_sheet_116 (by decide) ?_
            exact pm_iret hG hF dX12_sheet_117 rfl (by decide) (by decide) ⟨_, rfl, (by clear hF hR hG; first | rfl | (unfold v_sheet; (repeat' split) <;> first | rfl | (exfalso; simp only [Int32.lt_iff_toInt_lt, Int32.le_iff_toInt_le, ← Int32.toInt_inj, Int32.toInt_zero, L_1, L_16, L_24, L_3, L_32, L_8, L_m1000001, L_m1000003] at *; omega) | (apply Int32.toInt_inj.mp; simp only [Int32.lt_iff_toInt_lt, Int32.le_iff_toInt_le, ← Int32.toInt_inj, Int32.toInt_zero, L_1, L_16, L_24, L_3, L_32, L_8, L_m1000001, L_m1000003] at *; omega)))⟩
          · refine pm_aloadn hG dX12_sheet_59 rfl ?_
            refine pm_iconst (v := 1) hG dX12_sheet_60 (by decide) ?_
            refine pm_callV (As := [.int 1]) (rest := []) hG hR dX12_sheet_61 (lkX12_80 _ rfl) okV_X12_finds rfl rfl (fm_X12_finds_2 (d := 2) (by decide)) rfl rfl hdd (by decide) (by decide) (by decide) (pm_ki (fun v σ' cnt' hq => ?_))
            obtain ⟨rfl, rfl, rfl⟩ := hq
            exact pm_iret hG hF dX12_sheet_64 rfl (by decide) (by decide) ⟨_, rfl, (by clear hF hR hG; first | rfl | (unfold v_sheet; (repeat' split) <;> first | rfl | (exfalso; simp only [Int32.lt_iff_toInt_lt, Int32.le_iff_toInt_le, ← Int32.toInt_inj, Int32.toInt_zero, L_1, L_16, L_24, L_3, L_32, L_8, L_m1000001, L_m1000003] at *; omega) | (apply Int32.toInt_inj.mp; simp only [Int32.lt_iff_toInt_lt, Int32.le_iff_toInt_le, ← Int32.toInt_inj, Int32.toInt_zero, L_1, L_16, L_24, L_3, L_32, L_8, L_m1000001, L_m1000003] at *; omega)))⟩
        · refine pm_aloadn hG dX12_sheet_43 rfl ?_
          refine pm_iconst (v := 3) hG dX12_sheet_44 (by decide) ?_
          refine pm_callV (As := [.int 3]) (rest := []) hG hR dX12_sheet_45 (lkX12_80 _ rfl) okV_X12_finds rfl rfl (fm_X12_finds_41 (d := 2) (by decide)) rfl rfl hdd (by decide) (by decide) (by decide) (pm_ki (fun v σ' cnt' hq => ?_))
          obtain ⟨rfl, rfl, rfl⟩ := hq
          exact pm_iret hG hF dX12_sheet_48 rfl (by decide) (by decide) ⟨_, rfl, (by clear hF hR hG; first | rfl | (unfold v_sheet; (repeat' split) <;> first | rfl | (exfalso; simp only [Int32.lt_iff_toInt_lt, Int32.le_iff_toInt_le, ← Int32.toInt_inj, Int32.toInt_zero, L_1, L_16, L_24, L_3, L_32, L_8, L_m1000001, L_m1000003] at *; omega) | (apply Int32.toInt_inj.mp; simp only [Int32.lt_iff_toInt_lt, Int32.le_iff_toInt_le, ← Int32.toInt_inj, Int32.toInt_zero, L_1, L_16, L_24, L_3, L_32, L_8, L_m1000001, L_m1000003] at *; omega)))⟩
      · refine pm_iloadn hG dX12_sheet_17 rfl ?_
        refine pm_bipush (v := 16) hG dX12_sheet_18 (by decide) ?_
        refine pm_icmp_eq (tgt := 35) hG dX12_sheet_20 rfl (fun c7 => ?_) (fun c7 => ?_)
        · refine pm_iloadn hG dX12_sheet_35 rfl ?_
          refine pm_if_eq (tgt := 49) hG dX12_sheet_36 rfl (fun q => False.elim (by revert c3 c4 c7 q; simp only [Int32.lt_iff_toInt_lt, Int32.le_iff_toInt_le, ← Int32.toInt_inj, Int32.toInt_zero, L_16, L_8]; omega)) (fun _ => ?_)
          refine pm_iloadn hG dX12_sheet_39 rfl ?_
          refine pm_if_ge (tgt := 49) hG dX12_sheet_40 rfl (fun c8 => ?_) (fun c8 => ?_)
          · refine pm_iloadn hG dX12_sheet_49 rfl ?_
            refine pm_if_eq (tgt := 65) hG dX12_sheet_50 rfl (fun q => False.elim (by revert c3 c4 c7 q; simp only [Int32.lt_iff_toInt_lt, Int32.le_iff_toInt_le, ← Int32.toInt_inj, Int32.toInt_zero, L_16, L_8]; omega)) (fun _ => ?_)
            refine pm_iloadn hG dX12_sheet_53 rfl ?_
            refine pm_bipush (v := 24) hG dX12_sheet_54 (by decide) ?_
            refine pm_icmp_le (tgt := 65) hG dX12_sheet_56 rfl (fun c9 => ?_) (fun c9 => ?_)
            · refine pm_aloadn hG dX12_sheet_65 rfl ?_
              refine pm_getf hG dX12_sheet_66 (flX12_55 _ rfl) rfl rfl ?_
              refine pm_iloadn hG dX12_sheet_69 rfl ?_
              refine pm_iloadn hG dX12_sheet_70 rfl ?_
              refine pm_iast hG dX12_sheet_71 rfl (vp_in_iff.mpr (by revert c2; simp only [Int32.lt_iff_toInt_lt, Int32.le_iff_toInt_le, ← Int32.toInt_inj, Int32.toInt_zero, Int32.toInt_add, Int32.toInt_mul, Int32.toInt_sub, Int.bmod_def, L_3]; omega)) ?_
              refine pm_aloadn hG dX12_sheet_72 rfl ?_
              refine pm_getf hG dX12_sheet_73 (flX12_58 _ rfl) rfl rfl ?_
              refine pm_iloadn hG dX12_sheet_76 rfl ?_
              refine pm_iloadn hG dX12_sheet_77 rfl ?_
              refine pm_if_ne (tgt := 85) hG dX12_sheet_78 rfl (fun _ => ?_) (fun q => False.elim (by revert c3 c4 c7 q; simp only [Int32.lt_iff_toInt_lt, Int32.le_iff_toInt_le, ← Int32.toInt_inj, Int32.toInt_zero, L_16, L_8]; omega))
              refine pm_iloadn hG dX12_sheet_85 rfl ?_
              refine pm_iast hG dX12_sheet_86 rfl (vp_in_iff.mpr (by revert c2; simp only [Int32.lt_iff_toInt_lt, Int32.le_iff_toInt_le, ← Int32.toInt_inj, Int32.toInt_zero, Int32.toInt_add, Int32.toInt_mul, Int32.toInt_sub, Int.bmod_def, L_3]; omega)) ?_
              refine pm_iconst (v := 0) hG dX12_sheet_87 (by decide) ?_
              refine pm_istoreXi (loc' := [some (.ref (B + 54)), some (.int za), some (.int zb), some (.int zc), some (.int 0)]) hG dX12_sheet_88 (by decide) (pm_c1b rfl) rfl ?_
              refine pm_iloadi hG dX12_sheet_90 rfl ?_
              refine pm_bipush (v := 24) hG dX12_sheet_92 (by decide) ?_
              refine pm_icmp_ge (tgt := 116) hG dX12_sheet_94 rfl (fun q => absurd q (by decide)) (fun _ => ?_)
              refine pm_aloadn hG dX12_sheet_97 rfl ?_
              refine pm_getf hG dX12_sheet_98 (flX12_61 _ rfl) rfl rfl ?_
              refine pm_bipush (v := 24) hG dX12_sheet_101 (by decide) ?_
              refine pm_iloadn hG dX12_sheet_103 rfl ?_
              refine pm_imul hG dX12_sheet_104 ?_
              refine pm_iloadi hG dX12_sheet_105 rfl ?_
              refine pm_iadd hG dX12_sheet_107 ?_
              refine pm_top (v := 24 * za) (Int32.add_zero _) ?_
              refine pm_iconst (v := 0) hG dX12_sheet_108 (by decide) ?_
              refine pm_iast hG dX12_sheet_109 rfl (vp_in_iff.mpr (by revert c2; simp only [Int32.lt_iff_toInt_lt, Int32.le_iff_toInt_le, ← Int32.toInt_inj, Int32.toInt_zero, Int32.toInt_add, Int32.toInt_mul, Int32.toInt_sub, Int.bmod_def, L_24, L_3]; omega)) ?_
              refine pm_iincX (v := 1) (loc' := [some (.ref (B + 54)), some (.int za), some (.int zb), some (.int zc), some (.int 1)]) hG dX12_sheet_110 rfl (by rfl) (by decide) (pm_c1b rfl) rfl ?_
              refine pm_goto (tgt := 90) hG dX12_sheet_113 rfl ?_
              refine pm_iloadi hG dX12_sheet_90 rfl ?_
              refine pm_bipush (v := 24) hG dX12_sheet_92 (by decide) ?_
              refine pm_icmp_ge (tgt := 116) hG dX12_sheet_94 rfl (fun q => absurd q (by decide)) (fun _ => ?_)
              refine pm_aloadn hG dX12_sheet_97 rfl ?_
              refine pm_getf hG dX12_sheet_98 (flX12_61 _ rfl) rfl rfl ?_
              refine pm_bipush (v := 24) hG dX12_sheet_101 (by decide) ?_
              refine pm_iloadn hG dX12_sheet_103 rfl ?_
              refine pm_imul hG dX12_sheet_104 ?_
              refine pm_iloadi hG dX12_sheet_105 rfl ?_
              refine pm_iadd hG dX12_sheet_107 ?_
              refine pm_iconst (v := 0) hG dX12_sheet_108 (by decide) ?_
              refine pm_iast hG dX12_sheet_109 rfl (vp_in_iff.mpr (by revert c2; simp only [Int32.lt_iff_toInt_lt, Int32.le_iff_toInt_le, ← Int32.toInt_inj, Int32.toInt_zero, Int32.toInt_add, Int32.toInt_mul, Int32.toInt_sub, Int.bmod_def, L_1, L_24, L_3]; omega)) ?_
              refine pm_iincX (v := 2) (loc' := [some (.ref (B + 54)), some (.int za), some (.int zb), some (.int zc), some (.int 2)]) hG dX12_sheet_110 rfl (by rfl) (by decide) (pm_c1b rfl) rfl ?_
              refine pm_goto (tgt := 90) hG dX12_sheet_113 rfl ?_
              refine pm_iloadi hG dX12_sheet_90 rfl ?_
              refine pm_bipush (v := 24) hG dX12_sheet_92 (by decide) ?_
              refine pm_icmp_ge (tgt := 116) hG dX12_sheet_94 rfl (fun q => absurd q (by decide)) (fun _ => ?_)
              refine pm_aloadn hG dX12_sheet_97 rfl ?_
              refine pm_getf hG dX12_sheet_98 (flX12_61 _ rfl) rfl rfl ?_
              refine pm_bipush (v := 24) hG dX12_sheet_101 (by decide) ?_
              refine pm_iloadn hG dX12_sheet_103 rfl ?_
              refine pm_imul hG dX12_sheet_104 ?_
              refine pm_iloadi hG dX12_sheet_105 rfl ?_
              refine pm_iadd hG dX12_sheet_107 ?_
              refine pm_iconst (v := 0) hG dX12_sheet_108 (by decide) ?_
              refine pm_iast hG dX12_sheet_109 rfl (vp_in_iff.mpr (by revert c2; simp only [Int32.lt_iff_toInt_lt, Int32.le_iff_toInt_le, ← Int32.toInt_inj, Int32.toInt_zero, Int32.toInt_add, Int32.toInt_mul, Int32.toInt_sub, Int.bmod_def, L_2, L_24, L_3]; omega)) ?_
              refine pm_iincX (v := 3) (loc' := [some (.ref (B + 54)), some (.int za), some (.int zb), some (.int zc), some (.int 3)]) hG dX12_sheet_110 rfl (by rfl) (by decide) (pm_c1b rfl) rfl ?_
              refine pm_goto (tgt := 90) hG dX12_sheet_113 rfl ?_
              refine pm_iloadi hG dX12_sheet_90 rfl ?_
              refine pm_bipush (v := 24) hG dX12_sheet_92 (by decide) ?_
              refine pm_icmp_ge (tgt := 116) hG dX12_sheet_94 rfl (fun q => absurd q (by decide)) (fun _ => ?_)
              refine pm_aloadn hG dX12_sheet_97 rfl ?_
              refine pm_getf hG dX12_sheet_98 (flX12_61 _ rfl) rfl rfl ?_
              refine pm_bipush (v := 24) hG dX12_sheet_101 (by decide) ?_
              refine pm_iloadn hG dX12_sheet_103 rfl ?_
              refine pm_imul hG dX12_sheet_104 ?_
              refine pm_iloadi hG dX12_sheet_105 rfl ?_
              refine pm_iadd hG dX12_sheet_107 ?_
              refine pm_iconst (v := 0) hG dX12_sheet_108 (by decide) ?_
              refine pm_iast hG dX12_sheet_109 rfl (vp_in_iff.mpr (by revert c2; simp only [Int32.lt_iff_toInt_lt, Int32.le_iff_toInt_le, ← Int32.toInt_inj, Int32.toInt_zero, Int32.toInt_add, Int32.toInt_mul, Int32.toInt_sub, Int.bmod_def, L_24, L_3]; omega)) ?_
              refine pm_iincX (v := 4) (loc' := [some (.ref (B + 54)), some (.int za), some (.int zb), some (.int zc), some (.int 4)]) hG dX12_sheet_110 rfl (by rfl) (by decide) (pm_c1b rfl) rfl ?_
              refine pm_goto (tgt := 90) hG dX12_sheet_113 rfl ?_
              refine pm_iloadi hG dX12_sheet_90 rfl ?_
              refine pm_bipush (v := 24) hG dX12_sheet_92 (by decide) ?_
              refine pm_icmp_ge (tgt := 116) hG dX12_sheet_94 rfl (fun q => absurd q (by decide)) (fun _ => ?_)
              refine pm_aloadn hG dX12_sheet_97 rfl ?_
              refine pm_getf hG dX12_sheet_98 (flX12_61 _ rfl) rfl rfl ?_
              refine pm_bipush (v := 24) hG dX12_sheet_101 (by decide) ?_
              refine pm_iloadn hG dX12_sheet_103 rfl ?_
              refine pm_imul hG dX12_sheet_104 ?_
              refine pm_iloadi hG dX12_sheet_105 rfl ?_
              refine pm_iadd hG dX12_sheet_107 ?_
              refine pm_iconst (v := 0) hG dX12_sheet_108 (by decide) ?_
              refine pm_iast hG dX12_sheet_109 rfl (vp_in_iff.mpr (by revert c2; simp only [Int32.lt_iff_toInt_lt, Int32.le_iff_toInt_le, ← Int32.toInt_inj, Int32.toInt_zero, Int32.toInt_add, Int32.toInt_mul, Int32.toInt_sub, Int.bmod_def, L_24, L_3, L_4]; omega)) ?_
              refine pm_iincX (v := 5) (loc' := [some (.ref (B + 54)), some (.int za), some (.int zb), some (.int zc), some (.int 5)]) hG dX12_sheet_110 rfl (by rfl) (by decide) (pm_c1b rfl) rfl ?_
              refine pm_goto (tgt := 90) hG dX12_sheet_113 rfl ?_
              refine pm_iloadi hG dX12_sheet_90 rfl ?_
              refine pm_bipush (v := 24) hG dX12_sheet_92 (by decide) ?_
              refine pm_icmp_ge (tgt := 116) hG dX12_sheet_94 rfl (fun q => absurd q (by decide)) (fun _ => ?_)
              refine pm_aloadn hG dX12_sheet_97 rfl ?_
              refine pm_getf hG dX12_sheet_98 (flX12_61 _ rfl) rfl rfl ?_
              refine pm_bipush (v := 24) hG dX12_sheet_101 (by decide) ?_
              refine pm_iloadn hG dX12_sheet_103 rfl ?_
              refine pm_imul hG dX12_sheet_104 ?_
              refine pm_iloadi hG dX12_sheet_105 rfl ?_
              refine pm_iadd hG dX12_sheet_107 ?_
              refine pm_iconst (v := 0) hG dX12_sheet_108 (by decide) ?_
              refine pm_iast hG dX12_sheet_109 rfl (vp_in_iff.mpr (by revert c2; simp only [Int32.lt_iff_toInt_lt, Int32.le_iff_toInt_le, ← Int32.toInt_inj, Int32.toInt_zero, Int32.toInt_add, Int32.toInt_mul, Int32.toInt_sub, Int.bmod_def, L_24, L_3, L_5]; omega)) ?_
              refine pm_iincX (v := 6) (loc' := [some (.ref (B + 54)), some (.int za), some (.int zb), some (.int zc), some (.int 6)]) hG dX12_sheet_110 rfl (by rfl) (by decide) (pm_c1b rfl) rfl ?_
              refine pm_goto (tgt := 90) hG dX12_sheet_113 rfl ?_
              refine pm_iloadi hG dX12_sheet_90 rfl ?_
              refine pm_bipush (v := 24) hG dX12_sheet_92 (by decide) ?_
              refine pm_icmp_ge (tgt := 116) hG dX12_sheet_94 rfl (fun q => absurd q (by decide)) (fun _ => ?_)
              refine pm_aloadn hG dX12_sheet_97 rfl ?_
              refine pm_getf hG dX12_sheet_98 (flX12_61 _ rfl) rfl rfl ?_
              refine pm_bipush (v := 24) hG dX12_sheet_101 (by decide) ?_
              refine pm_iloadn hG dX12_sheet_103 rfl ?_
              refine pm_imul hG dX12_sheet_104 ?_
              refine pm_iloadi hG dX12_sheet_105 rfl ?_
              refine pm_iadd hG dX12_sheet_107 ?_
              refine pm_iconst (v := 0) hG dX12_sheet_108 (by decide) ?_
              refine pm_iast hG dX12_sheet_109 rfl (vp_in_iff.mpr (by revert c2; simp only [Int32.lt_iff_toInt_lt, Int32.le_iff_toInt_le, ← Int32.toInt_inj, Int32.toInt_zero, Int32.toInt_add, Int32.toInt_mul, Int32.toInt_sub, Int.bmod_def, L_24, L_3, L_6]; omega)) ?_
              refine pm_iincX (v := 7) (loc' := [some (.ref (B + 54)), some (.int za), some (.int zb), some (.int zc), some (.int 7)]) hG dX12_sheet_110 rfl (by rfl) (by decide) (pm_c1b rfl) rfl ?_
              refine pm_goto (tgt := 90) hG dX12_sheet_113 rfl ?_
              refine pm_iloadi hG dX12_sheet_90 rfl ?_
              refine pm_bipush (v := 24) hG dX12_sheet_92 (by decide) ?_
              refine pm_icmp_ge (tgt := 116) hG dX12_sheet_94 rfl (fun q => absurd q (by decide)) (fun _ => ?_)
              refine pm_aloadn hG dX12_sheet_97 rfl ?_
              refine pm_getf hG dX12_sheet_98 (flX12_61 _ rfl) rfl rfl ?_
              refine pm_bipush (v := 24) hG dX12_sheet_101 (by decide) ?_
              refine pm_iloadn hG dX12_sheet_103 rfl ?_
              refine pm_imul hG dX12_sheet_104 ?_
              refine pm_iloadi hG dX12_sheet_105 rfl ?_
              refine pm_iadd hG dX12_sheet_107 ?_
              refine pm_iconst (v := 0) hG dX12_sheet_108 (by decide) ?_
              refine pm_iast hG dX12_sheet_109 rfl (vp_in_iff.mpr (by revert c2; simp only [Int32.lt_iff_toInt_lt, Int32.le_iff_toInt_le, ← Int32.toInt_inj, Int32.toInt_zero, Int32.toInt_add, Int32.toInt_mul, Int32.toInt_sub, Int.bmod_def, L_24, L_3, L_7]; omega)) ?_
              refine pm_iincX (v := 8) (loc' := [some (.ref (B + 54)), some (.int za), some (.int zb), some (.int zc), some (.int 8)]) hG dX12_sheet_110 rfl (by rfl) (by decide) (pm_c1b rfl) rfl ?_
              refine pm_goto (tgt := 90) hG dX12_sheet_113 rfl ?_
              refine pm_iloadi hG dX12_sheet_90 rfl ?_
              refine pm_bipush (v := 24) hG dX12_sheet_92 (by decide) ?_
              refine pm_icmp_ge (tgt := 116) hG dX12_sheet_94 rfl (fun q => absurd q (by decide)) (fun _ => ?_)
              refine pm_aloadn hG dX12_sheet_97 rfl ?_
              refine pm_getf hG dX12_sheet_98 (flX12_61 _ rfl) rfl rfl ?_
              refine pm_bipush (v := 24) hG dX12_sheet_101 (by decide) ?_
              refine pm_iloadn hG dX12_sheet_103 rfl ?_
              refine pm_imul hG dX12_sheet_104 ?_
              refine pm_iloadi hG dX12_sheet_105 rfl ?_
              refine pm_iadd hG dX12_sheet_107 ?_
              refine pm_iconst (v := 0) hG dX12_sheet_108 (by decide) ?_
              refine pm_iast hG dX12_sheet_109 rfl (vp_in_iff.mpr (by revert c2; simp only [Int32.lt_iff_toInt_lt, Int32.le_iff_toInt_le, ← Int32.toInt_inj, Int32.toInt_zero, Int32.toInt_add, Int32.toInt_mul, Int32.toInt_sub, Int.bmod_def, L_24, L_3, L_8]; omega)) ?_
              refine pm_iincX (v := 9) (loc' := [some (.ref (B + 54)), some (.int za), some (.int zb), some (.int zc), some (.int 9)]) hG dX12_sheet_110 rfl (by rfl) (by decide) (pm_c1b rfl) rfl ?_
              refine pm_goto (tgt := 90) hG dX12_sheet_113 rfl ?_
              refine pm_iloadi hG dX12_sheet_90 rfl ?_
              refine pm_bipush (v := 24) hG dX12_sheet_92 (by decide) ?_
              refine pm_icmp_ge (tgt := 116) hG dX12_sheet_94 rfl (fun q => absurd q (by decide)) (fun _ => ?_)
              refine pm_aloadn hG dX12_sheet_97 rfl ?_
              refine pm_getf hG dX12_sheet_98 (flX12_61 _ rfl) rfl rfl ?_
              refine pm_bipush (v := 24) hG dX12_sheet_101 (by decide) ?_
              refine pm_iloadn hG dX12_sheet_103 rfl ?_
              refine pm_imul hG dX12_sheet_104 ?_
              refine pm_iloadi hG dX12_sheet_105 rfl ?_
              refine pm_iadd hG dX12_sheet_107 ?_
              refine pm_iconst (v := 0) hG dX12_sheet_108 (by decide) ?_
              refine pm_iast hG dX12_sheet_109 rfl (vp_in_iff.mpr (by revert c2; simp only [Int32.lt_iff_toInt_lt, Int32.le_iff_toInt_le, ← Int32.toInt_inj, Int32.toInt_zero, Int32.toInt_add, Int32.toInt_mul, Int32.toInt_sub, Int.bmod_def, L_24, L_3, L_9]; omega)) ?_
              refine pm_iincX (v := 10) (loc' := [some (.ref (B + 54)), some (.int za), some (.int zb), some (.int zc), some (.int 10)]) hG dX12_sheet_110 rfl (by rfl) (by decide) (pm_c1b rfl) rfl ?_
              refine pm_goto (tgt := 90) hG dX12_sheet_113 rfl ?_
              refine pm_iloadi hG dX12_sheet_90 rfl ?_
              refine pm_bipush (v := 24) hG dX12_sheet_92 (by decide) ?_
              refine pm_icmp_ge (tgt := 116) hG dX12_sheet_94 rfl (fun q => absurd q (by decide)) (fun _ => ?_)
              refine pm_aloadn hG dX12_sheet_97 rfl ?_
              refine pm_getf hG dX12_sheet_98 (flX12_61 _ rfl) rfl rfl ?_
              refine pm_bipush (v := 24) hG dX12_sheet_101 (by decide) ?_
              refine pm_iloadn hG dX12_sheet_103 rfl ?_
              refine pm_imul hG dX12_sheet_104 ?_
              refine pm_iloadi hG dX12_sheet_105 rfl ?_
              refine pm_iadd hG dX12_sheet_107 ?_
              refine pm_iconst (v := 0) hG dX12_sheet_108 (by decide) ?_
              refine pm_iast hG dX12_sheet_109 rfl (vp_in_iff.mpr (by revert c2; simp only [Int32.lt_iff_toInt_lt, Int32.le_iff_toInt_le, ← Int32.toInt_inj, Int32.toInt_zero, Int32.toInt_add, Int32.toInt_mul, Int32.toInt_sub, Int.bmod_def, L_10, L_24, L_3]; omega)) ?_
              refine pm_iincX (v := 11) (loc' := [some (.ref (B + 54)), some (.int za), some (.int zb), some (.int zc), some (.int 11)]) hG dX12_sheet_110 rfl (by rfl) (by decide) (pm_c1b rfl) rfl ?_
              refine pm_goto (tgt := 90) hG dX12_sheet_113 rfl ?_
              refine pm_iloadi hG dX12_sheet_90 rfl ?_
              refine pm_bipush (v := 24) hG dX12_sheet_92 (by decide) ?_
              refine pm_icmp_ge (tgt := 116) hG dX12_sheet_94 rfl (fun q => absurd q (by decide)) (fun _ => ?_)
              refine pm_aloadn hG dX12_sheet_97 rfl ?_
              refine pm_getf hG dX12_sheet_98 (flX12_61 _ rfl) rfl rfl ?_
              refine pm_bipush (v := 24) hG dX12_sheet_101 (by decide) ?_
              refine pm_iloadn hG dX12_sheet_103 rfl ?_
              refine pm_imul hG dX12_sheet_104 ?_
              refine pm_iloadi hG dX12_sheet_105 rfl ?_
              refine pm_iadd hG dX12_sheet_107 ?_
              refine pm_iconst (v := 0) hG dX12_sheet_108 (by decide) ?_
              refine pm_iast hG dX12_sheet_109 rfl (vp_in_iff.mpr (by revert c2; simp only [Int32.lt_iff_toInt_lt, Int32.le_iff_toInt_le, ← Int32.toInt_inj, Int32.toInt_zero, Int32.toInt_add, Int32.toInt_mul, Int32.toInt_sub, Int.bmod_def, L_11, L_24, L_3]; omega)) ?_
              refine pm_iincX (v := 12) (loc' := [some (.ref (B + 54)), some (.int za), some (.int zb), some (.int zc), some (.int 12)]) hG dX12_sheet_110 rfl (by rfl) (by decide) (pm_c1b rfl) rfl ?_
              refine pm_goto (tgt := 90) hG dX12_sheet_113 rfl ?_
              refine pm_iloadi hG dX12_sheet_90 rfl ?_
              refine pm_bipush (v := 24) hG dX12_sheet_92 (by decide) ?_
              refine pm_icmp_ge (tgt := 116) hG dX12_sheet_94 rfl (fun q => absurd q (by decide)) (fun _ => ?_)
              refine pm_aloadn hG dX12_sheet_97 rfl ?_
              refine pm_getf hG dX12_sheet_98 (flX12_61 _ rfl) rfl rfl ?_
              refine pm_bipush (v := 24) hG dX12_sheet_101 (by decide) ?_
              refine pm_iloadn hG dX12_sheet_103 rfl ?_
              refine pm_imul hG dX12_sheet_104 ?_
              refine pm_iloadi hG dX12_sheet_105 rfl ?_
              refine pm_iadd hG dX12_sheet_107 ?_
              refine pm_iconst (v := 0) hG dX12_sheet_108 (by decide) ?_
              refine pm_iast hG dX12_sheet_109 rfl (vp_in_iff.mpr (by revert c2; simp only [Int32.lt_iff_toInt_lt, Int32.le_iff_toInt_le, ← Int32.toInt_inj, Int32.toInt_zero, Int32.toInt_add, Int32.toInt_mul, Int32.toInt_sub, Int.bmod_def, L_12, L_24, L_3]; omega)) ?_
              refine pm_iincX (v := 13) (loc' := [some (.ref (B + 54)), some (.int za), some (.int zb), some (.int zc), some (.int 13)]) hG dX12_sheet_110 rfl (by rfl) (by decide) (pm_c1b rfl) rfl ?_
              refine pm_goto (tgt := 90) hG dX12_sheet_113 rfl ?_
              refine pm_iloadi hG dX12_sheet_90 rfl ?_
              refine pm_bipush (v := 24) hG dX12_sheet_92 (by decide) ?_
              refine pm_icmp_ge (tgt := 116) hG dX12_sheet_94 rfl (fun q => absurd q (by decide)) (fun _ => ?_)
              refine pm_aloadn hG dX12_sheet_97 rfl ?_
              refine pm_getf hG dX12_sheet_98 (flX12_61 _ rfl) rfl rfl ?_
              refine pm_bipush (v := 24) hG dX12_sheet_101 (by decide) ?_
              refine pm_iloadn hG dX12_sheet_103 rfl ?_
              refine pm_imul hG dX12_sheet_104 ?_
              refine pm_iloadi hG dX12_sheet_105 rfl ?_
              refine pm_iadd hG dX12_sheet_107 ?_
              refine pm_iconst (v := 0) hG dX12_sheet_108 (by decide) ?_
              refine pm_iast hG dX12_sheet_109 rfl (vp_in_iff.mpr (by revert c2; simp only [Int32.lt_iff_toInt_lt, Int32.le_iff_toInt_le, ← Int32.toInt_inj, Int32.toInt_zero, Int32.toInt_add, Int32.toInt_mul, Int32.toInt_sub, Int.bmod_def, L_13, L_24, L_3]; omega)) ?_
              refine pm_iincX (v := 14) (loc' := [some (.ref (B + 54)), some (.int za), some (.int zb), some (.int zc), some (.int 14)]) hG dX12_sheet_110 rfl (by rfl) (by decide) (pm_c1b rfl) rfl ?_
              refine pm_goto (tgt := 90) hG dX12_sheet_113 rfl ?_
              refine pm_iloadi hG dX12_sheet_90 rfl ?_
              refine pm_bipush (v := 24) hG dX12_sheet_92 (by decide) ?_
              refine pm_icmp_ge (tgt := 116) hG dX12_sheet_94 rfl (fun q => absurd q (by decide)) (fun _ => ?_)
              refine pm_aloadn hG dX12_sheet_97 rfl ?_
              refine pm_getf hG dX12_sheet_98 (flX12_61 _ rfl) rfl rfl ?_
              refine pm_bipush (v := 24) hG dX12_sheet_101 (by decide) ?_
              refine pm_iloadn hG dX12_sheet_103 rfl ?_
              refine pm_imul hG dX12_sheet_104 ?_
              refine pm_iloadi hG dX12_sheet_105 rfl ?_
              refine pm_iadd hG dX12_sheet_107 ?_
              refine pm_iconst (v := 0) hG dX12_sheet_108 (by decide) ?_
              refine pm_iast hG dX12_sheet_109 rfl (vp_in_iff.mpr (by revert c2; simp only [Int32.lt_iff_toInt_lt, Int32.le_iff_toInt_le, ← Int32.toInt_inj, Int32.toInt_zero, Int32.toInt_add, Int32.toInt_mul, Int32.toInt_sub, Int.bmod_def, L_14, L_24, L_3]; omega)) ?_
              refine pm_iincX (v := 15) (loc' := [some (.ref (B + 54)), some (.int za), some (.int zb), some (.int zc), some (.int 15)]) hG dX12_sheet_110 rfl (by rfl) (by decide) (pm_c1b rfl) rfl ?_
              refine pm_goto (tgt := 90) hG dX12_sheet_113 rfl ?_
              refine pm_iloadi hG dX12_sheet_90 rfl ?_
              refine pm_bipush (v := 24) hG dX12_sheet_92 (by decide) ?_
              refine pm_icmp_ge (tgt := 116) hG dX12_sheet_94 rfl (fun q => absurd q (by decide)) (fun _ => ?_)
              refine pm_aloadn hG dX12_sheet_97 rfl ?_
              refine pm_getf hG dX12_sheet_98 (flX12_61 _ rfl) rfl rfl ?_
              refine pm_bipush (v := 24) hG dX12_sheet_101 (by decide) ?_
              refine pm_iloadn hG dX12_sheet_103 rfl ?_
              refine pm_imul hG dX12_sheet_104 ?_
              refine pm_iloadi hG dX12_sheet_105 rfl ?_
              refine pm_iadd hG dX12_sheet_107 ?_
              refine pm_iconst (v := 0) hG dX12_sheet_108 (by decide) ?_
              refine pm_iast hG dX12_sheet_109 rfl (vp_in_iff.mpr (by revert c2; simp only [Int32.lt_iff_toInt_lt, Int32.le_iff_toInt_le, ← Int32.toInt_inj, Int32.toInt_zero, Int32.toInt_add, Int32.toInt_mul, Int32.toInt_sub, Int.bmod_def, L_15, L_24, L_3]; omega)) ?_
              refine pm_iincX (v := 16) (loc' := [some (.ref (B + 54)), some (.int za), some (.int zb), some (.int zc), some (.int 16)]) hG dX12_sheet_110 rfl (by rfl) (by decide) (pm_c1b rfl) rfl ?_
              refine pm_goto (tgt := 90) hG dX12_sheet_113 rfl ?_
              refine pm_iloadi hG dX12_sheet_90 rfl ?_
              refine pm_bipush (v := 24) hG dX12_sheet_92 (by decide) ?_
              refine pm_icmp_ge (tgt := 116) hG dX12_sheet_94 rfl (fun q => absurd q (by decide)) (fun _ => ?_)
              refine pm_aloadn hG dX12_sheet_97 rfl ?_
              refine pm_getf hG dX12_sheet_98 (flX12_61 _ rfl) rfl rfl ?_
              refine pm_bipush (v := 24) hG dX12_sheet_101 (by decide) ?_
              refine pm_iloadn hG dX12_sheet_103 rfl ?_
              refine pm_imul hG dX12_sheet_104 ?_
              refine pm_iloadi hG dX12_sheet_105 rfl ?_
              refine pm_iadd hG dX12_sheet_107 ?_
              refine pm_iconst (v := 0) hG dX12_sheet_108 (by decide) ?_
              refine pm_iast hG dX12_sheet_109 rfl (vp_in_iff.mpr (by revert c2; simp only [Int32.lt_iff_toInt_lt, Int32.le_iff_toInt_le, ← Int32.toInt_inj, Int32.toInt_zero, Int32.toInt_add, Int32.toInt_mul, Int32.toInt_sub, Int.bmod_def, L_16, L_24, L_3]; omega)) ?_
              refine pm_iincX (v := 17) (loc' := [some (.ref (B + 54)), some (.int za), some (.int zb), some (.int zc), some (.int 17)]) hG dX12_sheet_110 rfl (by rfl) (by decide) (pm_c1b rfl) rfl ?_
              refine pm_goto (tgt := 90) hG dX12_sheet_113 rfl ?_
              refine pm_iloadi hG dX12_sheet_90 rfl ?_
              refine pm_bipush (v := 24) hG dX12_sheet_92 (by decide) ?_
              refine pm_icmp_ge (tgt := 116) hG dX12_sheet_94 rfl (fun q => absurd q (by decide)) (fun _ => ?_)
              refine pm_aloadn hG dX12_sheet_97 rfl ?_
              refine pm_getf hG dX12_sheet_98 (flX12_61 _ rfl) rfl rfl ?_
              refine pm_bipush (v := 24) hG dX12_sheet_101 (by decide) ?_
              refine pm_iloadn hG dX12_sheet_103 rfl ?_
              refine pm_imul hG dX12_sheet_104 ?_
              refine pm_iloadi hG dX12_sheet_105 rfl ?_
              refine pm_iadd hG dX12_sheet_107 ?_
              refine pm_iconst (v := 0) hG dX12_sheet_108 (by decide) ?_
              refine pm_iast hG dX12_sheet_109 rfl (vp_in_iff.mpr (by revert c2; simp only [Int32.lt_iff_toInt_lt, Int32.le_iff_toInt_le, ← Int32.toInt_inj, Int32.toInt_zero, Int32.toInt_add, Int32.toInt_mul, Int32.toInt_sub, Int.bmod_def, L_17, L_24, L_3]; omega)) ?_
              refine pm_iincX (v := 18) (loc' := [some (.ref (B + 54)), some (.int za), some (.int zb), some (.int zc), some (.int 18)]) hG dX12_sheet_110 rfl (by rfl) (by decide) (pm_c1b rfl) rfl ?_
              refine pm_goto (tgt := 90) hG dX12_sheet_113 rfl ?_
              refine pm_iloadi hG dX12_sheet_90 rfl ?_
              refine pm_bipush (v := 24) hG dX12_sheet_92 (by decide) ?_
              refine pm_icmp_ge (tgt := 116) hG dX12_sheet_94 rfl (fun q => absurd q (by decide)) (fun _ => ?_)
              refine pm_aloadn hG dX12_sheet_97 rfl ?_
              refine pm_getf hG dX12_sheet_98 (flX12_61 _ rfl) rfl rfl ?_
              refine pm_bipush (v := 24) hG dX12_sheet_101 (by decide) ?_
              refine pm_iloadn hG dX12_sheet_103 rfl ?_
              refine pm_imul hG dX12_sheet_104 ?_
              refine pm_iloadi hG dX12_sheet_105 rfl ?_
              refine pm_iadd hG dX12_sheet_107 ?_
              refine pm_iconst (v := 0) hG dX12_sheet_108 (by decide) ?_
              refine pm_iast hG dX12_sheet_109 rfl (vp_in_iff.mpr (by revert c2; simp only [Int32.lt_iff_toInt_lt, Int32.le_iff_toInt_le, ← Int32.toInt_inj, Int32.toInt_zero, Int32.toInt_add, Int32.toInt_mul, Int32.toInt_sub, Int.bmod_def, L_18, L_24, L_3]; omega)) ?_
              refine pm_iincX (v := 19) (loc' := [some (.ref (B + 54)), some (.int za), some (.int zb), some (.int zc), some (.int 19)]) hG dX12_sheet_110 rfl (by rfl) (by decide) (pm_c1b rfl) rfl ?_
              refine pm_goto (tgt := 90) hG dX12_sheet_113 rfl ?_
              refine pm_iloadi hG dX12_sheet_90 rfl ?_
              refine pm_bipush (v := 24) hG dX12_sheet_92 (by decide) ?_
              refine pm_icmp_ge (tgt := 116) hG dX12_sheet_94 rfl (fun q => absurd q (by decide)) (fun _ => ?_)
              refine pm_aloadn hG dX12_sheet_97 rfl ?_
              refine pm_getf hG dX12_sheet_98 (flX12_61 _ rfl) rfl rfl ?_
              refine pm_bipush (v := 24) hG dX12_sheet_101 (by decide) ?_
              refine pm_iloadn hG dX12_sheet_103 rfl ?_
              refine pm_imul hG dX12_sheet_104 ?_
              refine pm_iloadi hG dX12_sheet_105 rfl ?_
              refine pm_iadd hG dX12_sheet_107 ?_
              refine pm_iconst (v := 0) hG dX12_sheet_108 (by decide) ?_
              refine pm_iast hG dX12_sheet_109 rfl (vp_in_iff.mpr (by revert c2; simp only [Int32.lt_iff_toInt_lt, Int32.le_iff_toInt_le, ← Int32.toInt_inj, Int32.toInt_zero, Int32.toInt_add, Int32.toInt_mul, Int32.toInt_sub, Int.bmod_def, L_19, L_24, L_3]; omega)) ?_
              refine pm_iincX (v := 20) (loc' := [some (.ref (B + 54)), some (.int za), some (.int zb), some (.int zc), some (.int 20)]) hG dX12_sheet_110 rfl (by rfl) (by decide) (pm_c1b rfl) rfl ?_
              refine pm_goto (tgt := 90) hG dX12_sheet_113 rfl ?_
              refine pm_iloadi hG dX12_sheet_90 rfl ?_
              refine pm_bipush (v := 24) hG dX12_sheet_92 (by decide) ?_
              refine pm_icmp_ge (tgt := 116) hG dX12_sheet_94 rfl (fun q => absurd q (by decide)) (fun _ => ?_)
              refine pm_aloadn hG dX12_sheet_97 rfl ?_
              refine pm_getf hG dX12_sheet_98 (flX12_61 _ rfl) rfl rfl ?_
              refine pm_bipush (v := 24) hG dX12_sheet_101 (by decide) ?_
              refine pm_iloadn hG dX12_sheet_103 rfl ?_
              refine pm_imul hG dX12_sheet_104 ?_
              refine pm_iloadi hG dX12_sheet_105 rfl ?_
              refine pm_iadd hG dX12_sheet_107 ?_
              refine pm_iconst (v := 0) hG dX12_sheet_108 (by decide) ?_
              refine pm_iast hG dX12_sheet_109 rfl (vp_in_iff.mpr (by revert c2; simp only [Int32.lt_iff_toInt_lt, Int32.le_iff_toInt_le, ← Int32.toInt_inj, Int32.toInt_zero, Int32.toInt_add, Int32.toInt_mul, Int32.toInt_sub, Int.bmod_def, L_20, L_24, L_3]; omega)) ?_
              refine pm_iincX (v := 21) (loc' := [some (.ref (B + 54)), some (.int za), some (.int zb), some (.int zc), some (.int 21)]) hG dX12_sheet_110 rfl (by rfl) (by decide) (pm_c1b rfl) rfl ?_
              refine pm_goto (tgt := 90) hG dX12_sheet_113 rfl ?_
              refine pm_iloadi hG dX12_sheet_90 rfl ?_
              refine pm_bipush (v := 24) hG dX12_sheet_92 (by decide) ?_
              refine pm_icmp_ge (tgt := 116) hG dX12_sheet_94 rfl (fun q => absurd q (by decide)) (fun _ => ?_)
              refine pm_aloadn hG dX12_sheet_97 rfl ?_
              refine pm_getf hG dX12_sheet_98 (flX12_61 _ rfl) rfl rfl ?_
              refine pm_bipush (v := 24) hG dX12_sheet_101 (by decide) ?_
              refine pm_iloadn hG dX12_sheet_103 rfl ?_
              refine pm_imul hG dX12_sheet_104 ?_
              refine pm_iloadi hG dX12_sheet_105 rfl ?_
              refine pm_iadd hG dX12_sheet_107 ?_
              refine pm_iconst (v := 0) hG dX12_sheet_108 (by decide) ?_
              refine pm_iast hG dX12_sheet_109 rfl (vp_in_iff.mpr (by revert c2; simp only [Int32.lt_iff_toInt_lt, Int32.le_iff_toInt_le, ← Int32.toInt_inj, Int32.toInt_zero, Int32.toInt_add, Int32.toInt_mul, Int32.toInt_sub, Int.bmod_def, L_21, L_24, L_3]; omega)) ?_
              refine pm_iincX (v := 22) (loc' := [some (.ref (B + 54)), some (.int za), some (.int zb), some (.int zc), some (.int 22)]) hG dX12_sheet_110 rfl (by rfl) (by decide) (pm_c1b rfl) rfl ?_
              refine pm_goto (tgt := 90) hG dX12_sheet_113 rfl ?_
              refine pm_iloadi hG dX12_sheet_90 rfl ?_
              refine pm_bipush (v := 24) hG dX12_sheet_92 (by decide) ?_
              refine pm_icmp_ge (tgt := 116) hG dX12_sheet_94 rfl (fun q => absurd q (by decide)) (fun _ => ?_)
              refine pm_aloadn hG dX12_sheet_97 rfl ?_
              refine pm_getf hG dX12_sheet_98 (flX12_61 _ rfl) rfl rfl ?_
              refine pm_bipush (v := 24) hG dX12_sheet_101 (by decide) ?_
              refine pm_iloadn hG dX12_sheet_103 rfl ?_
              refine pm_imul hG dX12_sheet_104 ?_
              refine pm_iloadi hG dX12_sheet_105 rfl ?_
              refine pm_iadd hG dX12_sheet_107 ?_
              refine pm_iconst (v := 0) hG dX12_sheet_108 (by decide) ?_
              refine pm_iast hG dX12_sheet_109 rfl (vp_in_iff.mpr (by revert c2; simp only [Int32.lt_iff_toInt_lt, Int32.le_iff_toInt_le, ← Int32.toInt_inj, Int32.toInt_zero, Int32.toInt_add, Int32.toInt_mul, Int32.toInt_sub, Int.bmod_def, L_22, L_24, L_3]; omega)) ?_
              refine pm_iincX (v := 23) (loc' := [some (.ref (B + 54)), some (.int za), some (.int zb), some (.int zc), some (.int 23)]) hG dX12_sheet_110 rfl (by rfl) (by decide) (pm_c1b rfl) rfl ?_
              refine pm_goto (tgt := 90) hG dX12_sheet_113 rfl ?_
              refine pm_iloadi hG dX12_sheet_90 rfl ?_
              refine pm_bipush (v := 24) hG dX12_sheet_92 (by decide) ?_
              refine pm_icmp_ge (tgt := 116) hG dX12_sheet_94 rfl (fun q => absurd q (by decide)) (fun _ => ?_)
              refine pm_aloadn hG dX12_sheet_97 rfl ?_
              refine pm_getf hG dX12_sheet_98 (flX12_61 _ rfl) rfl rfl ?_
              refine pm_bipush (v := 24) hG dX12_sheet_101 (by decide) ?_
              refine pm_iloadn hG dX12_sheet_103 rfl ?_
              refine pm_imul hG dX12_sheet_104 ?_
              refine pm_iloadi hG dX12_sheet_105 rfl ?_
              refine pm_iadd hG dX12_sheet_107 ?_
              refine pm_iconst (v := 0) hG dX12_sheet_108 (by decide) ?_
              refine pm_iast hG dX12_sheet_109 rfl (vp_in_iff.mpr (by revert c2; simp only [Int32.lt_iff_toInt_lt, Int32.le_iff_toInt_le, ← Int32.toInt_inj, Int32.toInt_zero, Int32.toInt_add, Int32.toInt_mul, Int32.toInt_sub, Int.bmod_def, L_23, L_24, L_3]; omega)) ?_
              refine pm_iincX (v := 24) (loc' := [some (.ref (B + 54)), some (.int za), some (.int zb), some (.int zc), some (.int 24)]) hG dX12_sheet_110 rfl (by rfl) (by decide) (pm_c1b rfl) rfl ?_
              refine pm_goto (tgt := 90) hG dX12_sheet_113 rfl ?_
              refine pm_iloadi hG dX12_sheet_90 rfl ?_
              refine pm_bipush (v := 24) hG dX12_sheet_92 (by decide) ?_
              refine pm_icmp_ge (tgt := 116) hG dX12_sheet_94 rfl (fun _ => ?_) (fun q => absurd q (by decide))
              refine pm_iconst (v := 1) hG dX12_sheet_116 (by decide) ?_
              exact pm_iret hG hF dX12_sheet_117 rfl (by decide) (by decide) ⟨_, rfl, (by clear hF hR hG; first | rfl | (unfold v_sheet; (repeat' split) <;> first | rfl | (exfalso; simp only [Int32.lt_iff_toInt_lt, Int32.le_iff_toInt_le, ← Int32.toInt_inj, Int32.toInt_zero, L_1, L_16, L_24, L_3, L_32, L_8, L_m1000001, L_m1000003] at *; omega) | (apply Int32.toInt_inj.mp; simp only [Int32.lt_iff_toInt_lt, Int32.le_iff_toInt_le, ← Int32.toInt_inj, Int32.toInt_zero, L_1, L_16, L_24, L_3, L_32, L_8, L_m1000001, L_m1000003] at *; omega)))⟩
            · refine pm_aloadn hG dX12_sheet_59 rfl ?_
              refine pm_iconst (v := 1) hG dX12_sheet_60 (by decide) ?_
              refine pm_callV (As := [.int 1]) (rest := []) hG hR dX12_sheet_61 (lkX12_80 _ rfl) okV_X12_finds rfl rfl (fm_X12_finds_2 (d := 2) (by decide)) rfl rfl hdd (by decide) (by decide) (by decide) (pm_ki (fun v σ' cnt' hq => ?_))
              obtain ⟨rfl, rfl, rfl⟩ := hq
              exact pm_iret hG hF dX12_sheet_64 rfl (by decide) (by decide) ⟨_, rfl, (by clear hF hR hG; first | rfl | (unfold v_sheet; (repeat' split) <;> first | rfl | (exfalso; simp only [Int32.lt_iff_toInt_lt, Int32.le_iff_toInt_le, ← Int32.toInt_inj, Int32.toInt_zero, L_1, L_16, L_24, L_3, L_32, L_8, L_m1000001, L_m1000003] at *; omega) | (apply Int32.toInt_inj.mp; simp only [Int32.lt_iff_toInt_lt, Int32.le_iff_toInt_le, ← Int32.toInt_inj, Int32.toInt_zero, L_1, L_16, L_24, L_3, L_32, L_8, L_m1000001, L_m1000003] at *; omega)))⟩
          · refine pm_aloadn hG dX12_sheet_43 rfl ?_
            refine pm_iconst (v := 3) hG dX12_sheet_44 (by decide) ?_
            refine pm_callV (As := [.int 3]) (rest := []) hG hR dX12_sheet_45 (lkX12_80 _ rfl) okV_X12_finds rfl rfl (fm_X12_finds_41 (d := 2) (by decide)) rfl rfl hdd (by decide) (by decide) (by decide) (pm_ki (fun v σ' cnt' hq => ?_))
            obtain ⟨rfl, rfl, rfl⟩ := hq
            exact pm_iret hG hF dX12_sheet_48 rfl (by decide) (by decide) ⟨_, rfl, (by clear hF hR hG; first | rfl | (unfold v_sheet; (repeat' split) <;> first | rfl | (exfalso; simp only [Int32.lt_iff_toInt_lt, Int32.le_iff_toInt_le, ← Int32.toInt_inj, Int32.toInt_zero, L_1, L_16, L_24, L_3, L_32, L_8, L_m1000001, L_m1000003] at *; omega) | (apply Int32.toInt_inj.mp; simp only [Int32.lt_iff_toInt_lt, Int32.le_iff_toInt_le, ← Int32.toInt_inj, Int32.toInt_zero, L_1, L_16, L_24, L_3, L_32, L_8, L_m1000001, L_m1000003] at *; omega)))⟩
        · refine pm_iloadn hG dX12_sheet_23 rfl ?_
          refine pm_bipush (v := 32) hG dX12_sheet_24 (by decide) ?_
          refine pm_icmp_eq (tgt := 35) hG dX12_sheet_26 rfl (fun c10 => ?_) (fun c10 => ?_)
          · refine pm_iloadn hG dX12_sheet_35 rfl ?_
            refine pm_if_eq (tgt := 49) hG dX12_sheet_36 rfl (fun q => False.elim (by revert c3 c4 c7 c10 q; simp only [Int32.lt_iff_toInt_lt, Int32.le_iff_toInt_le, ← Int32.toInt_inj, Int32.toInt_zero, L_16, L_32, L_8]; omega)) (fun _ => ?_)
            refine pm_iloadn hG dX12_sheet_39 rfl ?_
            refine pm_if_ge (tgt := 49) hG dX12_sheet_40 rfl (fun c11 => ?_) (fun c11 => ?_)
            · refine pm_iloadn hG dX12_sheet_49 rfl ?_
              refine pm_if_eq (tgt := 65) hG dX12_sheet_50 rfl (fun q => False.elim (by revert c3 c4 c7 c10 q; simp only [Int32.lt_iff_toInt_lt, Int32.le_iff_toInt_le, ← Int32.toInt_inj, Int32.toInt_zero, L_16, L_32, L_8]; omega)) (fun _ => ?_)
              refine pm_iloadn hG dX12_sheet_53 rfl ?_
              refine pm_bipush (v := 24) hG dX12_sheet_54 (by decide) ?_
              refine pm_icmp_le (tgt := 65) hG dX12_sheet_56 rfl (fun c12 => ?_) (fun c12 => ?_)
              · refine pm_aloadn hG dX12_sheet_65 rfl ?_
                refine pm_getf hG dX12_sheet_66 (flX12_55 _ rfl) rfl rfl ?_
                refine pm_iloadn hG dX12_sheet_69 rfl ?_
                refine pm_iloadn hG dX12_sheet_70 rfl ?_
                refine pm_iast hG dX12_sheet_71 rfl (vp_in_iff.mpr (by revert c2; simp only [Int32.lt_iff_toInt_lt, Int32.le_iff_toInt_le, ← Int32.toInt_inj, Int32.toInt_zero, Int32.toInt_add, Int32.toInt_mul, Int32.toInt_sub, Int.bmod_def, L_3]; omega)) ?_
                refine pm_aloadn hG dX12_sheet_72 rfl ?_
                refine pm_getf hG dX12_sheet_73 (flX12_58 _ rfl) rfl rfl ?_
                refine pm_iloadn hG dX12_sheet_76 rfl ?_
                refine pm_iloadn hG dX12_sheet_77 rfl ?_
                refine pm_if_ne (tgt := 85) hG dX12_sheet_78 rfl (fun _ => ?_) (fun q => False.elim (by revert c3 c4 c7 c10 q; simp only [Int32.lt_iff_toInt_lt, Int32.le_iff_toInt_le, ← Int32.toInt_inj, Int32.toInt_zero, L_16, L_32, L_8]; omega))
                refine pm_iloadn hG dX12_sheet_85 rfl ?_
                refine pm_iast hG dX12_sheet_86 rfl (vp_in_iff.mpr (by revert c2; simp only [Int32.lt_iff_toInt_lt, Int32.le_iff_toInt_le, ← Int32.toInt_inj, Int32.toInt_zero, Int32.toInt_add, Int32.toInt_mul, Int32.toInt_sub, Int.bmod_def, L_3]; omega)) ?_
                refine pm_iconst (v := 0) hG dX12_sheet_87 (by decide) ?_
                refine pm_istoreXi (loc' := [some (.ref (B + 54)), some (.int za), some (.int zb), some (.int zc), some (.int 0)]) hG dX12_sheet_88 (by decide) (pm_c1b rfl) rfl ?_
                refine pm_iloadi hG dX12_sheet_90 rfl ?_
                refine pm_bipush (v := 24) hG dX12_sheet_92 (by decide) ?_
                refine pm_icmp_ge (tgt := 116) hG dX12_sheet_94 rfl (fun q => absurd q (by decide)) (fun _ => ?_)
                refine pm_aloadn hG dX12_sheet_97 rfl ?_
                refine pm_getf hG dX12_sheet_98 (flX12_61 _ rfl) rfl rfl ?_
                refine pm_bipush (v := 24) hG dX12_sheet_101 (by decide) ?_
                refine pm_iloadn hG dX12_sheet_103 rfl ?_
                refine pm_imul hG dX12_sheet_104 ?_
                refine pm_iloadi hG dX12_sheet_105 rfl ?_
                refine pm_iadd hG dX12_sheet_107 ?_
                refine pm_top (v := 24 * za) (Int32.add_zero _) ?_
                refine pm_iconst (v := 0) hG dX12_sheet_108 (by decide) ?_
                refine pm_iast hG dX12_sheet_109 rfl (vp_in_iff.mpr (by revert c2; simp only [Int32.lt_iff_toInt_lt, Int32.le_iff_toInt_le, ← Int32.toInt_inj, Int32.toInt_zero, Int32.toInt_add, Int32.toInt_mul, Int32.toInt_sub, Int.bmod_def, L_24, L_3]; omega)) ?_
                refine pm_iincX (v := 1) (loc' := [some (.ref (B + 54)), some (.int za), some (.int zb), some (.int zc), some (.int 1)]) hG dX12_sheet_110 rfl (by rfl) (by decide) (pm_c1b rfl) rfl ?_
                refine pm_goto (tgt := 90) hG dX12_sheet_113 rfl ?_
                refine pm_iloadi hG dX12_sheet_90 rfl ?_
                refine pm_bipush (v := 24) hG dX12_sheet_92 (by decide) ?_
                refine pm_icmp_ge (tgt := 116) hG dX12_sheet_94 rfl (fun q => absurd q (by decide)) (fun _ => ?_)
                refine pm_aloadn hG dX12_sheet_97 rfl ?_
                refine pm_getf hG dX12_sheet_98 (flX12_61 _ rfl) rfl rfl ?_
                refine pm_bipush (v := 24) hG dX12_sheet_101 (by decide) ?_
                refine pm_iloadn hG dX12_sheet_103 rfl ?_
                refine pm_imul hG dX12_sheet_104 ?_
                refine pm_iloadi hG dX12_sheet_105 rfl ?_
                refine pm_iadd hG dX12_sheet_107 ?_
                refine pm_iconst (v := 0) hG dX12_sheet_108 (by decide) ?_
                refine pm_iast hG dX12_sheet_109 rfl (vp_in_iff.mpr (by revert c2; simp only [Int32.lt_iff_toInt_lt, Int32.le_iff_toInt_le, ← Int32.toInt_inj, Int32.toInt_zero, Int32.toInt_add, Int32.toInt_mul, Int32.toInt_sub, Int.bmod_def, L_1, L_24, L_3]; omega)) ?_
                refine pm_iincX (v := 2) (loc' := [some (.ref (B + 54)), some (.int za), some (.int zb), some (.int zc), some (.int 2)]) hG dX12_sheet_110 rfl (by rfl) (by decide) (pm_c1b rfl) rfl ?_
                refine pm_goto (tgt := 90) hG dX12_sheet_113 rfl ?_
                refine pm_iloadi hG dX12_sheet_90 rfl ?_
                refine pm_bipush (v := 24) hG dX12_sheet_92 (by decide) ?_
                refine pm_icmp_ge (tgt := 116) hG dX12_sheet_94 rfl (fun q => absurd q (by decide)) (fun _ => ?_)
                refine pm_aloadn hG dX12_sheet_97 rfl ?_
                refine pm_getf hG dX12_sheet_98 (flX12_61 _ rfl) rfl rfl ?_
                refine pm_bipush (v := 24) hG dX12_sheet_101 (by decide) ?_
                refine pm_iloadn hG dX12_sheet_103 rfl ?_
                refine pm_imul hG dX12_sheet_104 ?_
                refine pm_iloadi hG dX12_sheet_105 rfl ?_
                refine pm_iadd hG dX12_sheet_107 ?_
                refine pm_iconst (v := 0) hG dX12_sheet_108 (by decide) ?_
                refine pm_iast hG dX12_sheet_109 rfl (vp_in_iff.mpr (by revert c2; simp only [Int32.lt_iff_toInt_lt, Int32.le_iff_toInt_le, ← Int32.toInt_inj, Int32.toInt_zero, Int32.toInt_add, Int32.toInt_mul, Int32.toInt_sub, Int.bmod_def, L_2, L_24, L_3]; omega)) ?_
                refine pm_iincX (v := 3) (loc' := [some (.ref (B + 54)), some (.int za), some (.int zb), some (.int zc), some (.int 3)]) hG dX12_sheet_110 rfl (by rfl) (by decide) (pm_c1b rfl) rfl ?_
                refine pm_goto (tgt := 90) hG dX12_sheet_113 rfl ?_
                refine pm_iloadi hG dX12_sheet_90 rfl ?_
                refine pm_bipush (v := 24) hG dX12_sheet_92 (by decide) ?_
                refine pm_icmp_ge (tgt := 116) hG dX12_sheet_94 rfl (fun q => absurd q (by decide)) (fun _ => ?_)
                refine pm_aloadn hG dX12_sheet_97 rfl ?_
                refine pm_getf hG dX12_sheet_98 (flX12_61 _ rfl) rfl rfl ?_
                refine pm_bipush (v := 24) hG dX12_sheet_101 (by decide) ?_
                refine pm_iloadn hG dX12_sheet_103 rfl ?_
                refine pm_imul hG dX12_sheet_104 ?_
                refine pm_iloadi hG dX12_sheet_105 rfl ?_
                refine pm_iadd hG dX12_sheet_107 ?_
                refine pm_iconst (v := 0) hG dX12_sheet_108 (by decide) ?_
                refine pm_iast hG dX12_sheet_109 rfl (vp_in_iff.mpr (by revert c2; simp only [Int32.lt_iff_toInt_lt, Int32.le_iff_toInt_le, ← Int32.toInt_inj, Int32.toInt_zero, Int32.toInt_add, Int32.toInt_mul, Int32.toInt_sub, Int.bmod_def, L_24, L_3]; omega)) ?_
                refine pm_iincX (v := 4) (loc' := [some (.ref (B + 54)), some (.int za), some (.int zb), some (.int zc), some (.int 4)]) hG dX12_sheet_110 rfl (by rfl) (by decide) (pm_c1b rfl) rfl ?_
                refine pm_goto (tgt := 90) hG dX12_sheet_113 rfl ?_
                refine pm_iloadi hG dX12_sheet_90 rfl ?_
                refine pm_bipush (v := 24) hG dX12_sheet_92 (by decide) ?_
                refine pm_icmp_ge (tgt := 116) hG dX12_sheet_94 rfl (fun q => absurd q (by decide)) (fun _ => ?_)
                refine pm_aloadn hG dX12_sheet_97 rfl ?_
                refine pm_getf hG dX12_sheet_98 (flX12_61 _ rfl) rfl rfl ?_
                refine pm_bipush (v := 24) hG dX12_sheet_101 (by decide) ?_
                refine pm_iloadn hG dX12_sheet_103 rfl ?_
                refine pm_imul hG dX12_sheet_104 ?_
                refine pm_iloadi hG dX12_sheet_105 rfl ?_
                refine pm_iadd hG dX12_sheet_107 ?_
                refine pm_iconst (v := 0) hG dX12_sheet_108 (by decide) ?_
                refine pm_iast hG dX12_sheet_109 rfl (vp_in_iff.mpr (by revert c2; simp only [Int32.lt_iff_toInt_lt, Int32.le_iff_toInt_le, ← Int32.toInt_inj, Int32.toInt_zero, Int32.toInt_add, Int32.toInt_mul, Int32.toInt_sub, Int.bmod_def, L_24, L_3, L_4]; omega)) ?_
                refine pm_iincX (v := 5) (loc' := [some (.ref (B + 54)), some (.int za), some (.int zb), some (.int zc), some (.int 5)]) hG dX12_sheet_110 rfl (by rfl) (by decide) (pm_c1b rfl) rfl ?_
                refine pm_goto (tgt := 90) hG dX12_sheet_113 rfl ?_
                refine pm_iloadi hG dX12_sheet_90 rfl ?_
                refine pm_bipush (v := 24) hG dX12_sheet_92 (by decide) ?_
                refine pm_icmp_ge (tgt := 116) hG dX12_sheet_94 rfl (fun q => absurd q (by decide)) (fun _ => ?_)
                refine pm_aloadn hG dX12_sheet_97 rfl ?_
                refine pm_getf hG dX12_sheet_98 (flX12_61 _ rfl) rfl rfl ?_
                refine pm_bipush (v := 24) hG dX12_sheet_101 (by decide) ?_
                refine pm_iloadn hG dX12_sheet_103 rfl ?_
                refine pm_imul hG dX12_sheet_104 ?_
                refine pm_iloadi hG dX12_sheet_105 rfl ?_
                refine pm_iadd hG dX12_sheet_107 ?_
                refine pm_iconst (v := 0) hG dX12_sheet_108 (by decide) ?_
                refine pm_iast hG dX12_sheet_109 rfl (vp_in_iff.mpr (by revert c2; simp only [Int32.lt_iff_toInt_lt, Int32.le_iff_toInt_le, ← Int32.toInt_inj, Int32.toInt_zero, Int32.toInt_add, Int32.toInt_mul, Int32.toInt_sub, Int.bmod_def, L_24, L_3, L_5]; omega)) ?_
                refine pm_iincX (v := 6) (loc' := [some (.ref (B + 54)), some (.int za), some (.int zb), some (.int zc), some (.int 6)]) hG dX12_sheet_110 rfl (by rfl) (by decide) (pm_c1b rfl) rfl ?_
                refine pm_goto (tgt := 90) hG dX12_sheet_113 rfl ?_
                refine pm_iloadi hG dX12_sheet_90 rfl ?_
                refine pm_bipush (v := 24) hG dX12_sheet_92 (by decide) ?_
                refine pm_icmp_ge (tgt := 116) hG dX12_sheet_94 rfl (fun q => absurd q (by decide)) (fun _ => ?_)
                refine pm_aloadn hG dX12_sheet_97 rfl ?_
                refine pm_getf hG dX12_sheet_98 (flX12_61 _ rfl) rfl rfl ?_
                refine pm_bipush (v := 24) hG dX12_sheet_101 (by decide) ?_
                refine pm_iloadn hG dX12_sheet_103 rfl ?_
                refine pm_imul hG dX12_sheet_104 ?_
                refine pm_iloadi hG dX12_sheet_105 rfl ?_
                refine pm_iadd hG dX12_sheet_107 ?_
                refine pm_iconst (v := 0) hG dX12_sheet_108 (by decide) ?_
                refine pm_iast hG dX12_sheet_109 rfl (vp_in_iff.mpr (by revert c2; simp only [Int32.lt_iff_toInt_lt, Int32.le_iff_toInt_le, ← Int32.toInt_inj, Int32.toInt_zero, Int32.toInt_add, Int32.toInt_mul, Int32.toInt_sub, Int.bmod_def, L_24, L_3, L_6]; omega)) ?_
                refine pm_iincX (v := 7) (loc' := [some (.ref (B + 54)), some (.int za), some (.int zb), some (.int zc), some (.int 7)]) hG dX12_sheet_110 rfl (by rfl) (by decide) (pm_c1b rfl) rfl ?_
                refine pm_goto (tgt := 90) hG dX12_sheet_113 rfl ?_
                refine pm_iloadi hG dX12_sheet_90 rfl ?_
                refine pm_bipush (v := 24) hG dX12_sheet_92 (by decide) ?_
                refine pm_icmp_ge (tgt := 116) hG dX12_sheet_94 rfl (fun q => absurd q (by decide)) (fun _ => ?_)
                refine pm_aloadn hG dX12_sheet_97 rfl ?_
                refine pm_getf hG dX12_sheet_98 (flX12_61 _ rfl) rfl rfl ?_
                refine pm_bipush (v := 24) hG dX12_sheet_101 (by decide) ?_
                refine pm_iloadn hG dX12_sheet_103 rfl ?_
                refine pm_imul hG dX12_sheet_104 ?_
                refine pm_iloadi hG dX12_sheet_105 rfl ?_
                refine pm_iadd hG dX12_sheet_107 ?_
                refine pm_iconst (v := 0) hG dX12_sheet_108 (by decide) ?_
                refine pm_iast hG dX12_sheet_109 rfl (vp_in_iff.mpr (by revert c2; simp only [Int32.lt_iff_toInt_lt, Int32.le_iff_toInt_le, ← Int32.toInt_inj, Int32.toInt_zero, Int32.toInt_add, Int32.toInt_mul, Int32.toInt_sub, Int.bmod_def, L_24, L_3, L_7]; omega)) ?_
                refine pm_iincX (v := 8) (loc' := [some (.ref (B + 54)), some (.int za), some (.int zb), some (.int zc), some (.int 8)]) hG dX12_sheet_110 rfl (by rfl) (by decide) (pm_c1b rfl) rfl ?_
                refine pm_goto (tgt := 90) hG dX12_sheet_113 rfl ?_
                refine pm_iloadi hG dX12_sheet_90 rfl ?_
                refine pm_bipush (v := 24) hG dX12_sheet_92 (by decide) ?_
                refine pm_icmp_ge (tgt := 116) hG dX12_sheet_94 rfl (fun q => absurd q (by decide)) (fun _ => ?_)
                refine pm_aloadn hG dX12_sheet_97 rfl ?_
                refine pm_getf hG dX12_sheet_98 (flX12_61 _ rfl) rfl rfl ?_
                refine pm_bipush (v := 24) hG dX12_sheet_101 (by decide) ?_
                refine pm_iloadn hG dX12_sheet_103 rfl ?_
                refine pm_imul hG dX12_sheet_104 ?_
                refine pm_iloadi hG dX12_sheet_105 rfl ?_
                refine pm_iadd hG dX12_sheet_107 ?_
                refine pm_iconst (v := 0) hG dX12_sheet_108 (by decide) ?_
                refine pm_iast hG dX12_sheet_109 rfl (vp_in_iff.mpr (by revert c2; simp only [Int32.lt_iff_toInt_lt, Int32.le_iff_toInt_le, ← Int32.toInt_inj, Int32.toInt_zero, Int32.toInt_add, Int32.toInt_mul, Int32.toInt_sub, Int.bmod_def, L_24, L_3, L_8]; omega)) ?_
                refine pm_iincX (v := 9) (loc' := [some (.ref (B + 54)), some (.int za), some (.int zb), some (.int zc), some (.int 9)]) hG dX12_sheet_110 rfl (by rfl) (by decide) (pm_c1b rfl) rfl ?_
                refine pm_goto (tgt := 90) hG dX12_sheet_113 rfl ?_
                refine pm_iloadi hG dX12_sheet_90 rfl ?_
                refine pm_bipush (v := 24) hG dX12_sheet_92 (by decide) ?_
                refine pm_icmp_ge (tgt := 116) hG dX12_sheet_94 rfl (fun q => absurd q (by decide)) (fun _ => ?_)
                refine pm_aloadn hG dX12_sheet_97 rfl ?_
                refine pm_getf hG dX12_sheet_98 (flX12_61 _ rfl) rfl rfl ?_
                refine pm_bipush (v := 24) hG dX12_sheet_101 (by decide) ?_
                refine pm_iloadn hG dX12_sheet_103 rfl ?_
                refine pm_imul hG dX12_sheet_104 ?_
                refine pm_iloadi hG dX12_sheet_105 rfl ?_
                refine pm_iadd hG dX12_sheet_107 ?_
                refine pm_iconst (v := 0) hG dX12_sheet_108 (by decide) ?_
                refine pm_iast hG dX12_sheet_109 rfl (vp_in_iff.mpr (by revert c2; simp only [Int32.lt_iff_toInt_lt, Int32.le_iff_toInt_le, ← Int32.toInt_inj, Int32.toInt_zero, Int32.toInt_add, Int32.toInt_mul, Int32.toInt_sub, Int.bmod_def, L_24, L_3, L_9]; omega)) ?_
                refine pm_iincX (v := 10) (loc' := [some (.ref (B + 54)), some (.int za), some (.int zb), some (.int zc), some (.int 10)]) hG dX12_sheet_110 rfl (by rfl) (by decide) (pm_c1b rfl) rfl ?_
                refine pm_goto (tgt := 90) hG dX12_sheet_113 rfl ?_
                refine pm_iloadi hG dX12_sheet_90 rfl ?_
                refine pm_bipush (v := 24) hG dX12_sheet_92 (by decide) ?_
                refine pm_icmp_ge (tgt := 116) hG dX12_sheet_94 rfl (fun q => absurd q (by decide)) (fun _ => ?_)
                refine pm_aloadn hG dX12_sheet_97 rfl ?_
                refine pm_getf hG dX12_sheet_98 (flX12_61 _ rfl) rfl rfl ?_
                refine pm_bipush (v := 24) hG dX12_sheet_101 (by decide) ?_
                refine pm_iloadn hG dX12_sheet_103 rfl ?_
                refine pm_imul hG dX12_sheet_104 ?_
                refine pm_iloadi hG dX12_sheet_105 rfl ?_
                refine pm_iadd hG dX12_sheet_107 ?_
                refine pm_iconst (v := 0) hG dX12_sheet_108 (by decide) ?_
                refine pm_iast hG dX12_sheet_109 rfl (vp_in_iff.mpr (by revert c2; simp only [Int32.lt_iff_toInt_lt, Int32.le_iff_toInt_le, ← Int32.toInt_inj, Int32.toInt_zero, Int32.toInt_add, Int32.toInt_mul, Int32.toInt_sub, Int.bmod_def, L_10, L_24, L_3]; omega)) ?_
                refine pm_iincX (v := 11) (loc' := [some (.ref (B + 54)), some (.int za), some (.int zb), some (.int zc), some (.int 11)]) hG dX12_sheet_110 rfl (by rfl) (by decide) (pm_c1b rfl) rfl ?_
                refine pm_goto (tgt := 90) hG dX12_sheet_113 rfl ?_
                refine pm_iloadi hG dX12_sheet_90 rfl ?_
                refine pm_bipush (v := 24) hG dX12_sheet_92 (by decide) ?_
                refine pm_icmp_ge (tgt := 116) hG dX12_sheet_94 rfl (fun q => absurd q (by decide)) (fun _ => ?_)
                refine pm_aloadn hG dX12_sheet_97 rfl ?_
                refine pm_getf hG dX12_sheet_98 (flX12_61 _ rfl) rfl rfl ?_
                refine pm_bipush (v := 24) hG dX12_sheet_101 (by decide) ?_
                refine pm_iloadn hG dX12_sheet_103 rfl ?_
                refine pm_imul hG dX12_sheet_104 ?_
                refine pm_iloadi hG dX12_sheet_105 rfl ?_
                refine pm_iadd hG dX12_sheet_107 ?_
                refine pm_iconst (v := 0) hG dX12_sheet_108 (by decide) ?_
                refine pm_iast hG dX12_sheet_109 rfl (vp_in_iff.mpr (by revert c2; simp only [Int32.lt_iff_toInt_lt, Int32.le_iff_toInt_le, ← Int32.toInt_inj, Int32.toInt_zero, Int32.toInt_add, Int32.toInt_mul, Int32.toInt_sub, Int.bmod_def, L_11, L_24, L_3]; omega)) ?_
                refine pm_iincX (v := 12) (loc' := [some (.ref (B + 54)), some (.int za), some (.int zb), some (.int zc), some (.int 12)]) hG dX12_sheet_110 rfl (by rfl) (by decide) (pm_c1b rfl) rfl ?_
                refine pm_goto (tgt := 90) hG dX12_sheet_113 rfl ?_
                refine pm_iloadi hG dX12_sheet_90 rfl ?_
                refine pm_bipush (v := 24) hG dX12_sheet_92 (by decide) ?_
                refine pm_icmp_ge (tgt := 116) hG dX12_sheet_94 rfl (fun q => absurd q (by decide)) (fun _ => ?_)
                refine pm_aloadn hG dX12_sheet_97 rfl ?_
                refine pm_getf hG dX12_sheet_98 (flX12_61 _ rfl) rfl rfl ?_
                refine pm_bipush (v := 24) hG dX12_sheet_101 (by decide) ?_
                refine pm_iloadn hG dX12_sheet_103 rfl ?_
                refine pm_imul hG dX12_sheet_104 ?_
                refine pm_iloadi hG dX12_sheet_105 rfl ?_
                refine pm_iadd hG dX12_sheet_107 ?_
                refine pm_iconst (v := 0) hG dX12_sheet_108 (by decide) ?_
                refine pm_iast hG dX12_sheet_109 rfl (vp_in_iff.mpr (by revert c2; simp only [Int32.lt_iff_toInt_lt, Int32.le_iff_toInt_le, ← Int32.toInt_inj, Int32.toInt_zero, Int32.toInt_add, Int32.toInt_mul, Int32.toInt_sub, Int.bmod_def, L_12, L_24, L_3]; omega)) ?_
                refine pm_iincX (v := 13) (loc' := [some (.ref (B + 54)), some (.int za), some (.int zb), some (.int zc), some (.int 13)]) hG dX12_sheet_110 rfl (by rfl) (by decide) (pm_c1b rfl) rfl ?_
                refine pm_goto (tgt := 90) hG dX12_sheet_113 rfl ?_
                refine pm_iloadi hG dX12_sheet_90 rfl ?_
                refine pm_bipush (v := 24) hG dX12_sheet_92 (by decide) ?_
                refine pm_icmp_ge (tgt := 116) hG dX12_sheet_94 rfl (fun q => absurd q (by decide)) (fun _ => ?_)
                refine pm_aloadn hG dX12_sheet_97 rfl ?_
                refine pm_getf hG dX12_sheet_98 (flX12_61 _ rfl) rfl rfl ?_
                refine pm_bipush (v := 24) hG dX12_sheet_101 (by decide) ?_
                refine pm_iloadn hG dX12_sheet_103 rfl ?_
                refine pm_imul hG dX12_sheet_104 ?_
                refine pm_iloadi hG dX12_sheet_105 rfl ?_
                refine pm_iadd hG dX12_sheet_107 ?_
                refine pm_iconst (v := 0) hG dX12_sheet_108 (by decide) ?_
                refine pm_iast hG dX12_sheet_109 rfl (vp_in_iff.mpr (by revert c2; simp only [Int32.lt_iff_toInt_lt, Int32.le_iff_toInt_le, ← Int32.toInt_inj, Int32.toInt_zero, Int32.toInt_add, Int32.toInt_mul, Int32.toInt_sub, Int.bmod_def, L_13, L_24, L_3]; omega)) ?_
                refine pm_iincX (v := 14) (loc' := [some (.ref (B + 54)), some (.int za), some (.int zb), some (.int zc), some (.int 14)]) hG dX12_sheet_110 rfl (by rfl) (by decide) (pm_c1b rfl) rfl ?_
                refine pm_goto (tgt := 90) hG dX12_sheet_113 rfl ?_
                refine pm_iloadi hG dX12_sheet_90 rfl ?_
                refine pm_bipush (v := 24) hG dX12_sheet_92 (by decide) ?_
                refine pm_icmp_ge (tgt := 116) hG dX12_sheet_94 rfl (fun q => absurd q (by decide)) (fun _ => ?_)
                refine pm_aloadn hG dX12_sheet_97 rfl ?_
                refine pm_getf hG dX12_sheet_98 (flX12_61 _ rfl) rfl rfl ?_
                refine pm_bipush (v := 24) hG dX12_sheet_101 (by decide) ?_
                refine pm_iloadn hG dX12_sheet_103 rfl ?_
                refine pm_imul hG dX12_sheet_104 ?_
                refine pm_iloadi hG dX12_sheet_105 rfl ?_
                refine pm_iadd hG dX12_sheet_107 ?_
                refine pm_iconst (v := 0) hG dX12_sheet_108 (by decide) ?_
                refine pm_iast hG dX12_sheet_109 rfl (vp_in_iff.mpr (by revert c2; simp only [Int32.lt_iff_toInt_lt, Int32.le_iff_toInt_le, ← Int32.toInt_inj, Int32.toInt_zero, Int32.toInt_add, Int32.toInt_mul, Int32.toInt_sub, Int.bmod_def, L_14, L_24, L_3]; omega)) ?_
                refine pm_iincX (v := 15) (loc' := [some (.ref (B + 54)), some (.int za), some (.int zb), some (.int zc), some (.int 15)]) hG dX12_sheet_110 rfl (by rfl) (by decide) (pm_c1b rfl) rfl ?_
                refine pm_goto (tgt := 90) hG dX12_sheet_113 rfl ?_
                refine pm_iloadi hG dX12_sheet_90 rfl ?_
                refine pm_bipush (v := 24) hG dX12_sheet_92 (by decide) ?_
                refine pm_icmp_ge (tgt := 116) hG dX12_sheet_94 rfl (fun q => absurd q (by decide)) (fun _ => ?_)
                refine pm_aloadn hG dX12_sheet_97 rfl ?_
                refine pm_getf hG dX12_sheet_98 (flX12_61 _ rfl) rfl rfl ?_
                refine pm_bipush (v := 24) hG dX12_sheet_101 (by decide) ?_
                refine pm_iloadn hG dX12_sheet_103 rfl ?_
                refine pm_imul hG dX12_sheet_104 ?_
                refine pm_iloadi hG dX12_sheet_105 rfl ?_
                refine pm_iadd hG dX12_sheet_107 ?_
                refine pm_iconst (v := 0) hG dX12_sheet_108 (by decide) ?_
                refine pm_iast hG dX12_sheet_109 rfl (vp_in_iff.mpr (by revert c2; simp only [Int32.lt_iff_toInt_lt, Int32.le_iff_toInt_le, ← Int32.toInt_inj, Int32.toInt_zero, Int32.toInt_add, Int32.toInt_mul, Int32.toInt_sub, Int.bmod_def, L_15, L_24, L_3]; omega)) ?_
                refine pm_iincX (v := 16) (loc' := [some (.ref (B + 54)), some (.int za), some (.int zb), some (.int zc), some (.int 16)]) hG dX12_sheet_110 rfl (by rfl) (by decide) (pm_c1b rfl) rfl ?_
                refine pm_goto (tgt := 90) hG dX12_sheet_113 rfl ?_
                refine pm_iloadi hG dX12_sheet_90 rfl ?_
                refine pm_bipush (v := 24) hG dX12_sheet_92 (by decide) ?_
                refine pm_icmp_ge (tgt := 116) hG dX12_sheet_94 rfl (fun q => absurd q (by decide)) (fun _ => ?_)
                refine pm_aloadn hG dX12_sheet_97 rfl ?_
                refine pm_getf hG dX12_sheet_98 (flX12_61 _ rfl) rfl rfl ?_
                refine pm_bipush (v := 24) hG dX12_sheet_101 (by decide) ?_
                refine pm_iloadn hG dX12_sheet_103 rfl ?_
                refine pm_imul hG dX12_sheet_104 ?_
                refine pm_iloadi hG dX12_sheet_105 rfl ?_
                refine pm_iadd hG dX12_sheet_107 ?_
                refine pm_iconst (v := 0) hG dX12_sheet_108 (by decide) ?_
                refine pm_iast hG dX12_sheet_109 rfl (vp_in_iff.mpr (by revert c2; simp only [Int32.lt_iff_toInt_lt, Int32.le_iff_toInt_le, ← Int32.toInt_inj, Int32.toInt_zero, Int32.toInt_add, Int32.toInt_mul, Int32.toInt_sub, Int.bmod_def, L_16, L_24, L_3]; omega)) ?_
                refine pm_iincX (v := 17) (loc' := [some (.ref (B + 54)), some (.int za), some (.int zb), some (.int zc), some (.int 17)]) hG dX12_sheet_110 rfl (by rfl) (by decide) (pm_c1b rfl) rfl ?_
                refine pm_goto (tgt := 90) hG dX12_sheet_113 rfl ?_
                refine pm_iloadi hG dX12_sheet_90 rfl ?_
                refine pm_bipush (v := 24) hG dX12_sheet_92 (by decide) ?_
                refine pm_icmp_ge (tgt := 116) hG dX12_sheet_94 rfl (fun q => absurd q (by decide)) (fun _ => ?_)
                refine pm_aloadn hG dX12_sheet_97 rfl ?_
                refine pm_getf hG dX12_sheet_98 (flX12_61 _ rfl) rfl rfl ?_
                refine pm_bipush (v := 24) hG dX12_sheet_101 (by decide) ?_
                refine pm_iloadn hG dX12_sheet_103 rfl ?_
                refine pm_imul hG dX12_sheet_104 ?_
                refine pm_iloadi hG dX12_sheet_105 rfl ?_
                refine pm_iadd hG dX12_sheet_107 ?_
                refine pm_iconst (v := 0) hG dX12_sheet_108 (by decide) ?_
                refine pm_iast hG dX12_sheet_109 rfl (vp_in_iff.mpr (by revert c2; simp only [Int32.lt_iff_toInt_lt, Int32.le_iff_toInt_le, ← Int32.toInt_inj, Int32.toInt_zero, Int32.toInt_add, Int32.toInt_mul, Int32.toInt_sub, Int.bmod_def, L_17, L_24, L_3]; omega)) ?_
                refine pm_iincX (v := 18) (loc' := [some (.ref (B + 54)), some (.int za), some (.int zb), some (.int zc), some (.int 18)]) hG dX12_sheet_110 rfl (by rfl) (by decide) (pm_c1b rfl) rfl ?_
                refine pm_goto (tgt := 90) hG dX12_sheet_113 rfl ?_
                refine pm_iloadi hG dX12_sheet_90 rfl ?_
                refine pm_bipush (v := 24) hG dX12_sheet_92 (by decide) ?_
                refine pm_icmp_ge (tgt := 116) hG dX12_sheet_94 rfl (fun q => absurd q (by decide)) (fun _ => ?_)
                refine pm_aloadn hG dX12_sheet_97 rfl ?_
                refine pm_getf hG dX12_sheet_98 (flX12_61 _ rfl) rfl rfl ?_
                refine pm_bipush (v := 24) hG dX12_sheet_101 (by decide) ?_
                refine pm_iloadn hG dX12_sheet_103 rfl ?_
                refine pm_imul hG dX12_sheet_104 ?_
                refine pm_iloadi hG dX12_sheet_105 rfl ?_
                refine pm_iadd hG dX12_sheet_107 ?_
                refine pm_iconst (v := 0) hG dX12_sheet_108 (by decide) ?_
                refine pm_iast hG dX12_sheet_109 rfl (vp_in_iff.mpr (by revert c2; simp only [Int32.lt_iff_toInt_lt, Int32.le_iff_toInt_le, ← Int32.toInt_inj, Int32.toInt_zero, Int32.toInt_add, Int32.toInt_mul, Int32.toInt_sub, Int.bmod_def, L_18, L_24, L_3]; omega)) ?_
                refine pm_iincX (v := 19) (loc' := [some (.ref (B + 54)), some (.int za), some (.int zb), some (.int zc), some (.int 19)]) hG dX12_sheet_110 rfl (by rfl) (by decide) (pm_c1b rfl) rfl ?_
                refine pm_goto (tgt := 90) hG dX12_sheet_113 rfl ?_
                refine pm_iloadi hG dX12_sheet_90 rfl ?_
                refine pm_bipush (v := 24) hG dX12_sheet_92 (by decide) ?_
                refine pm_icmp_ge (tgt := 116) hG dX12_sheet_94 rfl (fun q => absurd q (by decide)) (fun _ => ?_)
                refine pm_aloadn hG dX12_sheet_97 rfl ?_
                refine pm_getf hG dX12_sheet_98 (flX12_61 _ rfl) rfl rfl ?_
                refine pm_bipush (v := 24) hG dX12_sheet_101 (by decide) ?_
                refine pm_iloadn hG dX12_sheet_103 rfl ?_
                refine pm_imul hG dX12_sheet_104 ?_
                refine pm_iloadi hG dX12_sheet_105 rfl ?_
                refine pm_iadd hG dX12_sheet_107 ?_
                refine pm_iconst (v := 0) hG dX12_sheet_108 (by decide) ?_
                refine pm_iast hG dX12_sheet_109 rfl (vp_in_iff.mpr (by revert c2; simp only [Int32.lt_iff_toInt_lt, Int32.le_iff_toInt_le, ← Int32.toInt_inj, Int32.toInt_zero, Int32.toInt_add, Int32.toInt_mul, Int32.toInt_sub, Int.bmod_def, L_19, L_24, L_3]; omega)) ?_
                refine pm_iincX (v := 20) (loc' := [some (.ref (B + 54)), some (.int za), some (.int zb), some (.int zc), some (.int 20)]) hG dX12_sheet_110 rfl (by rfl) (by decide) (pm_c1b rfl) rfl ?_
                refine pm_goto (tgt := 90) hG dX12_sheet_113 rfl ?_
                refine pm_iloadi hG dX12_sheet_90 rfl ?_
                refine pm_bipush (v := 24) hG dX12_sheet_92 (by decide) ?_
                refine pm_icmp_ge (tgt := 116) hG dX12_sheet_94 rfl (fun q => absurd q (by decide)) (fun _ => ?_)
                refine pm_aloadn hG dX12_sheet_97 rfl ?_
                refine pm_getf hG dX12_sheet_98 (flX12_61 _ rfl) rfl rfl ?_
                refine pm_bipush (v := 24) hG dX12_sheet_101 (by decide) ?_
                refine pm_iloadn hG dX12_sheet_103 rfl ?_
                refine pm_imul hG dX12_sheet_104 ?_
                refine pm_iloadi hG dX12_sheet_105 rfl ?_
                refine pm_iadd hG dX12_sheet_107 ?_
                refine pm_iconst (v := 0) hG dX12_sheet_108 (by decide) ?_
                refine pm_iast hG dX12_sheet_109 rfl (vp_in_iff.mpr (by revert c2; simp only [Int32.lt_iff_toInt_lt, Int32.le_iff_toInt_le, ← Int32.toInt_inj, Int32.toInt_zero, Int32.toInt_add, Int32.toInt_mul, Int32.toInt_sub, Int.bmod_def, L_20, L_24, L_3]; omega)) ?_
                refine pm_iincX (v := 21) (loc' := [some (.ref (B + 54)), some (.int za), some (.int zb), some (.int zc), some (.int 21)]) hG dX12_sheet_110 rfl (by rfl) (by decide) (pm_c1b rfl) rfl ?_
                refine pm_goto (tgt := 90) hG dX12_sheet_113 rfl ?_
                refine pm_iloadi hG dX12_sheet_90 rfl ?_
                refine pm_bipush (v := 24) hG dX12_sheet_92 (by decide) ?_
                refine pm_icmp_ge (tgt := 116) hG dX12_sheet_94 rfl (fun q => absurd q (by decide)) (fun _ => ?_)
                refine pm_aloadn hG dX12_sheet_97 rfl ?_
                refine pm_getf hG dX12_sheet_98 (flX12_61 _ rfl) rfl rfl ?_
                refine pm_bipush (v := 24) hG dX12_sheet_101 (by decide) ?_
                refine pm_iloadn hG dX12_sheet_103 rfl ?_
                refine pm_imul hG dX12_sheet_104 ?_
                refine pm_iloadi hG dX12_sheet_105 rfl ?_
                refine pm_iadd hG dX12_sheet_107 ?_
                refine pm_iconst (v := 0) hG dX12_sheet_108 (by decide) ?_
                refine pm_iast hG dX12_sheet_109 rfl (vp_in_iff.mpr (by revert c2; simp only [Int32.lt_iff_toInt_lt, Int32.le_iff_toInt_le, ← Int32.toInt_inj, Int32.toInt_zero, Int32.toInt_add, Int32.toInt_mul, Int32.toInt_sub, Int.bmod_def, L_21, L_24, L_3]; omega)) ?_
                refine pm_iincX (v := 22) (loc' := [some (.ref (B + 54)), some (.int za), some (.int zb), some (.int zc), some (.int 22)]) hG dX12_sheet_110 rfl (by rfl) (by decide) (pm_c1b rfl) rfl ?_
                refine pm_goto (tgt := 90) hG dX12_sheet_113 rfl ?_
                refine pm_iloadi hG dX12_sheet_90 rfl ?_
                refine pm_bipush (v := 24) hG dX12_sheet_92 (by decide) ?_
                refine pm_icmp_ge (tgt := 116) hG dX12_sheet_94 rfl (fun q => absurd q (by decide)) (fun _ => ?_)
                refine pm_aloadn hG dX12_sheet_97 rfl ?_
                refine pm_getf hG dX12_sheet_98 (flX12_61 _ rfl) rfl rfl ?_
                refine pm_bipush (v := 24) hG dX12_sheet_101 (by decide) ?_
                refine pm_iloadn hG dX12_sheet_103 rfl ?_
                refine pm_imul hG dX12_sheet_104 ?_
                refine pm_iloadi hG dX12_sheet_105 rfl ?_
                refine pm_iadd hG dX12_sheet_107 ?_
                refine pm_iconst (v := 0) hG dX12_sheet_108 (by decide) ?_
                refine pm_iast hG dX12_sheet_109 rfl (vp_in_iff.mpr (by revert c2; simp only [Int32.lt_iff_toInt_lt, Int32.le_iff_toInt_le, ← Int32.toInt_inj, Int32.toInt_zero, Int32.toInt_add, Int32.toInt_mul, Int32.toInt_sub, Int.bmod_def, L_22, L_24, L_3]; omega)) ?_
                refine pm_iincX (v := 23) (loc' := [some (.ref (B + 54)), some (.int za), some (.int zb), some (.int zc), some (.int 23)]) hG dX12_sheet_110 rfl (by rfl) (by decide) (pm_c1b rfl) rfl ?_
                refine pm_goto (tgt := 90) hG dX12_sheet_113 rfl ?_
                refine pm_iloadi hG dX12_sheet_90 rfl ?_
                refine pm_bipush (v := 24) hG dX12_sheet_92 (by decide) ?_
                refine pm_icmp_ge (tgt := 116) hG dX12_sheet_94 rfl (fun q => absurd q (by decide)) (fun _ => ?_)
                refine pm_aloadn hG dX12_sheet_97 rfl ?_
                refine pm_getf hG dX12_sheet_98 (flX12_61 _ rfl) rfl rfl ?_
                refine pm_bipush (v := 24) hG dX12_sheet_101 (by decide) ?_
                refine pm_iloadn hG dX12_sheet_103 rfl ?_
                refine pm_imul hG dX12_sheet_104 ?_
                refine pm_iloadi hG dX12_sheet_105 rfl ?_
                refine pm_iadd hG dX12_sheet_107 ?_
                refine pm_iconst (v := 0) hG dX12_sheet_108 (by decide) ?_
                refine pm_iast hG dX12_sheet_109 rfl (vp_in_iff.mpr (by revert c2; simp only [Int32.lt_iff_toInt_lt, Int32.le_iff_toInt_le, ← Int32.toInt_inj, Int32.toInt_zero, Int32.toInt_add, Int32.toInt_mul, Int32.toInt_sub, Int.bmod_def, L_23, L_24, L_3]; omega)) ?_
                refine pm_iincX (v := 24) (loc' := [some (.ref (B + 54)), some (.int za), some (.int zb), some (.int zc), some (.int 24)]) hG dX12_sheet_110 rfl (by rfl) (by decide) (pm_c1b rfl) rfl ?_
                refine pm_goto (tgt := 90) hG dX12_sheet_113 rfl ?_
                refine pm_iloadi hG dX12_sheet_90 rfl ?_
                refine pm_bipush (v := 24) hG dX12_sheet_92 (by decide) ?_
                refine pm_icmp_ge (tgt := 116) hG dX12_sheet_94 rfl (fun _ => ?_) (fun q => absurd q (by decide))
                refine pm_iconst (v := 1) hG dX12_sheet_116 (by decide) ?_
                exact pm_iret hG hF dX12_sheet_117 rfl (by decide) (by decide) ⟨_, rfl, (by clear hF hR hG; first | rfl | (unfold v_sheet; (repeat' split) <;> first | rfl | (exfalso; simp only [Int32.lt_iff_toInt_lt, Int32.le_iff_toInt_le, ← Int32.toInt_inj, Int32.toInt_zero, L_1, L_16, L_24, L_3, L_32, L_8, L_m1000001, L_m1000003] at *; omega) | (apply Int32.toInt_inj.mp; simp only [Int32.lt_iff_toInt_lt, Int32.le_iff_toInt_le, ← Int32.toInt_inj, Int32.toInt_zero, L_1, L_16, L_24, L_3, L_32, L_8, L_m1000001, L_m1000003] at *; omega)))⟩
              · refine pm_aloadn hG dX12_sheet_59 rfl ?_
                refine pm_iconst (v := 1) hG dX12_sheet_60 (by decide) ?_
                refine pm_callV (As := [.int 1]) (rest := []) hG hR dX12_sheet_61 (lkX12_80 _ rfl) okV_X12_finds rfl rfl (fm_X12_finds_2 (d := 2) (by decide)) rfl rfl hdd (by decide) (by decide) (by decide) (pm_ki (fun v σ' cnt' hq => ?_))
                obtain ⟨rfl, rfl, rfl⟩ := hq
                exact pm_iret hG hF dX12_sheet_64 rfl (by decide) (by decide) ⟨_, rfl, (by clear hF hR hG; first | rfl | (unfold v_sheet; (repeat' split) <;> first | rfl | (exfalso; simp only [Int32.lt_iff_toInt_lt, Int32.le_iff_toInt_le, ← Int32.toInt_inj, Int32.toInt_zero, L_1, L_16, L_24, L_3, L_32, L_8, L_m1000001, L_m1000003] at *; omega) | (apply Int32.toInt_inj.mp; simp only [Int32.lt_iff_toInt_lt, Int32.le_iff_toInt_le, ← Int32.toInt_inj, Int32.toInt_zero, L_1, L_16, L_24, L_3, L_32, L_8, L_m1000001, L_m1000003] at *; omega)))⟩
            · refine pm_aloadn hG dX12_sheet_43 rfl ?_
              refine pm_iconst (v := 3) hG dX12_sheet_44 (by decide) ?_
              refine pm_callV (As := [.int 3]) (rest := []) hG hR dX12_sheet_45 (lkX12_80 _ rfl) okV_X12_finds rfl rfl (fm_X12_finds_41 (d := 2) (by decide)) rfl rfl hdd (by decide) (by decide) (by decide) (pm_ki (fun v σ' cnt' hq => ?_))
              obtain ⟨rfl, rfl, rfl⟩ := hq
              exact pm_iret hG hF dX12_sheet_48 rfl (by decide) (by decide) ⟨_, rfl, (by clear hF hR hG; first | rfl | (unfold v_sheet; (repeat' split) <;> first | rfl | (exfalso; simp only [Int32.lt_iff_toInt_lt, Int32.le_iff_toInt_le, ← Int32.toInt_inj, Int32.toInt_zero, L_1, L_16, L_24, L_3, L_32, L_8, L_m1000001, L_m1000003] at *; omega) | (apply Int32.toInt_inj.mp; simp only [Int32.lt_iff_toInt_lt, Int32.le_iff_toInt_le, ← Int32.toInt_inj, Int32.toInt_zero, L_1, L_16, L_24, L_3, L_32, L_8, L_m1000001, L_m1000003] at *; omega)))⟩
          · refine pm_aloadn hG dX12_sheet_29 rfl ?_
            refine pm_iconst (v := 1) hG dX12_sheet_30 (by decide) ?_
            refine pm_callV (As := [.int 1]) (rest := []) hG hR dX12_sheet_31 (lkX12_80 _ rfl) okV_X12_finds rfl rfl (fm_X12_finds_2 (d := 2) (by decide)) rfl rfl hdd (by decide) (by decide) (by decide) (pm_ki (fun v σ' cnt' hq => ?_))
            obtain ⟨rfl, rfl, rfl⟩ := hq
            exact pm_iret hG hF dX12_sheet_34 rfl (by decide) (by decide) ⟨_, rfl, (by clear hF hR hG; first | rfl | (unfold v_sheet; (repeat' split) <;> first | rfl | (exfalso; simp only [Int32.lt_iff_toInt_lt, Int32.le_iff_toInt_le, ← Int32.toInt_inj, Int32.toInt_zero, L_1, L_16, L_24, L_3, L_32, L_8, L_m1000001, L_m1000003] at *; omega) | (apply Int32.toInt_inj.mp; simp only [Int32.lt_iff_toInt_lt, Int32.le_iff_toInt_le, ← Int32.toInt_inj, Int32.toInt_zero, L_1, L_16, L_24, L_3, L_32, L_8, L_m1000001, L_m1000003] at *; omega)))⟩

set_option maxRecDepth 100000 in
set_option maxHeartbeats 8000000 in
theorem om_put {B : Nat} {za zb zc : Int32} {d : Nat} (hdd : 3 ≤ d) : pm_met mX12_put d 0 0 B [.ref (B + 54), .int za, .int zb, .int zc] 74 (pm_cat (fun _ => none) 54 (l_k_model B)) (pm_Qi (fun v _ _ => v = v_put za zb zc)) := by
  refine pm_enter 0 (by decide) (Nat.le_of_ble_eq_true rfl) rfl (fun G hG hR hF => ?_)
  refine pm_iloadn hG dX12_put_0 rfl ?_
  refine pm_callS (As := [.int za]) (rest := []) hG hR dX12_put_1 (lkX12_239 _ rfl) okS_X12_isSheet (fm_X12_isSheet_31 (d := 2) (by decide)) rfl rfl hdd (by decide) (by decide) (by decide) (pm_ki (fun v σ' cnt' hq => ?_))
  rcases hq with ⟨c1, rfl, rfl, rfl⟩ | ⟨c2, rfl, rfl, rfl⟩
  · refine pm_if_ne (tgt := 13) hG dX12_put_4 rfl (fun q => absurd q (by decide)) (fun _ => ?_)
    refine pm_aloadn hG dX12_put_7 rfl ?_
    refine pm_iconst (v := 1) hG dX12_put_8 (by decide) ?_
    refine pm_callV (As := [.int 1]) (rest := []) hG hR dX12_put_9 (lkX12_80 _ rfl) okV_X12_finds rfl rfl (fm_X12_finds_2 (d := 2) (by decide)) rfl rfl hdd (by decide) (by decide) (by decide) (pm_ki (fun v σ' cnt' hq => ?_))
    obtain ⟨rfl, rfl, rfl⟩ := hq
    exact pm_iret hG hF dX12_put_12 rfl (by decide) (by decide) ⟨_, rfl, (by clear hF hR hG; first | rfl | (unfold v_put; (repeat' split) <;> first | rfl | (exfalso; simp only [Int32.lt_iff_toInt_lt, Int32.le_iff_toInt_le, ← Int32.toInt_inj, Int32.toInt_zero, L_3, L_m1000001, L_m1000002] at *; omega) | (apply Int32.toInt_inj.mp; simp only [Int32.lt_iff_toInt_lt, Int32.le_iff_toInt_le, ← Int32.toInt_inj, Int32.toInt_zero, L_3, L_m1000001, L_m1000002] at *; omega)))⟩
  · refine pm_if_ne (tgt := 13) hG dX12_put_4 rfl (fun _ => ?_) (fun q => absurd q (by decide))
    refine pm_aloadn hG dX12_put_13 rfl ?_
    refine pm_getf hG dX12_put_14 (flX12_55 _ rfl) rfl rfl ?_
    refine pm_iloadn hG dX12_put_17 rfl ?_
    refine pm_ialdX (v := 0) hG dX12_put_18 rfl (vp_in_iff.mpr (by revert c2; simp only [Int32.lt_iff_toInt_lt, Int32.le_iff_toInt_le, ← Int32.toInt_inj, Int32.toInt_zero, Int32.toInt_add, Int32.toInt_mul, Int32.toInt_sub, Int.bmod_def, L_3]; omega)) (by rfl) ?_
    refine pm_if_ne (tgt := 28) hG dX12_put_19 rfl (fun q => absurd q (by decide)) (fun _ => ?_)
    refine pm_aloadn hG dX12_put_22 rfl ?_
    refine pm_iconst (v := 2) hG dX12_put_23 (by decide) ?_
    refine pm_callV (As := [.int 2]) (rest := []) hG hR dX12_put_24 (lkX12_80 _ rfl) okV_X12_finds rfl rfl (fm_X12_finds_30 (d := 2) (by decide)) rfl rfl hdd (by decide) (by decide) (by decide) (pm_ki (fun v σ' cnt' hq => ?_))
    obtain ⟨rfl, rfl, rfl⟩ := hq
    exact pm_iret hG hF dX12_put_27 rfl (by decide) (by decide) ⟨_, rfl, (by clear hF hR hG; first | rfl | (unfold v_put; (repeat' split) <;> first | rfl | (exfalso; simp only [Int32.lt_iff_toInt_lt, Int32.le_iff_toInt_le, ← Int32.toInt_inj, Int32.toInt_zero, L_3, L_m1000001, L_m1000002] at *; omega) | (apply Int32.toInt_inj.mp; simp only [Int32.lt_iff_toInt_lt, Int32.le_iff_toInt_le, ← Int32.toInt_inj, Int32.toInt_zero, L_3, L_m1000001, L_m1000002] at *; omega)))⟩

set_option maxRecDepth 100000 in
set_option maxHeartbeats 4000000 in
theorem fm_X12_isSheet_42 {B : Nat} {zc : Int32} {d : Nat} (hdd : 2 ≤ d) : pm_met mX12_isSheet d 0 0 B [.int zc] 74 (pm_cat (fun _ => none) 54 (l_k_model B)) (pm_Qi (fun v σ' cnt' => ((zc < 0 ∨ 3 < zc) ∧ v = 0 ∧ σ' = (pm_cat (fun _ => none) 54 (l_k_model B)) ∧ cnt' = 74) ∨ ((¬ (zc < 0 ∨ 3 < zc)) ∧ v = 1 ∧ σ' = (pm_cat (fun _ => none) 54 (l_k_model B)) ∧ cnt' = 74))) := by
  refine pm_enter 0 (by decide) (Nat.le_of_ble_eq_true rfl) rfl (fun G hG hR hF => ?_)
  refine pm_iloadn hG dX12_isSheet_0 rfl ?_
  refine pm_iconst (v := 0) hG dX12_isSheet_1 (by decide) ?_
  refine pm_iconst (v := 3) hG dX12_isSheet_2 (by decide) ?_
  refine pm_callS (As := [.int zc, .int 0, .int 3]) (rest := []) hG hR dX12_isSheet_3 (lkX12_68 _ rfl) okS_X12_in (mx_in (d := 1)) rfl rfl hdd (by decide) (by decide) (by decide) (pm_ki (fun v σ' cnt' hq => ?_))
  obtain ⟨rfl, rfl, rfl⟩ := hq
  by_cases c1 : zc < 0 ∨ 3 < zc
  · refine pm_top (v := 0) (if_pos c1) ?_
    exact pm_zret hG hF dX12_isSheet_6 rfl (by rfl) (by decide) (by decide) ⟨_, rfl, (Or.inl ⟨c1, rfl, rfl, rfl⟩)⟩
  · refine pm_top (v := 1) (if_neg c1) ?_
    exact pm_zret hG hF dX12_isSheet_6 rfl (by rfl) (by decide) (by decide) ⟨_, rfl, (Or.inr ⟨c1, rfl, rfl, rfl⟩)⟩

set_option maxRecDepth 100000 in
set_option maxHeartbeats 8000000 in
theorem om_move {B : Nat} {za zb zc zd ze : Int32} {d : Nat} (hdd : 3 ≤ d) : pm_met mX12_move d 0 0 B [.ref (B + 54), .int za, .int zb, .int zc, .int zd, .int ze] 74 (pm_cat (fun _ => none) 54 (l_k_model B)) (pm_Qi (fun v _ _ => v = v_move za zb zc zd ze)) := by
  refine pm_enter 1 (by decide) (Nat.le_of_ble_eq_true rfl) rfl (fun G hG hR hF => ?_)
  refine pm_iloadn hG dX12_move_0 rfl ?_
  refine pm_callS (As := [.int za]) (rest := []) hG hR dX12_move_1 (lkX12_239 _ rfl) okS_X12_isSheet (fm_X12_isSheet_31 (d := 2) (by decide)) rfl rfl hdd (by decide) (by decide) (by decide) (pm_ki (fun v σ' cnt' hq => ?_))
  rcases hq with ⟨c1, rfl, rfl, rfl⟩ | ⟨c2, rfl, rfl, rfl⟩
  · refine pm_if_eq (tgt := 14) hG dX12_move_4 rfl (fun _ => ?_) (fun q => absurd q (by decide))
    refine pm_aloadn hG dX12_move_14 rfl ?_
    refine pm_iconst (v := 1) hG dX12_move_15 (by decide) ?_
    refine pm_callV (As := [.int 1]) (rest := []) hG hR dX12_move_16 (lkX12_80 _ rfl) okV_X12_finds rfl rfl (fm_X12_finds_2 (d := 2) (by decide)) rfl rfl hdd (by decide) (by decide) (by decide) (pm_ki (fun v σ' cnt' hq => ?_))
    obtain ⟨rfl, rfl, rfl⟩ := hq
    exact pm_iret hG hF dX12_move_19 rfl (by decide) (by decide) ⟨_, rfl, (by clear hF hR hG; first | rfl | (unfold v_move; (repeat' split) <;> first | rfl | (exfalso; simp only [Int32.lt_iff_toInt_lt, Int32.le_iff_toInt_le, ← Int32.toInt_inj, Int32.toInt_zero, L_3, L_m1000001, L_m1000002] at *; omega) | (apply Int32.toInt_inj.mp; simp only [Int32.lt_iff_toInt_lt, Int32.le_iff_toInt_le, ← Int32.toInt_inj, Int32.toInt_zero, L_3, L_m1000001, L_m1000002] at *; omega)))⟩
  · refine pm_if_eq (tgt := 14) hG dX12_move_4 rfl (fun q => absurd q (by decide)) (fun _ => ?_)
    refine pm_iloadn hG dX12_move_7 rfl ?_
    refine pm_callS (As := [.int zc]) (rest := []) hG hR dX12_move_8 (lkX12_239 _ rfl) okS_X12_isSheet (fm_X12_isSheet_42 (d := 2) (by decide)) rfl rfl hdd (by decide) (by decide) (by decide) (pm_ki (fun v σ' cnt' hq => ?_))
    rcases hq with ⟨c3, rfl, rfl, rfl⟩ | ⟨c4, rfl, rfl, rfl⟩
    · refine pm_if_ne (tgt := 20) hG dX12_move_11 rfl (fun q => absurd q (by decide)) (fun _ => ?_)
      refine pm_aloadn hG dX12_move_14 rfl ?_
      refine pm_iconst (v := 1) hG dX12_move_15 (by decide) ?_
      refine pm_callV (As := [.int 1]) (rest := []) hG hR dX12_move_16 (lkX12_80 _ rfl) okV_X12_finds rfl rfl (fm_X12_finds_2 (d := 2) (by decide)) rfl rfl hdd (by decide) (by decide) (by decide) (pm_ki (fun v σ' cnt' hq => ?_))
      obtain ⟨rfl, rfl, rfl⟩ := hq
      exact pm_iret hG hF dX12_move_19 rfl (by decide) (by decide) ⟨_, rfl, (by clear hF hR hG; first | rfl | (unfold v_move; (repeat' split) <;> first | rfl | (exfalso; simp only [Int32.lt_iff_toInt_lt, Int32.le_iff_toInt_le, ← Int32.toInt_inj, Int32.toInt_zero, L_3, L_m1000001, L_m1000002] at *; omega) | (apply Int32.toInt_inj.mp; simp only [Int32.lt_iff_toInt_lt, Int32.le_iff_toInt_le, ← Int32.toInt_inj, Int32.toInt_zero, L_3, L_m1000001, L_m1000002] at *; omega)))⟩
    · refine pm_if_ne (tgt := 20) hG dX12_move_11 rfl (fun _ => ?_) (fun q => absurd q (by decide))
      refine pm_aloadn hG dX12_move_20 rfl ?_
      refine pm_getf hG dX12_move_21 (flX12_55 _ rfl) rfl rfl ?_
      refine pm_iloadn hG dX12_move_24 rfl ?_
      refine pm_ialdX (v := 0) hG dX12_move_25 rfl (vp_in_iff.mpr (by revert c2; simp only [Int32.lt_iff_toInt_lt, Int32.le_iff_toInt_le, ← Int32.toInt_inj, Int32.toInt_zero, Int32.toInt_add, Int32.toInt_mul, Int32.toInt_sub, Int.bmod_def, L_3]; omega)) (by rfl) ?_
      refine pm_if_eq (tgt := 38) hG dX12_move_26 rfl (fun _ => ?_) (fun q => absurd q (by decide))
      refine pm_aloadn hG dX12_move_38 rfl ?_
      refine pm_iconst (v := 2) hG dX12_move_39 (by decide) ?_
      refine pm_callV (As := [.int 2]) (rest := []) hG hR dX12_move_40 (lkX12_80 _ rfl) okV_X12_finds rfl rfl (fm_X12_finds_30 (d := 2) (by decide)) rfl rfl hdd (by decide) (by decide) (by decide) (pm_ki (fun v σ' cnt' hq => ?_))
      obtain ⟨rfl, rfl, rfl⟩ := hq
      exact pm_iret hG hF dX12_move_43 rfl (by decide) (by decide) ⟨_, rfl, (by clear hF hR hG; first | rfl | (unfold v_move; (repeat' split) <;> first | rfl | (exfalso; simp only [Int32.lt_iff_toInt_lt, Int32.le_iff_toInt_le, ← Int32.toInt_inj, Int32.toInt_zero, L_3, L_m1000001, L_m1000002] at *; omega) | (apply Int32.toInt_inj.mp; simp only [Int32.lt_iff_toInt_lt, Int32.le_iff_toInt_le, ← Int32.toInt_inj, Int32.toInt_zero, L_3, L_m1000001, L_m1000002] at *; omega)))⟩

set_option maxRecDepth 100000 in
set_option maxHeartbeats 8000000 in
theorem om_restore {B : Nat} {d : Nat} (hdd : 2 ≤ d) : pm_met mX12_restore d 0 0 B [.ref (B + 54)] 74 (pm_cat (fun _ => none) 54 (l_k_model B)) (pm_Qi (fun v _ _ => v = v_restore)) := by
  refine pm_enter 1 (by decide) (Nat.le_of_ble_eq_true rfl) rfl (fun G hG hR hF => ?_)
  refine pm_aloadn hG dX12_restore_0 rfl ?_
  refine pm_getf hG dX12_restore_1 (flX12_319 _ rfl) rfl rfl ?_
  refine pm_if_ne (tgt := 13) hG dX12_restore_4 rfl (fun q => absurd q (by decide)) (fun _ => ?_)
  refine pm_aloadn hG dX12_restore_7 rfl ?_
  refine pm_iconst (v := 2) hG dX12_restore_8 (by decide) ?_
  refine pm_callV (As := [.int 2]) (rest := []) hG hR dX12_restore_9 (lkX12_80 _ rfl) okV_X12_finds rfl rfl (fm_X12_finds_30 (d := 1) (by decide)) rfl rfl hdd (by decide) (by decide) (by decide) (pm_ki (fun v σ' cnt' hq => ?_))
  obtain ⟨rfl, rfl, rfl⟩ := hq
  exact pm_iret hG hF dX12_restore_12 rfl (by decide) (by decide) ⟨_, rfl, (by clear hF hR hG; first | rfl | (unfold v_restore; (repeat' split) <;> first | rfl | (exfalso; simp only [Int32.lt_iff_toInt_lt, Int32.le_iff_toInt_le, ← Int32.toInt_inj, Int32.toInt_zero, L_m1000002] at *; omega) | (apply Int32.toInt_inj.mp; simp only [Int32.lt_iff_toInt_lt, Int32.le_iff_toInt_le, ← Int32.toInt_inj, Int32.toInt_zero, L_m1000002] at *; omega)))⟩

set_option maxRecDepth 100000 in
set_option maxHeartbeats 8000000 in
theorem om_tell {B : Nat} {za : Int32} {d : Nat} (hdd : 1 ≤ d) : pm_met mX12_tell d 0 0 B [.ref (B + 54), .int za] 74 (pm_cat (fun _ => none) 54 (l_k_model B)) (pm_Qi (fun v _ _ => v = v_tell za)) := by
  refine pm_enter 0 (by decide) (Nat.le_of_ble_eq_true rfl) rfl (fun G hG hR hF => ?_)
  refine pm_aloadn hG dX12_tell_0 rfl ?_
  refine pm_getf hG dX12_tell_1 (flX12_7 _ rfl) rfl rfl ?_
  refine pm_bipush (v := 11) hG dX12_tell_4 (by decide) ?_
  refine pm_ialdX (v := 0) hG dX12_tell_6 rfl (pm_inb (by decide)) (by rfl) ?_
  refine pm_bipush (v := 20) hG dX12_tell_7 (by decide) ?_
  refine pm_icmp_ne (tgt := 18) hG dX12_tell_9 rfl (fun _ => ?_) (fun q => absurd q (by decide))
  refine pm_aloadn hG dX12_tell_18 rfl ?_
  refine pm_getf hG dX12_tell_19 (flX12_7 _ rfl) rfl rfl ?_
  refine pm_sipush (v := 2051) hG dX12_tell_22 (by decide) ?_
  refine pm_aloadn hG dX12_tell_25 rfl ?_
  refine pm_getf hG dX12_tell_26 (flX12_7 _ rfl) rfl rfl ?_
  refine pm_bipush (v := 11) hG dX12_tell_29 (by decide) ?_
  refine pm_ialdX (v := 0) hG dX12_tell_31 rfl (pm_inb (by decide)) (by rfl) ?_
  refine pm_iadd hG dX12_tell_32 ?_
  refine pm_top (v := 2051) (by decide) ?_
  refine pm_iloadn hG dX12_tell_33 rfl ?_
  refine pm_iast hG dX12_tell_34 rfl (pm_inb (by decide)) ?_
  refine pm_aloadn hG dX12_tell_35 rfl ?_
  refine pm_getf hG dX12_tell_36 (flX12_7 _ rfl) rfl rfl ?_
  refine pm_bipush (v := 11) hG dX12_tell_39 (by decide) ?_
  refine pm_dup2 hG dX12_tell_41 rfl rfl ?_
  refine pm_ialdX (v := 0) hG dX12_tell_42 rfl (pm_inb (by decide)) (by rfl) ?_
  refine pm_iconst (v := 1) hG dX12_tell_43 (by decide) ?_
  refine pm_iadd hG dX12_tell_44 ?_
  refine pm_top (v := 1) (by decide) ?_
  refine pm_iast hG dX12_tell_45 rfl (pm_inb (by decide)) ?_
  refine pm_aloadn hG dX12_tell_46 rfl ?_
  refine pm_getf hG dX12_tell_47 (flX12_7 _ rfl) rfl rfl ?_
  refine pm_bipush (v := 11) hG dX12_tell_50 (by decide) ?_
  refine pm_ialdX (v := 1) hG dX12_tell_52 rfl (pm_inb (by decide)) (by rfl) ?_
  exact pm_iret hG hF dX12_tell_53 rfl (by decide) (by decide) ⟨_, rfl, (by clear hF hR hG; first | rfl | (unfold v_tell; (repeat' split) <;> first | rfl | (exfalso; simp only [Int32.lt_iff_toInt_lt, Int32.le_iff_toInt_le, ← Int32.toInt_inj, Int32.toInt_zero, L_1] at *; omega) | (apply Int32.toInt_inj.mp; simp only [Int32.lt_iff_toInt_lt, Int32.le_iff_toInt_le, ← Int32.toInt_inj, Int32.toInt_zero, L_1] at *; omega)))⟩

set_option maxRecDepth 100000 in
set_option maxHeartbeats 8000000 in
theorem om_check {B : Nat} {d : Nat} (hdd : 1 ≤ d) : pm_met mX12_check d 0 0 B [.ref (B + 54)] 74 (pm_cat (fun _ => none) 54 (l_k_model B)) (pm_Qi (fun v _ _ => v = v_check)) := by
  refine pm_enter 3 (by decide) (Nat.le_of_ble_eq_true rfl) rfl (fun G hG hR hF => ?_)
  refine pm_aloadn hG dX12_check_0 rfl ?_
  refine pm_getf hG dX12_check_1 (flX12_7 _ rfl) rfl rfl ?_
  refine pm_bipush (v := 11) hG dX12_check_4 (by decide) ?_
  refine pm_ialdX (v := 0) hG dX12_check_6 rfl (pm_inb (by decide)) (by rfl) ?_
  refine pm_istoreXn (loc' := [some (.ref (B + 54)), some (.int 0), none, none]) hG dX12_check_7 (by decide) (pm_c1b rfl) rfl ?_
  refine pm_aloadn hG dX12_check_8 rfl ?_
  refine pm_getf hG dX12_check_9 (flX12_7 _ rfl) rfl rfl ?_
  refine pm_bipush (v := 11) hG dX12_check_12 (by decide) ?_
  refine pm_iconst (v := 0) hG dX12_check_14 (by decide) ?_
  refine pm_iast hG dX12_check_15 rfl (pm_inb (by decide)) ?_
  refine pm_iconst (v := 0) hG dX12_check_16 (by decide) ?_
  refine pm_istoreXn (loc' := [some (.ref (B + 54)), some (.int 0), some (.int 0), none]) hG dX12_check_17 (by decide) (pm_c1b rfl) rfl ?_
  refine pm_iloadn hG dX12_check_18 rfl ?_
  refine pm_iloadn hG dX12_check_19 rfl ?_
  refine pm_icmp_ge (tgt := 111) hG dX12_check_20 rfl (fun _ => ?_) (fun q => absurd q (by decide))
  refine pm_iconst (v := 0) hG dX12_check_111 (by decide) ?_
  exact pm_iret hG hF dX12_check_112 rfl (by decide) (by decide) ⟨_, rfl, (by clear hF hR hG; first | rfl | (unfold v_check; (repeat' split) <;> first | rfl | (exfalso; simp only [Int32.lt_iff_toInt_lt, Int32.le_iff_toInt_le, ← Int32.toInt_inj, Int32.toInt_zero] at *; omega) | (apply Int32.toInt_inj.mp; simp only [Int32.lt_iff_toInt_lt, Int32.le_iff_toInt_le, ← Int32.toInt_inj, Int32.toInt_zero] at *; omega)))⟩

set_option maxRecDepth 100000 in
set_option maxHeartbeats 4000000 in
theorem fm_X12_seatedMany_43 {B : Nat} {d : Nat} (hdd : 1 ≤ d) : pm_met mX12_seatedMany d 0 0 B [.ref (B + 54)] 74 (pm_cat (fun _ => none) 54 (l_k_model B)) (pm_Qi (fun v σ' cnt' => v = 0 ∧ σ' = (pm_cat (fun _ => none) 54 (l_k_model B)) ∧ cnt' = 74)) := by
  refine pm_enter 2 (by decide) (Nat.le_of_ble_eq_true rfl) rfl (fun G hG hR hF => ?_)
  refine pm_iconst (v := 0) hG dX12_seatedMany_0 (by decide) ?_
  refine pm_istoreXn (loc' := [some (.ref (B + 54)), some (.int 0), none]) hG dX12_seatedMany_1 (by decide) (pm_c1b rfl) rfl ?_
  refine pm_iconst (v := 0) hG dX12_seatedMany_2 (by decide) ?_
  refine pm_istoreXn (loc' := [some (.ref (B + 54)), some (.int 0), some (.int 0)]) hG dX12_seatedMany_3 (by decide) (pm_c1b rfl) rfl ?_
  refine pm_iloadn hG dX12_seatedMany_4 rfl ?_
  refine pm_aloadn hG dX12_seatedMany_5 rfl ?_
  refine pm_getf hG dX12_seatedMany_6 (flX12_7 _ rfl) rfl rfl ?_
  refine pm_iconst (v := 2) hG dX12_seatedMany_9 (by decide) ?_
  refine pm_ialdX (v := 0) hG dX12_seatedMany_10 rfl (pm_inb (by decide)) (by rfl) ?_
  refine pm_icmp_ge (tgt := 30) hG dX12_seatedMany_11 rfl (fun _ => ?_) (fun q => absurd q (by decide))
  refine pm_iloadn hG dX12_seatedMany_30 rfl ?_
  exact pm_iret hG hF dX12_seatedMany_31 rfl (by decide) (by decide) ⟨_, rfl, ⟨rfl, rfl, rfl⟩⟩

set_option maxRecDepth 100000 in
set_option maxHeartbeats 8000000 in
theorem om_count {B : Nat} {za : Int32} {d : Nat} (hdd : 2 ≤ d) : pm_met mX12_count d 0 0 B [.ref (B + 54), .int za] 74 (pm_cat (fun _ => none) 54 (l_k_model B)) (pm_Qi (fun v _ _ => v = v_count za)) := by
  refine pm_enter 2 (by decide) (Nat.le_of_ble_eq_true rfl) rfl (fun G hG hR hF => ?_)
  refine pm_iconst (v := 0) hG dX12_count_0 (by decide) ?_
  refine pm_istoreXn (loc' := [some (.ref (B + 54)), some (.int za), some (.int 0), none]) hG dX12_count_1 (by decide) (pm_c1b rfl) rfl ?_
  refine pm_iloadn hG dX12_count_2 rfl ?_
  by_cases c1 : za = 0
  · refine pm_top (v := 0) c1 ?_
    refine pm_tswIn (tgt := 80) hG dX12_count_3 (by decide) (by decide) rfl rfl ?_
    refine pm_aloadn hG dX12_count_80 rfl ?_
    refine pm_getf hG dX12_count_81 (flX12_7 _ rfl) rfl rfl ?_
    refine pm_iloadn hG dX12_count_84 rfl ?_
    refine pm_iald hG dX12_count_85 rfl (vp_in_iff.mpr (by revert c1; simp only [Int32.lt_iff_toInt_lt, Int32.le_iff_toInt_le, ← Int32.toInt_inj, Int32.toInt_zero, Int32.toInt_add, Int32.toInt_mul, Int32.toInt_sub, Int.bmod_def]; omega)) ?_
    exact pm_iret hG hF dX12_count_86 rfl (by decide) (by decide) ⟨_, rfl, (by clear hF hR hG; first | rfl | (unfold v_count; (repeat' split) <;> first | rfl | (exfalso; simp only [Int32.lt_iff_toInt_lt, Int32.le_iff_toInt_le, ← Int32.toInt_inj, Int32.toInt_zero, L_1000, L_15, L_9, L_m1000001] at *; omega) | (apply Int32.toInt_inj.mp; simp only [Int32.lt_iff_toInt_lt, Int32.le_iff_toInt_le, ← Int32.toInt_inj, Int32.toInt_zero, L_1000, L_15, L_9, L_m1000001] at *; omega)))⟩
  by_cases c2 : za = 1
  · refine pm_top (v := 1) c2 ?_
    refine pm_tswIn (tgt := 80) hG dX12_count_3 (by decide) (by decide) rfl rfl ?_
    refine pm_aloadn hG dX12_count_80 rfl ?_
    refine pm_getf hG dX12_count_81 (flX12_7 _ rfl) rfl rfl ?_
    refine pm_iloadn hG dX12_count_84 rfl ?_
    refine pm_iald hG dX12_count_85 rfl (vp_in_iff.mpr (by revert c1 c2; simp only [Int32.lt_iff_toInt_lt, Int32.le_iff_toInt_le, ← Int32.toInt_inj, Int32.toInt_zero, Int32.toInt_add, Int32.toInt_mul, Int32.toInt_sub, Int.bmod_def, L_1]; omega)) ?_
    exact pm_iret hG hF dX12_count_86 rfl (by decide) (by decide) ⟨_, rfl, (by clear hF hR hG; first | rfl | (unfold v_count; (repeat' split) <;> first | rfl | (exfalso; simp only [Int32.lt_iff_toInt_lt, Int32.le_iff_toInt_le, ← Int32.toInt_inj, Int32.toInt_zero, L_1, L_1000, L_15, L_9, L_m1000001] at *; omega) | (apply Int32.toInt_inj.mp; simp only [Int32.lt_iff_toInt_lt, Int32.le_iff_toInt_le, ← Int32.toInt_inj, Int32.toInt_zero, L_1, L_1000, L_15, L_9, L_m1000001] at *; omega)))⟩
  by_cases c3 : za = 2
  · refine pm_top (v := 2) c3 ?_
    refine pm_tswIn (tgt := 80) hG dX12_count_3 (by decide) (by decide) rfl rfl ?_
    refine pm_aloadn hG dX12_count_80 rfl ?_
    refine pm_getf hG dX12_count_81 (flX12_7 _ rfl) rfl rfl ?_
    refine pm_iloadn hG dX12_count_84 rfl ?_
    refine pm_iald hG dX12_count_85 rfl (vp_in_iff.mpr (by revert c1 c2 c3; simp only [Int32.lt_iff_toInt_lt, Int32.le_iff_toInt_le, ← Int32.toInt_inj, Int32.toInt_zero, Int32.toInt_add, Int32.toInt_mul, Int32.toInt_sub, Int.bmod_def, L_1, L_2]; omega)) ?_
    exact pm_iret hG hF dX12_count_86 rfl (by decide) (by decide) ⟨_, rfl, (by clear hF hR hG; first | rfl | (unfold v_count; (repeat' split) <;> first | rfl | (exfalso; simp only [Int32.lt_iff_toInt_lt, Int32.le_iff_toInt_le, ← Int32.toInt_inj, Int32.toInt_zero, L_1, L_1000, L_15, L_2, L_9, L_m1000001] at *; omega) | (apply Int32.toInt_inj.mp; simp only [Int32.lt_iff_toInt_lt, Int32.le_iff_toInt_le, ← Int32.toInt_inj, Int32.toInt_zero, L_1, L_1000, L_15, L_2, L_9, L_m1000001] at *; omega)))⟩
  by_cases c4 : za = 3
  · refine pm_top (v := 3) c4 ?_
    refine pm_tswIn (tgt := 80) hG dX12_count_3 (by decide) (by decide) rfl rfl ?_
    refine pm_aloadn hG dX12_count_80 rfl ?_
    refine pm_getf hG dX12_count_81 (flX12_7 _ rfl) rfl rfl ?_
    refine pm_iloadn hG dX12_count_84 rfl ?_
    refine pm_iald hG dX12_count_85 rfl (vp_in_iff.mpr (by revert c1 c2 c3 c4; simp only [Int32.lt_iff_toInt_lt, Int32.le_iff_toInt_le, ← Int32.toInt_inj, Int32.toInt_zero, Int32.toInt_add, Int32.toInt_mul, Int32.toInt_sub, Int.bmod_def, L_1, L_2, L_3]; omega)) ?_
    exact pm_iret hG hF dX12_count_86 rfl (by decide) (by decide) ⟨_, rfl, (by clear hF hR hG; first | rfl | (unfold v_count; (repeat' split) <;> first | rfl | (exfalso; simp only [Int32.lt_iff_toInt_lt, Int32.le_iff_toInt_le, ← Int32.toInt_inj, Int32.toInt_zero, L_1, L_1000, L_15, L_2, L_3, L_9, L_m1000001] at *; omega) | (apply Int32.toInt_inj.mp; simp only [Int32.lt_iff_toInt_lt, Int32.le_iff_toInt_le, ← Int32.toInt_inj, Int32.toInt_zero, L_1, L_1000, L_15, L_2, L_3, L_9, L_m1000001] at *; omega)))⟩
  by_cases c5 : za = 4
  · refine pm_top (v := 4) c5 ?_
    refine pm_tswIn (tgt := 80) hG dX12_count_3 (by decide) (by decide) rfl rfl ?_
    refine pm_aloadn hG dX12_count_80 rfl ?_
    refine pm_getf hG dX12_count_81 (flX12_7 _ rfl) rfl rfl ?_
    refine pm_iloadn hG dX12_count_84 rfl ?_
    refine pm_iald hG dX12_count_85 rfl (vp_in_iff.mpr (by revert c1 c2 c3 c4 c5; simp only [Int32.lt_iff_toInt_lt, Int32.le_iff_toInt_le, ← Int32.toInt_inj, Int32.toInt_zero, Int32.toInt_add, Int32.toInt_mul, Int32.toInt_sub, Int.bmod_def, L_1, L_2, L_3, L_4]; omega)) ?_
    exact pm_iret hG hF dX12_count_86 rfl (by decide) (by decide) ⟨_, rfl, (by clear hF hR hG; first | rfl | (unfold v_count; (repeat' split) <;> first | rfl | (exfalso; simp only [Int32.lt_iff_toInt_lt, Int32.le_iff_toInt_le, ← Int32.toInt_inj, Int32.toInt_zero, L_1, L_1000, L_15, L_2, L_3, L_4, L_9, L_m1000001] at *; omega) | (apply Int32.toInt_inj.mp; simp only [Int32.lt_iff_toInt_lt, Int32.le_iff_toInt_le, ← Int32.toInt_inj, Int32.toInt_zero, L_1, L_1000, L_15, L_2, L_3, L_4, L_9, L_m1000001] at *; omega)))⟩
  by_cases c6 : za = 5
  · refine pm_top (v := 5) c6 ?_
    refine pm_tswIn (tgt := 80) hG dX12_count_3 (by decide) (by decide) rfl rfl ?_
    refine pm_aloadn hG dX12_count_80 rfl ?_
    refine pm_getf hG dX12_count_81 (flX12_7 _ rfl) rfl rfl ?_
    refine pm_iloadn hG dX12_count_84 rfl ?_
    refine pm_iald hG dX12_count_85 rfl (vp_in_iff.mpr (by revert c1 c2 c3 c4 c5 c6; simp only [Int32.lt_iff_toInt_lt, Int32.le_iff_toInt_le, ← Int32.toInt_inj, Int32.toInt_zero, Int32.toInt_add, Int32.toInt_mul, Int32.toInt_sub, Int.bmod_def, L_1, L_2, L_3, L_4, L_5]; omega)) ?_
    exact pm_iret hG hF dX12_count_86 rfl (by decide) (by decide) ⟨_, rfl, (by clear hF hR hG; first | rfl | (unfold v_count; (repeat' split) <;> first | rfl | (exfalso; simp only [Int32.lt_iff_toInt_lt, Int32.le_iff_toInt_le, ← Int32.toInt_inj, Int32.toInt_zero, L_1, L_1000, L_15, L_2, L_3, L_4, L_5, L_9, L_m1000001] at *; omega) | (apply Int32.toInt_inj.mp; simp only [Int32.lt_iff_toInt_lt, Int32.le_iff_toInt_le, ← Int32.toInt_inj, Int32.toInt_zero, L_1, L_1000, L_15, L_2, L_3, L_4, L_5, L_9, L_m1000001] at *; omega)))⟩
  by_cases c7 : za = 6
  · refine pm_top (v := 6) c7 ?_
    refine pm_tswIn (tgt := 80) hG dX12_count_3 (by decide) (by decide) rfl rfl ?_
    refine pm_aloadn hG dX12_count_80 rfl ?_
    refine pm_getf hG dX12_count_81 (flX12_7 _ rfl) rfl rfl ?_
    refine pm_iloadn hG dX12_count_84 rfl ?_
    refine pm_iald hG dX12_count_85 rfl (vp_in_iff.mpr (by revert c1 c2 c3 c4 c5 c6 c7; simp only [Int32.lt_iff_toInt_lt, Int32.le_iff_toInt_le, ← Int32.toInt_inj, Int32.toInt_zero, Int32.toInt_add, Int32.toInt_mul, Int32.toInt_sub, Int.bmod_def, L_1, L_2, L_3, L_4, L_5, L_6]; omega)) ?_
    exact pm_iret hG hF dX12_count_86 rfl (by decide) (by decide) ⟨_, rfl, (by clear hF hR hG; first | rfl | (unfold v_count; (repeat' split) <;> first | rfl | (exfalso; simp only [Int32.lt_iff_toInt_lt, Int32.le_iff_toInt_le, ← Int32.toInt_inj, Int32.toInt_zero, L_1, L_1000, L_15, L_2, L_3, L_4, L_5, L_6, L_9, L_m1000001] at *; omega) | (apply Int32.toInt_inj.mp; simp only [Int32.lt_iff_toInt_lt, Int32.le_iff_toInt_le, ← Int32.toInt_inj, Int32.toInt_zero, L_1, L_1000, L_15, L_2, L_3, L_4, L_5, L_6, L_9, L_m1000001] at *; omega)))⟩
  by_cases c8 : za = 7
  · refine pm_top (v := 7) c8 ?_
    refine pm_tswIn (tgt := 80) hG dX12_count_3 (by decide) (by decide) rfl rfl ?_
    refine pm_aloadn hG dX12_count_80 rfl ?_
    refine pm_getf hG dX12_count_81 (flX12_7 _ rfl) rfl rfl ?_
    refine pm_iloadn hG dX12_count_84 rfl ?_
    refine pm_iald hG dX12_count_85 rfl (vp_in_iff.mpr (by revert c1 c2 c3 c4 c5 c6 c7 c8; simp only [Int32.lt_iff_toInt_lt, Int32.le_iff_toInt_le, ← Int32.toInt_inj, Int32.toInt_zero, Int32.toInt_add, Int32.toInt_mul, Int32.toInt_sub, Int.bmod_def, L_1, L_2, L_3, L_4, L_5, L_6, L_7]; omega)) ?_
    exact pm_iret hG hF dX12_count_86 rfl (by decide) (by decide) ⟨_, rfl, (by clear hF hR hG; first | rfl | (unfold v_count; (repeat' split) <;> first | rfl | (exfalso; simp only [Int32.lt_iff_toInt_lt, Int32.le_iff_toInt_le, ← Int32.toInt_inj, Int32.toInt_zero, L_1, L_1000, L_15, L_2, L_3, L_4, L_5, L_6, L_7, L_9, L_m1000001] at *; omega) | (apply Int32.toInt_inj.mp; simp only [Int32.lt_iff_toInt_lt, Int32.le_iff_toInt_le, ← Int32.toInt_inj, Int32.toInt_zero, L_1, L_1000, L_15, L_2, L_3, L_4, L_5, L_6, L_7, L_9, L_m1000001] at *; omega)))⟩
  by_cases c9 : za = 8
  · refine pm_top (v := 8) c9 ?_
    refine pm_tswIn (tgt := 80) hG dX12_count_3 (by decide) (by decide) rfl rfl ?_
    refine pm_aloadn hG dX12_count_80 rfl ?_
    refine pm_getf hG dX12_count_81 (flX12_7 _ rfl) rfl rfl ?_
    refine pm_iloadn hG dX12_count_84 rfl ?_
    refine pm_iald hG dX12_count_85 rfl (vp_in_iff.mpr (by revert c1 c2 c3 c4 c5 c6 c7 c8 c9; simp only [Int32.lt_iff_toInt_lt, Int32.le_iff_toInt_le, ← Int32.toInt_inj, Int32.toInt_zero, Int32.toInt_add, Int32.toInt_mul, Int32.toInt_sub, Int.bmod_def, L_1, L_2, L_3, L_4, L_5, L_6, L_7, L_8]; omega)) ?_
    exact pm_iret hG hF dX12_count_86 rfl (by decide) (by decide) ⟨_, rfl, (by clear hF hR hG; first | rfl | (unfold v_count; (repeat' split) <;> first | rfl | (exfalso; simp only [Int32.lt_iff_toInt_lt, Int32.le_iff_toInt_le, ← Int32.toInt_inj, Int32.toInt_zero, L_1, L_1000, L_15, L_2, L_3, L_4, L_5, L_6, L_7, L_8, L_9, L_m1000001] at *; omega) | (apply Int32.toInt_inj.mp; simp only [Int32.lt_iff_toInt_lt, Int32.le_iff_toInt_le, ← Int32.toInt_inj, Int32.toInt_zero, L_1, L_1000, L_15, L_2, L_3, L_4, L_5, L_6, L_7, L_8, L_9, L_m1000001] at *; omega)))⟩
  by_cases c10 : za = 9
  · refine pm_top (v := 9) c10 ?_
    refine pm_tswIn (tgt := 80) hG dX12_count_3 (by decide) (by decide) rfl rfl ?_
    refine pm_aloadn hG dX12_count_80 rfl ?_
    refine pm_getf hG dX12_count_81 (flX12_7 _ rfl) rfl rfl ?_
    refine pm_iloadn hG dX12_count_84 rfl ?_
    refine pm_iald hG dX12_count_85 rfl (vp_in_iff.mpr (by revert c1 c2 c3 c4 c5 c6 c7 c8 c9 c10; simp only [Int32.lt_iff_toInt_lt, Int32.le_iff_toInt_le, ← Int32.toInt_inj, Int32.toInt_zero, Int32.toInt_add, Int32.toInt_mul, Int32.toInt_sub, Int.bmod_def, L_1, L_2, L_3, L_4, L_5, L_6, L_7, L_8, L_9]; omega)) ?_
    exact pm_iret hG hF dX12_count_86 rfl (by decide) (by decide) ⟨_, rfl, (by clear hF hR hG; first | rfl | (unfold v_count; (repeat' split) <;> first | rfl | (exfalso; simp only [Int32.lt_iff_toInt_lt, Int32.le_iff_toInt_le, ← Int32.toInt_inj, Int32.toInt_zero, L_1, L_1000, L_15, L_2, L_3, L_4, L_5, L_6, L_7, L_8, L_9, L_m1000001] at *; omega) | (apply Int32.toInt_inj.mp; simp only [Int32.lt_iff_toInt_lt, Int32.le_iff_toInt_le, ← Int32.toInt_inj, Int32.toInt_zero, L_1, L_1000, L_15, L_2, L_3, L_4, L_5, L_6, L_7, L_8, L_9, L_m1000001] at *; omega)))⟩
  by_cases c11 : za = 10
  · refine pm_top (v := 10) c11 ?_
    refine pm_tswIn (tgt := 80) hG dX12_count_3 (by decide) (by decide) rfl rfl ?_
    refine pm_aloadn hG dX12_count_80 rfl ?_
    refine pm_getf hG dX12_count_81 (flX12_7 _ rfl) rfl rfl ?_
    refine pm_iloadn hG dX12_count_84 rfl ?_
    refine pm_iald hG dX12_count_85 rfl (vp_in_iff.mpr (by revert c1 c2 c3 c4 c5 c6 c7 c8 c9 c10 c11; simp only [Int32.lt_iff_toInt_lt, Int32.le_iff_toInt_le, ← Int32.toInt_inj, Int32.toInt_zero, Int32.toInt_add, Int32.toInt_mul, Int32.toInt_sub, Int.bmod_def, L_1, L_10, L_2, L_3, L_4, L_5, L_6, L_7, L_8, L_9]; omega)) ?_
    exact pm_iret hG hF dX12_count_86 rfl (by decide) (by decide) ⟨_, rfl, (by clear hF hR hG; first | rfl | (unfold v_count; (repeat' split) <;> first | rfl | (exfalso; simp only [Int32.lt_iff_toInt_lt, Int32.le_iff_toInt_le, ← Int32.toInt_inj, Int32.toInt_zero, L_1, L_10, L_1000, L_15, L_2, L_3, L_4, L_5, L_6, L_7, L_8, L_9, L_m1000001] at *; omega) | (apply Int32.toInt_inj.mp; simp only [Int32.lt_iff_toInt_lt, Int32.le_iff_toInt_le, ← Int32.toInt_inj, Int32.toInt_zero, L_1, L_10, L_1000, L_15, L_2, L_3, L_4, L_5, L_6, L_7, L_8, L_9, L_m1000001] at *; omega)))⟩
  by_cases c12 : za = 11
  · refine pm_top (v := 11) c12 ?_
    refine pm_tswIn (tgt := 87) hG dX12_count_3 (by decide) (by decide) rfl rfl ?_
    refine pm_aloadn hG dX12_count_87 rfl ?_
    refine pm_callV (As := []) (rest := []) hG hR dX12_count_88 (lkX12_243 _ rfl) okV_X12_seatedMany rfl rfl (fm_X12_seatedMany_43 (d := 1) (by decide)) rfl rfl hdd (by decide) (by decide) (by decide) (pm_ki (fun v σ' cnt' hq => ?_))
    obtain ⟨rfl, rfl, rfl⟩ := hq
    exact pm_iret hG hF dX12_count_91 rfl (by decide) (by decide) ⟨_, rfl, (by clear hF hR hG; first | rfl | (unfold v_count; (repeat' split) <;> first | rfl | (exfalso; simp only [Int32.lt_iff_toInt_lt, Int32.le_iff_toInt_le, ← Int32.toInt_inj, Int32.toInt_zero, L_1, L_10, L_1000, L_11, L_15, L_2, L_3, L_4, L_5, L_6, L_7, L_8, L_9, L_m1000001] at *; omega) | (apply Int32.toInt_inj.mp; simp only [Int32.lt_iff_toInt_lt, Int32.le_iff_toInt_le, ← Int32.toInt_inj, Int32.toInt_zero, L_1, L_10, L_1000, L_11, L_15, L_2, L_3, L_4, L_5, L_6, L_7, L_8, L_9, L_m1000001] at *; omega)))⟩
  by_cases c13 : za = 12
  · refine pm_top (v := 12) c13 ?_
    refine pm_tswIn (tgt := 92) hG dX12_count_3 (by decide) (by decide) rfl rfl ?_
    refine pm_aloadn hG dX12_count_92 rfl ?_
    refine pm_getf hG dX12_count_93 (flX12_283 _ rfl) rfl rfl ?_
    exact pm_iret hG hF dX12_count_96 rfl (by decide) (by decide) ⟨_, rfl, (by clear hF hR hG; first | rfl | (unfold v_count; (repeat' split) <;> first | rfl | (exfalso; simp only [Int32.lt_iff_toInt_lt, Int32.le_iff_toInt_le, ← Int32.toInt_inj, Int32.toInt_zero, L_1, L_10, L_1000, L_11, L_12, L_15, L_2, L_3, L_4, L_5, L_6, L_7, L_8, L_9, L_m1000001] at *; omega) | (apply Int32.toInt_inj.mp; simp only [Int32.lt_iff_toInt_lt, Int32.le_iff_toInt_le, ← Int32.toInt_inj, Int32.toInt_zero, L_1, L_10, L_1000, L_11, L_12, L_15, L_2, L_3, L_4, L_5, L_6, L_7, L_8, L_9, L_m1000001] at *; omega)))⟩
  by_cases c14 : za = 13
  · refine pm_top (v := 13) c14 ?_
    refine pm_tswIn (tgt := 97) hG dX12_count_3 (by decide) (by decide) rfl rfl ?_
    refine pm_aloadn hG dX12_count_97 rfl ?_
    refine pm_getf hG dX12_count_98 (flX12_7 _ rfl) rfl rfl ?_
    refine pm_bipush (v := 11) hG dX12_count_101 (by decide) ?_
    refine pm_ialdX (v := 0) hG dX12_count_103 rfl (pm_inb (by decide)) (by rfl) ?_
    exact pm_iret hG hF dX12_count_104 rfl (by decide) (by decide) ⟨_, rfl, (by clear hF hR hG; first | rfl | (unfold v_count; (repeat' split) <;> first | rfl | (exfalso; simp only [Int32.lt_iff_toInt_lt, Int32.le_iff_toInt_le, ← Int32.toInt_inj, Int32.toInt_zero, L_1, L_10, L_1000, L_11, L_12, L_13, L_15, L_2, L_3, L_4, L_5, L_6, L_7, L_8, L_9, L_m1000001] at *; omega) | (apply Int32.toInt_inj.mp; simp only [Int32.lt_iff_toInt_lt, Int32.le_iff_toInt_le, ← Int32.toInt_inj, Int32.toInt_zero, L_1, L_10, L_1000, L_11, L_12, L_13, L_15, L_2, L_3, L_4, L_5, L_6, L_7, L_8, L_9, L_m1000001] at *; omega)))⟩
  by_cases c15 : za = 14
  · refine pm_top (v := 14) c15 ?_
    refine pm_tswIn (tgt := 105) hG dX12_count_3 (by decide) (by decide) rfl rfl ?_
    refine pm_iconst (v := 0) hG dX12_count_105 (by decide) ?_
    refine pm_istoreXn (loc' := [some (.ref (B + 54)), some (.int za), some (.int 0), some (.int 0)]) hG dX12_count_106 (by decide) (pm_c1b rfl) rfl ?_
    refine pm_iloadn hG dX12_count_107 rfl ?_
    refine pm_aloadn hG dX12_count_108 rfl ?_
    refine pm_getf hG dX12_count_109 (flX12_7 _ rfl) rfl rfl ?_
    refine pm_iconst (v := 2) hG dX12_count_112 (by decide) ?_
    refine pm_ialdX (v := 0) hG dX12_count_113 rfl (pm_inb (by decide)) (by rfl) ?_
    refine pm_icmp_ge (tgt := 133) hG dX12_count_114 rfl (fun _ => ?_) (fun q => absurd q (by decide))
    refine pm_iloadn hG dX12_count_133 rfl ?_
    exact pm_iret hG hF dX12_count_134 rfl (by decide) (by decide) ⟨_, rfl, (by clear hF hR hG; first | rfl | (unfold v_count; (repeat' split) <;> first | rfl | (exfalso; simp only [Int32.lt_iff_toInt_lt, Int32.le_iff_toInt_le, ← Int32.toInt_inj, Int32.toInt_zero, L_1, L_10, L_1000, L_11, L_12, L_13, L_14, L_15, L_2, L_3, L_4, L_5, L_6, L_7, L_8, L_9, L_m1000001] at *; omega) | (apply Int32.toInt_inj.mp; simp only [Int32.lt_iff_toInt_lt, Int32.le_iff_toInt_le, ← Int32.toInt_inj, Int32.toInt_zero, L_1, L_10, L_1000, L_11, L_12, L_13, L_14, L_15, L_2, L_3, L_4, L_5, L_6, L_7, L_8, L_9, L_m1000001] at *; omega)))⟩
  by_cases c16 : za = 15
  · refine pm_top (v := 15) c16 ?_
    refine pm_tswIn (tgt := 135) hG dX12_count_3 (by decide) (by decide) rfl rfl ?_
    refine pm_iconst (v := 0) hG dX12_count_135 (by decide) ?_
    refine pm_istoreXn (loc' := [some (.ref (B + 54)), some (.int za), some (.int 0), some (.int 0)]) hG dX12_count_136 (by decide) (pm_c1b rfl) rfl ?_
    refine pm_iloadn hG dX12_count_137 rfl ?_
    refine pm_aloadn hG dX12_count_138 rfl ?_
    refine pm_getf hG dX12_count_139 (flX12_7 _ rfl) rfl rfl ?_
    refine pm_iconst (v := 5) hG dX12_count_142 (by decide) ?_
    refine pm_ialdX (v := 0) hG dX12_count_143 rfl (pm_inb (by decide)) (by rfl) ?_
    refine pm_icmp_ge (tgt := 186) hG dX12_count_144 rfl (fun _ => ?_) (fun q => absurd q (by decide))
    refine pm_iloadn hG dX12_count_186 rfl ?_
    exact pm_iret hG hF dX12_count_187 rfl (by decide) (by decide) ⟨_, rfl, (by clear hF hR hG; first | rfl | (unfold v_count; (repeat' split) <;> first | rfl | (exfalso; simp only [Int32.lt_iff_toInt_lt, Int32.le_iff_toInt_le, ← Int32.toInt_inj, Int32.toInt_zero, L_1, L_10, L_1000, L_11, L_12, L_13, L_14, L_15, L_2, L_3, L_4, L_5, L_6, L_7, L_8, L_9, L_m1000001] at *; omega) | (apply Int32.toInt_inj.mp; simp only [Int32.lt_iff_toInt_lt, Int32.le_iff_toInt_le, ← Int32.toInt_inj, Int32.toInt_zero, L_1, L_10, L_1000, L_11, L_12, L_13, L_14, L_15, L_2, L_3, L_4, L_5, L_6, L_7, L_8, L_9, L_m1000001] at *; omega)))⟩
  refine pm_tswOut (tgt := 188) hG dX12_count_3 (pm_so (by revert c1 c2 c3 c4 c5 c6 c7 c8 c9 c10 c11 c12 c13 c14 c15 c16; simp only [Int32.lt_iff_toInt_lt, Int32.le_iff_toInt_le, ← Int32.toInt_inj, Int32.toInt_zero, L_1, L_10, L_11, L_12, L_13, L_14, L_15, L_2, L_3, L_4, L_5, L_6, L_7, L_8, L_9]; omega)) rfl ?_
  refine pm_aloadn hG dX12_count_188 rfl ?_
  refine pm_iconst (v := 1) hG dX12_count_189 (by decide) ?_
  refine pm_callV (As := [.int 1]) (rest := []) hG hR dX12_count_190 (lkX12_80 _ rfl) okV_X12_finds rfl rfl (fm_X12_finds_2 (d := 1) (by decide)) rfl rfl hdd (by decide) (by decide) (by decide) (pm_ki (fun v σ' cnt' hq => ?_))
  obtain ⟨rfl, rfl, rfl⟩ := hq
  exact pm_iret hG hF dX12_count_193 rfl (by decide) (by decide) ⟨_, rfl, (by clear hF hR hG; first | rfl | (unfold v_count; (repeat' split) <;> first | rfl | (exfalso; simp only [Int32.lt_iff_toInt_lt, Int32.le_iff_toInt_le, ← Int32.toInt_inj, Int32.toInt_zero, L_1, L_10, L_1000, L_11, L_12, L_13, L_14, L_15, L_2, L_3, L_4, L_5, L_6, L_7, L_8, L_9, L_m1000001] at *; omega) | (apply Int32.toInt_inj.mp; simp only [Int32.lt_iff_toInt_lt, Int32.le_iff_toInt_le, ← Int32.toInt_inj, Int32.toInt_zero, L_1, L_10, L_1000, L_11, L_12, L_13, L_14, L_15, L_2, L_3, L_4, L_5, L_6, L_7, L_8, L_9, L_m1000001] at *; omega)))⟩

set_option maxRecDepth 100000 in
set_option maxHeartbeats 8000000 in
theorem om_found {B : Nat} {za : Int32} {d : Nat} (hdd : 2 ≤ d) : pm_met mX12_found d 0 0 B [.ref (B + 54), .int za] 74 (pm_cat (fun _ => none) 54 (l_k_model B)) (pm_Qi (fun v _ _ => v = v_found za)) := by
  refine pm_enter 0 (by decide) (Nat.le_of_ble_eq_true rfl) rfl (fun G hG hR hF => ?_)
  refine pm_iloadn hG dX12_found_0 rfl ?_
  refine pm_iconst (v := 1) hG dX12_found_1 (by decide) ?_
  refine pm_iconst (v := 5) hG dX12_found_2 (by decide) ?_
  refine pm_callS (As := [.int za, .int 1, .int 5]) (rest := []) hG hR dX12_found_3 (lkX12_68 _ rfl) okS_X12_in (mx_in (d := 1)) rfl rfl hdd (by decide) (by decide) (by decide) (pm_ki (fun v σ' cnt' hq => ?_))
  obtain ⟨rfl, rfl, rfl⟩ := hq
  by_cases c1 : za < 1 ∨ 5 < za
  · refine pm_top (v := 0) (if_pos c1) ?_
    refine pm_if_eq (tgt := 18) hG dX12_found_6 rfl (fun _ => ?_) (fun q => absurd q (by decide))
    refine pm_aloadn hG dX12_found_18 rfl ?_
    refine pm_iconst (v := 1) hG dX12_found_19 (by decide) ?_
    refine pm_callV (As := [.int 1]) (rest := []) hG hR dX12_found_20 (lkX12_80 _ rfl) okV_X12_finds rfl rfl (fm_X12_finds_2 (d := 1) (by decide)) rfl rfl hdd (by decide) (by decide) (by decide) (pm_ki (fun v σ' cnt' hq => ?_))
    obtain ⟨rfl, rfl, rfl⟩ := hq
    exact pm_iret hG hF dX12_found_23 rfl (by decide) (by decide) ⟨_, rfl, (by clear hF hR hG; first | rfl | (unfold v_found; (repeat' split) <;> first | rfl | (exfalso; simp only [Int32.lt_iff_toInt_lt, Int32.le_iff_toInt_le, ← Int32.toInt_inj, Int32.toInt_zero, L_1, L_5, L_m1000001] at *; omega) | (apply Int32.toInt_inj.mp; simp only [Int32.lt_iff_toInt_lt, Int32.le_iff_toInt_le, ← Int32.toInt_inj, Int32.toInt_zero, L_1, L_5, L_m1000001] at *; omega)))⟩
  · refine pm_top (v := 1) (if_neg c1) ?_
    refine pm_if_eq (tgt := 18) hG dX12_found_6 rfl (fun q => absurd q (by decide)) (fun _ => ?_)
    refine pm_aloadn hG dX12_found_9 rfl ?_
    refine pm_getf hG dX12_found_10 (flX12_16 _ rfl) rfl rfl ?_
    refine pm_iloadn hG dX12_found_13 rfl ?_
    refine pm_ialdX (v := 0) hG dX12_found_14 rfl (vp_in_iff.mpr (by revert c1; simp only [Int32.lt_iff_toInt_lt, Int32.le_iff_toInt_le, ← Int32.toInt_inj, Int32.toInt_zero, Int32.toInt_add, Int32.toInt_mul, Int32.toInt_sub, Int.bmod_def, L_1, L_5]; omega)) (by rfl) ?_
    refine pm_goto (tgt := 23) hG dX12_found_15 rfl ?_
    exact pm_iret hG hF dX12_found_23 rfl (by decide) (by decide) ⟨_, rfl, (by clear hF hR hG; first | rfl | (unfold v_found; (repeat' split) <;> first | rfl | (exfalso; simp only [Int32.lt_iff_toInt_lt, Int32.le_iff_toInt_le, ← Int32.toInt_inj, Int32.toInt_zero, L_1, L_5, L_m1000001] at *; omega) | (apply Int32.toInt_inj.mp; simp only [Int32.lt_iff_toInt_lt, Int32.le_iff_toInt_le, ← Int32.toInt_inj, Int32.toInt_zero, L_1, L_5, L_m1000001] at *; omega)))⟩
