/-! ===== methods that change a tracked number ===== -/
theorem gq.app {ε I : Nat → Int32} {k : Nat} (n j : Nat) (hT : gcT.all (fun q => q.1 != k || q.2 == n) = true) (hj : j ≤ n) (h : gq ε I) : gq (ui ε k (nI j)) (ui I k (nI j)) := by
  simp only [List.all_eq_true, bne_iff_ne, Bool.or_eq_true, beq_iff_eq] at hT
  refine ⟨fun q hq => ?_, fun q hq => ?_⟩
  · by_cases e1 : q.1 = k
    · rcases hT q hq with h1 | h1
      · exact absurd e1 h1
      · rw [e1, h1]; exact ⟨j, hj, ui_eq⟩
    · rw [ui_ne e1]; exact h.1 q hq
  · by_cases e1 : q = k
    · subst e1; rw [ui_eq, ui_eq]
    · rw [ui_ne e1, ui_ne e1]; exact h.2 q hq
theorem gq.inc {ε I : Nat → Int32} {k : Nat} (hk : gcT.all (fun q => q.1 != k) = true) (hm : k ∈ gqT) (h : gq ε I) : gq (ui ε k (ε k + 1)) (ui I k (I k + 1)) := by
  simp only [List.all_eq_true, bne_iff_ne] at hk
  refine ⟨fun q hq => by rw [ui_ne (hk q hq)]; exact h.1 q hq, fun q hq => ?_⟩
  by_cases e1 : q = k
  · subst e1; rw [ui_eq, ui_eq, h.2 q hq]
  · rw [ui_ne e1, ui_ne e1]; exact h.2 q hq
theorem pm_mono {M : pm_M} {d mc ms B cnt : Nat} {av : List Value} {σ : pm_S} {Q Q1 : Option Value → pm_S → Nat → Prop} (hM : pm_met M d mc ms B av cnt σ Q1) (hQ : ∀ (r : Option Value) (σ' : pm_S) (c' : Nat), Q1 r σ' c' → Q r σ' c') : pm_met M d mc ms B av cnt σ Q := by
  intro l D cI p e ha hf hc s m args below g1 g2 hP hK
  obtain ⟨n, o, k1, k2, k3, ⟨r, σ', c', q1, q2, q3⟩, L⟩ := hM l D cI p e ha hf hc s m args below g1 g2 hP hK
  exact ⟨n, o, k1, k2, k3, ⟨r, σ', c', q1, hQ _ _ _ q2, q3⟩, L⟩
theorem ui_self {ε : Nat → Int32} {k : Nat} {v : Int32} (h : v = ε k) : ui ε k v = ε := by
  funext j
  unfold ui
  by_cases e : j = k
  · rw [if_pos e, h, e]
  · rw [if_neg e]
theorem pm_dep {M : pm_M} {d d' mc ms B cnt : Nat} {av : List Value} {σ : pm_S} {Q : Option Value → pm_S → Nat → Prop} (h : ∀ d : Nat, d' ≤ d → pm_met M d mc ms B av cnt σ Q) (hd : d' ≤ d) : pm_met M d mc ms B av cnt σ Q := h d hd
theorem gq.st {ε I : Nat → Int32} {k : Nat} {v : Int32} (hk : gcT.all (fun q => q.1 != k) = true) (h : gq ε I) : gq (ui ε k v) (ui I k v) := by
  simp only [List.all_eq_true, bne_iff_ne] at hk
  refine ⟨fun q hq => by rw [ui_ne (hk q hq)]; exact h.1 q hq, fun q hq => ?_⟩
  by_cases e1 : q = k
  · subst e1; rw [ui_eq, ui_eq]
  · rw [ui_ne e1, ui_ne e1]; exact h.2 q hq

def vD (x a : Int32) : Int32 := if (a < 1 ∨ 400 < a) ∨ 2000 < x + a then -1000001 else x + a
def tD (x a : Int32) : Int32 := if (a < 1 ∨ 400 < a) ∨ 2000 < x + a then x else x + a
theorem vD_n {x a : Int32} (h : (a < 1 ∨ 400 < a) ∨ 2000 < x + a) : -1000001 = vD x a ∧ x = tD x a := by
  unfold vD tD
  rw [if_pos h, if_pos h]; exact ⟨rfl, rfl⟩
theorem vD_y {x a : Int32} (h : ¬ ((a < 1 ∨ 400 < a) ∨ 2000 < x + a)) : x + a = vD x a ∧ x + a = tD x a := by
  unfold vD tD
  rw [if_neg h, if_neg h]; exact ⟨rfl, rfl⟩
theorem out_no {w : Nat} (h1 : 1 ≤ w) (h2 : w ≤ 400) : ¬ (nI w < 1 ∨ 400 < nI w) := by
  have h3 := nI_toInt (n := w) (by omega)
  rw [Int32.lt_iff_toInt_lt, Int32.lt_iff_toInt_lt, h3, show (1 : Int32).toInt = 1 from rfl, show (400 : Int32).toInt = 400 from rfl]; omega
theorem gt_of_nle {x y : Int32} (h : ¬ x ≤ y) : y < x := by
  rw [Int32.le_iff_toInt_le] at h
  rw [Int32.lt_iff_toInt_lt]; omega
theorem nlt_of_le {x y : Int32} (h : x ≤ y) : ¬ y < x := by
  rw [Int32.le_iff_toInt_le] at h
  rw [Int32.lt_iff_toInt_lt]; omega
theorem days_out {v a x : Int32} (o : v = (if a < 1 ∨ 400 < a then 1 else 0)) (c : v = 0) (c3 : x + a ≤ 2000) : ¬ ((a < 1 ∨ 400 < a) ∨ 2000 < x + a) := by
  rintro (q | q)
  · rw [if_pos q] at o; rw [o] at c; exact absurd c (by decide)
  · exact nlt_of_le c3 q
theorem vD_ok {x a : Int32} {u w j : Nat} (e1 : x = nI u) (e2 : a = nI w) (h1 : 1 ≤ w) (h2 : w ≤ 400) (h3 : u + w ≤ 2000) (hj : j = u + w) : nI j = vD x a ∧ nI j = tD x a := by
  subst e1 e2 hj
  have h : ¬ ((nI w < 1 ∨ 400 < nI w) ∨ 2000 < nI u + nI w) := by
    rintro (q | q)
    · exact out_no h1 h2 q
    · rw [nI_add, Int32.lt_iff_toInt_lt, nI_toInt (by omega), show (2000 : Int32).toInt = 2000 from rfl] at q; omega
  have h4 := vD_y h
  rw [nI_add] at h4
  exact h4
theorem vD_no1 {x a : Int32} (h : a < nI 1 ∨ nI 400 < a) : (-1000000) - nI 1 = vD x a ∧ x = tD x a := by
  have h2 := vD_n (x := x) (a := a) (Or.inl h)
  exact ⟨(by decide : (-1000000 : Int32) - nI 1 = -1000001).trans h2.1, h2.2⟩
theorem vD_no2 {x a : Int32} {u w : Nat} (e1 : x = nI u) (e2 : a = nI w) (h : 2000 < u + w) (h2 : u + w < 10000) : (-1000000) - nI 1 = vD x a ∧ x = tD x a := by
  subst e1 e2
  have h3 := vD_n (x := nI u) (a := nI w) (Or.inr (by rw [nI_add, Int32.lt_iff_toInt_lt, nI_toInt (by omega), show (2000 : Int32).toInt = 2000 from rfl]; omega))
  exact ⟨(by decide : (-1000000 : Int32) - nI 1 = -1000001).trans h3.1, h3.2⟩
theorem ui_step {ε : Nat → Int32} {k q : Nat} {x : Int32} : ui (ui ε k (x + nI q)) k ((ui ε k (x + nI q)) k + 1) = ui ε k (x + nI (q + 1)) := by
  rw [ui_eq, Int32.add_assoc, nI_1]
  funext j
  unfold ui
  by_cases e : j = k
  · rw [if_pos e, if_pos e]
  · rw [if_neg e, if_neg e, if_neg e]

set_option maxRecDepth 100000 in
set_option maxHeartbeats 4000000 in
theorem g_endDayE {ε : Nat → Int32} {d B cnt : Nat} {kp : Value} {ρ : pm_S} {I : Nat → Int32} {A : Nat → Nat → Int32} (hdd : 4 ≤ d)  (h : gq ε I) : pm_met mX7_endDay d 0 0 B [.ref (B + 1)] cnt (pm_two (cl_L B kp I A) ρ) (pm_Qv (fun σ' cnt' => hvq (ui ε 102 (ε 102 + 1)) B kp ρ cnt σ' cnt')) := by
  refine pm_enter 0 (by decide) (Nat.le_of_ble_eq_true rfl) rfl (fun G hG hR hF => ?_)
  refine pm_aloadn hG dX7_endDay_0 rfl ?_
  refine pm_dup hG dX7_endDay_1 rfl ?_
  refine pm_getf hG dX7_endDay_2 (flX7_72 _ rfl) rfl rfl ?_
  refine pm_iconst (v := 1) hG dX7_endDay_5 (by decide) ?_
  refine pm_iadd hG dX7_endDay_6 ?_
  refine pm_putf hG dX7_endDay_7 (fwX7_72 _ rfl) rfl rfl rfl ?_
  refine pm_nrm (L' := cl_L B kp (ui I 102 ((I 102) + 1)) A) (by decide) (Nat.le_of_ble_eq_true rfl) rfl ?_
  refine pm_aloadn hG dX7_endDay_10 rfl ?_
  refine pm_callV (As := []) (rest := []) hG hR dX7_endDay_11 (lkX7_141 _ rfl) okV_X7_bringTravellers rfl rfl (g_X7_bringTravellers (d := 3) (by decide) (gq.inc (k := 102) rfl (by decide) h)) rfl rfl hdd (Nat.le_refl _) (Nat.le_refl _) (by decide) (pm_kv (fun σ' cnt' hq => ?_))
  obtain ⟨I2, A2, rfl, rfl, h2⟩ := hq
  refine pm_aloadn hG dX7_endDay_14 rfl ?_
  refine pm_callV (As := []) (rest := []) hG hR dX7_endDay_15 (lkX7_144 _ rfl) okV_X7_takeBackLent rfl rfl (g_X7_takeBackLent (d := 3) (by decide) h2) rfl rfl hdd (Nat.le_refl _) (Nat.le_refl _) (by decide) (pm_kv (fun σ' cnt' hq => ?_))
  obtain ⟨I3, A3, rfl, rfl, h3⟩ := hq
  refine pm_aloadn hG dX7_endDay_18 rfl ?_
  refine pm_getf hG dX7_endDay_19 (flX7_72 _ rfl) rfl rfl ?_
  refine pm_bipush (v := 90) hG dX7_endDay_22 (by decide) ?_
  refine pm_irem hG dX7_endDay_24 (by decide) ?_
  refine pm_if_ne (tgt := 40) hG dX7_endDay_25 rfl (fun c4 => ?_) (fun c4 => ?_)
  · exact pm_vret hG hF dX7_endDay_40 rfl (Nat.le_refl _) (Nat.le_refl _) ⟨rfl, _, _, rfl, rfl, h3⟩
  · refine pm_aloadn hG dX7_endDay_28 rfl ?_
    refine pm_callV (As := []) (rest := []) hG hR dX7_endDay_29 (lkX7_147 _ rfl) okV_X7_collectRents rfl rfl (g_X7_collectRents (d := 3) (by decide) h3) rfl rfl hdd (Nat.le_refl _) (Nat.le_refl _) (by decide) (pm_kv (fun σ' cnt' hq => ?_))
    obtain ⟨I5, A5, rfl, rfl, h5⟩ := hq
    refine pm_aloadn hG dX7_endDay_32 rfl ?_
    refine pm_callV (As := []) (rest := []) hG hR dX7_endDay_33 (lkX7_150 _ rfl) okV_X7_payMen rfl rfl (g_X7_payMen (d := 3) (by decide) h5) rfl rfl hdd (Nat.le_refl _) (Nat.le_refl _) (by decide) (pm_kv (fun σ' cnt' hq => ?_))
    obtain ⟨I6, A6, rfl, rfl, h6⟩ := hq
    refine pm_aloadn hG dX7_endDay_36 rfl ?_
    refine pm_callV (As := []) (rest := []) hG hR dX7_endDay_37 (lkX7_153 _ rfl) okV_X7_serveDebts rfl rfl (g_X7_serveDebts (d := 3) (by decide) h6) rfl rfl hdd (Nat.le_refl _) (Nat.le_refl _) (by decide) (pm_kv (fun σ' cnt' hq => ?_))
    obtain ⟨I7, A7, rfl, rfl, h7⟩ := hq
    exact pm_vret hG hF dX7_endDay_40 rfl (Nat.le_refl _) (Nat.le_refl _) ⟨rfl, _, _, rfl, rfl, h7⟩

set_option maxRecDepth 100000 in
set_option maxHeartbeats 4000000 in
theorem g_daysE1 {ε : Nat → Int32} {d B cnt : Nat} {kp : Value} {ρ : pm_S} {I : Nat → Int32} {A : Nat → Nat → Int32} (hdd : 5 ≤ d) {w : Nat} (hw1 : 1 ≤ w) (hw2 : w ≤ 400) (hs : ¬ 2000 < ε 102 + nI w) (h : gq ε I) : pm_met mX11_days d 0 0 B [.ref (B + 0), .int (nI w)] cnt (pm_two (cl_L B kp I A) ρ) (pm_Qi (fun v σ' cnt' => v = ε 102 + nI w ∧ hvq (ui ε 102 (ε 102 + nI w)) B kp ρ cnt σ' cnt')) := by
  refine pm_enter 1 (by decide) (Nat.le_of_ble_eq_true rfl) rfl (fun G hG hR hF => ?_)
  refine pm_iloadn hG dX11_days_0 rfl ?_
  refine pm_iconst (v := 1) hG dX11_days_1 (by decide) ?_
  refine pm_sipush (v := 400) hG dX11_days_2 (by decide) ?_
  refine pm_callS (As := [.int (nI w), .int 1, .int 400]) (rest := []) hG hR dX11_days_5 (lkX11_105 _ rfl) okS_X11_isOutside (sx_isOutside (d := 4)) rfl rfl hdd (Nat.le_refl _) (Nat.le_refl _) (by decide) (pm_ki (fun v1 σ' cnt' hq => ?_))
  obtain rfl : v1 = 0 := hq.1.trans (if_neg (out_no hw1 hw2))
  obtain ⟨I1, A1, rfl, rfl, h1⟩ := hv_id (kp := kp) (I := I) (A := A) h hq.2
  refine pm_if_ne (tgt := 26) hG dX11_days_8 rfl (fun q => absurd q (by decide)) (fun _ => ?_)
  refine pm_aloadn hG dX11_days_11 rfl ?_
  refine pm_getf hG dX11_days_12 (flX11_12 _ rfl) rfl rfl ?_
  refine pm_getf hG dX11_days_15 (flX11_122 _ rfl) rfl rfl ?_
  refine pm_iloadn hG dX11_days_18 rfl ?_
  refine pm_iadd hG dX11_days_19 ?_
  refine pm_sipush (v := 2000) hG dX11_days_20 (by decide) ?_
  refine pm_icmp_le (tgt := 33) hG dX11_days_23 rfl (fun c2 => ?_) (fun c2 => ?_)
  · refine pm_iconst (v := 0) hG dX11_days_33 (by decide) ?_
    refine pm_istoreXn (loc' := [some (.ref (B + 0)), some (.int (nI w)), some (.int 0)]) hG dX11_days_34 (by decide) (pm_c1b rfl) rfl ?_
    have loop35 : ∀ (m : Nat) (I9 : Nat → Int32) (A9 : Nat → Nat → Int32) (q : Nat), q ≤ w → gq (ui ε 102 (ε 102 + nI q)) I9 → w - q < m → pm_wp mX11_days G B 35 [some (.ref (B + 0)), some (.int (nI w)), some (.int (nI q))] [] 0 0 cnt (pm_two (cl_L B kp I9 A9) ρ) := by
      intro m
      induction m with
      | zero => intro I9 A9 q _ _ hm; exact absurd hm (Nat.not_lt_zero _)
      | succ m ih =>
        intro I9 A9 q hq9 h9 hm
        refine pm_iloadn hG dX11_days_35 rfl ?_
        refine pm_iloadn hG dX11_days_36 rfl ?_
        refine pm_icmp_ge (tgt := 53) hG dX11_days_37 rfl (fun c => ?_) (fun c => ?_)
        · have c' := (nI_leI (by omega) (by omega)).mp c
          obtain rfl : q = w := by omega
          refine pm_aloadn hG dX11_days_53 rfl ?_
          refine pm_getf hG dX11_days_54 (flX11_12 _ rfl) rfl rfl ?_
          refine pm_getf hG dX11_days_57 (flX11_122 _ rfl) rfl rfl ?_
          exact pm_iret hG hF dX11_days_60 rfl (Nat.le_refl _) (Nat.le_refl _) ⟨_, rfl, (h9.2 102 (by decide)).trans ui_eq, _, _, rfl, rfl, h9⟩
        · have c' : ¬ w ≤ q := fun z => c ((nI_leI (by omega) (by omega)).mpr z)
          refine pm_aloadn hG dX11_days_40 rfl ?_
          refine pm_getf hG dX11_days_41 (flX11_12 _ rfl) rfl rfl ?_
          refine pm_callV (As := []) (rest := []) hG hR dX11_days_44 (lkX11_245 _ rfl) okV_X7_endDay rfl rfl (g_endDayE (d := 4) (by decide) h9) rfl rfl hdd (Nat.le_refl _) (Nat.le_refl _) (by decide) (pm_kv (fun σ' cnt' hq => ?_))
          obtain ⟨I8, A8, rfl, rfl, h8⟩ := hq
          rw [ui_step] at h8
          refine pm_iincX (v := nI (q + 1)) (loc' := [some (.ref (B + 0)), some (.int (nI w)), some (.int (nI (q + 1)))]) hG dX11_days_47 rfl (nI_1 _) (by decide) (pm_c1b rfl) rfl ?_
          refine pm_goto (tgt := 35) hG dX11_days_50 rfl ?_
          exact ih I8 A8 (q + 1) (by omega) h8 (by omega)
    exact loop35 _ _ _ 0 (Nat.zero_le _) (by rw [show ui ε 102 (ε 102 + nI 0) = ε from ui_self (by rw [nI_0]; exact Int32.add_zero _)]; exact h1) (Nat.lt_succ_self _)
  · exact absurd (show 2000 < ε 102 + nI w by rw [← h1.2 102 (by decide)]; exact gt_of_nle c2) hs

set_option maxRecDepth 100000 in
set_option maxHeartbeats 4000000 in
theorem g_daysE0 {ε : Nat → Int32} {d B cnt : Nat} {kp : Value} {ρ : pm_S} {I : Nat → Int32} {A : Nat → Nat → Int32} (hdd : 1 ≤ d) {za : Int32} (hb : (za < 1 ∨ 400 < za) ∨ 2000 < ε 102 + za) (h : gq ε I) : pm_met mX11_days d 0 0 B [.ref (B + 0), .int za] cnt (pm_two (cl_L B kp I A) ρ) (pm_Qi (fun v σ' cnt' => v = -1000001 ∧ hvq ε B kp ρ cnt σ' cnt')) := by
  refine pm_enter 1 (by decide) (Nat.le_of_ble_eq_true rfl) rfl (fun G hG hR hF => ?_)
  refine pm_iloadn hG dX11_days_0 rfl ?_
  refine pm_iconst (v := 1) hG dX11_days_1 (by decide) ?_
  refine pm_sipush (v := 400) hG dX11_days_2 (by decide) ?_
  refine pm_callS (As := [.int za, .int 1, .int 400]) (rest := []) hG hR dX11_days_5 (lkX11_105 _ rfl) okS_X11_isOutside (sx_isOutside (d := 0)) rfl rfl hdd (Nat.le_refl _) (Nat.le_refl _) (by decide) (pm_ki (fun v1 σ' cnt' hq => ?_))
  have o1 := hq.1
  have b1 := pm_b10 hq.1
  obtain ⟨I1, A1, rfl, rfl, h1⟩ := hv_id (kp := kp) (I := I) (A := A) h hq.2
  refine pm_if_ne (tgt := 26) hG dX11_days_8 rfl (fun c2 => ?_) (fun c2 => ?_)
  · refine pm_aloadn hG dX11_days_26 rfl ?_
    refine pm_ldc hG dX11_days_27 (ctX11_109 _ rfl) ?_
    refine pm_callV (As := [.int (-1000001)]) (rest := []) hG hR dX11_days_29 (lkX11_97 _ rfl) okV_X11_told rfl rfl (sx_told (d := 0) (by decide) rfl rfl) rfl rfl hdd (Nat.le_refl _) (Nat.le_refl _) (by decide) (pm_ki (fun v3 σ' cnt' hq => ?_))
    obtain ⟨ev3, ⟨g3, hg3⟩, hc3⟩ := hq
    obtain ⟨I3, A3, rfl, rfl, h3⟩ := hv_a53 (kp := kp) (I := I1) (A := A1) h1 ⟨hg3, hc3⟩
    subst ev3
    exact pm_iret hG hF dX11_days_32 rfl (Nat.le_refl _) (Nat.le_refl _) ⟨_, rfl, rfl, _, _, rfl, rfl, h3⟩
  · refine pm_aloadn hG dX11_days_11 rfl ?_
    refine pm_getf hG dX11_days_12 (flX11_12 _ rfl) rfl rfl ?_
    refine pm_getf hG dX11_days_15 (flX11_122 _ rfl) rfl rfl ?_
    refine pm_iloadn hG dX11_days_18 rfl ?_
    refine pm_iadd hG dX11_days_19 ?_
    refine pm_sipush (v := 2000) hG dX11_days_20 (by decide) ?_
    refine pm_icmp_le (tgt := 33) hG dX11_days_23 rfl (fun c4 => ?_) (fun c4 => ?_)
    · exact absurd hb (days_out o1 c2 (by rw [← h1.2 102 (by decide)]; exact c4))
    · refine pm_aloadn hG dX11_days_26 rfl ?_
      refine pm_ldc hG dX11_days_27 (ctX11_109 _ rfl) ?_
      refine pm_callV (As := [.int (-1000001)]) (rest := []) hG hR dX11_days_29 (lkX11_97 _ rfl) okV_X11_told rfl rfl (sx_told (d := 0) (by decide) rfl rfl) rfl rfl hdd (Nat.le_refl _) (Nat.le_refl _) (by decide) (pm_ki (fun v5 σ' cnt' hq => ?_))
      obtain ⟨ev5, ⟨g5, hg5⟩, hc5⟩ := hq
      obtain ⟨I5, A5, rfl, rfl, h5⟩ := hv_a53 (kp := kp) (I := I1) (A := A1) h1 ⟨hg5, hc5⟩
      subst ev5
      exact pm_iret hG hF dX11_days_32 rfl (Nat.le_refl _) (Nat.le_refl _) ⟨_, rfl, rfl, _, _, rfl, rfl, h5⟩

theorem g_daysE {ε : Nat → Int32} {d B cnt : Nat} {kp : Value} {ρ : pm_S} {I : Nat → Int32} {A : Nat → Nat → Int32} {za : Int32} (hdd : 5 ≤ d) (h : gq ε I) : pm_met mX11_days d 0 0 B [.ref (B + 0), .int za] cnt (pm_two (cl_L B kp I A) ρ) (pm_Qi (fun v σ' cnt' => v = vD (ε 102) za ∧ hvq (ui ε 102 (tD (ε 102) za)) B kp ρ cnt σ' cnt')) := by
  by_cases hb : (za < 1 ∨ 400 < za) ∨ 2000 < ε 102 + za
  · refine pm_mono (g_daysE0 (by omega) hb h) ?_
    rintro r σ' c' ⟨v, rfl, rfl, h2⟩
    exact ⟨_, rfl, (vD_n hb).1, by rw [ui_self (vD_n hb).2.symm]; exact h2⟩
  · have e1 := vD_y hb
    obtain ⟨w, hw, rfl⟩ := nI_of2 (x := za) (M := 400) (n := 400) rfl (fun q => hb (Or.inl (Or.inl (by rw [Int32.lt_iff_toInt_lt] at q ⊢; have h1 : (1 : Int32).toInt = 1 := rfl; have h0 : (0 : Int32).toInt = 0 := rfl; omega)))) (by rw [Int32.le_iff_toInt_le]; have q : ¬ 400 < za := fun q => hb (Or.inl (Or.inr q)); rw [Int32.lt_iff_toInt_lt] at q; omega)
    have hw1 : 1 ≤ w := by
      by_cases q : 1 ≤ w
      · exact q
      · obtain rfl : w = 0 := by omega
        exact absurd (Or.inl (Or.inl (by decide))) hb
    refine pm_mono (g_daysE1 (by omega) hw1 hw (fun q => hb (Or.inr q)) h) ?_
    rintro r σ' c' ⟨v, rfl, rfl, h2⟩
    exact ⟨_, rfl, e1.1, by rw [← e1.2]; exact h2⟩
