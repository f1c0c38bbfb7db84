/-! ===== methods that change a tracked number ===== -/
theorem gq.app {ε I : Nat → Int32} {k : Nat} (n j : Nat) (hT : gcT.all (fun q => q.1 != k || q.2 == n) = true) (hj : j ≤ n) (h : gq ε I) : gq (ui ε k (nI j)) (ui I k (nI j)) := by
  simp only [List.all_eq_true, bne_iff_ne, Bool.or_eq_true, beq_iff_eq] at hT
  refine ⟨fun q hq => ?_, fun q hq => ?_⟩
  · by_cases e1 : q.1 = k
    · rcases hT q hq with h1 | h1
      · exact absurd e1 h1
      · rw [e1, h1]; exact ⟨j, hj, ui_eq⟩
    · rw [ui_ne e1]; exact h.1 q hq
  · by_cases e1 : q = k
    · subst e1; rw [ui_eq, ui_eq]
    · rw [ui_ne e1, ui_ne e1]; exact h.2 q hq
theorem gq.inc {ε I : Nat → Int32} {k : Nat} (hk : gcT.all (fun q => q.1 != k) = true) (hm : k ∈ gqT) (h : gq ε I) : gq (ui ε k (ε k + 1)) (ui I k (I k + 1)) := by
  simp only [List.all_eq_true, bne_iff_ne] at hk
  refine ⟨fun q hq => by rw [ui_ne (hk q hq)]; exact h.1 q hq, fun q hq => ?_⟩
  by_cases e1 : q = k
  · subst e1; rw [ui_eq, ui_eq, h.2 q hq]
  · rw [ui_ne e1, ui_ne e1]; exact h.2 q hq
theorem pm_mono {M : pm_M} {d mc ms B cnt : Nat} {av : List Value} {σ : pm_S} {Q Q1 : Option Value → pm_S → Nat → Prop} (hM : pm_met M d mc ms B av cnt σ Q1) (hQ : ∀ (r : Option Value) (σ' : pm_S) (c' : Nat), Q1 r σ' c' → Q r σ' c') : pm_met M d mc ms B av cnt σ Q := by
  intro l D cI p e ha hf hc s m args below g1 g2 hP hK
  obtain ⟨n, o, k1, k2, k3, ⟨r, σ', c', q1, q2, q3⟩, L⟩ := hM l D cI p e ha hf hc s m args below g1 g2 hP hK
  exact ⟨n, o, k1, k2, k3, ⟨r, σ', c', q1, hQ _ _ _ q2, q3⟩, L⟩
theorem ui_self {ε : Nat → Int32} {k : Nat} {v : Int32} (h : v = ε k) : ui ε k v = ε := by
  funext j
  unfold ui
  by_cases e : j = k
  · rw [if_pos e, h, e]
  · rw [if_neg e]
theorem pm_dep {M : pm_M} {d d' mc ms B cnt : Nat} {av : List Value} {σ : pm_S} {Q : Option Value → pm_S → Nat → Prop} (h : ∀ d : Nat, d' ≤ d → pm_met M d mc ms B av cnt σ Q) (hd : d' ≤ d) : pm_met M d mc ms B av cnt σ Q := h d hd
theorem gq.st {ε I : Nat → Int32} {k : Nat} {v : Int32} (hk : gcT.all (fun q => q.1 != k) = true) (h : gq ε I) : gq (ui ε k v) (ui I k v) := by
  simp only [List.all_eq_true, bne_iff_ne] at hk
  refine ⟨fun q hq => by rw [ui_ne (hk q hq)]; exact h.1 q hq, fun q hq => ?_⟩
  by_cases e1 : q = k
  · subst e1; rw [ui_eq, ui_eq]
  · rw [ui_ne e1, ui_ne e1]; exact h.2 q hq

theorem hq_p2 {ε : Nat → Int32} {B cnt cnt' : Nat} {kp : pm_KP} {ρ σ' : pm_S} {I : Nat → Int32} {A : Nat → Nat → Int32} {u : Nat} {f : Nat → Int32} (hlt : u < 10) (h : gq ε I) (hq : σ' = pm_up (pm_up (pm_two (cl_L B kp I A) ρ) 2 (.inr (9, [.int (nI 10), .int (nI 3), .ref (B + 3), .int (nI (u + 1))]))) 3 (.inl (30, f)) ∧ cnt' = cnt) : hvq (ui ε 2 (nI (u + 1))) B kp ρ cnt σ' cnt' := by
  refine ⟨ui I 2 (nI (u + 1)), ua A 3 f, ?_, hq.2.symm, gq.app 10 (u + 1) rfl hlt h⟩
  rw [hq.1, pm_two_up (by decide) (Nat.le_of_ble_eq_true rfl), pm_two_up (by decide) (Nat.le_of_ble_eq_true rfl)]; rfl

set_option maxRecDepth 100000 in
set_option maxHeartbeats 4000000 in
theorem g_addTownE {ε : Nat → Int32} {d B cnt : Nat} {kp : pm_KP} {ρ : pm_S} {I : Nat → Int32} {A : Nat → Nat → Int32} (hdd : 2 ≤ d) {u : Nat}  (hu : ε 2 = nI u) (hlt : u < 10) (h : gq ε I) : pm_met mX7_addTown d 0 0 B [.ref (B + 1)] cnt (pm_two (cl_L B kp I A) ρ) (pm_Qi (fun v σ' cnt' => v = nI u ∧ hvq (ui ε 2 (nI (u + 1))) B kp ρ cnt σ' cnt')) := by
  refine pm_enter 1 (by decide) (Nat.le_of_ble_eq_true rfl) rfl (fun G hG hR hF => ?_)
  refine pm_aloadn hG dX7_addTown_0 rfl ?_
  refine pm_getf hG dX7_addTown_1 (flX7_14 _ rfl) rfl rfl ?_
  refine pm_iconst (v := 0) hG dX7_addTown_4 (by decide) ?_
  have hu1 : I 2 = nI u := (h.2 2 (by decide)).trans hu
  have ht1 : pm_two (cl_L B kp I A) ρ 2 = some (.inr (9, [.int (nI 10), .int (nI 3), .ref (B + 3), .int (nI u)])) := by rw [← hu1]; rfl
  refine pm_callV (As := [.int 0]) (rest := []) hG hR dX7_addTown_5 (lkX7_75 _ rfl) okV_X9_append rfl rfl (tb_append (d := 1) (by decide) ht1 rfl (by decide) (by decide) (by decide) (by decide) (by decide) (by decide) (by omega)) rfl rfl hdd (Nat.le_refl _) (Nat.le_refl _) (by decide) (pm_ki (fun v1 σ' cnt' hq => ?_))
  obtain ⟨hq, ec1⟩ := hq
  rcases hq with ⟨q1, -, -⟩ | ⟨-, rfl, es1⟩
  · exact absurd q1 (by omega)
  obtain ⟨I1, A1, rfl, rfl, h1⟩ := hq_p2 (kp := kp) (I := I) (A := A) hlt h ⟨es1, ec1⟩
  refine pm_istoreXn (loc' := [some (.ref (B + 1)), some (.int (nI u))]) hG dX7_addTown_8 (by decide) (pm_c1b rfl) rfl ?_
  refine pm_aloadn hG dX7_addTown_9 rfl ?_
  refine pm_getf hG dX7_addTown_10 (flX7_14 _ rfl) rfl rfl ?_
  refine pm_iloadn hG dX7_addTown_13 rfl ?_
  refine pm_iconst (v := 1) hG dX7_addTown_14 (by decide) ?_
  refine pm_iconst (v := (-1)) hG dX7_addTown_15 (by decide) ?_
  refine pm_callV (As := [.int (nI u), .int 1, .int (-1)]) (rest := []) hG hR dX7_addTown_16 (lkX7_61 _ rfl) okV_X9_set rfl rfl (tb_set (d := 1) rfl rfl (pm_tw_of 10 3 (by decide) (by decide) (by decide)) (by decide)) rfl rfl hdd (Nat.le_refl _) (Nat.le_refl _) (by decide) (pm_kv (fun σ' cnt' hq => ?_))
  obtain ⟨I2, A2, rfl, rfl, h2⟩ := hv_a3 (kp := kp) (I := I1) (A := A1) h1 hq
  refine pm_iloadn hG dX7_addTown_19 rfl ?_
  exact pm_iret hG hF dX7_addTown_20 rfl (Nat.le_refl _) (Nat.le_refl _) ⟨_, rfl, rfl, _, _, rfl, rfl, h2⟩

set_option maxRecDepth 100000 in
set_option maxHeartbeats 4000000 in
theorem g_townE1 {ε : Nat → Int32} {d B cnt : Nat} {kp : pm_KP} {ρ : pm_S} {I : Nat → Int32} {A : Nat → Nat → Int32} (hdd : 3 ≤ d) {u : Nat} (hu : ε 2 = nI u) (hlt : u < 10) (h : gq ε I) : pm_met mX11_town d 0 0 B [.ref (B + 0)] cnt (pm_two (cl_L B kp I A) ρ) (pm_Qi (fun v σ' cnt' => v = nI u ∧ hvq (ui ε 2 (nI (u + 1))) B kp ρ cnt σ' cnt')) := by
  refine pm_enter 0 (by decide) (Nat.le_of_ble_eq_true rfl) rfl (fun G hG hR hF => ?_)
  refine pm_aloadn hG dX11_town_0 rfl ?_
  refine pm_aloadn hG dX11_town_1 rfl ?_
  refine pm_getf hG dX11_town_2 (flX11_12 _ rfl) rfl rfl ?_
  refine pm_getf hG dX11_town_5 (flX11_82 _ rfl) rfl rfl ?_
  refine pm_callV (As := []) (rest := [.ref (B + 0)]) hG hR dX11_town_8 (lkX11_86 _ rfl) okV_X9_isFull rfl rfl (tb_isFull (d := 2) rfl) rfl rfl hdd (Nat.le_refl _) (Nat.le_refl _) (by first | decide | exact Nat.le_of_ble_eq_true rfl) (pm_ki (fun v1 σ' cnt' hq => ?_))
  have hu1 : I 2 = nI u := (h.2 2 (by decide)).trans hu
  have ev1 : v1 = 0 := hq.1.trans (by rw [hu1]; exact if_pos (nI_lt hlt (by decide)))
  obtain ⟨I1, A1, rfl, rfl, h1⟩ := hv_id (kp := kp) (I := I) (A := A) h hq.2
  subst ev1
  refine pm_if_eq (tgt := 19) hG dX11_town_11 rfl (fun _ => ?_) (fun q => absurd q (by decide))
  refine pm_aloadn hG dX11_town_19 rfl ?_
  refine pm_getf hG dX11_town_20 (flX11_12 _ rfl) rfl rfl ?_
  refine pm_callV (As := []) (rest := [.ref (B + 0)]) hG hR dX11_town_23 (lkX11_93 _ rfl) okV_X7_addTown rfl rfl (g_addTownE (d := 2) (by decide) hu hlt h1) rfl rfl hdd (Nat.le_refl _) (Nat.le_refl _) (by first | decide | exact Nat.le_of_ble_eq_true rfl) (pm_ki (fun v2 σ' cnt' hq => ?_))
  obtain ⟨rfl, I2, A2, rfl, rfl, h2⟩ := hq
  refine pm_callV (As := [.int (nI u)]) (rest := []) hG hR dX11_town_26 (lkX11_97 _ rfl) okV_X11_told rfl rfl (sx_told (d := 2) (by decide) rfl rfl) rfl rfl hdd (Nat.le_refl _) (Nat.le_refl _) (by decide) (pm_ki (fun v3 σ' cnt' hq => ?_))
  obtain ⟨ev3, ⟨g3, hg3⟩, hc3⟩ := hq
  obtain ⟨I3, A3, rfl, rfl, h3⟩ := hv_a53 (kp := kp) (I := I2) (A := A2) h2 ⟨hg3, hc3⟩
  subst ev3
  exact pm_iret hG hF dX11_town_29 rfl (Nat.le_refl _) (Nat.le_refl _) ⟨_, rfl, rfl, _, _, rfl, rfl, h3⟩

set_option maxRecDepth 100000 in
set_option maxHeartbeats 4000000 in
theorem g_townE0 {ε : Nat → Int32} {d B cnt : Nat} {kp : pm_KP} {ρ : pm_S} {I : Nat → Int32} {A : Nat → Nat → Int32} (hdd : 1 ≤ d) (hu : ε 2 = nI 10) (h : gq ε I) : pm_met mX11_town d 0 0 B [.ref (B + 0)] cnt (pm_two (cl_L B kp I A) ρ) (pm_Qi (fun v σ' cnt' => v = -1000004 ∧ hvq ε B kp ρ cnt σ' cnt')) := by
  refine pm_enter 0 (by decide) (Nat.le_of_ble_eq_true rfl) rfl (fun G hG hR hF => ?_)
  refine pm_aloadn hG dX11_town_0 rfl ?_
  refine pm_aloadn hG dX11_town_1 rfl ?_
  refine pm_getf hG dX11_town_2 (flX11_12 _ rfl) rfl rfl ?_
  refine pm_getf hG dX11_town_5 (flX11_82 _ rfl) rfl rfl ?_
  refine pm_callV (As := []) (rest := [.ref (B + 0)]) hG hR dX11_town_8 (lkX11_86 _ rfl) okV_X9_isFull rfl rfl (tb_isFull (d := 0) rfl) rfl rfl hdd (Nat.le_refl _) (Nat.le_refl _) (by first | decide | exact Nat.le_of_ble_eq_true rfl) (pm_ki (fun v1 σ' cnt' hq => ?_))
  have hu1 : I 2 = nI 10 := (h.2 2 (by decide)).trans hu
  have ev1 : v1 = 1 := hq.1.trans (by rw [hu1]; exact if_neg (nI_nlt (Nat.le_refl _) (by decide)))
  obtain ⟨I1, A1, rfl, rfl, h1⟩ := hv_id (kp := kp) (I := I) (A := A) h hq.2
  subst ev1
  refine pm_if_eq (tgt := 19) hG dX11_town_11 rfl (fun q => absurd q (by decide)) (fun _ => ?_)
  refine pm_ldc hG dX11_town_14 (ctX11_92 _ rfl) ?_
  refine pm_goto (tgt := 26) hG dX11_town_16 rfl ?_
  refine pm_callV (As := [.int (-1000004)]) (rest := []) hG hR dX11_town_26 (lkX11_97 _ rfl) okV_X11_told rfl rfl (sx_told (d := 0) (by decide) rfl rfl) rfl rfl hdd (Nat.le_refl _) (Nat.le_refl _) (by decide) (pm_ki (fun v2 σ' cnt' hq => ?_))
  obtain ⟨ev2, ⟨g2, hg2⟩, hc2⟩ := hq
  obtain ⟨I2, A2, rfl, rfl, h2⟩ := hv_a53 (kp := kp) (I := I1) (A := A1) h1 ⟨hg2, hc2⟩
  subst ev2
  exact pm_iret hG hF dX11_town_29 rfl (Nat.le_refl _) (Nat.le_refl _) ⟨_, rfl, rfl, _, _, rfl, rfl, h2⟩

def vT (x : Int32) : Int32 := if x = nI 10 then -1000004 else x
def tT (x : Int32) : Int32 := if x = nI 10 then x else x + 1
theorem vT_ok {x : Int32} {u : Nat} (e : x = nI u) (h : u < 10) : nI u = vT x ∧ nI (u + 1) = tT x := by
  have h3 : ¬ nI u = nI 10 := fun q => by have := (nI_eq (by omega) (by decide)).mp q; omega
  subst e
  unfold vT tT
  rw [if_neg h3, if_neg h3]
  exact ⟨rfl, (nI_1 u).symm⟩
theorem vT_no {x : Int32} {u : Nat} (e : x = nI u) (h : ¬ u < 10) (h2 : u < 11) : (-1000000) - nI 4 = vT x ∧ x = tT x := by
  obtain rfl : u = 10 := by omega
  subst e
  unfold vT tT
  rw [if_pos rfl, if_pos rfl]
  exact ⟨by decide, rfl⟩
theorem g_townE {ε : Nat → Int32} {d B cnt : Nat} {kp : pm_KP} {ρ : pm_S} {I : Nat → Int32} {A : Nat → Nat → Int32} (hdd : 3 ≤ d) (h : gq ε I) : pm_met mX11_town d 0 0 B [.ref (B + 0)] cnt (pm_two (cl_L B kp I A) ρ) (pm_Qi (fun v σ' cnt' => v = vT (ε 2) ∧ hvq (ui ε 2 (tT (ε 2))) B kp ρ cnt σ' cnt')) := by
  obtain ⟨u, hu, e⟩ := h.used 2 10 (by decide)
  have e2 : ε 2 = nI u := (h.2 2 (by decide)).symm.trans e
  by_cases hlt : u < 10
  · refine pm_mono (g_townE1 (by omega) e2 hlt h) ?_
    rintro r σ' c' ⟨v, rfl, rfl, h2⟩
    exact ⟨_, rfl, (vT_ok e2 hlt).1, by rw [← (vT_ok e2 hlt).2]; exact h2⟩
  · have e3 := vT_no e2 hlt (by omega)
    obtain rfl : u = 10 := by omega
    refine pm_mono (g_townE0 (by omega) e2 h) ?_
    rintro r σ' c' ⟨v, rfl, rfl, h2⟩
    exact ⟨_, rfl, (by decide : (-1000004 : Int32) = (-1000000) - nI 4).trans e3.1, by rw [ui_self e3.2.symm]; exact h2⟩

def vD (x a : Int32) : Int32 := if (a < 1 ∨ 400 < a) ∨ 2000 < x + a then -1000001 else x + a
def tD (x a : Int32) : Int32 := if (a < 1 ∨ 400 < a) ∨ 2000 < x + a then x else x + a
theorem vD_n {x a : Int32} (h : (a < 1 ∨ 400 < a) ∨ 2000 < x + a) : -1000001 = vD x a ∧ x = tD x a := by
  unfold vD tD
  rw [if_pos h, if_pos h]; exact ⟨rfl, rfl⟩
theorem vD_y {x a : Int32} (h : ¬ ((a < 1 ∨ 400 < a) ∨ 2000 < x + a)) : x + a = vD x a ∧ x + a = tD x a := by
  unfold vD tD
  rw [if_neg h, if_neg h]; exact ⟨rfl, rfl⟩
theorem out_no {w : Nat} (h1 : 1 ≤ w) (h2 : w ≤ 400) : ¬ (nI w < 1 ∨ 400 < nI w) := by
  have h3 := nI_toInt (n := w) (by omega)
  rw [Int32.lt_iff_toInt_lt, Int32.lt_iff_toInt_lt, h3, show (1 : Int32).toInt = 1 from rfl, show (400 : Int32).toInt = 400 from rfl]; omega
theorem gt_of_nle {x y : Int32} (h : ¬ x ≤ y) : y < x := by
  rw [Int32.le_iff_toInt_le] at h
  rw [Int32.lt_iff_toInt_lt]; omega
theorem nlt_of_le {x y : Int32} (h : x ≤ y) : ¬ y < x := by
  rw [Int32.le_iff_toInt_le] at h
  rw [Int32.lt_iff_toInt_lt]; omega
theorem days_out {v a x : Int32} (o : v = (if a < 1 ∨ 400 < a then 1 else 0)) (c : v = 0) (c3 : x + a ≤ 2000) : ¬ ((a < 1 ∨ 400 < a) ∨ 2000 < x + a) := by
  rintro (q | q)
  · rw [if_pos q] at o; rw [o] at c; exact absurd c (by decide)
  · exact nlt_of_le c3 q
theorem vD_ok {x a : Int32} {u w j : Nat} (e1 : x = nI u) (e2 : a = nI w) (h1 : 1 ≤ w) (h2 : w ≤ 400) (h3 : u + w ≤ 2000) (hj : j = u + w) : nI j = vD x a ∧ nI j = tD x a := by
  subst e1 e2 hj
  have h : ¬ ((nI w < 1 ∨ 400 < nI w) ∨ 2000 < nI u + nI w) := by
    rintro (q | q)
    · exact out_no h1 h2 q
    · rw [nI_add, Int32.lt_iff_toInt_lt, nI_toInt (by omega), show (2000 : Int32).toInt = 2000 from rfl] at q; omega
  have h4 := vD_y h
  rw [nI_add] at h4
  exact h4
theorem vD_no1 {x a : Int32} (h : a < nI 1 ∨ nI 400 < a) : (-1000000) - nI 1 = vD x a ∧ x = tD x a := by
  have h2 := vD_n (x := x) (a := a) (Or.inl h)
  exact ⟨(by decide : (-1000000 : Int32) - nI 1 = -1000001).trans h2.1, h2.2⟩
theorem vD_no2 {x a : Int32} {u w : Nat} (e1 : x = nI u) (e2 : a = nI w) (h : 2000 < u + w) (h2 : u + w < 10000) : (-1000000) - nI 1 = vD x a ∧ x = tD x a := by
  subst e1 e2
  have h3 := vD_n (x := nI u) (a := nI w) (Or.inr (by rw [nI_add, Int32.lt_iff_toInt_lt, nI_toInt (by omega), show (2000 : Int32).toInt = 2000 from rfl]; omega))
  exact ⟨(by decide : (-1000000 : Int32) - nI 1 = -1000001).trans h3.1, h3.2⟩
theorem ui_step {ε : Nat → Int32} {k q : Nat} {x : Int32} : ui (ui ε k (x + nI q)) k ((ui ε k (x + nI q)) k + 1) = ui ε k (x + nI (q + 1)) := by
  rw [ui_eq, Int32.add_assoc, nI_1]
  funext j
  unfold ui
  by_cases e : j = k
  · rw [if_pos e, if_pos e]
  · rw [if_neg e, if_neg e, if_neg e]

set_option maxRecDepth 100000 in
set_option maxHeartbeats 4000000 in
theorem g_endDayE {ε : Nat → Int32} {d B cnt : Nat} {kp : pm_KP} {ρ : pm_S} {I : Nat → Int32} {A : Nat → Nat → Int32} (hdd : 4 ≤ d)  (h : gq ε I) : pm_met mX7_endDay d 0 0 B [.ref (B + 1)] cnt (pm_two (cl_L B kp I A) ρ) (pm_Qv (fun σ' cnt' => hvq (ui ε 102 (ε 102 + 1)) B kp ρ cnt σ' cnt')) := by
  refine pm_enter 0 (by decide) (Nat.le_of_ble_eq_true rfl) rfl (fun G hG hR hF => ?_)
  refine pm_aloadn hG dX7_endDay_0 rfl ?_
  refine pm_dup hG dX7_endDay_1 rfl ?_
  refine pm_getf hG dX7_endDay_2 (flX7_72 _ rfl) rfl rfl ?_
  refine pm_iconst (v := 1) hG dX7_endDay_5 (by decide) ?_
  refine pm_iadd hG dX7_endDay_6 ?_
  refine pm_putf hG dX7_endDay_7 (fwX7_72 _ rfl) rfl rfl rfl ?_
  refine pm_nrm (L' := cl_L B kp (ui I 102 ((I 102) + 1)) A) (by decide) (Nat.le_of_ble_eq_true rfl) rfl ?_
  refine pm_aloadn hG dX7_endDay_10 rfl ?_
  refine pm_callV (As := []) (rest := []) hG hR dX7_endDay_11 (lkX7_141 _ rfl) okV_X7_bringTravellers rfl rfl (g_X7_bringTravellers (d := 3) (by decide) (gq.inc (k := 102) rfl (by decide) h)) rfl rfl hdd (Nat.le_refl _) (Nat.le_refl _) (by decide) (pm_kv (fun σ' cnt' hq => ?_))
  obtain ⟨I2, A2, rfl, rfl, h2⟩ := hq
  refine pm_aloadn hG dX7_endDay_14 rfl ?_
  refine pm_callV (As := []) (rest := []) hG hR dX7_endDay_15 (lkX7_144 _ rfl) okV_X7_takeBackLent rfl rfl (g_X7_takeBackLent (d := 3) (by decide) h2) rfl rfl hdd (Nat.le_refl _) (Nat.le_refl _) (by decide) (pm_kv (fun σ' cnt' hq => ?_))
  obtain ⟨I3, A3, rfl, rfl, h3⟩ := hq
  refine pm_aloadn hG dX7_endDay_18 rfl ?_
  refine pm_getf hG dX7_endDay_19 (flX7_72 _ rfl) rfl rfl ?_
  refine pm_bipush (v := 90) hG dX7_endDay_22 (by decide) ?_
  refine pm_irem hG dX7_endDay_24 (by decide) ?_
  refine pm_if_ne (tgt := 40) hG dX7_endDay_25 rfl (fun c4 => ?_) (fun c4 => ?_)
  · exact pm_vret hG hF dX7_endDay_40 rfl (Nat.le_refl _) (Nat.le_refl _) ⟨rfl, _, _, rfl, rfl, h3⟩
  · refine pm_aloadn hG dX7_endDay_28 rfl ?_
    refine pm_callV (As := []) (rest := []) hG hR dX7_endDay_29 (lkX7_147 _ rfl) okV_X7_collectRents rfl rfl (g_X7_collectRents (d := 3) (by decide) h3) rfl rfl hdd (Nat.le_refl _) (Nat.le_refl _) (by decide) (pm_kv (fun σ' cnt' hq => ?_))
    obtain ⟨I5, A5, rfl, rfl, h5⟩ := hq
    refine pm_aloadn hG dX7_endDay_32 rfl ?_
    refine pm_callV (As := []) (rest := []) hG hR dX7_endDay_33 (lkX7_150 _ rfl) okV_X7_payMen rfl rfl (g_X7_payMen (d := 3) (by decide) h5) rfl rfl hdd (Nat.le_refl _) (Nat.le_refl _) (by decide) (pm_kv (fun σ' cnt' hq => ?_))
    obtain ⟨I6, A6, rfl, rfl, h6⟩ := hq
    refine pm_aloadn hG dX7_endDay_36 rfl ?_
    refine pm_callV (As := []) (rest := []) hG hR dX7_endDay_37 (lkX7_153 _ rfl) okV_X7_serveDebts rfl rfl (g_X7_serveDebts (d := 3) (by decide) h6) rfl rfl hdd (Nat.le_refl _) (Nat.le_refl _) (by decide) (pm_kv (fun σ' cnt' hq => ?_))
    obtain ⟨I7, A7, rfl, rfl, h7⟩ := hq
    exact pm_vret hG hF dX7_endDay_40 rfl (Nat.le_refl _) (Nat.le_refl _) ⟨rfl, _, _, rfl, rfl, h7⟩

set_option maxRecDepth 100000 in
set_option maxHeartbeats 4000000 in
theorem g_daysE1 {ε : Nat → Int32} {d B cnt : Nat} {kp : pm_KP} {ρ : pm_S} {I : Nat → Int32} {A : Nat → Nat → Int32} (hdd : 5 ≤ d) {w : Nat} (hw1 : 1 ≤ w) (hw2 : w ≤ 400) (hs : ¬ 2000 < ε 102 + nI w) (h : gq ε I) : pm_met mX11_days d 0 0 B [.ref (B + 0), .int (nI w)] cnt (pm_two (cl_L B kp I A) ρ) (pm_Qi (fun v σ' cnt' => v = ε 102 + nI w ∧ hvq (ui ε 102 (ε 102 + nI w)) B kp ρ cnt σ' cnt')) := by
  refine pm_enter 1 (by decide) (Nat.le_of_ble_eq_true rfl) rfl (fun G hG hR hF => ?_)
  refine pm_iloadn hG dX11_days_0 rfl ?_
  refine pm_iconst (v := 1) hG dX11_days_1 (by decide) ?_
  refine pm_sipush (v := 400) hG dX11_days_2 (by decide) ?_
  refine pm_callS (As := [.int (nI w), .int 1, .int 400]) (rest := []) hG hR dX11_days_5 (lkX11_105 _ rfl) okS_X11_isOutside (sx_isOutside (d := 4)) rfl rfl hdd (Nat.le_refl _) (Nat.le_refl _) (by decide) (pm_ki (fun v1 σ' cnt' hq => ?_))
  obtain rfl : v1 = 0 := hq.1.trans (if_neg (out_no hw1 hw2))
  obtain ⟨I1, A1, rfl, rfl, h1⟩ := hv_id (kp := kp) (I := I) (A := A) h hq.2
  refine pm_if_ne (tgt := 26) hG dX11_days_8 rfl (fun q => absurd q (by decide)) (fun _ => ?_)
  refine pm_aloadn hG dX11_days_11 rfl ?_
  refine pm_getf hG dX11_days_12 (flX11_12 _ rfl) rfl rfl ?_
  refine pm_getf hG dX11_days_15 (flX11_122 _ rfl) rfl rfl ?_
  refine pm_iloadn hG dX11_days_18 rfl ?_
  refine pm_iadd hG dX11_days_19 ?_
  refine pm_sipush (v := 2000) hG dX11_days_20 (by decide) ?_
  refine pm_icmp_le (tgt := 33) hG dX11_days_23 rfl (fun c2 => ?_) (fun c2 => ?_)
  · refine pm_iconst (v := 0) hG dX11_days_33 (by decide) ?_
    refine pm_istoreXn (loc' := [some (.ref (B + 0)), some (.int (nI w)), some (.int 0)]) hG dX11_days_34 (by decide) (pm_c1b rfl) rfl ?_
    have loop35 : ∀ (m : Nat) (I9 : Nat → Int32) (A9 : Nat → Nat → Int32) (q : Nat), q ≤ w → gq (ui ε 102 (ε 102 + nI q)) I9 → w - q < m → pm_wp mX11_days G B 35 [some (.ref (B + 0)), some (.int (nI w)), some (.int (nI q))] [] 0 0 cnt (pm_two (cl_L B kp I9 A9) ρ) := by
      intro m
      induction m with
      | zero => intro I9 A9 q _ _ hm; exact absurd hm (Nat.not_lt_zero _)
      | succ m ih =>
        intro I9 A9 q hq9 h9 hm
        refine pm_iloadn hG dX11_days_35 rfl ?_
        refine pm_iloadn hG dX11_days_36 rfl ?_
        refine pm_icmp_ge (tgt := 53) hG dX11_days_37 rfl (fun c => ?_) (fun c => ?_)
        · have c' := (nI_leI (by omega) (by omega)).mp c
          obtain rfl : q = w := by omega
          refine pm_aloadn hG dX11_days_53 rfl ?_
          refine pm_getf hG dX11_days_54 (flX11_12 _ rfl) rfl rfl ?_
          refine pm_getf hG dX11_days_57 (flX11_122 _ rfl) rfl rfl ?_
          exact pm_iret hG hF dX11_days_60 rfl (Nat.le_refl _) (Nat.le_refl _) ⟨_, rfl, (h9.2 102 (by decide)).trans ui_eq, _, _, rfl, rfl, h9⟩
        · have c' : ¬ w ≤ q := fun z => c ((nI_leI (by omega) (by omega)).mpr z)
          refine pm_aloadn hG dX11_days_40 rfl ?_
          refine pm_getf hG dX11_days_41 (flX11_12 _ rfl) rfl rfl ?_
          refine pm_callV (As := []) (rest := []) hG hR dX11_days_44 (lkX11_245 _ rfl) okV_X7_endDay rfl rfl (g_endDayE (d := 4) (by decide) h9) rfl rfl hdd (Nat.le_refl _) (Nat.le_refl _) (by decide) (pm_kv (fun σ' cnt' hq => ?_))
          obtain ⟨I8, A8, rfl, rfl, h8⟩ := hq
          rw [ui_step] at h8
          refine pm_iincX (v := nI (q + 1)) (loc' := [some (.ref (B + 0)), some (.int (nI w)), some (.int (nI (q + 1)))]) hG dX11_days_47 rfl (nI_1 _) (by decide) (pm_c1b rfl) rfl ?_
          refine pm_goto (tgt := 35) hG dX11_days_50 rfl ?_
          exact ih I8 A8 (q + 1) (by omega) h8 (by omega)
    exact loop35 _ _ _ 0 (Nat.zero_le _) (by rw [show ui ε 102 (ε 102 + nI 0) = ε from ui_self (by rw [nI_0]; exact Int32.add_zero _)]; exact h1) (Nat.lt_succ_self _)
  · exact absurd (show 2000 < ε 102 + nI w by rw [← h1.2 102 (by decide)]; exact gt_of_nle c2) hs

set_option maxRecDepth 100000 in
set_option maxHeartbeats 4000000 in
theorem g_daysE0 {ε : Nat → Int32} {d B cnt : Nat} {kp : pm_KP} {ρ : pm_S} {I : Nat → Int32} {A : Nat → Nat → Int32} (hdd : 1 ≤ d) {za : Int32} (hb : (za < 1 ∨ 400 < za) ∨ 2000 < ε 102 + za) (h : gq ε I) : pm_met mX11_days d 0 0 B [.ref (B + 0), .int za] cnt (pm_two (cl_L B kp I A) ρ) (pm_Qi (fun v σ' cnt' => v = -1000001 ∧ hvq ε B kp ρ cnt σ' cnt')) := by
  refine pm_enter 1 (by decide) (Nat.le_of_ble_eq_true rfl) rfl (fun G hG hR hF => ?_)
  refine pm_iloadn hG dX11_days_0 rfl ?_
  refine pm_iconst (v := 1) hG dX11_days_1 (by decide) ?_
  refine pm_sipush (v := 400) hG dX11_days_2 (by decide) ?_
  refine pm_callS (As := [.int za, .int 1, .int 400]) (rest := []) hG hR dX11_days_5 (lkX11_105 _ rfl) okS_X11_isOutside (sx_isOutside (d := 0)) rfl rfl hdd (Nat.le_refl _) (Nat.le_refl _) (by decide) (pm_ki (fun v1 σ' cnt' hq => ?_))
  have o1 := hq.1
  have b1 := pm_b10 hq.1
  obtain ⟨I1, A1, rfl, rfl, h1⟩ := hv_id (kp := kp) (I := I) (A := A) h hq.2
  refine pm_if_ne (tgt := 26) hG dX11_days_8 rfl (fun c2 => ?_) (fun c2 => ?_)
  · refine pm_aloadn hG dX11_days_26 rfl ?_
    refine pm_ldc hG dX11_days_27 (ctX11_109 _ rfl) ?_
    refine pm_callV (As := [.int (-1000001)]) (rest := []) hG hR dX11_days_29 (lkX11_97 _ rfl) okV_X11_told rfl rfl (sx_told (d := 0) (by decide) rfl rfl) rfl rfl hdd (Nat.le_refl _) (Nat.le_refl _) (by decide) (pm_ki (fun v3 σ' cnt' hq => ?_))
    obtain ⟨ev3, ⟨g3, hg3⟩, hc3⟩ := hq
    obtain ⟨I3, A3, rfl, rfl, h3⟩ := hv_a53 (kp := kp) (I := I1) (A := A1) h1 ⟨hg3, hc3⟩
    subst ev3
    exact pm_iret hG hF dX11_days_32 rfl (Nat.le_refl _) (Nat.le_refl _) ⟨_, rfl, rfl, _, _, rfl, rfl, h3⟩
  · refine pm_aloadn hG dX11_days_11 rfl ?_
    refine pm_getf hG dX11_days_12 (flX11_12 _ rfl) rfl rfl ?_
    refine pm_getf hG dX11_days_15 (flX11_122 _ rfl) rfl rfl ?_
    refine pm_iloadn hG dX11_days_18 rfl ?_
    refine pm_iadd hG dX11_days_19 ?_
    refine pm_sipush (v := 2000) hG dX11_days_20 (by decide) ?_
    refine pm_icmp_le (tgt := 33) hG dX11_days_23 rfl (fun c4 => ?_) (fun c4 => ?_)
    · exact absurd hb (days_out o1 c2 (by rw [← h1.2 102 (by decide)]; exact c4))
    · refine pm_aloadn hG dX11_days_26 rfl ?_
      refine pm_ldc hG dX11_days_27 (ctX11_109 _ rfl) ?_
      refine pm_callV (As := [.int (-1000001)]) (rest := []) hG hR dX11_days_29 (lkX11_97 _ rfl) okV_X11_told rfl rfl (sx_told (d := 0) (by decide) rfl rfl) rfl rfl hdd (Nat.le_refl _) (Nat.le_refl _) (by decide) (pm_ki (fun v5 σ' cnt' hq => ?_))
      obtain ⟨ev5, ⟨g5, hg5⟩, hc5⟩ := hq
      obtain ⟨I5, A5, rfl, rfl, h5⟩ := hv_a53 (kp := kp) (I := I1) (A := A1) h1 ⟨hg5, hc5⟩
      subst ev5
      exact pm_iret hG hF dX11_days_32 rfl (Nat.le_refl _) (Nat.le_refl _) ⟨_, rfl, rfl, _, _, rfl, rfl, h5⟩

theorem g_daysE {ε : Nat → Int32} {d B cnt : Nat} {kp : pm_KP} {ρ : pm_S} {I : Nat → Int32} {A : Nat → Nat → Int32} {za : Int32} (hdd : 5 ≤ d) (h : gq ε I) : pm_met mX11_days d 0 0 B [.ref (B + 0), .int za] cnt (pm_two (cl_L B kp I A) ρ) (pm_Qi (fun v σ' cnt' => v = vD (ε 102) za ∧ hvq (ui ε 102 (tD (ε 102) za)) B kp ρ cnt σ' cnt')) := by
  by_cases hb : (za < 1 ∨ 400 < za) ∨ 2000 < ε 102 + za
  · refine pm_mono (g_daysE0 (by omega) hb h) ?_
    rintro r σ' c' ⟨v, rfl, rfl, h2⟩
    exact ⟨_, rfl, (vD_n hb).1, by rw [ui_self (vD_n hb).2.symm]; exact h2⟩
  · have e1 := vD_y hb
    obtain ⟨w, hw, rfl⟩ := nI_of2 (x := za) (M := 400) (n := 400) rfl (fun q => hb (Or.inl (Or.inl (by rw [Int32.lt_iff_toInt_lt] at q ⊢; have h1 : (1 : Int32).toInt = 1 := rfl; have h0 : (0 : Int32).toInt = 0 := rfl; omega)))) (by rw [Int32.le_iff_toInt_le]; have q : ¬ 400 < za := fun q => hb (Or.inl (Or.inr q)); rw [Int32.lt_iff_toInt_lt] at q; omega)
    have hw1 : 1 ≤ w := by
      by_cases q : 1 ≤ w
      · exact q
      · obtain rfl : w = 0 := by omega
        exact absurd (Or.inl (Or.inl (by decide))) hb
    refine pm_mono (g_daysE1 (by omega) hw1 hw (fun q => hb (Or.inr q)) h) ?_
    rintro r σ' c' ⟨v, rfl, rfl, h2⟩
    exact ⟨_, rfl, e1.1, by rw [← e1.2]; exact h2⟩
theorem le_of_nlt {x y : Int32} (h : ¬ x < y) : y ≤ x := by
  rw [Int32.lt_iff_toInt_lt] at h
  rw [Int32.le_iff_toInt_le]; omega
theorem has_0 {v a t : Int32} (o : v = (if a < 0 ∨ t ≤ a then 0 else 1)) (c : v = 0) : a < 0 ∨ t ≤ a := by
  by_cases q : a < 0 ∨ t ≤ a
  · exact q
  · rw [if_neg q] at o; rw [o] at c; exact absurd c (by decide)
theorem has_1 {v a t : Int32} (o : v = (if a < 0 ∨ t ≤ a then 0 else 1)) (c : ¬ v = 0) : ¬ (a < 0 ∨ t ≤ a) := fun q => c (o.trans (if_pos q))
theorem out_1 {v a lo hi : Int32} (o : v = (if a < lo ∨ hi < a then 1 else 0)) (c : ¬ v = 0) : a < lo ∨ hi < a := by
  by_cases q : a < lo ∨ hi < a
  · exact q
  · rw [if_neg q] at o; exact absurd o c
theorem out_0 {v a lo hi : Int32} (o : v = (if a < lo ∨ hi < a then 1 else 0)) (c : v = 0) : ¬ (a < lo ∨ hi < a) := by
  intro q
  rw [if_pos q] at o; rw [o] at c; exact absurd c (by decide)
theorem not4 {p q r s : Prop} (h1 : ¬ p) (h2 : ¬ q) (h3 : ¬ r) (h4 : ¬ s) : ¬ (p ∨ q ∨ r ∨ s) := by
  rintro (h | h | h | h)
  · exact h1 h
  · exact h2 h
  · exact h3 h
  · exact h4 h
theorem nt_out {x t : Int32} {c : Nat} (e : t = nI c) (hc : c < 2 ^ 30) (h : x < nI 0 ∨ nI c - nI 1 < x) : x < 0 ∨ t ≤ x := by
  subst e
  rcases h with h | h
  · exact Or.inl h
  · refine Or.inr ?_
    have h1 := nI_toInt (n := c) (by omega)
    by_cases h0 : c = 0
    · subst h0
      by_cases q : x < 0
      · have h3 : (nI 0 - nI 1 : Int32).toInt = -1 := by decide
        rw [Int32.lt_iff_toInt_lt, h3] at h
        rw [Int32.lt_iff_toInt_lt, show (0 : Int32).toInt = 0 from rfl] at q; omega
      · exact le_of_nlt q
    · obtain ⟨k, rfl⟩ : ∃ k : Nat, c = k + 1 := ⟨c - 1, by omega⟩
      rw [show nI (k + 1) - nI 1 = nI k from nI_pred k, Int32.lt_iff_toInt_lt, nI_toInt (by omega)] at h
      rw [Int32.le_iff_toInt_le, h1]; omega
theorem nt_in {x t : Int32} {c j : Nat} (e : t = nI c) (hc : c < 2 ^ 30) (h : x = nI j) (hj : j < c) : ¬ (x < 0 ∨ t ≤ x) := by
  subst e h
  rintro (q | q)
  · exact nI_pos (by omega) q
  · have := (nI_leI (by omega) (by omega)).mp q; omega
theorem rg_in {x : Int32} {a b j : Nat} (hb : b < 2 ^ 31) (h : x = nI j) (h1 : a ≤ j) (h2 : j ≤ b) : ¬ (x < nI a ∨ nI b < x) := by
  subst h
  rintro (q | q)
  · exact nI_nlt h1 (by omega) q
  · exact nI_nlt h2 (by omega) q

/-! ===== persons ===== -/
abbrev par (T : Nat → Int32) (p x s b : Int32) : Prop := x = -1 ∨ (¬ (x < 0 ∨ p ≤ x) ∧ T (14 * x.toNatClampNeg + 0) = s ∧ T (14 * x.toNatClampNeg + 1) < b)
def tP (T : Nat → Int32) (u : Nat) (s b : Int32) : Nat → Int32 := upd (pm_apf 14 u s T) (u * 14 + 1) b
def vE (T : Nat → Int32) (d t p a b c e : Int32) : Int32 := if (a < 0 ∨ 1 < a) ∨ (b < -20000 ∨ d < b) ∨ c < 0 ∨ (e < 0 ∨ t ≤ e) ∨ (¬ par T p (c / 100 - 1) 1 b) ∨ (¬ par T p (c - c / 100 * 100 - 1) 0 b) then -1000001 else if p = nI 20 then -1000004 else p
def pE (T : Nat → Int32) (d t p a b c e : Int32) : Int32 := if (a < 0 ∨ 1 < a) ∨ (b < -20000 ∨ d < b) ∨ c < 0 ∨ (e < 0 ∨ t ≤ e) ∨ (¬ par T p (c / 100 - 1) 1 b) ∨ (¬ par T p (c - c / 100 * 100 - 1) 0 b) then p else if p = nI 20 then p else p + 1
def TE (T : Nat → Int32) (d t p a b c e : Int32) : Nat → Int32 := if (a < 0 ∨ 1 < a) ∨ (b < -20000 ∨ d < b) ∨ c < 0 ∨ (e < 0 ∨ t ≤ e) ∨ (¬ par T p (c / 100 - 1) 1 b) ∨ (¬ par T p (c - c / 100 * 100 - 1) 0 b) then T else if p = nI 20 then T else tP T p.toNatClampNeg a b
theorem vE_n {T : Nat → Int32} {d t p a b c e : Int32} (h : (a < 0 ∨ 1 < a) ∨ (b < -20000 ∨ d < b) ∨ c < 0 ∨ (e < 0 ∨ t ≤ e) ∨ (¬ par T p (c / 100 - 1) 1 b) ∨ (¬ par T p (c - c / 100 * 100 - 1) 0 b)) : -1000001 = vE T d t p a b c e ∧ p = pE T d t p a b c e ∧ TE T d t p a b c e = T := by
  unfold vE pE TE
  rw [if_pos h, if_pos h, if_pos h]; exact ⟨rfl, rfl, rfl⟩
theorem vE_f {T : Nat → Int32} {d t p a b c e : Int32} (h : ¬ ((a < 0 ∨ 1 < a) ∨ (b < -20000 ∨ d < b) ∨ c < 0 ∨ (e < 0 ∨ t ≤ e) ∨ (¬ par T p (c / 100 - 1) 1 b) ∨ (¬ par T p (c - c / 100 * 100 - 1) 0 b))) (h2 : p = nI 20) : -1000004 = vE T d t p a b c e ∧ p = pE T d t p a b c e ∧ TE T d t p a b c e = T := by
  unfold vE pE TE
  rw [if_neg h, if_neg h, if_neg h, if_pos h2, if_pos h2, if_pos h2]; exact ⟨rfl, rfl, rfl⟩
theorem vE_y {T : Nat → Int32} {d t p a b c e : Int32} {u : Nat} (h : ¬ ((a < 0 ∨ 1 < a) ∨ (b < -20000 ∨ d < b) ∨ c < 0 ∨ (e < 0 ∨ t ≤ e) ∨ (¬ par T p (c / 100 - 1) 1 b) ∨ (¬ par T p (c - c / 100 * 100 - 1) 0 b))) (hp : p = nI u) (h2 : u < 20) : nI u = vE T d t p a b c e ∧ nI (u + 1) = pE T d t p a b c e ∧ TE T d t p a b c e = tP T u a b := by
  have h3 : ¬ p = nI 20 := fun q => by have := (nI_eq (by omega) (by decide)).mp (hp.symm.trans q); omega
  unfold vE pE TE
  rw [if_neg h, if_neg h, if_neg h, if_neg h3, if_neg h3, if_neg h3, hp, nI_clamp (by omega)]; exact ⟨rfl, (nI_1 u).symm, rfl⟩
theorem not6 {p q r s u v : Prop} (h1 : ¬ p) (h2 : ¬ q) (h3 : ¬ r) (h4 : ¬ s) (h5 : ¬ u) (h6 : ¬ v) : ¬ (p ∨ q ∨ r ∨ s ∨ u ∨ v) := by
  rintro (h | h | h | h | h | h)
  · exact h1 h
  · exact h2 h
  · exact h3 h
  · exact h4 h
  · exact h5 h
  · exact h6 h
theorem if_0 {v : Int32} {p : Prop} [Decidable p] (o : v = if p then 1 else 0) (h : v = 0) : ¬ p := fun q => by
  rw [if_pos q] at o; rw [o] at h; exact absurd h (by decide)
theorem if_1 {v : Int32} {p : Prop} [Decidable p] (o : v = if p then 1 else 0) (h : ¬ v = 0) : ¬ ¬ p := fun q => by
  rw [if_neg q] at o; exact h o
theorem tg7 {T g : Nat → Int32} {x p : Int32} {u : Nat} (c : Nat) (hc : c = 0 ∨ c = 1 ∨ c = 9 ∨ c = 13) (h : ¬ (x < 0 ∨ p ≤ x)) (hp : p = nI u) (hu : u ≤ 20) : pm_tg (nI 20) (nI 14) (cmx T g) x (nI c) = T (14 * x.toNatClampNeg + c) := by
  obtain ⟨k, hk, rfl⟩ := nI_of (fun q => h (Or.inl q))
  have hku : k < u := by
    refine Nat.lt_of_not_le (fun q => h (Or.inr ?_))
    rw [hp]; exact (nI_leI (by omega) hk).mpr q
  unfold pm_tg
  rw [if_neg, pk_mul, nI_add, nI_clamp (by omega), nI_clamp (by omega), cmx_t (t7_iff.mpr ⟨by omega, by omega⟩), Nat.mul_comm]
  rintro (q | q | q | q)
  · exact nI_pos hk q
  · have := (nI_leI (a := 20) (by decide) hk).mp q
    omega
  · exact nI_pos (by omega) q
  · have := (nI_leI (a := 14) (by decide) (by omega)).mp q
    omega
theorem pm_genK {M : pm_M} {G : pm_G} {B pc : Nat} {loc : List (Option Value)} {st : List Value} {cs zs cnt : Nat} {ρ : pm_S} {I : Nat → Int32} {A : Nat → Nat → Int32} {K : pm_KP} (h : ∀ q : pm_KP, q = K → pm_wp M G B pc loc st cs zs cnt (pm_two (cl_L B q I A) ρ)) : pm_wp M G B pc loc st cs zs cnt (pm_two (cl_L B K I A) ρ) := h K rfl
theorem hq_p6 {ε : Nat → Int32} {B cnt cnt' : Nat} {kp : pm_KP} {ρ σ' : pm_S} {I : Nat → Int32} {A : Nat → Nat → Int32} {u : Nat} {x : Int32} (hlt : u < 20) (h : gq ε I) (hq : σ' = pm_up (pm_up (pm_two (cl_L B kp I A) ρ) 6 (.inr (9, [.int (nI 20), .int (nI 14), .ref (B + 7), .int (nI (u + 1))]))) 7 (.inl (280, pm_apf 14 u x (cmx kp.2 (A 7)))) ∧ cnt' = cnt) : hvq (ui ε 6 (nI (u + 1))) B (kp.1, pm_apf 14 u x kp.2) ρ cnt σ' cnt' := by
  have hF : ∀ j : Nat, t7 j = true → pm_apf 14 u x (cmx kp.2 (A 7)) j = pm_apf 14 u x kp.2 j := by
    intro j hj
    unfold pm_apf
    rw [cmx_t hj]
  refine ⟨ui I 6 (nI (u + 1)), ua A 7 (pm_apf 14 u x (cmx kp.2 (A 7))), ?_, hq.2.symm, gq.app 20 (u + 1) rfl hlt h⟩
  have e : ((cl_L B kp I A).set 6 (.inr (9, [.int (nI 20), .int (nI 14), .ref (B + 7), .int (nI (u + 1))]))).set 7 (.inl (280, cmx (pm_apf 14 u x kp.2) (pm_apf 14 u x (cmx kp.2 (A 7))))) = cl_L B (kp.1, pm_apf 14 u x kp.2) (ui I 6 (nI (u + 1))) (ua A 7 (pm_apf 14 u x (cmx kp.2 (A 7)))) := rfl
  rw [cmx_of hF] at e
  rw [hq.1, pm_two_up (by decide) (Nat.le_of_ble_eq_true rfl), pm_two_up (by decide) (Nat.le_of_ble_eq_true rfl), e]
theorem hv_w7 {ε : Nat → Int32} {B cnt cnt' : Nat} {kp : pm_KP} {ρ σ' : pm_S} {I : Nat → Int32} {A : Nat → Nat → Int32} {u : Nat} {x : Int32} (c : Nat) (hc : c < 14) (hlt : u < 20) (h : gq ε I) (hq : σ' = pm_up (pm_two (cl_L B kp I A) ρ) 7 (.inl (280, pm_ts (nI 20) (nI 14) (cmx kp.2 (A 7)) (nI u) (nI c) x)) ∧ cnt' = cnt) : hvq ε B (kp.1, upd kp.2 (u * 14 + c) x) ρ cnt σ' cnt' := by
  rw [pm_ts_in (R := 20) (W := 14) (by decide) (by decide) (by decide) hlt hc] at hq
  have hF : ∀ j : Nat, t7 j = true → upd (cmx kp.2 (A 7)) (u * 14 + c) x j = upd kp.2 (u * 14 + c) x j := by
    intro j hj
    unfold upd
    rw [cmx_t hj]
  refine ⟨I, ua A 7 (upd (cmx kp.2 (A 7)) (u * 14 + c) x), ?_, hq.2.symm, h⟩
  have e : (cl_L B kp I A).set 7 (.inl (280, cmx (upd kp.2 (u * 14 + c) x) (upd (cmx kp.2 (A 7)) (u * 14 + c) x))) = cl_L B (kp.1, upd kp.2 (u * 14 + c) x) I (ua A 7 (upd (cmx kp.2 (A 7)) (u * 14 + c) x)) := rfl
  rw [cmx_of hF] at e
  rw [hq.1, pm_two_up (by decide) (Nat.le_of_ble_eq_true rfl), e]

set_option maxRecDepth 100000 in
set_option maxHeartbeats 4000000 in
theorem g_mayBeParentE {ε : Nat → Int32} {d B cnt : Nat} {kp : pm_KP} {ρ : pm_S} {I : Nat → Int32} {A : Nat → Nat → Int32} (hdd : 1 ≤ d) {za zb zc : Int32} {u : Nat} (hu : ε 6 = nI u) (hu2 : u ≤ 20) (h : gq ε I) : pm_met mX7_mayBeParent d 0 0 B [.ref (B + 1), .int za, .int zb, .int zc] cnt (pm_two (cl_L B kp I A) ρ) (pm_Qi (fun v σ' cnt' => v = (if par kp.2 (ε 6) za zb zc then 1 else 0) ∧ hvq ε B kp ρ cnt σ' cnt')) := by
  refine pm_enter 0 (by decide) (Nat.le_of_ble_eq_true rfl) rfl (fun G hG hR hF => ?_)
  refine pm_iloadn hG dX7_mayBeParent_0 rfl ?_
  refine pm_iconst (v := (-1)) hG dX7_mayBeParent_1 (by decide) ?_
  refine pm_icmp_eq (tgt := 42) hG dX7_mayBeParent_2 rfl (fun c1 => ?_) (fun c1 => ?_)
  · refine pm_iconst (v := 1) hG dX7_mayBeParent_42 (by decide) ?_
    refine pm_goto (tgt := 47) hG dX7_mayBeParent_43 rfl ?_
    exact pm_zret hG hF dX7_mayBeParent_47 rfl (pm_nz (Or.inr rfl)) (Nat.le_refl _) (Nat.le_refl _) ⟨_, rfl, (if_pos (Or.inl c1)).symm, _, _, rfl, rfl, h⟩
  · refine pm_aloadn hG dX7_mayBeParent_5 rfl ?_
    refine pm_getf hG dX7_mayBeParent_6 (flX7_23 _ rfl) rfl rfl ?_
    refine pm_iloadn hG dX7_mayBeParent_9 rfl ?_
    refine pm_callV (As := [.int za]) (rest := []) hG hR dX7_mayBeParent_10 (lkX7_93 _ rfl) okV_X9_has rfl rfl (tb_has (d := 0) rfl) rfl rfl hdd (Nat.le_refl _) (Nat.le_refl _) (by decide) (pm_ki (fun v2 σ' cnt' hq => ?_))
    have o2 : v2 = (if za < 0 ∨ ε 6 ≤ za then 0 else 1) := by rw [← h.2 6 (by decide)]; exact hq.1
    have b2 := pm_b01 hq.1
    obtain ⟨I2, A2, rfl, rfl, h2⟩ := hv_id (kp := kp) (I := I) (A := A) h hq.2
    refine pm_if_eq (tgt := 46) hG dX7_mayBeParent_13 rfl (fun c3 => ?_) (fun c3 => ?_)
    · refine pm_iconst (v := 0) hG dX7_mayBeParent_46 (by decide) ?_
      exact pm_zret hG hF dX7_mayBeParent_47 rfl (pm_nz (Or.inl rfl)) (Nat.le_refl _) (Nat.le_refl _) ⟨_, rfl, (if_neg (fun q => q.elim c1 (fun q => q.1 (has_0 o2 c3)))).symm, _, _, rfl, rfl, h2⟩
    · refine pm_aloadn hG dX7_mayBeParent_16 rfl ?_
      refine pm_getf hG dX7_mayBeParent_17 (flX7_23 _ rfl) rfl rfl ?_
      refine pm_iloadn hG dX7_mayBeParent_20 rfl ?_
      refine pm_iconst (v := 0) hG dX7_mayBeParent_21 (by decide) ?_
      refine pm_callV (As := [.int za, .int 0]) (rest := []) hG hR dX7_mayBeParent_22 (lkX7_83 _ rfl) okV_X9_get rfl rfl (tb_get (d := 0) (rows := nI 20) (width := nI 14) (f := cmx kp.2 (A2 7)) rfl rfl (pm_tw_of 20 14 (by decide) (by decide) (by decide))) rfl rfl hdd (Nat.le_refl _) (Nat.le_refl _) (by decide) (pm_ki (fun v4 σ' cnt' hq => ?_))
      obtain rfl : v4 = kp.2 (14 * za.toNatClampNeg + 0) := hq.1.trans (tg7 0 (by decide) (has_1 o2 c3) hu hu2)
      obtain ⟨I4, A4, rfl, rfl, h4⟩ := hv_id (kp := kp) (I := I2) (A := A2) h2 hq.2
      refine pm_iloadn hG dX7_mayBeParent_25 rfl ?_
      refine pm_icmp_ne (tgt := 46) hG dX7_mayBeParent_26 rfl (fun c5 => ?_) (fun c5 => ?_)
      · refine pm_iconst (v := 0) hG dX7_mayBeParent_46 (by decide) ?_
        exact pm_zret hG hF dX7_mayBeParent_47 rfl (pm_nz (Or.inl rfl)) (Nat.le_refl _) (Nat.le_refl _) ⟨_, rfl, (if_neg (fun q => q.elim c1 (fun q => c5 q.2.1))).symm, _, _, rfl, rfl, h4⟩
      · refine pm_aloadn hG dX7_mayBeParent_29 rfl ?_
        refine pm_getf hG dX7_mayBeParent_30 (flX7_23 _ rfl) rfl rfl ?_
        refine pm_iloadn hG dX7_mayBeParent_33 rfl ?_
        refine pm_iconst (v := 1) hG dX7_mayBeParent_34 (by decide) ?_
        refine pm_callV (As := [.int za, .int 1]) (rest := []) hG hR dX7_mayBeParent_35 (lkX7_83 _ rfl) okV_X9_get rfl rfl (tb_get (d := 0) (rows := nI 20) (width := nI 14) (f := cmx kp.2 (A4 7)) rfl rfl (pm_tw_of 20 14 (by decide) (by decide) (by decide))) rfl rfl hdd (Nat.le_refl _) (Nat.le_refl _) (by decide) (pm_ki (fun v6 σ' cnt' hq => ?_))
        obtain rfl : v6 = kp.2 (14 * za.toNatClampNeg + 1) := hq.1.trans (tg7 1 (by decide) (has_1 o2 c3) hu hu2)
        obtain ⟨I6, A6, rfl, rfl, h6⟩ := hv_id (kp := kp) (I := I4) (A := A4) h4 hq.2
        refine pm_iloadn hG dX7_mayBeParent_38 rfl ?_
        refine pm_icmp_ge (tgt := 46) hG dX7_mayBeParent_39 rfl (fun c7 => ?_) (fun c7 => ?_)
        · refine pm_iconst (v := 0) hG dX7_mayBeParent_46 (by decide) ?_
          exact pm_zret hG hF dX7_mayBeParent_47 rfl (pm_nz (Or.inl rfl)) (Nat.le_refl _) (Nat.le_refl _) ⟨_, rfl, (if_neg (fun q => q.elim c1 (fun q => Int32.not_lt.mpr c7 q.2.2))).symm, _, _, rfl, rfl, h6⟩
        · refine pm_iconst (v := 1) hG dX7_mayBeParent_42 (by decide) ?_
          refine pm_goto (tgt := 47) hG dX7_mayBeParent_43 rfl ?_
          exact pm_zret hG hF dX7_mayBeParent_47 rfl (pm_nz (Or.inr rfl)) (Nat.le_refl _) (Nat.le_refl _) ⟨_, rfl, (if_pos (Or.inr ⟨has_1 o2 c3, c5, Int32.not_le.mp c7⟩)).symm, _, _, rfl, rfl, h6⟩

set_option maxRecDepth 100000 in
set_option maxHeartbeats 4000000 in
theorem g_addPersonE {ε : Nat → Int32} {d B cnt : Nat} {kp : pm_KP} {ρ : pm_S} {I : Nat → Int32} {A : Nat → Nat → Int32} (hdd : 3 ≤ d) {za zb zc zd ze : Int32} {u : Nat} (hu : ε 6 = nI u) (hlt : u < 20) (h : gq ε I) : pm_met mX7_addPerson d 0 0 B [.ref (B + 1), .int za, .int zb, .int zc, .int zd, .int ze] cnt (pm_two (cl_L B kp I A) ρ) (pm_Qi (fun v σ' cnt' => v = nI u ∧ hvq (ui ε 6 (nI (u + 1))) B (kp.1, tP kp.2 u za zb) ρ cnt σ' cnt')) := by
  refine pm_enter 1 (by decide) (Nat.le_of_ble_eq_true rfl) rfl (fun G hG hR hF => ?_)
  refine pm_aloadn hG dX7_addPerson_0 rfl ?_
  refine pm_getf hG dX7_addPerson_1 (flX7_23 _ rfl) rfl rfl ?_
  refine pm_iloadn hG dX7_addPerson_4 rfl ?_
  have hu1 : I 6 = nI u := (h.2 6 (by decide)).trans hu
  have ht1 : pm_two (cl_L B kp I A) ρ 6 = some (.inr (9, [.int (nI 20), .int (nI 14), .ref (B + 7), .int (nI u)])) := by rw [← hu1]; rfl
  refine pm_callV (As := [.int za]) (rest := []) hG hR dX7_addPerson_5 (lkX7_75 _ rfl) okV_X9_append rfl rfl (tb_append (d := 2) (f := cmx kp.2 (A 7)) (by decide) ht1 rfl (by decide) (by decide) (by decide) (by decide) (by decide) (by decide) (by omega)) rfl rfl hdd (Nat.le_refl _) (Nat.le_refl _) (by decide) (pm_ki (fun v1 σ' cnt' hq => ?_))
  obtain ⟨hq, ec1⟩ := hq
  rcases hq with ⟨q1, -, -⟩ | ⟨-, rfl, es1⟩
  · exact absurd q1 (by omega)
  obtain ⟨I1, A1, rfl, rfl, h1⟩ := hq_p6 (kp := kp) (I := I) (A := A) hlt h ⟨es1, ec1⟩
  refine pm_genK (fun kp ek1 => ?_)
  refine pm_istoreXi (loc' := [some (.ref (B + 1)), some (.int za), some (.int zb), some (.int zc), some (.int zd), some (.int ze), some (.int (nI u))]) hG dX7_addPerson_8 (by decide) (pm_c1b rfl) rfl ?_
  refine pm_aloadn hG dX7_addPerson_10 rfl ?_
  refine pm_getf hG dX7_addPerson_11 (flX7_23 _ rfl) rfl rfl ?_
  refine pm_iloadi hG dX7_addPerson_14 rfl ?_
  refine pm_iconst (v := 1) hG dX7_addPerson_16 (by decide) ?_
  refine pm_iloadn hG dX7_addPerson_17 rfl ?_
  refine pm_callV (As := [.int (nI u), .int 1, .int zb]) (rest := []) hG hR dX7_addPerson_18 (lkX7_61 _ rfl) okV_X9_set rfl rfl (tb_set (d := 2) (rows := nI 20) (width := nI 14) (f := cmx kp.2 (A1 7)) rfl rfl (pm_tw_of 20 14 (by decide) (by decide) (by decide)) (by decide)) rfl rfl hdd (Nat.le_refl _) (Nat.le_refl _) (by decide) (pm_kv (fun σ' cnt' hq => ?_))
  obtain ⟨I2, A2, rfl, rfl, h2⟩ := hv_w7 (kp := kp) (I := I1) (A := A1) 1 (by decide) hlt h1 hq
  refine pm_genK (fun kp ek2 => ?_)
  refine pm_aloadn hG dX7_addPerson_21 rfl ?_
  refine pm_getf hG dX7_addPerson_22 (flX7_23 _ rfl) rfl rfl ?_
  refine pm_iloadi hG dX7_addPerson_25 rfl ?_
  refine pm_iconst (v := 2) hG dX7_addPerson_27 (by decide) ?_
  refine pm_iloadn hG dX7_addPerson_28 rfl ?_
  refine pm_callV (As := [.int (nI u), .int 2, .int zc]) (rest := []) hG hR dX7_addPerson_29 (lkX7_61 _ rfl) okV_X9_set rfl rfl (tb_set (d := 2) (rows := nI 20) (width := nI 14) (f := cmx kp.2 (A2 7)) rfl rfl (pm_tw_of 20 14 (by decide) (by decide) (by decide)) (by decide)) rfl rfl hdd (Nat.le_refl _) (Nat.le_refl _) (by decide) (pm_kv (fun σ' cnt' hq => ?_))
  obtain ⟨I3, A3, rfl, rfl, h3⟩ := hv_s7 (kp := kp) (I := I2) (A := A2) (ts7 2 (by decide) (by decide)) h2 hq
  refine pm_aloadn hG dX7_addPerson_32 rfl ?_
  refine pm_getf hG dX7_addPerson_33 (flX7_23 _ rfl) rfl rfl ?_
  refine pm_iloadi hG dX7_addPerson_36 rfl ?_
  refine pm_iconst (v := 3) hG dX7_addPerson_38 (by decide) ?_
  refine pm_iloadi hG dX7_addPerson_39 rfl ?_
  refine pm_callV (As := [.int (nI u), .int 3, .int zd]) (rest := []) hG hR dX7_addPerson_41 (lkX7_61 _ rfl) okV_X9_set rfl rfl (tb_set (d := 2) (rows := nI 20) (width := nI 14) (f := cmx kp.2 (A3 7)) rfl rfl (pm_tw_of 20 14 (by decide) (by decide) (by decide)) (by decide)) rfl rfl hdd (Nat.le_refl _) (Nat.le_refl _) (by decide) (pm_kv (fun σ' cnt' hq => ?_))
  obtain ⟨I4, A4, rfl, rfl, h4⟩ := hv_s7 (kp := kp) (I := I3) (A := A3) (ts7 3 (by decide) (by decide)) h3 hq
  refine pm_aloadn hG dX7_addPerson_44 rfl ?_
  refine pm_getf hG dX7_addPerson_45 (flX7_23 _ rfl) rfl rfl ?_
  refine pm_iloadi hG dX7_addPerson_48 rfl ?_
  refine pm_iconst (v := 4) hG dX7_addPerson_50 (by decide) ?_
  refine pm_iloadi hG dX7_addPerson_51 rfl ?_
  refine pm_callV (As := [.int (nI u), .int 4, .int ze]) (rest := []) hG hR dX7_addPerson_53 (lkX7_61 _ rfl) okV_X9_set rfl rfl (tb_set (d := 2) (rows := nI 20) (width := nI 14) (f := cmx kp.2 (A4 7)) rfl rfl (pm_tw_of 20 14 (by decide) (by decide) (by decide)) (by decide)) rfl rfl hdd (Nat.le_refl _) (Nat.le_refl _) (by decide) (pm_kv (fun σ' cnt' hq => ?_))
  obtain ⟨I5, A5, rfl, rfl, h5⟩ := hv_s7 (kp := kp) (I := I4) (A := A4) (ts7 4 (by decide) (by decide)) h4 hq
  refine pm_aloadn hG dX7_addPerson_56 rfl ?_
  refine pm_getf hG dX7_addPerson_57 (flX7_23 _ rfl) rfl rfl ?_
  refine pm_iloadi hG dX7_addPerson_60 rfl ?_
  refine pm_bipush (v := 10) hG dX7_addPerson_62 (by decide) ?_
  refine pm_iconst (v := (-1)) hG dX7_addPerson_64 (by decide) ?_
  refine pm_callV (As := [.int (nI u), .int 10, .int (-1)]) (rest := []) hG hR dX7_addPerson_65 (lkX7_61 _ rfl) okV_X9_set rfl rfl (tb_set (d := 2) (rows := nI 20) (width := nI 14) (f := cmx kp.2 (A5 7)) rfl rfl (pm_tw_of 20 14 (by decide) (by decide) (by decide)) (by decide)) rfl rfl hdd (Nat.le_refl _) (Nat.le_refl _) (by decide) (pm_kv (fun σ' cnt' hq => ?_))
  obtain ⟨I6, A6, rfl, rfl, h6⟩ := hv_s7 (kp := kp) (I := I5) (A := A5) (ts7 10 (by decide) (by decide)) h5 hq
  refine pm_aloadn hG dX7_addPerson_68 rfl ?_
  refine pm_getf hG dX7_addPerson_69 (flX7_23 _ rfl) rfl rfl ?_
  refine pm_iloadi hG dX7_addPerson_72 rfl ?_
  refine pm_bipush (v := 11) hG dX7_addPerson_74 (by decide) ?_
  refine pm_iloadi hG dX7_addPerson_76 rfl ?_
  refine pm_if_ne (tgt := 85) hG dX7_addPerson_78 rfl (fun c7 => ?_) (fun c7 => ?_)
  · refine pm_bipush (v := 99) hG dX7_addPerson_85 (by decide) ?_
    refine pm_callV (As := [.int (nI u), .int 11, .int 99]) (rest := []) hG hR dX7_addPerson_87 (lkX7_61 _ rfl) okV_X9_set rfl rfl (tb_set (d := 2) (rows := nI 20) (width := nI 14) (f := cmx kp.2 (A6 7)) rfl rfl (pm_tw_of 20 14 (by decide) (by decide) (by decide)) (by decide)) rfl rfl hdd (Nat.le_refl _) (Nat.le_refl _) (by decide) (pm_kv (fun σ' cnt' hq => ?_))
    obtain ⟨I8, A8, rfl, rfl, h8⟩ := hv_s7 (kp := kp) (I := I6) (A := A6) (ts7 11 (by decide) (by decide)) h6 hq
    refine pm_aloadn hG dX7_addPerson_90 rfl ?_
    refine pm_getf hG dX7_addPerson_91 (flX7_23 _ rfl) rfl rfl ?_
    refine pm_iloadi hG dX7_addPerson_94 rfl ?_
    refine pm_bipush (v := 12) hG dX7_addPerson_96 (by decide) ?_
    refine pm_iconst (v := 1) hG dX7_addPerson_98 (by decide) ?_
    refine pm_callV (As := [.int (nI u), .int 12, .int 1]) (rest := []) hG hR dX7_addPerson_99 (lkX7_61 _ rfl) okV_X9_set rfl rfl (tb_set (d := 2) (rows := nI 20) (width := nI 14) (f := cmx kp.2 (A8 7)) rfl rfl (pm_tw_of 20 14 (by decide) (by decide) (by decide)) (by decide)) rfl rfl hdd (Nat.le_refl _) (Nat.le_refl _) (by decide) (pm_kv (fun σ' cnt' hq => ?_))
    obtain ⟨I9, A9, rfl, rfl, h9⟩ := hv_s7 (kp := kp) (I := I8) (A := A8) (ts7 12 (by decide) (by decide)) h8 hq
    refine pm_aloadn hG dX7_addPerson_102 rfl ?_
    refine pm_callV (As := []) (rest := []) hG hR dX7_addPerson_103 (lkX7_97 _ rfl) okV_X7_findSteps rfl rfl (g_X7_findSteps (d := 2) (by decide) h9) rfl rfl hdd (Nat.le_refl _) (Nat.le_refl _) (by decide) (pm_kv (fun σ' cnt' hq => ?_))
    obtain ⟨I10, A10, rfl, rfl, h10⟩ := hq
    refine pm_iloadi hG dX7_addPerson_106 rfl ?_
    subst ek2
    subst ek1
    exact pm_iret hG hF dX7_addPerson_108 rfl (Nat.le_refl _) (Nat.le_refl _) ⟨_, rfl, rfl, _, _, rfl, rfl, h10⟩
  · refine pm_iconst (v := 0) hG dX7_addPerson_81 (by decide) ?_
    refine pm_goto (tgt := 87) hG dX7_addPerson_82 rfl ?_
    refine pm_callV (As := [.int (nI u), .int 11, .int 0]) (rest := []) hG hR dX7_addPerson_87 (lkX7_61 _ rfl) okV_X9_set rfl rfl (tb_set (d := 2) (rows := nI 20) (width := nI 14) (f := cmx kp.2 (A6 7)) rfl rfl (pm_tw_of 20 14 (by decide) (by decide) (by decide)) (by decide)) rfl rfl hdd (Nat.le_refl _) (Nat.le_refl _) (by decide) (pm_kv (fun σ' cnt' hq => ?_))
    obtain ⟨I11, A11, rfl, rfl, h11⟩ := hv_s7 (kp := kp) (I := I6) (A := A6) (ts7 11 (by decide) (by decide)) h6 hq
    refine pm_aloadn hG dX7_addPerson_90 rfl ?_
    refine pm_getf hG dX7_addPerson_91 (flX7_23 _ rfl) rfl rfl ?_
    refine pm_iloadi hG dX7_addPerson_94 rfl ?_
    refine pm_bipush (v := 12) hG dX7_addPerson_96 (by decide) ?_
    refine pm_iconst (v := 1) hG dX7_addPerson_98 (by decide) ?_
    refine pm_callV (As := [.int (nI u), .int 12, .int 1]) (rest := []) hG hR dX7_addPerson_99 (lkX7_61 _ rfl) okV_X9_set rfl rfl (tb_set (d := 2) (rows := nI 20) (width := nI 14) (f := cmx kp.2 (A11 7)) rfl rfl (pm_tw_of 20 14 (by decide) (by decide) (by decide)) (by decide)) rfl rfl hdd (Nat.le_refl _) (Nat.le_refl _) (by decide) (pm_kv (fun σ' cnt' hq => ?_))
    obtain ⟨I12, A12, rfl, rfl, h12⟩ := hv_s7 (kp := kp) (I := I11) (A := A11) (ts7 12 (by decide) (by decide)) h11 hq
    refine pm_aloadn hG dX7_addPerson_102 rfl ?_
    refine pm_callV (As := []) (rest := []) hG hR dX7_addPerson_103 (lkX7_97 _ rfl) okV_X7_findSteps rfl rfl (g_X7_findSteps (d := 2) (by decide) h12) rfl rfl hdd (Nat.le_refl _) (Nat.le_refl _) (by decide) (pm_kv (fun σ' cnt' hq => ?_))
    obtain ⟨I13, A13, rfl, rfl, h13⟩ := hq
    refine pm_iloadi hG dX7_addPerson_106 rfl ?_
    subst ek2
    subst ek1
    exact pm_iret hG hF dX7_addPerson_108 rfl (Nat.le_refl _) (Nat.le_refl _) ⟨_, rfl, rfl, _, _, rfl, rfl, h13⟩

set_option maxRecDepth 100000 in
set_option maxHeartbeats 4000000 in
theorem g_personE1 {ε : Nat → Int32} {d B cnt : Nat} {kp : pm_KP} {ρ : pm_S} {I : Nat → Int32} {A : Nat → Nat → Int32} (hdd : 4 ≤ d) {za zb zc zd : Int32} {u : Nat} (hu : ε 6 = nI u) (hlt : u < 20) (h : gq ε I) : pm_met mX11_person d 0 0 B [.ref (B + 0), .int za, .int zb, .int zc, .int zd] cnt (pm_two (cl_L B kp I A) ρ) (pm_Qi (fun v σ' cnt' => v = vE kp.2 (ε 102) (ε 2) (ε 6) za zb zc zd ∧ hvq (ui ε 6 (pE kp.2 (ε 102) (ε 2) (ε 6) za zb zc zd)) B (kp.1, TE kp.2 (ε 102) (ε 2) (ε 6) za zb zc zd) ρ cnt σ' cnt')) := by
  refine pm_enter 2 (by decide) (Nat.le_of_ble_eq_true rfl) rfl (fun G hG hR hF => ?_)
  refine pm_iloadn hG dX11_person_0 rfl ?_
  refine pm_bipush (v := 100) hG dX11_person_1 (by decide) ?_
  refine pm_idiv hG dX11_person_3 (by decide) ?_
  refine pm_iconst (v := 1) hG dX11_person_4 (by decide) ?_
  refine pm_isub hG dX11_person_5 ?_
  refine pm_istoreXi (loc' := [some (.ref (B + 0)), some (.int za), some (.int zb), some (.int zc), some (.int zd), some (.int ((zc / 100) - 1)), none]) hG dX11_person_6 (by decide) (pm_c1b rfl) rfl ?_
  refine pm_iloadn hG dX11_person_8 rfl ?_
  refine pm_bipush (v := 100) hG dX11_person_9 (by decide) ?_
  refine pm_irem hG dX11_person_11 (by decide) ?_
  refine pm_iconst (v := 1) hG dX11_person_12 (by decide) ?_
  refine pm_isub hG dX11_person_13 ?_
  refine pm_istoreXi (loc' := [some (.ref (B + 0)), some (.int za), some (.int zb), some (.int zc), some (.int zd), some (.int ((zc / 100) - 1)), some (.int ((zc - zc / 100 * 100) - 1))]) hG dX11_person_14 (by decide) (pm_c1b rfl) rfl ?_
  refine pm_iloadn hG dX11_person_16 rfl ?_
  refine pm_iconst (v := 0) hG dX11_person_17 (by decide) ?_
  refine pm_iconst (v := 1) hG dX11_person_18 (by decide) ?_
  refine pm_callS (As := [.int za, .int 0, .int 1]) (rest := []) hG hR dX11_person_19 (lkX11_105 _ rfl) okS_X11_isOutside (sx_isOutside (d := 3)) rfl rfl hdd (Nat.le_refl _) (Nat.le_refl _) (by decide) (pm_ki (fun v1 σ' cnt' hq => ?_))
  have o1 := hq.1
  have b1 := pm_b10 hq.1
  obtain ⟨I1, A1, rfl, rfl, h1⟩ := hv_id (kp := kp) (I := I) (A := A) h hq.2
  refine pm_if_ne (tgt := 89) hG dX11_person_22 rfl (fun c2 => ?_) (fun c2 => ?_)
  · refine pm_aloadn hG dX11_person_89 rfl ?_
    refine pm_ldc hG dX11_person_90 (ctX11_109 _ rfl) ?_
    refine pm_callV (As := [.int (-1000001)]) (rest := []) hG hR dX11_person_92 (lkX11_97 _ rfl) okV_X11_told rfl rfl (sx_told (d := 3) (by decide) rfl rfl) rfl rfl hdd (Nat.le_refl _) (Nat.le_refl _) (by decide) (pm_ki (fun v3 σ' cnt' hq => ?_))
    obtain ⟨ev3, ⟨g3, hg3⟩, hc3⟩ := hq
    obtain ⟨I3, A3, rfl, rfl, h3⟩ := hv_a53 (kp := kp) (I := I1) (A := A1) h1 ⟨hg3, hc3⟩
    subst ev3
    exact pm_iret hG hF dX11_person_95 rfl (Nat.le_refl _) (Nat.le_refl _) ⟨_, rfl, (vE_n (T := kp.2) (d := ε 102) (t := ε 2) (p := ε 6) (a := za) (b := zb) (c := zc) (e := zd) (Or.inl (out_1 o1 c2))).1, by rw [(vE_n (T := kp.2) (d := ε 102) (t := ε 2) (p := ε 6) (a := za) (b := zb) (c := zc) (e := zd) (Or.inl (out_1 o1 c2))).2.2, ui_self (vE_n (T := kp.2) (d := ε 102) (t := ε 2) (p := ε 6) (a := za) (b := zb) (c := zc) (e := zd) (Or.inl (out_1 o1 c2))).2.1.symm]; exact ⟨_, _, rfl, rfl, h3⟩⟩
  · refine pm_iloadn hG dX11_person_25 rfl ?_
    refine pm_sipush (v := (-20000)) hG dX11_person_26 (by decide) ?_
    refine pm_aloadn hG dX11_person_29 rfl ?_
    refine pm_getf hG dX11_person_30 (flX11_12 _ rfl) rfl rfl ?_
    refine pm_getf hG dX11_person_33 (flX11_122 _ rfl) rfl rfl ?_
    refine pm_callS (As := [.int zb, .int (-20000), .int (I1 102)]) (rest := []) hG hR dX11_person_36 (lkX11_105 _ rfl) okS_X11_isOutside (sx_isOutside (d := 3)) rfl rfl hdd (Nat.le_refl _) (Nat.le_refl _) (by decide) (pm_ki (fun v4 σ' cnt' hq => ?_))
    have o4 : v4 = (if zb < (-20000) ∨ ε 102 < zb then 1 else 0) := by rw [← h1.2 102 (by decide)]; exact hq.1
    have b4 := pm_b10 hq.1
    obtain ⟨I4, A4, rfl, rfl, h4⟩ := hv_id (kp := kp) (I := I1) (A := A1) h1 hq.2
    refine pm_if_ne (tgt := 89) hG dX11_person_39 rfl (fun c5 => ?_) (fun c5 => ?_)
    · refine pm_aloadn hG dX11_person_89 rfl ?_
      refine pm_ldc hG dX11_person_90 (ctX11_109 _ rfl) ?_
      refine pm_callV (As := [.int (-1000001)]) (rest := []) hG hR dX11_person_92 (lkX11_97 _ rfl) okV_X11_told rfl rfl (sx_told (d := 3) (by decide) rfl rfl) rfl rfl hdd (Nat.le_refl _) (Nat.le_refl _) (by decide) (pm_ki (fun v6 σ' cnt' hq => ?_))
      obtain ⟨ev6, ⟨g6, hg6⟩, hc6⟩ := hq
      obtain ⟨I6, A6, rfl, rfl, h6⟩ := hv_a53 (kp := kp) (I := I4) (A := A4) h4 ⟨hg6, hc6⟩
      subst ev6
      exact pm_iret hG hF dX11_person_95 rfl (Nat.le_refl _) (Nat.le_refl _) ⟨_, rfl, (vE_n (T := kp.2) (d := ε 102) (t := ε 2) (p := ε 6) (a := za) (b := zb) (c := zc) (e := zd) (Or.inr (Or.inl (out_1 o4 c5)))).1, by rw [(vE_n (T := kp.2) (d := ε 102) (t := ε 2) (p := ε 6) (a := za) (b := zb) (c := zc) (e := zd) (Or.inr (Or.inl (out_1 o4 c5)))).2.2, ui_self (vE_n (T := kp.2) (d := ε 102) (t := ε 2) (p := ε 6) (a := za) (b := zb) (c := zc) (e := zd) (Or.inr (Or.inl (out_1 o4 c5)))).2.1.symm]; exact ⟨_, _, rfl, rfl, h6⟩⟩
    · refine pm_iloadn hG dX11_person_42 rfl ?_
      refine pm_if_lt (tgt := 89) hG dX11_person_43 rfl (fun c7 => ?_) (fun c7 => ?_)
      · refine pm_aloadn hG dX11_person_89 rfl ?_
        refine pm_ldc hG dX11_person_90 (ctX11_109 _ rfl) ?_
        refine pm_callV (As := [.int (-1000001)]) (rest := []) hG hR dX11_person_92 (lkX11_97 _ rfl) okV_X11_told rfl rfl (sx_told (d := 3) (by decide) rfl rfl) rfl rfl hdd (Nat.le_refl _) (Nat.le_refl _) (by decide) (pm_ki (fun v8 σ' cnt' hq => ?_))
        obtain ⟨ev8, ⟨g8, hg8⟩, hc8⟩ := hq
        obtain ⟨I8, A8, rfl, rfl, h8⟩ := hv_a53 (kp := kp) (I := I4) (A := A4) h4 ⟨hg8, hc8⟩
        subst ev8
        exact pm_iret hG hF dX11_person_95 rfl (Nat.le_refl _) (Nat.le_refl _) ⟨_, rfl, (vE_n (T := kp.2) (d := ε 102) (t := ε 2) (p := ε 6) (a := za) (b := zb) (c := zc) (e := zd) (Or.inr (Or.inr (Or.inl c7)))).1, by rw [(vE_n (T := kp.2) (d := ε 102) (t := ε 2) (p := ε 6) (a := za) (b := zb) (c := zc) (e := zd) (Or.inr (Or.inr (Or.inl c7)))).2.2, ui_self (vE_n (T := kp.2) (d := ε 102) (t := ε 2) (p := ε 6) (a := za) (b := zb) (c := zc) (e := zd) (Or.inr (Or.inr (Or.inl c7)))).2.1.symm]; exact ⟨_, _, rfl, rfl, h8⟩⟩
      · refine pm_aloadn hG dX11_person_46 rfl ?_
        refine pm_getf hG dX11_person_47 (flX11_12 _ rfl) rfl rfl ?_
        refine pm_getf hG dX11_person_50 (flX11_82 _ rfl) rfl rfl ?_
        refine pm_iloadi hG dX11_person_53 rfl ?_
        refine pm_callV (As := [.int zd]) (rest := []) hG hR dX11_person_55 (lkX11_101 _ rfl) okV_X9_has rfl rfl (tb_has (d := 3) rfl) rfl rfl hdd (Nat.le_refl _) (Nat.le_refl _) (by decide) (pm_ki (fun v9 σ' cnt' hq => ?_))
        have o9 : v9 = (if zd < 0 ∨ ε 2 ≤ zd then 0 else 1) := by rw [← h4.2 2 (by decide)]; exact hq.1
        have b9 := pm_b01 hq.1
        obtain ⟨I9, A9, rfl, rfl, h9⟩ := hv_id (kp := kp) (I := I4) (A := A4) h4 hq.2
        refine pm_if_eq (tgt := 89) hG dX11_person_58 rfl (fun c10 => ?_) (fun c10 => ?_)
        · refine pm_aloadn hG dX11_person_89 rfl ?_
          refine pm_ldc hG dX11_person_90 (ctX11_109 _ rfl) ?_
          refine pm_callV (As := [.int (-1000001)]) (rest := []) hG hR dX11_person_92 (lkX11_97 _ rfl) okV_X11_told rfl rfl (sx_told (d := 3) (by decide) rfl rfl) rfl rfl hdd (Nat.le_refl _) (Nat.le_refl _) (by decide) (pm_ki (fun v11 σ' cnt' hq => ?_))
          obtain ⟨ev11, ⟨g11, hg11⟩, hc11⟩ := hq
          obtain ⟨I11, A11, rfl, rfl, h11⟩ := hv_a53 (kp := kp) (I := I9) (A := A9) h9 ⟨hg11, hc11⟩
          subst ev11
          exact pm_iret hG hF dX11_person_95 rfl (Nat.le_refl _) (Nat.le_refl _) ⟨_, rfl, (vE_n (T := kp.2) (d := ε 102) (t := ε 2) (p := ε 6) (a := za) (b := zb) (c := zc) (e := zd) (Or.inr (Or.inr (Or.inr (Or.inl (has_0 o9 c10)))))).1, by rw [(vE_n (T := kp.2) (d := ε 102) (t := ε 2) (p := ε 6) (a := za) (b := zb) (c := zc) (e := zd) (Or.inr (Or.inr (Or.inr (Or.inl (has_0 o9 c10)))))).2.2, ui_self (vE_n (T := kp.2) (d := ε 102) (t := ε 2) (p := ε 6) (a := za) (b := zb) (c := zc) (e := zd) (Or.inr (Or.inr (Or.inr (Or.inl (has_0 o9 c10)))))).2.1.symm]; exact ⟨_, _, rfl, rfl, h11⟩⟩
        · refine pm_aloadn hG dX11_person_61 rfl ?_
          refine pm_getf hG dX11_person_62 (flX11_12 _ rfl) rfl rfl ?_
          refine pm_iloadi hG dX11_person_65 rfl ?_
          refine pm_iconst (v := 1) hG dX11_person_67 (by decide) ?_
          refine pm_iloadn hG dX11_person_68 rfl ?_
          refine pm_callV (As := [.int ((zc / 100) - 1), .int 1, .int zb]) (rest := []) hG hR dX11_person_69 (lkX11_125 _ rfl) okV_X7_mayBeParent rfl rfl (g_mayBeParentE (d := 3) (by decide) hu (by omega) h9) rfl rfl hdd (Nat.le_refl _) (Nat.le_refl _) (by decide) (pm_ki (fun v12 σ' cnt' hq => ?_))
          obtain ⟨o12, I12, A12, rfl, rfl, h12⟩ := hq
          have b12 := pm_b10 o12
          refine pm_if_eq (tgt := 89) hG dX11_person_72 rfl (fun c13 => ?_) (fun c13 => ?_)
          · refine pm_aloadn hG dX11_person_89 rfl ?_
            refine pm_ldc hG dX11_person_90 (ctX11_109 _ rfl) ?_
            refine pm_callV (As := [.int (-1000001)]) (rest := []) hG hR dX11_person_92 (lkX11_97 _ rfl) okV_X11_told rfl rfl (sx_told (d := 3) (by decide) rfl rfl) rfl rfl hdd (Nat.le_refl _) (Nat.le_refl _) (by decide) (pm_ki (fun v14 σ' cnt' hq => ?_))
            obtain ⟨ev14, ⟨g14, hg14⟩, hc14⟩ := hq
            obtain ⟨I14, A14, rfl, rfl, h14⟩ := hv_a53 (kp := kp) (I := I12) (A := A12) h12 ⟨hg14, hc14⟩
            subst ev14
            exact pm_iret hG hF dX11_person_95 rfl (Nat.le_refl _) (Nat.le_refl _) ⟨_, rfl, (vE_n (T := kp.2) (d := ε 102) (t := ε 2) (p := ε 6) (a := za) (b := zb) (c := zc) (e := zd) (Or.inr (Or.inr (Or.inr (Or.inr (Or.inl (if_0 o12 c13))))))).1, by rw [(vE_n (T := kp.2) (d := ε 102) (t := ε 2) (p := ε 6) (a := za) (b := zb) (c := zc) (e := zd) (Or.inr (Or.inr (Or.inr (Or.inr (Or.inl (if_0 o12 c13))))))).2.2, ui_self (vE_n (T := kp.2) (d := ε 102) (t := ε 2) (p := ε 6) (a := za) (b := zb) (c := zc) (e := zd) (Or.inr (Or.inr (Or.inr (Or.inr (Or.inl (if_0 o12 c13))))))).2.1.symm]; exact ⟨_, _, rfl, rfl, h14⟩⟩
          · refine pm_aloadn hG dX11_person_75 rfl ?_
            refine pm_getf hG dX11_person_76 (flX11_12 _ rfl) rfl rfl ?_
            refine pm_iloadi hG dX11_person_79 rfl ?_
            refine pm_iconst (v := 0) hG dX11_person_81 (by decide) ?_
            refine pm_iloadn hG dX11_person_82 rfl ?_
            refine pm_callV (As := [.int ((zc - zc / 100 * 100) - 1), .int 0, .int zb]) (rest := []) hG hR dX11_person_83 (lkX11_125 _ rfl) okV_X7_mayBeParent rfl rfl (g_mayBeParentE (d := 3) (by decide) hu (by omega) h12) rfl rfl hdd (Nat.le_refl _) (Nat.le_refl _) (by decide) (pm_ki (fun v15 σ' cnt' hq => ?_))
            obtain ⟨o15, I15, A15, rfl, rfl, h15⟩ := hq
            have b15 := pm_b10 o15
            refine pm_if_ne (tgt := 96) hG dX11_person_86 rfl (fun c16 => ?_) (fun c16 => ?_)
            · refine pm_aloadn hG dX11_person_96 rfl ?_
              refine pm_aloadn hG dX11_person_97 rfl ?_
              refine pm_getf hG dX11_person_98 (flX11_12 _ rfl) rfl rfl ?_
              refine pm_getf hG dX11_person_101 (flX11_128 _ rfl) rfl rfl ?_
              refine pm_callV (As := []) (rest := [.ref (B + 0)]) hG hR dX11_person_104 (lkX11_86 _ rfl) okV_X9_isFull rfl rfl (tb_isFull (d := 3) rfl) rfl rfl hdd (Nat.le_refl _) (Nat.le_refl _) (by first | decide | exact Nat.le_of_ble_eq_true rfl) (pm_ki (fun v17 σ' cnt' hq => ?_))
              have hu17 : I15 6 = nI u := (h15.2 6 (by decide)).trans hu
              have ev17 : v17 = 0 := hq.1.trans (by rw [hu17]; exact if_pos (nI_lt hlt (by decide)))
              obtain ⟨I17, A17, rfl, rfl, h17⟩ := hv_id (kp := kp) (I := I15) (A := A15) h15 hq.2
              subst ev17
              refine pm_if_eq (tgt := 115) hG dX11_person_107 rfl (fun _ => ?_) (fun q => absurd q (by decide))
              refine pm_aloadn hG dX11_person_115 rfl ?_
              refine pm_getf hG dX11_person_116 (flX11_12 _ rfl) rfl rfl ?_
              refine pm_iloadn hG dX11_person_119 rfl ?_
              refine pm_iloadn hG dX11_person_120 rfl ?_
              refine pm_iloadi hG dX11_person_121 rfl ?_
              refine pm_iloadi hG dX11_person_123 rfl ?_
              refine pm_iloadi hG dX11_person_125 rfl ?_
              refine pm_callV (As := [.int za, .int zb, .int ((zc / 100) - 1), .int ((zc - zc / 100 * 100) - 1), .int zd]) (rest := [.ref (B + 0)]) hG hR dX11_person_127 (lkX11_131 _ rfl) okV_X7_addPerson rfl rfl (g_addPersonE (d := 3) (by decide) hu hlt h17) rfl rfl hdd (Nat.le_refl _) (Nat.le_refl _) (by first | decide | exact Nat.le_of_ble_eq_true rfl) (pm_ki (fun v18 σ' cnt' hq => ?_))
              obtain ⟨rfl, I18, A18, rfl, rfl, h18⟩ := hq
              refine pm_genK (fun kp ek18 => ?_)
              refine pm_callV (As := [.int (nI u)]) (rest := []) hG hR dX11_person_130 (lkX11_97 _ rfl) okV_X11_told rfl rfl (sx_told (d := 3) (by decide) rfl rfl) rfl rfl hdd (Nat.le_refl _) (Nat.le_refl _) (by decide) (pm_ki (fun v19 σ' cnt' hq => ?_))
              obtain ⟨ev19, ⟨g19, hg19⟩, hc19⟩ := hq
              obtain ⟨I19, A19, rfl, rfl, h19⟩ := hv_a53 (kp := kp) (I := I18) (A := A18) h18 ⟨hg19, hc19⟩
              subst ev19
              subst ek18
              exact pm_iret hG hF dX11_person_133 rfl (Nat.le_refl _) (Nat.le_refl _) ⟨_, rfl, (vE_y (T := kp.2) (d := ε 102) (t := ε 2) (p := ε 6) (a := za) (b := zb) (c := zc) (e := zd) (not6 (out_0 o1 c2) (out_0 o4 c5) c7 (has_1 o9 c10) (if_1 o12 c13) (if_1 o15 c16)) hu hlt).1, by rw [(vE_y (T := kp.2) (d := ε 102) (t := ε 2) (p := ε 6) (a := za) (b := zb) (c := zc) (e := zd) (not6 (out_0 o1 c2) (out_0 o4 c5) c7 (has_1 o9 c10) (if_1 o12 c13) (if_1 o15 c16)) hu hlt).2.2, ← (vE_y (T := kp.2) (d := ε 102) (t := ε 2) (p := ε 6) (a := za) (b := zb) (c := zc) (e := zd) (not6 (out_0 o1 c2) (out_0 o4 c5) c7 (has_1 o9 c10) (if_1 o12 c13) (if_1 o15 c16)) hu hlt).2.1]; exact ⟨_, _, rfl, rfl, h19⟩⟩
            · refine pm_aloadn hG dX11_person_89 rfl ?_
              refine pm_ldc hG dX11_person_90 (ctX11_109 _ rfl) ?_
              refine pm_callV (As := [.int (-1000001)]) (rest := []) hG hR dX11_person_92 (lkX11_97 _ rfl) okV_X11_told rfl rfl (sx_told (d := 3) (by decide) rfl rfl) rfl rfl hdd (Nat.le_refl _) (Nat.le_refl _) (by decide) (pm_ki (fun v20 σ' cnt' hq => ?_))
              obtain ⟨ev20, ⟨g20, hg20⟩, hc20⟩ := hq
              obtain ⟨I20, A20, rfl, rfl, h20⟩ := hv_a53 (kp := kp) (I := I15) (A := A15) h15 ⟨hg20, hc20⟩
              subst ev20
              exact pm_iret hG hF dX11_person_95 rfl (Nat.le_refl _) (Nat.le_refl _) ⟨_, rfl, (vE_n (T := kp.2) (d := ε 102) (t := ε 2) (p := ε 6) (a := za) (b := zb) (c := zc) (e := zd) (Or.inr (Or.inr (Or.inr (Or.inr (Or.inr (if_0 o15 c16))))))).1, by rw [(vE_n (T := kp.2) (d := ε 102) (t := ε 2) (p := ε 6) (a := za) (b := zb) (c := zc) (e := zd) (Or.inr (Or.inr (Or.inr (Or.inr (Or.inr (if_0 o15 c16))))))).2.2, ui_self (vE_n (T := kp.2) (d := ε 102) (t := ε 2) (p := ε 6) (a := za) (b := zb) (c := zc) (e := zd) (Or.inr (Or.inr (Or.inr (Or.inr (Or.inr (if_0 o15 c16))))))).2.1.symm]; exact ⟨_, _, rfl, rfl, h20⟩⟩

set_option maxRecDepth 100000 in
set_option maxHeartbeats 4000000 in
theorem g_personE0 {ε : Nat → Int32} {d B cnt : Nat} {kp : pm_KP} {ρ : pm_S} {I : Nat → Int32} {A : Nat → Nat → Int32} (hdd : 2 ≤ d) {za zb zc zd : Int32} (hu : ε 6 = nI 20) (h : gq ε I) : pm_met mX11_person d 0 0 B [.ref (B + 0), .int za, .int zb, .int zc, .int zd] cnt (pm_two (cl_L B kp I A) ρ) (pm_Qi (fun v σ' cnt' => v = vE kp.2 (ε 102) (ε 2) (ε 6) za zb zc zd ∧ hvq (ui ε 6 (pE kp.2 (ε 102) (ε 2) (ε 6) za zb zc zd)) B (kp.1, TE kp.2 (ε 102) (ε 2) (ε 6) za zb zc zd) ρ cnt σ' cnt')) := by
  refine pm_enter 2 (by decide) (Nat.le_of_ble_eq_true rfl) rfl (fun G hG hR hF => ?_)
  refine pm_iloadn hG dX11_person_0 rfl ?_
  refine pm_bipush (v := 100) hG dX11_person_1 (by decide) ?_
  refine pm_idiv hG dX11_person_3 (by decide) ?_
  refine pm_iconst (v := 1) hG dX11_person_4 (by decide) ?_
  refine pm_isub hG dX11_person_5 ?_
  refine pm_istoreXi (loc' := [some (.ref (B + 0)), some (.int za), some (.int zb), some (.int zc), some (.int zd), some (.int ((zc / 100) - 1)), none]) hG dX11_person_6 (by decide) (pm_c1b rfl) rfl ?_
  refine pm_iloadn hG dX11_person_8 rfl ?_
  refine pm_bipush (v := 100) hG dX11_person_9 (by decide) ?_
  refine pm_irem hG dX11_person_11 (by decide) ?_
  refine pm_iconst (v := 1) hG dX11_person_12 (by decide) ?_
  refine pm_isub hG dX11_person_13 ?_
  refine pm_istoreXi (loc' := [some (.ref (B + 0)), some (.int za), some (.int zb), some (.int zc), some (.int zd), some (.int ((zc / 100) - 1)), some (.int ((zc - zc / 100 * 100) - 1))]) hG dX11_person_14 (by decide) (pm_c1b rfl) rfl ?_
  refine pm_iloadn hG dX11_person_16 rfl ?_
  refine pm_iconst (v := 0) hG dX11_person_17 (by decide) ?_
  refine pm_iconst (v := 1) hG dX11_person_18 (by decide) ?_
  refine pm_callS (As := [.int za, .int 0, .int 1]) (rest := []) hG hR dX11_person_19 (lkX11_105 _ rfl) okS_X11_isOutside (sx_isOutside (d := 1)) rfl rfl hdd (Nat.le_refl _) (Nat.le_refl _) (by decide) (pm_ki (fun v1 σ' cnt' hq => ?_))
  have o1 := hq.1
  have b1 := pm_b10 hq.1
  obtain ⟨I1, A1, rfl, rfl, h1⟩ := hv_id (kp := kp) (I := I) (A := A) h hq.2
  refine pm_if_ne (tgt := 89) hG dX11_person_22 rfl (fun c2 => ?_) (fun c2 => ?_)
  · refine pm_aloadn hG dX11_person_89 rfl ?_
    refine pm_ldc hG dX11_person_90 (ctX11_109 _ rfl) ?_
    refine pm_callV (As := [.int (-1000001)]) (rest := []) hG hR dX11_person_92 (lkX11_97 _ rfl) okV_X11_told rfl rfl (sx_told (d := 1) (by decide) rfl rfl) rfl rfl hdd (Nat.le_refl _) (Nat.le_refl _) (by decide) (pm_ki (fun v3 σ' cnt' hq => ?_))
    obtain ⟨ev3, ⟨g3, hg3⟩, hc3⟩ := hq
    obtain ⟨I3, A3, rfl, rfl, h3⟩ := hv_a53 (kp := kp) (I := I1) (A := A1) h1 ⟨hg3, hc3⟩
    subst ev3
    exact pm_iret hG hF dX11_person_95 rfl (Nat.le_refl _) (Nat.le_refl _) ⟨_, rfl, (vE_n (T := kp.2) (d := ε 102) (t := ε 2) (p := ε 6) (a := za) (b := zb) (c := zc) (e := zd) (Or.inl (out_1 o1 c2))).1, by rw [(vE_n (T := kp.2) (d := ε 102) (t := ε 2) (p := ε 6) (a := za) (b := zb) (c := zc) (e := zd) (Or.inl (out_1 o1 c2))).2.2, ui_self (vE_n (T := kp.2) (d := ε 102) (t := ε 2) (p := ε 6) (a := za) (b := zb) (c := zc) (e := zd) (Or.inl (out_1 o1 c2))).2.1.symm]; exact ⟨_, _, rfl, rfl, h3⟩⟩
  · refine pm_iloadn hG dX11_person_25 rfl ?_
    refine pm_sipush (v := (-20000)) hG dX11_person_26 (by decide) ?_
    refine pm_aloadn hG dX11_person_29 rfl ?_
    refine pm_getf hG dX11_person_30 (flX11_12 _ rfl) rfl rfl ?_
    refine pm_getf hG dX11_person_33 (flX11_122 _ rfl) rfl rfl ?_
    refine pm_callS (As := [.int zb, .int (-20000), .int (I1 102)]) (rest := []) hG hR dX11_person_36 (lkX11_105 _ rfl) okS_X11_isOutside (sx_isOutside (d := 1)) rfl rfl hdd (Nat.le_refl _) (Nat.le_refl _) (by decide) (pm_ki (fun v4 σ' cnt' hq => ?_))
    have o4 : v4 = (if zb < (-20000) ∨ ε 102 < zb then 1 else 0) := by rw [← h1.2 102 (by decide)]; exact hq.1
    have b4 := pm_b10 hq.1
    obtain ⟨I4, A4, rfl, rfl, h4⟩ := hv_id (kp := kp) (I := I1) (A := A1) h1 hq.2
    refine pm_if_ne (tgt := 89) hG dX11_person_39 rfl (fun c5 => ?_) (fun c5 => ?_)
    · refine pm_aloadn hG dX11_person_89 rfl ?_
      refine pm_ldc hG dX11_person_90 (ctX11_109 _ rfl) ?_
      refine pm_callV (As := [.int (-1000001)]) (rest := []) hG hR dX11_person_92 (lkX11_97 _ rfl) okV_X11_told rfl rfl (sx_told (d := 1) (by decide) rfl rfl) rfl rfl hdd (Nat.le_refl _) (Nat.le_refl _) (by decide) (pm_ki (fun v6 σ' cnt' hq => ?_))
      obtain ⟨ev6, ⟨g6, hg6⟩, hc6⟩ := hq
      obtain ⟨I6, A6, rfl, rfl, h6⟩ := hv_a53 (kp := kp) (I := I4) (A := A4) h4 ⟨hg6, hc6⟩
      subst ev6
      exact pm_iret hG hF dX11_person_95 rfl (Nat.le_refl _) (Nat.le_refl _) ⟨_, rfl, (vE_n (T := kp.2) (d := ε 102) (t := ε 2) (p := ε 6) (a := za) (b := zb) (c := zc) (e := zd) (Or.inr (Or.inl (out_1 o4 c5)))).1, by rw [(vE_n (T := kp.2) (d := ε 102) (t := ε 2) (p := ε 6) (a := za) (b := zb) (c := zc) (e := zd) (Or.inr (Or.inl (out_1 o4 c5)))).2.2, ui_self (vE_n (T := kp.2) (d := ε 102) (t := ε 2) (p := ε 6) (a := za) (b := zb) (c := zc) (e := zd) (Or.inr (Or.inl (out_1 o4 c5)))).2.1.symm]; exact ⟨_, _, rfl, rfl, h6⟩⟩
    · refine pm_iloadn hG dX11_person_42 rfl ?_
      refine pm_if_lt (tgt := 89) hG dX11_person_43 rfl (fun c7 => ?_) (fun c7 => ?_)
      · refine pm_aloadn hG dX11_person_89 rfl ?_
        refine pm_ldc hG dX11_person_90 (ctX11_109 _ rfl) ?_
        refine pm_callV (As := [.int (-1000001)]) (rest := []) hG hR dX11_person_92 (lkX11_97 _ rfl) okV_X11_told rfl rfl (sx_told (d := 1) (by decide) rfl rfl) rfl rfl hdd (Nat.le_refl _) (Nat.le_refl _) (by decide) (pm_ki (fun v8 σ' cnt' hq => ?_))
        obtain ⟨ev8, ⟨g8, hg8⟩, hc8⟩ := hq
        obtain ⟨I8, A8, rfl, rfl, h8⟩ := hv_a53 (kp := kp) (I := I4) (A := A4) h4 ⟨hg8, hc8⟩
        subst ev8
        exact pm_iret hG hF dX11_person_95 rfl (Nat.le_refl _) (Nat.le_refl _) ⟨_, rfl, (vE_n (T := kp.2) (d := ε 102) (t := ε 2) (p := ε 6) (a := za) (b := zb) (c := zc) (e := zd) (Or.inr (Or.inr (Or.inl c7)))).1, by rw [(vE_n (T := kp.2) (d := ε 102) (t := ε 2) (p := ε 6) (a := za) (b := zb) (c := zc) (e := zd) (Or.inr (Or.inr (Or.inl c7)))).2.2, ui_self (vE_n (T := kp.2) (d := ε 102) (t := ε 2) (p := ε 6) (a := za) (b := zb) (c := zc) (e := zd) (Or.inr (Or.inr (Or.inl c7)))).2.1.symm]; exact ⟨_, _, rfl, rfl, h8⟩⟩
      · refine pm_aloadn hG dX11_person_46 rfl ?_
        refine pm_getf hG dX11_person_47 (flX11_12 _ rfl) rfl rfl ?_
        refine pm_getf hG dX11_person_50 (flX11_82 _ rfl) rfl rfl ?_
        refine pm_iloadi hG dX11_person_53 rfl ?_
        refine pm_callV (As := [.int zd]) (rest := []) hG hR dX11_person_55 (lkX11_101 _ rfl) okV_X9_has rfl rfl (tb_has (d := 1) rfl) rfl rfl hdd (Nat.le_refl _) (Nat.le_refl _) (by decide) (pm_ki (fun v9 σ' cnt' hq => ?_))
        have o9 : v9 = (if zd < 0 ∨ ε 2 ≤ zd then 0 else 1) := by rw [← h4.2 2 (by decide)]; exact hq.1
        have b9 := pm_b01 hq.1
        obtain ⟨I9, A9, rfl, rfl, h9⟩ := hv_id (kp := kp) (I := I4) (A := A4) h4 hq.2
        refine pm_if_eq (tgt := 89) hG dX11_person_58 rfl (fun c10 => ?_) (fun c10 => ?_)
        · refine pm_aloadn hG dX11_person_89 rfl ?_
          refine pm_ldc hG dX11_person_90 (ctX11_109 _ rfl) ?_
          refine pm_callV (As := [.int (-1000001)]) (rest := []) hG hR dX11_person_92 (lkX11_97 _ rfl) okV_X11_told rfl rfl (sx_told (d := 1) (by decide) rfl rfl) rfl rfl hdd (Nat.le_refl _) (Nat.le_refl _) (by decide) (pm_ki (fun v11 σ' cnt' hq => ?_))
          obtain ⟨ev11, ⟨g11, hg11⟩, hc11⟩ := hq
          obtain ⟨I11, A11, rfl, rfl, h11⟩ := hv_a53 (kp := kp) (I := I9) (A := A9) h9 ⟨hg11, hc11⟩
          subst ev11
          exact pm_iret hG hF dX11_person_95 rfl (Nat.le_refl _) (Nat.le_refl _) ⟨_, rfl, (vE_n (T := kp.2) (d := ε 102) (t := ε 2) (p := ε 6) (a := za) (b := zb) (c := zc) (e := zd) (Or.inr (Or.inr (Or.inr (Or.inl (has_0 o9 c10)))))).1, by rw [(vE_n (T := kp.2) (d := ε 102) (t := ε 2) (p := ε 6) (a := za) (b := zb) (c := zc) (e := zd) (Or.inr (Or.inr (Or.inr (Or.inl (has_0 o9 c10)))))).2.2, ui_self (vE_n (T := kp.2) (d := ε 102) (t := ε 2) (p := ε 6) (a := za) (b := zb) (c := zc) (e := zd) (Or.inr (Or.inr (Or.inr (Or.inl (has_0 o9 c10)))))).2.1.symm]; exact ⟨_, _, rfl, rfl, h11⟩⟩
        · refine pm_aloadn hG dX11_person_61 rfl ?_
          refine pm_getf hG dX11_person_62 (flX11_12 _ rfl) rfl rfl ?_
          refine pm_iloadi hG dX11_person_65 rfl ?_
          refine pm_iconst (v := 1) hG dX11_person_67 (by decide) ?_
          refine pm_iloadn hG dX11_person_68 rfl ?_
          refine pm_callV (As := [.int ((zc / 100) - 1), .int 1, .int zb]) (rest := []) hG hR dX11_person_69 (lkX11_125 _ rfl) okV_X7_mayBeParent rfl rfl (g_mayBeParentE (d := 1) (by decide) hu (by omega) h9) rfl rfl hdd (Nat.le_refl _) (Nat.le_refl _) (by decide) (pm_ki (fun v12 σ' cnt' hq => ?_))
          obtain ⟨o12, I12, A12, rfl, rfl, h12⟩ := hq
          have b12 := pm_b10 o12
          refine pm_if_eq (tgt := 89) hG dX11_person_72 rfl (fun c13 => ?_) (fun c13 => ?_)
          · refine pm_aloadn hG dX11_person_89 rfl ?_
            refine pm_ldc hG dX11_person_90 (ctX11_109 _ rfl) ?_
            refine pm_callV (As := [.int (-1000001)]) (rest := []) hG hR dX11_person_92 (lkX11_97 _ rfl) okV_X11_told rfl rfl (sx_told (d := 1) (by decide) rfl rfl) rfl rfl hdd (Nat.le_refl _) (Nat.le_refl _) (by decide) (pm_ki (fun v14 σ' cnt' hq => ?_))
            obtain ⟨ev14, ⟨g14, hg14⟩, hc14⟩ := hq
            obtain ⟨I14, A14, rfl, rfl, h14⟩ := hv_a53 (kp := kp) (I := I12) (A := A12) h12 ⟨hg14, hc14⟩
            subst ev14
            exact pm_iret hG hF dX11_person_95 rfl (Nat.le_refl _) (Nat.le_refl _) ⟨_, rfl, (vE_n (T := kp.2) (d := ε 102) (t := ε 2) (p := ε 6) (a := za) (b := zb) (c := zc) (e := zd) (Or.inr (Or.inr (Or.inr (Or.inr (Or.inl (if_0 o12 c13))))))).1, by rw [(vE_n (T := kp.2) (d := ε 102) (t := ε 2) (p := ε 6) (a := za) (b := zb) (c := zc) (e := zd) (Or.inr (Or.inr (Or.inr (Or.inr (Or.inl (if_0 o12 c13))))))).2.2, ui_self (vE_n (T := kp.2) (d := ε 102) (t := ε 2) (p := ε 6) (a := za) (b := zb) (c := zc) (e := zd) (Or.inr (Or.inr (Or.inr (Or.inr (Or.inl (if_0 o12 c13))))))).2.1.symm]; exact ⟨_, _, rfl, rfl, h14⟩⟩
          · refine pm_aloadn hG dX11_person_75 rfl ?_
            refine pm_getf hG dX11_person_76 (flX11_12 _ rfl) rfl rfl ?_
            refine pm_iloadi hG dX11_person_79 rfl ?_
            refine pm_iconst (v := 0) hG dX11_person_81 (by decide) ?_
            refine pm_iloadn hG dX11_person_82 rfl ?_
            refine pm_callV (As := [.int ((zc - zc / 100 * 100) - 1), .int 0, .int zb]) (rest := []) hG hR dX11_person_83 (lkX11_125 _ rfl) okV_X7_mayBeParent rfl rfl (g_mayBeParentE (d := 1) (by decide) hu (by omega) h12) rfl rfl hdd (Nat.le_refl _) (Nat.le_refl _) (by decide) (pm_ki (fun v15 σ' cnt' hq => ?_))
            obtain ⟨o15, I15, A15, rfl, rfl, h15⟩ := hq
            have b15 := pm_b10 o15
            refine pm_if_ne (tgt := 96) hG dX11_person_86 rfl (fun c16 => ?_) (fun c16 => ?_)
            · refine pm_aloadn hG dX11_person_96 rfl ?_
              refine pm_aloadn hG dX11_person_97 rfl ?_
              refine pm_getf hG dX11_person_98 (flX11_12 _ rfl) rfl rfl ?_
              refine pm_getf hG dX11_person_101 (flX11_128 _ rfl) rfl rfl ?_
              refine pm_callV (As := []) (rest := [.ref (B + 0)]) hG hR dX11_person_104 (lkX11_86 _ rfl) okV_X9_isFull rfl rfl (tb_isFull (d := 1) rfl) rfl rfl hdd (Nat.le_refl _) (Nat.le_refl _) (by first | decide | exact Nat.le_of_ble_eq_true rfl) (pm_ki (fun v17 σ' cnt' hq => ?_))
              have hu17 : I15 6 = nI 20 := (h15.2 6 (by decide)).trans hu
              have ev17 : v17 = 1 := hq.1.trans (by rw [hu17]; exact if_neg (nI_nlt (Nat.le_refl _) (by decide)))
              obtain ⟨I17, A17, rfl, rfl, h17⟩ := hv_id (kp := kp) (I := I15) (A := A15) h15 hq.2
              subst ev17
              refine pm_if_eq (tgt := 115) hG dX11_person_107 rfl (fun q => absurd q (by decide)) (fun _ => ?_)
              refine pm_ldc hG dX11_person_110 (ctX11_92 _ rfl) ?_
              refine pm_goto (tgt := 130) hG dX11_person_112 rfl ?_
              refine pm_callV (As := [.int (-1000004)]) (rest := []) hG hR dX11_person_130 (lkX11_97 _ rfl) okV_X11_told rfl rfl (sx_told (d := 1) (by decide) rfl rfl) rfl rfl hdd (Nat.le_refl _) (Nat.le_refl _) (by decide) (pm_ki (fun v18 σ' cnt' hq => ?_))
              obtain ⟨ev18, ⟨g18, hg18⟩, hc18⟩ := hq
              obtain ⟨I18, A18, rfl, rfl, h18⟩ := hv_a53 (kp := kp) (I := I17) (A := A17) h17 ⟨hg18, hc18⟩
              subst ev18
              exact pm_iret hG hF dX11_person_133 rfl (Nat.le_refl _) (Nat.le_refl _) ⟨_, rfl, (vE_f (T := kp.2) (d := ε 102) (t := ε 2) (p := ε 6) (a := za) (b := zb) (c := zc) (e := zd) (not6 (out_0 o1 c2) (out_0 o4 c5) c7 (has_1 o9 c10) (if_1 o12 c13) (if_1 o15 c16)) hu).1, by rw [(vE_f (T := kp.2) (d := ε 102) (t := ε 2) (p := ε 6) (a := za) (b := zb) (c := zc) (e := zd) (not6 (out_0 o1 c2) (out_0 o4 c5) c7 (has_1 o9 c10) (if_1 o12 c13) (if_1 o15 c16)) hu).2.2, ui_self (vE_f (T := kp.2) (d := ε 102) (t := ε 2) (p := ε 6) (a := za) (b := zb) (c := zc) (e := zd) (not6 (out_0 o1 c2) (out_0 o4 c5) c7 (has_1 o9 c10) (if_1 o12 c13) (if_1 o15 c16)) hu).2.1.symm]; exact ⟨_, _, rfl, rfl, h18⟩⟩
            · refine pm_aloadn hG dX11_person_89 rfl ?_
              refine pm_ldc hG dX11_person_90 (ctX11_109 _ rfl) ?_
              refine pm_callV (As := [.int (-1000001)]) (rest := []) hG hR dX11_person_92 (lkX11_97 _ rfl) okV_X11_told rfl rfl (sx_told (d := 1) (by decide) rfl rfl) rfl rfl hdd (Nat.le_refl _) (Nat.le_refl _) (by decide) (pm_ki (fun v19 σ' cnt' hq => ?_))
              obtain ⟨ev19, ⟨g19, hg19⟩, hc19⟩ := hq
              obtain ⟨I19, A19, rfl, rfl, h19⟩ := hv_a53 (kp := kp) (I := I15) (A := A15) h15 ⟨hg19, hc19⟩
              subst ev19
              exact pm_iret hG hF dX11_person_95 rfl (Nat.le_refl _) (Nat.le_refl _) ⟨_, rfl, (vE_n (T := kp.2) (d := ε 102) (t := ε 2) (p := ε 6) (a := za) (b := zb) (c := zc) (e := zd) (Or.inr (Or.inr (Or.inr (Or.inr (Or.inr (if_0 o15 c16))))))).1, by rw [(vE_n (T := kp.2) (d := ε 102) (t := ε 2) (p := ε 6) (a := za) (b := zb) (c := zc) (e := zd) (Or.inr (Or.inr (Or.inr (Or.inr (Or.inr (if_0 o15 c16))))))).2.2, ui_self (vE_n (T := kp.2) (d := ε 102) (t := ε 2) (p := ε 6) (a := za) (b := zb) (c := zc) (e := zd) (Or.inr (Or.inr (Or.inr (Or.inr (Or.inr (if_0 o15 c16))))))).2.1.symm]; exact ⟨_, _, rfl, rfl, h19⟩⟩

theorem g_personE {ε : Nat → Int32} {d B cnt : Nat} {kp : pm_KP} {ρ : pm_S} {I : Nat → Int32} {A : Nat → Nat → Int32} {za zb zc zd : Int32} (hdd : 4 ≤ d) (h : gq ε I) : pm_met mX11_person d 0 0 B [.ref (B + 0), .int za, .int zb, .int zc, .int zd] cnt (pm_two (cl_L B kp I A) ρ) (pm_Qi (fun v σ' cnt' => v = vE kp.2 (ε 102) (ε 2) (ε 6) za zb zc zd ∧ hvq (ui ε 6 (pE kp.2 (ε 102) (ε 2) (ε 6) za zb zc zd)) B (kp.1, TE kp.2 (ε 102) (ε 2) (ε 6) za zb zc zd) ρ cnt σ' cnt')) := by
  obtain ⟨u, hu, e⟩ := h.used 6 20 (by decide)
  have e2 : ε 6 = nI u := (h.2 6 (by decide)).symm.trans e
  by_cases hlt : u < 20
  · exact g_personE1 (by omega) e2 hlt h
  · obtain rfl : u = 20 := by omega
    exact g_personE0 (by omega) e2 h

theorem hv_x7 {ε : Nat → Int32} {B cnt cnt' : Nat} {kp : pm_KP} {ρ σ' : pm_S} {I : Nat → Int32} {A : Nat → Nat → Int32} {u : Nat} {p x y : Int32} (c : Nat) (hc : c < 14) (hin : ¬ (x < 0 ∨ p ≤ x)) (hp : p = nI u) (hu : u ≤ 20) (h : gq ε I) (hq : σ' = pm_up (pm_two (cl_L B kp I A) ρ) 7 (.inl (280, pm_ts (nI 20) (nI 14) (cmx kp.2 (A 7)) x (nI c) y)) ∧ cnt' = cnt) : hvq ε B (kp.1, upd kp.2 (x.toNatClampNeg * 14 + c) y) ρ cnt σ' cnt' := by
  obtain ⟨k, hk, rfl⟩ := nI_of (fun q => hin (Or.inl q))
  have hku : k < u := by
    refine Nat.lt_of_not_le (fun q => hin (Or.inr ?_))
    rw [hp]; exact (nI_leI (by omega) hk).mpr q
  rw [nI_clamp hk]
  exact hv_w7 c hc (by omega) h hq

/-! ===== who lives, who is seated ===== -/
abbrev nP (p x : Int32) : Prop := x < 0 ∨ p ≤ x
abbrev lv (T : Nat → Int32) (p x : Int32) : Prop := ¬ nP p x ∧ T (14 * x.toNatClampNeg + 9) = 0
def tX (T : Nat → Int32) (p x : Int32) : Nat → Int32 := if lv T p x then upd (upd T (x.toNatClampNeg * 14 + 13) 0) (x.toNatClampNeg * 14 + 9) 1 else T
def cS (T : Nat → Int32) (p : Int32) : Nat := pm_cnt (fun r => T (r * 14 + 13) == 1) p.toNatClampNeg
abbrev s1 (T : Nat → Int32) (x : Int32) : Prop := ¬ T (14 * x.toNatClampNeg + 9) = 0 ∨ ¬ T (14 * x.toNatClampNeg + 13) = 0
abbrev s0 (T : Nat → Int32) (x : Int32) : Prop := ¬ T (14 * x.toNatClampNeg + 9) = 0 ∨ T (14 * x.toNatClampNeg + 13) = 0
def vSe1 (T : Nat → Int32) (p x : Int32) : Int32 := if nP p x then -1000001 else if s1 T x then -1000003 else if 9 ≤ cS T p then -1000004 else nI (cS (upd T (x.toNatClampNeg * 14 + 13) 1) p)
def tSe1 (T : Nat → Int32) (p x : Int32) : Nat → Int32 := if nP p x then T else if s1 T x then T else if 9 ≤ cS T p then T else upd T (x.toNatClampNeg * 14 + 13) 1
def vSe0 (T : Nat → Int32) (p x : Int32) : Int32 := if nP p x then -1000001 else if s0 T x then -1000003 else nI (cS (upd T (x.toNatClampNeg * 14 + 13) 0) p)
def tSe0 (T : Nat → Int32) (p x : Int32) : Nat → Int32 := if nP p x then T else if s0 T x then T else upd T (x.toNatClampNeg * 14 + 13) 0
theorem vSe1_a {T : Nat → Int32} {p x : Int32} (h : nP p x) : -1000001 = vSe1 T p x ∧ tSe1 T p x = T := by
  unfold vSe1 tSe1; rw [if_pos h, if_pos h]; exact ⟨rfl, rfl⟩
theorem vSe1_b {T : Nat → Int32} {p x : Int32} (h : ¬ nP p x) (h1 : s1 T x) : -1000003 = vSe1 T p x ∧ tSe1 T p x = T := by
  unfold vSe1 tSe1; rw [if_neg h, if_neg h, if_pos h1, if_pos h1]; exact ⟨rfl, rfl⟩
theorem vSe1_c {T : Nat → Int32} {p x : Int32} (h : ¬ nP p x) (h1 : ¬ s1 T x) (h2 : 9 ≤ cS T p) : -1000004 = vSe1 T p x ∧ tSe1 T p x = T := by
  unfold vSe1 tSe1; rw [if_neg h, if_neg h, if_neg h1, if_neg h1, if_pos h2, if_pos h2]; exact ⟨rfl, rfl⟩
theorem vSe1_d {T : Nat → Int32} {p x : Int32} (h : ¬ nP p x) (h1 : ¬ s1 T x) (h2 : ¬ 9 ≤ cS T p) : nI (cS (upd T (x.toNatClampNeg * 14 + 13) 1) p) = vSe1 T p x ∧ tSe1 T p x = upd T (x.toNatClampNeg * 14 + 13) 1 := by
  unfold vSe1 tSe1; rw [if_neg h, if_neg h, if_neg h1, if_neg h1, if_neg h2, if_neg h2]; exact ⟨rfl, rfl⟩
theorem vSe0_a {T : Nat → Int32} {p x : Int32} (h : nP p x) : -1000001 = vSe0 T p x ∧ tSe0 T p x = T := by
  unfold vSe0 tSe0; rw [if_pos h, if_pos h]; exact ⟨rfl, rfl⟩
theorem vSe0_b {T : Nat → Int32} {p x : Int32} (h : ¬ nP p x) (h1 : s0 T x) : -1000003 = vSe0 T p x ∧ tSe0 T p x = T := by
  unfold vSe0 tSe0; rw [if_neg h, if_neg h, if_pos h1, if_pos h1]; exact ⟨rfl, rfl⟩
theorem vSe0_d {T : Nat → Int32} {p x : Int32} (h : ¬ nP p x) (h1 : ¬ s0 T x) : nI (cS (upd T (x.toNatClampNeg * 14 + 13) 0) p) = vSe0 T p x ∧ tSe0 T p x = upd T (x.toNatClampNeg * 14 + 13) 0 := by
  unfold vSe0 tSe0; rw [if_neg h, if_neg h, if_neg h1, if_neg h1]; exact ⟨rfl, rfl⟩
theorem pm_cnt_c {f g : Nat → Bool} : ∀ u : Nat, (∀ r : Nat, r < u → f r = g r) → pm_cnt f u = pm_cnt g u
  | 0, _ => rfl
  | u + 1, h => by unfold pm_cnt; rw [pm_cnt_c u (fun r hr => h r (by omega)), h u (by omega)]
theorem cS_cmx {T g : Nat → Int32} {p : Int32} {u : Nat} (hp : p = nI u) (hu : u ≤ 20) : pm_cnt (fun r => cmx T g (r * 14 + 13) == 1) u = cS T p := by
  unfold cS
  rw [hp, nI_clamp (by omega)]
  refine pm_cnt_c u (fun r hr => ?_)
  rw [cmx_t (t7_iff.mpr ⟨by omega, by omega⟩)]
theorem cS_le {T : Nat → Int32} {p : Int32} {u : Nat} (hp : p = nI u) (hu : u ≤ 20) : cS T p ≤ 20 := by
  unfold cS
  rw [hp, nI_clamp (by omega)]
  exact Nat.le_trans (pm_cnt_le _ u) hu

set_option maxRecDepth 100000 in
set_option maxHeartbeats 4000000 in
theorem g_isLivingE {ε : Nat → Int32} {d B cnt : Nat} {kp : pm_KP} {ρ : pm_S} {I : Nat → Int32} {A : Nat → Nat → Int32} (hdd : 1 ≤ d) {za : Int32} {u : Nat} (hu : ε 6 = nI u) (hu2 : u ≤ 20) (h : gq ε I) : pm_met mX7_isLiving d 0 0 B [.ref (B + 1), .int za] cnt (pm_two (cl_L B kp I A) ρ) (pm_Qi (fun v σ' cnt' => v = (if lv kp.2 (ε 6) za then 1 else 0) ∧ hvq ε B kp ρ cnt σ' cnt')) := by
  refine pm_enter 0 (by decide) (Nat.le_of_ble_eq_true rfl) rfl (fun G hG hR hF => ?_)
  refine pm_aloadn hG dX7_isLiving_0 rfl ?_
  refine pm_getf hG dX7_isLiving_1 (flX7_23 _ rfl) rfl rfl ?_
  refine pm_iloadn hG dX7_isLiving_4 rfl ?_
  refine pm_callV (As := [.int za]) (rest := []) hG hR dX7_isLiving_5 (lkX7_93 _ rfl) okV_X9_has rfl rfl (tb_has (d := 0) rfl) rfl rfl hdd (Nat.le_refl _) (Nat.le_refl _) (by decide) (pm_ki (fun v1 σ' cnt' hq => ?_))
  have o1 : v1 = (if za < 0 ∨ ε 6 ≤ za then 0 else 1) := by rw [← h.2 6 (by decide)]; exact hq.1
  have b1 := pm_b01 hq.1
  obtain ⟨I1, A1, rfl, rfl, h1⟩ := hv_id (kp := kp) (I := I) (A := A) h hq.2
  refine pm_if_eq (tgt := 28) hG dX7_isLiving_8 rfl (fun c2 => ?_) (fun c2 => ?_)
  · refine pm_iconst (v := 0) hG dX7_isLiving_28 (by decide) ?_
    exact pm_zret hG hF dX7_isLiving_29 rfl (pm_nz (Or.inl rfl)) (Nat.le_refl _) (Nat.le_refl _) ⟨_, rfl, (if_neg (fun q => q.1 (has_0 o1 c2))).symm, _, _, rfl, rfl, h1⟩
  · refine pm_aloadn hG dX7_isLiving_11 rfl ?_
    refine pm_getf hG dX7_isLiving_12 (flX7_23 _ rfl) rfl rfl ?_
    refine pm_iloadn hG dX7_isLiving_15 rfl ?_
    refine pm_bipush (v := 9) hG dX7_isLiving_16 (by decide) ?_
    refine pm_callV (As := [.int za, .int 9]) (rest := []) hG hR dX7_isLiving_18 (lkX7_83 _ rfl) okV_X9_get rfl rfl (tb_get (d := 0) (rows := nI 20) (width := nI 14) (f := cmx kp.2 (A1 7)) rfl rfl (pm_tw_of 20 14 (by decide) (by decide) (by decide))) rfl rfl hdd (Nat.le_refl _) (Nat.le_refl _) (by decide) (pm_ki (fun v3 σ' cnt' hq => ?_))
    obtain rfl : v3 = kp.2 (14 * za.toNatClampNeg + 9) := hq.1.trans (tg7 9 (by decide) (has_1 o1 c2) hu hu2)
    obtain ⟨I3, A3, rfl, rfl, h3⟩ := hv_id (kp := kp) (I := I1) (A := A1) h1 hq.2
    refine pm_if_ne (tgt := 28) hG dX7_isLiving_21 rfl (fun c4 => ?_) (fun c4 => ?_)
    · refine pm_iconst (v := 0) hG dX7_isLiving_28 (by decide) ?_
      exact pm_zret hG hF dX7_isLiving_29 rfl (pm_nz (Or.inl rfl)) (Nat.le_refl _) (Nat.le_refl _) ⟨_, rfl, (if_neg (fun q => c4 q.2)).symm, _, _, rfl, rfl, h3⟩
    · refine pm_iconst (v := 1) hG dX7_isLiving_24 (by decide) ?_
      refine pm_goto (tgt := 29) hG dX7_isLiving_25 rfl ?_
      exact pm_zret hG hF dX7_isLiving_29 rfl (pm_nz (Or.inr rfl)) (Nat.le_refl _) (Nat.le_refl _) ⟨_, rfl, (if_pos ⟨has_1 o1 c2, c4⟩).symm, _, _, rfl, rfl, h3⟩

theorem not_not_lv {p : Prop} [Decidable p] (h : ¬ ¬ p) : p := Decidable.not_not.mp h

set_option maxRecDepth 100000 in
set_option maxHeartbeats 4000000 in
theorem g_unseatE {ε : Nat → Int32} {d B cnt : Nat} {kp : pm_KP} {ρ : pm_S} {I : Nat → Int32} {A : Nat → Nat → Int32} (hdd : 3 ≤ d) {za : Int32} {u : Nat} (hu : ε 6 = nI u) (hu2 : u ≤ 20) (hin : ¬ nP (ε 6) za) (h : gq ε I) : pm_met mX0_unseat d 0 0 B [.ref (B + 31), .int za] cnt (pm_two (cl_L B kp I A) ρ) (pm_Qv (fun σ' cnt' => hvq ε B (kp.1, upd kp.2 (za.toNatClampNeg * 14 + 13) 0) ρ cnt σ' cnt')) := by
  refine pm_enter 0 (by decide) (Nat.le_of_ble_eq_true rfl) rfl (fun G hG hR hF => ?_)
  refine pm_aloadn hG dX0_unseat_0 rfl ?_
  refine pm_getf hG dX0_unseat_1 (flX0_9 _ rfl) rfl rfl ?_
  refine pm_getf hG dX0_unseat_4 (flX0_63 _ rfl) rfl rfl ?_
  refine pm_iloadn hG dX0_unseat_7 rfl ?_
  refine pm_bipush (v := 13) hG dX0_unseat_8 (by decide) ?_
  refine pm_iconst (v := 0) hG dX0_unseat_10 (by decide) ?_
  refine pm_callV (As := [.int za, .int 13, .int 0]) (rest := []) hG hR dX0_unseat_11 (lkX0_55 _ rfl) okV_X9_set rfl rfl (tb_set (d := 2) (rows := nI 20) (width := nI 14) (f := cmx kp.2 (A 7)) rfl rfl (pm_tw_of 20 14 (by decide) (by decide) (by decide)) (by decide)) rfl rfl hdd (Nat.le_refl _) (Nat.le_refl _) (by decide) (pm_kv (fun σ' cnt' hq => ?_))
  obtain ⟨I1, A1, rfl, rfl, h1⟩ := hv_x7 (kp := kp) (I := I) (A := A) 13 (by decide) hin hu hu2 h hq
  refine pm_genK (fun kp ek1 => ?_)
  refine pm_aloadn hG dX0_unseat_14 rfl ?_
  refine pm_iloadn hG dX0_unseat_15 rfl ?_
  refine pm_iconst (v := 1) hG dX0_unseat_16 (by decide) ?_
  refine pm_callV (As := [.int za, .int 1]) (rest := []) hG hR dX0_unseat_17 (lkX0_66 _ rfl) okV_X0_endAllOf rfl rfl (g_X0_endAllOf (d := 2) (by decide) h1) rfl rfl hdd (Nat.le_refl _) (Nat.le_refl _) (by decide) (pm_ki (fun v2 σ' cnt' hq => ?_))
  obtain ⟨I2, A2, rfl, rfl, h2⟩ := hq
  refine pm_pop hG dX0_unseat_20 rfl ?_
  subst ek1
  exact pm_vret hG hF dX0_unseat_21 rfl (Nat.le_refl _) (Nat.le_refl _) ⟨rfl, _, _, rfl, rfl, h2⟩

set_option maxRecDepth 100000 in
set_option maxHeartbeats 4000000 in
theorem g_buryE {ε : Nat → Int32} {d B cnt : Nat} {kp : pm_KP} {ρ : pm_S} {I : Nat → Int32} {A : Nat → Nat → Int32} (hdd : 3 ≤ d) {za : Int32} {u : Nat} (hu : ε 6 = nI u) (hu2 : u ≤ 20) (hin : ¬ nP (ε 6) za) (h : gq ε I) : pm_met mX7_bury d 0 0 B [.ref (B + 1), .int za] cnt (pm_two (cl_L B kp I A) ρ) (pm_Qi (fun _ σ' cnt' => hvq ε B (kp.1, upd kp.2 (za.toNatClampNeg * 14 + 9) 1) ρ cnt σ' cnt')) := by
  refine pm_enter 3 (by decide) (Nat.le_of_ble_eq_true rfl) rfl (fun G hG hR hF => ?_)
  refine pm_aloadn hG dX7_bury_0 rfl ?_
  refine pm_getf hG dX7_bury_1 (flX7_23 _ rfl) rfl rfl ?_
  refine pm_iloadn hG dX7_bury_4 rfl ?_
  refine pm_bipush (v := 7) hG dX7_bury_5 (by decide) ?_
  refine pm_iconst (v := 0) hG dX7_bury_7 (by decide) ?_
  refine pm_callV (As := [.int za, .int 7, .int 0]) (rest := []) hG hR dX7_bury_8 (lkX7_115 _ rfl) okV_X9_swap rfl rfl (tb_swap (d := 2) (rows := nI 20) (width := nI 14) (f := cmx kp.2 (A 7)) (by decide) rfl rfl (pm_tw_of 20 14 (by decide) (by decide) (by decide)) (by decide)) rfl rfl hdd (Nat.le_refl _) (Nat.le_refl _) (by decide) (pm_ki (fun v1 σ' cnt' hq => ?_))
  obtain ⟨I1, A1, rfl, rfl, h1⟩ := hv_s7 (kp := kp) (I := I) (A := A) (ts7 7 (by decide) (by decide)) h hq.2
  refine pm_istoreXn (loc' := [some (.ref (B + 1)), some (.int za), some (.int v1), none, none]) hG dX7_bury_11 (by decide) (pm_c1b rfl) rfl ?_
  refine pm_aloadn hG dX7_bury_12 rfl ?_
  refine pm_dup hG dX7_bury_13 rfl ?_
  refine pm_getf hG dX7_bury_14 (flX7_53 _ rfl) rfl rfl ?_
  refine pm_iloadn hG dX7_bury_17 rfl ?_
  refine pm_iadd hG dX7_bury_18 ?_
  refine pm_putf hG dX7_bury_19 (fwX7_53 _ rfl) rfl rfl rfl ?_
  refine pm_nrm (L' := cl_L B kp (ui I1 103 ((I1 103) + v1)) A1) (by decide) (Nat.le_of_ble_eq_true rfl) rfl ?_
  refine pm_aloadn hG dX7_bury_22 rfl ?_
  refine pm_getf hG dX7_bury_23 (flX7_23 _ rfl) rfl rfl ?_
  refine pm_iloadn hG dX7_bury_26 rfl ?_
  refine pm_bipush (v := 8) hG dX7_bury_27 (by decide) ?_
  refine pm_iconst (v := 0) hG dX7_bury_29 (by decide) ?_
  refine pm_callV (As := [.int za, .int 8, .int 0]) (rest := []) hG hR dX7_bury_30 (lkX7_61 _ rfl) okV_X9_set rfl rfl (tb_set (d := 2) (rows := nI 20) (width := nI 14) (f := cmx kp.2 (A1 7)) rfl rfl (pm_tw_of 20 14 (by decide) (by decide) (by decide)) (by decide)) rfl rfl hdd (Nat.le_refl _) (Nat.le_refl _) (by decide) (pm_kv (fun σ' cnt' hq => ?_))
  obtain ⟨I3, A3, rfl, rfl, h3⟩ := hv_s7 (kp := kp) (I := (ui I1 103 ((I1 103) + v1))) (A := A1) (ts7 8 (by decide) (by decide)) (gq.wi (k := 103) rfl h1) hq
  refine pm_aloadn hG dX7_bury_33 rfl ?_
  refine pm_getf hG dX7_bury_34 (flX7_23 _ rfl) rfl rfl ?_
  refine pm_iloadn hG dX7_bury_37 rfl ?_
  refine pm_bipush (v := 10) hG dX7_bury_38 (by decide) ?_
  refine pm_aloadn hG dX7_bury_40 rfl ?_
  refine pm_iloadn hG dX7_bury_41 rfl ?_
  refine pm_callV (As := [.int za]) (rest := [.int 10, .int za, .ref (B + 6)]) hG hR dX7_bury_42 (lkX7_112 _ rfl) okV_X7_knownTo rfl rfl (g_X7_knownTo (d := 2) (by decide) h3) rfl rfl hdd (Nat.le_refl _) (Nat.le_refl _) (by first | decide | exact Nat.le_of_ble_eq_true rfl) (pm_ki (fun v4 σ' cnt' hq => ?_))
  obtain ⟨I4, A4, rfl, rfl, h4⟩ := hq
  refine pm_callV (As := [.int za, .int 10, .int v4]) (rest := []) hG hR dX7_bury_45 (lkX7_61 _ rfl) okV_X9_set rfl rfl (tb_set (d := 2) (rows := nI 20) (width := nI 14) (f := cmx kp.2 (A4 7)) rfl rfl (pm_tw_of 20 14 (by decide) (by decide) (by decide)) (by decide)) rfl rfl hdd (Nat.le_refl _) (Nat.le_refl _) (by decide) (pm_kv (fun σ' cnt' hq => ?_))
  obtain ⟨I5, A5, rfl, rfl, h5⟩ := hv_s7 (kp := kp) (I := I4) (A := A4) (ts7 10 (by decide) (by decide)) h4 hq
  refine pm_aloadn hG dX7_bury_48 rfl ?_
  refine pm_getf hG dX7_bury_49 (flX7_23 _ rfl) rfl rfl ?_
  refine pm_iloadn hG dX7_bury_52 rfl ?_
  refine pm_bipush (v := 9) hG dX7_bury_53 (by decide) ?_
  refine pm_iconst (v := 1) hG dX7_bury_55 (by decide) ?_
  refine pm_callV (As := [.int za, .int 9, .int 1]) (rest := []) hG hR dX7_bury_56 (lkX7_61 _ rfl) okV_X9_set rfl rfl (tb_set (d := 2) (rows := nI 20) (width := nI 14) (f := cmx kp.2 (A5 7)) rfl rfl (pm_tw_of 20 14 (by decide) (by decide) (by decide)) (by decide)) rfl rfl hdd (Nat.le_refl _) (Nat.le_refl _) (by decide) (pm_kv (fun σ' cnt' hq => ?_))
  obtain ⟨I6, A6, rfl, rfl, h6⟩ := hv_x7 (kp := kp) (I := I5) (A := A5) 9 (by decide) hin hu hu2 h5 hq
  refine pm_genK (fun kp ek6 => ?_)
  refine pm_aloadn hG dX7_bury_59 rfl ?_
  refine pm_getf hG dX7_bury_60 (flX7_26 _ rfl) rfl rfl ?_
  refine pm_callV (As := []) (rest := []) hG hR dX7_bury_63 (lkX7_79 _ rfl) okV_X9_used rfl rfl (tb_used (d := 2) rfl) rfl rfl hdd (Nat.le_refl _) (Nat.le_refl _) (by decide) (pm_ki (fun v7 σ' cnt' hq => ?_))
  obtain ⟨I7, A7, rfl, rfl, h7⟩ := hv_id (kp := kp) (I := I6) (A := A6) h6 hq.2
  refine pm_istoreXn (loc' := [some (.ref (B + 1)), some (.int za), some (.int v1), some (.int v7), none]) hG dX7_bury_66 (by decide) (pm_c1b rfl) rfl ?_
  refine pm_iconst (v := 0) hG dX7_bury_67 (by decide) ?_
  refine pm_istoreXi (loc' := [some (.ref (B + 1)), some (.int za), some (.int v1), some (.int v7), some (.int 0)]) hG dX7_bury_68 (by decide) (pm_c1b rfl) rfl ?_
  have loop70 : ∀ (m70 : Nat) (I8 : Nat → Int32) (A8 : Nat → Nat → Int32) (x8_4 : Int32), gq ε I8 → (¬ x8_4 < 0) → ((v7 : Int32).toInt - x8_4.toInt).toNat < m70 → pm_wp mX7_bury G B 70 [some (.ref (B + 1)), some (.int za), some (.int v1), some (.int v7), some (.int x8_4)] [] 0 0 cnt (pm_two (cl_L B kp I8 A8) ρ) := by
    intro m70
    induction m70 with
    | zero => intro I8 A8 x8_4 _  _ hm; exact absurd hm (Nat.not_lt_zero _)
    | succ m70 ih70 =>
      intro I8 A8 x8_4 h8 s70 hm70
      refine pm_iloadi hG dX7_bury_70 rfl ?_
      refine pm_iloadn hG dX7_bury_72 rfl ?_
      refine pm_icmp_ge (tgt := 129) hG dX7_bury_73 rfl (fun c9 => ?_) (fun c9 => ?_)
      · refine pm_iloadn hG dX7_bury_129 rfl ?_
        subst ek6
        exact pm_iret hG hF dX7_bury_130 rfl (Nat.le_refl _) (Nat.le_refl _) ⟨_, rfl, _, _, rfl, rfl, h8⟩
      · refine pm_aloadn hG dX7_bury_76 rfl ?_
        refine pm_getf hG dX7_bury_77 (flX7_26 _ rfl) rfl rfl ?_
        refine pm_iloadi hG dX7_bury_80 rfl ?_
        refine pm_iconst (v := 2) hG dX7_bury_82 (by decide) ?_
        refine pm_callV (As := [.int x8_4, .int 2]) (rest := []) hG hR dX7_bury_83 (lkX7_83 _ rfl) okV_X9_get rfl rfl (tb_get (d := 2) rfl rfl (pm_tw_of 20 6 (by decide) (by decide) (by decide))) rfl rfl hdd (Nat.le_refl _) (Nat.le_refl _) (by decide) (pm_ki (fun v10 σ' cnt' hq => ?_))
        obtain ⟨I10, A10, rfl, rfl, h10⟩ := hv_id (kp := kp) (I := I8) (A := A8) h8 hq.2
        refine pm_iloadn hG dX7_bury_86 rfl ?_
        refine pm_icmp_ne (tgt := 101) hG dX7_bury_87 rfl (fun c11 => ?_) (fun c11 => ?_)
        · refine pm_aloadn hG dX7_bury_101 rfl ?_
          refine pm_getf hG dX7_bury_102 (flX7_26 _ rfl) rfl rfl ?_
          refine pm_iloadi hG dX7_bury_105 rfl ?_
          refine pm_iconst (v := 3) hG dX7_bury_107 (by decide) ?_
          refine pm_callV (As := [.int x8_4, .int 3]) (rest := []) hG hR dX7_bury_108 (lkX7_83 _ rfl) okV_X9_get rfl rfl (tb_get (d := 2) rfl rfl (pm_tw_of 20 6 (by decide) (by decide) (by decide))) rfl rfl hdd (Nat.le_refl _) (Nat.le_refl _) (by decide) (pm_ki (fun v12 σ' cnt' hq => ?_))
          obtain ⟨I12, A12, rfl, rfl, h12⟩ := hv_id (kp := kp) (I := I10) (A := A10) h10 hq.2
          refine pm_iloadn hG dX7_bury_111 rfl ?_
          refine pm_icmp_ne (tgt := 123) hG dX7_bury_112 rfl (fun c13 => ?_) (fun c13 => ?_)
          · refine pm_iincX (v := x8_4 + 1) (loc' := [some (.ref (B + 1)), some (.int za), some (.int v1), some (.int v7), some (.int (x8_4 + 1))]) hG dX7_bury_123 rfl (by rfl) (by decide) (pm_c1b rfl) rfl ?_
            refine pm_goto (tgt := 70) hG dX7_bury_126 rfl ?_
            exact ih70 _ _ (x8_4 + 1) h12 (pm_sd1 c9 s70) (Nat.lt_of_lt_of_le (pm_mu1 c9) (Nat.le_of_lt_succ hm70))
          · refine pm_aloadn hG dX7_bury_115 rfl ?_
            refine pm_iloadi hG dX7_bury_116 rfl ?_
            refine pm_iconst (v := (-1)) hG dX7_bury_118 (by decide) ?_
            refine pm_iconst (v := (-1)) hG dX7_bury_119 (by decide) ?_
            refine pm_callV (As := [.int x8_4, .int (-1), .int (-1)]) (rest := []) hG hR dX7_bury_120 (lkX7_122 _ rfl) okV_X7_setLent rfl rfl (g_X7_setLent (d := 2) (by decide) h12) rfl rfl hdd (Nat.le_refl _) (Nat.le_refl _) (by decide) (pm_kv (fun σ' cnt' hq => ?_))
            obtain ⟨I14, A14, rfl, rfl, h14⟩ := hq
            refine pm_iincX (v := x8_4 + 1) (loc' := [some (.ref (B + 1)), some (.int za), some (.int v1), some (.int v7), some (.int (x8_4 + 1))]) hG dX7_bury_123 rfl (by rfl) (by decide) (pm_c1b rfl) rfl ?_
            refine pm_goto (tgt := 70) hG dX7_bury_126 rfl ?_
            exact ih70 _ _ (x8_4 + 1) h14 (pm_sd1 c9 s70) (Nat.lt_of_lt_of_le (pm_mu1 c9) (Nat.le_of_lt_succ hm70))
        · refine pm_aloadn hG dX7_bury_90 rfl ?_
          refine pm_iloadi hG dX7_bury_91 rfl ?_
          refine pm_iconst (v := (-1)) hG dX7_bury_93 (by decide) ?_
          refine pm_callV (As := [.int x8_4, .int (-1)]) (rest := []) hG hR dX7_bury_94 (lkX7_119 _ rfl) okV_X7_handOver rfl rfl (g_X7_handOver (d := 2) (by decide) h10) rfl rfl hdd (Nat.le_refl _) (Nat.le_refl _) (by decide) (pm_ki (fun v15 σ' cnt' hq => ?_))
          obtain ⟨I15, A15, rfl, rfl, h15⟩ := hq
          refine pm_pop hG dX7_bury_97 rfl ?_
          refine pm_goto (tgt := 123) hG dX7_bury_98 rfl ?_
          refine pm_iincX (v := x8_4 + 1) (loc' := [some (.ref (B + 1)), some (.int za), some (.int v1), some (.int v7), some (.int (x8_4 + 1))]) hG dX7_bury_123 rfl (by rfl) (by decide) (pm_c1b rfl) rfl ?_
          refine pm_goto (tgt := 70) hG dX7_bury_126 rfl ?_
          exact ih70 _ _ (x8_4 + 1) h15 (pm_sd1 c9 s70) (Nat.lt_of_lt_of_le (pm_mu1 c9) (Nat.le_of_lt_succ hm70))
  exact loop70 _ _ _ 0 h7 (by decide) (Nat.lt_succ_self _)

set_option maxRecDepth 100000 in
set_option maxHeartbeats 4000000 in
theorem g_dieE1 {ε : Nat → Int32} {d B cnt : Nat} {kp : pm_KP} {ρ : pm_S} {I : Nat → Int32} {A : Nat → Nat → Int32} (hdd : 4 ≤ d) {za : Int32} {u : Nat} (hu : ε 6 = nI u) (hu2 : u ≤ 20) (h : gq ε I) : pm_met mX11_die d 0 0 B [.ref (B + 0), .int za] cnt (pm_two (cl_L B kp I A) ρ) (pm_Qi (fun _ σ' cnt' => hvq ε B (kp.1, tX kp.2 (ε 6) za) ρ cnt σ' cnt')) := by
  refine pm_enter 0 (by decide) (Nat.le_of_ble_eq_true rfl) rfl (fun G hG hR hF => ?_)
  refine pm_aloadn hG dX11_die_0 rfl ?_
  refine pm_getf hG dX11_die_1 (flX11_12 _ rfl) rfl rfl ?_
  refine pm_getf hG dX11_die_4 (flX11_128 _ rfl) rfl rfl ?_
  refine pm_iloadn hG dX11_die_7 rfl ?_
  refine pm_callV (As := [.int za]) (rest := []) hG hR dX11_die_8 (lkX11_101 _ rfl) okV_X9_has rfl rfl (tb_has (d := 3) rfl) rfl rfl hdd (Nat.le_refl _) (Nat.le_refl _) (by decide) (pm_ki (fun v1 σ' cnt' hq => ?_))
  have o1 : v1 = (if za < 0 ∨ ε 6 ≤ za then 0 else 1) := by rw [← h.2 6 (by decide)]; exact hq.1
  have b1 := pm_b01 hq.1
  obtain ⟨I1, A1, rfl, rfl, h1⟩ := hv_id (kp := kp) (I := I) (A := A) h hq.2
  refine pm_if_ne (tgt := 21) hG dX11_die_11 rfl (fun c2 => ?_) (fun c2 => ?_)
  · refine pm_aloadn hG dX11_die_21 rfl ?_
    refine pm_getf hG dX11_die_22 (flX11_12 _ rfl) rfl rfl ?_
    refine pm_iloadn hG dX11_die_25 rfl ?_
    refine pm_callV (As := [.int za]) (rest := []) hG hR dX11_die_26 (lkX11_135 _ rfl) okV_X7_isLiving rfl rfl (g_isLivingE (d := 3) (by decide) hu hu2 h1) rfl rfl hdd (Nat.le_refl _) (Nat.le_refl _) (by decide) (pm_ki (fun v3 σ' cnt' hq => ?_))
    obtain ⟨o3, I3, A3, rfl, rfl, h3⟩ := hq
    have b3 := pm_b10 o3
    refine pm_if_ne (tgt := 39) hG dX11_die_29 rfl (fun c4 => ?_) (fun c4 => ?_)
    · refine pm_aloadn hG dX11_die_39 rfl ?_
      refine pm_getf hG dX11_die_40 (flX11_30 _ rfl) rfl rfl ?_
      refine pm_iloadn hG dX11_die_43 rfl ?_
      refine pm_callV (As := [.int za]) (rest := []) hG hR dX11_die_44 (lkX11_139 _ rfl) okV_X0_unseat rfl rfl (g_unseatE (d := 3) (by decide) hu hu2 (not_not_lv (if_1 o3 c4)).1 h3) rfl rfl hdd (Nat.le_refl _) (Nat.le_refl _) (by decide) (pm_kv (fun σ' cnt' hq => ?_))
      obtain ⟨I5, A5, rfl, rfl, h5⟩ := hq
      refine pm_genK (fun kp ek5 => ?_)
      refine pm_aloadn hG dX11_die_47 rfl ?_
      refine pm_aloadn hG dX11_die_48 rfl ?_
      refine pm_getf hG dX11_die_49 (flX11_12 _ rfl) rfl rfl ?_
      refine pm_iloadn hG dX11_die_52 rfl ?_
      refine pm_callV (As := [.int za]) (rest := [.ref (B + 0)]) hG hR dX11_die_53 (lkX11_143 _ rfl) okV_X7_bury rfl rfl (g_buryE (d := 3) (by decide) hu hu2 (not_not_lv (if_1 o3 c4)).1 h5) rfl rfl hdd (Nat.le_refl _) (Nat.le_refl _) (by first | decide | exact Nat.le_of_ble_eq_true rfl) (pm_ki (fun v6 σ' cnt' hq => ?_))
      obtain ⟨I6, A6, rfl, rfl, h6⟩ := hq
      refine pm_genK (fun kp ek6 => ?_)
      refine pm_callV (As := [.int v6]) (rest := []) hG hR dX11_die_56 (lkX11_97 _ rfl) okV_X11_told rfl rfl (sx_told (d := 3) (by decide) rfl rfl) rfl rfl hdd (Nat.le_refl _) (Nat.le_refl _) (by decide) (pm_ki (fun v7 σ' cnt' hq => ?_))
      obtain ⟨ev7, ⟨g7, hg7⟩, hc7⟩ := hq
      obtain ⟨I7, A7, rfl, rfl, h7⟩ := hv_a53 (kp := kp) (I := I6) (A := A6) h6 ⟨hg7, hc7⟩
      subst ek6
      subst ek5
      exact pm_iret hG hF dX11_die_59 rfl (Nat.le_refl _) (Nat.le_refl _) ⟨_, rfl, by rw [show tX kp.2 (ε 6) za = _ from if_pos (not_not_lv (if_1 o3 c4))]; exact ⟨_, _, rfl, rfl, h7⟩⟩
    · refine pm_aloadn hG dX11_die_32 rfl ?_
      refine pm_ldc hG dX11_die_33 (ctX11_138 _ rfl) ?_
      refine pm_callV (As := [.int (-1000003)]) (rest := []) hG hR dX11_die_35 (lkX11_97 _ rfl) okV_X11_told rfl rfl (sx_told (d := 3) (by decide) rfl rfl) rfl rfl hdd (Nat.le_refl _) (Nat.le_refl _) (by decide) (pm_ki (fun v8 σ' cnt' hq => ?_))
      obtain ⟨ev8, ⟨g8, hg8⟩, hc8⟩ := hq
      obtain ⟨I8, A8, rfl, rfl, h8⟩ := hv_a53 (kp := kp) (I := I3) (A := A3) h3 ⟨hg8, hc8⟩
      subst ev8
      exact pm_iret hG hF dX11_die_38 rfl (Nat.le_refl _) (Nat.le_refl _) ⟨_, rfl, by rw [show tX kp.2 (ε 6) za = kp.2 from if_neg (if_0 o3 c4)]; exact ⟨_, _, rfl, rfl, h8⟩⟩
  · refine pm_aloadn hG dX11_die_14 rfl ?_
    refine pm_ldc hG dX11_die_15 (ctX11_109 _ rfl) ?_
    refine pm_callV (As := [.int (-1000001)]) (rest := []) hG hR dX11_die_17 (lkX11_97 _ rfl) okV_X11_told rfl rfl (sx_told (d := 3) (by decide) rfl rfl) rfl rfl hdd (Nat.le_refl _) (Nat.le_refl _) (by decide) (pm_ki (fun v9 σ' cnt' hq => ?_))
    obtain ⟨ev9, ⟨g9, hg9⟩, hc9⟩ := hq
    obtain ⟨I9, A9, rfl, rfl, h9⟩ := hv_a53 (kp := kp) (I := I1) (A := A1) h1 ⟨hg9, hc9⟩
    subst ev9
    exact pm_iret hG hF dX11_die_20 rfl (Nat.le_refl _) (Nat.le_refl _) ⟨_, rfl, by rw [show tX kp.2 (ε 6) za = kp.2 from if_neg (fun q => q.1 (has_0 o1 c2))]; exact ⟨_, _, rfl, rfl, h9⟩⟩

theorem g_dieE {ε : Nat → Int32} {d B cnt : Nat} {kp : pm_KP} {ρ : pm_S} {I : Nat → Int32} {A : Nat → Nat → Int32} {za : Int32} (hdd : 4 ≤ d) (h : gq ε I) : pm_met mX11_die d 0 0 B [.ref (B + 0), .int za] cnt (pm_two (cl_L B kp I A) ρ) (pm_Qi (fun _ σ' cnt' => hvq ε B (kp.1, tX kp.2 (ε 6) za) ρ cnt σ' cnt')) := by
  obtain ⟨u, hu, e⟩ := h.used 6 20 (by decide)
  exact g_dieE1 (by omega) ((h.2 6 (by decide)).symm.trans e) hu h

theorem nI_9 {c : Nat} (hc : c ≤ 20) (h : ¬ nI c < 9) : 9 ≤ c := Nat.le_of_not_lt (fun q => h ((nI_ltI (b := 9) (by omega) (by decide)).mpr q))
theorem nI_9n {c : Nat} (hc : c ≤ 20) (h : nI c < 9) : ¬ 9 ≤ c := fun q => by
  have := (nI_ltI (b := 9) (by omega) (by decide)).mp h
  omega

set_option maxRecDepth 100000 in
set_option maxHeartbeats 4000000 in
theorem g_seat1E1 {ε : Nat → Int32} {d B cnt : Nat} {kp : pm_KP} {ρ : pm_S} {I : Nat → Int32} {A : Nat → Nat → Int32} (hdd : 2 ≤ d) {za : Int32} {u : Nat} (hu : ε 6 = nI u) (hu2 : u ≤ 20) (h : gq ε I) : pm_met mX11_seat d 0 0 B [.ref (B + 0), .int za, .int 1] cnt (pm_two (cl_L B kp I A) ρ) (pm_Qi (fun v σ' cnt' => v = vSe1 kp.2 (ε 6) za ∧ hvq ε B (kp.1, tSe1 kp.2 (ε 6) za) ρ cnt σ' cnt')) := by
  refine pm_enter 1 (by decide) (Nat.le_of_ble_eq_true rfl) rfl (fun G hG hR hF => ?_)
  refine pm_aloadn hG dX11_seat_0 rfl ?_
  refine pm_getf hG dX11_seat_1 (flX11_12 _ rfl) rfl rfl ?_
  refine pm_getf hG dX11_seat_4 (flX11_128 _ rfl) rfl rfl ?_
  refine pm_iloadn hG dX11_seat_7 rfl ?_
  refine pm_callV (As := [.int za]) (rest := []) hG hR dX11_seat_8 (lkX11_101 _ rfl) okV_X9_has rfl rfl (tb_has (d := 1) rfl) rfl rfl hdd (Nat.le_refl _) (Nat.le_refl _) (by decide) (pm_ki (fun v1 σ' cnt' hq => ?_))
  have o1 : v1 = (if za < 0 ∨ ε 6 ≤ za then 0 else 1) := by rw [← h.2 6 (by decide)]; exact hq.1
  have b1 := pm_b01 hq.1
  obtain ⟨I1, A1, rfl, rfl, h1⟩ := hv_id (kp := kp) (I := I) (A := A) h hq.2
  refine pm_if_ne (tgt := 21) hG dX11_seat_11 rfl (fun c2 => ?_) (fun c2 => ?_)
  · refine pm_aloadn hG dX11_seat_21 rfl ?_
    refine pm_getf hG dX11_seat_22 (flX11_12 _ rfl) rfl rfl ?_
    refine pm_getf hG dX11_seat_25 (flX11_128 _ rfl) rfl rfl ?_
    refine pm_iloadn hG dX11_seat_28 rfl ?_
    refine pm_bipush (v := 13) hG dX11_seat_29 (by decide) ?_
    refine pm_callV (As := [.int za, .int 13]) (rest := []) hG hR dX11_seat_31 (lkX11_152 _ rfl) okV_X9_get rfl rfl (tb_get (d := 1) (rows := nI 20) (width := nI 14) (f := cmx kp.2 (A1 7)) rfl rfl (pm_tw_of 20 14 (by decide) (by decide) (by decide))) rfl rfl hdd (Nat.le_refl _) (Nat.le_refl _) (by decide) (pm_ki (fun v3 σ' cnt' hq => ?_))
    obtain rfl : v3 = kp.2 (14 * za.toNatClampNeg + 13) := hq.1.trans (tg7 13 (by decide) (has_1 o1 c2) hu hu2)
    obtain ⟨I3, A3, rfl, rfl, h3⟩ := hv_id (kp := kp) (I := I1) (A := A1) h1 hq.2
    refine pm_if_eq (tgt := 41) hG dX11_seat_34 rfl (fun c4 => ?_) (fun c4 => ?_)
    · refine pm_iconst (v := 0) hG dX11_seat_41 (by decide) ?_
      refine pm_istoreXn (loc' := [some (.ref (B + 0)), some (.int za), some (.int 1), some (.int 0)]) hG dX11_seat_42 (by decide) (pm_c1b rfl) rfl ?_
      refine pm_aloadn hG dX11_seat_43 rfl ?_
      refine pm_getf hG dX11_seat_44 (flX11_12 _ rfl) rfl rfl ?_
      refine pm_iloadn hG dX11_seat_47 rfl ?_
      refine pm_callV (As := [.int za]) (rest := []) hG hR dX11_seat_48 (lkX11_135 _ rfl) okV_X7_isLiving rfl rfl (g_isLivingE (d := 1) (by decide) hu hu2 h3) rfl rfl hdd (Nat.le_refl _) (Nat.le_refl _) (by decide) (pm_ki (fun v5 σ' cnt' hq => ?_))
      obtain ⟨o5, I5, A5, rfl, rfl, h5⟩ := hq
      have b5 := pm_b10 o5
      refine pm_if_eq (tgt := 59) hG dX11_seat_51 rfl (fun c6 => ?_) (fun c6 => ?_)
      · refine pm_aloadn hG dX11_seat_59 rfl ?_
        refine pm_ldc hG dX11_seat_60 (ctX11_138 _ rfl) ?_
        refine pm_callV (As := [.int (-1000003)]) (rest := []) hG hR dX11_seat_62 (lkX11_97 _ rfl) okV_X11_told rfl rfl (sx_told (d := 1) (by decide) rfl rfl) rfl rfl hdd (Nat.le_refl _) (Nat.le_refl _) (by decide) (pm_ki (fun v7 σ' cnt' hq => ?_))
        obtain ⟨ev7, ⟨g7, hg7⟩, hc7⟩ := hq
        obtain ⟨I7, A7, rfl, rfl, h7⟩ := hv_a53 (kp := kp) (I := I5) (A := A5) h5 ⟨hg7, hc7⟩
        subst ev7
        exact pm_iret hG hF dX11_seat_65 rfl (Nat.le_refl _) (Nat.le_refl _) ⟨_, rfl, (vSe1_b (T := kp.2) (p := ε 6) (x := za) (has_1 o1 c2) (Or.inl (fun q => if_0 o5 c6 ⟨has_1 o1 c2, q⟩))).1, by rw [(vSe1_b (T := kp.2) (p := ε 6) (x := za) (has_1 o1 c2) (Or.inl (fun q => if_0 o5 c6 ⟨has_1 o1 c2, q⟩))).2]; exact ⟨_, _, rfl, rfl, h7⟩⟩
      · refine pm_iloadn hG dX11_seat_54 rfl ?_
        refine pm_iloadn hG dX11_seat_55 rfl ?_
        refine pm_icmp_ne (tgt := 66) hG dX11_seat_56 rfl (fun _ => ?_) (fun q => absurd q (by decide))
        refine pm_iloadn hG dX11_seat_66 rfl ?_
        refine pm_if_eq (tgt := 95) hG dX11_seat_67 rfl (fun q => absurd q (by decide)) (fun _ => ?_)
        refine pm_aloadn hG dX11_seat_70 rfl ?_
        refine pm_getf hG dX11_seat_71 (flX11_12 _ rfl) rfl rfl ?_
        refine pm_getf hG dX11_seat_74 (flX11_128 _ rfl) rfl rfl ?_
        refine pm_bipush (v := 13) hG dX11_seat_77 (by decide) ?_
        refine pm_iconst (v := 1) hG dX11_seat_79 (by decide) ?_
        have hu8 : I5 6 = nI u := (h5.2 6 (by decide)).trans hu
        have ht8 : pm_two (cl_L B kp I5 A5) ρ 6 = some (.inr (9, [.int (nI 20), .int (nI 14), .ref (B + 7), .int (nI u)])) := by rw [← hu8]; rfl
        refine pm_callV (As := [.int 13, .int 1]) (rest := []) hG hR dX11_seat_80 (lkX11_164 _ rfl) okV_X9_rowsWith rfl rfl (tb_rowsWith (d := 1) (k := 13) (f := cmx kp.2 (A5 7)) ht8 rfl (by decide) (by decide) (by decide) hu2 (by omega) (by decide)) rfl rfl hdd (Nat.le_refl _) (Nat.le_refl _) (by decide) (pm_ki (fun v8 σ' cnt' hq => ?_))
        obtain rfl : v8 = nI (cS kp.2 (ε 6)) := hq.1.trans (by rw [cS_cmx hu hu2])
        obtain ⟨I8, A8, rfl, rfl, h8⟩ := hv_id (kp := kp) (I := I5) (A := A5) h5 hq.2
        refine pm_bipush (v := 9) hG dX11_seat_83 (by decide) ?_
        refine pm_icmp_lt (tgt := 95) hG dX11_seat_85 rfl (fun c9 => ?_) (fun c9 => ?_)
        · refine pm_iloadn hG dX11_seat_95 rfl ?_
          refine pm_if_eq (tgt := 116) hG dX11_seat_96 rfl (fun q => absurd q (by decide)) (fun _ => ?_)
          refine pm_aloadn hG dX11_seat_99 rfl ?_
          refine pm_getf hG dX11_seat_100 (flX11_12 _ rfl) rfl rfl ?_
          refine pm_getf hG dX11_seat_103 (flX11_128 _ rfl) rfl rfl ?_
          refine pm_iloadn hG dX11_seat_106 rfl ?_
          refine pm_bipush (v := 13) hG dX11_seat_107 (by decide) ?_
          refine pm_iconst (v := 1) hG dX11_seat_109 (by decide) ?_
          refine pm_callV (As := [.int za, .int 13, .int 1]) (rest := []) hG hR dX11_seat_110 (lkX11_170 _ rfl) okV_X9_set rfl rfl (tb_set (d := 1) (rows := nI 20) (width := nI 14) (f := cmx kp.2 (A8 7)) rfl rfl (pm_tw_of 20 14 (by decide) (by decide) (by decide)) (by decide)) rfl rfl hdd (Nat.le_refl _) (Nat.le_refl _) (by decide) (pm_kv (fun σ' cnt' hq => ?_))
          obtain ⟨I10, A10, rfl, rfl, h10⟩ := hv_x7 (kp := kp) (I := I8) (A := A8) 13 (by decide) (has_1 o1 c2) hu hu2 h8 hq
          refine pm_genK (fun kp ek10 => ?_)
          refine pm_goto (tgt := 124) hG dX11_seat_113 rfl ?_
          refine pm_aloadn hG dX11_seat_124 rfl ?_
          refine pm_getf hG dX11_seat_125 (flX11_12 _ rfl) rfl rfl ?_
          refine pm_getf hG dX11_seat_128 (flX11_128 _ rfl) rfl rfl ?_
          refine pm_bipush (v := 13) hG dX11_seat_131 (by decide) ?_
          refine pm_iconst (v := 1) hG dX11_seat_133 (by decide) ?_
          have hu11 : I10 6 = nI u := (h10.2 6 (by decide)).trans hu
          have ht11 : pm_two (cl_L B kp I10 A10) ρ 6 = some (.inr (9, [.int (nI 20), .int (nI 14), .ref (B + 7), .int (nI u)])) := by rw [← hu11]; rfl
          refine pm_callV (As := [.int 13, .int 1]) (rest := []) hG hR dX11_seat_134 (lkX11_164 _ rfl) okV_X9_rowsWith rfl rfl (tb_rowsWith (d := 1) (k := 13) (f := cmx kp.2 (A10 7)) ht11 rfl (by decide) (by decide) (by decide) hu2 (by omega) (by decide)) rfl rfl hdd (Nat.le_refl _) (Nat.le_refl _) (by decide) (pm_ki (fun v11 σ' cnt' hq => ?_))
          obtain rfl : v11 = nI (cS kp.2 (ε 6)) := hq.1.trans (by rw [cS_cmx hu hu2])
          obtain ⟨I11, A11, rfl, rfl, h11⟩ := hv_id (kp := kp) (I := I10) (A := A10) h10 hq.2
          subst ek10
          exact pm_iret hG hF dX11_seat_137 rfl (Nat.le_refl _) (Nat.le_refl _) ⟨_, rfl, (vSe1_d (T := kp.2) (p := ε 6) (x := za) (has_1 o1 c2) (fun q => q.elim (fun q => q (not_not_lv (if_1 o5 c6)).2) (fun q => q c4)) (nI_9n (cS_le hu hu2) c9)).1, by rw [(vSe1_d (T := kp.2) (p := ε 6) (x := za) (has_1 o1 c2) (fun q => q.elim (fun q => q (not_not_lv (if_1 o5 c6)).2) (fun q => q c4)) (nI_9n (cS_le hu hu2) c9)).2]; exact ⟨_, _, rfl, rfl, h11⟩⟩
        · refine pm_aloadn hG dX11_seat_88 rfl ?_
          refine pm_ldc hG dX11_seat_89 (ctX11_92 _ rfl) ?_
          refine pm_callV (As := [.int (-1000004)]) (rest := []) hG hR dX11_seat_91 (lkX11_97 _ rfl) okV_X11_told rfl rfl (sx_told (d := 1) (by decide) rfl rfl) rfl rfl hdd (Nat.le_refl _) (Nat.le_refl _) (by decide) (pm_ki (fun v12 σ' cnt' hq => ?_))
          obtain ⟨ev12, ⟨g12, hg12⟩, hc12⟩ := hq
          obtain ⟨I12, A12, rfl, rfl, h12⟩ := hv_a53 (kp := kp) (I := I8) (A := A8) h8 ⟨hg12, hc12⟩
          subst ev12
          exact pm_iret hG hF dX11_seat_94 rfl (Nat.le_refl _) (Nat.le_refl _) ⟨_, rfl, (vSe1_c (T := kp.2) (p := ε 6) (x := za) (has_1 o1 c2) (fun q => q.elim (fun q => q (not_not_lv (if_1 o5 c6)).2) (fun q => q c4)) (nI_9 (cS_le hu hu2) c9)).1, by rw [(vSe1_c (T := kp.2) (p := ε 6) (x := za) (has_1 o1 c2) (fun q => q.elim (fun q => q (not_not_lv (if_1 o5 c6)).2) (fun q => q c4)) (nI_9 (cS_le hu hu2) c9)).2]; exact ⟨_, _, rfl, rfl, h12⟩⟩
    · refine pm_iconst (v := 1) hG dX11_seat_37 (by decide) ?_
      refine pm_goto (tgt := 42) hG dX11_seat_38 rfl ?_
      refine pm_istoreXn (loc' := [some (.ref (B + 0)), some (.int za), some (.int 1), some (.int 1)]) hG dX11_seat_42 (by decide) (pm_c1b rfl) rfl ?_
      refine pm_aloadn hG dX11_seat_43 rfl ?_
      refine pm_getf hG dX11_seat_44 (flX11_12 _ rfl) rfl rfl ?_
      refine pm_iloadn hG dX11_seat_47 rfl ?_
      refine pm_callV (As := [.int za]) (rest := []) hG hR dX11_seat_48 (lkX11_135 _ rfl) okV_X7_isLiving rfl rfl (g_isLivingE (d := 1) (by decide) hu hu2 h3) rfl rfl hdd (Nat.le_refl _) (Nat.le_refl _) (by decide) (pm_ki (fun v13 σ' cnt' hq => ?_))
      obtain ⟨o13, I13, A13, rfl, rfl, h13⟩ := hq
      have b13 := pm_b10 o13
      refine pm_if_eq (tgt := 59) hG dX11_seat_51 rfl (fun c14 => ?_) (fun c14 => ?_)
      · refine pm_aloadn hG dX11_seat_59 rfl ?_
        refine pm_ldc hG dX11_seat_60 (ctX11_138 _ rfl) ?_
        refine pm_callV (As := [.int (-1000003)]) (rest := []) hG hR dX11_seat_62 (lkX11_97 _ rfl) okV_X11_told rfl rfl (sx_told (d := 1) (by decide) rfl rfl) rfl rfl hdd (Nat.le_refl _) (Nat.le_refl _) (by decide) (pm_ki (fun v15 σ' cnt' hq => ?_))
        obtain ⟨ev15, ⟨g15, hg15⟩, hc15⟩ := hq
        obtain ⟨I15, A15, rfl, rfl, h15⟩ := hv_a53 (kp := kp) (I := I13) (A := A13) h13 ⟨hg15, hc15⟩
        subst ev15
        exact pm_iret hG hF dX11_seat_65 rfl (Nat.le_refl _) (Nat.le_refl _) ⟨_, rfl, (vSe1_b (T := kp.2) (p := ε 6) (x := za) (has_1 o1 c2) (Or.inl (fun q => if_0 o13 c14 ⟨has_1 o1 c2, q⟩))).1, by rw [(vSe1_b (T := kp.2) (p := ε 6) (x := za) (has_1 o1 c2) (Or.inl (fun q => if_0 o13 c14 ⟨has_1 o1 c2, q⟩))).2]; exact ⟨_, _, rfl, rfl, h15⟩⟩
      · refine pm_iloadn hG dX11_seat_54 rfl ?_
        refine pm_iloadn hG dX11_seat_55 rfl ?_
        refine pm_icmp_ne (tgt := 66) hG dX11_seat_56 rfl (fun q => absurd q (by decide)) (fun _ => ?_)
        refine pm_aloadn hG dX11_seat_59 rfl ?_
        refine pm_ldc hG dX11_seat_60 (ctX11_138 _ rfl) ?_
        refine pm_callV (As := [.int (-1000003)]) (rest := []) hG hR dX11_seat_62 (lkX11_97 _ rfl) okV_X11_told rfl rfl (sx_told (d := 1) (by decide) rfl rfl) rfl rfl hdd (Nat.le_refl _) (Nat.le_refl _) (by decide) (pm_ki (fun v16 σ' cnt' hq => ?_))
        obtain ⟨ev16, ⟨g16, hg16⟩, hc16⟩ := hq
        obtain ⟨I16, A16, rfl, rfl, h16⟩ := hv_a53 (kp := kp) (I := I13) (A := A13) h13 ⟨hg16, hc16⟩
        subst ev16
        exact pm_iret hG hF dX11_seat_65 rfl (Nat.le_refl _) (Nat.le_refl _) ⟨_, rfl, (vSe1_b (T := kp.2) (p := ε 6) (x := za) (has_1 o1 c2) (Or.inr c4)).1, by rw [(vSe1_b (T := kp.2) (p := ε 6) (x := za) (has_1 o1 c2) (Or.inr c4)).2]; exact ⟨_, _, rfl, rfl, h16⟩⟩
  · refine pm_aloadn hG dX11_seat_14 rfl ?_
    refine pm_ldc hG dX11_seat_15 (ctX11_109 _ rfl) ?_
    refine pm_callV (As := [.int (-1000001)]) (rest := []) hG hR dX11_seat_17 (lkX11_97 _ rfl) okV_X11_told rfl rfl (sx_told (d := 1) (by decide) rfl rfl) rfl rfl hdd (Nat.le_refl _) (Nat.le_refl _) (by decide) (pm_ki (fun v17 σ' cnt' hq => ?_))
    obtain ⟨ev17, ⟨g17, hg17⟩, hc17⟩ := hq
    obtain ⟨I17, A17, rfl, rfl, h17⟩ := hv_a53 (kp := kp) (I := I1) (A := A1) h1 ⟨hg17, hc17⟩
    subst ev17
    exact pm_iret hG hF dX11_seat_20 rfl (Nat.le_refl _) (Nat.le_refl _) ⟨_, rfl, (vSe1_a (T := kp.2) (p := ε 6) (x := za) (has_0 o1 c2)).1, by rw [(vSe1_a (T := kp.2) (p := ε 6) (x := za) (has_0 o1 c2)).2]; exact ⟨_, _, rfl, rfl, h17⟩⟩

theorem g_seat1E {ε : Nat → Int32} {d B cnt : Nat} {kp : pm_KP} {ρ : pm_S} {I : Nat → Int32} {A : Nat → Nat → Int32} {za : Int32} (hdd : 2 ≤ d) (h : gq ε I) : pm_met mX11_seat d 0 0 B [.ref (B + 0), .int za, .int 1] cnt (pm_two (cl_L B kp I A) ρ) (pm_Qi (fun v σ' cnt' => v = vSe1 kp.2 (ε 6) za ∧ hvq ε B (kp.1, tSe1 kp.2 (ε 6) za) ρ cnt σ' cnt')) := by
  obtain ⟨u, hu, e⟩ := h.used 6 20 (by decide)
  exact g_seat1E1 (by omega) ((h.2 6 (by decide)).symm.trans e) hu h

set_option maxRecDepth 100000 in
set_option maxHeartbeats 4000000 in
theorem g_seat0E1 {ε : Nat → Int32} {d B cnt : Nat} {kp : pm_KP} {ρ : pm_S} {I : Nat → Int32} {A : Nat → Nat → Int32} (hdd : 4 ≤ d) {za : Int32} {u : Nat} (hu : ε 6 = nI u) (hu2 : u ≤ 20) (h : gq ε I) : pm_met mX11_seat d 0 0 B [.ref (B + 0), .int za, .int 0] cnt (pm_two (cl_L B kp I A) ρ) (pm_Qi (fun v σ' cnt' => v = vSe0 kp.2 (ε 6) za ∧ hvq ε B (kp.1, tSe0 kp.2 (ε 6) za) ρ cnt σ' cnt')) := by
  refine pm_enter 1 (by decide) (Nat.le_of_ble_eq_true rfl) rfl (fun G hG hR hF => ?_)
  refine pm_aloadn hG dX11_seat_0 rfl ?_
  refine pm_getf hG dX11_seat_1 (flX11_12 _ rfl) rfl rfl ?_
  refine pm_getf hG dX11_seat_4 (flX11_128 _ rfl) rfl rfl ?_
  refine pm_iloadn hG dX11_seat_7 rfl ?_
  refine pm_callV (As := [.int za]) (rest := []) hG hR dX11_seat_8 (lkX11_101 _ rfl) okV_X9_has rfl rfl (tb_has (d := 3) rfl) rfl rfl hdd (Nat.le_refl _) (Nat.le_refl _) (by decide) (pm_ki (fun v1 σ' cnt' hq => ?_))
  have o1 : v1 = (if za < 0 ∨ ε 6 ≤ za then 0 else 1) := by rw [← h.2 6 (by decide)]; exact hq.1
  have b1 := pm_b01 hq.1
  obtain ⟨I1, A1, rfl, rfl, h1⟩ := hv_id (kp := kp) (I := I) (A := A) h hq.2
  refine pm_if_ne (tgt := 21) hG dX11_seat_11 rfl (fun c2 => ?_) (fun c2 => ?_)
  · refine pm_aloadn hG dX11_seat_21 rfl ?_
    refine pm_getf hG dX11_seat_22 (flX11_12 _ rfl) rfl rfl ?_
    refine pm_getf hG dX11_seat_25 (flX11_128 _ rfl) rfl rfl ?_
    refine pm_iloadn hG dX11_seat_28 rfl ?_
    refine pm_bipush (v := 13) hG dX11_seat_29 (by decide) ?_
    refine pm_callV (As := [.int za, .int 13]) (rest := []) hG hR dX11_seat_31 (lkX11_152 _ rfl) okV_X9_get rfl rfl (tb_get (d := 3) (rows := nI 20) (width := nI 14) (f := cmx kp.2 (A1 7)) rfl rfl (pm_tw_of 20 14 (by decide) (by decide) (by decide))) rfl rfl hdd (Nat.le_refl _) (Nat.le_refl _) (by decide) (pm_ki (fun v3 σ' cnt' hq => ?_))
    obtain rfl : v3 = kp.2 (14 * za.toNatClampNeg + 13) := hq.1.trans (tg7 13 (by decide) (has_1 o1 c2) hu hu2)
    obtain ⟨I3, A3, rfl, rfl, h3⟩ := hv_id (kp := kp) (I := I1) (A := A1) h1 hq.2
    refine pm_if_eq (tgt := 41) hG dX11_seat_34 rfl (fun c4 => ?_) (fun c4 => ?_)
    · refine pm_iconst (v := 0) hG dX11_seat_41 (by decide) ?_
      refine pm_istoreXn (loc' := [some (.ref (B + 0)), some (.int za), some (.int 0), some (.int 0)]) hG dX11_seat_42 (by decide) (pm_c1b rfl) rfl ?_
      refine pm_aloadn hG dX11_seat_43 rfl ?_
      refine pm_getf hG dX11_seat_44 (flX11_12 _ rfl) rfl rfl ?_
      refine pm_iloadn hG dX11_seat_47 rfl ?_
      refine pm_callV (As := [.int za]) (rest := []) hG hR dX11_seat_48 (lkX11_135 _ rfl) okV_X7_isLiving rfl rfl (g_isLivingE (d := 3) (by decide) hu hu2 h3) rfl rfl hdd (Nat.le_refl _) (Nat.le_refl _) (by decide) (pm_ki (fun v5 σ' cnt' hq => ?_))
      obtain ⟨o5, I5, A5, rfl, rfl, h5⟩ := hq
      have b5 := pm_b10 o5
      refine pm_if_eq (tgt := 59) hG dX11_seat_51 rfl (fun c6 => ?_) (fun c6 => ?_)
      · refine pm_aloadn hG dX11_seat_59 rfl ?_
        refine pm_ldc hG dX11_seat_60 (ctX11_138 _ rfl) ?_
        refine pm_callV (As := [.int (-1000003)]) (rest := []) hG hR dX11_seat_62 (lkX11_97 _ rfl) okV_X11_told rfl rfl (sx_told (d := 3) (by decide) rfl rfl) rfl rfl hdd (Nat.le_refl _) (Nat.le_refl _) (by decide) (pm_ki (fun v7 σ' cnt' hq => ?_))
        obtain ⟨ev7, ⟨g7, hg7⟩, hc7⟩ := hq
        obtain ⟨I7, A7, rfl, rfl, h7⟩ := hv_a53 (kp := kp) (I := I5) (A := A5) h5 ⟨hg7, hc7⟩
        subst ev7
        exact pm_iret hG hF dX11_seat_65 rfl (Nat.le_refl _) (Nat.le_refl _) ⟨_, rfl, (vSe0_b (T := kp.2) (p := ε 6) (x := za) (has_1 o1 c2) (Or.inl (fun q => if_0 o5 c6 ⟨has_1 o1 c2, q⟩))).1, by rw [(vSe0_b (T := kp.2) (p := ε 6) (x := za) (has_1 o1 c2) (Or.inl (fun q => if_0 o5 c6 ⟨has_1 o1 c2, q⟩))).2]; exact ⟨_, _, rfl, rfl, h7⟩⟩
      · refine pm_iloadn hG dX11_seat_54 rfl ?_
        refine pm_iloadn hG dX11_seat_55 rfl ?_
        refine pm_icmp_ne (tgt := 66) hG dX11_seat_56 rfl (fun q => absurd q (by decide)) (fun _ => ?_)
        refine pm_aloadn hG dX11_seat_59 rfl ?_
        refine pm_ldc hG dX11_seat_60 (ctX11_138 _ rfl) ?_
        refine pm_callV (As := [.int (-1000003)]) (rest := []) hG hR dX11_seat_62 (lkX11_97 _ rfl) okV_X11_told rfl rfl (sx_told (d := 3) (by decide) rfl rfl) rfl rfl hdd (Nat.le_refl _) (Nat.le_refl _) (by decide) (pm_ki (fun v8 σ' cnt' hq => ?_))
        obtain ⟨ev8, ⟨g8, hg8⟩, hc8⟩ := hq
        obtain ⟨I8, A8, rfl, rfl, h8⟩ := hv_a53 (kp := kp) (I := I5) (A := A5) h5 ⟨hg8, hc8⟩
        subst ev8
        exact pm_iret hG hF dX11_seat_65 rfl (Nat.le_refl _) (Nat.le_refl _) ⟨_, rfl, (vSe0_b (T := kp.2) (p := ε 6) (x := za) (has_1 o1 c2) (Or.inr c4)).1, by rw [(vSe0_b (T := kp.2) (p := ε 6) (x := za) (has_1 o1 c2) (Or.inr c4)).2]; exact ⟨_, _, rfl, rfl, h8⟩⟩
    · refine pm_iconst (v := 1) hG dX11_seat_37 (by decide) ?_
      refine pm_goto (tgt := 42) hG dX11_seat_38 rfl ?_
      refine pm_istoreXn (loc' := [some (.ref (B + 0)), some (.int za), some (.int 0), some (.int 1)]) hG dX11_seat_42 (by decide) (pm_c1b rfl) rfl ?_
      refine pm_aloadn hG dX11_seat_43 rfl ?_
      refine pm_getf hG dX11_seat_44 (flX11_12 _ rfl) rfl rfl ?_
      refine pm_iloadn hG dX11_seat_47 rfl ?_
      refine pm_callV (As := [.int za]) (rest := []) hG hR dX11_seat_48 (lkX11_135 _ rfl) okV_X7_isLiving rfl rfl (g_isLivingE (d := 3) (by decide) hu hu2 h3) rfl rfl hdd (Nat.le_refl _) (Nat.le_refl _) (by decide) (pm_ki (fun v9 σ' cnt' hq => ?_))
      obtain ⟨o9, I9, A9, rfl, rfl, h9⟩ := hq
      have b9 := pm_b10 o9
      refine pm_if_eq (tgt := 59) hG dX11_seat_51 rfl (fun c10 => ?_) (fun c10 => ?_)
      · refine pm_aloadn hG dX11_seat_59 rfl ?_
        refine pm_ldc hG dX11_seat_60 (ctX11_138 _ rfl) ?_
        refine pm_callV (As := [.int (-1000003)]) (rest := []) hG hR dX11_seat_62 (lkX11_97 _ rfl) okV_X11_told rfl rfl (sx_told (d := 3) (by decide) rfl rfl) rfl rfl hdd (Nat.le_refl _) (Nat.le_refl _) (by decide) (pm_ki (fun v11 σ' cnt' hq => ?_))
        obtain ⟨ev11, ⟨g11, hg11⟩, hc11⟩ := hq
        obtain ⟨I11, A11, rfl, rfl, h11⟩ := hv_a53 (kp := kp) (I := I9) (A := A9) h9 ⟨hg11, hc11⟩
        subst ev11
        exact pm_iret hG hF dX11_seat_65 rfl (Nat.le_refl _) (Nat.le_refl _) ⟨_, rfl, (vSe0_b (T := kp.2) (p := ε 6) (x := za) (has_1 o1 c2) (Or.inl (fun q => if_0 o9 c10 ⟨has_1 o1 c2, q⟩))).1, by rw [(vSe0_b (T := kp.2) (p := ε 6) (x := za) (has_1 o1 c2) (Or.inl (fun q => if_0 o9 c10 ⟨has_1 o1 c2, q⟩))).2]; exact ⟨_, _, rfl, rfl, h11⟩⟩
      · refine pm_iloadn hG dX11_seat_54 rfl ?_
        refine pm_iloadn hG dX11_seat_55 rfl ?_
        refine pm_icmp_ne (tgt := 66) hG dX11_seat_56 rfl (fun _ => ?_) (fun q => absurd q (by decide))
        refine pm_iloadn hG dX11_seat_66 rfl ?_
        refine pm_if_eq (tgt := 95) hG dX11_seat_67 rfl (fun _ => ?_) (fun q => absurd q (by decide))
        refine pm_iloadn hG dX11_seat_95 rfl ?_
        refine pm_if_eq (tgt := 116) hG dX11_seat_96 rfl (fun _ => ?_) (fun q => absurd q (by decide))
        refine pm_aloadn hG dX11_seat_116 rfl ?_
        refine pm_getf hG dX11_seat_117 (flX11_30 _ rfl) rfl rfl ?_
        refine pm_iloadn hG dX11_seat_120 rfl ?_
        refine pm_callV (As := [.int za]) (rest := []) hG hR dX11_seat_121 (lkX11_139 _ rfl) okV_X0_unseat rfl rfl (g_unseatE (d := 3) (by decide) hu hu2 (has_1 o1 c2) h9) rfl rfl hdd (Nat.le_refl _) (Nat.le_refl _) (by decide) (pm_kv (fun σ' cnt' hq => ?_))
        obtain ⟨I12, A12, rfl, rfl, h12⟩ := hq
        refine pm_genK (fun kp ek12 => ?_)
        refine pm_aloadn hG dX11_seat_124 rfl ?_
        refine pm_getf hG dX11_seat_125 (flX11_12 _ rfl) rfl rfl ?_
        refine pm_getf hG dX11_seat_128 (flX11_128 _ rfl) rfl rfl ?_
        refine pm_bipush (v := 13) hG dX11_seat_131 (by decide) ?_
        refine pm_iconst (v := 1) hG dX11_seat_133 (by decide) ?_
        have hu13 : I12 6 = nI u := (h12.2 6 (by decide)).trans hu
        have ht13 : pm_two (cl_L B kp I12 A12) ρ 6 = some (.inr (9, [.int (nI 20), .int (nI 14), .ref (B + 7), .int (nI u)])) := by rw [← hu13]; rfl
        refine pm_callV (As := [.int 13, .int 1]) (rest := []) hG hR dX11_seat_134 (lkX11_164 _ rfl) okV_X9_rowsWith rfl rfl (tb_rowsWith (d := 3) (k := 13) (f := cmx kp.2 (A12 7)) ht13 rfl (by decide) (by decide) (by decide) hu2 (by omega) (by decide)) rfl rfl hdd (Nat.le_refl _) (Nat.le_refl _) (by decide) (pm_ki (fun v13 σ' cnt' hq => ?_))
        obtain rfl : v13 = nI (cS kp.2 (ε 6)) := hq.1.trans (by rw [cS_cmx hu hu2])
        obtain ⟨I13, A13, rfl, rfl, h13⟩ := hv_id (kp := kp) (I := I12) (A := A12) h12 hq.2
        subst ek12
        exact pm_iret hG hF dX11_seat_137 rfl (Nat.le_refl _) (Nat.le_refl _) ⟨_, rfl, (vSe0_d (T := kp.2) (p := ε 6) (x := za) (has_1 o1 c2) (fun q => q.elim (fun q => q (not_not_lv (if_1 o9 c10)).2) (fun q => c4 q))).1, by rw [(vSe0_d (T := kp.2) (p := ε 6) (x := za) (has_1 o1 c2) (fun q => q.elim (fun q => q (not_not_lv (if_1 o9 c10)).2) (fun q => c4 q))).2]; exact ⟨_, _, rfl, rfl, h13⟩⟩
  · refine pm_aloadn hG dX11_seat_14 rfl ?_
    refine pm_ldc hG dX11_seat_15 (ctX11_109 _ rfl) ?_
    refine pm_callV (As := [.int (-1000001)]) (rest := []) hG hR dX11_seat_17 (lkX11_97 _ rfl) okV_X11_told rfl rfl (sx_told (d := 3) (by decide) rfl rfl) rfl rfl hdd (Nat.le_refl _) (Nat.le_refl _) (by decide) (pm_ki (fun v14 σ' cnt' hq => ?_))
    obtain ⟨ev14, ⟨g14, hg14⟩, hc14⟩ := hq
    obtain ⟨I14, A14, rfl, rfl, h14⟩ := hv_a53 (kp := kp) (I := I1) (A := A1) h1 ⟨hg14, hc14⟩
    subst ev14
    exact pm_iret hG hF dX11_seat_20 rfl (Nat.le_refl _) (Nat.le_refl _) ⟨_, rfl, (vSe0_a (T := kp.2) (p := ε 6) (x := za) (has_0 o1 c2)).1, by rw [(vSe0_a (T := kp.2) (p := ε 6) (x := za) (has_0 o1 c2)).2]; exact ⟨_, _, rfl, rfl, h14⟩⟩

theorem g_seat0E {ε : Nat → Int32} {d B cnt : Nat} {kp : pm_KP} {ρ : pm_S} {I : Nat → Int32} {A : Nat → Nat → Int32} {za : Int32} (hdd : 4 ≤ d) (h : gq ε I) : pm_met mX11_seat d 0 0 B [.ref (B + 0), .int za, .int 0] cnt (pm_two (cl_L B kp I A) ρ) (pm_Qi (fun v σ' cnt' => v = vSe0 kp.2 (ε 6) za ∧ hvq ε B (kp.1, tSe0 kp.2 (ε 6) za) ρ cnt σ' cnt')) := by
  obtain ⟨u, hu, e⟩ := h.used 6 20 (by decide)
  exact g_seat0E1 (by omega) ((h.2 6 (by decide)).symm.trans e) hu h

/-! ===== promise ===== -/
def vK (T : Nat → Int32) (d p m a b c : Int32) : Int32 := if (a < 0 ∨ p ≤ a) ∨ (b < 0 ∨ 5 < b) ∨ (c < d ∨ 2000 < c) then -1000001 else if T (14 * a.toNatClampNeg + 13) = 0 then -1000003 else if m = nI 30 then -1000004 else m
def tK (T : Nat → Int32) (d p m a b c : Int32) : Int32 := if (a < 0 ∨ p ≤ a) ∨ (b < 0 ∨ 5 < b) ∨ (c < d ∨ 2000 < c) then m else if T (14 * a.toNatClampNeg + 13) = 0 then m else if m = nI 30 then m else m + 1
theorem vK_a {T : Nat → Int32} {d p m a b c : Int32} (h : (a < 0 ∨ p ≤ a) ∨ (b < 0 ∨ 5 < b) ∨ (c < d ∨ 2000 < c)) : -1000001 = vK T d p m a b c ∧ m = tK T d p m a b c := by
  unfold vK tK; rw [if_pos h, if_pos h]; exact ⟨rfl, rfl⟩
theorem vK_b {T : Nat → Int32} {d p m a b c : Int32} (h : ¬ ((a < 0 ∨ p ≤ a) ∨ (b < 0 ∨ 5 < b) ∨ (c < d ∨ 2000 < c))) (h1 : T (14 * a.toNatClampNeg + 13) = 0) : -1000003 = vK T d p m a b c ∧ m = tK T d p m a b c := by
  unfold vK tK; rw [if_neg h, if_neg h, if_pos h1, if_pos h1]; exact ⟨rfl, rfl⟩
theorem vK_c {T : Nat → Int32} {d p m a b c : Int32} (h : ¬ ((a < 0 ∨ p ≤ a) ∨ (b < 0 ∨ 5 < b) ∨ (c < d ∨ 2000 < c))) (h1 : ¬ T (14 * a.toNatClampNeg + 13) = 0) (h2 : m = nI 30) : -1000004 = vK T d p m a b c ∧ m = tK T d p m a b c := by
  unfold vK tK; rw [if_neg h, if_neg h, if_neg h1, if_neg h1, if_pos h2, if_pos h2]; exact ⟨rfl, rfl⟩
theorem vK_d {T : Nat → Int32} {d p m a b c : Int32} {u : Nat} (h : ¬ ((a < 0 ∨ p ≤ a) ∨ (b < 0 ∨ 5 < b) ∨ (c < d ∨ 2000 < c))) (h1 : ¬ T (14 * a.toNatClampNeg + 13) = 0) (hm : m = nI u) (h2 : u < 30) : nI u = vK T d p m a b c ∧ nI (u + 1) = tK T d p m a b c := by
  have h3 : ¬ m = nI 30 := fun q => by have := (nI_eq (by omega) (by decide)).mp (hm.symm.trans q); omega
  unfold vK tK; rw [if_neg h, if_neg h, if_neg h1, if_neg h1, if_neg h3, if_neg h3, hm]; exact ⟨rfl, (nI_1 u).symm⟩
theorem not3 {p q r : Prop} (h1 : ¬ p) (h2 : ¬ q) (h3 : ¬ r) : ¬ (p ∨ q ∨ r) := by
  rintro (h | h | h)
  · exact h1 h
  · exact h2 h
  · exact h3 h

theorem hq_p18 {ε : Nat → Int32} {B cnt cnt' : Nat} {kp : pm_KP} {ρ σ' : pm_S} {I : Nat → Int32} {A : Nat → Nat → Int32} {u : Nat} {f : Nat → Int32} (hlt : u < 30) (h : gq ε I) (hq : σ' = pm_up (pm_up (pm_two (cl_L B kp I A) ρ) 18 (.inr (9, [.int (nI 30), .int (nI 5), .ref (B + 19), .int (nI (u + 1))]))) 19 (.inl (150, f)) ∧ cnt' = cnt) : hvq (ui ε 18 (nI (u + 1))) B kp ρ cnt σ' cnt' := by
  refine ⟨ui I 18 (nI (u + 1)), ua A 19 f, ?_, hq.2.symm, gq.app 30 (u + 1) rfl hlt h⟩
  rw [hq.1, pm_two_up (by decide) (Nat.le_of_ble_eq_true rfl), pm_two_up (by decide) (Nat.le_of_ble_eq_true rfl)]; rfl

set_option maxRecDepth 100000 in
set_option maxHeartbeats 4000000 in
theorem g_addPromiseE {ε : Nat → Int32} {d B cnt : Nat} {kp : pm_KP} {ρ : pm_S} {I : Nat → Int32} {A : Nat → Nat → Int32} (hdd : 2 ≤ d) {za zb zc zd : Int32} {w : Nat} (hw : ε 18 = nI w) (hlt : w < 30) (h : gq ε I) : pm_met mX0_addPromise d 0 0 B [.ref (B + 31), .int za, .int zb, .int zc, .int zd] cnt (pm_two (cl_L B kp I A) ρ) (pm_Qi (fun v σ' cnt' => v = nI w ∧ hvq (ui ε 18 (nI (w + 1))) B kp ρ cnt σ' cnt')) := by
  refine pm_enter 2 (by decide) (Nat.le_of_ble_eq_true rfl) rfl (fun G hG hR hF => ?_)
  refine pm_aloadn hG dX0_addPromise_0 rfl ?_
  refine pm_getf hG dX0_addPromise_1 (flX0_25 _ rfl) rfl rfl ?_
  refine pm_callV (As := []) (rest := []) hG hR dX0_addPromise_4 (lkX0_47 _ rfl) okV_X9_used rfl rfl (tb_used (d := 1) rfl) rfl rfl hdd (Nat.le_refl _) (Nat.le_refl _) (by decide) (pm_ki (fun v1 σ' cnt' hq => ?_))
  obtain ⟨I1, A1, rfl, rfl, h1⟩ := hv_id (kp := kp) (I := I) (A := A) h hq.2
  refine pm_istoreXi (loc' := [some (.ref (B + 31)), some (.int za), some (.int zb), some (.int zc), some (.int zd), some (.int v1), none]) hG dX0_addPromise_7 (by decide) (pm_c1b rfl) rfl ?_
  refine pm_iconst (v := 0) hG dX0_addPromise_9 (by decide) ?_
  refine pm_istoreXi (loc' := [some (.ref (B + 31)), some (.int za), some (.int zb), some (.int zc), some (.int zd), some (.int v1), some (.int 0)]) hG dX0_addPromise_10 (by decide) (pm_c1b rfl) rfl ?_
  have loop12 : ∀ (m12 : Nat) (I2 : Nat → Int32) (A2 : Nat → Nat → Int32) (x2_6 : Int32), gq ε I2 → (¬ x2_6 < 0) → ((v1 : Int32).toInt - x2_6.toInt).toNat < m12 → pm_wp mX0_addPromise G B 12 [some (.ref (B + 31)), some (.int za), some (.int zb), some (.int zc), some (.int zd), some (.int v1), some (.int x2_6)] [] 0 0 cnt (pm_two (cl_L B kp I2 A2) ρ) := by
    intro m12
    induction m12 with
    | zero => intro I2 A2 x2_6 _  _ hm; exact absurd hm (Nat.not_lt_zero _)
    | succ m12 ih12 =>
      intro I2 A2 x2_6 h2 s12 hm12
      refine pm_iloadi hG dX0_addPromise_12 rfl ?_
      refine pm_iloadi hG dX0_addPromise_14 rfl ?_
      refine pm_icmp_ge (tgt := 73) hG dX0_addPromise_16 rfl (fun c3 => ?_) (fun c3 => ?_)
      · refine pm_aloadn hG dX0_addPromise_73 rfl ?_
        refine pm_getf hG dX0_addPromise_74 (flX0_25 _ rfl) rfl rfl ?_
        refine pm_iloadn hG dX0_addPromise_77 rfl ?_
        have hu4 : I2 18 = nI w := (h2.2 18 (by decide)).trans hw
        have ht4 : pm_two (cl_L B kp I2 A2) ρ 18 = some (.inr (9, [.int (nI 30), .int (nI 5), .ref (B + 19), .int (nI w)])) := by rw [← hu4]; rfl
        refine pm_callV (As := [.int za]) (rest := []) hG hR dX0_addPromise_78 (lkX0_59 _ rfl) okV_X9_append rfl rfl (tb_append (d := 1) (by decide) ht4 rfl (by decide) (by decide) (by decide) (by decide) (by decide) (by decide) (by omega)) rfl rfl hdd (Nat.le_refl _) (Nat.le_refl _) (by decide) (pm_ki (fun v4 σ' cnt' hq => ?_))
        obtain ⟨hq, ec4⟩ := hq
        rcases hq with ⟨q4, -, -⟩ | ⟨-, rfl, es4⟩
        · exact absurd q4 (by omega)
        obtain ⟨I4, A4, rfl, rfl, h4⟩ := hq_p18 (kp := kp) (I := I2) (A := A2) hlt h2 ⟨es4, ec4⟩
        refine pm_istoreXi (loc' := [some (.ref (B + 31)), some (.int za), some (.int zb), some (.int zc), some (.int zd), some (.int v1), some (.int (nI w))]) hG dX0_addPromise_81 (by decide) (pm_c1b rfl) rfl ?_
        refine pm_aloadn hG dX0_addPromise_83 rfl ?_
        refine pm_getf hG dX0_addPromise_84 (flX0_25 _ rfl) rfl rfl ?_
        refine pm_iloadi hG dX0_addPromise_87 rfl ?_
        refine pm_iconst (v := 1) hG dX0_addPromise_89 (by decide) ?_
        refine pm_iloadn hG dX0_addPromise_90 rfl ?_
        refine pm_callV (As := [.int (nI w), .int 1, .int zb]) (rest := []) hG hR dX0_addPromise_91 (lkX0_55 _ rfl) okV_X9_set rfl rfl (tb_set (d := 1) rfl rfl (pm_tw_of 30 5 (by decide) (by decide) (by decide)) (by decide)) rfl rfl hdd (Nat.le_refl _) (Nat.le_refl _) (by decide) (pm_kv (fun σ' cnt' hq => ?_))
        obtain ⟨I5, A5, rfl, rfl, h5⟩ := hv_a19 (kp := kp) (I := I4) (A := A4) h4 hq
        refine pm_aloadn hG dX0_addPromise_94 rfl ?_
        refine pm_getf hG dX0_addPromise_95 (flX0_25 _ rfl) rfl rfl ?_
        refine pm_iloadi hG dX0_addPromise_98 rfl ?_
        refine pm_iconst (v := 2) hG dX0_addPromise_100 (by decide) ?_
        refine pm_iloadn hG dX0_addPromise_101 rfl ?_
        refine pm_callV (As := [.int (nI w), .int 2, .int zc]) (rest := []) hG hR dX0_addPromise_102 (lkX0_55 _ rfl) okV_X9_set rfl rfl (tb_set (d := 1) rfl rfl (pm_tw_of 30 5 (by decide) (by decide) (by decide)) (by decide)) rfl rfl hdd (Nat.le_refl _) (Nat.le_refl _) (by decide) (pm_kv (fun σ' cnt' hq => ?_))
        obtain ⟨I6, A6, rfl, rfl, h6⟩ := hv_a19 (kp := kp) (I := I5) (A := A5) h5 hq
        refine pm_aloadn hG dX0_addPromise_105 rfl ?_
        refine pm_getf hG dX0_addPromise_106 (flX0_25 _ rfl) rfl rfl ?_
        refine pm_iloadi hG dX0_addPromise_109 rfl ?_
        refine pm_iconst (v := 3) hG dX0_addPromise_111 (by decide) ?_
        refine pm_iloadi hG dX0_addPromise_112 rfl ?_
        refine pm_if_eq (tgt := 121) hG dX0_addPromise_114 rfl (fun c7 => ?_) (fun c7 => ?_)
        · refine pm_iconst (v := 0) hG dX0_addPromise_121 (by decide) ?_
          refine pm_callV (As := [.int (nI w), .int 3, .int 0]) (rest := []) hG hR dX0_addPromise_122 (lkX0_55 _ rfl) okV_X9_set rfl rfl (tb_set (d := 1) rfl rfl (pm_tw_of 30 5 (by decide) (by decide) (by decide)) (by decide)) rfl rfl hdd (Nat.le_refl _) (Nat.le_refl _) (by decide) (pm_kv (fun σ' cnt' hq => ?_))
          obtain ⟨I8, A8, rfl, rfl, h8⟩ := hv_a19 (kp := kp) (I := I6) (A := A6) h6 hq
          refine pm_aloadn hG dX0_addPromise_125 rfl ?_
          refine pm_getf hG dX0_addPromise_126 (flX0_25 _ rfl) rfl rfl ?_
          refine pm_iloadi hG dX0_addPromise_129 rfl ?_
          refine pm_iconst (v := 4) hG dX0_addPromise_131 (by decide) ?_
          refine pm_iconst (v := 0) hG dX0_addPromise_132 (by decide) ?_
          refine pm_callV (As := [.int (nI w), .int 4, .int 0]) (rest := []) hG hR dX0_addPromise_133 (lkX0_55 _ rfl) okV_X9_set rfl rfl (tb_set (d := 1) rfl rfl (pm_tw_of 30 5 (by decide) (by decide) (by decide)) (by decide)) rfl rfl hdd (Nat.le_refl _) (Nat.le_refl _) (by decide) (pm_kv (fun σ' cnt' hq => ?_))
          obtain ⟨I9, A9, rfl, rfl, h9⟩ := hv_a19 (kp := kp) (I := I8) (A := A8) h8 hq
          refine pm_iloadi hG dX0_addPromise_136 rfl ?_
          exact pm_iret hG hF dX0_addPromise_138 rfl (Nat.le_refl _) (Nat.le_refl _) ⟨_, rfl, rfl, _, _, rfl, rfl, h9⟩
        · refine pm_iconst (v := 1) hG dX0_addPromise_117 (by decide) ?_
          refine pm_goto (tgt := 122) hG dX0_addPromise_118 rfl ?_
          refine pm_callV (As := [.int (nI w), .int 3, .int 1]) (rest := []) hG hR dX0_addPromise_122 (lkX0_55 _ rfl) okV_X9_set rfl rfl (tb_set (d := 1) rfl rfl (pm_tw_of 30 5 (by decide) (by decide) (by decide)) (by decide)) rfl rfl hdd (Nat.le_refl _) (Nat.le_refl _) (by decide) (pm_kv (fun σ' cnt' hq => ?_))
          obtain ⟨I10, A10, rfl, rfl, h10⟩ := hv_a19 (kp := kp) (I := I6) (A := A6) h6 hq
          refine pm_aloadn hG dX0_addPromise_125 rfl ?_
          refine pm_getf hG dX0_addPromise_126 (flX0_25 _ rfl) rfl rfl ?_
          refine pm_iloadi hG dX0_addPromise_129 rfl ?_
          refine pm_iconst (v := 4) hG dX0_addPromise_131 (by decide) ?_
          refine pm_iconst (v := 0) hG dX0_addPromise_132 (by decide) ?_
          refine pm_callV (As := [.int (nI w), .int 4, .int 0]) (rest := []) hG hR dX0_addPromise_133 (lkX0_55 _ rfl) okV_X9_set rfl rfl (tb_set (d := 1) rfl rfl (pm_tw_of 30 5 (by decide) (by decide) (by decide)) (by decide)) rfl rfl hdd (Nat.le_refl _) (Nat.le_refl _) (by decide) (pm_kv (fun σ' cnt' hq => ?_))
          obtain ⟨I11, A11, rfl, rfl, h11⟩ := hv_a19 (kp := kp) (I := I10) (A := A10) h10 hq
          refine pm_iloadi hG dX0_addPromise_136 rfl ?_
          exact pm_iret hG hF dX0_addPromise_138 rfl (Nat.le_refl _) (Nat.le_refl _) ⟨_, rfl, rfl, _, _, rfl, rfl, h11⟩
      · refine pm_aloadn hG dX0_addPromise_19 rfl ?_
        refine pm_iloadi hG dX0_addPromise_20 rfl ?_
        refine pm_callV (As := [.int x2_6]) (rest := []) hG hR dX0_addPromise_22 (lkX0_51 _ rfl) okV_X0_stands rfl rfl (g_X0_stands (d := 1) (by decide) h2) rfl rfl hdd (Nat.le_refl _) (Nat.le_refl _) (by decide) (pm_ki (fun v12 σ' cnt' hq => ?_))
        obtain ⟨b12, I12, A12, rfl, rfl, h12⟩ := hq
        refine pm_if_eq (tgt := 67) hG dX0_addPromise_25 rfl (fun c13 => ?_) (fun c13 => ?_)
        · refine pm_iincX (v := x2_6 + 1) (loc' := [some (.ref (B + 31)), some (.int za), some (.int zb), some (.int zc), some (.int zd), some (.int v1), some (.int (x2_6 + 1))]) hG dX0_addPromise_67 rfl (by rfl) (by decide) (pm_c1b rfl) rfl ?_
          refine pm_goto (tgt := 12) hG dX0_addPromise_70 rfl ?_
          exact ih12 _ _ (x2_6 + 1) h12 (pm_sd1 c3 s12) (Nat.lt_of_lt_of_le (pm_mu1 c3) (Nat.le_of_lt_succ hm12))
        · refine pm_aloadn hG dX0_addPromise_28 rfl ?_
          refine pm_getf hG dX0_addPromise_29 (flX0_25 _ rfl) rfl rfl ?_
          refine pm_iloadi hG dX0_addPromise_32 rfl ?_
          refine pm_iconst (v := 0) hG dX0_addPromise_34 (by decide) ?_
          refine pm_callV (As := [.int x2_6, .int 0]) (rest := []) hG hR dX0_addPromise_35 (lkX0_39 _ rfl) okV_X9_get rfl rfl (tb_get (d := 1) rfl rfl (pm_tw_of 30 5 (by decide) (by decide) (by decide))) rfl rfl hdd (Nat.le_refl _) (Nat.le_refl _) (by decide) (pm_ki (fun v14 σ' cnt' hq => ?_))
          obtain ⟨I14, A14, rfl, rfl, h14⟩ := hv_id (kp := kp) (I := I12) (A := A12) h12 hq.2
          refine pm_iloadn hG dX0_addPromise_38 rfl ?_
          refine pm_icmp_ne (tgt := 67) hG dX0_addPromise_39 rfl (fun c15 => ?_) (fun c15 => ?_)
          · refine pm_iincX (v := x2_6 + 1) (loc' := [some (.ref (B + 31)), some (.int za), some (.int zb), some (.int zc), some (.int zd), some (.int v1), some (.int (x2_6 + 1))]) hG dX0_addPromise_67 rfl (by rfl) (by decide) (pm_c1b rfl) rfl ?_
            refine pm_goto (tgt := 12) hG dX0_addPromise_70 rfl ?_
            exact ih12 _ _ (x2_6 + 1) h14 (pm_sd1 c3 s12) (Nat.lt_of_lt_of_le (pm_mu1 c3) (Nat.le_of_lt_succ hm12))
          · refine pm_aloadn hG dX0_addPromise_42 rfl ?_
            refine pm_getf hG dX0_addPromise_43 (flX0_25 _ rfl) rfl rfl ?_
            refine pm_iloadi hG dX0_addPromise_46 rfl ?_
            refine pm_iconst (v := 1) hG dX0_addPromise_48 (by decide) ?_
            refine pm_callV (As := [.int x2_6, .int 1]) (rest := []) hG hR dX0_addPromise_49 (lkX0_39 _ rfl) okV_X9_get rfl rfl (tb_get (d := 1) rfl rfl (pm_tw_of 30 5 (by decide) (by decide) (by decide))) rfl rfl hdd (Nat.le_refl _) (Nat.le_refl _) (by decide) (pm_ki (fun v16 σ' cnt' hq => ?_))
            obtain ⟨I16, A16, rfl, rfl, h16⟩ := hv_id (kp := kp) (I := I14) (A := A14) h14 hq.2
            refine pm_iloadn hG dX0_addPromise_52 rfl ?_
            refine pm_icmp_ne (tgt := 67) hG dX0_addPromise_53 rfl (fun c17 => ?_) (fun c17 => ?_)
            · refine pm_iincX (v := x2_6 + 1) (loc' := [some (.ref (B + 31)), some (.int za), some (.int zb), some (.int zc), some (.int zd), some (.int v1), some (.int (x2_6 + 1))]) hG dX0_addPromise_67 rfl (by rfl) (by decide) (pm_c1b rfl) rfl ?_
              refine pm_goto (tgt := 12) hG dX0_addPromise_70 rfl ?_
              exact ih12 _ _ (x2_6 + 1) h16 (pm_sd1 c3 s12) (Nat.lt_of_lt_of_le (pm_mu1 c3) (Nat.le_of_lt_succ hm12))
            · refine pm_aloadn hG dX0_addPromise_56 rfl ?_
              refine pm_getf hG dX0_addPromise_57 (flX0_25 _ rfl) rfl rfl ?_
              refine pm_iloadi hG dX0_addPromise_60 rfl ?_
              refine pm_iconst (v := 4) hG dX0_addPromise_62 (by decide) ?_
              refine pm_iconst (v := 1) hG dX0_addPromise_63 (by decide) ?_
              refine pm_callV (As := [.int x2_6, .int 4, .int 1]) (rest := []) hG hR dX0_addPromise_64 (lkX0_55 _ rfl) okV_X9_set rfl rfl (tb_set (d := 1) rfl rfl (pm_tw_of 30 5 (by decide) (by decide) (by decide)) (by decide)) rfl rfl hdd (Nat.le_refl _) (Nat.le_refl _) (by decide) (pm_kv (fun σ' cnt' hq => ?_))
              obtain ⟨I18, A18, rfl, rfl, h18⟩ := hv_a19 (kp := kp) (I := I16) (A := A16) h16 hq
              refine pm_iincX (v := x2_6 + 1) (loc' := [some (.ref (B + 31)), some (.int za), some (.int zb), some (.int zc), some (.int zd), some (.int v1), some (.int (x2_6 + 1))]) hG dX0_addPromise_67 rfl (by rfl) (by decide) (pm_c1b rfl) rfl ?_
              refine pm_goto (tgt := 12) hG dX0_addPromise_70 rfl ?_
              exact ih12 _ _ (x2_6 + 1) h18 (pm_sd1 c3 s12) (Nat.lt_of_lt_of_le (pm_mu1 c3) (Nat.le_of_lt_succ hm12))
  exact loop12 _ _ _ 0 h1 (by decide) (Nat.lt_succ_self _)

set_option maxRecDepth 100000 in
set_option maxHeartbeats 4000000 in
theorem g_promiseE1 {ε : Nat → Int32} {d B cnt : Nat} {kp : pm_KP} {ρ : pm_S} {I : Nat → Int32} {A : Nat → Nat → Int32} (hdd : 3 ≤ d) {za zb zc zd : Int32} {u : Nat} (hu : ε 6 = nI u) (hu2 : u ≤ 20) {w : Nat} (hw : ε 18 = nI w) (hlt : w < 30) (h : gq ε I) : pm_met mX11_promise d 0 0 B [.ref (B + 0), .int za, .int zb, .int zc, .int zd] cnt (pm_two (cl_L B kp I A) ρ) (pm_Qi (fun v σ' cnt' => v = vK kp.2 (ε 102) (ε 6) (ε 18) za zb zc ∧ hvq (ui ε 18 (tK kp.2 (ε 102) (ε 6) (ε 18) za zb zc)) B kp ρ cnt σ' cnt')) := by
  refine pm_enter 0 (by decide) (Nat.le_of_ble_eq_true rfl) rfl (fun G hG hR hF => ?_)
  refine pm_aloadn hG dX11_promise_0 rfl ?_
  refine pm_getf hG dX11_promise_1 (flX11_12 _ rfl) rfl rfl ?_
  refine pm_getf hG dX11_promise_4 (flX11_128 _ rfl) rfl rfl ?_
  refine pm_iloadn hG dX11_promise_7 rfl ?_
  refine pm_callV (As := [.int za]) (rest := []) hG hR dX11_promise_8 (lkX11_101 _ rfl) okV_X9_has rfl rfl (tb_has (d := 2) rfl) rfl rfl hdd (Nat.le_refl _) (Nat.le_refl _) (by decide) (pm_ki (fun v1 σ' cnt' hq => ?_))
  have o1 : v1 = (if za < 0 ∨ ε 6 ≤ za then 0 else 1) := by rw [← h.2 6 (by decide)]; exact hq.1
  have b1 := pm_b01 hq.1
  obtain ⟨I1, A1, rfl, rfl, h1⟩ := hv_id (kp := kp) (I := I) (A := A) h hq.2
  refine pm_if_eq (tgt := 40) hG dX11_promise_11 rfl (fun c2 => ?_) (fun c2 => ?_)
  · refine pm_aloadn hG dX11_promise_40 rfl ?_
    refine pm_ldc hG dX11_promise_41 (ctX11_109 _ rfl) ?_
    refine pm_callV (As := [.int (-1000001)]) (rest := []) hG hR dX11_promise_43 (lkX11_97 _ rfl) okV_X11_told rfl rfl (sx_told (d := 2) (by decide) rfl rfl) rfl rfl hdd (Nat.le_refl _) (Nat.le_refl _) (by decide) (pm_ki (fun v3 σ' cnt' hq => ?_))
    obtain ⟨ev3, ⟨g3, hg3⟩, hc3⟩ := hq
    obtain ⟨I3, A3, rfl, rfl, h3⟩ := hv_a53 (kp := kp) (I := I1) (A := A1) h1 ⟨hg3, hc3⟩
    subst ev3
    exact pm_iret hG hF dX11_promise_46 rfl (Nat.le_refl _) (Nat.le_refl _) ⟨_, rfl, (vK_a (T := kp.2) (d := ε 102) (p := ε 6) (m := ε 18) (a := za) (b := zb) (c := zc) (Or.inl (has_0 o1 c2))).1, _, _, rfl, rfl, by rw [ui_self (vK_a (T := kp.2) (d := ε 102) (p := ε 6) (m := ε 18) (a := za) (b := zb) (c := zc) (Or.inl (has_0 o1 c2))).2.symm]; exact h3⟩
  · refine pm_iloadn hG dX11_promise_14 rfl ?_
    refine pm_iconst (v := 0) hG dX11_promise_15 (by decide) ?_
    refine pm_iconst (v := 5) hG dX11_promise_16 (by decide) ?_
    refine pm_callS (As := [.int zb, .int 0, .int 5]) (rest := []) hG hR dX11_promise_17 (lkX11_105 _ rfl) okS_X11_isOutside (sx_isOutside (d := 2)) rfl rfl hdd (Nat.le_refl _) (Nat.le_refl _) (by decide) (pm_ki (fun v4 σ' cnt' hq => ?_))
    have o4 := hq.1
    have b4 := pm_b10 hq.1
    obtain ⟨I4, A4, rfl, rfl, h4⟩ := hv_id (kp := kp) (I := I1) (A := A1) h1 hq.2
    refine pm_if_ne (tgt := 40) hG dX11_promise_20 rfl (fun c5 => ?_) (fun c5 => ?_)
    · refine pm_aloadn hG dX11_promise_40 rfl ?_
      refine pm_ldc hG dX11_promise_41 (ctX11_109 _ rfl) ?_
      refine pm_callV (As := [.int (-1000001)]) (rest := []) hG hR dX11_promise_43 (lkX11_97 _ rfl) okV_X11_told rfl rfl (sx_told (d := 2) (by decide) rfl rfl) rfl rfl hdd (Nat.le_refl _) (Nat.le_refl _) (by decide) (pm_ki (fun v6 σ' cnt' hq => ?_))
      obtain ⟨ev6, ⟨g6, hg6⟩, hc6⟩ := hq
      obtain ⟨I6, A6, rfl, rfl, h6⟩ := hv_a53 (kp := kp) (I := I4) (A := A4) h4 ⟨hg6, hc6⟩
      subst ev6
      exact pm_iret hG hF dX11_promise_46 rfl (Nat.le_refl _) (Nat.le_refl _) ⟨_, rfl, (vK_a (T := kp.2) (d := ε 102) (p := ε 6) (m := ε 18) (a := za) (b := zb) (c := zc) (Or.inr (Or.inl (out_1 o4 c5)))).1, _, _, rfl, rfl, by rw [ui_self (vK_a (T := kp.2) (d := ε 102) (p := ε 6) (m := ε 18) (a := za) (b := zb) (c := zc) (Or.inr (Or.inl (out_1 o4 c5)))).2.symm]; exact h6⟩
    · refine pm_iloadn hG dX11_promise_23 rfl ?_
      refine pm_aloadn hG dX11_promise_24 rfl ?_
      refine pm_getf hG dX11_promise_25 (flX11_12 _ rfl) rfl rfl ?_
      refine pm_getf hG dX11_promise_28 (flX11_122 _ rfl) rfl rfl ?_
      refine pm_sipush (v := 2000) hG dX11_promise_31 (by decide) ?_
      refine pm_callS (As := [.int zc, .int (I4 102), .int 2000]) (rest := []) hG hR dX11_promise_34 (lkX11_105 _ rfl) okS_X11_isOutside (sx_isOutside (d := 2)) rfl rfl hdd (Nat.le_refl _) (Nat.le_refl _) (by decide) (pm_ki (fun v7 σ' cnt' hq => ?_))
      have o7 : v7 = (if zc < ε 102 ∨ 2000 < zc then 1 else 0) := by rw [← h4.2 102 (by decide)]; exact hq.1
      have b7 := pm_b10 hq.1
      obtain ⟨I7, A7, rfl, rfl, h7⟩ := hv_id (kp := kp) (I := I4) (A := A4) h4 hq.2
      refine pm_if_eq (tgt := 47) hG dX11_promise_37 rfl (fun c8 => ?_) (fun c8 => ?_)
      · refine pm_aloadn hG dX11_promise_47 rfl ?_
        refine pm_getf hG dX11_promise_48 (flX11_12 _ rfl) rfl rfl ?_
        refine pm_getf hG dX11_promise_51 (flX11_128 _ rfl) rfl rfl ?_
        refine pm_iloadn hG dX11_promise_54 rfl ?_
        refine pm_bipush (v := 13) hG dX11_promise_55 (by decide) ?_
        refine pm_callV (As := [.int za, .int 13]) (rest := []) hG hR dX11_promise_57 (lkX11_152 _ rfl) okV_X9_get rfl rfl (tb_get (d := 2) (rows := nI 20) (width := nI 14) (f := cmx kp.2 (A7 7)) rfl rfl (pm_tw_of 20 14 (by decide) (by decide) (by decide))) rfl rfl hdd (Nat.le_refl _) (Nat.le_refl _) (by decide) (pm_ki (fun v9 σ' cnt' hq => ?_))
        obtain rfl : v9 = kp.2 (14 * za.toNatClampNeg + 13) := hq.1.trans (tg7 13 (by decide) (has_1 o1 c2) hu hu2)
        obtain ⟨I9, A9, rfl, rfl, h9⟩ := hv_id (kp := kp) (I := I7) (A := A7) h7 hq.2
        refine pm_if_ne (tgt := 70) hG dX11_promise_60 rfl (fun c10 => ?_) (fun c10 => ?_)
        · refine pm_aloadn hG dX11_promise_70 rfl ?_
          refine pm_aloadn hG dX11_promise_71 rfl ?_
          refine pm_getf hG dX11_promise_72 (flX11_12 _ rfl) rfl rfl ?_
          refine pm_getf hG dX11_promise_75 (flX11_277 _ rfl) rfl rfl ?_
          refine pm_callV (As := []) (rest := [.ref (B + 0)]) hG hR dX11_promise_78 (lkX11_86 _ rfl) okV_X9_isFull rfl rfl (tb_isFull (d := 2) rfl) rfl rfl hdd (Nat.le_refl _) (Nat.le_refl _) (by first | decide | exact Nat.le_of_ble_eq_true rfl) (pm_ki (fun v11 σ' cnt' hq => ?_))
          have hu11 : I9 18 = nI w := (h9.2 18 (by decide)).trans hw
          have ev11 : v11 = 0 := hq.1.trans (by rw [hu11]; exact if_pos (nI_lt hlt (by decide)))
          obtain ⟨I11, A11, rfl, rfl, h11⟩ := hv_id (kp := kp) (I := I9) (A := A9) h9 hq.2
          subst ev11
          refine pm_if_eq (tgt := 89) hG dX11_promise_81 rfl (fun _ => ?_) (fun q => absurd q (by decide))
          refine pm_aloadn hG dX11_promise_89 rfl ?_
          refine pm_getf hG dX11_promise_90 (flX11_30 _ rfl) rfl rfl ?_
          refine pm_iloadn hG dX11_promise_93 rfl ?_
          refine pm_iloadn hG dX11_promise_94 rfl ?_
          refine pm_iloadn hG dX11_promise_95 rfl ?_
          refine pm_iloadi hG dX11_promise_96 rfl ?_
          refine pm_callV (As := [.int za, .int zb, .int zc, .int zd]) (rest := [.ref (B + 0)]) hG hR dX11_promise_98 (lkX11_280 _ rfl) okV_X0_addPromise rfl rfl (g_addPromiseE (d := 2) (by decide) hw hlt h11) rfl rfl hdd (Nat.le_refl _) (Nat.le_refl _) (by first | decide | exact Nat.le_of_ble_eq_true rfl) (pm_ki (fun v12 σ' cnt' hq => ?_))
          obtain ⟨rfl, I12, A12, rfl, rfl, h12⟩ := hq
          refine pm_callV (As := [.int (nI w)]) (rest := []) hG hR dX11_promise_101 (lkX11_97 _ rfl) okV_X11_told rfl rfl (sx_told (d := 2) (by decide) rfl rfl) rfl rfl hdd (Nat.le_refl _) (Nat.le_refl _) (by decide) (pm_ki (fun v13 σ' cnt' hq => ?_))
          obtain ⟨ev13, ⟨g13, hg13⟩, hc13⟩ := hq
          obtain ⟨I13, A13, rfl, rfl, h13⟩ := hv_a53 (kp := kp) (I := I12) (A := A12) h12 ⟨hg13, hc13⟩
          subst ev13
          exact pm_iret hG hF dX11_promise_104 rfl (Nat.le_refl _) (Nat.le_refl _) ⟨_, rfl, (vK_d (T := kp.2) (d := ε 102) (p := ε 6) (m := ε 18) (a := za) (b := zb) (c := zc) (not3 (has_1 o1 c2) (out_0 o4 c5) (out_0 o7 c8)) c10 hw hlt).1, _, _, rfl, rfl, by rw [← (vK_d (T := kp.2) (d := ε 102) (p := ε 6) (m := ε 18) (a := za) (b := zb) (c := zc) (not3 (has_1 o1 c2) (out_0 o4 c5) (out_0 o7 c8)) c10 hw hlt).2]; exact h13⟩
        · refine pm_aloadn hG dX11_promise_63 rfl ?_
          refine pm_ldc hG dX11_promise_64 (ctX11_138 _ rfl) ?_
          refine pm_callV (As := [.int (-1000003)]) (rest := []) hG hR dX11_promise_66 (lkX11_97 _ rfl) okV_X11_told rfl rfl (sx_told (d := 2) (by decide) rfl rfl) rfl rfl hdd (Nat.le_refl _) (Nat.le_refl _) (by decide) (pm_ki (fun v14 σ' cnt' hq => ?_))
          obtain ⟨ev14, ⟨g14, hg14⟩, hc14⟩ := hq
          obtain ⟨I14, A14, rfl, rfl, h14⟩ := hv_a53 (kp := kp) (I := I9) (A := A9) h9 ⟨hg14, hc14⟩
          subst ev14
          exact pm_iret hG hF dX11_promise_69 rfl (Nat.le_refl _) (Nat.le_refl _) ⟨_, rfl, (vK_b (T := kp.2) (d := ε 102) (p := ε 6) (m := ε 18) (a := za) (b := zb) (c := zc) (not3 (has_1 o1 c2) (out_0 o4 c5) (out_0 o7 c8)) c10).1, _, _, rfl, rfl, by rw [ui_self (vK_b (T := kp.2) (d := ε 102) (p := ε 6) (m := ε 18) (a := za) (b := zb) (c := zc) (not3 (has_1 o1 c2) (out_0 o4 c5) (out_0 o7 c8)) c10).2.symm]; exact h14⟩
      · refine pm_aloadn hG dX11_promise_40 rfl ?_
        refine pm_ldc hG dX11_promise_41 (ctX11_109 _ rfl) ?_
        refine pm_callV (As := [.int (-1000001)]) (rest := []) hG hR dX11_promise_43 (lkX11_97 _ rfl) okV_X11_told rfl rfl (sx_told (d := 2) (by decide) rfl rfl) rfl rfl hdd (Nat.le_refl _) (Nat.le_refl _) (by decide) (pm_ki (fun v15 σ' cnt' hq => ?_))
        obtain ⟨ev15, ⟨g15, hg15⟩, hc15⟩ := hq
        obtain ⟨I15, A15, rfl, rfl, h15⟩ := hv_a53 (kp := kp) (I := I7) (A := A7) h7 ⟨hg15, hc15⟩
        subst ev15
        exact pm_iret hG hF dX11_promise_46 rfl (Nat.le_refl _) (Nat.le_refl _) ⟨_, rfl, (vK_a (T := kp.2) (d := ε 102) (p := ε 6) (m := ε 18) (a := za) (b := zb) (c := zc) (Or.inr (Or.inr (out_1 o7 c8)))).1, _, _, rfl, rfl, by rw [ui_self (vK_a (T := kp.2) (d := ε 102) (p := ε 6) (m := ε 18) (a := za) (b := zb) (c := zc) (Or.inr (Or.inr (out_1 o7 c8)))).2.symm]; exact h15⟩

set_option maxRecDepth 100000 in
set_option maxHeartbeats 4000000 in
theorem g_promiseE0 {ε : Nat → Int32} {d B cnt : Nat} {kp : pm_KP} {ρ : pm_S} {I : Nat → Int32} {A : Nat → Nat → Int32} (hdd : 1 ≤ d) {za zb zc zd : Int32} {u : Nat} (hu : ε 6 = nI u) (hu2 : u ≤ 20) (hw : ε 18 = nI 30) (h : gq ε I) : pm_met mX11_promise d 0 0 B [.ref (B + 0), .int za, .int zb, .int zc, .int zd] cnt (pm_two (cl_L B kp I A) ρ) (pm_Qi (fun v σ' cnt' => v = vK kp.2 (ε 102) (ε 6) (ε 18) za zb zc ∧ hvq (ui ε 18 (tK kp.2 (ε 102) (ε 6) (ε 18) za zb zc)) B kp ρ cnt σ' cnt')) := by
  refine pm_enter 0 (by decide) (Nat.le_of_ble_eq_true rfl) rfl (fun G hG hR hF => ?_)
  refine pm_aloadn hG dX11_promise_0 rfl ?_
  refine pm_getf hG dX11_promise_1 (flX11_12 _ rfl) rfl rfl ?_
  refine pm_getf hG dX11_promise_4 (flX11_128 _ rfl) rfl rfl ?_
  refine pm_iloadn hG dX11_promise_7 rfl ?_
  refine pm_callV (As := [.int za]) (rest := []) hG hR dX11_promise_8 (lkX11_101 _ rfl) okV_X9_has rfl rfl (tb_has (d := 0) rfl) rfl rfl hdd (Nat.le_refl _) (Nat.le_refl _) (by decide) (pm_ki (fun v1 σ' cnt' hq => ?_))
  have o1 : v1 = (if za < 0 ∨ ε 6 ≤ za then 0 else 1) := by rw [← h.2 6 (by decide)]; exact hq.1
  have b1 := pm_b01 hq.1
  obtain ⟨I1, A1, rfl, rfl, h1⟩ := hv_id (kp := kp) (I := I) (A := A) h hq.2
  refine pm_if_eq (tgt := 40) hG dX11_promise_11 rfl (fun c2 => ?_) (fun c2 => ?_)
  · refine pm_aloadn hG dX11_promise_40 rfl ?_
    refine pm_ldc hG dX11_promise_41 (ctX11_109 _ rfl) ?_
    refine pm_callV (As := [.int (-1000001)]) (rest := []) hG hR dX11_promise_43 (lkX11_97 _ rfl) okV_X11_told rfl rfl (sx_told (d := 0) (by decide) rfl rfl) rfl rfl hdd (Nat.le_refl _) (Nat.le_refl _) (by decide) (pm_ki (fun v3 σ' cnt' hq => ?_))
    obtain ⟨ev3, ⟨g3, hg3⟩, hc3⟩ := hq
    obtain ⟨I3, A3, rfl, rfl, h3⟩ := hv_a53 (kp := kp) (I := I1) (A := A1) h1 ⟨hg3, hc3⟩
    subst ev3
    exact pm_iret hG hF dX11_promise_46 rfl (Nat.le_refl _) (Nat.le_refl _) ⟨_, rfl, (vK_a (T := kp.2) (d := ε 102) (p := ε 6) (m := ε 18) (a := za) (b := zb) (c := zc) (Or.inl (has_0 o1 c2))).1, _, _, rfl, rfl, by rw [ui_self (vK_a (T := kp.2) (d := ε 102) (p := ε 6) (m := ε 18) (a := za) (b := zb) (c := zc) (Or.inl (has_0 o1 c2))).2.symm]; exact h3⟩
  · refine pm_iloadn hG dX11_promise_14 rfl ?_
    refine pm_iconst (v := 0) hG dX11_promise_15 (by decide) ?_
    refine pm_iconst (v := 5) hG dX11_promise_16 (by decide) ?_
    refine pm_callS (As := [.int zb, .int 0, .int 5]) (rest := []) hG hR dX11_promise_17 (lkX11_105 _ rfl) okS_X11_isOutside (sx_isOutside (d := 0)) rfl rfl hdd (Nat.le_refl _) (Nat.le_refl _) (by decide) (pm_ki (fun v4 σ' cnt' hq => ?_))
    have o4 := hq.1
    have b4 := pm_b10 hq.1
    obtain ⟨I4, A4, rfl, rfl, h4⟩ := hv_id (kp := kp) (I := I1) (A := A1) h1 hq.2
    refine pm_if_ne (tgt := 40) hG dX11_promise_20 rfl (fun c5 => ?_) (fun c5 => ?_)
    · refine pm_aloadn hG dX11_promise_40 rfl ?_
      refine pm_ldc hG dX11_promise_41 (ctX11_109 _ rfl) ?_
      refine pm_callV (As := [.int (-1000001)]) (rest := []) hG hR dX11_promise_43 (lkX11_97 _ rfl) okV_X11_told rfl rfl (sx_told (d := 0) (by decide) rfl rfl) rfl rfl hdd (Nat.le_refl _) (Nat.le_refl _) (by decide) (pm_ki (fun v6 σ' cnt' hq => ?_))
      obtain ⟨ev6, ⟨g6, hg6⟩, hc6⟩ := hq
      obtain ⟨I6, A6, rfl, rfl, h6⟩ := hv_a53 (kp := kp) (I := I4) (A := A4) h4 ⟨hg6, hc6⟩
      subst ev6
      exact pm_iret hG hF dX11_promise_46 rfl (Nat.le_refl _) (Nat.le_refl _) ⟨_, rfl, (vK_a (T := kp.2) (d := ε 102) (p := ε 6) (m := ε 18) (a := za) (b := zb) (c := zc) (Or.inr (Or.inl (out_1 o4 c5)))).1, _, _, rfl, rfl, by rw [ui_self (vK_a (T := kp.2) (d := ε 102) (p := ε 6) (m := ε 18) (a := za) (b := zb) (c := zc) (Or.inr (Or.inl (out_1 o4 c5)))).2.symm]; exact h6⟩
    · refine pm_iloadn hG dX11_promise_23 rfl ?_
      refine pm_aloadn hG dX11_promise_24 rfl ?_
      refine pm_getf hG dX11_promise_25 (flX11_12 _ rfl) rfl rfl ?_
      refine pm_getf hG dX11_promise_28 (flX11_122 _ rfl) rfl rfl ?_
      refine pm_sipush (v := 2000) hG dX11_promise_31 (by decide) ?_
      refine pm_callS (As := [.int zc, .int (I4 102), .int 2000]) (rest := []) hG hR dX11_promise_34 (lkX11_105 _ rfl) okS_X11_isOutside (sx_isOutside (d := 0)) rfl rfl hdd (Nat.le_refl _) (Nat.le_refl _) (by decide) (pm_ki (fun v7 σ' cnt' hq => ?_))
      have o7 : v7 = (if zc < ε 102 ∨ 2000 < zc then 1 else 0) := by rw [← h4.2 102 (by decide)]; exact hq.1
      have b7 := pm_b10 hq.1
      obtain ⟨I7, A7, rfl, rfl, h7⟩ := hv_id (kp := kp) (I := I4) (A := A4) h4 hq.2
      refine pm_if_eq (tgt := 47) hG dX11_promise_37 rfl (fun c8 => ?_) (fun c8 => ?_)
      · refine pm_aloadn hG dX11_promise_47 rfl ?_
        refine pm_getf hG dX11_promise_48 (flX11_12 _ rfl) rfl rfl ?_
        refine pm_getf hG dX11_promise_51 (flX11_128 _ rfl) rfl rfl ?_
        refine pm_iloadn hG dX11_promise_54 rfl ?_
        refine pm_bipush (v := 13) hG dX11_promise_55 (by decide) ?_
        refine pm_callV (As := [.int za, .int 13]) (rest := []) hG hR dX11_promise_57 (lkX11_152 _ rfl) okV_X9_get rfl rfl (tb_get (d := 0) (rows := nI 20) (width := nI 14) (f := cmx kp.2 (A7 7)) rfl rfl (pm_tw_of 20 14 (by decide) (by decide) (by decide))) rfl rfl hdd (Nat.le_refl _) (Nat.le_refl _) (by decide) (pm_ki (fun v9 σ' cnt' hq => ?_))
        obtain rfl : v9 = kp.2 (14 * za.toNatClampNeg + 13) := hq.1.trans (tg7 13 (by decide) (has_1 o1 c2) hu hu2)
        obtain ⟨I9, A9, rfl, rfl, h9⟩ := hv_id (kp := kp) (I := I7) (A := A7) h7 hq.2
        refine pm_if_ne (tgt := 70) hG dX11_promise_60 rfl (fun c10 => ?_) (fun c10 => ?_)
        · refine pm_aloadn hG dX11_promise_70 rfl ?_
          refine pm_aloadn hG dX11_promise_71 rfl ?_
          refine pm_getf hG dX11_promise_72 (flX11_12 _ rfl) rfl rfl ?_
          refine pm_getf hG dX11_promise_75 (flX11_277 _ rfl) rfl rfl ?_
          refine pm_callV (As := []) (rest := [.ref (B + 0)]) hG hR dX11_promise_78 (lkX11_86 _ rfl) okV_X9_isFull rfl rfl (tb_isFull (d := 0) rfl) rfl rfl hdd (Nat.le_refl _) (Nat.le_refl _) (by first | decide | exact Nat.le_of_ble_eq_true rfl) (pm_ki (fun v11 σ' cnt' hq => ?_))
          have hu11 : I9 18 = nI 30 := (h9.2 18 (by decide)).trans hw
          have ev11 : v11 = 1 := hq.1.trans (by rw [hu11]; exact if_neg (nI_nlt (Nat.le_refl _) (by decide)))
          obtain ⟨I11, A11, rfl, rfl, h11⟩ := hv_id (kp := kp) (I := I9) (A := A9) h9 hq.2
          subst ev11
          refine pm_if_eq (tgt := 89) hG dX11_promise_81 rfl (fun q => absurd q (by decide)) (fun _ => ?_)
          refine pm_ldc hG dX11_promise_84 (ctX11_92 _ rfl) ?_
          refine pm_goto (tgt := 101) hG dX11_promise_86 rfl ?_
          refine pm_callV (As := [.int (-1000004)]) (rest := []) hG hR dX11_promise_101 (lkX11_97 _ rfl) okV_X11_told rfl rfl (sx_told (d := 0) (by decide) rfl rfl) rfl rfl hdd (Nat.le_refl _) (Nat.le_refl _) (by decide) (pm_ki (fun v12 σ' cnt' hq => ?_))
          obtain ⟨ev12, ⟨g12, hg12⟩, hc12⟩ := hq
          obtain ⟨I12, A12, rfl, rfl, h12⟩ := hv_a53 (kp := kp) (I := I11) (A := A11) h11 ⟨hg12, hc12⟩
          subst ev12
          exact pm_iret hG hF dX11_promise_104 rfl (Nat.le_refl _) (Nat.le_refl _) ⟨_, rfl, (vK_c (T := kp.2) (d := ε 102) (p := ε 6) (m := ε 18) (a := za) (b := zb) (c := zc) (not3 (has_1 o1 c2) (out_0 o4 c5) (out_0 o7 c8)) c10 hw).1, _, _, rfl, rfl, by rw [ui_self (vK_c (T := kp.2) (d := ε 102) (p := ε 6) (m := ε 18) (a := za) (b := zb) (c := zc) (not3 (has_1 o1 c2) (out_0 o4 c5) (out_0 o7 c8)) c10 hw).2.symm]; exact h12⟩
        · refine pm_aloadn hG dX11_promise_63 rfl ?_
          refine pm_ldc hG dX11_promise_64 (ctX11_138 _ rfl) ?_
          refine pm_callV (As := [.int (-1000003)]) (rest := []) hG hR dX11_promise_66 (lkX11_97 _ rfl) okV_X11_told rfl rfl (sx_told (d := 0) (by decide) rfl rfl) rfl rfl hdd (Nat.le_refl _) (Nat.le_refl _) (by decide) (pm_ki (fun v13 σ' cnt' hq => ?_))
          obtain ⟨ev13, ⟨g13, hg13⟩, hc13⟩ := hq
          obtain ⟨I13, A13, rfl, rfl, h13⟩ := hv_a53 (kp := kp) (I := I9) (A := A9) h9 ⟨hg13, hc13⟩
          subst ev13
          exact pm_iret hG hF dX11_promise_69 rfl (Nat.le_refl _) (Nat.le_refl _) ⟨_, rfl, (vK_b (T := kp.2) (d := ε 102) (p := ε 6) (m := ε 18) (a := za) (b := zb) (c := zc) (not3 (has_1 o1 c2) (out_0 o4 c5) (out_0 o7 c8)) c10).1, _, _, rfl, rfl, by rw [ui_self (vK_b (T := kp.2) (d := ε 102) (p := ε 6) (m := ε 18) (a := za) (b := zb) (c := zc) (not3 (has_1 o1 c2) (out_0 o4 c5) (out_0 o7 c8)) c10).2.symm]; exact h13⟩
      · refine pm_aloadn hG dX11_promise_40 rfl ?_
        refine pm_ldc hG dX11_promise_41 (ctX11_109 _ rfl) ?_
        refine pm_callV (As := [.int (-1000001)]) (rest := []) hG hR dX11_promise_43 (lkX11_97 _ rfl) okV_X11_told rfl rfl (sx_told (d := 0) (by decide) rfl rfl) rfl rfl hdd (Nat.le_refl _) (Nat.le_refl _) (by decide) (pm_ki (fun v14 σ' cnt' hq => ?_))
        obtain ⟨ev14, ⟨g14, hg14⟩, hc14⟩ := hq
        obtain ⟨I14, A14, rfl, rfl, h14⟩ := hv_a53 (kp := kp) (I := I7) (A := A7) h7 ⟨hg14, hc14⟩
        subst ev14
        exact pm_iret hG hF dX11_promise_46 rfl (Nat.le_refl _) (Nat.le_refl _) ⟨_, rfl, (vK_a (T := kp.2) (d := ε 102) (p := ε 6) (m := ε 18) (a := za) (b := zb) (c := zc) (Or.inr (Or.inr (out_1 o7 c8)))).1, _, _, rfl, rfl, by rw [ui_self (vK_a (T := kp.2) (d := ε 102) (p := ε 6) (m := ε 18) (a := za) (b := zb) (c := zc) (Or.inr (Or.inr (out_1 o7 c8)))).2.symm]; exact h14⟩

theorem g_promiseE {ε : Nat → Int32} {d B cnt : Nat} {kp : pm_KP} {ρ : pm_S} {I : Nat → Int32} {A : Nat → Nat → Int32} {za zb zc zd : Int32} (hdd : 3 ≤ d) (h : gq ε I) : pm_met mX11_promise d 0 0 B [.ref (B + 0), .int za, .int zb, .int zc, .int zd] cnt (pm_two (cl_L B kp I A) ρ) (pm_Qi (fun v σ' cnt' => v = vK kp.2 (ε 102) (ε 6) (ε 18) za zb zc ∧ hvq (ui ε 18 (tK kp.2 (ε 102) (ε 6) (ε 18) za zb zc)) B kp ρ cnt σ' cnt')) := by
  obtain ⟨u, hu, e⟩ := h.used 6 20 (by decide)
  obtain ⟨w, hw, e3⟩ := h.used 18 30 (by decide)
  have e2 : ε 6 = nI u := (h.2 6 (by decide)).symm.trans e
  have e4 : ε 18 = nI w := (h.2 18 (by decide)).symm.trans e3
  by_cases hlt : w < 30
  · exact g_promiseE1 (by omega) e2 hu e4 hlt h
  · obtain rfl : w = 30 := by omega
    exact g_promiseE0 (by omega) e2 hu e4 h
