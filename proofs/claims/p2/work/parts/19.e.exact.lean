/-! ===== methods that change a tracked number ===== -/
theorem gq.app {ε I : Nat → Int32} {k : Nat} (n j : Nat) (hT : gcT.all (fun q => q.1 != k || q.2 == n) = true) (hj : j ≤ n) (h : gq ε I) : gq (ui ε k (nI j)) (ui I k (nI j)) := by
  simp only [List.all_eq_true, bne_iff_ne, Bool.or_eq_true, beq_iff_eq] at hT
  refine ⟨fun q hq => ?_, fun q hq => ?_⟩
  · by_cases e1 : q.1 = k
    · rcases hT q hq with h1 | h1
      · exact absurd e1 h1
      · rw [e1, h1]; exact ⟨j, hj, ui_eq⟩
    · rw [ui_ne e1]; exact h.1 q hq
  · by_cases e1 : q = k
    · subst e1; rw [ui_eq, ui_eq]
    · rw [ui_ne e1, ui_ne e1]; exact h.2 q hq
theorem gq.inc {ε I : Nat → Int32} {k : Nat} (hk : gcT.all (fun q => q.1 != k) = true) (hm : k ∈ gqT) (h : gq ε I) : gq (ui ε k (ε k + 1)) (ui I k (I k + 1)) := by
  simp only [List.all_eq_true, bne_iff_ne] at hk
  refine ⟨fun q hq => by rw [ui_ne (hk q hq)]; exact h.1 q hq, fun q hq => ?_⟩
  by_cases e1 : q = k
  · subst e1; rw [ui_eq, ui_eq, h.2 q hq]
  · rw [ui_ne e1, ui_ne e1]; exact h.2 q hq
theorem pm_mono {M : pm_M} {d mc ms B cnt : Nat} {av : List Value} {σ : pm_S} {Q Q1 : Option Value → pm_S → Nat → Prop} (hM : pm_met M d mc ms B av cnt σ Q1) (hQ : ∀ (r : Option Value) (σ' : pm_S) (c' : Nat), Q1 r σ' c' → Q r σ' c') : pm_met M d mc ms B av cnt σ Q := by
  intro l D cI p e ha hf hc s m args below g1 g2 hP hK
  obtain ⟨n, o, k1, k2, k3, ⟨r, σ', c', q1, q2, q3⟩, L⟩ := hM l D cI p e ha hf hc s m args below g1 g2 hP hK
  exact ⟨n, o, k1, k2, k3, ⟨r, σ', c', q1, hQ _ _ _ q2, q3⟩, L⟩
theorem ui_self {ε : Nat → Int32} {k : Nat} {v : Int32} (h : v = ε k) : ui ε k v = ε := by
  funext j
  unfold ui
  by_cases e : j = k
  · rw [if_pos e, h, e]
  · rw [if_neg e]
theorem pm_dep {M : pm_M} {d d' mc ms B cnt : Nat} {av : List Value} {σ : pm_S} {Q : Option Value → pm_S → Nat → Prop} (h : ∀ d : Nat, d' ≤ d → pm_met M d mc ms B av cnt σ Q) (hd : d' ≤ d) : pm_met M d mc ms B av cnt σ Q := h d hd

theorem hq_p2 {ε : Nat → Int32} {B cnt cnt' : Nat} {kp : Value} {ρ σ' : pm_S} {I : Nat → Int32} {A : Nat → Nat → Int32} {u : Nat} {f : Nat → Int32} (hlt : u < 10) (h : gq ε I) (hq : σ' = pm_up (pm_up (pm_two (cl_L B kp I A) ρ) 2 (.inr (9, [.int (nI 10), .int (nI 3), .ref (B + 3), .int (nI (u + 1))]))) 3 (.inl (30, f)) ∧ cnt' = cnt) : hvq (ui ε 2 (nI (u + 1))) B kp ρ cnt σ' cnt' := by
  refine ⟨ui I 2 (nI (u + 1)), ua A 3 f, ?_, hq.2.symm, gq.app 10 (u + 1) rfl hlt h⟩
  rw [hq.1, pm_two_up (by decide) (Nat.le_of_ble_eq_true rfl), pm_two_up (by decide) (Nat.le_of_ble_eq_true rfl)]; rfl

set_option maxRecDepth 100000 in
set_option maxHeartbeats 4000000 in
theorem g_addTownE {ε : Nat → Int32} {d B cnt : Nat} {kp : Value} {ρ : pm_S} {I : Nat → Int32} {A : Nat → Nat → Int32} (hdd : 2 ≤ d) {u : Nat}  (hu : ε 2 = nI u) (hlt : u < 10) (h : gq ε I) : pm_met mX7_addTown d 0 0 B [.ref (B + 1)] cnt (pm_two (cl_L B kp I A) ρ) (pm_Qi (fun v σ' cnt' => v = nI u ∧ hvq (ui ε 2 (nI (u + 1))) B kp ρ cnt σ' cnt')) := by
  refine pm_enter 1 (by decide) (Nat.le_of_ble_eq_true rfl) rfl (fun G hG hR hF => ?_)
  refine pm_aloadn hG dX7_addTown_0 rfl ?_
  refine pm_getf hG dX7_addTown_1 (flX7_14 _ rfl) rfl rfl ?_
  refine pm_iconst (v := 0) hG dX7_addTown_4 (by decide) ?_
  have hu1 : I 2 = nI u := (h.2 2 (by decide)).trans hu
  have ht1 : pm_two (cl_L B kp I A) ρ 2 = some (.inr (9, [.int (nI 10), .int (nI 3), .ref (B + 3), .int (nI u)])) := by rw [← hu1]; rfl
  refine pm_callV (As := [.int 0]) (rest := []) hG hR dX7_addTown_5 (lkX7_75 _ rfl) okV_X9_append rfl rfl (tb_append (d := 1) (by decide) ht1 rfl (by decide) (by decide) (by decide) (by decide) (by decide) (by decide) (by omega)) rfl rfl hdd (Nat.le_refl _) (Nat.le_refl _) (by decide) (pm_ki (fun v1 σ' cnt' hq => ?_))
  obtain ⟨hq, ec1⟩ := hq
  rcases hq with ⟨q1, -, -⟩ | ⟨-, rfl, es1⟩
  · exact absurd q1 (by omega)
  obtain ⟨I1, A1, rfl, rfl, h1⟩ := hq_p2 (kp := kp) (I := I) (A := A) hlt h ⟨es1, ec1⟩
  refine pm_istoreXn (loc' := [some (.ref (B + 1)), some (.int (nI u))]) hG dX7_addTown_8 (by decide) (pm_c1b rfl) rfl ?_
  refine pm_aloadn hG dX7_addTown_9 rfl ?_
  refine pm_getf hG dX7_addTown_10 (flX7_14 _ rfl) rfl rfl ?_
  refine pm_iloadn hG dX7_addTown_13 rfl ?_
  refine pm_iconst (v := 1) hG dX7_addTown_14 (by decide) ?_
  refine pm_iconst (v := (-1)) hG dX7_addTown_15 (by decide) ?_
  refine pm_callV (As := [.int (nI u), .int 1, .int (-1)]) (rest := []) hG hR dX7_addTown_16 (lkX7_61 _ rfl) okV_X9_set rfl rfl (tb_set (d := 1) rfl rfl (pm_tw_of 10 3 (by decide) (by decide) (by decide)) (by decide)) rfl rfl hdd (Nat.le_refl _) (Nat.le_refl _) (by decide) (pm_kv (fun σ' cnt' hq => ?_))
  obtain ⟨I2, A2, rfl, rfl, h2⟩ := hv_a3 (kp := kp) (I := I1) (A := A1) h1 hq
  refine pm_iloadn hG dX7_addTown_19 rfl ?_
  exact pm_iret hG hF dX7_addTown_20 rfl (Nat.le_refl _) (Nat.le_refl _) ⟨_, rfl, rfl, _, _, rfl, rfl, h2⟩

set_option maxRecDepth 100000 in
set_option maxHeartbeats 4000000 in
theorem g_townE1 {ε : Nat → Int32} {d B cnt : Nat} {kp : Value} {ρ : pm_S} {I : Nat → Int32} {A : Nat → Nat → Int32} (hdd : 3 ≤ d) {u : Nat} (hu : ε 2 = nI u) (hlt : u < 10) (h : gq ε I) : pm_met mX11_town d 0 0 B [.ref (B + 0)] cnt (pm_two (cl_L B kp I A) ρ) (pm_Qi (fun v σ' cnt' => v = nI u ∧ hvq (ui ε 2 (nI (u + 1))) B kp ρ cnt σ' cnt')) := by
  refine pm_enter 0 (by decide) (Nat.le_of_ble_eq_true rfl) rfl (fun G hG hR hF => ?_)
  refine pm_aloadn hG dX11_town_0 rfl ?_
  refine pm_aloadn hG dX11_town_1 rfl ?_
  refine pm_getf hG dX11_town_2 (flX11_12 _ rfl) rfl rfl ?_
  refine pm_getf hG dX11_town_5 (flX11_82 _ rfl) rfl rfl ?_
  refine pm_callV (As := []) (rest := [.ref (B + 0)]) hG hR dX11_town_8 (lkX11_86 _ rfl) okV_X9_isFull rfl rfl (tb_isFull (d := 2) rfl) rfl rfl hdd (Nat.le_refl _) (Nat.le_refl _) (by first | decide | exact Nat.le_of_ble_eq_true rfl) (pm_ki (fun v1 σ' cnt' hq => ?_))
  have hu1 : I 2 = nI u := (h.2 2 (by decide)).trans hu
  have ev1 : v1 = 0 := hq.1.trans (by rw [hu1]; exact if_pos (nI_lt hlt (by decide)))
  obtain ⟨I1, A1, rfl, rfl, h1⟩ := hv_id (kp := kp) (I := I) (A := A) h hq.2
  subst ev1
  refine pm_if_eq (tgt := 19) hG dX11_town_11 rfl (fun _ => ?_) (fun q => absurd q (by decide))
  refine pm_aloadn hG dX11_town_19 rfl ?_
  refine pm_getf hG dX11_town_20 (flX11_12 _ rfl) rfl rfl ?_
  refine pm_callV (As := []) (rest := [.ref (B + 0)]) hG hR dX11_town_23 (lkX11_93 _ rfl) okV_X7_addTown rfl rfl (g_addTownE (d := 2) (by decide) hu hlt h1) rfl rfl hdd (Nat.le_refl _) (Nat.le_refl _) (by first | decide | exact Nat.le_of_ble_eq_true rfl) (pm_ki (fun v2 σ' cnt' hq => ?_))
  obtain ⟨rfl, I2, A2, rfl, rfl, h2⟩ := hq
  refine pm_callV (As := [.int (nI u)]) (rest := []) hG hR dX11_town_26 (lkX11_97 _ rfl) okV_X11_told rfl rfl (sx_told (d := 2) (by decide) rfl rfl) rfl rfl hdd (Nat.le_refl _) (Nat.le_refl _) (by decide) (pm_ki (fun v3 σ' cnt' hq => ?_))
  obtain ⟨ev3, ⟨g3, hg3⟩, hc3⟩ := hq
  obtain ⟨I3, A3, rfl, rfl, h3⟩ := hv_a53 (kp := kp) (I := I2) (A := A2) h2 ⟨hg3, hc3⟩
  subst ev3
  exact pm_iret hG hF dX11_town_29 rfl (Nat.le_refl _) (Nat.le_refl _) ⟨_, rfl, rfl, _, _, rfl, rfl, h3⟩

set_option maxRecDepth 100000 in
set_option maxHeartbeats 4000000 in
theorem g_townE0 {ε : Nat → Int32} {d B cnt : Nat} {kp : Value} {ρ : pm_S} {I : Nat → Int32} {A : Nat → Nat → Int32} (hdd : 1 ≤ d) (hu : ε 2 = nI 10) (h : gq ε I) : pm_met mX11_town d 0 0 B [.ref (B + 0)] cnt (pm_two (cl_L B kp I A) ρ) (pm_Qi (fun v σ' cnt' => v = -1000004 ∧ hvq ε B kp ρ cnt σ' cnt')) := by
  refine pm_enter 0 (by decide) (Nat.le_of_ble_eq_true rfl) rfl (fun G hG hR hF => ?_)
  refine pm_aloadn hG dX11_town_0 rfl ?_
  refine pm_aloadn hG dX11_town_1 rfl ?_
  refine pm_getf hG dX11_town_2 (flX11_12 _ rfl) rfl rfl ?_
  refine pm_getf hG dX11_town_5 (flX11_82 _ rfl) rfl rfl ?_
  refine pm_callV (As := []) (rest := [.ref (B + 0)]) hG hR dX11_town_8 (lkX11_86 _ rfl) okV_X9_isFull rfl rfl (tb_isFull (d := 0) rfl) rfl rfl hdd (Nat.le_refl _) (Nat.le_refl _) (by first | decide | exact Nat.le_of_ble_eq_true rfl) (pm_ki (fun v1 σ' cnt' hq => ?_))
  have hu1 : I 2 = nI 10 := (h.2 2 (by decide)).trans hu
  have ev1 : v1 = 1 := hq.1.trans (by rw [hu1]; exact if_neg (nI_nlt (Nat.le_refl _) (by decide)))
  obtain ⟨I1, A1, rfl, rfl, h1⟩ := hv_id (kp := kp) (I := I) (A := A) h hq.2
  subst ev1
  refine pm_if_eq (tgt := 19) hG dX11_town_11 rfl (fun q => absurd q (by decide)) (fun _ => ?_)
  refine pm_ldc hG dX11_town_14 (ctX11_92 _ rfl) ?_
  refine pm_goto (tgt := 26) hG dX11_town_16 rfl ?_
  refine pm_callV (As := [.int (-1000004)]) (rest := []) hG hR dX11_town_26 (lkX11_97 _ rfl) okV_X11_told rfl rfl (sx_told (d := 0) (by decide) rfl rfl) rfl rfl hdd (Nat.le_refl _) (Nat.le_refl _) (by decide) (pm_ki (fun v2 σ' cnt' hq => ?_))
  obtain ⟨ev2, ⟨g2, hg2⟩, hc2⟩ := hq
  obtain ⟨I2, A2, rfl, rfl, h2⟩ := hv_a53 (kp := kp) (I := I1) (A := A1) h1 ⟨hg2, hc2⟩
  subst ev2
  exact pm_iret hG hF dX11_town_29 rfl (Nat.le_refl _) (Nat.le_refl _) ⟨_, rfl, rfl, _, _, rfl, rfl, h2⟩

def vT (x : Int32) : Int32 := if x = nI 10 then -1000004 else x
def tT (x : Int32) : Int32 := if x = nI 10 then x else x + 1
theorem vT_ok {x : Int32} {u : Nat} (e : x = nI u) (h : u < 10) : nI u = vT x ∧ nI (u + 1) = tT x := by
  have h3 : ¬ nI u = nI 10 := fun q => by have := (nI_eq (by omega) (by decide)).mp q; omega
  subst e
  unfold vT tT
  rw [if_neg h3, if_neg h3]
  exact ⟨rfl, (nI_1 u).symm⟩
theorem vT_no {x : Int32} {u : Nat} (e : x = nI u) (h : ¬ u < 10) (h2 : u < 11) : (-1000000) - nI 4 = vT x ∧ x = tT x := by
  obtain rfl : u = 10 := by omega
  subst e
  unfold vT tT
  rw [if_pos rfl, if_pos rfl]
  exact ⟨by decide, rfl⟩
theorem g_townE {ε : Nat → Int32} {d B cnt : Nat} {kp : Value} {ρ : pm_S} {I : Nat → Int32} {A : Nat → Nat → Int32} (hdd : 3 ≤ d) (h : gq ε I) : pm_met mX11_town d 0 0 B [.ref (B + 0)] cnt (pm_two (cl_L B kp I A) ρ) (pm_Qi (fun v σ' cnt' => v = vT (ε 2) ∧ hvq (ui ε 2 (tT (ε 2))) B kp ρ cnt σ' cnt')) := by
  obtain ⟨u, hu, e⟩ := h.used 2 10 (by decide)
  have e2 : ε 2 = nI u := (h.2 2 (by decide)).symm.trans e
  by_cases hlt : u < 10
  · refine pm_mono (g_townE1 (by omega) e2 hlt h) ?_
    rintro r σ' c' ⟨v, rfl, rfl, h2⟩
    exact ⟨_, rfl, (vT_ok e2 hlt).1, by rw [← (vT_ok e2 hlt).2]; exact h2⟩
  · have e3 := vT_no e2 hlt (by omega)
    obtain rfl : u = 10 := by omega
    refine pm_mono (g_townE0 (by omega) e2 h) ?_
    rintro r σ' c' ⟨v, rfl, rfl, h2⟩
    exact ⟨_, rfl, (by decide : (-1000004 : Int32) = (-1000000) - nI 4).trans e3.1, by rw [ui_self e3.2.symm]; exact h2⟩
