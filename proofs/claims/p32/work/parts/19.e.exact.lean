/-! ===== methods that change a tracked number ===== -/
theorem gq.app {ε I : Nat → Int32} {k : Nat} (n j : Nat) (hT : gcT.all (fun q => q.1 != k || q.2 == n) = true) (hj : j ≤ n) (h : gq ε I) : gq (ui ε k (nI j)) (ui I k (nI j)) := by
  simp only [List.all_eq_true, bne_iff_ne, Bool.or_eq_true, beq_iff_eq] at hT
  refine ⟨fun q hq => ?_, fun q hq => ?_⟩
  · by_cases e1 : q.1 = k
    · rcases hT q hq with h1 | h1
      · exact absurd e1 h1
      · rw [e1, h1]; exact ⟨j, hj, ui_eq⟩
    · rw [ui_ne e1]; exact h.1 q hq
  · by_cases e1 : q = k
    · subst e1; rw [ui_eq, ui_eq]
    · rw [ui_ne e1, ui_ne e1]; exact h.2 q hq
theorem gq.inc {ε I : Nat → Int32} {k : Nat} (hk : gcT.all (fun q => q.1 != k) = true) (hm : k ∈ gqT) (h : gq ε I) : gq (ui ε k (ε k + 1)) (ui I k (I k + 1)) := by
  simp only [List.all_eq_true, bne_iff_ne] at hk
  refine ⟨fun q hq => by rw [ui_ne (hk q hq)]; exact h.1 q hq, fun q hq => ?_⟩
  by_cases e1 : q = k
  · subst e1; rw [ui_eq, ui_eq, h.2 q hq]
  · rw [ui_ne e1, ui_ne e1]; exact h.2 q hq
theorem pm_mono {M : pm_M} {d mc ms B cnt : Nat} {av : List Value} {σ : pm_S} {Q Q1 : Option Value → pm_S → Nat → Prop} (hM : pm_met M d mc ms B av cnt σ Q1) (hQ : ∀ (r : Option Value) (σ' : pm_S) (c' : Nat), Q1 r σ' c' → Q r σ' c') : pm_met M d mc ms B av cnt σ Q := by
  intro l D cI p e ha hf hc s m args below g1 g2 hP hK
  obtain ⟨n, o, k1, k2, k3, ⟨r, σ', c', q1, q2, q3⟩, L⟩ := hM l D cI p e ha hf hc s m args below g1 g2 hP hK
  exact ⟨n, o, k1, k2, k3, ⟨r, σ', c', q1, hQ _ _ _ q2, q3⟩, L⟩
theorem ui_self {ε : Nat → Int32} {k : Nat} {v : Int32} (h : v = ε k) : ui ε k v = ε := by
  funext j
  unfold ui
  by_cases e : j = k
  · rw [if_pos e, h, e]
  · rw [if_neg e]
theorem pm_dep {M : pm_M} {d d' mc ms B cnt : Nat} {av : List Value} {σ : pm_S} {Q : Option Value → pm_S → Nat → Prop} (h : ∀ d : Nat, d' ≤ d → pm_met M d mc ms B av cnt σ Q) (hd : d' ≤ d) : pm_met M d mc ms B av cnt σ Q := h d hd
theorem gq.st {ε I : Nat → Int32} {k : Nat} {v : Int32} (hk : gcT.all (fun q => q.1 != k) = true) (h : gq ε I) : gq (ui ε k v) (ui I k v) := by
  simp only [List.all_eq_true, bne_iff_ne] at hk
  refine ⟨fun q hq => by rw [ui_ne (hk q hq)]; exact h.1 q hq, fun q hq => ?_⟩
  by_cases e1 : q = k
  · subst e1; rw [ui_eq, ui_eq]
  · rw [ui_ne e1, ui_ne e1]; exact h.2 q hq

theorem hq_p2 {ε : Nat → Int32} {B cnt cnt' : Nat} {kp : Value} {ρ σ' : pm_S} {I : Nat → Int32} {A : Nat → Nat → Int32} {u : Nat} {f : Nat → Int32} (hlt : u < 10) (h : gq ε I) (hq : σ' = pm_up (pm_up (pm_two (cl_L B kp I A) ρ) 2 (.inr (9, [.int (nI 10), .int (nI 3), .ref (B + 3), .int (nI (u + 1))]))) 3 (.inl (30, f)) ∧ cnt' = cnt) : hvq (ui ε 2 (nI (u + 1))) B kp ρ cnt σ' cnt' := by
  refine ⟨ui I 2 (nI (u + 1)), ua A 3 f, ?_, hq.2.symm, gq.app 10 (u + 1) rfl hlt h⟩
  rw [hq.1, pm_two_up (by decide) (Nat.le_of_ble_eq_true rfl), pm_two_up (by decide) (Nat.le_of_ble_eq_true rfl)]; rfl

set_option maxRecDepth 100000 in
set_option maxHeartbeats 4000000 in
theorem g_addTownE {ε : Nat → Int32} {d B cnt : Nat} {kp : Value} {ρ : pm_S} {I : Nat → Int32} {A : Nat → Nat → Int32} (hdd : 2 ≤ d) {u : Nat}  (hu : ε 2 = nI u) (hlt : u < 10) (h : gq ε I) : pm_met mX7_addTown d 0 0 B [.ref (B + 1)] cnt (pm_two (cl_L B kp I A) ρ) (pm_Qi (fun v σ' cnt' => v = nI u ∧ hvq (ui ε 2 (nI (u + 1))) B kp ρ cnt σ' cnt')) := by
  refine pm_enter 1 (by decide) (Nat.le_of_ble_eq_true rfl) rfl (fun G hG hR hF => ?_)
  refine pm_aloadn hG dX7_addTown_0 rfl ?_
  refine pm_getf hG dX7_addTown_1 (flX7_14 _ rfl) rfl rfl ?_
  refine pm_iconst (v := 0) hG dX7_addTown_4 (by decide) ?_
  have hu1 : I 2 = nI u := (h.2 2 (by decide)).trans hu
  have ht1 : pm_two (cl_L B kp I A) ρ 2 = some (.inr (9, [.int (nI 10), .int (nI 3), .ref (B + 3), .int (nI u)])) := by rw [← hu1]; rfl
  refine pm_callV (As := [.int 0]) (rest := []) hG hR dX7_addTown_5 (lkX7_75 _ rfl) okV_X9_append rfl rfl (tb_append (d := 1) (by decide) ht1 rfl (by decide) (by decide) (by decide) (by decide) (by decide) (by decide) (by omega)) rfl rfl hdd (Nat.le_refl _) (Nat.le_refl _) (by decide) (pm_ki (fun v1 σ' cnt' hq => ?_))
  obtain ⟨hq, ec1⟩ := hq
  rcases hq with ⟨q1, -, -⟩ | ⟨-, rfl, es1⟩
  · exact absurd q1 (by omega)
  obtain ⟨I1, A1, rfl, rfl, h1⟩ := hq_p2 (kp := kp) (I := I) (A := A) hlt h ⟨es1, ec1⟩
  refine pm_istoreXn (loc' := [some (.ref (B + 1)), some (.int (nI u))]) hG dX7_addTown_8 (by decide) (pm_c1b rfl) rfl ?_
  refine pm_aloadn hG dX7_addTown_9 rfl ?_
  refine pm_getf hG dX7_addTown_10 (flX7_14 _ rfl) rfl rfl ?_
  refine pm_iloadn hG dX7_addTown_13 rfl ?_
  refine pm_iconst (v := 1) hG dX7_addTown_14 (by decide) ?_
  refine pm_iconst (v := (-1)) hG dX7_addTown_15 (by decide) ?_
  refine pm_callV (As := [.int (nI u), .int 1, .int (-1)]) (rest := []) hG hR dX7_addTown_16 (lkX7_61 _ rfl) okV_X9_set rfl rfl (tb_set (d := 1) rfl rfl (pm_tw_of 10 3 (by decide) (by decide) (by decide)) (by decide)) rfl rfl hdd (Nat.le_refl _) (Nat.le_refl _) (by decide) (pm_kv (fun σ' cnt' hq => ?_))
  obtain ⟨I2, A2, rfl, rfl, h2⟩ := hv_a3 (kp := kp) (I := I1) (A := A1) h1 hq
  refine pm_iloadn hG dX7_addTown_19 rfl ?_
  exact pm_iret hG hF dX7_addTown_20 rfl (Nat.le_refl _) (Nat.le_refl _) ⟨_, rfl, rfl, _, _, rfl, rfl, h2⟩

set_option maxRecDepth 100000 in
set_option maxHeartbeats 4000000 in
theorem g_townE1 {ε : Nat → Int32} {d B cnt : Nat} {kp : Value} {ρ : pm_S} {I : Nat → Int32} {A : Nat → Nat → Int32} (hdd : 3 ≤ d) {u : Nat} (hu : ε 2 = nI u) (hlt : u < 10) (h : gq ε I) : pm_met mX11_town d 0 0 B [.ref (B + 0)] cnt (pm_two (cl_L B kp I A) ρ) (pm_Qi (fun v σ' cnt' => v = nI u ∧ hvq (ui ε 2 (nI (u + 1))) B kp ρ cnt σ' cnt')) := by
  refine pm_enter 0 (by decide) (Nat.le_of_ble_eq_true rfl) rfl (fun G hG hR hF => ?_)
  refine pm_aloadn hG dX11_town_0 rfl ?_
  refine pm_aloadn hG dX11_town_1 rfl ?_
  refine pm_getf hG dX11_town_2 (flX11_12 _ rfl) rfl rfl ?_
  refine pm_getf hG dX11_town_5 (flX11_82 _ rfl) rfl rfl ?_
  refine pm_callV (As := []) (rest := [.ref (B + 0)]) hG hR dX11_town_8 (lkX11_86 _ rfl) okV_X9_isFull rfl rfl (tb_isFull (d := 2) rfl) rfl rfl hdd (Nat.le_refl _) (Nat.le_refl _) (by first | decide | exact Nat.le_of_ble_eq_true rfl) (pm_ki (fun v1 σ' cnt' hq => ?_))
  have hu1 : I 2 = nI u := (h.2 2 (by decide)).trans hu
  have ev1 : v1 = 0 := hq.1.trans (by rw [hu1]; exact if_pos (nI_lt hlt (by decide)))
  obtain ⟨I1, A1, rfl, rfl, h1⟩ := hv_id (kp := kp) (I := I) (A := A) h hq.2
  subst ev1
  refine pm_if_eq (tgt := 19) hG dX11_town_11 rfl (fun _ => ?_) (fun q => absurd q (by decide))
  refine pm_aloadn hG dX11_town_19 rfl ?_
  refine pm_getf hG dX11_town_20 (flX11_12 _ rfl) rfl rfl ?_
  refine pm_callV (As := []) (rest := [.ref (B + 0)]) hG hR dX11_town_23 (lkX11_93 _ rfl) okV_X7_addTown rfl rfl (g_addTownE (d := 2) (by decide) hu hlt h1) rfl rfl hdd (Nat.le_refl _) (Nat.le_refl _) (by first | decide | exact Nat.le_of_ble_eq_true rfl) (pm_ki (fun v2 σ' cnt' hq => ?_))
  obtain ⟨rfl, I2, A2, rfl, rfl, h2⟩ := hq
  refine pm_callV (As := [.int (nI u)]) (rest := []) hG hR dX11_town_26 (lkX11_97 _ rfl) okV_X11_told rfl rfl (sx_told (d := 2) (by decide) rfl rfl) rfl rfl hdd (Nat.le_refl _) (Nat.le_refl _) (by decide) (pm_ki (fun v3 σ' cnt' hq => ?_))
  obtain ⟨ev3, ⟨g3, hg3⟩, hc3⟩ := hq
  obtain ⟨I3, A3, rfl, rfl, h3⟩ := hv_a53 (kp := kp) (I := I2) (A := A2) h2 ⟨hg3, hc3⟩
  subst ev3
  exact pm_iret hG hF dX11_town_29 rfl (Nat.le_refl _) (Nat.le_refl _) ⟨_, rfl, rfl, _, _, rfl, rfl, h3⟩

set_option maxRecDepth 100000 in
set_option maxHeartbeats 4000000 in
theorem g_townE0 {ε : Nat → Int32} {d B cnt : Nat} {kp : Value} {ρ : pm_S} {I : Nat → Int32} {A : Nat → Nat → Int32} (hdd : 1 ≤ d) (hu : ε 2 = nI 10) (h : gq ε I) : pm_met mX11_town d 0 0 B [.ref (B + 0)] cnt (pm_two (cl_L B kp I A) ρ) (pm_Qi (fun v σ' cnt' => v = -1000004 ∧ hvq ε B kp ρ cnt σ' cnt')) := by
  refine pm_enter 0 (by decide) (Nat.le_of_ble_eq_true rfl) rfl (fun G hG hR hF => ?_)
  refine pm_aloadn hG dX11_town_0 rfl ?_
  refine pm_aloadn hG dX11_town_1 rfl ?_
  refine pm_getf hG dX11_town_2 (flX11_12 _ rfl) rfl rfl ?_
  refine pm_getf hG dX11_town_5 (flX11_82 _ rfl) rfl rfl ?_
  refine pm_callV (As := []) (rest := [.ref (B + 0)]) hG hR dX11_town_8 (lkX11_86 _ rfl) okV_X9_isFull rfl rfl (tb_isFull (d := 0) rfl) rfl rfl hdd (Nat.le_refl _) (Nat.le_refl _) (by first | decide | exact Nat.le_of_ble_eq_true rfl) (pm_ki (fun v1 σ' cnt' hq => ?_))
  have hu1 : I 2 = nI 10 := (h.2 2 (by decide)).trans hu
  have ev1 : v1 = 1 := hq.1.trans (by rw [hu1]; exact if_neg (nI_nlt (Nat.le_refl _) (by decide)))
  obtain ⟨I1, A1, rfl, rfl, h1⟩ := hv_id (kp := kp) (I := I) (A := A) h hq.2
  subst ev1
  refine pm_if_eq (tgt := 19) hG dX11_town_11 rfl (fun q => absurd q (by decide)) (fun _ => ?_)
  refine pm_ldc hG dX11_town_14 (ctX11_92 _ rfl) ?_
  refine pm_goto (tgt := 26) hG dX11_town_16 rfl ?_
  refine pm_callV (As := [.int (-1000004)]) (rest := []) hG hR dX11_town_26 (lkX11_97 _ rfl) okV_X11_told rfl rfl (sx_told (d := 0) (by decide) rfl rfl) rfl rfl hdd (Nat.le_refl _) (Nat.le_refl _) (by decide) (pm_ki (fun v2 σ' cnt' hq => ?_))
  obtain ⟨ev2, ⟨g2, hg2⟩, hc2⟩ := hq
  obtain ⟨I2, A2, rfl, rfl, h2⟩ := hv_a53 (kp := kp) (I := I1) (A := A1) h1 ⟨hg2, hc2⟩
  subst ev2
  exact pm_iret hG hF dX11_town_29 rfl (Nat.le_refl _) (Nat.le_refl _) ⟨_, rfl, rfl, _, _, rfl, rfl, h2⟩

def vT (x : Int32) : Int32 := if x = nI 10 then -1000004 else x
def tT (x : Int32) : Int32 := if x = nI 10 then x else x + 1
theorem vT_ok {x : Int32} {u : Nat} (e : x = nI u) (h : u < 10) : nI u = vT x ∧ nI (u + 1) = tT x := by
  have h3 : ¬ nI u = nI 10 := fun q => by have := (nI_eq (by omega) (by decide)).mp q; omega
  subst e
  unfold vT tT
  rw [if_neg h3, if_neg h3]
  exact ⟨rfl, (nI_1 u).symm⟩
theorem vT_no {x : Int32} {u : Nat} (e : x = nI u) (h : ¬ u < 10) (h2 : u < 11) : (-1000000) - nI 4 = vT x ∧ x = tT x := by
  obtain rfl : u = 10 := by omega
  subst e
  unfold vT tT
  rw [if_pos rfl, if_pos rfl]
  exact ⟨by decide, rfl⟩
theorem g_townE {ε : Nat → Int32} {d B cnt : Nat} {kp : Value} {ρ : pm_S} {I : Nat → Int32} {A : Nat → Nat → Int32} (hdd : 3 ≤ d) (h : gq ε I) : pm_met mX11_town d 0 0 B [.ref (B + 0)] cnt (pm_two (cl_L B kp I A) ρ) (pm_Qi (fun v σ' cnt' => v = vT (ε 2) ∧ hvq (ui ε 2 (tT (ε 2))) B kp ρ cnt σ' cnt')) := by
  obtain ⟨u, hu, e⟩ := h.used 2 10 (by decide)
  have e2 : ε 2 = nI u := (h.2 2 (by decide)).symm.trans e
  by_cases hlt : u < 10
  · refine pm_mono (g_townE1 (by omega) e2 hlt h) ?_
    rintro r σ' c' ⟨v, rfl, rfl, h2⟩
    exact ⟨_, rfl, (vT_ok e2 hlt).1, by rw [← (vT_ok e2 hlt).2]; exact h2⟩
  · have e3 := vT_no e2 hlt (by omega)
    obtain rfl : u = 10 := by omega
    refine pm_mono (g_townE0 (by omega) e2 h) ?_
    rintro r σ' c' ⟨v, rfl, rfl, h2⟩
    exact ⟨_, rfl, (by decide : (-1000004 : Int32) = (-1000000) - nI 4).trans e3.1, by rw [ui_self e3.2.symm]; exact h2⟩

theorem gt_of_nle {x y : Int32} (h : ¬ x ≤ y) : y < x := by
  rw [Int32.le_iff_toInt_le] at h
  rw [Int32.lt_iff_toInt_lt]; omega
theorem nlt_of_le {x y : Int32} (h : x ≤ y) : ¬ y < x := by
  rw [Int32.le_iff_toInt_le] at h
  rw [Int32.lt_iff_toInt_lt]; omega
theorem le_of_nlt {x y : Int32} (h : ¬ x < y) : y ≤ x := by
  rw [Int32.lt_iff_toInt_lt] at h
  rw [Int32.le_iff_toInt_le]; omega
theorem has_0 {v a t : Int32} (o : v = (if a < 0 ∨ t ≤ a then 0 else 1)) (c : v = 0) : a < 0 ∨ t ≤ a := by
  by_cases q : a < 0 ∨ t ≤ a
  · exact q
  · rw [if_neg q] at o; rw [o] at c; exact absurd c (by decide)
theorem has_1 {v a t : Int32} (o : v = (if a < 0 ∨ t ≤ a then 0 else 1)) (c : ¬ v = 0) : ¬ (a < 0 ∨ t ≤ a) := fun q => c (o.trans (if_pos q))
theorem out_1 {v a lo hi : Int32} (o : v = (if a < lo ∨ hi < a then 1 else 0)) (c : ¬ v = 0) : a < lo ∨ hi < a := by
  by_cases q : a < lo ∨ hi < a
  · exact q
  · rw [if_neg q] at o; exact absurd o c
theorem out_0 {v a lo hi : Int32} (o : v = (if a < lo ∨ hi < a then 1 else 0)) (c : v = 0) : ¬ (a < lo ∨ hi < a) := by
  intro q
  rw [if_pos q] at o; rw [o] at c; exact absurd c (by decide)
theorem not4 {p q r s : Prop} (h1 : ¬ p) (h2 : ¬ q) (h3 : ¬ r) (h4 : ¬ s) : ¬ (p ∨ q ∨ r ∨ s) := by
  rintro (h | h | h | h)
  · exact h1 h
  · exact h2 h
  · exact h3 h
  · exact h4 h
theorem nt_out {x t : Int32} {c : Nat} (e : t = nI c) (hc : c < 2 ^ 30) (h : x < nI 0 ∨ nI c - nI 1 < x) : x < 0 ∨ t ≤ x := by
  subst e
  rcases h with h | h
  · exact Or.inl h
  · refine Or.inr ?_
    have h1 := nI_toInt (n := c) (by omega)
    by_cases h0 : c = 0
    · subst h0
      by_cases q : x < 0
      · have h3 : (nI 0 - nI 1 : Int32).toInt = -1 := by decide
        rw [Int32.lt_iff_toInt_lt, h3] at h
        rw [Int32.lt_iff_toInt_lt, show (0 : Int32).toInt = 0 from rfl] at q; omega
      · exact le_of_nlt q
    · obtain ⟨k, rfl⟩ : ∃ k : Nat, c = k + 1 := ⟨c - 1, by omega⟩
      rw [show nI (k + 1) - nI 1 = nI k from nI_pred k, Int32.lt_iff_toInt_lt, nI_toInt (by omega)] at h
      rw [Int32.le_iff_toInt_le, h1]; omega
theorem nt_in {x t : Int32} {c j : Nat} (e : t = nI c) (hc : c < 2 ^ 30) (h : x = nI j) (hj : j < c) : ¬ (x < 0 ∨ t ≤ x) := by
  subst e h
  rintro (q | q)
  · exact nI_pos (by omega) q
  · have := (nI_leI (by omega) (by omega)).mp q; omega
theorem rg_in {x : Int32} {a b j : Nat} (hb : b < 2 ^ 31) (h : x = nI j) (h1 : a ≤ j) (h2 : j ≤ b) : ¬ (x < nI a ∨ nI b < x) := by
  subst h
  rintro (q | q)
  · exact nI_nlt h1 (by omega) q
  · exact nI_nlt h2 (by omega) q

theorem rem_neg {b : Int32} (h : b < 0) : b - b / 10000 * 10000 < 1 := by
  have h1 : (b / 10000).toInt = b.toInt.tdiv 10000 := Int32.toInt_div_of_ne_right b 10000 (by decide)
  have h2 := Int32.le_toInt b
  rw [Int32.lt_iff_toInt_lt, show (0 : Int32).toInt = 0 from rfl] at h
  obtain ⟨m, hm⟩ : ∃ m : Nat, b.toInt = -(m : Int) := ⟨b.toInt.natAbs, by omega⟩
  have h3 : b.toInt.tdiv 10000 = -((m / 10000 : Nat) : Int) := by rw [hm, Int.neg_tdiv]; rfl
  have h4 : (b / 10000 * 10000).toInt = -((m / 10000 : Nat) : Int) * 10000 := by
    rw [Int32.toInt_mul, h1, h3, show (10000 : Int32).toInt = 10000 from rfl, Int.bmod_eq_of_le (by omega) (by omega)]
  rw [Int32.lt_iff_toInt_lt, Int32.toInt_sub, h4, hm, show (1 : Int32).toInt = 1 from rfl, Int.bmod_eq_of_le (by omega) (by omega)]
  omega
theorem dv_eq {b : Int32} {k : Nat} (e : b = nI k) (hk : k < 2 ^ 31) : b / 10000 = nI (k / 10000) := by
  rw [e]; exact pk_div (a := k) (d := 10000) hk (by decide) (by decide)
theorem rm_eq {b : Int32} {k : Nat} (e : b = nI k) (hk : k < 2 ^ 31) : b - b / 10000 * 10000 = nI (k % 10000) := by
  rw [e]; exact pk_rem (a := k) (d := 10000) hk (by decide) (by decide)
theorem dv_in {b : Int32} {k : Nat} (e : b = nI k) (hk : k < 2 ^ 31) (h : k / 10000 ≤ 99) : ¬ (b / 10000 < 0 ∨ 99 < b / 10000) := by
  rw [dv_eq e hk]
  rintro (q | q)
  · exact nI_pos (by omega) q
  · exact nI_nlt h (by decide) q
theorem rm_in {b : Int32} {k : Nat} (e : b = nI k) (hk : k < 2 ^ 31) (h : 1 ≤ k % 10000) : ¬ (b - b / 10000 * 10000 < 1) := by
  rw [rm_eq e hk]
  intro q
  exact nI_nlt h (by omega) q
theorem dv_no {b : Int32} {k : Nat} (e : b = nI k) (hk : k < 2 ^ 31) (h : nI (k / 10000) < nI 0 ∨ nI 99 < nI (k / 10000)) : b / 10000 < 0 ∨ 99 < b / 10000 := by
  rw [dv_eq e hk]; exact h
theorem rm_no {b : Int32} {k : Nat} (e : b = nI k) (hk : k < 2 ^ 31) (h : nI (k % 10000) < nI 1 ∨ nI 9999 < nI (k % 10000)) : b - b / 10000 * 10000 < 1 := by
  rw [rm_eq e hk]
  rcases h with h | h
  · exact h
  · exact absurd h (nI_nlt (by omega) (by decide))
def vB (t d a b c : Int32) : Int32 := if (a < 0 ∨ 99999 < a) ∨ (b / 10000 < 0 ∨ 99 < b / 10000) ∨ b - b / 10000 * 10000 < 1 ∨ (c < 0 ∨ t ≤ c) then -1000001 else if d = nI 6 then -1000004 else d
def tB (t d a b c : Int32) : Int32 := if (a < 0 ∨ 99999 < a) ∨ (b / 10000 < 0 ∨ 99 < b / 10000) ∨ b - b / 10000 * 10000 < 1 ∨ (c < 0 ∨ t ≤ c) then d else if d = nI 6 then d else d + 1
theorem vB_n {t d a b c : Int32} (h : (a < 0 ∨ 99999 < a) ∨ (b / 10000 < 0 ∨ 99 < b / 10000) ∨ b - b / 10000 * 10000 < 1 ∨ (c < 0 ∨ t ≤ c)) : -1000001 = vB t d a b c ∧ d = tB t d a b c := by
  unfold vB tB
  rw [if_pos h, if_pos h]; exact ⟨rfl, rfl⟩
theorem vB_f {t d a b c : Int32} (h : ¬ ((a < 0 ∨ 99999 < a) ∨ (b / 10000 < 0 ∨ 99 < b / 10000) ∨ b - b / 10000 * 10000 < 1 ∨ (c < 0 ∨ t ≤ c))) (h2 : d = nI 6) : -1000004 = vB t d a b c ∧ d = tB t d a b c := by
  unfold vB tB
  rw [if_neg h, if_neg h, if_pos h2, if_pos h2]; exact ⟨rfl, rfl⟩
theorem vB_y {t d a b c : Int32} {u : Nat} (h : ¬ ((a < 0 ∨ 99999 < a) ∨ (b / 10000 < 0 ∨ 99 < b / 10000) ∨ b - b / 10000 * 10000 < 1 ∨ (c < 0 ∨ t ≤ c))) (e : d = nI u) (h2 : u < 6) : nI u = vB t d a b c ∧ nI (u + 1) = tB t d a b c := by
  have h3 : ¬ d = nI 6 := fun q => by have := (nI_eq (by omega) (by decide)).mp (e.symm.trans q); omega
  unfold vB tB
  rw [if_neg h, if_neg h, if_neg h3, if_neg h3, e]; exact ⟨rfl, (nI_1 u).symm⟩

theorem hq_p16 {ε : Nat → Int32} {B cnt cnt' : Nat} {kp : Value} {ρ σ' : pm_S} {I : Nat → Int32} {A : Nat → Nat → Int32} {u : Nat} {f : Nat → Int32} (hlt : u < 6) (h : gq ε I) (hq : σ' = pm_up (pm_up (pm_two (cl_L B kp I A) ρ) 16 (.inr (9, [.int (nI 6), .int (nI 5), .ref (B + 17), .int (nI (u + 1))]))) 17 (.inl (30, f)) ∧ cnt' = cnt) : hvq (ui ε 16 (nI (u + 1))) B kp ρ cnt σ' cnt' := by
  refine ⟨ui I 16 (nI (u + 1)), ua A 17 f, ?_, hq.2.symm, gq.app 6 (u + 1) rfl hlt h⟩
  rw [hq.1, pm_two_up (by decide) (Nat.le_of_ble_eq_true rfl), pm_two_up (by decide) (Nat.le_of_ble_eq_true rfl)]; rfl

set_option maxRecDepth 100000 in
set_option maxHeartbeats 4000000 in
theorem g_addDebtE {ε : Nat → Int32} {d B cnt : Nat} {kp : Value} {ρ : pm_S} {I : Nat → Int32} {A : Nat → Nat → Int32} (hdd : 2 ≤ d) {za zb zc zd : Int32} {u : Nat} (hu : ε 16 = nI u) (hlt : u < 6) (h : gq ε I) : pm_met mX7_addDebt d 0 0 B [.ref (B + 1), .int za, .int zb, .int zc, .int zd] cnt (pm_two (cl_L B kp I A) ρ) (pm_Qi (fun v σ' cnt' => v = nI u ∧ hvq (ui ε 16 (nI (u + 1))) B kp ρ cnt σ' cnt')) := by
  refine pm_enter 1 (by decide) (Nat.le_of_ble_eq_true rfl) rfl (fun G hG hR hF => ?_)
  refine pm_aloadn hG dX7_addDebt_0 rfl ?_
  refine pm_getf hG dX7_addDebt_1 (flX7_38 _ rfl) rfl rfl ?_
  refine pm_iloadn hG dX7_addDebt_4 rfl ?_
  have hu1 : I 16 = nI u := (h.2 16 (by decide)).trans hu
  have ht1 : pm_two (cl_L B kp I A) ρ 16 = some (.inr (9, [.int (nI 6), .int (nI 5), .ref (B + 17), .int (nI u)])) := by rw [← hu1]; rfl
  refine pm_callV (As := [.int za]) (rest := []) hG hR dX7_addDebt_5 (lkX7_75 _ rfl) okV_X9_append rfl rfl (tb_append (d := 1) (by decide) ht1 rfl (by decide) (by decide) (by decide) (by decide) (by decide) (by decide) (by omega)) rfl rfl hdd (Nat.le_refl _) (Nat.le_refl _) (by decide) (pm_ki (fun v1 σ' cnt' hq => ?_))
  obtain ⟨hq, ec1⟩ := hq
  rcases hq with ⟨q1, -, -⟩ | ⟨-, rfl, es1⟩
  · exact absurd q1 (by omega)
  obtain ⟨I1, A1, rfl, rfl, h1⟩ := hq_p16 (kp := kp) (I := I) (A := A) hlt h ⟨es1, ec1⟩
  refine pm_istoreXi (loc' := [some (.ref (B + 1)), some (.int za), some (.int zb), some (.int zc), some (.int zd), some (.int (nI u))]) hG dX7_addDebt_8 (by decide) (pm_c1b rfl) rfl ?_
  refine pm_aloadn hG dX7_addDebt_10 rfl ?_
  refine pm_getf hG dX7_addDebt_11 (flX7_38 _ rfl) rfl rfl ?_
  refine pm_iloadi hG dX7_addDebt_14 rfl ?_
  refine pm_iconst (v := 1) hG dX7_addDebt_16 (by decide) ?_
  refine pm_iloadn hG dX7_addDebt_17 rfl ?_
  refine pm_callV (As := [.int (nI u), .int 1, .int zb]) (rest := []) hG hR dX7_addDebt_18 (lkX7_61 _ rfl) okV_X9_set rfl rfl (tb_set (d := 1) rfl rfl (pm_tw_of 6 5 (by decide) (by decide) (by decide)) (by decide)) rfl rfl hdd (Nat.le_refl _) (Nat.le_refl _) (by decide) (pm_kv (fun σ' cnt' hq => ?_))
  obtain ⟨I2, A2, rfl, rfl, h2⟩ := hv_a17 (kp := kp) (I := I1) (A := A1) h1 hq
  refine pm_aloadn hG dX7_addDebt_21 rfl ?_
  refine pm_getf hG dX7_addDebt_22 (flX7_38 _ rfl) rfl rfl ?_
  refine pm_iloadi hG dX7_addDebt_25 rfl ?_
  refine pm_iconst (v := 2) hG dX7_addDebt_27 (by decide) ?_
  refine pm_iloadn hG dX7_addDebt_28 rfl ?_
  refine pm_callV (As := [.int (nI u), .int 2, .int zc]) (rest := []) hG hR dX7_addDebt_29 (lkX7_61 _ rfl) okV_X9_set rfl rfl (tb_set (d := 1) rfl rfl (pm_tw_of 6 5 (by decide) (by decide) (by decide)) (by decide)) rfl rfl hdd (Nat.le_refl _) (Nat.le_refl _) (by decide) (pm_kv (fun σ' cnt' hq => ?_))
  obtain ⟨I3, A3, rfl, rfl, h3⟩ := hv_a17 (kp := kp) (I := I2) (A := A2) h2 hq
  refine pm_aloadn hG dX7_addDebt_32 rfl ?_
  refine pm_getf hG dX7_addDebt_33 (flX7_38 _ rfl) rfl rfl ?_
  refine pm_iloadi hG dX7_addDebt_36 rfl ?_
  refine pm_iconst (v := 3) hG dX7_addDebt_38 (by decide) ?_
  refine pm_iloadi hG dX7_addDebt_39 rfl ?_
  refine pm_callV (As := [.int (nI u), .int 3, .int zd]) (rest := []) hG hR dX7_addDebt_41 (lkX7_61 _ rfl) okV_X9_set rfl rfl (tb_set (d := 1) rfl rfl (pm_tw_of 6 5 (by decide) (by decide) (by decide)) (by decide)) rfl rfl hdd (Nat.le_refl _) (Nat.le_refl _) (by decide) (pm_kv (fun σ' cnt' hq => ?_))
  obtain ⟨I4, A4, rfl, rfl, h4⟩ := hv_a17 (kp := kp) (I := I3) (A := A3) h3 hq
  refine pm_aloadn hG dX7_addDebt_44 rfl ?_
  refine pm_dup hG dX7_addDebt_45 rfl ?_
  refine pm_getf hG dX7_addDebt_46 (flX7_53 _ rfl) rfl rfl ?_
  refine pm_iloadn hG dX7_addDebt_49 rfl ?_
  refine pm_iadd hG dX7_addDebt_50 ?_
  refine pm_putf hG dX7_addDebt_51 (fwX7_53 _ rfl) rfl rfl rfl ?_
  refine pm_nrm (L' := cl_L B kp (ui I4 103 ((I4 103) + za)) A4) (by decide) (Nat.le_of_ble_eq_true rfl) rfl ?_
  refine pm_iloadi hG dX7_addDebt_54 rfl ?_
  exact pm_iret hG hF dX7_addDebt_56 rfl (Nat.le_refl _) (Nat.le_refl _) ⟨_, rfl, rfl, _, _, rfl, rfl, (gq.wi (k := 103) rfl h4)⟩

set_option maxRecDepth 100000 in
set_option maxHeartbeats 4000000 in
theorem g_debtE1 {ε : Nat → Int32} {d B cnt : Nat} {kp : Value} {ρ : pm_S} {I : Nat → Int32} {A : Nat → Nat → Int32} (hdd : 3 ≤ d) {za zb zc : Int32} {u : Nat} (hu : ε 16 = nI u) (hlt : u < 6) (h : gq ε I) : pm_met mX11_debt d 0 0 B [.ref (B + 0), .int za, .int zb, .int zc] cnt (pm_two (cl_L B kp I A) ρ) (pm_Qi (fun v σ' cnt' => v = vB (ε 2) (ε 16) za zb zc ∧ hvq (ui ε 16 (tB (ε 2) (ε 16) za zb zc)) B kp ρ cnt σ' cnt')) := by
  refine pm_enter 2 (by decide) (Nat.le_of_ble_eq_true rfl) rfl (fun G hG hR hF => ?_)
  refine pm_iloadn hG dX11_debt_0 rfl ?_
  refine pm_sipush (v := 10000) hG dX11_debt_1 (by decide) ?_
  refine pm_idiv hG dX11_debt_4 (by decide) ?_
  refine pm_istoreXi (loc' := [some (.ref (B + 0)), some (.int za), some (.int zb), some (.int zc), some (.int (zb / 10000)), none]) hG dX11_debt_5 (by decide) (pm_c1b rfl) rfl ?_
  refine pm_iloadn hG dX11_debt_7 rfl ?_
  refine pm_sipush (v := 10000) hG dX11_debt_8 (by decide) ?_
  refine pm_irem hG dX11_debt_11 (by decide) ?_
  refine pm_istoreXi (loc' := [some (.ref (B + 0)), some (.int za), some (.int zb), some (.int zc), some (.int (zb / 10000)), some (.int (zb - zb / 10000 * 10000))]) hG dX11_debt_12 (by decide) (pm_c1b rfl) rfl ?_
  refine pm_iloadn hG dX11_debt_14 rfl ?_
  refine pm_iconst (v := 0) hG dX11_debt_15 (by decide) ?_
  refine pm_ldcw hG dX11_debt_16 (ctX11_270 _ rfl) ?_
  refine pm_callS (As := [.int za, .int 0, .int 99999]) (rest := []) hG hR dX11_debt_19 (lkX11_105 _ rfl) okS_X11_isOutside (sx_isOutside (d := 2)) rfl rfl hdd (Nat.le_refl _) (Nat.le_refl _) (by decide) (pm_ki (fun v1 σ' cnt' hq => ?_))
  have o1 := hq.1
  have b1 := pm_b10 hq.1
  obtain ⟨I1, A1, rfl, rfl, h1⟩ := hv_id (kp := kp) (I := I) (A := A) h hq.2
  refine pm_if_ne (tgt := 56) hG dX11_debt_22 rfl (fun c2 => ?_) (fun c2 => ?_)
  · refine pm_aloadn hG dX11_debt_56 rfl ?_
    refine pm_ldc hG dX11_debt_57 (ctX11_109 _ rfl) ?_
    refine pm_callV (As := [.int (-1000001)]) (rest := []) hG hR dX11_debt_59 (lkX11_97 _ rfl) okV_X11_told rfl rfl (sx_told (d := 2) (by decide) rfl rfl) rfl rfl hdd (Nat.le_refl _) (Nat.le_refl _) (by decide) (pm_ki (fun v3 σ' cnt' hq => ?_))
    obtain ⟨ev3, ⟨g3, hg3⟩, hc3⟩ := hq
    obtain ⟨I3, A3, rfl, rfl, h3⟩ := hv_a53 (kp := kp) (I := I1) (A := A1) h1 ⟨hg3, hc3⟩
    subst ev3
    exact pm_iret hG hF dX11_debt_62 rfl (Nat.le_refl _) (Nat.le_refl _) ⟨_, rfl, (vB_n (t := ε 2) (d := ε 16) (a := za) (b := zb) (c := zc) (Or.inl (out_1 o1 c2))).1, _, _, rfl, rfl, by rw [ui_self (vB_n (t := ε 2) (d := ε 16) (a := za) (b := zb) (c := zc) (Or.inl (out_1 o1 c2))).2.symm]; exact h3⟩
  · refine pm_iloadi hG dX11_debt_25 rfl ?_
    refine pm_iconst (v := 0) hG dX11_debt_27 (by decide) ?_
    refine pm_bipush (v := 99) hG dX11_debt_28 (by decide) ?_
    refine pm_callS (As := [.int (zb / 10000), .int 0, .int 99]) (rest := []) hG hR dX11_debt_30 (lkX11_105 _ rfl) okS_X11_isOutside (sx_isOutside (d := 2)) rfl rfl hdd (Nat.le_refl _) (Nat.le_refl _) (by decide) (pm_ki (fun v4 σ' cnt' hq => ?_))
    have o4 := hq.1
    have b4 := pm_b10 hq.1
    obtain ⟨I4, A4, rfl, rfl, h4⟩ := hv_id (kp := kp) (I := I1) (A := A1) h1 hq.2
    refine pm_if_ne (tgt := 56) hG dX11_debt_33 rfl (fun c5 => ?_) (fun c5 => ?_)
    · refine pm_aloadn hG dX11_debt_56 rfl ?_
      refine pm_ldc hG dX11_debt_57 (ctX11_109 _ rfl) ?_
      refine pm_callV (As := [.int (-1000001)]) (rest := []) hG hR dX11_debt_59 (lkX11_97 _ rfl) okV_X11_told rfl rfl (sx_told (d := 2) (by decide) rfl rfl) rfl rfl hdd (Nat.le_refl _) (Nat.le_refl _) (by decide) (pm_ki (fun v6 σ' cnt' hq => ?_))
      obtain ⟨ev6, ⟨g6, hg6⟩, hc6⟩ := hq
      obtain ⟨I6, A6, rfl, rfl, h6⟩ := hv_a53 (kp := kp) (I := I4) (A := A4) h4 ⟨hg6, hc6⟩
      subst ev6
      exact pm_iret hG hF dX11_debt_62 rfl (Nat.le_refl _) (Nat.le_refl _) ⟨_, rfl, (vB_n (t := ε 2) (d := ε 16) (a := za) (b := zb) (c := zc) (Or.inr (Or.inl (out_1 o4 c5)))).1, _, _, rfl, rfl, by rw [ui_self (vB_n (t := ε 2) (d := ε 16) (a := za) (b := zb) (c := zc) (Or.inr (Or.inl (out_1 o4 c5)))).2.symm]; exact h6⟩
    · refine pm_iloadi hG dX11_debt_36 rfl ?_
      refine pm_iconst (v := 1) hG dX11_debt_38 (by decide) ?_
      refine pm_icmp_lt (tgt := 56) hG dX11_debt_39 rfl (fun c7 => ?_) (fun c7 => ?_)
      · refine pm_aloadn hG dX11_debt_56 rfl ?_
        refine pm_ldc hG dX11_debt_57 (ctX11_109 _ rfl) ?_
        refine pm_callV (As := [.int (-1000001)]) (rest := []) hG hR dX11_debt_59 (lkX11_97 _ rfl) okV_X11_told rfl rfl (sx_told (d := 2) (by decide) rfl rfl) rfl rfl hdd (Nat.le_refl _) (Nat.le_refl _) (by decide) (pm_ki (fun v8 σ' cnt' hq => ?_))
        obtain ⟨ev8, ⟨g8, hg8⟩, hc8⟩ := hq
        obtain ⟨I8, A8, rfl, rfl, h8⟩ := hv_a53 (kp := kp) (I := I4) (A := A4) h4 ⟨hg8, hc8⟩
        subst ev8
        exact pm_iret hG hF dX11_debt_62 rfl (Nat.le_refl _) (Nat.le_refl _) ⟨_, rfl, (vB_n (t := ε 2) (d := ε 16) (a := za) (b := zb) (c := zc) (Or.inr (Or.inr (Or.inl c7)))).1, _, _, rfl, rfl, by rw [ui_self (vB_n (t := ε 2) (d := ε 16) (a := za) (b := zb) (c := zc) (Or.inr (Or.inr (Or.inl c7)))).2.symm]; exact h8⟩
      · refine pm_aloadn hG dX11_debt_42 rfl ?_
        refine pm_getf hG dX11_debt_43 (flX11_12 _ rfl) rfl rfl ?_
        refine pm_getf hG dX11_debt_46 (flX11_82 _ rfl) rfl rfl ?_
        refine pm_iloadn hG dX11_debt_49 rfl ?_
        refine pm_callV (As := [.int zc]) (rest := []) hG hR dX11_debt_50 (lkX11_101 _ rfl) okV_X9_has rfl rfl (tb_has (d := 2) rfl) rfl rfl hdd (Nat.le_refl _) (Nat.le_refl _) (by decide) (pm_ki (fun v9 σ' cnt' hq => ?_))
        have o9 : v9 = (if zc < 0 ∨ ε 2 ≤ zc then 0 else 1) := by rw [← h4.2 2 (by decide)]; exact hq.1
        have b9 := pm_b01 hq.1
        obtain ⟨I9, A9, rfl, rfl, h9⟩ := hv_id (kp := kp) (I := I4) (A := A4) h4 hq.2
        refine pm_if_ne (tgt := 63) hG dX11_debt_53 rfl (fun c10 => ?_) (fun c10 => ?_)
        · refine pm_aloadn hG dX11_debt_63 rfl ?_
          refine pm_aloadn hG dX11_debt_64 rfl ?_
          refine pm_getf hG dX11_debt_65 (flX11_12 _ rfl) rfl rfl ?_
          refine pm_getf hG dX11_debt_68 (flX11_271 _ rfl) rfl rfl ?_
          refine pm_callV (As := []) (rest := [.ref (B + 0)]) hG hR dX11_debt_71 (lkX11_86 _ rfl) okV_X9_isFull rfl rfl (tb_isFull (d := 2) rfl) rfl rfl hdd (Nat.le_refl _) (Nat.le_refl _) (by first | decide | exact Nat.le_of_ble_eq_true rfl) (pm_ki (fun v11 σ' cnt' hq => ?_))
          have hu11 : I9 16 = nI u := (h9.2 16 (by decide)).trans hu
          have ev11 : v11 = 0 := hq.1.trans (by rw [hu11]; exact if_pos (nI_lt hlt (by decide)))
          obtain ⟨I11, A11, rfl, rfl, h11⟩ := hv_id (kp := kp) (I := I9) (A := A9) h9 hq.2
          subst ev11
          refine pm_if_eq (tgt := 82) hG dX11_debt_74 rfl (fun _ => ?_) (fun q => absurd q (by decide))
          refine pm_aloadn hG dX11_debt_82 rfl ?_
          refine pm_getf hG dX11_debt_83 (flX11_12 _ rfl) rfl rfl ?_
          refine pm_iloadn hG dX11_debt_86 rfl ?_
          refine pm_iloadi hG dX11_debt_87 rfl ?_
          refine pm_iloadi hG dX11_debt_89 rfl ?_
          refine pm_iloadn hG dX11_debt_91 rfl ?_
          refine pm_callV (As := [.int za, .int (zb / 10000), .int (zb - zb / 10000 * 10000), .int zc]) (rest := [.ref (B + 0)]) hG hR dX11_debt_92 (lkX11_274 _ rfl) okV_X7_addDebt rfl rfl (g_addDebtE (d := 2) (by decide) hu hlt h11) rfl rfl hdd (Nat.le_refl _) (Nat.le_refl _) (by first | decide | exact Nat.le_of_ble_eq_true rfl) (pm_ki (fun v12 σ' cnt' hq => ?_))
          obtain ⟨rfl, I12, A12, rfl, rfl, h12⟩ := hq
          refine pm_callV (As := [.int (nI u)]) (rest := []) hG hR dX11_debt_95 (lkX11_97 _ rfl) okV_X11_told rfl rfl (sx_told (d := 2) (by decide) rfl rfl) rfl rfl hdd (Nat.le_refl _) (Nat.le_refl _) (by decide) (pm_ki (fun v13 σ' cnt' hq => ?_))
          obtain ⟨ev13, ⟨g13, hg13⟩, hc13⟩ := hq
          obtain ⟨I13, A13, rfl, rfl, h13⟩ := hv_a53 (kp := kp) (I := I12) (A := A12) h12 ⟨hg13, hc13⟩
          subst ev13
          exact pm_iret hG hF dX11_debt_98 rfl (Nat.le_refl _) (Nat.le_refl _) ⟨_, rfl, (vB_y (t := ε 2) (d := ε 16) (a := za) (b := zb) (c := zc) (not4 (out_0 o1 c2) (out_0 o4 c5) c7 (has_1 o9 c10)) hu hlt).1, _, _, rfl, rfl, by rw [← (vB_y (t := ε 2) (d := ε 16) (a := za) (b := zb) (c := zc) (not4 (out_0 o1 c2) (out_0 o4 c5) c7 (has_1 o9 c10)) hu hlt).2]; exact h13⟩
        · refine pm_aloadn hG dX11_debt_56 rfl ?_
          refine pm_ldc hG dX11_debt_57 (ctX11_109 _ rfl) ?_
          refine pm_callV (As := [.int (-1000001)]) (rest := []) hG hR dX11_debt_59 (lkX11_97 _ rfl) okV_X11_told rfl rfl (sx_told (d := 2) (by decide) rfl rfl) rfl rfl hdd (Nat.le_refl _) (Nat.le_refl _) (by decide) (pm_ki (fun v14 σ' cnt' hq => ?_))
          obtain ⟨ev14, ⟨g14, hg14⟩, hc14⟩ := hq
          obtain ⟨I14, A14, rfl, rfl, h14⟩ := hv_a53 (kp := kp) (I := I9) (A := A9) h9 ⟨hg14, hc14⟩
          subst ev14
          exact pm_iret hG hF dX11_debt_62 rfl (Nat.le_refl _) (Nat.le_refl _) ⟨_, rfl, (vB_n (t := ε 2) (d := ε 16) (a := za) (b := zb) (c := zc) (Or.inr (Or.inr (Or.inr (has_0 o9 c10))))).1, _, _, rfl, rfl, by rw [ui_self (vB_n (t := ε 2) (d := ε 16) (a := za) (b := zb) (c := zc) (Or.inr (Or.inr (Or.inr (has_0 o9 c10))))).2.symm]; exact h14⟩

set_option maxRecDepth 100000 in
set_option maxHeartbeats 4000000 in
theorem g_debtE0 {ε : Nat → Int32} {d B cnt : Nat} {kp : Value} {ρ : pm_S} {I : Nat → Int32} {A : Nat → Nat → Int32} (hdd : 1 ≤ d) {za zb zc : Int32} (hu : ε 16 = nI 6) (h : gq ε I) : pm_met mX11_debt d 0 0 B [.ref (B + 0), .int za, .int zb, .int zc] cnt (pm_two (cl_L B kp I A) ρ) (pm_Qi (fun v σ' cnt' => v = vB (ε 2) (ε 16) za zb zc ∧ hvq (ui ε 16 (tB (ε 2) (ε 16) za zb zc)) B kp ρ cnt σ' cnt')) := by
  refine pm_enter 2 (by decide) (Nat.le_of_ble_eq_true rfl) rfl (fun G hG hR hF => ?_)
  refine pm_iloadn hG dX11_debt_0 rfl ?_
  refine pm_sipush (v := 10000) hG dX11_debt_1 (by decide) ?_
  refine pm_idiv hG dX11_debt_4 (by decide) ?_
  refine pm_istoreXi (loc' := [some (.ref (B + 0)), some (.int za), some (.int zb), some (.int zc), some (.int (zb / 10000)), none]) hG dX11_debt_5 (by decide) (pm_c1b rfl) rfl ?_
  refine pm_iloadn hG dX11_debt_7 rfl ?_
  refine pm_sipush (v := 10000) hG dX11_debt_8 (by decide) ?_
  refine pm_irem hG dX11_debt_11 (by decide) ?_
  refine pm_istoreXi (loc' := [some (.ref (B + 0)), some (.int za), some (.int zb), some (.int zc), some (.int (zb / 10000)), some (.int (zb - zb / 10000 * 10000))]) hG dX11_debt_12 (by decide) (pm_c1b rfl) rfl ?_
  refine pm_iloadn hG dX11_debt_14 rfl ?_
  refine pm_iconst (v := 0) hG dX11_debt_15 (by decide) ?_
  refine pm_ldcw hG dX11_debt_16 (ctX11_270 _ rfl) ?_
  refine pm_callS (As := [.int za, .int 0, .int 99999]) (rest := []) hG hR dX11_debt_19 (lkX11_105 _ rfl) okS_X11_isOutside (sx_isOutside (d := 0)) rfl rfl hdd (Nat.le_refl _) (Nat.le_refl _) (by decide) (pm_ki (fun v1 σ' cnt' hq => ?_))
  have o1 := hq.1
  have b1 := pm_b10 hq.1
  obtain ⟨I1, A1, rfl, rfl, h1⟩ := hv_id (kp := kp) (I := I) (A := A) h hq.2
  refine pm_if_ne (tgt := 56) hG dX11_debt_22 rfl (fun c2 => ?_) (fun c2 => ?_)
  · refine pm_aloadn hG dX11_debt_56 rfl ?_
    refine pm_ldc hG dX11_debt_57 (ctX11_109 _ rfl) ?_
    refine pm_callV (As := [.int (-1000001)]) (rest := []) hG hR dX11_debt_59 (lkX11_97 _ rfl) okV_X11_told rfl rfl (sx_told (d := 0) (by decide) rfl rfl) rfl rfl hdd (Nat.le_refl _) (Nat.le_refl _) (by decide) (pm_ki (fun v3 σ' cnt' hq => ?_))
    obtain ⟨ev3, ⟨g3, hg3⟩, hc3⟩ := hq
    obtain ⟨I3, A3, rfl, rfl, h3⟩ := hv_a53 (kp := kp) (I := I1) (A := A1) h1 ⟨hg3, hc3⟩
    subst ev3
    exact pm_iret hG hF dX11_debt_62 rfl (Nat.le_refl _) (Nat.le_refl _) ⟨_, rfl, (vB_n (t := ε 2) (d := ε 16) (a := za) (b := zb) (c := zc) (Or.inl (out_1 o1 c2))).1, _, _, rfl, rfl, by rw [ui_self (vB_n (t := ε 2) (d := ε 16) (a := za) (b := zb) (c := zc) (Or.inl (out_1 o1 c2))).2.symm]; exact h3⟩
  · refine pm_iloadi hG dX11_debt_25 rfl ?_
    refine pm_iconst (v := 0) hG dX11_debt_27 (by decide) ?_
    refine pm_bipush (v := 99) hG dX11_debt_28 (by decide) ?_
    refine pm_callS (As := [.int (zb / 10000), .int 0, .int 99]) (rest := []) hG hR dX11_debt_30 (lkX11_105 _ rfl) okS_X11_isOutside (sx_isOutside (d := 0)) rfl rfl hdd (Nat.le_refl _) (Nat.le_refl _) (by decide) (pm_ki (fun v4 σ' cnt' hq => ?_))
    have o4 := hq.1
    have b4 := pm_b10 hq.1
    obtain ⟨I4, A4, rfl, rfl, h4⟩ := hv_id (kp := kp) (I := I1) (A := A1) h1 hq.2
    refine pm_if_ne (tgt := 56) hG dX11_debt_33 rfl (fun c5 => ?_) (fun c5 => ?_)
    · refine pm_aloadn hG dX11_debt_56 rfl ?_
      refine pm_ldc hG dX11_debt_57 (ctX11_109 _ rfl) ?_
      refine pm_callV (As := [.int (-1000001)]) (rest := []) hG hR dX11_debt_59 (lkX11_97 _ rfl) okV_X11_told rfl rfl (sx_told (d := 0) (by decide) rfl rfl) rfl rfl hdd (Nat.le_refl _) (Nat.le_refl _) (by decide) (pm_ki (fun v6 σ' cnt' hq => ?_))
      obtain ⟨ev6, ⟨g6, hg6⟩, hc6⟩ := hq
      obtain ⟨I6, A6, rfl, rfl, h6⟩ := hv_a53 (kp := kp) (I := I4) (A := A4) h4 ⟨hg6, hc6⟩
      subst ev6
      exact pm_iret hG hF dX11_debt_62 rfl (Nat.le_refl _) (Nat.le_refl _) ⟨_, rfl, (vB_n (t := ε 2) (d := ε 16) (a := za) (b := zb) (c := zc) (Or.inr (Or.inl (out_1 o4 c5)))).1, _, _, rfl, rfl, by rw [ui_self (vB_n (t := ε 2) (d := ε 16) (a := za) (b := zb) (c := zc) (Or.inr (Or.inl (out_1 o4 c5)))).2.symm]; exact h6⟩
    · refine pm_iloadi hG dX11_debt_36 rfl ?_
      refine pm_iconst (v := 1) hG dX11_debt_38 (by decide) ?_
      refine pm_icmp_lt (tgt := 56) hG dX11_debt_39 rfl (fun c7 => ?_) (fun c7 => ?_)
      · refine pm_aloadn hG dX11_debt_56 rfl ?_
        refine pm_ldc hG dX11_debt_57 (ctX11_109 _ rfl) ?_
        refine pm_callV (As := [.int (-1000001)]) (rest := []) hG hR dX11_debt_59 (lkX11_97 _ rfl) okV_X11_told rfl rfl (sx_told (d := 0) (by decide) rfl rfl) rfl rfl hdd (Nat.le_refl _) (Nat.le_refl _) (by decide) (pm_ki (fun v8 σ' cnt' hq => ?_))
        obtain ⟨ev8, ⟨g8, hg8⟩, hc8⟩ := hq
        obtain ⟨I8, A8, rfl, rfl, h8⟩ := hv_a53 (kp := kp) (I := I4) (A := A4) h4 ⟨hg8, hc8⟩
        subst ev8
        exact pm_iret hG hF dX11_debt_62 rfl (Nat.le_refl _) (Nat.le_refl _) ⟨_, rfl, (vB_n (t := ε 2) (d := ε 16) (a := za) (b := zb) (c := zc) (Or.inr (Or.inr (Or.inl c7)))).1, _, _, rfl, rfl, by rw [ui_self (vB_n (t := ε 2) (d := ε 16) (a := za) (b := zb) (c := zc) (Or.inr (Or.inr (Or.inl c7)))).2.symm]; exact h8⟩
      · refine pm_aloadn hG dX11_debt_42 rfl ?_
        refine pm_getf hG dX11_debt_43 (flX11_12 _ rfl) rfl rfl ?_
        refine pm_getf hG dX11_debt_46 (flX11_82 _ rfl) rfl rfl ?_
        refine pm_iloadn hG dX11_debt_49 rfl ?_
        refine pm_callV (As := [.int zc]) (rest := []) hG hR dX11_debt_50 (lkX11_101 _ rfl) okV_X9_has rfl rfl (tb_has (d := 0) rfl) rfl rfl hdd (Nat.le_refl _) (Nat.le_refl _) (by decide) (pm_ki (fun v9 σ' cnt' hq => ?_))
        have o9 : v9 = (if zc < 0 ∨ ε 2 ≤ zc then 0 else 1) := by rw [← h4.2 2 (by decide)]; exact hq.1
        have b9 := pm_b01 hq.1
        obtain ⟨I9, A9, rfl, rfl, h9⟩ := hv_id (kp := kp) (I := I4) (A := A4) h4 hq.2
        refine pm_if_ne (tgt := 63) hG dX11_debt_53 rfl (fun c10 => ?_) (fun c10 => ?_)
        · refine pm_aloadn hG dX11_debt_63 rfl ?_
          refine pm_aloadn hG dX11_debt_64 rfl ?_
          refine pm_getf hG dX11_debt_65 (flX11_12 _ rfl) rfl rfl ?_
          refine pm_getf hG dX11_debt_68 (flX11_271 _ rfl) rfl rfl ?_
          refine pm_callV (As := []) (rest := [.ref (B + 0)]) hG hR dX11_debt_71 (lkX11_86 _ rfl) okV_X9_isFull rfl rfl (tb_isFull (d := 0) rfl) rfl rfl hdd (Nat.le_refl _) (Nat.le_refl _) (by first | decide | exact Nat.le_of_ble_eq_true rfl) (pm_ki (fun v11 σ' cnt' hq => ?_))
          have hu11 : I9 16 = nI 6 := (h9.2 16 (by decide)).trans hu
          have ev11 : v11 = 1 := hq.1.trans (by rw [hu11]; exact if_neg (nI_nlt (Nat.le_refl _) (by decide)))
          obtain ⟨I11, A11, rfl, rfl, h11⟩ := hv_id (kp := kp) (I := I9) (A := A9) h9 hq.2
          subst ev11
          refine pm_if_eq (tgt := 82) hG dX11_debt_74 rfl (fun q => absurd q (by decide)) (fun _ => ?_)
          refine pm_ldc hG dX11_debt_77 (ctX11_92 _ rfl) ?_
          refine pm_goto (tgt := 95) hG dX11_debt_79 rfl ?_
          refine pm_callV (As := [.int (-1000004)]) (rest := []) hG hR dX11_debt_95 (lkX11_97 _ rfl) okV_X11_told rfl rfl (sx_told (d := 0) (by decide) rfl rfl) rfl rfl hdd (Nat.le_refl _) (Nat.le_refl _) (by decide) (pm_ki (fun v12 σ' cnt' hq => ?_))
          obtain ⟨ev12, ⟨g12, hg12⟩, hc12⟩ := hq
          obtain ⟨I12, A12, rfl, rfl, h12⟩ := hv_a53 (kp := kp) (I := I11) (A := A11) h11 ⟨hg12, hc12⟩
          subst ev12
          exact pm_iret hG hF dX11_debt_98 rfl (Nat.le_refl _) (Nat.le_refl _) ⟨_, rfl, (vB_f (t := ε 2) (d := ε 16) (a := za) (b := zb) (c := zc) (not4 (out_0 o1 c2) (out_0 o4 c5) c7 (has_1 o9 c10)) hu).1, _, _, rfl, rfl, by rw [ui_self (vB_f (t := ε 2) (d := ε 16) (a := za) (b := zb) (c := zc) (not4 (out_0 o1 c2) (out_0 o4 c5) c7 (has_1 o9 c10)) hu).2.symm]; exact h12⟩
        · refine pm_aloadn hG dX11_debt_56 rfl ?_
          refine pm_ldc hG dX11_debt_57 (ctX11_109 _ rfl) ?_
          refine pm_callV (As := [.int (-1000001)]) (rest := []) hG hR dX11_debt_59 (lkX11_97 _ rfl) okV_X11_told rfl rfl (sx_told (d := 0) (by decide) rfl rfl) rfl rfl hdd (Nat.le_refl _) (Nat.le_refl _) (by decide) (pm_ki (fun v13 σ' cnt' hq => ?_))
          obtain ⟨ev13, ⟨g13, hg13⟩, hc13⟩ := hq
          obtain ⟨I13, A13, rfl, rfl, h13⟩ := hv_a53 (kp := kp) (I := I9) (A := A9) h9 ⟨hg13, hc13⟩
          subst ev13
          exact pm_iret hG hF dX11_debt_62 rfl (Nat.le_refl _) (Nat.le_refl _) ⟨_, rfl, (vB_n (t := ε 2) (d := ε 16) (a := za) (b := zb) (c := zc) (Or.inr (Or.inr (Or.inr (has_0 o9 c10))))).1, _, _, rfl, rfl, by rw [ui_self (vB_n (t := ε 2) (d := ε 16) (a := za) (b := zb) (c := zc) (Or.inr (Or.inr (Or.inr (has_0 o9 c10))))).2.symm]; exact h13⟩

theorem g_debtE {ε : Nat → Int32} {d B cnt : Nat} {kp : Value} {ρ : pm_S} {I : Nat → Int32} {A : Nat → Nat → Int32} {za zb zc : Int32} (hdd : 3 ≤ d) (h : gq ε I) : pm_met mX11_debt d 0 0 B [.ref (B + 0), .int za, .int zb, .int zc] cnt (pm_two (cl_L B kp I A) ρ) (pm_Qi (fun v σ' cnt' => v = vB (ε 2) (ε 16) za zb zc ∧ hvq (ui ε 16 (tB (ε 2) (ε 16) za zb zc)) B kp ρ cnt σ' cnt')) := by
  obtain ⟨u, hu, e⟩ := h.used 16 6 (by decide)
  have e2 : ε 16 = nI u := (h.2 16 (by decide)).symm.trans e
  by_cases hlt : u < 6
  · exact g_debtE1 (by omega) e2 hlt h
  · obtain rfl : u = 6 := by omega
    exact g_debtE0 (by omega) e2 h
