/-! ===== methods that change a tracked number ===== -/
theorem gq.app {ε I : Nat → Int32} {k : Nat} (n j : Nat) (hT : gcT.all (fun q => q.1 != k || q.2 == n) = true) (hj : j ≤ n) (h : gq ε I) : gq (ui ε k (nI j)) (ui I k (nI j)) := by
  simp only [List.all_eq_true, bne_iff_ne, Bool.or_eq_true, beq_iff_eq] at hT
  refine ⟨fun q hq => ?_, fun q hq => ?_⟩
  · by_cases e1 : q.1 = k
    · rcases hT q hq with h1 | h1
      · exact absurd e1 h1
      · rw [e1, h1]; exact ⟨j, hj, ui_eq⟩
    · rw [ui_ne e1]; exact h.1 q hq
  · by_cases e1 : q = k
    · subst e1; rw [ui_eq, ui_eq]
    · rw [ui_ne e1, ui_ne e1]; exact h.2 q hq
theorem gq.inc {ε I : Nat → Int32} {k : Nat} (hk : gcT.all (fun q => q.1 != k) = true) (hm : k ∈ gqT) (h : gq ε I) : gq (ui ε k (ε k + 1)) (ui I k (I k + 1)) := by
  simp only [List.all_eq_true, bne_iff_ne] at hk
  refine ⟨fun q hq => by rw [ui_ne (hk q hq)]; exact h.1 q hq, fun q hq => ?_⟩
  by_cases e1 : q = k
  · subst e1; rw [ui_eq, ui_eq, h.2 q hq]
  · rw [ui_ne e1, ui_ne e1]; exact h.2 q hq
theorem pm_mono {M : pm_M} {d mc ms B cnt : Nat} {av : List Value} {σ : pm_S} {Q Q1 : Option Value → pm_S → Nat → Prop} (hM : pm_met M d mc ms B av cnt σ Q1) (hQ : ∀ (r : Option Value) (σ' : pm_S) (c' : Nat), Q1 r σ' c' → Q r σ' c') : pm_met M d mc ms B av cnt σ Q := by
  intro l D cI p e ha hf hc s m args below g1 g2 hP hK
  obtain ⟨n, o, k1, k2, k3, ⟨r, σ', c', q1, q2, q3⟩, L⟩ := hM l D cI p e ha hf hc s m args below g1 g2 hP hK
  exact ⟨n, o, k1, k2, k3, ⟨r, σ', c', q1, hQ _ _ _ q2, q3⟩, L⟩
theorem ui_self {ε : Nat → Int32} {k : Nat} {v : Int32} (h : v = ε k) : ui ε k v = ε := by
  funext j
  unfold ui
  by_cases e : j = k
  · rw [if_pos e, h, e]
  · rw [if_neg e]
theorem pm_dep {M : pm_M} {d d' mc ms B cnt : Nat} {av : List Value} {σ : pm_S} {Q : Option Value → pm_S → Nat → Prop} (h : ∀ d : Nat, d' ≤ d → pm_met M d mc ms B av cnt σ Q) (hd : d' ≤ d) : pm_met M d mc ms B av cnt σ Q := h d hd
theorem gq.st {ε I : Nat → Int32} {k : Nat} {v : Int32} (hk : gcT.all (fun q => q.1 != k) = true) (h : gq ε I) : gq (ui ε k v) (ui I k v) := by
  simp only [List.all_eq_true, bne_iff_ne] at hk
  refine ⟨fun q hq => by rw [ui_ne (hk q hq)]; exact h.1 q hq, fun q hq => ?_⟩
  by_cases e1 : q = k
  · subst e1; rw [ui_eq, ui_eq]
  · rw [ui_ne e1, ui_ne e1]; exact h.2 q hq

theorem hq_p2 {ε : Nat → Int32} {B cnt cnt' : Nat} {kp : Value} {ρ σ' : pm_S} {I : Nat → Int32} {A : Nat → Nat → Int32} {u : Nat} {f : Nat → Int32} (hlt : u < 10) (h : gq ε I) (hq : σ' = pm_up (pm_up (pm_two (cl_L B kp I A) ρ) 2 (.inr (9, [.int (nI 10), .int (nI 3), .ref (B + 3), .int (nI (u + 1))]))) 3 (.inl (30, f)) ∧ cnt' = cnt) : hvq (ui ε 2 (nI (u + 1))) B kp ρ cnt σ' cnt' := by
  refine ⟨ui I 2 (nI (u + 1)), ua A 3 f, ?_, hq.2.symm, gq.app 10 (u + 1) rfl hlt h⟩
  rw [hq.1, pm_two_up (by decide) (Nat.le_of_ble_eq_true rfl), pm_two_up (by decide) (Nat.le_of_ble_eq_true rfl)]; rfl

set_option maxRecDepth 100000 in
set_option maxHeartbeats 4000000 in
theorem g_addTownE {ε : Nat → Int32} {d B cnt : Nat} {kp : Value} {ρ : pm_S} {I : Nat → Int32} {A : Nat → Nat → Int32} (hdd : 2 ≤ d) {u : Nat}  (hu : ε 2 = nI u) (hlt : u < 10) (h : gq ε I) : pm_met mX7_addTown d 0 0 B [.ref (B + 1)] cnt (pm_two (cl_L B kp I A) ρ) (pm_Qi (fun v σ' cnt' => v = nI u ∧ hvq (ui ε 2 (nI (u + 1))) B kp ρ cnt σ' cnt')) := by
  refine pm_enter 1 (by decide) (Nat.le_of_ble_eq_true rfl) rfl (fun G hG hR hF => ?_)
  refine pm_aloadn hG dX7_addTown_0 rfl ?_
  refine pm_getf hG dX7_addTown_1 (flX7_14 _ rfl) rfl rfl ?_
  refine pm_iconst (v := 0) hG dX7_addTown_4 (by decide) ?_
  have hu1 : I 2 = nI u := (h.2 2 (by decide)).trans hu
  have ht1 : pm_two (cl_L B kp I A) ρ 2 = some (.inr (9, [.int (nI 10), .int (nI 3), .ref (B + 3), .int (nI u)])) := by rw [← hu1]; rfl
  refine pm_callV (As := [.int 0]) (rest := []) hG hR dX7_addTown_5 (lkX7_75 _ rfl) okV_X9_append rfl rfl (tb_append (d := 1) (by decide) ht1 rfl (by decide) (by decide) (by decide) (by decide) (by decide) (by decide) (by omega)) rfl rfl hdd (Nat.le_refl _) (Nat.le_refl _) (by decide) (pm_ki (fun v1 σ' cnt' hq => ?_))
  obtain ⟨hq, ec1⟩ := hq
  rcases hq with ⟨q1, -, -⟩ | ⟨-, rfl, es1⟩
  · exact absurd q1 (by omega)
  obtain ⟨I1, A1, rfl, rfl, h1⟩ := hq_p2 (kp := kp) (I := I) (A := A) hlt h ⟨es1, ec1⟩
  refine pm_istoreXn (loc' := [some (.ref (B + 1)), some (.int (nI u))]) hG dX7_addTown_8 (by decide) (pm_c1b rfl) rfl ?_
  refine pm_aloadn hG dX7_addTown_9 rfl ?_
  refine pm_getf hG dX7_addTown_10 (flX7_14 _ rfl) rfl rfl ?_
  refine pm_iloadn hG dX7_addTown_13 rfl ?_
  refine pm_iconst (v := 1) hG dX7_addTown_14 (by decide) ?_
  refine pm_iconst (v := (-1)) hG dX7_addTown_15 (by decide) ?_
  refine pm_callV (As := [.int (nI u), .int 1, .int (-1)]) (rest := []) hG hR dX7_addTown_16 (lkX7_61 _ rfl) okV_X9_set rfl rfl (tb_set (d := 1) rfl rfl (pm_tw_of 10 3 (by decide) (by decide) (by decide)) (by decide)) rfl rfl hdd (Nat.le_refl _) (Nat.le_refl _) (by decide) (pm_kv (fun σ' cnt' hq => ?_))
  obtain ⟨I2, A2, rfl, rfl, h2⟩ := hv_a3 (kp := kp) (I := I1) (A := A1) h1 hq
  refine pm_iloadn hG dX7_addTown_19 rfl ?_
  exact pm_iret hG hF dX7_addTown_20 rfl (Nat.le_refl _) (Nat.le_refl _) ⟨_, rfl, rfl, _, _, rfl, rfl, h2⟩

set_option maxRecDepth 100000 in
set_option maxHeartbeats 4000000 in
theorem g_townE1 {ε : Nat → Int32} {d B cnt : Nat} {kp : Value} {ρ : pm_S} {I : Nat → Int32} {A : Nat → Nat → Int32} (hdd : 3 ≤ d) {u : Nat} (hu : ε 2 = nI u) (hlt : u < 10) (h : gq ε I) : pm_met mX11_town d 0 0 B [.ref (B + 0)] cnt (pm_two (cl_L B kp I A) ρ) (pm_Qi (fun v σ' cnt' => v = nI u ∧ hvq (ui ε 2 (nI (u + 1))) B kp ρ cnt σ' cnt')) := by
  refine pm_enter 0 (by decide) (Nat.le_of_ble_eq_true rfl) rfl (fun G hG hR hF => ?_)
  refine pm_aloadn hG dX11_town_0 rfl ?_
  refine pm_aloadn hG dX11_town_1 rfl ?_
  refine pm_getf hG dX11_town_2 (flX11_12 _ rfl) rfl rfl ?_
  refine pm_getf hG dX11_town_5 (flX11_82 _ rfl) rfl rfl ?_
  refine pm_callV (As := []) (rest := [.ref (B + 0)]) hG hR dX11_town_8 (lkX11_86 _ rfl) okV_X9_isFull rfl rfl (tb_isFull (d := 2) rfl) rfl rfl hdd (Nat.le_refl _) (Nat.le_refl _) (by first | decide | exact Nat.le_of_ble_eq_true rfl) (pm_ki (fun v1 σ' cnt' hq => ?_))
  have hu1 : I 2 = nI u := (h.2 2 (by decide)).trans hu
  have ev1 : v1 = 0 := hq.1.trans (by rw [hu1]; exact if_pos (nI_lt hlt (by decide)))
  obtain ⟨I1, A1, rfl, rfl, h1⟩ := hv_id (kp := kp) (I := I) (A := A) h hq.2
  subst ev1
  refine pm_if_eq (tgt := 19) hG dX11_town_11 rfl (fun _ => ?_) (fun q => absurd q (by decide))
  refine pm_aloadn hG dX11_town_19 rfl ?_
  refine pm_getf hG dX11_town_20 (flX11_12 _ rfl) rfl rfl ?_
  refine pm_callV (As := []) (rest := [.ref (B + 0)]) hG hR dX11_town_23 (lkX11_93 _ rfl) okV_X7_addTown rfl rfl (g_addTownE (d := 2) (by decide) hu hlt h1) rfl rfl hdd (Nat.le_refl _) (Nat.le_refl _) (by first | decide | exact Nat.le_of_ble_eq_true rfl) (pm_ki (fun v2 σ' cnt' hq => ?_))
  obtain ⟨rfl, I2, A2, rfl, rfl, h2⟩ := hq
  refine pm_callV (As := [.int (nI u)]) (rest := []) hG hR dX11_town_26 (lkX11_97 _ rfl) okV_X11_told rfl rfl (sx_told (d := 2) (by decide) rfl rfl) rfl rfl hdd (Nat.le_refl _) (Nat.le_refl _) (by decide) (pm_ki (fun v3 σ' cnt' hq => ?_))
  obtain ⟨ev3, ⟨g3, hg3⟩, hc3⟩ := hq
  obtain ⟨I3, A3, rfl, rfl, h3⟩ := hv_a53 (kp := kp) (I := I2) (A := A2) h2 ⟨hg3, hc3⟩
  subst ev3
  exact pm_iret hG hF dX11_town_29 rfl (Nat.le_refl _) (Nat.le_refl _) ⟨_, rfl, rfl, _, _, rfl, rfl, h3⟩

set_option maxRecDepth 100000 in
set_option maxHeartbeats 4000000 in
theorem g_townE0 {ε : Nat → Int32} {d B cnt : Nat} {kp : Value} {ρ : pm_S} {I : Nat → Int32} {A : Nat → Nat → Int32} (hdd : 1 ≤ d) (hu : ε 2 = nI 10) (h : gq ε I) : pm_met mX11_town d 0 0 B [.ref (B + 0)] cnt (pm_two (cl_L B kp I A) ρ) (pm_Qi (fun v σ' cnt' => v = -1000004 ∧ hvq ε B kp ρ cnt σ' cnt')) := by
  refine pm_enter 0 (by decide) (Nat.le_of_ble_eq_true rfl) rfl (fun G hG hR hF => ?_)
  refine pm_aloadn hG dX11_town_0 rfl ?_
  refine pm_aloadn hG dX11_town_1 rfl ?_
  refine pm_getf hG dX11_town_2 (flX11_12 _ rfl) rfl rfl ?_
  refine pm_getf hG dX11_town_5 (flX11_82 _ rfl) rfl rfl ?_
  refine pm_callV (As := []) (rest := [.ref (B + 0)]) hG hR dX11_town_8 (lkX11_86 _ rfl) okV_X9_isFull rfl rfl (tb_isFull (d := 0) rfl) rfl rfl hdd (Nat.le_refl _) (Nat.le_refl _) (by first | decide | exact Nat.le_of_ble_eq_true rfl) (pm_ki (fun v1 σ' cnt' hq => ?_))
  have hu1 : I 2 = nI 10 := (h.2 2 (by decide)).trans hu
  have ev1 : v1 = 1 := hq.1.trans (by rw [hu1]; exact if_neg (nI_nlt (Nat.le_refl _) (by decide)))
  obtain ⟨I1, A1, rfl, rfl, h1⟩ := hv_id (kp := kp) (I := I) (A := A) h hq.2
  subst ev1
  refine pm_if_eq (tgt := 19) hG dX11_town_11 rfl (fun q => absurd q (by decide)) (fun _ => ?_)
  refine pm_ldc hG dX11_town_14 (ctX11_92 _ rfl) ?_
  refine pm_goto (tgt := 26) hG dX11_town_16 rfl ?_
  refine pm_callV (As := [.int (-1000004)]) (rest := []) hG hR dX11_town_26 (lkX11_97 _ rfl) okV_X11_told rfl rfl (sx_told (d := 0) (by decide) rfl rfl) rfl rfl hdd (Nat.le_refl _) (Nat.le_refl _) (by decide) (pm_ki (fun v2 σ' cnt' hq => ?_))
  obtain ⟨ev2, ⟨g2, hg2⟩, hc2⟩ := hq
  obtain ⟨I2, A2, rfl, rfl, h2⟩ := hv_a53 (kp := kp) (I := I1) (A := A1) h1 ⟨hg2, hc2⟩
  subst ev2
  exact pm_iret hG hF dX11_town_29 rfl (Nat.le_refl _) (Nat.le_refl _) ⟨_, rfl, rfl, _, _, rfl, rfl, h2⟩

def vT (x : Int32) : Int32 := if x = nI 10 then -1000004 else x
def tT (x : Int32) : Int32 := if x = nI 10 then x else x + 1
theorem vT_ok {x : Int32} {u : Nat} (e : x = nI u) (h : u < 10) : nI u = vT x ∧ nI (u + 1) = tT x := by
  have h3 : ¬ nI u = nI 10 := fun q => by have := (nI_eq (by omega) (by decide)).mp q; omega
  subst e
  unfold vT tT
  rw [if_neg h3, if_neg h3]
  exact ⟨rfl, (nI_1 u).symm⟩
theorem vT_no {x : Int32} {u : Nat} (e : x = nI u) (h : ¬ u < 10) (h2 : u < 11) : (-1000000) - nI 4 = vT x ∧ x = tT x := by
  obtain rfl : u = 10 := by omega
  subst e
  unfold vT tT
  rw [if_pos rfl, if_pos rfl]
  exact ⟨by decide, rfl⟩
theorem g_townE {ε : Nat → Int32} {d B cnt : Nat} {kp : Value} {ρ : pm_S} {I : Nat → Int32} {A : Nat → Nat → Int32} (hdd : 3 ≤ d) (h : gq ε I) : pm_met mX11_town d 0 0 B [.ref (B + 0)] cnt (pm_two (cl_L B kp I A) ρ) (pm_Qi (fun v σ' cnt' => v = vT (ε 2) ∧ hvq (ui ε 2 (tT (ε 2))) B kp ρ cnt σ' cnt')) := by
  obtain ⟨u, hu, e⟩ := h.used 2 10 (by decide)
  have e2 : ε 2 = nI u := (h.2 2 (by decide)).symm.trans e
  by_cases hlt : u < 10
  · refine pm_mono (g_townE1 (by omega) e2 hlt h) ?_
    rintro r σ' c' ⟨v, rfl, rfl, h2⟩
    exact ⟨_, rfl, (vT_ok e2 hlt).1, by rw [← (vT_ok e2 hlt).2]; exact h2⟩
  · have e3 := vT_no e2 hlt (by omega)
    obtain rfl : u = 10 := by omega
    refine pm_mono (g_townE0 (by omega) e2 h) ?_
    rintro r σ' c' ⟨v, rfl, rfl, h2⟩
    exact ⟨_, rfl, (by decide : (-1000004 : Int32) = (-1000000) - nI 4).trans e3.1, by rw [ui_self e3.2.symm]; exact h2⟩

theorem gt_of_nle {x y : Int32} (h : ¬ x ≤ y) : y < x := by
  rw [Int32.le_iff_toInt_le] at h
  rw [Int32.lt_iff_toInt_lt]; omega
theorem nlt_of_le {x y : Int32} (h : x ≤ y) : ¬ y < x := by
  rw [Int32.le_iff_toInt_le] at h
  rw [Int32.lt_iff_toInt_lt]; omega
theorem le_of_nlt {x y : Int32} (h : ¬ x < y) : y ≤ x := by
  rw [Int32.lt_iff_toInt_lt] at h
  rw [Int32.le_iff_toInt_le]; omega
theorem has_0 {v a t : Int32} (o : v = (if a < 0 ∨ t ≤ a then 0 else 1)) (c : v = 0) : a < 0 ∨ t ≤ a := by
  by_cases q : a < 0 ∨ t ≤ a
  · exact q
  · rw [if_neg q] at o; rw [o] at c; exact absurd c (by decide)
theorem has_1 {v a t : Int32} (o : v = (if a < 0 ∨ t ≤ a then 0 else 1)) (c : ¬ v = 0) : ¬ (a < 0 ∨ t ≤ a) := fun q => c (o.trans (if_pos q))
theorem out_1 {v a lo hi : Int32} (o : v = (if a < lo ∨ hi < a then 1 else 0)) (c : ¬ v = 0) : a < lo ∨ hi < a := by
  by_cases q : a < lo ∨ hi < a
  · exact q
  · rw [if_neg q] at o; exact absurd o c
theorem out_0 {v a lo hi : Int32} (o : v = (if a < lo ∨ hi < a then 1 else 0)) (c : v = 0) : ¬ (a < lo ∨ hi < a) := by
  intro q
  rw [if_pos q] at o; rw [o] at c; exact absurd c (by decide)
theorem not4 {p q r s : Prop} (h1 : ¬ p) (h2 : ¬ q) (h3 : ¬ r) (h4 : ¬ s) : ¬ (p ∨ q ∨ r ∨ s) := by
  rintro (h | h | h | h)
  · exact h1 h
  · exact h2 h
  · exact h3 h
  · exact h4 h
theorem nt_out {x t : Int32} {c : Nat} (e : t = nI c) (hc : c < 2 ^ 30) (h : x < nI 0 ∨ nI c - nI 1 < x) : x < 0 ∨ t ≤ x := by
  subst e
  rcases h with h | h
  · exact Or.inl h
  · refine Or.inr ?_
    have h1 := nI_toInt (n := c) (by omega)
    by_cases h0 : c = 0
    · subst h0
      by_cases q : x < 0
      · have h3 : (nI 0 - nI 1 : Int32).toInt = -1 := by decide
        rw [Int32.lt_iff_toInt_lt, h3] at h
        rw [Int32.lt_iff_toInt_lt, show (0 : Int32).toInt = 0 from rfl] at q; omega
      · exact le_of_nlt q
    · obtain ⟨k, rfl⟩ : ∃ k : Nat, c = k + 1 := ⟨c - 1, by omega⟩
      rw [show nI (k + 1) - nI 1 = nI k from nI_pred k, Int32.lt_iff_toInt_lt, nI_toInt (by omega)] at h
      rw [Int32.le_iff_toInt_le, h1]; omega
theorem nt_in {x t : Int32} {c j : Nat} (e : t = nI c) (hc : c < 2 ^ 30) (h : x = nI j) (hj : j < c) : ¬ (x < 0 ∨ t ≤ x) := by
  subst e h
  rintro (q | q)
  · exact nI_pos (by omega) q
  · have := (nI_leI (by omega) (by omega)).mp q; omega
theorem rg_in {x : Int32} {a b j : Nat} (hb : b < 2 ^ 31) (h : x = nI j) (h1 : a ≤ j) (h2 : j ≤ b) : ¬ (x < nI a ∨ nI b < x) := by
  subst h
  rintro (q | q)
  · exact nI_nlt h1 (by omega) q
  · exact nI_nlt h2 (by omega) q

def vR (t r a b c : Int32) : Int32 := if (a < 0 ∨ t ≤ a) ∨ (b < 0 ∨ t ≤ b) ∨ a = b ∨ (c < 1 ∨ 9 < c) then -1000001 else if 20 ≤ r then -1000004 else r + 1
def tR (t r a b c : Int32) : Int32 := if (a < 0 ∨ t ≤ a) ∨ (b < 0 ∨ t ≤ b) ∨ a = b ∨ (c < 1 ∨ 9 < c) then r else if 20 ≤ r then r else r + 1
theorem vR_n {t r a b c : Int32} (h : (a < 0 ∨ t ≤ a) ∨ (b < 0 ∨ t ≤ b) ∨ a = b ∨ (c < 1 ∨ 9 < c)) : -1000001 = vR t r a b c ∧ r = tR t r a b c := by
  unfold vR tR
  rw [if_pos h, if_pos h]; exact ⟨rfl, rfl⟩
theorem vR_f {t r a b c : Int32} (h : ¬ ((a < 0 ∨ t ≤ a) ∨ (b < 0 ∨ t ≤ b) ∨ a = b ∨ (c < 1 ∨ 9 < c))) (h2 : 20 ≤ r) : -1000004 = vR t r a b c ∧ r = tR t r a b c := by
  unfold vR tR
  rw [if_neg h, if_neg h, if_pos h2, if_pos h2]; exact ⟨rfl, rfl⟩
theorem vR_y {t r a b c : Int32} (h : ¬ ((a < 0 ∨ t ≤ a) ∨ (b < 0 ∨ t ≤ b) ∨ a = b ∨ (c < 1 ∨ 9 < c))) (h2 : ¬ 20 ≤ r) : r + 1 = vR t r a b c ∧ r + 1 = tR t r a b c := by
  unfold vR tR
  rw [if_neg h, if_neg h, if_neg h2, if_neg h2]; exact ⟨rfl, rfl⟩

set_option maxRecDepth 100000 in
set_option maxHeartbeats 4000000 in
theorem g_joinE {ε : Nat → Int32} {d B cnt : Nat} {kp : Value} {ρ : pm_S} {I : Nat → Int32} {A : Nat → Nat → Int32} (hdd : 1 ≤ d) {za zb zc : Int32} (h : gq ε I) : pm_met mX7_join d 0 0 B [.ref (B + 1), .int za, .int zb, .int zc] cnt (pm_two (cl_L B kp I A) ρ) (pm_Qi (fun v σ' cnt' => v = ε 101 + 1 ∧ hvq (ui ε 101 (ε 101 + 1)) B kp ρ cnt σ' cnt')) := by
  refine pm_enter 5 (by decide) (Nat.le_of_ble_eq_true rfl) rfl (fun G hG hR hF => ?_)
  refine pm_aloadn hG dX7_join_0 rfl ?_
  refine pm_getf hG dX7_join_1 (flX7_14 _ rfl) rfl rfl ?_
  refine pm_callV (As := []) (rest := []) hG hR dX7_join_4 (lkX7_79 _ rfl) okV_X9_used rfl rfl (tb_used (d := 0) rfl) rfl rfl hdd (Nat.le_refl _) (Nat.le_refl _) (by decide) (pm_ki (fun v1 σ' cnt' hq => ?_))
  obtain ⟨I1, A1, rfl, rfl, h1⟩ := hv_id (kp := kp) (I := I) (A := A) h hq.2
  refine pm_istoreXi (loc' := [some (.ref (B + 1)), some (.int za), some (.int zb), some (.int zc), some (.int v1), none, none, none, none]) hG dX7_join_7 (by decide) (pm_c1b rfl) rfl ?_
  refine pm_iconst (v := 0) hG dX7_join_9 (by decide) ?_
  refine pm_istoreXi (loc' := [some (.ref (B + 1)), some (.int za), some (.int zb), some (.int zc), some (.int v1), some (.int 0), none, none, none]) hG dX7_join_10 (by decide) (pm_c1b rfl) rfl ?_
  have loop12 : ∀ (m12 : Nat) (I2 : Nat → Int32) (A2 : Nat → Nat → Int32) (x2_5 : Int32), gq ε I2 → (¬ x2_5 < 0) → ((v1 : Int32).toInt - x2_5.toInt).toNat < m12 → pm_wp mX7_join G B 12 [some (.ref (B + 1)), some (.int za), some (.int zb), some (.int zc), some (.int v1), some (.int x2_5), none, none, none] [] 0 0 cnt (pm_two (cl_L B kp I2 A2) ρ) := by
    intro m12
    induction m12 with
    | zero => intro I2 A2 x2_5 _  _ hm; exact absurd hm (Nat.not_lt_zero _)
    | succ m12 ih12 =>
      intro I2 A2 x2_5 h2 s12 hm12
      refine pm_iloadi hG dX7_join_12 rfl ?_
      refine pm_iloadi hG dX7_join_14 rfl ?_
      refine pm_icmp_ge (tgt := 123) hG dX7_join_16 rfl (fun c3 => ?_) (fun c3 => ?_)
      · refine pm_aloadn hG dX7_join_123 rfl ?_
        refine pm_dup hG dX7_join_124 rfl ?_
        refine pm_getf hG dX7_join_125 (flX7_69 _ rfl) rfl rfl ?_
        refine pm_iconst (v := 1) hG dX7_join_128 (by decide) ?_
        refine pm_iadd hG dX7_join_129 ?_
        refine pm_putf hG dX7_join_130 (fwX7_69 _ rfl) rfl rfl rfl ?_
        refine pm_nrm (L' := cl_L B kp (ui I2 101 ((I2 101) + 1)) A2) (by decide) (Nat.le_of_ble_eq_true rfl) rfl ?_
        refine pm_aloadn hG dX7_join_133 rfl ?_
        refine pm_getf hG dX7_join_134 (flX7_69 _ rfl) rfl rfl ?_
        exact pm_iret hG hF dX7_join_137 rfl (Nat.le_refl _) (Nat.le_refl _) ⟨_, rfl, ((gq.inc (k := 101) rfl (by decide) h2).2 101 (by decide)).trans ui_eq, _, _, rfl, rfl, (gq.inc (k := 101) rfl (by decide) h2)⟩
      · refine pm_iconst (v := 0) hG dX7_join_19 (by decide) ?_
        refine pm_istoreXi (loc' := [some (.ref (B + 1)), some (.int za), some (.int zb), some (.int zc), some (.int v1), some (.int x2_5), some (.int 0), none, none]) hG dX7_join_20 (by decide) (pm_c1b rfl) rfl ?_
        have loop22 : ∀ (m22 : Nat) (I5 : Nat → Int32) (A5 : Nat → Nat → Int32) (x5_6 : Int32), gq ε I5 → (¬ x5_6 < 0) → ((v1 : Int32).toInt - x5_6.toInt).toNat < m22 → pm_wp mX7_join G B 22 [some (.ref (B + 1)), some (.int za), some (.int zb), some (.int zc), some (.int v1), some (.int x2_5), some (.int x5_6), none, none] [] 0 0 cnt (pm_two (cl_L B kp I5 A5) ρ) := by
          intro m22
          induction m22 with
          | zero => intro I5 A5 x5_6 _  _ hm; exact absurd hm (Nat.not_lt_zero _)
          | succ m22 ih22 =>
            intro I5 A5 x5_6 h5 s22 hm22
            refine pm_iloadi hG dX7_join_22 rfl ?_
            refine pm_iloadi hG dX7_join_24 rfl ?_
            refine pm_icmp_ge (tgt := 117) hG dX7_join_26 rfl (fun c6 => ?_) (fun c6 => ?_)
            · refine pm_iincX (v := x2_5 + 1) (loc' := [some (.ref (B + 1)), some (.int za), some (.int zb), some (.int zc), some (.int v1), some (.int (x2_5 + 1)), some (.int x5_6), none, none]) hG dX7_join_117 rfl (by rfl) (by decide) (pm_c1b rfl) rfl ?_
              refine pm_goto (tgt := 12) hG dX7_join_120 rfl ?_
              refine pm_fg 6 (loc' := [some (.ref (B + 1)), some (.int za), some (.int zb), some (.int zc), some (.int v1), some (.int (x2_5 + 1)), none, none, none]) rfl ?_
              exact ih12 _ _ (x2_5 + 1) h5 (pm_sd1 c3 s12) (Nat.lt_of_lt_of_le (pm_mu1 c3) (Nat.le_of_lt_succ hm12))
            · refine pm_aloadn hG dX7_join_29 rfl ?_
              refine pm_getf hG dX7_join_30 (flX7_20 _ rfl) rfl rfl ?_
              refine pm_iloadi hG dX7_join_33 rfl ?_
              refine pm_iloadn hG dX7_join_35 rfl ?_
              refine pm_callV (As := [.int x2_5, .int za]) (rest := []) hG hR dX7_join_36 (lkX7_83 _ rfl) okV_X9_get rfl rfl (tb_get (d := 0) rfl rfl (pm_tw_of 10 10 (by decide) (by decide) (by decide))) rfl rfl hdd (Nat.le_refl _) (Nat.le_refl _) (by decide) (pm_ki (fun v7 σ' cnt' hq => ?_))
              obtain ⟨I7, A7, rfl, rfl, h7⟩ := hv_id (kp := kp) (I := I5) (A := A5) h5 hq.2
              refine pm_iloadn hG dX7_join_39 rfl ?_
              refine pm_iadd hG dX7_join_40 ?_
              refine pm_aloadn hG dX7_join_41 rfl ?_
              refine pm_getf hG dX7_join_42 (flX7_20 _ rfl) rfl rfl ?_
              refine pm_iloadn hG dX7_join_45 rfl ?_
              refine pm_iloadi hG dX7_join_46 rfl ?_
              refine pm_callV (As := [.int zb, .int x5_6]) (rest := [.int (v7 + zc)]) hG hR dX7_join_48 (lkX7_83 _ rfl) okV_X9_get rfl rfl (tb_get (d := 0) rfl rfl (pm_tw_of 10 10 (by decide) (by decide) (by decide))) rfl rfl hdd (Nat.le_refl _) (Nat.le_refl _) (by first | decide | exact Nat.le_of_ble_eq_true rfl) (pm_ki (fun v8 σ' cnt' hq => ?_))
              obtain ⟨I8, A8, rfl, rfl, h8⟩ := hv_id (kp := kp) (I := I7) (A := A7) h7 hq.2
              refine pm_iadd hG dX7_join_51 ?_
              refine pm_istoreXi (loc' := [some (.ref (B + 1)), some (.int za), some (.int zb), some (.int zc), some (.int v1), some (.int x2_5), some (.int x5_6), some (.int ((v7 + zc) + v8)), none]) hG dX7_join_52 (by decide) (pm_c1b rfl) rfl ?_
              refine pm_aloadn hG dX7_join_54 rfl ?_
              refine pm_getf hG dX7_join_55 (flX7_20 _ rfl) rfl rfl ?_
              refine pm_iloadi hG dX7_join_58 rfl ?_
              refine pm_iloadn hG dX7_join_60 rfl ?_
              refine pm_callV (As := [.int x2_5, .int zb]) (rest := []) hG hR dX7_join_61 (lkX7_83 _ rfl) okV_X9_get rfl rfl (tb_get (d := 0) rfl rfl (pm_tw_of 10 10 (by decide) (by decide) (by decide))) rfl rfl hdd (Nat.le_refl _) (Nat.le_refl _) (by decide) (pm_ki (fun v9 σ' cnt' hq => ?_))
              obtain ⟨I9, A9, rfl, rfl, h9⟩ := hv_id (kp := kp) (I := I8) (A := A8) h8 hq.2
              refine pm_iloadn hG dX7_join_64 rfl ?_
              refine pm_iadd hG dX7_join_65 ?_
              refine pm_aloadn hG dX7_join_66 rfl ?_
              refine pm_getf hG dX7_join_67 (flX7_20 _ rfl) rfl rfl ?_
              refine pm_iloadn hG dX7_join_70 rfl ?_
              refine pm_iloadi hG dX7_join_71 rfl ?_
              refine pm_callV (As := [.int za, .int x5_6]) (rest := [.int (v9 + zc)]) hG hR dX7_join_73 (lkX7_83 _ rfl) okV_X9_get rfl rfl (tb_get (d := 0) rfl rfl (pm_tw_of 10 10 (by decide) (by decide) (by decide))) rfl rfl hdd (Nat.le_refl _) (Nat.le_refl _) (by first | decide | exact Nat.le_of_ble_eq_true rfl) (pm_ki (fun v10 σ' cnt' hq => ?_))
              obtain ⟨I10, A10, rfl, rfl, h10⟩ := hv_id (kp := kp) (I := I9) (A := A9) h9 hq.2
              refine pm_iadd hG dX7_join_76 ?_
              refine pm_istoreXi (loc' := [some (.ref (B + 1)), some (.int za), some (.int zb), some (.int zc), some (.int v1), some (.int x2_5), some (.int x5_6), some (.int ((v7 + zc) + v8)), some (.int ((v9 + zc) + v10))]) hG dX7_join_77 (by decide) (pm_c1b rfl) rfl ?_
              refine pm_aloadn hG dX7_join_79 rfl ?_
              refine pm_getf hG dX7_join_80 (flX7_20 _ rfl) rfl rfl ?_
              refine pm_iloadi hG dX7_join_83 rfl ?_
              refine pm_iloadi hG dX7_join_85 rfl ?_
              refine pm_aloadn hG dX7_join_87 rfl ?_
              refine pm_getf hG dX7_join_88 (flX7_20 _ rfl) rfl rfl ?_
              refine pm_iloadi hG dX7_join_91 rfl ?_
              refine pm_iloadi hG dX7_join_93 rfl ?_
              refine pm_callV (As := [.int x2_5, .int x5_6]) (rest := [.int x5_6, .int x2_5, .ref (B + 4)]) hG hR dX7_join_95 (lkX7_83 _ rfl) okV_X9_get rfl rfl (tb_get (d := 0) rfl rfl (pm_tw_of 10 10 (by decide) (by decide) (by decide))) rfl rfl hdd (Nat.le_refl _) (Nat.le_refl _) (by first | decide | exact Nat.le_of_ble_eq_true rfl) (pm_ki (fun v11 σ' cnt' hq => ?_))
              obtain ⟨I11, A11, rfl, rfl, h11⟩ := hv_id (kp := kp) (I := I10) (A := A10) h10 hq.2
              refine pm_iloadi hG dX7_join_98 rfl ?_
              refine pm_iloadi hG dX7_join_100 rfl ?_
              refine pm_mmin hG hR dX7_join_102 (mmX7_87 _ rfl) pm_mwmin (by omega) (by first | decide | exact Nat.le_of_ble_eq_true rfl) (Nat.le_refl _) (Nat.le_refl _) ?_
              refine pm_mmin hG hR dX7_join_105 (mmX7_87 _ rfl) pm_mwmin (by omega) (by first | decide | exact Nat.le_of_ble_eq_true rfl) (Nat.le_refl _) (Nat.le_refl _) ?_
              refine pm_callV (As := [.int x2_5, .int x5_6, .int (if (if ((v9 + zc) + v10) < ((v7 + zc) + v8) then (v9 + zc) + v10 else (v7 + zc) + v8) < v11 then if ((v9 + zc) + v10) < ((v7 + zc) + v8) then (v9 + zc) + v10 else (v7 + zc) + v8 else v11)]) (rest := []) hG hR dX7_join_108 (lkX7_61 _ rfl) okV_X9_set rfl rfl (tb_set (d := 0) rfl rfl (pm_tw_of 10 10 (by decide) (by decide) (by decide)) (by decide)) rfl rfl hdd (Nat.le_refl _) (Nat.le_refl _) (by decide) (pm_kv (fun σ' cnt' hq => ?_))
              obtain ⟨I12, A12, rfl, rfl, h12⟩ := hv_a5 (kp := kp) (I := I11) (A := A11) h11 hq
              refine pm_iincX (v := x5_6 + 1) (loc' := [some (.ref (B + 1)), some (.int za), some (.int zb), some (.int zc), some (.int v1), some (.int x2_5), some (.int (x5_6 + 1)), some (.int ((v7 + zc) + v8)), some (.int ((v9 + zc) + v10))]) hG dX7_join_111 rfl (by rfl) (by decide) (pm_c1b rfl) rfl ?_
              refine pm_goto (tgt := 22) hG dX7_join_114 rfl ?_
              refine pm_fg 7 (loc' := [some (.ref (B + 1)), some (.int za), some (.int zb), some (.int zc), some (.int v1), some (.int x2_5), some (.int (x5_6 + 1)), none, some (.int ((v9 + zc) + v10))]) rfl ?_
              refine pm_fg 8 (loc' := [some (.ref (B + 1)), some (.int za), some (.int zb), some (.int zc), some (.int v1), some (.int x2_5), some (.int (x5_6 + 1)), none, none]) rfl ?_
              exact ih22 _ _ (x5_6 + 1) h12 (pm_sd1 c6 s22) (Nat.lt_of_lt_of_le (pm_mu1 c6) (Nat.le_of_lt_succ hm22))
        exact loop22 _ _ _ 0 h2 (by decide) (Nat.lt_succ_self _)
  exact loop12 _ _ _ 0 h1 (by decide) (Nat.lt_succ_self _)

set_option maxRecDepth 100000 in
set_option maxHeartbeats 4000000 in
theorem g_roadE {ε : Nat → Int32} {d B cnt : Nat} {kp : Value} {ρ : pm_S} {I : Nat → Int32} {A : Nat → Nat → Int32} (hdd : 2 ≤ d) {za zb zc : Int32} (h : gq ε I) : pm_met mX11_road d 0 0 B [.ref (B + 0), .int za, .int zb, .int zc] cnt (pm_two (cl_L B kp I A) ρ) (pm_Qi (fun v σ' cnt' => v = vR (ε 2) (ε 101) za zb zc ∧ hvq (ui ε 101 (tR (ε 2) (ε 101) za zb zc)) B kp ρ cnt σ' cnt')) := by
  refine pm_enter 0 (by decide) (Nat.le_of_ble_eq_true rfl) rfl (fun G hG hR hF => ?_)
  refine pm_aloadn hG dX11_road_0 rfl ?_
  refine pm_getf hG dX11_road_1 (flX11_12 _ rfl) rfl rfl ?_
  refine pm_getf hG dX11_road_4 (flX11_82 _ rfl) rfl rfl ?_
  refine pm_iloadn hG dX11_road_7 rfl ?_
  refine pm_callV (As := [.int za]) (rest := []) hG hR dX11_road_8 (lkX11_101 _ rfl) okV_X9_has rfl rfl (tb_has (d := 1) rfl) rfl rfl hdd (Nat.le_refl _) (Nat.le_refl _) (by decide) (pm_ki (fun v1 σ' cnt' hq => ?_))
  have o1 : v1 = (if za < 0 ∨ ε 2 ≤ za then 0 else 1) := by rw [← h.2 2 (by decide)]; exact hq.1
  have b1 := pm_b01 hq.1
  obtain ⟨I1, A1, rfl, rfl, h1⟩ := hv_id (kp := kp) (I := I) (A := A) h hq.2
  refine pm_if_eq (tgt := 43) hG dX11_road_11 rfl (fun c2 => ?_) (fun c2 => ?_)
  · refine pm_aloadn hG dX11_road_43 rfl ?_
    refine pm_ldc hG dX11_road_44 (ctX11_109 _ rfl) ?_
    refine pm_callV (As := [.int (-1000001)]) (rest := []) hG hR dX11_road_46 (lkX11_97 _ rfl) okV_X11_told rfl rfl (sx_told (d := 1) (by decide) rfl rfl) rfl rfl hdd (Nat.le_refl _) (Nat.le_refl _) (by decide) (pm_ki (fun v3 σ' cnt' hq => ?_))
    obtain ⟨ev3, ⟨g3, hg3⟩, hc3⟩ := hq
    obtain ⟨I3, A3, rfl, rfl, h3⟩ := hv_a53 (kp := kp) (I := I1) (A := A1) h1 ⟨hg3, hc3⟩
    subst ev3
    exact pm_iret hG hF dX11_road_49 rfl (Nat.le_refl _) (Nat.le_refl _) ⟨_, rfl, (vR_n (t := ε 2) (r := ε 101) (a := za) (b := zb) (c := zc) (Or.inl (has_0 o1 c2))).1, _, _, rfl, rfl, by rw [ui_self (vR_n (t := ε 2) (r := ε 101) (a := za) (b := zb) (c := zc) (Or.inl (has_0 o1 c2))).2.symm]; exact h3⟩
  · refine pm_aloadn hG dX11_road_14 rfl ?_
    refine pm_getf hG dX11_road_15 (flX11_12 _ rfl) rfl rfl ?_
    refine pm_getf hG dX11_road_18 (flX11_82 _ rfl) rfl rfl ?_
    refine pm_iloadn hG dX11_road_21 rfl ?_
    refine pm_callV (As := [.int zb]) (rest := []) hG hR dX11_road_22 (lkX11_101 _ rfl) okV_X9_has rfl rfl (tb_has (d := 1) rfl) rfl rfl hdd (Nat.le_refl _) (Nat.le_refl _) (by decide) (pm_ki (fun v4 σ' cnt' hq => ?_))
    have o4 : v4 = (if zb < 0 ∨ ε 2 ≤ zb then 0 else 1) := by rw [← h1.2 2 (by decide)]; exact hq.1
    have b4 := pm_b01 hq.1
    obtain ⟨I4, A4, rfl, rfl, h4⟩ := hv_id (kp := kp) (I := I1) (A := A1) h1 hq.2
    refine pm_if_eq (tgt := 43) hG dX11_road_25 rfl (fun c5 => ?_) (fun c5 => ?_)
    · refine pm_aloadn hG dX11_road_43 rfl ?_
      refine pm_ldc hG dX11_road_44 (ctX11_109 _ rfl) ?_
      refine pm_callV (As := [.int (-1000001)]) (rest := []) hG hR dX11_road_46 (lkX11_97 _ rfl) okV_X11_told rfl rfl (sx_told (d := 1) (by decide) rfl rfl) rfl rfl hdd (Nat.le_refl _) (Nat.le_refl _) (by decide) (pm_ki (fun v6 σ' cnt' hq => ?_))
      obtain ⟨ev6, ⟨g6, hg6⟩, hc6⟩ := hq
      obtain ⟨I6, A6, rfl, rfl, h6⟩ := hv_a53 (kp := kp) (I := I4) (A := A4) h4 ⟨hg6, hc6⟩
      subst ev6
      exact pm_iret hG hF dX11_road_49 rfl (Nat.le_refl _) (Nat.le_refl _) ⟨_, rfl, (vR_n (t := ε 2) (r := ε 101) (a := za) (b := zb) (c := zc) (Or.inr (Or.inl (has_0 o4 c5)))).1, _, _, rfl, rfl, by rw [ui_self (vR_n (t := ε 2) (r := ε 101) (a := za) (b := zb) (c := zc) (Or.inr (Or.inl (has_0 o4 c5)))).2.symm]; exact h6⟩
    · refine pm_iloadn hG dX11_road_28 rfl ?_
      refine pm_iloadn hG dX11_road_29 rfl ?_
      refine pm_icmp_eq (tgt := 43) hG dX11_road_30 rfl (fun c7 => ?_) (fun c7 => ?_)
      · refine pm_aloadn hG dX11_road_43 rfl ?_
        refine pm_ldc hG dX11_road_44 (ctX11_109 _ rfl) ?_
        refine pm_callV (As := [.int (-1000001)]) (rest := []) hG hR dX11_road_46 (lkX11_97 _ rfl) okV_X11_told rfl rfl (sx_told (d := 1) (by decide) rfl rfl) rfl rfl hdd (Nat.le_refl _) (Nat.le_refl _) (by decide) (pm_ki (fun v8 σ' cnt' hq => ?_))
        obtain ⟨ev8, ⟨g8, hg8⟩, hc8⟩ := hq
        obtain ⟨I8, A8, rfl, rfl, h8⟩ := hv_a53 (kp := kp) (I := I4) (A := A4) h4 ⟨hg8, hc8⟩
        subst ev8
        exact pm_iret hG hF dX11_road_49 rfl (Nat.le_refl _) (Nat.le_refl _) ⟨_, rfl, (vR_n (t := ε 2) (r := ε 101) (a := za) (b := zb) (c := zc) (Or.inr (Or.inr (Or.inl c7)))).1, _, _, rfl, rfl, by rw [ui_self (vR_n (t := ε 2) (r := ε 101) (a := za) (b := zb) (c := zc) (Or.inr (Or.inr (Or.inl c7)))).2.symm]; exact h8⟩
      · refine pm_iloadn hG dX11_road_33 rfl ?_
        refine pm_iconst (v := 1) hG dX11_road_34 (by decide) ?_
        refine pm_bipush (v := 9) hG dX11_road_35 (by decide) ?_
        refine pm_callS (As := [.int zc, .int 1, .int 9]) (rest := []) hG hR dX11_road_37 (lkX11_105 _ rfl) okS_X11_isOutside (sx_isOutside (d := 1)) rfl rfl hdd (Nat.le_refl _) (Nat.le_refl _) (by decide) (pm_ki (fun v9 σ' cnt' hq => ?_))
        have o9 := hq.1
        have b9 := pm_b10 hq.1
        obtain ⟨I9, A9, rfl, rfl, h9⟩ := hv_id (kp := kp) (I := I4) (A := A4) h4 hq.2
        refine pm_if_eq (tgt := 50) hG dX11_road_40 rfl (fun c10 => ?_) (fun c10 => ?_)
        · refine pm_aloadn hG dX11_road_50 rfl ?_
          refine pm_aloadn hG dX11_road_51 rfl ?_
          refine pm_getf hG dX11_road_52 (flX11_12 _ rfl) rfl rfl ?_
          refine pm_getf hG dX11_road_55 (flX11_110 _ rfl) rfl rfl ?_
          refine pm_bipush (v := 20) hG dX11_road_58 (by decide) ?_
          refine pm_icmp_lt (tgt := 68) hG dX11_road_60 rfl (fun c11 => ?_) (fun c11 => ?_)
          · refine pm_aloadn hG dX11_road_68 rfl ?_
            refine pm_getf hG dX11_road_69 (flX11_12 _ rfl) rfl rfl ?_
            refine pm_iloadn hG dX11_road_72 rfl ?_
            refine pm_iloadn hG dX11_road_73 rfl ?_
            refine pm_iloadn hG dX11_road_74 rfl ?_
            refine pm_callV (As := [.int za, .int zb, .int zc]) (rest := [.ref (B + 0)]) hG hR dX11_road_75 (lkX11_114 _ rfl) okV_X7_join rfl rfl (g_joinE (d := 1) (by decide) h9) rfl rfl hdd (Nat.le_refl _) (Nat.le_refl _) (by first | decide | exact Nat.le_of_ble_eq_true rfl) (pm_ki (fun v12 σ' cnt' hq => ?_))
            obtain ⟨rfl, I12, A12, rfl, rfl, h12⟩ := hq
            refine pm_callV (As := [.int (ε 101 + 1)]) (rest := []) hG hR dX11_road_78 (lkX11_97 _ rfl) okV_X11_told rfl rfl (sx_told (d := 1) (by decide) rfl rfl) rfl rfl hdd (Nat.le_refl _) (Nat.le_refl _) (by decide) (pm_ki (fun v13 σ' cnt' hq => ?_))
            obtain ⟨ev13, ⟨g13, hg13⟩, hc13⟩ := hq
            obtain ⟨I13, A13, rfl, rfl, h13⟩ := hv_a53 (kp := kp) (I := I12) (A := A12) h12 ⟨hg13, hc13⟩
            subst ev13
            exact pm_iret hG hF dX11_road_81 rfl (Nat.le_refl _) (Nat.le_refl _) ⟨_, rfl, (vR_y (t := ε 2) (r := ε 101) (a := za) (b := zb) (c := zc) (not4 (has_1 o1 c2) (has_1 o4 c5) c7 (out_0 o9 c10)) (fun q => nlt_of_le q (by rw [← h9.2 101 (by decide)]; exact c11))).1, _, _, rfl, rfl, by rw [← (vR_y (t := ε 2) (r := ε 101) (a := za) (b := zb) (c := zc) (not4 (has_1 o1 c2) (has_1 o4 c5) c7 (out_0 o9 c10)) (fun q => nlt_of_le q (by rw [← h9.2 101 (by decide)]; exact c11))).2]; exact h13⟩
          · refine pm_ldc hG dX11_road_63 (ctX11_92 _ rfl) ?_
            refine pm_goto (tgt := 78) hG dX11_road_65 rfl ?_
            refine pm_callV (As := [.int (-1000004)]) (rest := []) hG hR dX11_road_78 (lkX11_97 _ rfl) okV_X11_told rfl rfl (sx_told (d := 1) (by decide) rfl rfl) rfl rfl hdd (Nat.le_refl _) (Nat.le_refl _) (by decide) (pm_ki (fun v14 σ' cnt' hq => ?_))
            obtain ⟨ev14, ⟨g14, hg14⟩, hc14⟩ := hq
            obtain ⟨I14, A14, rfl, rfl, h14⟩ := hv_a53 (kp := kp) (I := I9) (A := A9) h9 ⟨hg14, hc14⟩
            subst ev14
            exact pm_iret hG hF dX11_road_81 rfl (Nat.le_refl _) (Nat.le_refl _) ⟨_, rfl, (vR_f (t := ε 2) (r := ε 101) (a := za) (b := zb) (c := zc) (not4 (has_1 o1 c2) (has_1 o4 c5) c7 (out_0 o9 c10)) (by rw [← h9.2 101 (by decide)]; exact le_of_nlt c11)).1, _, _, rfl, rfl, by rw [ui_self (vR_f (t := ε 2) (r := ε 101) (a := za) (b := zb) (c := zc) (not4 (has_1 o1 c2) (has_1 o4 c5) c7 (out_0 o9 c10)) (by rw [← h9.2 101 (by decide)]; exact le_of_nlt c11)).2.symm]; exact h14⟩
        · refine pm_aloadn hG dX11_road_43 rfl ?_
          refine pm_ldc hG dX11_road_44 (ctX11_109 _ rfl) ?_
          refine pm_callV (As := [.int (-1000001)]) (rest := []) hG hR dX11_road_46 (lkX11_97 _ rfl) okV_X11_told rfl rfl (sx_told (d := 1) (by decide) rfl rfl) rfl rfl hdd (Nat.le_refl _) (Nat.le_refl _) (by decide) (pm_ki (fun v15 σ' cnt' hq => ?_))
          obtain ⟨ev15, ⟨g15, hg15⟩, hc15⟩ := hq
          obtain ⟨I15, A15, rfl, rfl, h15⟩ := hv_a53 (kp := kp) (I := I9) (A := A9) h9 ⟨hg15, hc15⟩
          subst ev15
          exact pm_iret hG hF dX11_road_49 rfl (Nat.le_refl _) (Nat.le_refl _) ⟨_, rfl, (vR_n (t := ε 2) (r := ε 101) (a := za) (b := zb) (c := zc) (Or.inr (Or.inr (Or.inr (out_1 o9 c10))))).1, _, _, rfl, rfl, by rw [ui_self (vR_n (t := ε 2) (r := ε 101) (a := za) (b := zb) (c := zc) (Or.inr (Or.inr (Or.inr (out_1 o9 c10))))).2.symm]; exact h15⟩
