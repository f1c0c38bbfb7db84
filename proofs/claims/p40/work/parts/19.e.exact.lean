/-! ===== methods that change a tracked number ===== -/
theorem gq.app {ε I : Nat → Int32} {k : Nat} (n j : Nat) (hT : gcT.all (fun q => q.1 != k || q.2 == n) = true) (hj : j ≤ n) (h : gq ε I) : gq (ui ε k (nI j)) (ui I k (nI j)) := by
  simp only [List.all_eq_true, bne_iff_ne, Bool.or_eq_true, beq_iff_eq] at hT
  refine ⟨fun q hq => ?_, fun q hq => ?_⟩
  · by_cases e1 : q.1 = k
    · rcases hT q hq with h1 | h1
      · exact absurd e1 h1
      · rw [e1, h1]; exact ⟨j, hj, ui_eq⟩
    · rw [ui_ne e1]; exact h.1 q hq
  · by_cases e1 : q = k
    · subst e1; rw [ui_eq, ui_eq]
    · rw [ui_ne e1, ui_ne e1]; exact h.2 q hq
theorem gq.inc {ε I : Nat → Int32} {k : Nat} (hk : gcT.all (fun q => q.1 != k) = true) (hm : k ∈ gqT) (h : gq ε I) : gq (ui ε k (ε k + 1)) (ui I k (I k + 1)) := by
  simp only [List.all_eq_true, bne_iff_ne] at hk
  refine ⟨fun q hq => by rw [ui_ne (hk q hq)]; exact h.1 q hq, fun q hq => ?_⟩
  by_cases e1 : q = k
  · subst e1; rw [ui_eq, ui_eq, h.2 q hq]
  · rw [ui_ne e1, ui_ne e1]; exact h.2 q hq
theorem pm_mono {M : pm_M} {d mc ms B cnt : Nat} {av : List Value} {σ : pm_S} {Q Q1 : Option Value → pm_S → Nat → Prop} (hM : pm_met M d mc ms B av cnt σ Q1) (hQ : ∀ (r : Option Value) (σ' : pm_S) (c' : Nat), Q1 r σ' c' → Q r σ' c') : pm_met M d mc ms B av cnt σ Q := by
  intro l D cI p e ha hf hc s m args below g1 g2 hP hK
  obtain ⟨n, o, k1, k2, k3, ⟨r, σ', c', q1, q2, q3⟩, L⟩ := hM l D cI p e ha hf hc s m args below g1 g2 hP hK
  exact ⟨n, o, k1, k2, k3, ⟨r, σ', c', q1, hQ _ _ _ q2, q3⟩, L⟩
theorem ui_self {ε : Nat → Int32} {k : Nat} {v : Int32} (h : v = ε k) : ui ε k v = ε := by
  funext j
  unfold ui
  by_cases e : j = k
  · rw [if_pos e, h, e]
  · rw [if_neg e]
theorem pm_dep {M : pm_M} {d d' mc ms B cnt : Nat} {av : List Value} {σ : pm_S} {Q : Option Value → pm_S → Nat → Prop} (h : ∀ d : Nat, d' ≤ d → pm_met M d mc ms B av cnt σ Q) (hd : d' ≤ d) : pm_met M d mc ms B av cnt σ Q := h d hd
theorem gq.st {ε I : Nat → Int32} {k : Nat} {v : Int32} (hk : gcT.all (fun q => q.1 != k) = true) (h : gq ε I) : gq (ui ε k v) (ui I k v) := by
  simp only [List.all_eq_true, bne_iff_ne] at hk
  refine ⟨fun q hq => by rw [ui_ne (hk q hq)]; exact h.1 q hq, fun q hq => ?_⟩
  by_cases e1 : q = k
  · subst e1; rw [ui_eq, ui_eq]
  · rw [ui_ne e1, ui_ne e1]; exact h.2 q hq

/-! ===== guards ===== -/
def gS (ε : Nat → Int32) : Nat → Int32 := pm5 (ε 210) (ε 211) (ε 212) (ε 213) (ε 214)
theorem gq.g {ε I : Nat → Int32} (h : gq ε I) : pm5 (I 210) (I 211) (I 212) (I 213) (I 214) = gS ε := by
  unfold gS; rw [h.2 210 (by decide), h.2 211 (by decide), h.2 212 (by decide), h.2 213 (by decide), h.2 214 (by decide)]
abbrev gO (a b : Int32) : Prop := (a < 0 ∨ 4 < a) ∨ (b < 0 ∨ 6 < b)
def vG (f : Nat → Int32) (a b : Int32) : Int32 := if gO a b then -1000001 else f a.toNatClampNeg
def tG (ε : Nat → Int32) (a b : Int32) : Nat → Int32 := if gO a b then ε else ui ε (210 + a.toNatClampNeg) b
theorem vG_n {f : Nat → Int32} {a b : Int32} (h : gO a b) : vG f a b = -1000001 := if_pos h
theorem vG_y {f : Nat → Int32} {a b : Int32} (h : ¬ gO a b) : vG f a b = f a.toNatClampNeg := if_neg h
theorem tG_n {ε : Nat → Int32} {a b : Int32} (h : gO a b) : tG ε a b = ε := if_pos h
theorem tG_y {ε : Nat → Int32} {a b : Int32} (h : ¬ gO a b) : tG ε a b = ui ε (210 + a.toNatClampNeg) b := if_neg h
theorem in5 {x : Int32} (h : ¬ (x < 0 ∨ 4 < x)) : x = 0 ∨ x = 1 ∨ x = 2 ∨ x = 3 ∨ x = 4 := by
  have h1 : ¬ x < 0 := fun q => h (Or.inl q)
  have h2 : ¬ 4 < x := fun q => h (Or.inr q)
  have a1 : (0 : Int32).toInt = 0 := by decide
  have a2 : (4 : Int32).toInt = 4 := by decide
  simp only [Int32.lt_iff_toInt_lt, a1, a2] at h1 h2
  rcases (show x.toInt = 0 ∨ x.toInt = 1 ∨ x.toInt = 2 ∨ x.toInt = 3 ∨ x.toInt = 4 by omega) with q | q | q | q | q
  · exact Or.inl (Int32.toInt_inj.mp (q.trans (by decide)))
  · exact Or.inr (Or.inl (Int32.toInt_inj.mp (q.trans (by decide))))
  · exact Or.inr (Or.inr (Or.inl (Int32.toInt_inj.mp (q.trans (by decide)))))
  · exact Or.inr (Or.inr (Or.inr (Or.inl (Int32.toInt_inj.mp (q.trans (by decide))))))
  · exact Or.inr (Or.inr (Or.inr (Or.inr (Int32.toInt_inj.mp (q.trans (by decide))))))

theorem pm5_ts0 {a0 a1 a2 a3 a4 x : Int32} : pm_ts (nI 5) (nI 1) (pm5 a0 a1 a2 a3 a4) 0 0 x = pm5 x a1 a2 a3 a4 := by
  unfold pm_ts
  rw [if_neg (by decide), show ((0 : Int32) * nI 1 + 0).toNatClampNeg = 0 by decide]
  exact pm5_u0
theorem pm5_tg0 {f : Nat → Int32} : pm_tg (nI 5) (nI 1) f 0 0 = f 0 := by
  unfold pm_tg
  rw [if_neg (by decide), show ((0 : Int32) * nI 1 + 0).toNatClampNeg = 0 by decide]
theorem hq_g0 {ε : Nat → Int32} {B cnt cnt' : Nat} {kp : Value} {ρ σ' : pm_S} {I : Nat → Int32} {A : Nat → Nat → Int32} {x : Int32} (h : gq ε I) (hq : σ' = pm_up (pm_two (cl_L B kp I A) ρ) 21 (.inl (5, pm_ts (nI 5) (nI 1) (pm5 (I 210) (I 211) (I 212) (I 213) (I 214)) 0 0 x)) ∧ cnt' = cnt) : hvq (ui ε 210 x) B kp ρ cnt σ' cnt' := by
  refine ⟨ui I 210 x, A, ?_, hq.2.symm, gq.st rfl h⟩
  rw [hq.1, pm5_ts0, pm_two_up (by decide) (Nat.le_of_ble_eq_true rfl)]; rfl

theorem pm5_ts1 {a0 a1 a2 a3 a4 x : Int32} : pm_ts (nI 5) (nI 1) (pm5 a0 a1 a2 a3 a4) 1 0 x = pm5 a0 x a2 a3 a4 := by
  unfold pm_ts
  rw [if_neg (by decide), show ((1 : Int32) * nI 1 + 0).toNatClampNeg = 1 by decide]
  exact pm5_u1
theorem pm5_tg1 {f : Nat → Int32} : pm_tg (nI 5) (nI 1) f 1 0 = f 1 := by
  unfold pm_tg
  rw [if_neg (by decide), show ((1 : Int32) * nI 1 + 0).toNatClampNeg = 1 by decide]
theorem hq_g1 {ε : Nat → Int32} {B cnt cnt' : Nat} {kp : Value} {ρ σ' : pm_S} {I : Nat → Int32} {A : Nat → Nat → Int32} {x : Int32} (h : gq ε I) (hq : σ' = pm_up (pm_two (cl_L B kp I A) ρ) 21 (.inl (5, pm_ts (nI 5) (nI 1) (pm5 (I 210) (I 211) (I 212) (I 213) (I 214)) 1 0 x)) ∧ cnt' = cnt) : hvq (ui ε 211 x) B kp ρ cnt σ' cnt' := by
  refine ⟨ui I 211 x, A, ?_, hq.2.symm, gq.st rfl h⟩
  rw [hq.1, pm5_ts1, pm_two_up (by decide) (Nat.le_of_ble_eq_true rfl)]; rfl

theorem pm5_ts2 {a0 a1 a2 a3 a4 x : Int32} : pm_ts (nI 5) (nI 1) (pm5 a0 a1 a2 a3 a4) 2 0 x = pm5 a0 a1 x a3 a4 := by
  unfold pm_ts
  rw [if_neg (by decide), show ((2 : Int32) * nI 1 + 0).toNatClampNeg = 2 by decide]
  exact pm5_u2
theorem pm5_tg2 {f : Nat → Int32} : pm_tg (nI 5) (nI 1) f 2 0 = f 2 := by
  unfold pm_tg
  rw [if_neg (by decide), show ((2 : Int32) * nI 1 + 0).toNatClampNeg = 2 by decide]
theorem hq_g2 {ε : Nat → Int32} {B cnt cnt' : Nat} {kp : Value} {ρ σ' : pm_S} {I : Nat → Int32} {A : Nat → Nat → Int32} {x : Int32} (h : gq ε I) (hq : σ' = pm_up (pm_two (cl_L B kp I A) ρ) 21 (.inl (5, pm_ts (nI 5) (nI 1) (pm5 (I 210) (I 211) (I 212) (I 213) (I 214)) 2 0 x)) ∧ cnt' = cnt) : hvq (ui ε 212 x) B kp ρ cnt σ' cnt' := by
  refine ⟨ui I 212 x, A, ?_, hq.2.symm, gq.st rfl h⟩
  rw [hq.1, pm5_ts2, pm_two_up (by decide) (Nat.le_of_ble_eq_true rfl)]; rfl

theorem pm5_ts3 {a0 a1 a2 a3 a4 x : Int32} : pm_ts (nI 5) (nI 1) (pm5 a0 a1 a2 a3 a4) 3 0 x = pm5 a0 a1 a2 x a4 := by
  unfold pm_ts
  rw [if_neg (by decide), show ((3 : Int32) * nI 1 + 0).toNatClampNeg = 3 by decide]
  exact pm5_u3
theorem pm5_tg3 {f : Nat → Int32} : pm_tg (nI 5) (nI 1) f 3 0 = f 3 := by
  unfold pm_tg
  rw [if_neg (by decide), show ((3 : Int32) * nI 1 + 0).toNatClampNeg = 3 by decide]
theorem hq_g3 {ε : Nat → Int32} {B cnt cnt' : Nat} {kp : Value} {ρ σ' : pm_S} {I : Nat → Int32} {A : Nat → Nat → Int32} {x : Int32} (h : gq ε I) (hq : σ' = pm_up (pm_two (cl_L B kp I A) ρ) 21 (.inl (5, pm_ts (nI 5) (nI 1) (pm5 (I 210) (I 211) (I 212) (I 213) (I 214)) 3 0 x)) ∧ cnt' = cnt) : hvq (ui ε 213 x) B kp ρ cnt σ' cnt' := by
  refine ⟨ui I 213 x, A, ?_, hq.2.symm, gq.st rfl h⟩
  rw [hq.1, pm5_ts3, pm_two_up (by decide) (Nat.le_of_ble_eq_true rfl)]; rfl

theorem pm5_ts4 {a0 a1 a2 a3 a4 x : Int32} : pm_ts (nI 5) (nI 1) (pm5 a0 a1 a2 a3 a4) 4 0 x = pm5 a0 a1 a2 a3 x := by
  unfold pm_ts
  rw [if_neg (by decide), show ((4 : Int32) * nI 1 + 0).toNatClampNeg = 4 by decide]
  exact pm5_u4
theorem pm5_tg4 {f : Nat → Int32} : pm_tg (nI 5) (nI 1) f 4 0 = f 4 := by
  unfold pm_tg
  rw [if_neg (by decide), show ((4 : Int32) * nI 1 + 0).toNatClampNeg = 4 by decide]
theorem hq_g4 {ε : Nat → Int32} {B cnt cnt' : Nat} {kp : Value} {ρ σ' : pm_S} {I : Nat → Int32} {A : Nat → Nat → Int32} {x : Int32} (h : gq ε I) (hq : σ' = pm_up (pm_two (cl_L B kp I A) ρ) 21 (.inl (5, pm_ts (nI 5) (nI 1) (pm5 (I 210) (I 211) (I 212) (I 213) (I 214)) 4 0 x)) ∧ cnt' = cnt) : hvq (ui ε 214 x) B kp ρ cnt σ' cnt' := by
  refine ⟨ui I 214 x, A, ?_, hq.2.symm, gq.st rfl h⟩
  rw [hq.1, pm5_ts4, pm_two_up (by decide) (Nat.le_of_ble_eq_true rfl)]; rfl

set_option maxRecDepth 100000 in
set_option maxHeartbeats 4000000 in
theorem g_guardE0 {ε : Nat → Int32} {d B cnt : Nat} {kp : Value} {ρ : pm_S} {I : Nat → Int32} {A : Nat → Nat → Int32} (hdd : 2 ≤ d) {zb : Int32} (hz : ¬ (zb < 0 ∨ 6 < zb)) (h : gq ε I) : pm_met mX11_guard d 0 0 B [.ref (B + 0), .int 0, .int zb] cnt (pm_two (cl_L B kp I A) ρ) (pm_Qi (fun v σ' cnt' => v = gS ε 0 ∧ hvq (ui ε 210 zb) B kp ρ cnt σ' cnt')) := by
  refine pm_enter 0 (by decide) (Nat.le_of_ble_eq_true rfl) rfl (fun G hG hR hF => ?_)
  refine pm_iloadn hG dX11_guard_0 rfl ?_
  refine pm_iconst (v := 0) hG dX11_guard_1 (by decide) ?_
  refine pm_iconst (v := 4) hG dX11_guard_2 (by decide) ?_
  refine pm_callS (As := [.int 0, .int 0, .int 4]) (rest := []) hG hR dX11_guard_3 (lkX11_105 _ rfl) okS_X11_isOutside (sx_isOutside (d := 1)) rfl rfl hdd (Nat.le_refl _) (Nat.le_refl _) (by decide) (pm_ki (fun v1 σ' cnt' hq => ?_))
  obtain rfl : v1 = 0 := hq.1.trans (by decide)
  obtain ⟨I1, A1, rfl, rfl, h1⟩ := hv_id (kp := kp) (I := I) (A := A) h hq.2
  refine pm_if_ne (tgt := 19) hG dX11_guard_6 rfl (fun q => absurd q (by decide)) (fun _ => ?_)
  refine pm_iloadn hG dX11_guard_9 rfl ?_
  refine pm_iconst (v := 0) hG dX11_guard_10 (by decide) ?_
  refine pm_bipush (v := 6) hG dX11_guard_11 (by decide) ?_
  refine pm_callS (As := [.int zb, .int 0, .int 6]) (rest := []) hG hR dX11_guard_13 (lkX11_105 _ rfl) okS_X11_isOutside (sx_isOutside (d := 1)) rfl rfl hdd (Nat.le_refl _) (Nat.le_refl _) (by decide) (pm_ki (fun v2 σ' cnt' hq => ?_))
  obtain rfl : v2 = 0 := hq.1.trans (if_neg hz)
  obtain ⟨I2, A2, rfl, rfl, h2⟩ := hv_id (kp := kp) (I := I1) (A := A1) h1 hq.2
  refine pm_if_eq (tgt := 26) hG dX11_guard_16 rfl (fun _ => ?_) (fun q => absurd q (by decide))
  refine pm_aloadn hG dX11_guard_26 rfl ?_
  refine pm_getf hG dX11_guard_27 (flX11_12 _ rfl) rfl rfl ?_
  refine pm_getf hG dX11_guard_30 (flX11_311 _ rfl) rfl rfl ?_
  refine pm_iloadn hG dX11_guard_33 rfl ?_
  refine pm_iconst (v := 0) hG dX11_guard_34 (by decide) ?_
  refine pm_iloadn hG dX11_guard_35 rfl ?_
  refine pm_callV (As := [.int 0, .int 0, .int zb]) (rest := []) hG hR dX11_guard_36 (lkX11_248 _ rfl) okV_X9_swap rfl rfl (tb_swap (d := 1) (rows := nI 5) (width := nI 1) (f := pm5 (I2 210) (I2 211) (I2 212) (I2 213) (I2 214)) (by decide) rfl rfl (pm_tw_of 5 1 (by decide) (by decide) (by decide)) (by decide)) rfl rfl hdd (Nat.le_refl _) (Nat.le_refl _) (by decide) (pm_ki (fun v3 σ' cnt' hq => ?_))
  obtain rfl : v3 = gS ε 0 := hq.1.trans (pm5_tg0.trans (by rw [gq.g h2]))
  obtain ⟨I3, A3, rfl, rfl, h3⟩ := hq_g0 (kp := kp) (I := I2) (A := A2) h2 hq.2
  exact pm_iret hG hF dX11_guard_39 rfl (Nat.le_refl _) (Nat.le_refl _) ⟨_, rfl, rfl, _, _, rfl, rfl, h3⟩

set_option maxRecDepth 100000 in
set_option maxHeartbeats 4000000 in
theorem g_guardE1 {ε : Nat → Int32} {d B cnt : Nat} {kp : Value} {ρ : pm_S} {I : Nat → Int32} {A : Nat → Nat → Int32} (hdd : 2 ≤ d) {zb : Int32} (hz : ¬ (zb < 0 ∨ 6 < zb)) (h : gq ε I) : pm_met mX11_guard d 0 0 B [.ref (B + 0), .int 1, .int zb] cnt (pm_two (cl_L B kp I A) ρ) (pm_Qi (fun v σ' cnt' => v = gS ε 1 ∧ hvq (ui ε 211 zb) B kp ρ cnt σ' cnt')) := by
  refine pm_enter 0 (by decide) (Nat.le_of_ble_eq_true rfl) rfl (fun G hG hR hF => ?_)
  refine pm_iloadn hG dX11_guard_0 rfl ?_
  refine pm_iconst (v := 0) hG dX11_guard_1 (by decide) ?_
  refine pm_iconst (v := 4) hG dX11_guard_2 (by decide) ?_
  refine pm_callS (As := [.int 1, .int 0, .int 4]) (rest := []) hG hR dX11_guard_3 (lkX11_105 _ rfl) okS_X11_isOutside (sx_isOutside (d := 1)) rfl rfl hdd (Nat.le_refl _) (Nat.le_refl _) (by decide) (pm_ki (fun v1 σ' cnt' hq => ?_))
  obtain rfl : v1 = 0 := hq.1.trans (by decide)
  obtain ⟨I1, A1, rfl, rfl, h1⟩ := hv_id (kp := kp) (I := I) (A := A) h hq.2
  refine pm_if_ne (tgt := 19) hG dX11_guard_6 rfl (fun q => absurd q (by decide)) (fun _ => ?_)
  refine pm_iloadn hG dX11_guard_9 rfl ?_
  refine pm_iconst (v := 0) hG dX11_guard_10 (by decide) ?_
  refine pm_bipush (v := 6) hG dX11_guard_11 (by decide) ?_
  refine pm_callS (As := [.int zb, .int 0, .int 6]) (rest := []) hG hR dX11_guard_13 (lkX11_105 _ rfl) okS_X11_isOutside (sx_isOutside (d := 1)) rfl rfl hdd (Nat.le_refl _) (Nat.le_refl _) (by decide) (pm_ki (fun v2 σ' cnt' hq => ?_))
  obtain rfl : v2 = 0 := hq.1.trans (if_neg hz)
  obtain ⟨I2, A2, rfl, rfl, h2⟩ := hv_id (kp := kp) (I := I1) (A := A1) h1 hq.2
  refine pm_if_eq (tgt := 26) hG dX11_guard_16 rfl (fun _ => ?_) (fun q => absurd q (by decide))
  refine pm_aloadn hG dX11_guard_26 rfl ?_
  refine pm_getf hG dX11_guard_27 (flX11_12 _ rfl) rfl rfl ?_
  refine pm_getf hG dX11_guard_30 (flX11_311 _ rfl) rfl rfl ?_
  refine pm_iloadn hG dX11_guard_33 rfl ?_
  refine pm_iconst (v := 0) hG dX11_guard_34 (by decide) ?_
  refine pm_iloadn hG dX11_guard_35 rfl ?_
  refine pm_callV (As := [.int 1, .int 0, .int zb]) (rest := []) hG hR dX11_guard_36 (lkX11_248 _ rfl) okV_X9_swap rfl rfl (tb_swap (d := 1) (rows := nI 5) (width := nI 1) (f := pm5 (I2 210) (I2 211) (I2 212) (I2 213) (I2 214)) (by decide) rfl rfl (pm_tw_of 5 1 (by decide) (by decide) (by decide)) (by decide)) rfl rfl hdd (Nat.le_refl _) (Nat.le_refl _) (by decide) (pm_ki (fun v3 σ' cnt' hq => ?_))
  obtain rfl : v3 = gS ε 1 := hq.1.trans (pm5_tg1.trans (by rw [gq.g h2]))
  obtain ⟨I3, A3, rfl, rfl, h3⟩ := hq_g1 (kp := kp) (I := I2) (A := A2) h2 hq.2
  exact pm_iret hG hF dX11_guard_39 rfl (Nat.le_refl _) (Nat.le_refl _) ⟨_, rfl, rfl, _, _, rfl, rfl, h3⟩

set_option maxRecDepth 100000 in
set_option maxHeartbeats 4000000 in
theorem g_guardE2 {ε : Nat → Int32} {d B cnt : Nat} {kp : Value} {ρ : pm_S} {I : Nat → Int32} {A : Nat → Nat → Int32} (hdd : 2 ≤ d) {zb : Int32} (hz : ¬ (zb < 0 ∨ 6 < zb)) (h : gq ε I) : pm_met mX11_guard d 0 0 B [.ref (B + 0), .int 2, .int zb] cnt (pm_two (cl_L B kp I A) ρ) (pm_Qi (fun v σ' cnt' => v = gS ε 2 ∧ hvq (ui ε 212 zb) B kp ρ cnt σ' cnt')) := by
  refine pm_enter 0 (by decide) (Nat.le_of_ble_eq_true rfl) rfl (fun G hG hR hF => ?_)
  refine pm_iloadn hG dX11_guard_0 rfl ?_
  refine pm_iconst (v := 0) hG dX11_guard_1 (by decide) ?_
  refine pm_iconst (v := 4) hG dX11_guard_2 (by decide) ?_
  refine pm_callS (As := [.int 2, .int 0, .int 4]) (rest := []) hG hR dX11_guard_3 (lkX11_105 _ rfl) okS_X11_isOutside (sx_isOutside (d := 1)) rfl rfl hdd (Nat.le_refl _) (Nat.le_refl _) (by decide) (pm_ki (fun v1 σ' cnt' hq => ?_))
  obtain rfl : v1 = 0 := hq.1.trans (by decide)
  obtain ⟨I1, A1, rfl, rfl, h1⟩ := hv_id (kp := kp) (I := I) (A := A) h hq.2
  refine pm_if_ne (tgt := 19) hG dX11_guard_6 rfl (fun q => absurd q (by decide)) (fun _ => ?_)
  refine pm_iloadn hG dX11_guard_9 rfl ?_
  refine pm_iconst (v := 0) hG dX11_guard_10 (by decide) ?_
  refine pm_bipush (v := 6) hG dX11_guard_11 (by decide) ?_
  refine pm_callS (As := [.int zb, .int 0, .int 6]) (rest := []) hG hR dX11_guard_13 (lkX11_105 _ rfl) okS_X11_isOutside (sx_isOutside (d := 1)) rfl rfl hdd (Nat.le_refl _) (Nat.le_refl _) (by decide) (pm_ki (fun v2 σ' cnt' hq => ?_))
  obtain rfl : v2 = 0 := hq.1.trans (if_neg hz)
  obtain ⟨I2, A2, rfl, rfl, h2⟩ := hv_id (kp := kp) (I := I1) (A := A1) h1 hq.2
  refine pm_if_eq (tgt := 26) hG dX11_guard_16 rfl (fun _ => ?_) (fun q => absurd q (by decide))
  refine pm_aloadn hG dX11_guard_26 rfl ?_
  refine pm_getf hG dX11_guard_27 (flX11_12 _ rfl) rfl rfl ?_
  refine pm_getf hG dX11_guard_30 (flX11_311 _ rfl) rfl rfl ?_
  refine pm_iloadn hG dX11_guard_33 rfl ?_
  refine pm_iconst (v := 0) hG dX11_guard_34 (by decide) ?_
  refine pm_iloadn hG dX11_guard_35 rfl ?_
  refine pm_callV (As := [.int 2, .int 0, .int zb]) (rest := []) hG hR dX11_guard_36 (lkX11_248 _ rfl) okV_X9_swap rfl rfl (tb_swap (d := 1) (rows := nI 5) (width := nI 1) (f := pm5 (I2 210) (I2 211) (I2 212) (I2 213) (I2 214)) (by decide) rfl rfl (pm_tw_of 5 1 (by decide) (by decide) (by decide)) (by decide)) rfl rfl hdd (Nat.le_refl _) (Nat.le_refl _) (by decide) (pm_ki (fun v3 σ' cnt' hq => ?_))
  obtain rfl : v3 = gS ε 2 := hq.1.trans (pm5_tg2.trans (by rw [gq.g h2]))
  obtain ⟨I3, A3, rfl, rfl, h3⟩ := hq_g2 (kp := kp) (I := I2) (A := A2) h2 hq.2
  exact pm_iret hG hF dX11_guard_39 rfl (Nat.le_refl _) (Nat.le_refl _) ⟨_, rfl, rfl, _, _, rfl, rfl, h3⟩

set_option maxRecDepth 100000 in
set_option maxHeartbeats 4000000 in
theorem g_guardE3 {ε : Nat → Int32} {d B cnt : Nat} {kp : Value} {ρ : pm_S} {I : Nat → Int32} {A : Nat → Nat → Int32} (hdd : 2 ≤ d) {zb : Int32} (hz : ¬ (zb < 0 ∨ 6 < zb)) (h : gq ε I) : pm_met mX11_guard d 0 0 B [.ref (B + 0), .int 3, .int zb] cnt (pm_two (cl_L B kp I A) ρ) (pm_Qi (fun v σ' cnt' => v = gS ε 3 ∧ hvq (ui ε 213 zb) B kp ρ cnt σ' cnt')) := by
  refine pm_enter 0 (by decide) (Nat.le_of_ble_eq_true rfl) rfl (fun G hG hR hF => ?_)
  refine pm_iloadn hG dX11_guard_0 rfl ?_
  refine pm_iconst (v := 0) hG dX11_guard_1 (by decide) ?_
  refine pm_iconst (v := 4) hG dX11_guard_2 (by decide) ?_
  refine pm_callS (As := [.int 3, .int 0, .int 4]) (rest := []) hG hR dX11_guard_3 (lkX11_105 _ rfl) okS_X11_isOutside (sx_isOutside (d := 1)) rfl rfl hdd (Nat.le_refl _) (Nat.le_refl _) (by decide) (pm_ki (fun v1 σ' cnt' hq => ?_))
  obtain rfl : v1 = 0 := hq.1.trans (by decide)
  obtain ⟨I1, A1, rfl, rfl, h1⟩ := hv_id (kp := kp) (I := I) (A := A) h hq.2
  refine pm_if_ne (tgt := 19) hG dX11_guard_6 rfl (fun q => absurd q (by decide)) (fun _ => ?_)
  refine pm_iloadn hG dX11_guard_9 rfl ?_
  refine pm_iconst (v := 0) hG dX11_guard_10 (by decide) ?_
  refine pm_bipush (v := 6) hG dX11_guard_11 (by decide) ?_
  refine pm_callS (As := [.int zb, .int 0, .int 6]) (rest := []) hG hR dX11_guard_13 (lkX11_105 _ rfl) okS_X11_isOutside (sx_isOutside (d := 1)) rfl rfl hdd (Nat.le_refl _) (Nat.le_refl _) (by decide) (pm_ki (fun v2 σ' cnt' hq => ?_))
  obtain rfl : v2 = 0 := hq.1.trans (if_neg hz)
  obtain ⟨I2, A2, rfl, rfl, h2⟩ := hv_id (kp := kp) (I := I1) (A := A1) h1 hq.2
  refine pm_if_eq (tgt := 26) hG dX11_guard_16 rfl (fun _ => ?_) (fun q => absurd q (by decide))
  refine pm_aloadn hG dX11_guard_26 rfl ?_
  refine pm_getf hG dX11_guard_27 (flX11_12 _ rfl) rfl rfl ?_
  refine pm_getf hG dX11_guard_30 (flX11_311 _ rfl) rfl rfl ?_
  refine pm_iloadn hG dX11_guard_33 rfl ?_
  refine pm_iconst (v := 0) hG dX11_guard_34 (by decide) ?_
  refine pm_iloadn hG dX11_guard_35 rfl ?_
  refine pm_callV (As := [.int 3, .int 0, .int zb]) (rest := []) hG hR dX11_guard_36 (lkX11_248 _ rfl) okV_X9_swap rfl rfl (tb_swap (d := 1) (rows := nI 5) (width := nI 1) (f := pm5 (I2 210) (I2 211) (I2 212) (I2 213) (I2 214)) (by decide) rfl rfl (pm_tw_of 5 1 (by decide) (by decide) (by decide)) (by decide)) rfl rfl hdd (Nat.le_refl _) (Nat.le_refl _) (by decide) (pm_ki (fun v3 σ' cnt' hq => ?_))
  obtain rfl : v3 = gS ε 3 := hq.1.trans (pm5_tg3.trans (by rw [gq.g h2]))
  obtain ⟨I3, A3, rfl, rfl, h3⟩ := hq_g3 (kp := kp) (I := I2) (A := A2) h2 hq.2
  exact pm_iret hG hF dX11_guard_39 rfl (Nat.le_refl _) (Nat.le_refl _) ⟨_, rfl, rfl, _, _, rfl, rfl, h3⟩

set_option maxRecDepth 100000 in
set_option maxHeartbeats 4000000 in
theorem g_guardE4 {ε : Nat → Int32} {d B cnt : Nat} {kp : Value} {ρ : pm_S} {I : Nat → Int32} {A : Nat → Nat → Int32} (hdd : 2 ≤ d) {zb : Int32} (hz : ¬ (zb < 0 ∨ 6 < zb)) (h : gq ε I) : pm_met mX11_guard d 0 0 B [.ref (B + 0), .int 4, .int zb] cnt (pm_two (cl_L B kp I A) ρ) (pm_Qi (fun v σ' cnt' => v = gS ε 4 ∧ hvq (ui ε 214 zb) B kp ρ cnt σ' cnt')) := by
  refine pm_enter 0 (by decide) (Nat.le_of_ble_eq_true rfl) rfl (fun G hG hR hF => ?_)
  refine pm_iloadn hG dX11_guard_0 rfl ?_
  refine pm_iconst (v := 0) hG dX11_guard_1 (by decide) ?_
  refine pm_iconst (v := 4) hG dX11_guard_2 (by decide) ?_
  refine pm_callS (As := [.int 4, .int 0, .int 4]) (rest := []) hG hR dX11_guard_3 (lkX11_105 _ rfl) okS_X11_isOutside (sx_isOutside (d := 1)) rfl rfl hdd (Nat.le_refl _) (Nat.le_refl _) (by decide) (pm_ki (fun v1 σ' cnt' hq => ?_))
  obtain rfl : v1 = 0 := hq.1.trans (by decide)
  obtain ⟨I1, A1, rfl, rfl, h1⟩ := hv_id (kp := kp) (I := I) (A := A) h hq.2
  refine pm_if_ne (tgt := 19) hG dX11_guard_6 rfl (fun q => absurd q (by decide)) (fun _ => ?_)
  refine pm_iloadn hG dX11_guard_9 rfl ?_
  refine pm_iconst (v := 0) hG dX11_guard_10 (by decide) ?_
  refine pm_bipush (v := 6) hG dX11_guard_11 (by decide) ?_
  refine pm_callS (As := [.int zb, .int 0, .int 6]) (rest := []) hG hR dX11_guard_13 (lkX11_105 _ rfl) okS_X11_isOutside (sx_isOutside (d := 1)) rfl rfl hdd (Nat.le_refl _) (Nat.le_refl _) (by decide) (pm_ki (fun v2 σ' cnt' hq => ?_))
  obtain rfl : v2 = 0 := hq.1.trans (if_neg hz)
  obtain ⟨I2, A2, rfl, rfl, h2⟩ := hv_id (kp := kp) (I := I1) (A := A1) h1 hq.2
  refine pm_if_eq (tgt := 26) hG dX11_guard_16 rfl (fun _ => ?_) (fun q => absurd q (by decide))
  refine pm_aloadn hG dX11_guard_26 rfl ?_
  refine pm_getf hG dX11_guard_27 (flX11_12 _ rfl) rfl rfl ?_
  refine pm_getf hG dX11_guard_30 (flX11_311 _ rfl) rfl rfl ?_
  refine pm_iloadn hG dX11_guard_33 rfl ?_
  refine pm_iconst (v := 0) hG dX11_guard_34 (by decide) ?_
  refine pm_iloadn hG dX11_guard_35 rfl ?_
  refine pm_callV (As := [.int 4, .int 0, .int zb]) (rest := []) hG hR dX11_guard_36 (lkX11_248 _ rfl) okV_X9_swap rfl rfl (tb_swap (d := 1) (rows := nI 5) (width := nI 1) (f := pm5 (I2 210) (I2 211) (I2 212) (I2 213) (I2 214)) (by decide) rfl rfl (pm_tw_of 5 1 (by decide) (by decide) (by decide)) (by decide)) rfl rfl hdd (Nat.le_refl _) (Nat.le_refl _) (by decide) (pm_ki (fun v3 σ' cnt' hq => ?_))
  obtain rfl : v3 = gS ε 4 := hq.1.trans (pm5_tg4.trans (by rw [gq.g h2]))
  obtain ⟨I3, A3, rfl, rfl, h3⟩ := hq_g4 (kp := kp) (I := I2) (A := A2) h2 hq.2
  exact pm_iret hG hF dX11_guard_39 rfl (Nat.le_refl _) (Nat.le_refl _) ⟨_, rfl, rfl, _, _, rfl, rfl, h3⟩

set_option maxRecDepth 100000 in
set_option maxHeartbeats 4000000 in
theorem g_guardEa {ε : Nat → Int32} {d B cnt : Nat} {kp : Value} {ρ : pm_S} {I : Nat → Int32} {A : Nat → Nat → Int32} (hdd : 1 ≤ d) {za zb : Int32} (hz : za < 0 ∨ 4 < za) (h : gq ε I) : pm_met mX11_guard d 0 0 B [.ref (B + 0), .int za, .int zb] cnt (pm_two (cl_L B kp I A) ρ) (pm_Qi (fun v σ' cnt' => v = -1000001 ∧ hvq ε B kp ρ cnt σ' cnt')) := by
  refine pm_enter 0 (by decide) (Nat.le_of_ble_eq_true rfl) rfl (fun G hG hR hF => ?_)
  refine pm_iloadn hG dX11_guard_0 rfl ?_
  refine pm_iconst (v := 0) hG dX11_guard_1 (by decide) ?_
  refine pm_iconst (v := 4) hG dX11_guard_2 (by decide) ?_
  refine pm_callS (As := [.int za, .int 0, .int 4]) (rest := []) hG hR dX11_guard_3 (lkX11_105 _ rfl) okS_X11_isOutside (sx_isOutside (d := 0)) rfl rfl hdd (Nat.le_refl _) (Nat.le_refl _) (by decide) (pm_ki (fun v1 σ' cnt' hq => ?_))
  obtain rfl : v1 = 1 := hq.1.trans (if_pos hz)
  obtain ⟨I1, A1, rfl, rfl, h1⟩ := hv_id (kp := kp) (I := I) (A := A) h hq.2
  refine pm_if_ne (tgt := 19) hG dX11_guard_6 rfl (fun _ => ?_) (fun q => absurd q (by decide))
  refine pm_aloadn hG dX11_guard_19 rfl ?_
  refine pm_ldc hG dX11_guard_20 (ctX11_109 _ rfl) ?_
  refine pm_callV (As := [.int (-1000001)]) (rest := []) hG hR dX11_guard_22 (lkX11_97 _ rfl) okV_X11_told rfl rfl (sx_told (d := 0) (by decide) rfl rfl) rfl rfl hdd (Nat.le_refl _) (Nat.le_refl _) (by decide) (pm_ki (fun v2 σ' cnt' hq => ?_))
  obtain ⟨ev2, ⟨g2, hg2⟩, hc2⟩ := hq
  obtain ⟨I2, A2, rfl, rfl, h2⟩ := hv_a53 (kp := kp) (I := I1) (A := A1) h1 ⟨hg2, hc2⟩
  subst ev2
  exact pm_iret hG hF dX11_guard_25 rfl (Nat.le_refl _) (Nat.le_refl _) ⟨_, rfl, rfl, _, _, rfl, rfl, h2⟩

set_option maxRecDepth 100000 in
set_option maxHeartbeats 4000000 in
theorem g_guardEb {ε : Nat → Int32} {d B cnt : Nat} {kp : Value} {ρ : pm_S} {I : Nat → Int32} {A : Nat → Nat → Int32} (hdd : 1 ≤ d) {za zb : Int32} (hy : ¬ (za < 0 ∨ 4 < za)) (hz : zb < 0 ∨ 6 < zb) (h : gq ε I) : pm_met mX11_guard d 0 0 B [.ref (B + 0), .int za, .int zb] cnt (pm_two (cl_L B kp I A) ρ) (pm_Qi (fun v σ' cnt' => v = -1000001 ∧ hvq ε B kp ρ cnt σ' cnt')) := by
  refine pm_enter 0 (by decide) (Nat.le_of_ble_eq_true rfl) rfl (fun G hG hR hF => ?_)
  refine pm_iloadn hG dX11_guard_0 rfl ?_
  refine pm_iconst (v := 0) hG dX11_guard_1 (by decide) ?_
  refine pm_iconst (v := 4) hG dX11_guard_2 (by decide) ?_
  refine pm_callS (As := [.int za, .int 0, .int 4]) (rest := []) hG hR dX11_guard_3 (lkX11_105 _ rfl) okS_X11_isOutside (sx_isOutside (d := 0)) rfl rfl hdd (Nat.le_refl _) (Nat.le_refl _) (by decide) (pm_ki (fun v1 σ' cnt' hq => ?_))
  obtain rfl : v1 = 0 := hq.1.trans (if_neg hy)
  obtain ⟨I1, A1, rfl, rfl, h1⟩ := hv_id (kp := kp) (I := I) (A := A) h hq.2
  refine pm_if_ne (tgt := 19) hG dX11_guard_6 rfl (fun q => absurd q (by decide)) (fun _ => ?_)
  refine pm_iloadn hG dX11_guard_9 rfl ?_
  refine pm_iconst (v := 0) hG dX11_guard_10 (by decide) ?_
  refine pm_bipush (v := 6) hG dX11_guard_11 (by decide) ?_
  refine pm_callS (As := [.int zb, .int 0, .int 6]) (rest := []) hG hR dX11_guard_13 (lkX11_105 _ rfl) okS_X11_isOutside (sx_isOutside (d := 0)) rfl rfl hdd (Nat.le_refl _) (Nat.le_refl _) (by decide) (pm_ki (fun v2 σ' cnt' hq => ?_))
  obtain rfl : v2 = 1 := hq.1.trans (if_pos hz)
  obtain ⟨I2, A2, rfl, rfl, h2⟩ := hv_id (kp := kp) (I := I1) (A := A1) h1 hq.2
  refine pm_if_eq (tgt := 26) hG dX11_guard_16 rfl (fun q => absurd q (by decide)) (fun _ => ?_)
  refine pm_aloadn hG dX11_guard_19 rfl ?_
  refine pm_ldc hG dX11_guard_20 (ctX11_109 _ rfl) ?_
  refine pm_callV (As := [.int (-1000001)]) (rest := []) hG hR dX11_guard_22 (lkX11_97 _ rfl) okV_X11_told rfl rfl (sx_told (d := 0) (by decide) rfl rfl) rfl rfl hdd (Nat.le_refl _) (Nat.le_refl _) (by decide) (pm_ki (fun v3 σ' cnt' hq => ?_))
  obtain ⟨ev3, ⟨g3, hg3⟩, hc3⟩ := hq
  obtain ⟨I3, A3, rfl, rfl, h3⟩ := hv_a53 (kp := kp) (I := I2) (A := A2) h2 ⟨hg3, hc3⟩
  subst ev3
  exact pm_iret hG hF dX11_guard_25 rfl (Nat.le_refl _) (Nat.le_refl _) ⟨_, rfl, rfl, _, _, rfl, rfl, h3⟩

theorem g_guardE {ε : Nat → Int32} {d B cnt : Nat} {kp : Value} {ρ : pm_S} {I : Nat → Int32} {A : Nat → Nat → Int32} {za zb : Int32} (hdd : 2 ≤ d) (h : gq ε I) : pm_met mX11_guard d 0 0 B [.ref (B + 0), .int za, .int zb] cnt (pm_two (cl_L B kp I A) ρ) (pm_Qi (fun v σ' cnt' => v = vG (gS ε) za zb ∧ hvq (tG ε za zb) B kp ρ cnt σ' cnt')) := by
  by_cases q : za < 0 ∨ 4 < za
  · refine pm_mono (g_guardEa (by omega) q h) ?_
    rintro r σ' c' ⟨v, rfl, rfl, h2⟩
    exact ⟨_, rfl, (vG_n (Or.inl q)).symm, by rw [tG_n (Or.inl q)]; exact h2⟩
  by_cases q2 : zb < 0 ∨ 6 < zb
  · refine pm_mono (g_guardEb (by omega) q q2 h) ?_
    rintro r σ' c' ⟨v, rfl, rfl, h2⟩
    exact ⟨_, rfl, (vG_n (Or.inr q2)).symm, by rw [tG_n (Or.inr q2)]; exact h2⟩
  · rcases in5 q with rfl | rfl | rfl | rfl | rfl
    · refine pm_mono (g_guardE0 (by omega) q2 h) ?_
      rintro r σ' c' ⟨v, rfl, rfl, h2⟩
      have hn : ¬ gO 0 zb := fun z => z.elim (by decide) q2
      exact ⟨_, rfl, (by rw [vG_y hn, show Int32.toNatClampNeg 0 = 0 by decide]), (by rw [tG_y hn, show Int32.toNatClampNeg 0 = 0 by decide]; exact h2)⟩
    · refine pm_mono (g_guardE1 (by omega) q2 h) ?_
      rintro r σ' c' ⟨v, rfl, rfl, h2⟩
      have hn : ¬ gO 1 zb := fun z => z.elim (by decide) q2
      exact ⟨_, rfl, (by rw [vG_y hn, show Int32.toNatClampNeg 1 = 1 by decide]), (by rw [tG_y hn, show Int32.toNatClampNeg 1 = 1 by decide]; exact h2)⟩
    · refine pm_mono (g_guardE2 (by omega) q2 h) ?_
      rintro r σ' c' ⟨v, rfl, rfl, h2⟩
      have hn : ¬ gO 2 zb := fun z => z.elim (by decide) q2
      exact ⟨_, rfl, (by rw [vG_y hn, show Int32.toNatClampNeg 2 = 2 by decide]), (by rw [tG_y hn, show Int32.toNatClampNeg 2 = 2 by decide]; exact h2)⟩
    · refine pm_mono (g_guardE3 (by omega) q2 h) ?_
      rintro r σ' c' ⟨v, rfl, rfl, h2⟩
      have hn : ¬ gO 3 zb := fun z => z.elim (by decide) q2
      exact ⟨_, rfl, (by rw [vG_y hn, show Int32.toNatClampNeg 3 = 3 by decide]), (by rw [tG_y hn, show Int32.toNatClampNeg 3 = 3 by decide]; exact h2)⟩
    · refine pm_mono (g_guardE4 (by omega) q2 h) ?_
      rintro r σ' c' ⟨v, rfl, rfl, h2⟩
      have hn : ¬ gO 4 zb := fun z => z.elim (by decide) q2
      exact ⟨_, rfl, (by rw [vG_y hn, show Int32.toNatClampNeg 4 = 4 by decide]), (by rw [tG_y hn, show Int32.toNatClampNeg 4 = 4 by decide]; exact h2)⟩
