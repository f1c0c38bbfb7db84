/-! ===== methods that change a tracked number ===== -/
theorem gq.app {ε I : Nat → Int32} {k : Nat} (n j : Nat) (hT : gcT.all (fun q => q.1 != k || q.2 == n) = true) (hj : j ≤ n) (h : gq ε I) : gq (ui ε k (nI j)) (ui I k (nI j)) := by
  simp only [List.all_eq_true, bne_iff_ne, Bool.or_eq_true, beq_iff_eq] at hT
  refine ⟨fun q hq => ?_, fun q hq => ?_⟩
  · by_cases e1 : q.1 = k
    · rcases hT q hq with h1 | h1
      · exact absurd e1 h1
      · rw [e1, h1]; exact ⟨j, hj, ui_eq⟩
    · rw [ui_ne e1]; exact h.1 q hq
  · by_cases e1 : q = k
    · subst e1; rw [ui_eq, ui_eq]
    · rw [ui_ne e1, ui_ne e1]; exact h.2 q hq
theorem gq.inc {ε I : Nat → Int32} {k : Nat} (hk : gcT.all (fun q => q.1 != k) = true) (hm : k ∈ gqT) (h : gq ε I) : gq (ui ε k (ε k + 1)) (ui I k (I k + 1)) := by
  simp only [List.all_eq_true, bne_iff_ne] at hk
  refine ⟨fun q hq => by rw [ui_ne (hk q hq)]; exact h.1 q hq, fun q hq => ?_⟩
  by_cases e1 : q = k
  · subst e1; rw [ui_eq, ui_eq, h.2 q hq]
  · rw [ui_ne e1, ui_ne e1]; exact h.2 q hq
theorem pm_mono {M : pm_M} {d mc ms B cnt : Nat} {av : List Value} {σ : pm_S} {Q Q1 : Option Value → pm_S → Nat → Prop} (hM : pm_met M d mc ms B av cnt σ Q1) (hQ : ∀ (r : Option Value) (σ' : pm_S) (c' : Nat), Q1 r σ' c' → Q r σ' c') : pm_met M d mc ms B av cnt σ Q := by
  intro l D cI p e ha hf hc s m args below g1 g2 hP hK
  obtain ⟨n, o, k1, k2, k3, ⟨r, σ', c', q1, q2, q3⟩, L⟩ := hM l D cI p e ha hf hc s m args below g1 g2 hP hK
  exact ⟨n, o, k1, k2, k3, ⟨r, σ', c', q1, hQ _ _ _ q2, q3⟩, L⟩
theorem ui_self {ε : Nat → Int32} {k : Nat} {v : Int32} (h : v = ε k) : ui ε k v = ε := by
  funext j
  unfold ui
  by_cases e : j = k
  · rw [if_pos e, h, e]
  · rw [if_neg e]
theorem pm_dep {M : pm_M} {d d' mc ms B cnt : Nat} {av : List Value} {σ : pm_S} {Q : Option Value → pm_S → Nat → Prop} (h : ∀ d : Nat, d' ≤ d → pm_met M d mc ms B av cnt σ Q) (hd : d' ≤ d) : pm_met M d mc ms B av cnt σ Q := h d hd

theorem hq_p22 {ε : Nat → Int32} {B cnt cnt' : Nat} {kp : Value} {ρ σ' : pm_S} {I : Nat → Int32} {A : Nat → Nat → Int32} {u : Nat} {f : Nat → Int32} (hlt : u < 20) (h : gq ε I) (hq : σ' = pm_up (pm_up (pm_two (cl_L B kp I A) ρ) 22 (.inr (9, [.int (nI 20), .int (nI 1), .ref (B + 23), .int (nI (u + 1))]))) 23 (.inl (20, f)) ∧ cnt' = cnt) : hvq (ui ε 22 (nI (u + 1))) B kp ρ cnt σ' cnt' := by
  refine ⟨ui I 22 (nI (u + 1)), ua A 23 f, ?_, hq.2.symm, gq.app 20 (u + 1) rfl hlt h⟩
  rw [hq.1, pm_two_up (by decide) (Nat.le_of_ble_eq_true rfl), pm_two_up (by decide) (Nat.le_of_ble_eq_true rfl)]; rfl

set_option maxRecDepth 100000 in
set_option maxHeartbeats 4000000 in
theorem g_tellE1 {ε : Nat → Int32} {d B cnt : Nat} {kp : Value} {ρ : pm_S} {I : Nat → Int32} {A : Nat → Nat → Int32} (hdd : 2 ≤ d) {za : Int32} {u : Nat} (hu : ε 22 = nI u) (hlt : u < 20) (h : gq ε I) : pm_met mX11_tell d 0 0 B [.ref (B + 0), .int za] cnt (pm_two (cl_L B kp I A) ρ) (pm_Qi (fun v σ' cnt' => v = nI (u + 1) ∧ hvq (ui ε 22 (nI (u + 1))) B kp ρ cnt σ' cnt')) := by
  refine pm_enter 0 (by decide) (Nat.le_of_ble_eq_true rfl) rfl (fun G hG hR hF => ?_)
  refine pm_aloadn hG dX11_tell_0 rfl ?_
  refine pm_getf hG dX11_tell_1 (flX11_12 _ rfl) rfl rfl ?_
  refine pm_getf hG dX11_tell_4 (flX11_386 _ rfl) rfl rfl ?_
  refine pm_callV (As := []) (rest := []) hG hR dX11_tell_7 (lkX11_86 _ rfl) okV_X9_isFull rfl rfl (tb_isFull (d := 1) rfl) rfl rfl hdd (Nat.le_refl _) (Nat.le_refl _) (by decide) (pm_ki (fun v1 σ' cnt' hq => ?_))
  have hu1 : I 22 = nI u := (h.2 22 (by decide)).trans hu
  have ev1 : v1 = 0 := hq.1.trans (by rw [hu1]; exact if_pos (nI_lt hlt (by decide)))
  obtain ⟨I1, A1, rfl, rfl, h1⟩ := hv_id (kp := kp) (I := I) (A := A) h hq.2
  subst ev1
  refine pm_if_eq (tgt := 20) hG dX11_tell_10 rfl (fun _ => ?_) (fun q => absurd q (by decide))
  refine pm_aloadn hG dX11_tell_20 rfl ?_
  refine pm_getf hG dX11_tell_21 (flX11_12 _ rfl) rfl rfl ?_
  refine pm_getf hG dX11_tell_24 (flX11_386 _ rfl) rfl rfl ?_
  refine pm_iloadn hG dX11_tell_27 rfl ?_
  have hu2 : I1 22 = nI u := (h1.2 22 (by decide)).trans hu
  have ht2 : pm_two (cl_L B kp I1 A1) ρ 22 = some (.inr (9, [.int (nI 20), .int (nI 1), .ref (B + 23), .int (nI u)])) := by rw [← hu2]; rfl
  refine pm_callV (As := [.int za]) (rest := []) hG hR dX11_tell_28 (lkX11_206 _ rfl) okV_X9_append rfl rfl (tb_append (d := 1) (by decide) ht2 rfl (by decide) (by decide) (by decide) (by decide) (by decide) (by decide) (by omega)) rfl rfl hdd (Nat.le_refl _) (Nat.le_refl _) (by decide) (pm_ki (fun v2 σ' cnt' hq => ?_))
  obtain ⟨hq, ec2⟩ := hq
  rcases hq with ⟨q2, -, -⟩ | ⟨-, rfl, es2⟩
  · exact absurd q2 (by omega)
  obtain ⟨I2, A2, rfl, rfl, h2⟩ := hq_p22 (kp := kp) (I := I1) (A := A1) hlt h1 ⟨es2, ec2⟩
  refine pm_pop hG dX11_tell_31 rfl ?_
  refine pm_aloadn hG dX11_tell_32 rfl ?_
  refine pm_getf hG dX11_tell_33 (flX11_12 _ rfl) rfl rfl ?_
  refine pm_getf hG dX11_tell_36 (flX11_386 _ rfl) rfl rfl ?_
  refine pm_callV (As := []) (rest := []) hG hR dX11_tell_39 (lkX11_203 _ rfl) okV_X9_used rfl rfl (tb_used (d := 1) rfl) rfl rfl hdd (Nat.le_refl _) (Nat.le_refl _) (by decide) (pm_ki (fun v3 σ' cnt' hq => ?_))
  obtain rfl : v3 = nI (u + 1) := hq.1.trans ((h2.2 22 (by decide)).trans ui_eq)
  obtain ⟨I3, A3, rfl, rfl, h3⟩ := hv_id (kp := kp) (I := I2) (A := A2) h2 hq.2
  exact pm_iret hG hF dX11_tell_42 rfl (Nat.le_refl _) (Nat.le_refl _) ⟨_, rfl, rfl, _, _, rfl, rfl, h3⟩

set_option maxRecDepth 100000 in
set_option maxHeartbeats 4000000 in
theorem g_tellE0 {ε : Nat → Int32} {d B cnt : Nat} {kp : Value} {ρ : pm_S} {I : Nat → Int32} {A : Nat → Nat → Int32} (hdd : 1 ≤ d) {za : Int32} (hu : ε 22 = nI 20) (h : gq ε I) : pm_met mX11_tell d 0 0 B [.ref (B + 0), .int za] cnt (pm_two (cl_L B kp I A) ρ) (pm_Qi (fun v σ' cnt' => v = -1000004 ∧ hvq ε B kp ρ cnt σ' cnt')) := by
  refine pm_enter 0 (by decide) (Nat.le_of_ble_eq_true rfl) rfl (fun G hG hR hF => ?_)
  refine pm_aloadn hG dX11_tell_0 rfl ?_
  refine pm_getf hG dX11_tell_1 (flX11_12 _ rfl) rfl rfl ?_
  refine pm_getf hG dX11_tell_4 (flX11_386 _ rfl) rfl rfl ?_
  refine pm_callV (As := []) (rest := []) hG hR dX11_tell_7 (lkX11_86 _ rfl) okV_X9_isFull rfl rfl (tb_isFull (d := 0) rfl) rfl rfl hdd (Nat.le_refl _) (Nat.le_refl _) (by decide) (pm_ki (fun v1 σ' cnt' hq => ?_))
  have hu1 : I 22 = nI 20 := (h.2 22 (by decide)).trans hu
  have ev1 : v1 = 1 := hq.1.trans (by rw [hu1]; exact if_neg (nI_nlt (Nat.le_refl _) (by decide)))
  obtain ⟨I1, A1, rfl, rfl, h1⟩ := hv_id (kp := kp) (I := I) (A := A) h hq.2
  subst ev1
  refine pm_if_eq (tgt := 20) hG dX11_tell_10 rfl (fun q => absurd q (by decide)) (fun _ => ?_)
  refine pm_aloadn hG dX11_tell_13 rfl ?_
  refine pm_ldc hG dX11_tell_14 (ctX11_92 _ rfl) ?_
  refine pm_callV (As := [.int (-1000004)]) (rest := []) hG hR dX11_tell_16 (lkX11_97 _ rfl) okV_X11_told rfl rfl (sx_told (d := 0) (by decide) rfl rfl) rfl rfl hdd (Nat.le_refl _) (Nat.le_refl _) (by decide) (pm_ki (fun v2 σ' cnt' hq => ?_))
  obtain ⟨ev2, ⟨g2, hg2⟩, hc2⟩ := hq
  obtain ⟨I2, A2, rfl, rfl, h2⟩ := hv_a53 (kp := kp) (I := I1) (A := A1) h1 ⟨hg2, hc2⟩
  subst ev2
  exact pm_iret hG hF dX11_tell_19 rfl (Nat.le_refl _) (Nat.le_refl _) ⟨_, rfl, rfl, _, _, rfl, rfl, h2⟩

def vW (x : Int32) : Int32 := if x = nI 20 then -1000004 else x + 1
def tW (x : Int32) : Int32 := if x = nI 20 then x else x + 1
theorem vW_ok {x : Int32} {u : Nat} (e : x = nI u) (h : u < 20) : nI (u + 1) = vW x ∧ nI (u + 1) = tW x := by
  have h3 : ¬ nI u = nI 20 := fun q => by have := (nI_eq (by omega) (by decide)).mp q; omega
  subst e
  unfold vW tW
  rw [if_neg h3, if_neg h3]
  exact ⟨(nI_1 u).symm, (nI_1 u).symm⟩
theorem vW_no {x : Int32} {u : Nat} (e : x = nI u) (h : ¬ u < 20) (h2 : u < 21) : (-1000000) - nI 4 = vW x ∧ x = tW x := by
  obtain rfl : u = 20 := by omega
  subst e
  unfold vW tW
  rw [if_pos rfl, if_pos rfl]
  exact ⟨by decide, rfl⟩
theorem g_tellE {ε : Nat → Int32} {d B cnt : Nat} {kp : Value} {ρ : pm_S} {I : Nat → Int32} {A : Nat → Nat → Int32} {za : Int32} (hdd : 2 ≤ d) (h : gq ε I) : pm_met mX11_tell d 0 0 B [.ref (B + 0), .int za] cnt (pm_two (cl_L B kp I A) ρ) (pm_Qi (fun v σ' cnt' => v = vW (ε 22) ∧ hvq (ui ε 22 (tW (ε 22))) B kp ρ cnt σ' cnt')) := by
  obtain ⟨u, hu, e⟩ := h.used 22 20 (by decide)
  have e2 : ε 22 = nI u := (h.2 22 (by decide)).symm.trans e
  by_cases hlt : u < 20
  · refine pm_mono (g_tellE1 (by omega) e2 hlt h) ?_
    rintro r σ' c' ⟨v, rfl, rfl, h2⟩
    exact ⟨_, rfl, (vW_ok e2 hlt).1, by rw [← (vW_ok e2 hlt).2]; exact h2⟩
  · have e3 := vW_no e2 hlt (by omega)
    obtain rfl : u = 20 := by omega
    refine pm_mono (g_tellE0 (by omega) e2 h) ?_
    rintro r σ' c' ⟨v, rfl, rfl, h2⟩
    exact ⟨_, rfl, (by decide : (-1000004 : Int32) = (-1000000) - nI 4).trans e3.1, by rw [ui_self e3.2.symm]; exact h2⟩

theorem hq_c22 {ε : Nat → Int32} {B cnt cnt' : Nat} {kp : Value} {ρ σ' : pm_S} {I : Nat → Int32} {A : Nat → Nat → Int32} (h : gq ε I) (hq : σ' = pm_up (pm_two (cl_L B kp I A) ρ) 22 (.inr (9, [.int 20, .int 1, .ref (B + 23), .int 0])) ∧ cnt' = cnt) : hvq (ui ε 22 (nI 0)) B kp ρ cnt σ' cnt' := by
  refine ⟨ui I 22 (nI 0), A, ?_, hq.2.symm, gq.app 20 0 rfl (Nat.zero_le _) h⟩
  rw [hq.1, pm_two_up (by decide) (Nat.le_of_ble_eq_true rfl)]; rfl

set_option maxRecDepth 100000 in
set_option maxHeartbeats 4000000 in
theorem g_checkE {ε : Nat → Int32} {d B cnt : Nat} {kp : Value} {ρ : pm_S} {I : Nat → Int32} {A : Nat → Nat → Int32} (hdd : 2 ≤ d)  (h : gq ε I) : pm_met mX11_check d 0 0 B [.ref (B + 0)] cnt (pm_two (cl_L B kp I A) ρ) (pm_Qi (fun _ σ' cnt' => hvq (ui ε 22 (nI 0)) B kp ρ cnt σ' cnt')) := by
  refine pm_enter 3 (by decide) (Nat.le_of_ble_eq_true rfl) rfl (fun G hG hR hF => ?_)
  refine pm_aloadn hG dX11_check_0 rfl ?_
  refine pm_getf hG dX11_check_1 (flX11_12 _ rfl) rfl rfl ?_
  refine pm_getf hG dX11_check_4 (flX11_386 _ rfl) rfl rfl ?_
  refine pm_callV (As := []) (rest := []) hG hR dX11_check_7 (lkX11_203 _ rfl) okV_X9_used rfl rfl (tb_used (d := 1) rfl) rfl rfl hdd (Nat.le_refl _) (Nat.le_refl _) (by decide) (pm_ki (fun v1 σ' cnt' hq => ?_))
  obtain ⟨I1, A1, rfl, rfl, h1⟩ := hv_id (kp := kp) (I := I) (A := A) h hq.2
  refine pm_istoreXn (loc' := [some (.ref (B + 0)), some (.int v1), none, none]) hG dX11_check_10 (by decide) (pm_c1b rfl) rfl ?_
  refine pm_iconst (v := 0) hG dX11_check_11 (by decide) ?_
  refine pm_istoreXn (loc' := [some (.ref (B + 0)), some (.int v1), some (.int 0), none]) hG dX11_check_12 (by decide) (pm_c1b rfl) rfl ?_
  refine pm_iconst (v := 0) hG dX11_check_13 (by decide) ?_
  refine pm_istoreXn (loc' := [some (.ref (B + 0)), some (.int v1), some (.int 0), some (.int 0)]) hG dX11_check_14 (by decide) (pm_c1b rfl) rfl ?_
  have loop15 : ∀ (m15 : Nat) (I2 : Nat → Int32) (A2 : Nat → Nat → Int32) (x2_2 x2_3 : Int32), gq ε I2 → (¬ x2_3 < 0) → ((v1 : Int32).toInt - x2_3.toInt).toNat < m15 → pm_wp mX11_check G B 15 [some (.ref (B + 0)), some (.int v1), some (.int x2_2), some (.int x2_3)] [] 0 0 cnt (pm_two (cl_L B kp I2 A2) ρ) := by
    intro m15
    induction m15 with
    | zero => intro I2 A2 x2_2 x2_3 _  _ hm; exact absurd hm (Nat.not_lt_zero _)
    | succ m15 ih15 =>
      intro I2 A2 x2_2 x2_3 h2 s15 hm15
      refine pm_iloadn hG dX11_check_15 rfl ?_
      refine pm_iloadn hG dX11_check_16 rfl ?_
      refine pm_icmp_ge (tgt := 57) hG dX11_check_17 rfl (fun c3 => ?_) (fun c3 => ?_)
      · refine pm_aloadn hG dX11_check_57 rfl ?_
        refine pm_getf hG dX11_check_58 (flX11_12 _ rfl) rfl rfl ?_
        refine pm_getf hG dX11_check_61 (flX11_386 _ rfl) rfl rfl ?_
        refine pm_callV (As := []) (rest := []) hG hR dX11_check_64 (lkX11_392 _ rfl) okV_X9_clear rfl rfl (tb_clear (d := 1) rfl) rfl rfl hdd (Nat.le_refl _) (Nat.le_refl _) (by decide) (pm_kv (fun σ' cnt' hq => ?_))
        obtain ⟨I4, A4, rfl, rfl, h4⟩ := hq_c22 (kp := kp) (I := I2) (A := A2) h2 hq
        refine pm_iloadn hG dX11_check_67 rfl ?_
        exact pm_iret hG hF dX11_check_68 rfl (Nat.le_refl _) (Nat.le_refl _) ⟨_, rfl, _, _, rfl, rfl, h4⟩
      · refine pm_iloadn hG dX11_check_20 rfl ?_
        refine pm_if_ne (tgt := 57) hG dX11_check_21 rfl (fun c5 => ?_) (fun c5 => ?_)
        · refine pm_aloadn hG dX11_check_57 rfl ?_
          refine pm_getf hG dX11_check_58 (flX11_12 _ rfl) rfl rfl ?_
          refine pm_getf hG dX11_check_61 (flX11_386 _ rfl) rfl rfl ?_
          refine pm_callV (As := []) (rest := []) hG hR dX11_check_64 (lkX11_392 _ rfl) okV_X9_clear rfl rfl (tb_clear (d := 1) rfl) rfl rfl hdd (Nat.le_refl _) (Nat.le_refl _) (by decide) (pm_kv (fun σ' cnt' hq => ?_))
          obtain ⟨I6, A6, rfl, rfl, h6⟩ := hq_c22 (kp := kp) (I := I2) (A := A2) h2 hq
          refine pm_iloadn hG dX11_check_67 rfl ?_
          exact pm_iret hG hF dX11_check_68 rfl (Nat.le_refl _) (Nat.le_refl _) ⟨_, rfl, _, _, rfl, rfl, h6⟩
        · refine pm_aloadn hG dX11_check_24 rfl ?_
          refine pm_getf hG dX11_check_25 (flX11_12 _ rfl) rfl rfl ?_
          refine pm_iloadn hG dX11_check_28 rfl ?_
          refine pm_aloadn hG dX11_check_29 rfl ?_
          refine pm_getf hG dX11_check_30 (flX11_12 _ rfl) rfl rfl ?_
          refine pm_getf hG dX11_check_33 (flX11_386 _ rfl) rfl rfl ?_
          refine pm_iloadn hG dX11_check_36 rfl ?_
          refine pm_iconst (v := 0) hG dX11_check_37 (by decide) ?_
          refine pm_callV (As := [.int x2_3, .int 0]) (rest := [.int x2_3, .ref (B + 1)]) hG hR dX11_check_38 (lkX11_152 _ rfl) okV_X9_get rfl rfl (tb_get (d := 1) rfl rfl (pm_tw_of 20 1 (by decide) (by decide) (by decide))) rfl rfl hdd (Nat.le_refl _) (Nat.le_refl _) (by first | decide | exact Nat.le_of_ble_eq_true rfl) (pm_ki (fun v7 σ' cnt' hq => ?_))
          obtain ⟨I7, A7, rfl, rfl, h7⟩ := hv_id (kp := kp) (I := I2) (A := A2) h2 hq.2
          refine pm_callV (As := [.int x2_3, .int v7]) (rest := []) hG hR dX11_check_41 (lkX11_389 _ rfl) okV_X7_isCoinOf rfl rfl (g_X7_isCoinOf (d := 1) (by decide) h7) rfl rfl hdd (Nat.le_refl _) (Nat.le_refl _) (by decide) (pm_ki (fun v8 σ' cnt' hq => ?_))
          obtain ⟨b8, I8, A8, rfl, rfl, h8⟩ := hq
          refine pm_if_ne (tgt := 51) hG dX11_check_44 rfl (fun c9 => ?_) (fun c9 => ?_)
          · refine pm_iincX (v := x2_3 + 1) (loc' := [some (.ref (B + 0)), some (.int v1), some (.int x2_2), some (.int (x2_3 + 1))]) hG dX11_check_51 rfl (by rfl) (by decide) (pm_c1b rfl) rfl ?_
            refine pm_goto (tgt := 15) hG dX11_check_54 rfl ?_
            exact ih15 _ _ x2_2 (x2_3 + 1) h8 (pm_sd1 c3 s15) (Nat.lt_of_lt_of_le (pm_mu1 c3) (Nat.le_of_lt_succ hm15))
          · refine pm_iloadn hG dX11_check_47 rfl ?_
            refine pm_iconst (v := 1) hG dX11_check_48 (by decide) ?_
            refine pm_iadd hG dX11_check_49 ?_
            refine pm_istoreXn (loc' := [some (.ref (B + 0)), some (.int v1), some (.int (x2_3 + 1)), some (.int x2_3)]) hG dX11_check_50 (by decide) (pm_c1b rfl) rfl ?_
            refine pm_iincX (v := x2_3 + 1) (loc' := [some (.ref (B + 0)), some (.int v1), some (.int (x2_3 + 1)), some (.int (x2_3 + 1))]) hG dX11_check_51 rfl (by rfl) (by decide) (pm_c1b rfl) rfl ?_
            refine pm_goto (tgt := 15) hG dX11_check_54 rfl ?_
            exact ih15 _ _ (x2_3 + 1) (x2_3 + 1) h8 (pm_sd1 c3 s15) (Nat.lt_of_lt_of_le (pm_mu1 c3) (Nat.le_of_lt_succ hm15))
  exact loop15 _ _ _ 0 0 h1 (by decide) (Nat.lt_succ_self _)
