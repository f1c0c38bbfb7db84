/-! ===== a Realm at r; one takes all from another ===== -/
def rl_L (B r : Nat) (J : Nat → Int32) (K : Nat → Nat → Int32) : List pm_C := [.inr (7, [.ref (B + (r + 1)), .ref (B + (r + 3)), .ref (B + (r + 5)), .ref (B + (r + 7)), .ref (B + (r + 9)), .ref (B + (r + 11)), .ref (B + (r + 13)), .ref (B + (r + 15)), .ref (B + (r + 17)), .ref (B + (r + 19)), .ref (B + (r + 21)), .ref (B + (r + 23)), .int (J 101), .int (J 102), .int (J 103)]), .inr (9, [.int (nI 10), .int (nI 3), .ref (B + (r + 2)), .int (J 2)]), .inl (30, K 3), .inr (9, [.int (nI 10), .int (nI 10), .ref (B + (r + 4)), .int (J 4)]), .inl (100, K 5), .inr (9, [.int (nI 20), .int (nI 14), .ref (B + (r + 6)), .int (J 6)]), .inl (280, K 7), .inr (9, [.int (nI 20), .int (nI 6), .ref (B + (r + 8)), .int (J 8)]), .inl (120, K 9), .inr (9, [.int (nI 12), .int (nI 6), .ref (B + (r + 10)), .int (J 10)]), .inl (72, K 11), .inr (9, [.int (nI 12), .int (nI 60), .ref (B + (r + 12)), .int (J 12)]), .inl (720, K 13), .inr (9, [.int (nI 40), .int (nI 12), .ref (B + (r + 14)), .int (J 14)]), .inl (480, K 15), .inr (9, [.int (nI 6), .int (nI 5), .ref (B + (r + 16)), .int (J 16)]), .inl (30, K 17), .inr (9, [.int (nI 30), .int (nI 5), .ref (B + (r + 18)), .int (J 18)]), .inl (150, K 19), .inr (9, [.int (nI 5), .int (nI 1), .ref (B + (r + 20)), .int (J 20)]), .inl (5, K 21), .inr (9, [.int (nI 20), .int (nI 1), .ref (B + (r + 22)), .int (J 22)]), .inl (20, K 23), .inr (9, [.int (nI 60), .int (nI 1), .ref (B + (r + 24)), .int (J 24)]), .inl (60, K 25)]

def mnR (R : Nat) (x : Int32) : Int32 := if nI R < x then nI R else x
def rwT (a : Nat) : Nat := if a = 2 then 10 else if a = 4 then 10 else if a = 6 then 20 else if a = 8 then 20 else if a = 10 then 12 else if a = 12 then 12 else if a = 14 then 40 else if a = 16 then 6 else if a = 18 then 30 else if a = 20 then 5 else if a = 22 then 20 else if a = 24 then 60 else 0

def rl_oth (r : Nat) (σ σ' : pm_S) : Prop := ∀ j : Nat, (j < r ∨ r + 25 ≤ j) → σ' j = σ j
theorem rl_oth.rf {r : Nat} {σ : pm_S} : rl_oth r σ σ := fun _ _ => rfl
theorem rl_oth.up {r a : Nat} {σ σ' : pm_S} {x : pm_C} (h : rl_oth r σ σ') (h1 : r ≤ a) (h2 : a < r + 25) : rl_oth r σ (pm_up σ' a x) := fun j hj => (pm_up_ne _ _ (by omega)).trans (h j hj)
theorem rl_up {σ : pm_S} {r : Nat} {L L' : List pm_C} {x : pm_C} (h : pm_lies σ r L) (i : Nat) (e : L.set i x = L') : pm_lies (pm_up σ (r + i) x) r L' := by
  subst e
  intro j y hj
  by_cases hij : i = j
  · subst hij
    rw [pm_up_same]
    rw [List.getElem?_set] at hj
    split at hj
    · split at hj
      · exact hj
      · cases hj
    · next h9 => exact absurd rfl h9
  · rw [pm_up_ne _ _ (by omega)]
    rw [List.getElem?_set_ne hij] at hj
    exact h j y hj
theorem rl_ot {σ : pm_S} {r B k : Nat} {J : Nat → Int32} {K : Nat → Nat → Int32} {x : pm_C} (h : pm_lies σ r (rl_L B r J K)) (hk : k < r ∨ r + 25 ≤ k) : pm_lies (pm_up σ k x) r (rl_L B r J K) := by
  intro j y hj
  have hl : j < (rl_L B r J K).length := (List.getElem?_eq_some_iff.mp hj).1
  have hl2 : (rl_L B r J K).length = 25 := rfl
  rw [pm_up_ne _ _ (by omega)]
  exact h j y hj
def tkd (S : List (Nat × Nat)) (J : Nat → Int32) (K : Nat → Nat → Int32) (J2 : Nat → Int32) (K2 : Nat → Nat → Int32) : Prop := ∀ q ∈ S, J q.1 = mnR (rwT q.1) (J2 q.1) ∧ ∀ j : Nat, j < q.2 → K (q.1 + 1) j = K2 (q.1 + 1) j
theorem tkd.nil {J : Nat → Int32} {K : Nat → Nat → Int32} {J2 : Nat → Int32} {K2 : Nat → Nat → Int32} : tkd [] J K J2 K2 := fun q hq => by cases hq
theorem tkd.cons {S : List (Nat × Nat)} {J : Nat → Int32} {K : Nat → Nat → Int32} {J2 : Nat → Int32} {K2 : Nat → Nat → Int32} {a n : Nat} {v : Int32} {g : Nat → Int32} (ha : S.all (fun q => q.1 != a) = true) (hv : v = mnR (rwT a) (J2 a)) (hg : ∀ j : Nat, j < n → g j = K2 (a + 1) j) (h : tkd S J K J2 K2) : tkd ((a, n) :: S) (ui J a v) (ua K (a + 1) g) J2 K2 := by
  simp only [List.all_eq_true, bne_iff_ne] at ha
  intro q hq
  rcases List.mem_cons.mp hq with rfl | hq
  · exact ⟨by rw [ui_eq]; exact hv, fun j hj => by rw [ua_eq]; exact hg j hj⟩
  · have h1 := ha q hq
    have h2 := h q hq
    exact ⟨by rw [ui_ne h1]; exact h2.1, fun j hj => by rw [ua_ne (by omega)]; exact h2.2 j hj⟩
theorem tkd_ui {S : List (Nat × Nat)} {J : Nat → Int32} {K : Nat → Nat → Int32} {J2 : Nat → Int32} {K2 : Nat → Nat → Int32} {a : Nat} {v : Int32} (ha : S.all (fun q => q.1 != a) = true) (h : tkd S J K J2 K2) : tkd S (ui J a v) K J2 K2 := by
  simp only [List.all_eq_true, bne_iff_ne] at ha
  intro q hq
  exact ⟨by rw [ui_ne (ha q hq)]; exact (h q hq).1, (h q hq).2⟩
theorem pm_genS {M : pm_M} {G : pm_G} {B pc : Nat} {loc : List (Option Value)} {st : List Value} {cs zs cnt : Nat} {σ : pm_S} (h : ∀ τ : pm_S, σ = τ → pm_wp M G B pc loc st cs zs cnt τ) : pm_wp M G B pc loc st cs zs cnt σ := h σ rfl
theorem pm_cpy0 {f g : Nat → Int32} {n : Nat} (hn : n < 2 ^ 31) : ∀ j : Nat, j < n → va_cpy f g (0 : Int32).toNatClampNeg (0 : Int32).toNatClampNeg (nI n).toNatClampNeg j = f j := by
  intro j hj
  have h0 : (0 : Int32).toNatClampNeg = 0 := rfl
  unfold va_cpy
  rw [nI_clamp hn, h0, if_pos (by omega)]
  congr 1
  omega
theorem pm_ow.narrow {B κ : Nat} {U : State} (h : pm_ow B U) : pm_ow (B + κ) U := by
  obtain ⟨⟨z, h1, h2⟩, h3, adK, adV, h4, h5⟩ := h
  have hk : ∀ q : Nat, B + κ ≤ q → B ≤ q := fun q hq => by omega
  exact ⟨⟨z, h1.narrow hk, h2.narrow hk⟩, h3.narrow hk, adK, adV, h4.narrow hk, h5⟩
/-- a contract at a higher base -/
theorem pm_shift {M : pm_M} {d mc ms B κ c1 : Nat} {av : List Value} {σ σ1 : pm_S} {Q Q1 : Option Value → pm_S → Nat → Prop} (hM : pm_met M d mc ms (B + κ) av c1 σ1 Q1) (hs : ∀ (j : Nat) (x : pm_C), σ1 j = some x → σ (κ + j) = some x)
    (hQ : ∀ (r : Option Value) (σ' : pm_S) (c' : Nat), Q1 r σ' c' → Q r (fun j => if j < κ then σ j else σ' (j - κ)) (κ + c')) : pm_met M d mc ms B av (κ + c1) σ Q := by
  intro l D cI p e ha hf hc s m args below g1 g2 hP hK
  obtain ⟨e1, ⟨e2, e3⟩, e4⟩ := hP
  obtain ⟨n, o, k1, k2, k3, ⟨r, σ', c', q1, q2, q3, q4⟩, L, q5, q6⟩ := hM l D cI p e ha hf hc s m args below g1 g2 ⟨e1, ⟨e2, e3.narrow⟩, by rw [e4.1]; omega, fun j x hj => by rw [Nat.add_assoc]; exact e4.2 (κ + j) x (hs j x hj)⟩ hK
  refine ⟨n, o, k1, k2, k3, ⟨r, _, _, q1, hQ _ _ _ q2, ⟨by rw [q3.1]; omega, fun j x hj => ?_⟩, fun q hq => q4 q (by omega)⟩, L, q5, fun q hq => by have := q6 q hq; omega⟩
  by_cases hj2 : j < κ
  · simp only [if_pos hj2] at hj
    exact (e4.2 j x hj).kept (q4 _ (by omega))
  · simp only [if_neg hj2] at hj
    have h9 := q3.2 _ x hj
    rw [show B + κ + (j - κ) = B + j by omega] at h9
    exact h9
theorem pm_two_lies {L : List pm_C} {ρ : pm_S} (h : L.length ≤ 54) : pm_lies (pm_two L ρ) 0 L := by
  intro i x hi
  have hl : i < L.length := (List.getElem?_eq_some_iff.mp hi).1
  unfold pm_two
  rw [Nat.zero_add, if_pos (by omega)]
  exact hi
theorem pm_two_hi {L : List pm_C} {ρ : pm_S} {j : Nat} (h : 54 ≤ j) : pm_two L ρ j = ρ j := if_neg (by omega)
theorem pm_lies.same {σ σ' : pm_S} {k : Nat} {L : List pm_C} (h : pm_lies σ k L) (hs : ∀ j : Nat, k ≤ j → j < k + L.length → σ' j = σ j) : pm_lies σ' k L := by
  intro i x hi
  have hl : i < L.length := (List.getElem?_eq_some_iff.mp hi).1
  rw [hs _ (by omega) (by omega)]
  exact h i x hi
theorem pm_sub_two {L : List pm_C} {σ : pm_S} (h : pm_lies σ 0 L) : pm_sub (pm_two L σ) σ := by
  intro j x hj
  unfold pm_two at hj
  split at hj
  · have := h j x hj
    rwa [Nat.zero_add] at this
  · exact hj
def rl_J0 (k : Nat) : Int32 := if k = 103 then 1000 else 0
def rl_K0 (fw : Nat → Int32) (a : Nat) : Nat → Int32 := if a = 5 then fw else fun _ => 0
def tk (J : Nat → Int32) (K : Nat → Nat → Int32) (J2 : Nat → Int32) (K2 : Nat → Nat → Int32) (S : List (Nat × Nat)) : Prop := tkd S J K J2 K2 ∧ J 101 = J2 101 ∧ J 102 = J2 102 ∧ J 103 = J2 103

def tk_all : List (Nat × Nat) := [(24, 60), (22, 20), (20, 5), (18, 150), (16, 30), (14, 480), (12, 720), (10, 72), (8, 120), (6, 280), (4, 100), (2, 30)]

set_option maxRecDepth 100000 in
theorem tb_takeFrom {d B cnt t c t2 c2 n R W : Nat} {σ : pm_S} {used u2 : Int32} {f f2 : Nat → Int32} (hdd : 1 ≤ d) (ht : σ t = some (.inr (9, [.int (nI R), .int (nI W), .ref (B + c), .int used]))) (hc : σ c = some (.inl (n, f))) (ht2 : σ t2 = some (.inr (9, [.int (nI R), .int (nI W), .ref (B + c2), .int u2]))) (hc2 : σ c2 = some (.inl (n, f2))) (hn : n < 2 ^ 31) (htc : t ≠ c) (htt2 : t ≠ t2) (htc2 : t ≠ c2) (hct2 : c ≠ t2) (hcc2 : c ≠ c2) (ht2c2 : t2 ≠ c2) : pm_met mX9_takeFrom d 0 0 B [.ref (B + t), .ref (B + t2)] cnt σ (pm_Qv (fun σ' cnt' => (∃ g : Nat → Int32, (∀ j : Nat, j < n → g j = f2 j) ∧ σ' = pm_up (pm_up σ t (.inr (9, [.int (nI R), .int (nI W), .ref (B + c), .int (mnR R u2)]))) c (.inl (n, g))) ∧ cnt' = cnt)) := by
  refine pm_enter 0 (by decide) (Nat.le_of_ble_eq_true rfl) rfl (fun G hG hRm hF => ?_)
  refine pm_aloadn hG dX9_takeFrom_0 rfl ?_
  refine pm_aloadn hG dX9_takeFrom_1 rfl ?_
  refine pm_getf hG dX9_takeFrom_2 (flX9_29 _ rfl) ht2 rfl ?_
  refine pm_aloadn hG dX9_takeFrom_5 rfl ?_
  refine pm_getf hG dX9_takeFrom_6 (flX9_16 _ rfl) ht rfl ?_
  refine pm_mmin hG hRm dX9_takeFrom_9 (mmX9_7 _ rfl) pm_mwmin (by omega) (by first | decide | exact Nat.le_of_ble_eq_true rfl) (Nat.le_refl _) (Nat.le_refl _) ?_
  refine pm_top (v := mnR R u2) rfl ?_
  refine pm_putf hG dX9_takeFrom_12 (fwX9_29 _ rfl) ht rfl rfl ?_
  refine pm_aloadn hG dX9_takeFrom_15 rfl ?_
  refine pm_getf hG dX9_takeFrom_16 (flX9_25 _ rfl) ((pm_up_ne _ _ htt2.symm).trans ht2) rfl ?_
  refine pm_iconst (v := 0) hG dX9_takeFrom_19 (by decide) ?_
  refine pm_aloadn hG dX9_takeFrom_20 rfl ?_
  refine pm_getf hG dX9_takeFrom_21 (flX9_25 _ rfl) (pm_up_same _ _ _) rfl ?_
  refine pm_iconst (v := 0) hG dX9_takeFrom_24 (by decide) ?_
  refine pm_aloadn hG dX9_takeFrom_25 rfl ?_
  refine pm_getf hG dX9_takeFrom_26 (flX9_25 _ rfl) (pm_up_same _ _ _) rfl ?_
  refine pm_alen hG dX9_takeFrom_29 ((pm_up_ne _ _ htc.symm).trans hc) rfl ?_
  refine pm_aloadn hG dX9_takeFrom_30 rfl ?_
  refine pm_getf hG dX9_takeFrom_31 (flX9_25 _ rfl) ((pm_up_ne _ _ htt2.symm).trans ht2) rfl ?_
  refine pm_alen hG dX9_takeFrom_34 ((pm_up_ne _ _ htc2.symm).trans hc2) rfl ?_
  refine pm_mmin hG hRm dX9_takeFrom_35 (mmX9_7 _ rfl) pm_mwmin (by omega) (by first | decide | exact Nat.le_of_ble_eq_true rfl) (Nat.le_refl _) (Nat.le_refl _) ?_
  refine pm_top (v := nI n) (ite_self _) ?_
  refine pm_acopy hG hRm dX9_takeFrom_38 (acX9_49 _ rfl) pm_cwok hdd (by decide) ((pm_up_ne _ _ htc2.symm).trans hc2) ((pm_up_ne _ _ htc.symm).trans hc) (by decide) (by decide) (nI_pos hn) (by rw [nI_clamp hn]; exact Nat.le_of_eq (Nat.zero_add _)) (by rw [nI_clamp hn]; exact Nat.le_of_eq (Nat.zero_add _)) ?_
  exact pm_vret hG hF dX9_takeFrom_41 rfl (by decide) (by decide) ⟨rfl, ⟨_, pm_cpy0 hn, rfl⟩, rfl⟩

set_option maxRecDepth 100000 in
theorem tkS_12 {G : pm_G} {d B cs zs cnt r1 r2 : Nat} {σ0 σ : pm_S} {J J2 : Nat → Int32} {K K2 : Nat → Nat → Int32} (hG : pm_ok mX7_takeFrom G B) (hR : pm_rm G d 0 0) (hF : pm_fin G B 0 0 (pm_Qv (fun σ' cnt' => ∃ (J : Nat → Int32) (K : Nat → Nat → Int32), pm_lies σ' r1 (rl_L B r1 J K) ∧ tk J K J2 K2 tk_all ∧ rl_oth r1 σ0 σ' ∧ cnt' = cnt))) (hdd : 2 ≤ d) (hcs : cs ≤ 0) (hzs : zs ≤ 0) (hr : r1 + 25 ≤ r2 ∨ r2 + 25 ≤ r1) (h1 : pm_lies σ r1 (rl_L B r1 J K)) (h2 : pm_lies σ r2 (rl_L B r2 J2 K2)) (ho : rl_oth r1 σ0 σ) (ht : tkd [(24, 60), (22, 20), (20, 5), (18, 150), (16, 30), (14, 480), (12, 720), (10, 72), (8, 120), (6, 280), (4, 100), (2, 30)] J K J2 K2) : pm_wp mX7_takeFrom G B 132 [some (.ref (B + (r1 + 0))), some (.ref (B + (r2 + 0)))] [] cs zs cnt σ := by
  refine pm_aloadn hG dX7_takeFrom_132 rfl ?_
  refine pm_aloadn hG dX7_takeFrom_133 rfl ?_
  refine pm_getf hG dX7_takeFrom_134 (flX7_69 _ rfl) (h2 0 _ rfl) rfl ?_
  refine pm_putf hG dX7_takeFrom_137 (fwX7_69 _ rfl) (h1 0 _ rfl) rfl rfl ?_
  have a20 : pm_lies (pm_up σ (r1 + 0) (.inr (7, [.ref (B + (r1 + 1)), .ref (B + (r1 + 3)), .ref (B + (r1 + 5)), .ref (B + (r1 + 7)), .ref (B + (r1 + 9)), .ref (B + (r1 + 11)), .ref (B + (r1 + 13)), .ref (B + (r1 + 15)), .ref (B + (r1 + 17)), .ref (B + (r1 + 19)), .ref (B + (r1 + 21)), .ref (B + (r1 + 23)), .int (J2 101), .int (J 102), .int (J 103)]))) r1 (rl_L B r1 (ui J 101 (J2 101)) K) := rl_up h1 0 rfl
  have b20 := rl_ot (k := r1 + 0) (x := .inr (7, [.ref (B + (r1 + 1)), .ref (B + (r1 + 3)), .ref (B + (r1 + 5)), .ref (B + (r1 + 7)), .ref (B + (r1 + 9)), .ref (B + (r1 + 11)), .ref (B + (r1 + 13)), .ref (B + (r1 + 15)), .ref (B + (r1 + 17)), .ref (B + (r1 + 19)), .ref (B + (r1 + 21)), .ref (B + (r1 + 23)), .int (J2 101), .int (J 102), .int (J 103)])) h2 (by omega)
  have o20 := rl_oth.up (a := r1 + 0) (x := .inr (7, [.ref (B + (r1 + 1)), .ref (B + (r1 + 3)), .ref (B + (r1 + 5)), .ref (B + (r1 + 7)), .ref (B + (r1 + 9)), .ref (B + (r1 + 11)), .ref (B + (r1 + 13)), .ref (B + (r1 + 15)), .ref (B + (r1 + 17)), .ref (B + (r1 + 19)), .ref (B + (r1 + 21)), .ref (B + (r1 + 23)), .int (J2 101), .int (J 102), .int (J 103)])) ho (by omega) (by omega)
  have k20 : tkd tk_all (ui J 101 (J2 101)) K J2 K2 := tkd_ui (by decide) ht
  refine pm_genS (fun τ0 eτ0 => ?_)
  have a30 : pm_lies τ0 r1 _ := eτ0 ▸ a20
  have b30 : pm_lies τ0 r2 _ := eτ0 ▸ b20
  have o30 : rl_oth r1 σ0 τ0 := eτ0 ▸ o20
  refine pm_aloadn hG dX7_takeFrom_140 rfl ?_
  refine pm_aloadn hG dX7_takeFrom_141 rfl ?_
  refine pm_getf hG dX7_takeFrom_142 (flX7_72 _ rfl) (b30 0 _ rfl) rfl ?_
  refine pm_putf hG dX7_takeFrom_145 (fwX7_72 _ rfl) (a30 0 _ rfl) rfl rfl ?_
  have a21 : pm_lies (pm_up τ0 (r1 + 0) (.inr (7, [.ref (B + (r1 + 1)), .ref (B + (r1 + 3)), .ref (B + (r1 + 5)), .ref (B + (r1 + 7)), .ref (B + (r1 + 9)), .ref (B + (r1 + 11)), .ref (B + (r1 + 13)), .ref (B + (r1 + 15)), .ref (B + (r1 + 17)), .ref (B + (r1 + 19)), .ref (B + (r1 + 21)), .ref (B + (r1 + 23)), .int ((ui J 101 (J2 101)) 101), .int (J2 102), .int ((ui J 101 (J2 101)) 103)]))) r1 (rl_L B r1 (ui (ui J 101 (J2 101)) 102 (J2 102)) K) := rl_up a30 0 rfl
  have b21 := rl_ot (k := r1 + 0) (x := .inr (7, [.ref (B + (r1 + 1)), .ref (B + (r1 + 3)), .ref (B + (r1 + 5)), .ref (B + (r1 + 7)), .ref (B + (r1 + 9)), .ref (B + (r1 + 11)), .ref (B + (r1 + 13)), .ref (B + (r1 + 15)), .ref (B + (r1 + 17)), .ref (B + (r1 + 19)), .ref (B + (r1 + 21)), .ref (B + (r1 + 23)), .int ((ui J 101 (J2 101)) 101), .int (J2 102), .int ((ui J 101 (J2 101)) 103)])) b30 (by omega)
  have o21 := rl_oth.up (a := r1 + 0) (x := .inr (7, [.ref (B + (r1 + 1)), .ref (B + (r1 + 3)), .ref (B + (r1 + 5)), .ref (B + (r1 + 7)), .ref (B + (r1 + 9)), .ref (B + (r1 + 11)), .ref (B + (r1 + 13)), .ref (B + (r1 + 15)), .ref (B + (r1 + 17)), .ref (B + (r1 + 19)), .ref (B + (r1 + 21)), .ref (B + (r1 + 23)), .int ((ui J 101 (J2 101)) 101), .int (J2 102), .int ((ui J 101 (J2 101)) 103)])) o30 (by omega) (by omega)
  have k21 : tkd tk_all (ui (ui J 101 (J2 101)) 102 (J2 102)) K J2 K2 := tkd_ui (by decide) k20
  refine pm_genS (fun τ1 eτ1 => ?_)
  have a31 : pm_lies τ1 r1 _ := eτ1 ▸ a21
  have b31 : pm_lies τ1 r2 _ := eτ1 ▸ b21
  have o31 : rl_oth r1 σ0 τ1 := eτ1 ▸ o21
  refine pm_aloadn hG dX7_takeFrom_148 rfl ?_
  refine pm_aloadn hG dX7_takeFrom_149 rfl ?_
  refine pm_getf hG dX7_takeFrom_150 (flX7_53 _ rfl) (b31 0 _ rfl) rfl ?_
  refine pm_putf hG dX7_takeFrom_153 (fwX7_53 _ rfl) (a31 0 _ rfl) rfl rfl ?_
  have a22 : pm_lies (pm_up τ1 (r1 + 0) (.inr (7, [.ref (B + (r1 + 1)), .ref (B + (r1 + 3)), .ref (B + (r1 + 5)), .ref (B + (r1 + 7)), .ref (B + (r1 + 9)), .ref (B + (r1 + 11)), .ref (B + (r1 + 13)), .ref (B + (r1 + 15)), .ref (B + (r1 + 17)), .ref (B + (r1 + 19)), .ref (B + (r1 + 21)), .ref (B + (r1 + 23)), .int ((ui (ui J 101 (J2 101)) 102 (J2 102)) 101), .int ((ui (ui J 101 (J2 101)) 102 (J2 102)) 102), .int (J2 103)]))) r1 (rl_L B r1 (ui (ui (ui J 101 (J2 101)) 102 (J2 102)) 103 (J2 103)) K) := rl_up a31 0 rfl
  have b22 := rl_ot (k := r1 + 0) (x := .inr (7, [.ref (B + (r1 + 1)), .ref (B + (r1 + 3)), .ref (B + (r1 + 5)), .ref (B + (r1 + 7)), .ref (B + (r1 + 9)), .ref (B + (r1 + 11)), .ref (B + (r1 + 13)), .ref (B + (r1 + 15)), .ref (B + (r1 + 17)), .ref (B + (r1 + 19)), .ref (B + (r1 + 21)), .ref (B + (r1 + 23)), .int ((ui (ui J 101 (J2 101)) 102 (J2 102)) 101), .int ((ui (ui J 101 (J2 101)) 102 (J2 102)) 102), .int (J2 103)])) b31 (by omega)
  have o22 := rl_oth.up (a := r1 + 0) (x := .inr (7, [.ref (B + (r1 + 1)), .ref (B + (r1 + 3)), .ref (B + (r1 + 5)), .ref (B + (r1 + 7)), .ref (B + (r1 + 9)), .ref (B + (r1 + 11)), .ref (B + (r1 + 13)), .ref (B + (r1 + 15)), .ref (B + (r1 + 17)), .ref (B + (r1 + 19)), .ref (B + (r1 + 21)), .ref (B + (r1 + 23)), .int ((ui (ui J 101 (J2 101)) 102 (J2 102)) 101), .int ((ui (ui J 101 (J2 101)) 102 (J2 102)) 102), .int (J2 103)])) o31 (by omega) (by omega)
  have k22 : tkd tk_all (ui (ui (ui J 101 (J2 101)) 102 (J2 102)) 103 (J2 103)) K J2 K2 := tkd_ui (by decide) k21
  refine pm_genS (fun τ2 eτ2 => ?_)
  have a32 : pm_lies τ2 r1 _ := eτ2 ▸ a22
  have b32 : pm_lies τ2 r2 _ := eτ2 ▸ b22
  have o32 : rl_oth r1 σ0 τ2 := eτ2 ▸ o22
  exact pm_vret hG hF dX7_takeFrom_156 rfl hcs hzs ⟨rfl, _, _, a32, ⟨k22, rfl, rfl, rfl⟩, o32, rfl⟩

theorem rwT_24 : rwT 24 = 60 := rfl
set_option maxRecDepth 100000 in
theorem tkS_11 {G : pm_G} {d B cs zs cnt r1 r2 : Nat} {σ0 σ : pm_S} {J J2 : Nat → Int32} {K K2 : Nat → Nat → Int32} (hG : pm_ok mX7_takeFrom G B) (hR : pm_rm G d 0 0) (hF : pm_fin G B 0 0 (pm_Qv (fun σ' cnt' => ∃ (J : Nat → Int32) (K : Nat → Nat → Int32), pm_lies σ' r1 (rl_L B r1 J K) ∧ tk J K J2 K2 tk_all ∧ rl_oth r1 σ0 σ' ∧ cnt' = cnt))) (hdd : 2 ≤ d) (hcs : cs ≤ 0) (hzs : zs ≤ 0) (hr : r1 + 25 ≤ r2 ∨ r2 + 25 ≤ r1) (h1 : pm_lies σ r1 (rl_L B r1 J K)) (h2 : pm_lies σ r2 (rl_L B r2 J2 K2)) (ho : rl_oth r1 σ0 σ) (ht : tkd [(22, 20), (20, 5), (18, 150), (16, 30), (14, 480), (12, 720), (10, 72), (8, 120), (6, 280), (4, 100), (2, 30)] J K J2 K2) : pm_wp mX7_takeFrom G B 121 [some (.ref (B + (r1 + 0))), some (.ref (B + (r2 + 0)))] [] cs zs cnt σ := by
  refine pm_aloadn hG dX7_takeFrom_121 rfl ?_
  refine pm_getf hG dX7_takeFrom_122 (flX7_50 _ rfl) (h1 0 _ rfl) rfl ?_
  refine pm_aloadn hG dX7_takeFrom_125 rfl ?_
  refine pm_getf hG dX7_takeFrom_126 (flX7_50 _ rfl) (h2 0 _ rfl) rfl ?_
  refine pm_callV (As := [.ref (B + (r2 + 23))]) (rest := []) hG hR dX7_takeFrom_129 (lkX7_65 _ rfl) okV_X9_takeFrom (h1 23 _ rfl) rfl (tb_takeFrom (d := 1) (t := r1 + 23) (c := r1 + 24) (t2 := r2 + 23) (c2 := r2 + 24) (n := 60) (R := 60) (W := 1) (u2 := J2 24) (by decide) (h1 23 _ rfl) (h1 24 _ rfl) (h2 23 _ rfl) (h2 24 _ rfl) (by decide) (by omega) (by omega) (by omega) (by omega) (by omega) (by omega)) rfl rfl hdd hcs hzs (by decide) (pm_kv (fun σ1 cnt1 hq => ?_))
  obtain ⟨⟨g, hg, es⟩, rfl⟩ := hq
  generalize hm : mnR 60 (J2 24) = m at es
  have a1 : pm_lies σ1 r1 (rl_L B r1 (ui J 24 m) (ua K 25 g)) := by rw [es]; exact rl_up (rl_up h1 23 rfl) 24 rfl
  have b1 : pm_lies σ1 r2 (rl_L B r2 J2 K2) := by rw [es]; exact rl_ot (rl_ot h2 (by omega)) (by omega)
  have o1 : rl_oth r1 σ0 σ1 := by rw [es]; exact rl_oth.up (rl_oth.up ho (by omega) (by omega)) (by omega) (by omega)
  have k1 : tkd [(24, 60), (22, 20), (20, 5), (18, 150), (16, 30), (14, 480), (12, 720), (10, 72), (8, 120), (6, 280), (4, 100), (2, 30)] (ui J 24 m) (ua K 25 g) J2 K2 := tkd.cons (by decide) (hm.symm.trans (congrArg (fun z => mnR z (J2 24)) rwT_24.symm)) hg ht
  exact tkS_12 hG hR hF hdd hcs hzs hr a1 b1 o1 k1

theorem rwT_22 : rwT 22 = 20 := rfl
set_option maxRecDepth 100000 in
theorem tkS_10 {G : pm_G} {d B cs zs cnt r1 r2 : Nat} {σ0 σ : pm_S} {J J2 : Nat → Int32} {K K2 : Nat → Nat → Int32} (hG : pm_ok mX7_takeFrom G B) (hR : pm_rm G d 0 0) (hF : pm_fin G B 0 0 (pm_Qv (fun σ' cnt' => ∃ (J : Nat → Int32) (K : Nat → Nat → Int32), pm_lies σ' r1 (rl_L B r1 J K) ∧ tk J K J2 K2 tk_all ∧ rl_oth r1 σ0 σ' ∧ cnt' = cnt))) (hdd : 2 ≤ d) (hcs : cs ≤ 0) (hzs : zs ≤ 0) (hr : r1 + 25 ≤ r2 ∨ r2 + 25 ≤ r1) (h1 : pm_lies σ r1 (rl_L B r1 J K)) (h2 : pm_lies σ r2 (rl_L B r2 J2 K2)) (ho : rl_oth r1 σ0 σ) (ht : tkd [(20, 5), (18, 150), (16, 30), (14, 480), (12, 720), (10, 72), (8, 120), (6, 280), (4, 100), (2, 30)] J K J2 K2) : pm_wp mX7_takeFrom G B 110 [some (.ref (B + (r1 + 0))), some (.ref (B + (r2 + 0)))] [] cs zs cnt σ := by
  refine pm_aloadn hG dX7_takeFrom_110 rfl ?_
  refine pm_getf hG dX7_takeFrom_111 (flX7_47 _ rfl) (h1 0 _ rfl) rfl ?_
  refine pm_aloadn hG dX7_takeFrom_114 rfl ?_
  refine pm_getf hG dX7_takeFrom_115 (flX7_47 _ rfl) (h2 0 _ rfl) rfl ?_
  refine pm_callV (As := [.ref (B + (r2 + 21))]) (rest := []) hG hR dX7_takeFrom_118 (lkX7_65 _ rfl) okV_X9_takeFrom (h1 21 _ rfl) rfl (tb_takeFrom (d := 1) (t := r1 + 21) (c := r1 + 22) (t2 := r2 + 21) (c2 := r2 + 22) (n := 20) (R := 20) (W := 1) (u2 := J2 22) (by decide) (h1 21 _ rfl) (h1 22 _ rfl) (h2 21 _ rfl) (h2 22 _ rfl) (by decide) (by omega) (by omega) (by omega) (by omega) (by omega) (by omega)) rfl rfl hdd hcs hzs (by decide) (pm_kv (fun σ1 cnt1 hq => ?_))
  obtain ⟨⟨g, hg, es⟩, rfl⟩ := hq
  generalize hm : mnR 20 (J2 22) = m at es
  have a1 : pm_lies σ1 r1 (rl_L B r1 (ui J 22 m) (ua K 23 g)) := by rw [es]; exact rl_up (rl_up h1 21 rfl) 22 rfl
  have b1 : pm_lies σ1 r2 (rl_L B r2 J2 K2) := by rw [es]; exact rl_ot (rl_ot h2 (by omega)) (by omega)
  have o1 : rl_oth r1 σ0 σ1 := by rw [es]; exact rl_oth.up (rl_oth.up ho (by omega) (by omega)) (by omega) (by omega)
  have k1 : tkd [(22, 20), (20, 5), (18, 150), (16, 30), (14, 480), (12, 720), (10, 72), (8, 120), (6, 280), (4, 100), (2, 30)] (ui J 22 m) (ua K 23 g) J2 K2 := tkd.cons (by decide) (hm.symm.trans (congrArg (fun z => mnR z (J2 22)) rwT_22.symm)) hg ht
  exact tkS_11 hG hR hF hdd hcs hzs hr a1 b1 o1 k1

theorem rwT_20 : rwT 20 = 5 := rfl
set_option maxRecDepth 100000 in
theorem tkS_9 {G : pm_G} {d B cs zs cnt r1 r2 : Nat} {σ0 σ : pm_S} {J J2 : Nat → Int32} {K K2 : Nat → Nat → Int32} (hG : pm_ok mX7_takeFrom G B) (hR : pm_rm G d 0 0) (hF : pm_fin G B 0 0 (pm_Qv (fun σ' cnt' => ∃ (J : Nat → Int32) (K : Nat → Nat → Int32), pm_lies σ' r1 (rl_L B r1 J K) ∧ tk J K J2 K2 tk_all ∧ rl_oth r1 σ0 σ' ∧ cnt' = cnt))) (hdd : 2 ≤ d) (hcs : cs ≤ 0) (hzs : zs ≤ 0) (hr : r1 + 25 ≤ r2 ∨ r2 + 25 ≤ r1) (h1 : pm_lies σ r1 (rl_L B r1 J K)) (h2 : pm_lies σ r2 (rl_L B r2 J2 K2)) (ho : rl_oth r1 σ0 σ) (ht : tkd [(18, 150), (16, 30), (14, 480), (12, 720), (10, 72), (8, 120), (6, 280), (4, 100), (2, 30)] J K J2 K2) : pm_wp mX7_takeFrom G B 99 [some (.ref (B + (r1 + 0))), some (.ref (B + (r2 + 0)))] [] cs zs cnt σ := by
  refine pm_aloadn hG dX7_takeFrom_99 rfl ?_
  refine pm_getf hG dX7_takeFrom_100 (flX7_44 _ rfl) (h1 0 _ rfl) rfl ?_
  refine pm_aloadn hG dX7_takeFrom_103 rfl ?_
  refine pm_getf hG dX7_takeFrom_104 (flX7_44 _ rfl) (h2 0 _ rfl) rfl ?_
  refine pm_callV (As := [.ref (B + (r2 + 19))]) (rest := []) hG hR dX7_takeFrom_107 (lkX7_65 _ rfl) okV_X9_takeFrom (h1 19 _ rfl) rfl (tb_takeFrom (d := 1) (t := r1 + 19) (c := r1 + 20) (t2 := r2 + 19) (c2 := r2 + 20) (n := 5) (R := 5) (W := 1) (u2 := J2 20) (by decide) (h1 19 _ rfl) (h1 20 _ rfl) (h2 19 _ rfl) (h2 20 _ rfl) (by decide) (by omega) (by omega) (by omega) (by omega) (by omega) (by omega)) rfl rfl hdd hcs hzs (by decide) (pm_kv (fun σ1 cnt1 hq => ?_))
  obtain ⟨⟨g, hg, es⟩, rfl⟩ := hq
  generalize hm : mnR 5 (J2 20) = m at es
  have a1 : pm_lies σ1 r1 (rl_L B r1 (ui J 20 m) (ua K 21 g)) := by rw [es]; exact rl_up (rl_up h1 19 rfl) 20 rfl
  have b1 : pm_lies σ1 r2 (rl_L B r2 J2 K2) := by rw [es]; exact rl_ot (rl_ot h2 (by omega)) (by omega)
  have o1 : rl_oth r1 σ0 σ1 := by rw [es]; exact rl_oth.up (rl_oth.up ho (by omega) (by omega)) (by omega) (by omega)
  have k1 : tkd [(20, 5), (18, 150), (16, 30), (14, 480), (12, 720), (10, 72), (8, 120), (6, 280), (4, 100), (2, 30)] (ui J 20 m) (ua K 21 g) J2 K2 := tkd.cons (by decide) (hm.symm.trans (congrArg (fun z => mnR z (J2 20)) rwT_20.symm)) hg ht
  exact tkS_10 hG hR hF hdd hcs hzs hr a1 b1 o1 k1

theorem rwT_18 : rwT 18 = 30 := rfl
set_option maxRecDepth 100000 in
theorem tkS_8 {G : pm_G} {d B cs zs cnt r1 r2 : Nat} {σ0 σ : pm_S} {J J2 : Nat → Int32} {K K2 : Nat → Nat → Int32} (hG : pm_ok mX7_takeFrom G B) (hR : pm_rm G d 0 0) (hF : pm_fin G B 0 0 (pm_Qv (fun σ' cnt' => ∃ (J : Nat → Int32) (K : Nat → Nat → Int32), pm_lies σ' r1 (rl_L B r1 J K) ∧ tk J K J2 K2 tk_all ∧ rl_oth r1 σ0 σ' ∧ cnt' = cnt))) (hdd : 2 ≤ d) (hcs : cs ≤ 0) (hzs : zs ≤ 0) (hr : r1 + 25 ≤ r2 ∨ r2 + 25 ≤ r1) (h1 : pm_lies σ r1 (rl_L B r1 J K)) (h2 : pm_lies σ r2 (rl_L B r2 J2 K2)) (ho : rl_oth r1 σ0 σ) (ht : tkd [(16, 30), (14, 480), (12, 720), (10, 72), (8, 120), (6, 280), (4, 100), (2, 30)] J K J2 K2) : pm_wp mX7_takeFrom G B 88 [some (.ref (B + (r1 + 0))), some (.ref (B + (r2 + 0)))] [] cs zs cnt σ := by
  refine pm_aloadn hG dX7_takeFrom_88 rfl ?_
  refine pm_getf hG dX7_takeFrom_89 (flX7_41 _ rfl) (h1 0 _ rfl) rfl ?_
  refine pm_aloadn hG dX7_takeFrom_92 rfl ?_
  refine pm_getf hG dX7_takeFrom_93 (flX7_41 _ rfl) (h2 0 _ rfl) rfl ?_
  refine pm_callV (As := [.ref (B + (r2 + 17))]) (rest := []) hG hR dX7_takeFrom_96 (lkX7_65 _ rfl) okV_X9_takeFrom (h1 17 _ rfl) rfl (tb_takeFrom (d := 1) (t := r1 + 17) (c := r1 + 18) (t2 := r2 + 17) (c2 := r2 + 18) (n := 150) (R := 30) (W := 5) (u2 := J2 18) (by decide) (h1 17 _ rfl) (h1 18 _ rfl) (h2 17 _ rfl) (h2 18 _ rfl) (by decide) (by omega) (by omega) (by omega) (by omega) (by omega) (by omega)) rfl rfl hdd hcs hzs (by decide) (pm_kv (fun σ1 cnt1 hq => ?_))
  obtain ⟨⟨g, hg, es⟩, rfl⟩ := hq
  generalize hm : mnR 30 (J2 18) = m at es
  have a1 : pm_lies σ1 r1 (rl_L B r1 (ui J 18 m) (ua K 19 g)) := by rw [es]; exact rl_up (rl_up h1 17 rfl) 18 rfl
  have b1 : pm_lies σ1 r2 (rl_L B r2 J2 K2) := by rw [es]; exact rl_ot (rl_ot h2 (by omega)) (by omega)
  have o1 : rl_oth r1 σ0 σ1 := by rw [es]; exact rl_oth.up (rl_oth.up ho (by omega) (by omega)) (by omega) (by omega)
  have k1 : tkd [(18, 150), (16, 30), (14, 480), (12, 720), (10, 72), (8, 120), (6, 280), (4, 100), (2, 30)] (ui J 18 m) (ua K 19 g) J2 K2 := tkd.cons (by decide) (hm.symm.trans (congrArg (fun z => mnR z (J2 18)) rwT_18.symm)) hg ht
  exact tkS_9 hG hR hF hdd hcs hzs hr a1 b1 o1 k1

theorem rwT_16 : rwT 16 = 6 := rfl
set_option maxRecDepth 100000 in
theorem tkS_7 {G : pm_G} {d B cs zs cnt r1 r2 : Nat} {σ0 σ : pm_S} {J J2 : Nat → Int32} {K K2 : Nat → Nat → Int32} (hG : pm_ok mX7_takeFrom G B) (hR : pm_rm G d 0 0) (hF : pm_fin G B 0 0 (pm_Qv (fun σ' cnt' => ∃ (J : Nat → Int32) (K : Nat → Nat → Int32), pm_lies σ' r1 (rl_L B r1 J K) ∧ tk J K J2 K2 tk_all ∧ rl_oth r1 σ0 σ' ∧ cnt' = cnt))) (hdd : 2 ≤ d) (hcs : cs ≤ 0) (hzs : zs ≤ 0) (hr : r1 + 25 ≤ r2 ∨ r2 + 25 ≤ r1) (h1 : pm_lies σ r1 (rl_L B r1 J K)) (h2 : pm_lies σ r2 (rl_L B r2 J2 K2)) (ho : rl_oth r1 σ0 σ) (ht : tkd [(14, 480), (12, 720), (10, 72), (8, 120), (6, 280), (4, 100), (2, 30)] J K J2 K2) : pm_wp mX7_takeFrom G B 77 [some (.ref (B + (r1 + 0))), some (.ref (B + (r2 + 0)))] [] cs zs cnt σ := by
  refine pm_aloadn hG dX7_takeFrom_77 rfl ?_
  refine pm_getf hG dX7_takeFrom_78 (flX7_38 _ rfl) (h1 0 _ rfl) rfl ?_
  refine pm_aloadn hG dX7_takeFrom_81 rfl ?_
  refine pm_getf hG dX7_takeFrom_82 (flX7_38 _ rfl) (h2 0 _ rfl) rfl ?_
  refine pm_callV (As := [.ref (B + (r2 + 15))]) (rest := []) hG hR dX7_takeFrom_85 (lkX7_65 _ rfl) okV_X9_takeFrom (h1 15 _ rfl) rfl (tb_takeFrom (d := 1) (t := r1 + 15) (c := r1 + 16) (t2 := r2 + 15) (c2 := r2 + 16) (n := 30) (R := 6) (W := 5) (u2 := J2 16) (by decide) (h1 15 _ rfl) (h1 16 _ rfl) (h2 15 _ rfl) (h2 16 _ rfl) (by decide) (by omega) (by omega) (by omega) (by omega) (by omega) (by omega)) rfl rfl hdd hcs hzs (by decide) (pm_kv (fun σ1 cnt1 hq => ?_))
  obtain ⟨⟨g, hg, es⟩, rfl⟩ := hq
  generalize hm : mnR 6 (J2 16) = m at es
  have a1 : pm_lies σ1 r1 (rl_L B r1 (ui J 16 m) (ua K 17 g)) := by rw [es]; exact rl_up (rl_up h1 15 rfl) 16 rfl
  have b1 : pm_lies σ1 r2 (rl_L B r2 J2 K2) := by rw [es]; exact rl_ot (rl_ot h2 (by omega)) (by omega)
  have o1 : rl_oth r1 σ0 σ1 := by rw [es]; exact rl_oth.up (rl_oth.up ho (by omega) (by omega)) (by omega) (by omega)
  have k1 : tkd [(16, 30), (14, 480), (12, 720), (10, 72), (8, 120), (6, 280), (4, 100), (2, 30)] (ui J 16 m) (ua K 17 g) J2 K2 := tkd.cons (by decide) (hm.symm.trans (congrArg (fun z => mnR z (J2 16)) rwT_16.symm)) hg ht
  exact tkS_8 hG hR hF hdd hcs hzs hr a1 b1 o1 k1

theorem rwT_14 : rwT 14 = 40 := rfl
set_option maxRecDepth 100000 in
theorem tkS_6 {G : pm_G} {d B cs zs cnt r1 r2 : Nat} {σ0 σ : pm_S} {J J2 : Nat → Int32} {K K2 : Nat → Nat → Int32} (hG : pm_ok mX7_takeFrom G B) (hR : pm_rm G d 0 0) (hF : pm_fin G B 0 0 (pm_Qv (fun σ' cnt' => ∃ (J : Nat → Int32) (K : Nat → Nat → Int32), pm_lies σ' r1 (rl_L B r1 J K) ∧ tk J K J2 K2 tk_all ∧ rl_oth r1 σ0 σ' ∧ cnt' = cnt))) (hdd : 2 ≤ d) (hcs : cs ≤ 0) (hzs : zs ≤ 0) (hr : r1 + 25 ≤ r2 ∨ r2 + 25 ≤ r1) (h1 : pm_lies σ r1 (rl_L B r1 J K)) (h2 : pm_lies σ r2 (rl_L B r2 J2 K2)) (ho : rl_oth r1 σ0 σ) (ht : tkd [(12, 720), (10, 72), (8, 120), (6, 280), (4, 100), (2, 30)] J K J2 K2) : pm_wp mX7_takeFrom G B 66 [some (.ref (B + (r1 + 0))), some (.ref (B + (r2 + 0)))] [] cs zs cnt σ := by
  refine pm_aloadn hG dX7_takeFrom_66 rfl ?_
  refine pm_getf hG dX7_takeFrom_67 (flX7_35 _ rfl) (h1 0 _ rfl) rfl ?_
  refine pm_aloadn hG dX7_takeFrom_70 rfl ?_
  refine pm_getf hG dX7_takeFrom_71 (flX7_35 _ rfl) (h2 0 _ rfl) rfl ?_
  refine pm_callV (As := [.ref (B + (r2 + 13))]) (rest := []) hG hR dX7_takeFrom_74 (lkX7_65 _ rfl) okV_X9_takeFrom (h1 13 _ rfl) rfl (tb_takeFrom (d := 1) (t := r1 + 13) (c := r1 + 14) (t2 := r2 + 13) (c2 := r2 + 14) (n := 480) (R := 40) (W := 12) (u2 := J2 14) (by decide) (h1 13 _ rfl) (h1 14 _ rfl) (h2 13 _ rfl) (h2 14 _ rfl) (by decide) (by omega) (by omega) (by omega) (by omega) (by omega) (by omega)) rfl rfl hdd hcs hzs (by decide) (pm_kv (fun σ1 cnt1 hq => ?_))
  obtain ⟨⟨g, hg, es⟩, rfl⟩ := hq
  generalize hm : mnR 40 (J2 14) = m at es
  have a1 : pm_lies σ1 r1 (rl_L B r1 (ui J 14 m) (ua K 15 g)) := by rw [es]; exact rl_up (rl_up h1 13 rfl) 14 rfl
  have b1 : pm_lies σ1 r2 (rl_L B r2 J2 K2) := by rw [es]; exact rl_ot (rl_ot h2 (by omega)) (by omega)
  have o1 : rl_oth r1 σ0 σ1 := by rw [es]; exact rl_oth.up (rl_oth.up ho (by omega) (by omega)) (by omega) (by omega)
  have k1 : tkd [(14, 480), (12, 720), (10, 72), (8, 120), (6, 280), (4, 100), (2, 30)] (ui J 14 m) (ua K 15 g) J2 K2 := tkd.cons (by decide) (hm.symm.trans (congrArg (fun z => mnR z (J2 14)) rwT_14.symm)) hg ht
  exact tkS_7 hG hR hF hdd hcs hzs hr a1 b1 o1 k1

theorem rwT_12 : rwT 12 = 12 := rfl
set_option maxRecDepth 100000 in
theorem tkS_5 {G : pm_G} {d B cs zs cnt r1 r2 : Nat} {σ0 σ : pm_S} {J J2 : Nat → Int32} {K K2 : Nat → Nat → Int32} (hG : pm_ok mX7_takeFrom G B) (hR : pm_rm G d 0 0) (hF : pm_fin G B 0 0 (pm_Qv (fun σ' cnt' => ∃ (J : Nat → Int32) (K : Nat → Nat → Int32), pm_lies σ' r1 (rl_L B r1 J K) ∧ tk J K J2 K2 tk_all ∧ rl_oth r1 σ0 σ' ∧ cnt' = cnt))) (hdd : 2 ≤ d) (hcs : cs ≤ 0) (hzs : zs ≤ 0) (hr : r1 + 25 ≤ r2 ∨ r2 + 25 ≤ r1) (h1 : pm_lies σ r1 (rl_L B r1 J K)) (h2 : pm_lies σ r2 (rl_L B r2 J2 K2)) (ho : rl_oth r1 σ0 σ) (ht : tkd [(10, 72), (8, 120), (6, 280), (4, 100), (2, 30)] J K J2 K2) : pm_wp mX7_takeFrom G B 55 [some (.ref (B + (r1 + 0))), some (.ref (B + (r2 + 0)))] [] cs zs cnt σ := by
  refine pm_aloadn hG dX7_takeFrom_55 rfl ?_
  refine pm_getf hG dX7_takeFrom_56 (flX7_32 _ rfl) (h1 0 _ rfl) rfl ?_
  refine pm_aloadn hG dX7_takeFrom_59 rfl ?_
  refine pm_getf hG dX7_takeFrom_60 (flX7_32 _ rfl) (h2 0 _ rfl) rfl ?_
  refine pm_callV (As := [.ref (B + (r2 + 11))]) (rest := []) hG hR dX7_takeFrom_63 (lkX7_65 _ rfl) okV_X9_takeFrom (h1 11 _ rfl) rfl (tb_takeFrom (d := 1) (t := r1 + 11) (c := r1 + 12) (t2 := r2 + 11) (c2 := r2 + 12) (n := 720) (R := 12) (W := 60) (u2 := J2 12) (by decide) (h1 11 _ rfl) (h1 12 _ rfl) (h2 11 _ rfl) (h2 12 _ rfl) (by decide) (by omega) (by omega) (by omega) (by omega) (by omega) (by omega)) rfl rfl hdd hcs hzs (by decide) (pm_kv (fun σ1 cnt1 hq => ?_))
  obtain ⟨⟨g, hg, es⟩, rfl⟩ := hq
  generalize hm : mnR 12 (J2 12) = m at es
  have a1 : pm_lies σ1 r1 (rl_L B r1 (ui J 12 m) (ua K 13 g)) := by rw [es]; exact rl_up (rl_up h1 11 rfl) 12 rfl
  have b1 : pm_lies σ1 r2 (rl_L B r2 J2 K2) := by rw [es]; exact rl_ot (rl_ot h2 (by omega)) (by omega)
  have o1 : rl_oth r1 σ0 σ1 := by rw [es]; exact rl_oth.up (rl_oth.up ho (by omega) (by omega)) (by omega) (by omega)
  have k1 : tkd [(12, 720), (10, 72), (8, 120), (6, 280), (4, 100), (2, 30)] (ui J 12 m) (ua K 13 g) J2 K2 := tkd.cons (by decide) (hm.symm.trans (congrArg (fun z => mnR z (J2 12)) rwT_12.symm)) hg ht
  exact tkS_6 hG hR hF hdd hcs hzs hr a1 b1 o1 k1

theorem rwT_10 : rwT 10 = 12 := rfl
set_option maxRecDepth 100000 in
theorem tkS_4 {G : pm_G} {d B cs zs cnt r1 r2 : Nat} {σ0 σ : pm_S} {J J2 : Nat → Int32} {K K2 : Nat → Nat → Int32} (hG : pm_ok mX7_takeFrom G B) (hR : pm_rm G d 0 0) (hF : pm_fin G B 0 0 (pm_Qv (fun σ' cnt' => ∃ (J : Nat → Int32) (K : Nat → Nat → Int32), pm_lies σ' r1 (rl_L B r1 J K) ∧ tk J K J2 K2 tk_all ∧ rl_oth r1 σ0 σ' ∧ cnt' = cnt))) (hdd : 2 ≤ d) (hcs : cs ≤ 0) (hzs : zs ≤ 0) (hr : r1 + 25 ≤ r2 ∨ r2 + 25 ≤ r1) (h1 : pm_lies σ r1 (rl_L B r1 J K)) (h2 : pm_lies σ r2 (rl_L B r2 J2 K2)) (ho : rl_oth r1 σ0 σ) (ht : tkd [(8, 120), (6, 280), (4, 100), (2, 30)] J K J2 K2) : pm_wp mX7_takeFrom G B 44 [some (.ref (B + (r1 + 0))), some (.ref (B + (r2 + 0)))] [] cs zs cnt σ := by
  refine pm_aloadn hG dX7_takeFrom_44 rfl ?_
  refine pm_getf hG dX7_takeFrom_45 (flX7_29 _ rfl) (h1 0 _ rfl) rfl ?_
  refine pm_aloadn hG dX7_takeFrom_48 rfl ?_
  refine pm_getf hG dX7_takeFrom_49 (flX7_29 _ rfl) (h2 0 _ rfl) rfl ?_
  refine pm_callV (As := [.ref (B + (r2 + 9))]) (rest := []) hG hR dX7_takeFrom_52 (lkX7_65 _ rfl) okV_X9_takeFrom (h1 9 _ rfl) rfl (tb_takeFrom (d := 1) (t := r1 + 9) (c := r1 + 10) (t2 := r2 + 9) (c2 := r2 + 10) (n := 72) (R := 12) (W := 6) (u2 := J2 10) (by decide) (h1 9 _ rfl) (h1 10 _ rfl) (h2 9 _ rfl) (h2 10 _ rfl) (by decide) (by omega) (by omega) (by omega) (by omega) (by omega) (by omega)) rfl rfl hdd hcs hzs (by decide) (pm_kv (fun σ1 cnt1 hq => ?_))
  obtain ⟨⟨g, hg, es⟩, rfl⟩ := hq
  generalize hm : mnR 12 (J2 10) = m at es
  have a1 : pm_lies σ1 r1 (rl_L B r1 (ui J 10 m) (ua K 11 g)) := by rw [es]; exact rl_up (rl_up h1 9 rfl) 10 rfl
  have b1 : pm_lies σ1 r2 (rl_L B r2 J2 K2) := by rw [es]; exact rl_ot (rl_ot h2 (by omega)) (by omega)
  have o1 : rl_oth r1 σ0 σ1 := by rw [es]; exact rl_oth.up (rl_oth.up ho (by omega) (by omega)) (by omega) (by omega)
  have k1 : tkd [(10, 72), (8, 120), (6, 280), (4, 100), (2, 30)] (ui J 10 m) (ua K 11 g) J2 K2 := tkd.cons (by decide) (hm.symm.trans (congrArg (fun z => mnR z (J2 10)) rwT_10.symm)) hg ht
  exact tkS_5 hG hR hF hdd hcs hzs hr a1 b1 o1 k1

theorem rwT_8 : rwT 8 = 20 := rfl
set_option maxRecDepth 100000 in
theorem tkS_3 {G : pm_G} {d B cs zs cnt r1 r2 : Nat} {σ0 σ : pm_S} {J J2 : Nat → Int32} {K K2 : Nat → Nat → Int32} (hG : pm_ok mX7_takeFrom G B) (hR : pm_rm G d 0 0) (hF : pm_fin G B 0 0 (pm_Qv (fun σ' cnt' => ∃ (J : Nat → Int32) (K : Nat → Nat → Int32), pm_lies σ' r1 (rl_L B r1 J K) ∧ tk J K J2 K2 tk_all ∧ rl_oth r1 σ0 σ' ∧ cnt' = cnt))) (hdd : 2 ≤ d) (hcs : cs ≤ 0) (hzs : zs ≤ 0) (hr : r1 + 25 ≤ r2 ∨ r2 + 25 ≤ r1) (h1 : pm_lies σ r1 (rl_L B r1 J K)) (h2 : pm_lies σ r2 (rl_L B r2 J2 K2)) (ho : rl_oth r1 σ0 σ) (ht : tkd [(6, 280), (4, 100), (2, 30)] J K J2 K2) : pm_wp mX7_takeFrom G B 33 [some (.ref (B + (r1 + 0))), some (.ref (B + (r2 + 0)))] [] cs zs cnt σ := by
  refine pm_aloadn hG dX7_takeFrom_33 rfl ?_
  refine pm_getf hG dX7_takeFrom_34 (flX7_26 _ rfl) (h1 0 _ rfl) rfl ?_
  refine pm_aloadn hG dX7_takeFrom_37 rfl ?_
  refine pm_getf hG dX7_takeFrom_38 (flX7_26 _ rfl) (h2 0 _ rfl) rfl ?_
  refine pm_callV (As := [.ref (B + (r2 + 7))]) (rest := []) hG hR dX7_takeFrom_41 (lkX7_65 _ rfl) okV_X9_takeFrom (h1 7 _ rfl) rfl (tb_takeFrom (d := 1) (t := r1 + 7) (c := r1 + 8) (t2 := r2 + 7) (c2 := r2 + 8) (n := 120) (R := 20) (W := 6) (u2 := J2 8) (by decide) (h1 7 _ rfl) (h1 8 _ rfl) (h2 7 _ rfl) (h2 8 _ rfl) (by decide) (by omega) (by omega) (by omega) (by omega) (by omega) (by omega)) rfl rfl hdd hcs hzs (by decide) (pm_kv (fun σ1 cnt1 hq => ?_))
  obtain ⟨⟨g, hg, es⟩, rfl⟩ := hq
  generalize hm : mnR 20 (J2 8) = m at es
  have a1 : pm_lies σ1 r1 (rl_L B r1 (ui J 8 m) (ua K 9 g)) := by rw [es]; exact rl_up (rl_up h1 7 rfl) 8 rfl
  have b1 : pm_lies σ1 r2 (rl_L B r2 J2 K2) := by rw [es]; exact rl_ot (rl_ot h2 (by omega)) (by omega)
  have o1 : rl_oth r1 σ0 σ1 := by rw [es]; exact rl_oth.up (rl_oth.up ho (by omega) (by omega)) (by omega) (by omega)
  have k1 : tkd [(8, 120), (6, 280), (4, 100), (2, 30)] (ui J 8 m) (ua K 9 g) J2 K2 := tkd.cons (by decide) (hm.symm.trans (congrArg (fun z => mnR z (J2 8)) rwT_8.symm)) hg ht
  exact tkS_4 hG hR hF hdd hcs hzs hr a1 b1 o1 k1

theorem rwT_6 : rwT 6 = 20 := rfl
set_option maxRecDepth 100000 in
theorem tkS_2 {G : pm_G} {d B cs zs cnt r1 r2 : Nat} {σ0 σ : pm_S} {J J2 : Nat → Int32} {K K2 : Nat → Nat → Int32} (hG : pm_ok mX7_takeFrom G B) (hR : pm_rm G d 0 0) (hF : pm_fin G B 0 0 (pm_Qv (fun σ' cnt' => ∃ (J : Nat → Int32) (K : Nat → Nat → Int32), pm_lies σ' r1 (rl_L B r1 J K) ∧ tk J K J2 K2 tk_all ∧ rl_oth r1 σ0 σ' ∧ cnt' = cnt))) (hdd : 2 ≤ d) (hcs : cs ≤ 0) (hzs : zs ≤ 0) (hr : r1 + 25 ≤ r2 ∨ r2 + 25 ≤ r1) (h1 : pm_lies σ r1 (rl_L B r1 J K)) (h2 : pm_lies σ r2 (rl_L B r2 J2 K2)) (ho : rl_oth r1 σ0 σ) (ht : tkd [(4, 100), (2, 30)] J K J2 K2) : pm_wp mX7_takeFrom G B 22 [some (.ref (B + (r1 + 0))), some (.ref (B + (r2 + 0)))] [] cs zs cnt σ := by
  refine pm_aloadn hG dX7_takeFrom_22 rfl ?_
  refine pm_getf hG dX7_takeFrom_23 (flX7_23 _ rfl) (h1 0 _ rfl) rfl ?_
  refine pm_aloadn hG dX7_takeFrom_26 rfl ?_
  refine pm_getf hG dX7_takeFrom_27 (flX7_23 _ rfl) (h2 0 _ rfl) rfl ?_
  refine pm_callV (As := [.ref (B + (r2 + 5))]) (rest := []) hG hR dX7_takeFrom_30 (lkX7_65 _ rfl) okV_X9_takeFrom (h1 5 _ rfl) rfl (tb_takeFrom (d := 1) (t := r1 + 5) (c := r1 + 6) (t2 := r2 + 5) (c2 := r2 + 6) (n := 280) (R := 20) (W := 14) (u2 := J2 6) (by decide) (h1 5 _ rfl) (h1 6 _ rfl) (h2 5 _ rfl) (h2 6 _ rfl) (by decide) (by omega) (by omega) (by omega) (by omega) (by omega) (by omega)) rfl rfl hdd hcs hzs (by decide) (pm_kv (fun σ1 cnt1 hq => ?_))
  obtain ⟨⟨g, hg, es⟩, rfl⟩ := hq
  generalize hm : mnR 20 (J2 6) = m at es
  have a1 : pm_lies σ1 r1 (rl_L B r1 (ui J 6 m) (ua K 7 g)) := by rw [es]; exact rl_up (rl_up h1 5 rfl) 6 rfl
  have b1 : pm_lies σ1 r2 (rl_L B r2 J2 K2) := by rw [es]; exact rl_ot (rl_ot h2 (by omega)) (by omega)
  have o1 : rl_oth r1 σ0 σ1 := by rw [es]; exact rl_oth.up (rl_oth.up ho (by omega) (by omega)) (by omega) (by omega)
  have k1 : tkd [(6, 280), (4, 100), (2, 30)] (ui J 6 m) (ua K 7 g) J2 K2 := tkd.cons (by decide) (hm.symm.trans (congrArg (fun z => mnR z (J2 6)) rwT_6.symm)) hg ht
  exact tkS_3 hG hR hF hdd hcs hzs hr a1 b1 o1 k1

theorem rwT_4 : rwT 4 = 10 := rfl
set_option maxRecDepth 100000 in
theorem tkS_1 {G : pm_G} {d B cs zs cnt r1 r2 : Nat} {σ0 σ : pm_S} {J J2 : Nat → Int32} {K K2 : Nat → Nat → Int32} (hG : pm_ok mX7_takeFrom G B) (hR : pm_rm G d 0 0) (hF : pm_fin G B 0 0 (pm_Qv (fun σ' cnt' => ∃ (J : Nat → Int32) (K : Nat → Nat → Int32), pm_lies σ' r1 (rl_L B r1 J K) ∧ tk J K J2 K2 tk_all ∧ rl_oth r1 σ0 σ' ∧ cnt' = cnt))) (hdd : 2 ≤ d) (hcs : cs ≤ 0) (hzs : zs ≤ 0) (hr : r1 + 25 ≤ r2 ∨ r2 + 25 ≤ r1) (h1 : pm_lies σ r1 (rl_L B r1 J K)) (h2 : pm_lies σ r2 (rl_L B r2 J2 K2)) (ho : rl_oth r1 σ0 σ) (ht : tkd [(2, 30)] J K J2 K2) : pm_wp mX7_takeFrom G B 11 [some (.ref (B + (r1 + 0))), some (.ref (B + (r2 + 0)))] [] cs zs cnt σ := by
  refine pm_aloadn hG dX7_takeFrom_11 rfl ?_
  refine pm_getf hG dX7_takeFrom_12 (flX7_20 _ rfl) (h1 0 _ rfl) rfl ?_
  refine pm_aloadn hG dX7_takeFrom_15 rfl ?_
  refine pm_getf hG dX7_takeFrom_16 (flX7_20 _ rfl) (h2 0 _ rfl) rfl ?_
  refine pm_callV (As := [.ref (B + (r2 + 3))]) (rest := []) hG hR dX7_takeFrom_19 (lkX7_65 _ rfl) okV_X9_takeFrom (h1 3 _ rfl) rfl (tb_takeFrom (d := 1) (t := r1 + 3) (c := r1 + 4) (t2 := r2 + 3) (c2 := r2 + 4) (n := 100) (R := 10) (W := 10) (u2 := J2 4) (by decide) (h1 3 _ rfl) (h1 4 _ rfl) (h2 3 _ rfl) (h2 4 _ rfl) (by decide) (by omega) (by omega) (by omega) (by omega) (by omega) (by omega)) rfl rfl hdd hcs hzs (by decide) (pm_kv (fun σ1 cnt1 hq => ?_))
  obtain ⟨⟨g, hg, es⟩, rfl⟩ := hq
  generalize hm : mnR 10 (J2 4) = m at es
  have a1 : pm_lies σ1 r1 (rl_L B r1 (ui J 4 m) (ua K 5 g)) := by rw [es]; exact rl_up (rl_up h1 3 rfl) 4 rfl
  have b1 : pm_lies σ1 r2 (rl_L B r2 J2 K2) := by rw [es]; exact rl_ot (rl_ot h2 (by omega)) (by omega)
  have o1 : rl_oth r1 σ0 σ1 := by rw [es]; exact rl_oth.up (rl_oth.up ho (by omega) (by omega)) (by omega) (by omega)
  have k1 : tkd [(4, 100), (2, 30)] (ui J 4 m) (ua K 5 g) J2 K2 := tkd.cons (by decide) (hm.symm.trans (congrArg (fun z => mnR z (J2 4)) rwT_4.symm)) hg ht
  exact tkS_2 hG hR hF hdd hcs hzs hr a1 b1 o1 k1

theorem rwT_2 : rwT 2 = 10 := rfl
set_option maxRecDepth 100000 in
theorem tkS_0 {G : pm_G} {d B cs zs cnt r1 r2 : Nat} {σ0 σ : pm_S} {J J2 : Nat → Int32} {K K2 : Nat → Nat → Int32} (hG : pm_ok mX7_takeFrom G B) (hR : pm_rm G d 0 0) (hF : pm_fin G B 0 0 (pm_Qv (fun σ' cnt' => ∃ (J : Nat → Int32) (K : Nat → Nat → Int32), pm_lies σ' r1 (rl_L B r1 J K) ∧ tk J K J2 K2 tk_all ∧ rl_oth r1 σ0 σ' ∧ cnt' = cnt))) (hdd : 2 ≤ d) (hcs : cs ≤ 0) (hzs : zs ≤ 0) (hr : r1 + 25 ≤ r2 ∨ r2 + 25 ≤ r1) (h1 : pm_lies σ r1 (rl_L B r1 J K)) (h2 : pm_lies σ r2 (rl_L B r2 J2 K2)) (ho : rl_oth r1 σ0 σ) (ht : tkd [] J K J2 K2) : pm_wp mX7_takeFrom G B 0 [some (.ref (B + (r1 + 0))), some (.ref (B + (r2 + 0)))] [] cs zs cnt σ := by
  refine pm_aloadn hG dX7_takeFrom_0 rfl ?_
  refine pm_getf hG dX7_takeFrom_1 (flX7_14 _ rfl) (h1 0 _ rfl) rfl ?_
  refine pm_aloadn hG dX7_takeFrom_4 rfl ?_
  refine pm_getf hG dX7_takeFrom_5 (flX7_14 _ rfl) (h2 0 _ rfl) rfl ?_
  refine pm_callV (As := [.ref (B + (r2 + 1))]) (rest := []) hG hR dX7_takeFrom_8 (lkX7_65 _ rfl) okV_X9_takeFrom (h1 1 _ rfl) rfl (tb_takeFrom (d := 1) (t := r1 + 1) (c := r1 + 2) (t2 := r2 + 1) (c2 := r2 + 2) (n := 30) (R := 10) (W := 3) (u2 := J2 2) (by decide) (h1 1 _ rfl) (h1 2 _ rfl) (h2 1 _ rfl) (h2 2 _ rfl) (by decide) (by omega) (by omega) (by omega) (by omega) (by omega) (by omega)) rfl rfl hdd hcs hzs (by decide) (pm_kv (fun σ1 cnt1 hq => ?_))
  obtain ⟨⟨g, hg, es⟩, rfl⟩ := hq
  generalize hm : mnR 10 (J2 2) = m at es
  have a1 : pm_lies σ1 r1 (rl_L B r1 (ui J 2 m) (ua K 3 g)) := by rw [es]; exact rl_up (rl_up h1 1 rfl) 2 rfl
  have b1 : pm_lies σ1 r2 (rl_L B r2 J2 K2) := by rw [es]; exact rl_ot (rl_ot h2 (by omega)) (by omega)
  have o1 : rl_oth r1 σ0 σ1 := by rw [es]; exact rl_oth.up (rl_oth.up ho (by omega) (by omega)) (by omega) (by omega)
  have k1 : tkd [(2, 30)] (ui J 2 m) (ua K 3 g) J2 K2 := tkd.cons (by decide) (hm.symm.trans (congrArg (fun z => mnR z (J2 2)) rwT_2.symm)) hg ht
  exact tkS_1 hG hR hF hdd hcs hzs hr a1 b1 o1 k1

theorem g_takeFrom {d B cnt r1 r2 : Nat} {σ : pm_S} {J1 J2 : Nat → Int32} {K1 K2 : Nat → Nat → Int32} (hdd : 2 ≤ d) (hr : r1 + 25 ≤ r2 ∨ r2 + 25 ≤ r1) (h1 : pm_lies σ r1 (rl_L B r1 J1 K1)) (h2 : pm_lies σ r2 (rl_L B r2 J2 K2)) : pm_met mX7_takeFrom d 0 0 B [.ref (B + (r1 + 0)), .ref (B + (r2 + 0))] cnt σ (pm_Qv (fun σ' cnt' => ∃ (J : Nat → Int32) (K : Nat → Nat → Int32), pm_lies σ' r1 (rl_L B r1 J K) ∧ tk J K J2 K2 tk_all ∧ rl_oth r1 σ σ' ∧ cnt' = cnt)) := by
  refine pm_enter 0 (by decide) (Nat.le_of_ble_eq_true rfl) rfl (fun G hG hR hF => ?_)
  exact tkS_0 hG hR hF hdd (Nat.le_refl _) (Nat.le_refl _) hr h1 h2 rl_oth.rf tkd.nil

theorem rl_new {B κ : Nat} {fw : Nat → Int32} : l_k_realm0 (B + κ) fw = rl_L B κ rl_J0 (rl_K0 fw) := by
  unfold rl_L l_k_realm0
  simp only [Nat.add_assoc]
  rfl
theorem k_realmAt {d B κ : Nat} {σ : pm_S} (hdd : 3 ≤ d) (hk : σ κ = some (.inr (7, [.null, .null, .null, .null, .null, .null, .null, .null, .null, .null, .null, .null, .int 0, .int 0, .int 0]))) : pm_met mX7_init d 24 2115 B [.ref (B + κ)] (κ + 1) σ (pm_Qv (fun σ' cnt' => (∃ (J : Nat → Int32) (K : Nat → Nat → Int32), pm_lies σ' κ (rl_L B κ J K)) ∧ pm_old κ σ σ' ∧ cnt' = κ + 25)) := by
  refine pm_shift (k_realm0 (B := B + κ) (σ := fun j => σ (κ + j)) hdd hk) (fun j x hj => hj) ?_
  rintro r σ' c' ⟨rfl, ⟨fw, hl⟩, -, rfl⟩
  refine ⟨rfl, ⟨rl_J0, rl_K0 fw, fun i x hi => ?_⟩, fun j hj => if_pos hj, rfl⟩
  rw [← rl_new] at hi
  have h1 := hl i x hi
  rw [Nat.zero_add] at h1
  show (if κ + i < κ then σ (κ + i) else σ' (κ + i - κ)) = some x
  rw [if_neg (by omega), Nat.add_sub_cancel_left]
  exact h1

theorem rl_of_cl {B : Nat} {kp : Value} {I : Nat → Int32} {A : Nat → Nat → Int32} {σ : pm_S} (h : pm_lies σ 0 (cl_L B kp I A)) : pm_lies σ 1 (rl_L B 1 I A) := by
  intro i x hi
  have h1 : rl_L B 1 I A = ((cl_L B kp I A).drop 1).take 25 := rfl
  rw [h1, List.getElem?_take] at hi
  split at hi
  · rw [List.getElem?_drop] at hi
    have := h (1 + i) x hi
    rwa [Nat.zero_add] at this
  · cases hi
def mI (I J : Nat → Int32) (k : Nat) : Int32 := if (k ≤ 24 ∧ k % 2 = 0) ∨ k = 101 ∨ k = 102 ∨ k = 103 then J k else I k
def mA (A K : Nat → Nat → Int32) (a : Nat) : Nat → Int32 := if a ≤ 25 then K a else A a
set_option maxRecDepth 100000 in
set_option maxHeartbeats 4000000 in
theorem cl_of_rl {B : Nat} {kp : Value} {I J : Nat → Int32} {A K : Nat → Nat → Int32} {σ σ' : pm_S} (h0 : pm_lies σ 0 (cl_L B kp I A)) (h1 : pm_lies σ' 1 (rl_L B 1 J K)) (ho : rl_oth 1 σ σ') : pm_lies σ' 0 (cl_L B kp (mI I J) (mA A K)) := by
  exact (pm_lies_cons ((ho 0 (by omega)).trans (h0 0 _ rfl)) (pm_lies_cons (h1 0 _ rfl) (pm_lies_cons (h1 1 _ rfl) (pm_lies_cons (h1 2 _ rfl) (pm_lies_cons (h1 3 _ rfl) (pm_lies_cons (h1 4 _ rfl) (pm_lies_cons (h1 5 _ rfl) (pm_lies_cons (h1 6 _ rfl) (pm_lies_cons (h1 7 _ rfl) (pm_lies_cons (h1 8 _ rfl) (pm_lies_cons (h1 9 _ rfl) (pm_lies_cons (h1 10 _ rfl) (pm_lies_cons (h1 11 _ rfl) (pm_lies_cons (h1 12 _ rfl) (pm_lies_cons (h1 13 _ rfl) (pm_lies_cons (h1 14 _ rfl) (pm_lies_cons (h1 15 _ rfl) (pm_lies_cons (h1 16 _ rfl) (pm_lies_cons (h1 17 _ rfl) (pm_lies_cons (h1 18 _ rfl) (pm_lies_cons (h1 19 _ rfl) (pm_lies_cons (h1 20 _ rfl) (pm_lies_cons (h1 21 _ rfl) (pm_lies_cons (h1 22 _ rfl) (pm_lies_cons (h1 23 _ rfl) (pm_lies_cons (h1 24 _ rfl) (pm_lies_cons ((ho 26 (by omega)).trans (h0 26 _ rfl)) (pm_lies_cons ((ho 27 (by omega)).trans (h0 27 _ rfl)) (pm_lies_cons ((ho 28 (by omega)).trans (h0 28 _ rfl)) (pm_lies_cons ((ho 29 (by omega)).trans (h0 29 _ rfl)) (pm_lies_cons ((ho 30 (by omega)).trans (h0 30 _ rfl)) (pm_lies_cons ((ho 31 (by omega)).trans (h0 31 _ rfl)) (pm_lies_cons ((ho 32 (by omega)).trans (h0 32 _ rfl)) (pm_lies_cons ((ho 33 (by omega)).trans (h0 33 _ rfl)) (pm_lies_cons ((ho 34 (by omega)).trans (h0 34 _ rfl)) (pm_lies_cons ((ho 35 (by omega)).trans (h0 35 _ rfl)) (pm_lies_cons ((ho 36 (by omega)).trans (h0 36 _ rfl)) (pm_lies_cons ((ho 37 (by omega)).trans (h0 37 _ rfl)) (pm_lies_cons ((ho 38 (by omega)).trans (h0 38 _ rfl)) (pm_lies_cons ((ho 39 (by omega)).trans (h0 39 _ rfl)) (pm_lies_cons ((ho 40 (by omega)).trans (h0 40 _ rfl)) (pm_lies_cons ((ho 41 (by omega)).trans (h0 41 _ rfl)) (pm_lies_cons ((ho 42 (by omega)).trans (h0 42 _ rfl)) (pm_lies_cons ((ho 43 (by omega)).trans (h0 43 _ rfl)) (pm_lies_cons ((ho 44 (by omega)).trans (h0 44 _ rfl)) (pm_lies_cons ((ho 45 (by omega)).trans (h0 45 _ rfl)) (pm_lies_cons ((ho 46 (by omega)).trans (h0 46 _ rfl)) (pm_lies_cons ((ho 47 (by omega)).trans (h0 47 _ rfl)) (pm_lies_cons ((ho 48 (by omega)).trans (h0 48 _ rfl)) (pm_lies_cons ((ho 49 (by omega)).trans (h0 49 _ rfl)) (pm_lies_cons ((ho 50 (by omega)).trans (h0 50 _ rfl)) (pm_lies_cons ((ho 51 (by omega)).trans (h0 51 _ rfl)) (pm_lies_cons ((ho 52 (by omega)).trans (h0 52 _ rfl)) (pm_lies_cons ((ho 53 (by omega)).trans (h0 53 _ rfl)) pm_lies_nil))))))))))))))))))))))))))))))))))))))))))))))))))))))

set_option maxRecDepth 100000 in
theorem im_tail {G : pm_G} {d B cnt c0 cs zs κ : Nat} {σ ρ : pm_S} {S : FS} {J : Nat → Int32} {K : Nat → Nat → Int32} (hG : pm_ok mX11_image G B) (hR : pm_rm G d 25 2130) (hF : pm_fin G B 25 2130 (pm_Qi (fun v σ' cnt' => v = S.1 100 + 1 ∧ ∃ (κ : Nat) (J : Nat → Int32) (K : Nat → Nat → Int32), pm_lies σ' 0 (cl_L B (.ref (B + (κ + 0))) (ui S.1 100 (S.1 100 + 1)) S.2) ∧ 74 ≤ κ ∧ κ + 25 ≤ cnt' ∧ pm_lies σ' κ (rl_L B κ J K) ∧ tk J K S.1 S.2 tk_all ∧ c0 ≤ cnt' ∧ ∀ j : Nat, 54 ≤ j → j < 74 → σ' j = ρ j))) (hdd : 4 ≤ d) (hcs : cs ≤ 25) (hzs : zs ≤ 2130) (hc : c0 ≤ cnt) (h74 : 74 ≤ κ) (hκ : κ + 25 ≤ cnt) (l0 : pm_lies σ 0 (cl_L B (.ref (B + (κ + 0))) S.1 S.2)) (lk : pm_lies σ κ (rl_L B κ J K)) (ho : ∀ j : Nat, 54 ≤ j → j < 74 → σ j = ρ j) : pm_wp mX11_image G B 18 [some (.ref (B + 0))] [] cs zs cnt σ := by
  refine pm_aloadn hG dX11_image_18 rfl ?_
  refine pm_getf hG dX11_image_19 (flX11_377 _ rfl) (l0 0 _ rfl) rfl ?_
  refine pm_aloadn hG dX11_image_22 rfl ?_
  refine pm_getf hG dX11_image_23 (flX11_12 _ rfl) (l0 0 _ rfl) rfl ?_
  refine pm_callV (As := [.ref (B + (1 + 0))]) (rest := []) hG hR dX11_image_26 (lkX11_380 _ rfl) okV_X7_takeFrom (lk 0 _ rfl) rfl (g_takeFrom (d := 3) (by decide) (Or.inr (by omega)) lk (rl_of_cl l0)) rfl rfl hdd hcs hzs (by decide) (pm_kv (fun σ' cnt' hq => ?_))
  obtain ⟨J', K', lk', ht, hoth, rfl⟩ := hq
  have l0' : pm_lies σ' 0 (cl_L B (.ref (B + (κ + 0))) S.1 S.2) := l0.same (fun j _ hj => hoth j (Or.inl (by have h9 : (cl_L B (.ref (B + (κ + 0))) S.1 S.2).length = 54 := rfl; omega)))
  have ho' : ∀ j : Nat, 54 ≤ j → j < 74 → σ' j = ρ j := fun j h1 h2 => (hoth j (Or.inl (by omega))).trans (ho j h1 h2)
  refine pm_aloadn hG dX11_image_29 rfl ?_
  refine pm_dup hG dX11_image_30 rfl ?_
  refine pm_getf hG dX11_image_31 (flX11_383 _ rfl) (l0' 0 _ rfl) rfl ?_
  refine pm_iconst (v := 1) hG dX11_image_34 (by decide) ?_
  refine pm_iadd hG dX11_image_35 ?_
  refine pm_putf hG dX11_image_36 (fwX11_383 _ rfl) (l0' 0 _ rfl) rfl rfl ?_
  refine pm_genS (fun τ eτ => ?_)
  have l0s : pm_lies τ 0 (cl_L B (.ref (B + (κ + 0))) (ui S.1 100 (S.1 100 + 1)) S.2) := eτ ▸ rl_up l0' 0 rfl
  have lks : pm_lies τ κ (rl_L B κ J' K') := eτ ▸ rl_ot lk' (Or.inl (by omega))
  have hos : ∀ j : Nat, 54 ≤ j → j < 74 → τ j = ρ j := fun j h1 h2 => by
    rw [← eτ, pm_up_ne _ _ (by omega)]; exact ho' j h1 h2
  clear eτ
  refine pm_aloadn hG dX11_image_39 rfl ?_
  refine pm_getf hG dX11_image_40 (flX11_383 _ rfl) (l0s 0 _ rfl) rfl ?_
  exact pm_iret hG hF dX11_image_43 rfl hcs hzs ⟨_, rfl, ui_eq, κ, J', K', l0s, h74, hκ, lks, ht, hc, hos⟩

set_option maxRecDepth 100000 in
theorem g_X11_image {d B cnt : Nat} {kp : Value} {ρ : pm_S} {S : FS} (hdd : 4 ≤ d) (hc : 74 ≤ cnt) (hk : kp = .null ∨ ∃ (κ : Nat) (J : Nat → Int32) (K : Nat → Nat → Int32), kp = .ref (B + (κ + 0)) ∧ 74 ≤ κ ∧ κ + 25 ≤ cnt ∧ pm_lies ρ κ (rl_L B κ J K)) : pm_met mX11_image d 25 2130 B [.ref (B + 0)] cnt (cst B kp S ρ) (pm_Qi (fun v σ' cnt' => v = S.1 100 + 1 ∧ ∃ (κ : Nat) (J : Nat → Int32) (K : Nat → Nat → Int32), pm_lies σ' 0 (cl_L B (.ref (B + (κ + 0))) (ui S.1 100 (S.1 100 + 1)) S.2) ∧ 74 ≤ κ ∧ κ + 25 ≤ cnt' ∧ pm_lies σ' κ (rl_L B κ J K) ∧ tk J K S.1 S.2 tk_all ∧ cnt ≤ cnt' ∧ ∀ j : Nat, 54 ≤ j → j < 74 → σ' j = ρ j)) := by
  refine pm_enter 0 (by decide) (Nat.le_of_ble_eq_true rfl) rfl (fun G hG hR hF => ?_)
  refine pm_aloadn hG dX11_image_0 rfl ?_
  refine pm_getf hG dX11_image_1 (flX11_377 _ rfl) rfl rfl ?_
  rcases hk with rfl | ⟨κ, J, K, rfl, h74, hκ, lk⟩
  · refine pm_ifnonnullN hG dX11_image_4 ?_
    refine pm_aloadn hG dX11_image_7 rfl ?_
    refine pm_new hG hR dX11_image_8 (nwX11_9 _ rfl) (by decide) (by decide) ?_
    refine pm_dup hG dX11_image_11 rfl ?_
    refine pm_callI (As := []) (rest := [.ref (B + cnt), .ref (B + 0)]) hG hR dX11_image_12 (lkX11_11 _ rfl) okI_X7_init (k_realmAt (d := 3) (by decide) (pm_up_same _ _ _)) rfl rfl hdd (by decide) (by decide) (Nat.le_of_ble_eq_true rfl) (pm_kv (fun σ' cnt' hq => ?_))
    obtain ⟨⟨J, K, lk⟩, hold, rfl⟩ := hq
    have l0 : pm_lies σ' 0 (cl_L B .null S.1 S.2) := (pm_two_lies (ρ := ρ) (Nat.le_of_ble_eq_true rfl)).same (fun j _ hj => by
      have h9 : (cl_L B .null S.1 S.2).length = 54 := rfl
      rw [hold j (by omega), pm_up_ne _ _ (by omega)])
    have ho : ∀ j : Nat, 54 ≤ j → j < 74 → σ' j = ρ j := fun j h1 h2 => by
      rw [hold j (by omega), pm_up_ne _ _ (by omega)]; exact pm_two_hi h1
    refine pm_putf hG dX11_image_15 (fwX11_377 _ rfl) (l0 0 _ rfl) rfl rfl ?_
    refine pm_genS (fun τ eτ => ?_)
    have l0s : pm_lies τ 0 (cl_L B (.ref (B + (cnt + 0))) S.1 S.2) := eτ ▸ rl_up l0 0 rfl
    have lks : pm_lies τ cnt (rl_L B cnt J K) := eτ ▸ rl_ot lk (Or.inl (by omega))
    have hos : ∀ j : Nat, 54 ≤ j → j < 74 → τ j = ρ j := fun j h1 h2 => by
      rw [← eτ, pm_up_ne _ _ (by omega)]; exact ho j h1 h2
    clear eτ
    exact im_tail hG hR hF hdd (by decide) (by decide) (by omega) hc (Nat.le_refl _) l0s lks hos
  · refine pm_ifnonnull (tgt := 18) hG dX11_image_4 rfl ?_
    exact im_tail hG hR hF hdd (by decide) (by decide) (Nat.le_refl _) h74 hκ (pm_two_lies (Nat.le_of_ble_eq_true rfl)) (lk.same (fun j hj _ => pm_two_hi (by omega))) (fun j h1 _ => pm_two_hi h1)

set_option maxRecDepth 100000 in
theorem g_restore0 {d B cnt : Nat} {ρ : pm_S} {S S' : FS} (hdd : 3 ≤ d) (hE : f_X11_told S (-1000002) = some (-1000002, S')) : pm_met mX11_restore d 0 0 B [.ref (B + 0)] cnt (cst B .null S ρ) (pm_Qi (fun v σ' cnt' => v = -1000002 ∧ σ' = (cst B .null S' ρ) ∧ cnt' = cnt)) := by
  refine pm_enter 0 (by decide) (Nat.le_of_ble_eq_true rfl) rfl (fun G hG hR hF => ?_)
  refine pm_aloadn hG dX11_restore_0 rfl ?_
  refine pm_getf hG dX11_restore_1 (flX11_377 _ rfl) rfl rfl ?_
  refine pm_ifnonnullN hG dX11_restore_4 ?_
  refine pm_aloadn hG dX11_restore_7 rfl ?_
  refine pm_ldc hG dX11_restore_8 (ctX11_223 _ rfl) ?_
  refine pm_callV (As := [.int (-1000002)]) (rest := []) hG hR dX11_restore_10 (lkX11_97 _ rfl) okV_X11_told rfl rfl (c_X11_told (d := 2) (by decide) hE) rfl rfl hdd (Nat.le_refl _) (Nat.le_refl _) (by decide) (pm_ki (fun v σ' cnt' hq => ?_))
  obtain ⟨ev, es, ec⟩ := hq
  exact pm_iret hG hF dX11_restore_13 rfl (Nat.le_refl _) (Nat.le_refl _) ⟨_, rfl, ev, es, ec⟩
set_option maxRecDepth 100000 in
theorem g_restore1 {d B cnt κ : Nat} {ρ : pm_S} {S : FS} {J : Nat → Int32} {K : Nat → Nat → Int32} (hdd : 3 ≤ d) (h74 : 74 ≤ κ) (hκ : κ + 25 ≤ cnt) (lk : pm_lies ρ κ (rl_L B κ J K)) : pm_met mX11_restore d 0 0 B [.ref (B + 0)] cnt (cst B (.ref (B + (κ + 0))) S ρ) (pm_Qi (fun v σ' cnt' => ∃ (J' : Nat → Int32) (K' : Nat → Nat → Int32), v = J' 102 ∧ pm_lies σ' 0 (cl_L B (.ref (B + (κ + 0))) (mI S.1 J') (mA S.2 K')) ∧ tk J' K' J K tk_all ∧ pm_lies σ' κ (rl_L B κ J K) ∧ cnt' = cnt ∧ ∀ j : Nat, 54 ≤ j → σ' j = ρ j)) := by
  refine pm_enter 0 (by decide) (Nat.le_of_ble_eq_true rfl) rfl (fun G hG hR hF => ?_)
  refine pm_aloadn hG dX11_restore_0 rfl ?_
  refine pm_getf hG dX11_restore_1 (flX11_377 _ rfl) rfl rfl ?_
  refine pm_ifnonnull (tgt := 14) hG dX11_restore_4 rfl ?_
  have l0 : pm_lies (cst B (.ref (B + (κ + 0))) S ρ) 0 (cl_L B (.ref (B + (κ + 0))) S.1 S.2) := pm_two_lies (Nat.le_of_ble_eq_true rfl)
  refine pm_aloadn hG dX11_restore_14 rfl ?_
  refine pm_getf hG dX11_restore_15 (flX11_12 _ rfl) rfl rfl ?_
  refine pm_aloadn hG dX11_restore_18 rfl ?_
  refine pm_getf hG dX11_restore_19 (flX11_377 _ rfl) rfl rfl ?_
  have lk' : pm_lies (cst B (.ref (B + (κ + 0))) S ρ) κ (rl_L B κ J K) := lk.same (fun j hj _ => pm_two_hi (by omega))
  refine pm_callV (k := 1 + 0) (As := [.ref (B + (κ + 0))]) (rest := []) hG hR dX11_restore_22 (lkX11_380 _ rfl) okV_X7_takeFrom (rl_of_cl l0 0 _ rfl) rfl (g_takeFrom (d := 2) (by decide) (Or.inl (by omega)) (rl_of_cl l0) lk') rfl rfl hdd (Nat.le_refl _) (Nat.le_refl _) (by decide) (pm_kv (fun σ' cnt' hq => ?_))
  obtain ⟨J', K', l1, ht, hoth, rfl⟩ := hq
  have l0' := cl_of_rl l0 l1 hoth
  refine pm_aloadn hG dX11_restore_25 rfl ?_
  refine pm_getf hG dX11_restore_26 (flX11_12 _ rfl) (l0' 0 _ rfl) rfl ?_
  refine pm_getf hG dX11_restore_29 (flX11_122 _ rfl) (l0' 1 _ rfl) rfl ?_
  exact pm_iret hG hF dX11_restore_32 rfl (Nat.le_refl _) (Nat.le_refl _) ⟨_, rfl, J', K', (show mI S.1 J' 102 = J' 102 from if_pos (by decide)), l0', ht, lk'.same (fun j hj _ => hoth j (Or.inr (by omega))), rfl, fun j h1 => (hoth j (Or.inr (by omega))).trans (pm_two_hi h1)⟩
