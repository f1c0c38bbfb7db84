def RL : String := "SealCouncilLaw"
def mL_law (nm : String) : pm_M := (⟨RL, nm, "([I)Z"⟩, code, 4, some .boolean)
/-! ===== the law: its script, its end ===== -/
def pm_scr (G : pm_G) (B b L : Nat) (xs : Nat → Int32) : Prop := va_X b L xs (pm_s G) (pm_s G).heap ∧ b < B ∧ B = (pm_s G).heap.size
def pm_lend (nm : String) (G : pm_G) (B : Nat) : Prop := ∀ (pc : Nat) (loc : List (Option Value)) (cs zs cnt : Nat) (σ : pm_S), cs ≤ 600000 → zs ≤ 7302250 → decode code pc = .ok (.ireturn, 1) → pm_wp (mL_law nm) G B pc loc [.int 1] cs zs cnt σ
section PML
variable {M : pm_M} {G : pm_G} {B pc pc' : Nat} {loc : List (Option Value)} {st : List Value} {cs zs cnt : Nat} {σ : pm_S}
theorem pm_sld {b L : Nat} {xs : Nat → Int32} {i : Int32} (hG : pm_ok M G B) (hs : pm_scr G B b L xs) (hd : pm_dec M pc (.iaload, 1) pc') (hi : vp_in i L) (kk : pm_wp M G B pc' loc (.int (xs i.toNatClampNeg) :: st) cs zs cnt σ) : pm_wp M G B pc loc (.int i :: .ref b :: st) cs zs cnt σ := by
  obtain ⟨hd, rfl⟩ := hd
  obtain ⟨hX, hb, hB⟩ := hs
  intro H ls locs h1 h2 h3 h4
  refine va_sld (A := fun q => B ≤ q) (H0 := (pm_s G).heap) hG.x hG.b hX (by rw [← hB]; exact hb) (Nat.not_le.mpr hb) ⟨by rw [h1.1, ← hB]; exact Nat.le_add_right _ _, fun q hq hn => h2 q (by omega), h4⟩ hi hd (kk H ls locs h1 h2 h3 h4)
theorem pm_slen {b L : Nat} {xs : Nat → Int32} (hG : pm_ok M G B) (hs : pm_scr G B b L xs) (hd : pm_dec M pc (.arraylength, 1) pc') (kk : pm_wp M G B pc' loc (.int (Int32.ofNat L) :: st) cs zs cnt σ) : pm_wp M G B pc loc (.ref b :: st) cs zs cnt σ := by
  obtain ⟨hd, rfl⟩ := hd
  obtain ⟨hX, hb, hB⟩ := hs
  intro H ls locs h1 h2 h3 h4
  refine va_slen (A := fun q => B ≤ q) (H0 := (pm_s G).heap) hG.x hG.b hX (by rw [← hB]; exact hb) (Nat.not_le.mpr hb) ⟨by rw [h1.1, ← hB]; exact Nat.le_add_right _ _, fun q hq hn => h2 q (by omega), h4⟩ hd (kk H ls locs h1 h2 h3 h4)
end PML
theorem pm_two_sub {σ : pm_S} {k : Nat} {C R : List pm_C} (h1 : pm_lies σ 0 C) (h2 : pm_lies σ k R) : pm_sub (pm_cat (pm_ofL C) k R) σ := by
  intro j x hj
  unfold pm_cat at hj
  split at hj
  · have h3 := h1 j x hj
    rw [Nat.zero_add] at h3
    exact h3
  · have h3 := h2 (j - k) x hj
    rw [show k + (j - k) = j by omega] at h3
    exact h3
theorem pm_old_lies {σ σ' : pm_S} {k n : Nat} {L : List pm_C} (h : pm_old k σ σ') (h1 : pm_lies σ n L) (hk : n + L.length ≤ k) : pm_lies σ' n L := by
  intro i x hx
  have hi : i < L.length := (List.getElem?_eq_some_iff.mp hx).1
  rw [h _ (by omega)]
  exact h1 i x hx
/-! ===== the law: what holds between two calls ===== -/
theorem pm_mid_lies {σ : pm_S} {L : List pm_C} (h : L.length ≤ 20) : pm_lies (pm_mid σ L) 54 L := by
  intro i x hi
  have hl : i < L.length := (List.getElem?_eq_some_iff.mp hi).1
  unfold pm_mid
  rw [if_neg (by omega), if_pos (by omega), Nat.add_sub_cancel_left]
  exact hi
theorem pm_mid_lo {σ : pm_S} {L : List pm_C} {j : Nat} (h : j < 54 ∨ 74 ≤ j) : pm_mid σ L j = σ j := by
  unfold pm_mid
  rcases h with h | h
  · rw [if_pos h]
  · rw [if_neg (by omega), if_neg (by omega)]
theorem pm_sub_mid {L : List pm_C} {σ : pm_S} (h : pm_lies σ 54 L) : pm_sub (pm_mid σ L) σ := by
  intro j x hj
  unfold pm_mid at hj
  split at hj
  · exact hj
  · split at hj
    · have h1 := h (j - 54) x hj
      rwa [show 54 + (j - 54) = j by omega] at h1
    · exact hj
/-! ===== the law: what holds between two calls; tracked numbers ===== -/
def MIv (n k z : Nat → Int32) (p0 t0 : Nat) : Prop := (KI n ∧ NR n) ∧ (KI k ∧ NR k) ∧ SZ z ∧ p0 < 4 ∧ t0 ≤ 40
def LIc (B : Nat) (σ : pm_S) (cnt : Nat) (ε εk : Nat → Int32) (nul : Bool) : Prop := ∃ (kp : Value) (I : Nat → Int32) (A : Nat → Nat → Int32), pm_lies σ 0 (cl_L B kp I A) ∧ gq ε I ∧ kpi B cnt kp σ εk ∧ (nul = true ↔ kp = .null)
def LIm (B : Nat) (σ : pm_S) (n k : Nat → Int32) (im : Int32) (z y : Nat → Int32) : Prop := ∃ (I : Nat → Int32) (A : Nat → Nat → Int32) (ac wt pl : Int32) (p0 t0 : Nat), pm_lies σ 54 (md_L B I A n k z ac wt pl (nI p0) (nI t0) im y) ∧ MIv n k z p0 t0
def LX (B : Nat) (σ : pm_S) (cnt : Nat) (ε εk : Nat → Int32) (nul : Bool) (n k : Nat → Int32) (im : Int32) (z y : Nat → Int32) : Prop := 74 ≤ cnt ∧ LIc B σ cnt ε εk nul ∧ LIm B σ n k im z y
theorem LIm.same {B : Nat} {σ σ' : pm_S} {n k : Nat → Int32} {im : Int32} {z y : Nat → Int32} (h : LIm B σ n k im z y) (hs : ∀ j : Nat, 54 ≤ j → j < 74 → σ' j = σ j) : LIm B σ' n k im z y := by
  obtain ⟨I, A, ac, wt, pl, p0, t0, h1, h2⟩ := h
  exact ⟨I, A, ac, wt, pl, p0, t0, h1.same (fun j h3 h4 => hs j h3 (by have h9 : (md_L B I A n k z ac wt pl (nI p0) (nI t0) im y).length = 20 := rfl; omega)), h2⟩
theorem kpi.same {B cnt cnt' : Nat} {kp : Value} {σ σ' : pm_S} {εk : Nat → Int32} (h : kpi B cnt kp σ εk) (hc : cnt ≤ cnt') (hs : ∀ j : Nat, 74 ≤ j → j < cnt → σ' j = σ j) : kpi B cnt' kp σ' εk := by
  rcases h with h | ⟨κ, J, K, h1, h2, h3, h4, h5⟩
  · exact Or.inl h
  · exact Or.inr ⟨κ, J, K, h1, h2, by omega, h4.same (fun j h6 h7 => hs j (by omega) (by have h9 : (rl_L B κ J K).length = 25 := rfl; omega)), h5⟩
theorem LX.cls {B cnt : Nat} {σ : pm_S} {ε εk : Nat → Int32} {nul : Bool} {n k : Nat → Int32} {im : Int32} {z y : Nat → Int32} (h : LX B σ cnt ε εk nul n k im z y) : ∃ (kp : Value) (I : Nat → Int32) (A : Nat → Nat → Int32), gq ε I ∧ kpi B cnt kp σ εk ∧ (nul = true ↔ kp = .null) ∧ pm_sub (pm_two (cl_L B kp I A) σ) σ ∧ 74 ≤ cnt ∧ (∀ (σ' : pm_S) (cnt' : Nat) (ε' : Nat → Int32), hvq ε' B kp σ cnt σ' cnt' → LX B σ' cnt' ε' εk nul n k im z y) ∧ ∀ (σ' : pm_S) (cnt' : Nat) (ε' εk' : Nat → Int32) (nul' : Bool), hvi B σ cnt σ' cnt' ε' εk' nul' → LX B σ' cnt' ε' εk' nul' n k im z y := by
  obtain ⟨h74, ⟨kp, I, A, h1, h2, h3, hnu⟩, h4⟩ := h
  refine ⟨kp, I, A, h2, h3, hnu, pm_sub_two h1, h74, ?_, ?_⟩
  · rintro σ' cnt' ε' ⟨I', A', rfl, rfl, h5⟩
    exact ⟨h74, ⟨kp, I', A', pm_two_lies (Nat.le_of_ble_eq_true rfl), h5, h3.same (Nat.le_refl _) (fun j h6 _ => pm_two_hi (by omega)), hnu⟩, h4.same (fun j h6 _ => pm_two_hi h6)⟩
  · rintro σ' cnt' ε' εk' nul' ⟨kp', I', A', h5, h6, h7, hn', h8, h9⟩
    exact ⟨by omega, ⟨kp', I', A', h5, h6, h7, hn'⟩, h4.same h9⟩
theorem LX.mod {B cnt : Nat} {σ : pm_S} {ε εk : Nat → Int32} {nul : Bool} {n k : Nat → Int32} {im : Int32} {z y : Nat → Int32} (h : LX B σ cnt ε εk nul n k im z y) : ∃ (I : Nat → Int32) (A : Nat → Nat → Int32) (ac wt pl : Int32) (p0 t0 : Nat), MIv n k z p0 t0 ∧ pm_sub (pm_mid σ (md_L B I A n k z ac wt pl (nI p0) (nI t0) im y)) σ ∧ 74 ≤ cnt ∧ ∀ (τ : pm_S) (cnt' : Nat) (I' : Nat → Int32) (A' : Nat → Nat → Int32) (n' k' z' : Nat → Int32) (ac' wt' pl' : Int32) (p0' t0' : Nat) (im' : Int32) (y' : Nat → Int32), MIv n' k' z' p0' t0' → (∀ j : Nat, j < cnt → τ j = σ j) → cnt ≤ cnt' → LX B (pm_mid τ (md_L B I' A' n' k' z' ac' wt' pl' (nI p0') (nI t0') im' y')) cnt' ε εk nul n' k' im' z' y' := by
  obtain ⟨h74, ⟨kp, I1, A1, h1, h2, h3, hnu⟩, ⟨I, A, ac, wt, pl, p0, t0, h4, h5⟩⟩ := h
  refine ⟨I, A, ac, wt, pl, p0, t0, h5, pm_sub_mid h4, h74, ?_⟩
  intro τ cnt' I' A' n' k' z' ac' wt' pl' p0' t0' im' y' h6 h7 h8
  refine ⟨by omega, ⟨kp, I1, A1, h1.same (fun j _ hj => ?_), h2, h3.same h8 (fun j hj hc => ?_), hnu⟩, ⟨_, _, _, _, _, _, _, pm_mid_lies (Nat.le_of_ble_eq_true rfl), h6⟩⟩
  · have h9 : (cl_L B kp I1 A1).length = 54 := rfl
    rw [pm_mid_lo (Or.inl (by omega))]; exact h7 j (by omega)
  · rw [pm_mid_lo (Or.inr hj)]; exact h7 j hc
/-! ===== the new objects ===== -/
def ok0 (q : kdK) : Bool := (q.1 != 1 && q.1 != 2) || decide (0 < q.2.1)
theorem okv_0 {q : kdK} (h : ok0 q = true) : okv q 0 := by
  unfold ok0 at h
  simp only [Bool.or_eq_true, Bool.and_eq_true, bne_iff_ne, decide_eq_true_eq] at h
  unfold okv
  rcases h with ⟨h1, h2⟩ | h
  · rw [if_neg h1, if_neg h2]; exact trivial
  · split
    · exact ⟨0, h, rfl⟩
    · split
      · exact Or.inr ⟨0, h, rfl⟩
      · exact trivial
theorem ok0_list {l : List kdK} (h : l.all ok0 = true) (c : Nat) : ok0 (l.getD c (0, 0, false)) = true := by
  rw [List.all_eq_true] at h
  rw [List.getD_eq_getElem?_getD]
  cases e : l[c]? with
  | none => rfl
  | some q => exact h q (List.mem_of_getElem? e)
theorem ok0_law (c : Nat) : ok0 (kdLaw c) = true := by
  unfold kdLaw
  split
  · rfl
  · split <;> rfl
theorem ok0_kd (j : Nat) : ok0 (kd j) = true := by
  unfold kd
  split
  · exact ok0_list (l := kdLow) (by decide) _
  · split
    · exact ok0_list (l := kdTown) (by decide) _
    · split
      · exact ok0_list (l := kdRoad) (by decide) _
      · split
        · exact ok0_list (l := kdPers) (by decide) _
        · split
          · exact ok0_list (l := kdPow) (by decide) _
          · split
            · exact ok0_law _
            · split
              · exact ok0_list (l := kdLet) (by decide) _
              · split
                · exact ok0_list (l := kdDebt) (by decide) _
                · split
                  · exact ok0_list (l := kdProm) (by decide) _
                  · rfl
theorem KI.zero {n : Nat → Int32} (h : ∀ j : Nat, j ≠ 9 → n j = 0) : KI n := by
  intro j
  by_cases e : j = 9
  · subst e; exact okv_f (show kd 9 = (0, 0, false) by decide)
  · rw [h j e]; exact okv_0 (ok0_kd j)
theorem stN_nil {n : Nat → Int32} (h : ∀ j : Nat, j ≠ 9 → n j = 0) : ∀ k : Nat, stN n k = 0
  | 0 => rfl
  | k + 1 => by
    show stN n k + (if n (14 * k + 121) = 0 then 0 else 1) = 0
    rw [stN_nil h k, if_pos (h _ (by omega))]
theorem NR.zero {n : Nat → Int32} (h : ∀ j : Nat, j ≠ 9 → n j = 0) : NR n := by
  refine ⟨Or.inl ⟨h 2 (by decide), h 5 (by decide)⟩, fun l _ _ => Or.inr (by rw [h _ (by omega)]; decide), ⟨by rw [stN_nil h]; decide, 0, Nat.zero_le _, h 2 (by decide), fun p _ _ => h _ (by omega)⟩, fun l _ => ⟨0, h _ (by omega), Nat.zero_le _, trivial⟩⟩
def md_n0 : Nat → Int32 := upd (fun _ => 0) (9 : Int32).toNatClampNeg 1000
theorem md_n0_ne (j : Nat) (h : j ≠ 9) : md_n0 j = 0 := by
  unfold md_n0; rw [show (9 : Int32).toNatClampNeg = 9 from rfl, pk_un h]
theorem md_ok : MIv md_n0 (fun _ => 0) (fun _ => 0) 0 0 := ⟨⟨KI.zero md_n0_ne, NR.zero md_n0_ne⟩, ⟨KI.zero (fun _ _ => rfl), NR.zero (fun _ _ => rfl)⟩, fun _ _ => ⟨0, by decide, rfl⟩, by decide, by decide⟩
set_option maxRecDepth 100000 in
theorem md_new {B : Nat} : md_L B (fun _ => 0) (fun _ _ => 0) md_n0 (fun _ => 0) (fun _ => 0) 0 0 0 (nI 0) (nI 0) 0 (fun _ => 0) = l_k_model B := rfl
def cl_I0 (k : Nat) : Int32 := if k = 103 then 1000 else 0
def cl_A0 (fw : Nat → Int32) (a : Nat) : Nat → Int32 := if a = 5 then fw else fun _ => 0
set_option maxRecDepth 100000 in
theorem cl_new {B : Nat} {fw : Nat → Int32} : cl_L B .null cl_I0 (cl_A0 fw) = l_k_class B fw := by
  show cl_LX B .null cl_I0 (cl_A0 fw) (pm4 (cl_I0 200) (cl_I0 201) (cl_I0 202) (cl_I0 203)) (pm4 (cl_I0 204) (cl_I0 205) (cl_I0 206) (cl_I0 207)) = l_k_class B fw
  rw [show pm4 (cl_I0 200) (cl_I0 201) (cl_I0 202) (cl_I0 203) = fun _ => 0 from pm4_0, show pm4 (cl_I0 204) (cl_I0 205) (cl_I0 206) (cl_I0 207) = fun _ => 0 from pm4_0]; rfl
theorem gs_new : gs cl_I0 := by
  intro q hq
  have h : ∀ q ∈ gcT, cl_I0 q.1 = nI 0 := by decide
  exact ⟨0, Nat.zero_le _, h q hq⟩
/-! ===== the tracked numbers are the same on both sides ===== -/
theorem mE_r {ε εk : Nat → Int32} {k : Nat} (h : k ∈ gqR) : mE ε εk k = εk k := if_pos h
theorem mE_n {ε εk : Nat → Int32} {k : Nat} (h : k ∉ gqR) : mE ε εk k = ε k := if_neg h
def EQ (ε εk : Nat → Int32) (nul : Bool) (n k : Nat → Int32) (im : Int32) (w : Nat) : Prop := (True) ∧ (True) ∧ ε 100 = im ∧ ∃ q : Nat, q ≤ w ∧ im = nI q ∧ (nul = true ↔ q = 0)
theorem EQ.up {ε εk : Nat → Int32} {nul : Bool} {n k : Nat → Int32} {im : Int32} {w : Nat} (h : EQ ε εk nul n k im w) : EQ ε εk nul n k im (w + 1) := by
  obtain ⟨h1, h2, h3, q, hq, h4⟩ := h
  exact ⟨h1, h2, h3, q, by omega, h4⟩
theorem EQ.e100 {ε εk : Nat → Int32} {nul : Bool} {n k : Nat → Int32} {im : Int32} {w : Nat} (h : EQ ε εk nul n k im w) : ε 100 = im := h.2.2.1
theorem EQ.keep {ε εk : Nat → Int32} {nul : Bool} {n k : Nat → Int32} {im : Int32} {w : Nat} {n' : Nat → Int32} (h : EQ ε εk nul n k im w) : EQ ε εk nul n' k im (w + 1) := by
  obtain ⟨h1, h2, h3, q, hq, h4⟩ := h.up
  exact ⟨trivial, h2, h3, q, hq, h4⟩
theorem EQ.img {ε εk : Nat → Int32} {nul : Bool} {n k : Nat → Int32} {im : Int32} {w : Nat} {k' : Nat → Int32} {im' : Int32} (h : EQ ε εk nul n k im w) (hk : ∀ j : Nat, j < 2071 → k' j = n j) (hi : im' = im + nI 1) : EQ (ui ε 100 (ε 100 + 1)) ε false n k' im' (w + 1) := by
  obtain ⟨h1, h2, h3, q, hq, h4, h5⟩ := h
  exact ⟨trivial, trivial, ui_eq.trans (by rw [hi, h3]; rfl), q + 1, by omega, by rw [hi, h4]; exact nI_add q 1, ⟨fun a => (by cases a), fun a => (by omega)⟩⟩
theorem EQ.res0 {ε εk : Nat → Int32} {nul : Bool} {n k : Nat → Int32} {im : Int32} {w : Nat} {n' : Nat → Int32} {v : Int32} (h : EQ ε εk nul n k im w) (hw : w ≤ 1000) (hu : nul = true) (hn : im = 0 → n' = n ∧ v = (-1000000) - nI 2) : EQ ε εk true n' k im (w + 1) ∧ v = (-1000000) - nI 2 := by
  obtain ⟨h1, h2, h3, q, hq, h4, h5⟩ := h
  obtain ⟨rfl, hv⟩ := hn (by rw [h4, h5.mp hu]; rfl)
  exact ⟨⟨h1, h2, h3, q, by omega, h4, by rw [← h5, hu]⟩, hv⟩
theorem EQ.res1 {ε εk : Nat → Int32} {nul : Bool} {n k : Nat → Int32} {im : Int32} {w : Nat} {n' : Nat → Int32} {v : Int32} (h : EQ ε εk nul n k im w) (hw : w ≤ 1000) (hu : ¬ nul = true) (hn : im ≠ 0 → (∀ j : Nat, j < 2071 → n' j = k j) ∧ v = k 8) : EQ (mE ε εk) εk false n' k im (w + 1) ∧ v = k 8 := by
  obtain ⟨h1, h2, h3, q, hq, h4, h5⟩ := h
  have hq0 : q ≠ 0 := fun e => hu (h5.mpr e)
  obtain ⟨hc, hv⟩ := hn (by rw [h4]; exact nI_ne0 (by omega) (by omega))
  exact ⟨⟨trivial, h2, (mE_n (by decide)).trans h3, q, by omega, h4, ⟨fun a => (by cases a), fun a => absurd a hq0⟩⟩, hv⟩
theorem EQ.new : EQ cl_I0 (fun _ => 0) true md_n0 (fun _ => 0) 0 0 := ⟨trivial, trivial, (by decide), 0, Nat.le_refl _, rfl, ⟨fun _ => rfl, fun _ => rfl⟩⟩
/-! ===== bits and sizes are the same on both sides ===== -/
def SQ (ε z y : Nat → Int32) : Prop := (∀ s : Nat, s < 4 → bS ε s = y s) ∧ ∀ s : Nat, s < 4 → zS ε s = z s
def LI (B : Nat) (σ : pm_S) (cnt w : Nat) : Prop := ∃ (ε εk : Nat → Int32) (nul : Bool) (n k : Nat → Int32) (im : Int32) (z y : Nat → Int32), LX B σ cnt ε εk nul n k im z y ∧ EQ ε εk nul n k im w ∧ SQ ε z y
theorem LI.up {B cnt w : Nat} {σ : pm_S} (h : LI B σ cnt w) : LI B σ cnt (w + 1) := by
  obtain ⟨ε, εk, nul, n, k, im, z, y, h1, h2, h3⟩ := h
  exact ⟨ε, εk, nul, n, k, im, z, y, h1, h2.up, h3⟩
theorem vS_in {a b c : Int32} (h : vS a b c = 1) : ¬ (a < 0 ∨ 3 < a) := fun q => by
  rw [vS_a q] at h; exact absurd h (by decide)
theorem tSh_100 {c : Nat} {ε : Nat → Int32} {s b n : Int32} : tSh c ε s b n 100 = ε 100 := by
  unfold tSh
  split
  · rw [ui_ne (by omega), ui_ne (by omega)]
  · rfl
theorem EQ.sh {ε εk : Nat → Int32} {nul : Bool} {n k : Nat → Int32} {im : Int32} {w c : Nat} {s b v : Int32} (h : EQ ε εk nul n k im w) : EQ (tSh c ε s b v) εk nul n k im (w + 1) := by
  obtain ⟨h1, h2, h3, q, hq, h4⟩ := h.up
  exact ⟨trivial, trivial, tSh_100.trans h3, q, hq, h4⟩
theorem SQ.img {ε z y : Nat → Int32} {v : Int32} (h : SQ ε z y) : SQ (ui ε 100 v) z y := h
theorem SQ.res {ε εk z y : Nat → Int32} (h : SQ ε z y) : SQ (mE ε εk) z y := by
  have e1 : bS (mE ε εk) = bS ε := by
    unfold bS; rw [mE_n (k := 200) (by decide), mE_n (k := 201) (by decide), mE_n (k := 202) (by decide), mE_n (k := 203) (by decide)]
  have e2 : zS (mE ε εk) = zS ε := by
    unfold zS; rw [mE_n (k := 204) (by decide), mE_n (k := 205) (by decide), mE_n (k := 206) (by decide), mE_n (k := 207) (by decide)]
  unfold SQ
  rw [e1, e2]; exact h
theorem SQ.new : SQ cl_I0 (fun _ => 0) (fun _ => 0) := by
  refine ⟨fun s hs => ?_, fun s hs => ?_⟩
  · rcases (show s = 0 ∨ s = 1 ∨ s = 2 ∨ s = 3 by omega) with rfl | rfl | rfl | rfl <;> decide
  · rcases (show s = 0 ∨ s = 1 ∨ s = 2 ∨ s = 3 by omega) with rfl | rfl | rfl | rfl <;> decide
theorem SQ.sh {ε z y z' y' : Nat → Int32} {a b c : Int32} (h : SQ ε z y) (e1 : y' = tY y a b c) (e2 : z' = tZ z a b c) : SQ (tSh a.toNatClampNeg ε a b c) z' y' := by
  subst e1 e2
  unfold tSh tY tZ
  by_cases hv : vS a b c = 1
  · rw [if_pos hv, if_pos hv, if_pos hv]
    rcases in4 (vS_in hv) with rfl | rfl | rfl | rfl
    · rw [show Int32.toNatClampNeg 0 = 0 by decide]
      refine ⟨fun s hs => ?_, fun s hs => ?_⟩
      · rcases (show s = 0 ∨ s = 1 ∨ s = 2 ∨ s = 3 by omega) with rfl | rfl | rfl | rfl
        · rfl
        · exact h.1 1 (by decide)
        · exact h.1 2 (by decide)
        · exact h.1 3 (by decide)
      · rcases (show s = 0 ∨ s = 1 ∨ s = 2 ∨ s = 3 by omega) with rfl | rfl | rfl | rfl
        · rfl
        · exact h.2 1 (by decide)
        · exact h.2 2 (by decide)
        · exact h.2 3 (by decide)
    · rw [show Int32.toNatClampNeg 1 = 1 by decide]
      refine ⟨fun s hs => ?_, fun s hs => ?_⟩
      · rcases (show s = 0 ∨ s = 1 ∨ s = 2 ∨ s = 3 by omega) with rfl | rfl | rfl | rfl
        · exact h.1 0 (by decide)
        · rfl
        · exact h.1 2 (by decide)
        · exact h.1 3 (by decide)
      · rcases (show s = 0 ∨ s = 1 ∨ s = 2 ∨ s = 3 by omega) with rfl | rfl | rfl | rfl
        · exact h.2 0 (by decide)
        · rfl
        · exact h.2 2 (by decide)
        · exact h.2 3 (by decide)
    · rw [show Int32.toNatClampNeg 2 = 2 by decide]
      refine ⟨fun s hs => ?_, fun s hs => ?_⟩
      · rcases (show s = 0 ∨ s = 1 ∨ s = 2 ∨ s = 3 by omega) with rfl | rfl | rfl | rfl
        · exact h.1 0 (by decide)
        · exact h.1 1 (by decide)
        · rfl
        · exact h.1 3 (by decide)
      · rcases (show s = 0 ∨ s = 1 ∨ s = 2 ∨ s = 3 by omega) with rfl | rfl | rfl | rfl
        · exact h.2 0 (by decide)
        · exact h.2 1 (by decide)
        · rfl
        · exact h.2 3 (by decide)
    · rw [show Int32.toNatClampNeg 3 = 3 by decide]
      refine ⟨fun s hs => ?_, fun s hs => ?_⟩
      · rcases (show s = 0 ∨ s = 1 ∨ s = 2 ∨ s = 3 by omega) with rfl | rfl | rfl | rfl
        · exact h.1 0 (by decide)
        · exact h.1 1 (by decide)
        · exact h.1 2 (by decide)
        · rfl
      · rcases (show s = 0 ∨ s = 1 ∨ s = 2 ∨ s = 3 by omega) with rfl | rfl | rfl | rfl
        · exact h.2 0 (by decide)
        · exact h.2 1 (by decide)
        · exact h.2 2 (by decide)
        · rfl
  · rw [if_neg hv, if_neg hv, if_neg hv]; exact h
