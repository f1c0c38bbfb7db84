def RL : String := "SealCouncilLaw"
def mL_law (nm : String) : pm_M := (⟨RL, nm, "([I)Z"⟩, code, 4, some .boolean)
/-! ===== the law: its script, its end ===== -/
def pm_scr (G : pm_G) (B b L : Nat) (xs : Nat → Int32) : Prop := va_X b L xs (pm_s G) (pm_s G).heap ∧ b < B ∧ B = (pm_s G).heap.size
def pm_lend (nm : String) (G : pm_G) (B : Nat) : Prop := ∀ (pc : Nat) (loc : List (Option Value)) (cs zs cnt : Nat) (σ : pm_S), cs ≤ 600000 → zs ≤ 7302250 → decode code pc = .ok (.ireturn, 1) → pm_wp (mL_law nm) G B pc loc [.int 1] cs zs cnt σ
section PML
variable {M : pm_M} {G : pm_G} {B pc pc' : Nat} {loc : List (Option Value)} {st : List Value} {cs zs cnt : Nat} {σ : pm_S}
theorem pm_sld {b L : Nat} {xs : Nat → Int32} {i : Int32} (hG : pm_ok M G B) (hs : pm_scr G B b L xs) (hd : pm_dec M pc (.iaload, 1) pc') (hi : vp_in i L) (kk : pm_wp M G B pc' loc (.int (xs i.toNatClampNeg) :: st) cs zs cnt σ) : pm_wp M G B pc loc (.int i :: .ref b :: st) cs zs cnt σ := by
  obtain ⟨hd, rfl⟩ := hd
  obtain ⟨hX, hb, hB⟩ := hs
  intro H ls locs h1 h2 h3 h4
  refine va_sld (A := fun q => B ≤ q) (H0 := (pm_s G).heap) hG.x hG.b hX (by rw [← hB]; exact hb) (Nat.not_le.mpr hb) ⟨by rw [h1.1, ← hB]; exact Nat.le_add_right _ _, fun q hq hn => h2 q (by omega), h4⟩ hi hd (kk H ls locs h1 h2 h3 h4)
theorem pm_slen {b L : Nat} {xs : Nat → Int32} (hG : pm_ok M G B) (hs : pm_scr G B b L xs) (hd : pm_dec M pc (.arraylength, 1) pc') (kk : pm_wp M G B pc' loc (.int (Int32.ofNat L) :: st) cs zs cnt σ) : pm_wp M G B pc loc (.ref b :: st) cs zs cnt σ := by
  obtain ⟨hd, rfl⟩ := hd
  obtain ⟨hX, hb, hB⟩ := hs
  intro H ls locs h1 h2 h3 h4
  refine va_slen (A := fun q => B ≤ q) (H0 := (pm_s G).heap) hG.x hG.b hX (by rw [← hB]; exact hb) (Nat.not_le.mpr hb) ⟨by rw [h1.1, ← hB]; exact Nat.le_add_right _ _, fun q hq hn => h2 q (by omega), h4⟩ hd (kk H ls locs h1 h2 h3 h4)
end PML
theorem pm_two_sub {σ : pm_S} {k : Nat} {C R : List pm_C} (h1 : pm_lies σ 0 C) (h2 : pm_lies σ k R) : pm_sub (pm_cat (pm_ofL C) k R) σ := by
  intro j x hj
  unfold pm_cat at hj
  split at hj
  · have h3 := h1 j x hj
    rw [Nat.zero_add] at h3
    exact h3
  · have h3 := h2 (j - k) x hj
    rw [show k + (j - k) = j by omega] at h3
    exact h3
theorem pm_old_lies {σ σ' : pm_S} {k n : Nat} {L : List pm_C} (h : pm_old k σ σ') (h1 : pm_lies σ n L) (hk : n + L.length ≤ k) : pm_lies σ' n L := by
  intro i x hx
  have hi : i < L.length := (List.getElem?_eq_some_iff.mp hx).1
  rw [h _ (by omega)]
  exact h1 i x hx
/-! ===== the law: what holds between two calls ===== -/
theorem pm_mid_lies {σ : pm_S} {L : List pm_C} (h : L.length ≤ 20) : pm_lies (pm_mid σ L) 54 L := by
  intro i x hi
  have hl : i < L.length := (List.getElem?_eq_some_iff.mp hi).1
  unfold pm_mid
  rw [if_neg (by omega), if_pos (by omega), Nat.add_sub_cancel_left]
  exact hi
theorem pm_mid_lo {σ : pm_S} {L : List pm_C} {j : Nat} (h : j < 54 ∨ 74 ≤ j) : pm_mid σ L j = σ j := by
  unfold pm_mid
  rcases h with h | h
  · rw [if_pos h]
  · rw [if_neg (by omega), if_neg (by omega)]
theorem pm_sub_mid {L : List pm_C} {σ : pm_S} (h : pm_lies σ 54 L) : pm_sub (pm_mid σ L) σ := by
  intro j x hj
  unfold pm_mid at hj
  split at hj
  · exact hj
  · split at hj
    · have h1 := h (j - 54) x hj
      rwa [show 54 + (j - 54) = j by omega] at h1
    · exact hj
/-! ===== the law: what holds between two calls; tracked numbers ===== -/
def MIv (n k z : Nat → Int32) (p0 t0 : Nat) : Prop := (KI n ∧ NR n) ∧ (KI k ∧ NR k) ∧ SZ z ∧ p0 < 4 ∧ t0 ≤ 40
def LIc (B : Nat) (σ : pm_S) (cnt : Nat) (ε εk T Tk : Nat → Int32) (nul : Bool) : Prop := ∃ (kp : Value) (I : Nat → Int32) (A : Nat → Nat → Int32), pm_lies σ 0 (cl_L B (kp, T) I A) ∧ gq ε I ∧ kpi B cnt kp σ εk Tk ∧ (nul = true ↔ kp = .null)
def LIm (B : Nat) (σ : pm_S) (n k : Nat → Int32) (im : Int32) : Prop := ∃ (I : Nat → Int32) (A : Nat → Nat → Int32) (z : Nat → Int32) (ac wt pl : Int32) (p0 t0 : Nat), pm_lies σ 54 (md_L B I A n k z ac wt pl (nI p0) (nI t0) im) ∧ MIv n k z p0 t0
def LX (B : Nat) (σ : pm_S) (cnt : Nat) (ε εk T Tk : Nat → Int32) (nul : Bool) (n k : Nat → Int32) (im : Int32) : Prop := 74 ≤ cnt ∧ LIc B σ cnt ε εk T Tk nul ∧ LIm B σ n k im
theorem LIm.same {B : Nat} {σ σ' : pm_S} {n k : Nat → Int32} {im : Int32} (h : LIm B σ n k im) (hs : ∀ j : Nat, 54 ≤ j → j < 74 → σ' j = σ j) : LIm B σ' n k im := by
  obtain ⟨I, A, z, ac, wt, pl, p0, t0, h1, h2⟩ := h
  exact ⟨I, A, z, ac, wt, pl, p0, t0, h1.same (fun j h3 h4 => hs j h3 (by have h9 : (md_L B I A n k z ac wt pl (nI p0) (nI t0) im).length = 20 := rfl; omega)), h2⟩
theorem kpi.same {B cnt cnt' : Nat} {kp : Value} {σ σ' : pm_S} {εk Tk : Nat → Int32} (h : kpi B cnt kp σ εk Tk) (hc : cnt ≤ cnt') (hs : ∀ j : Nat, 74 ≤ j → j < cnt → σ' j = σ j) : kpi B cnt' kp σ' εk Tk := by
  rcases h with h | ⟨κ, J, K, h1, h2, h3, h4, h5⟩
  · exact Or.inl h
  · exact Or.inr ⟨κ, J, K, h1, h2, by omega, h4.same (fun j h6 h7 => hs j (by omega) (by have h9 : (rl_L B κ J K).length = 25 := rfl; omega)), h5⟩
theorem LX.cls {B cnt : Nat} {σ : pm_S} {ε εk T Tk : Nat → Int32} {nul : Bool} {n k : Nat → Int32} {im : Int32} (h : LX B σ cnt ε εk T Tk nul n k im) : ∃ (kp : Value) (I : Nat → Int32) (A : Nat → Nat → Int32), gq ε I ∧ kpi B cnt kp σ εk Tk ∧ (nul = true ↔ kp = .null) ∧ pm_sub (pm_two (cl_L B (kp, T) I A) σ) σ ∧ 74 ≤ cnt ∧ (∀ (σ' : pm_S) (cnt' : Nat) (ε' T' : Nat → Int32), hvq ε' B (kp, T') σ cnt σ' cnt' → LX B σ' cnt' ε' εk T' Tk nul n k im) ∧ ∀ (σ' : pm_S) (cnt' : Nat) (ε' εk' T' Tk' : Nat → Int32) (nul' : Bool), hvi B σ cnt σ' cnt' ε' εk' T' Tk' nul' → LX B σ' cnt' ε' εk' T' Tk' nul' n k im := by
  obtain ⟨h74, ⟨kp, I, A, h1, h2, h3, hnu⟩, h4⟩ := h
  refine ⟨kp, I, A, h2, h3, hnu, pm_sub_two h1, h74, ?_, ?_⟩
  · rintro σ' cnt' ε' T' ⟨I', A', rfl, rfl, h5⟩
    exact ⟨h74, ⟨kp, I', A', pm_two_lies (Nat.le_of_ble_eq_true rfl), h5, h3.same (Nat.le_refl _) (fun j h6 _ => pm_two_hi (by omega)), hnu⟩, h4.same (fun j h6 _ => pm_two_hi h6)⟩
  · rintro σ' cnt' ε' εk' T' Tk' nul' ⟨kp', I', A', h5, h6, h7, hn', h8, h9⟩
    exact ⟨by omega, ⟨kp', I', A', h5, h6, h7, hn'⟩, h4.same h9⟩
theorem LX.mod {B cnt : Nat} {σ : pm_S} {ε εk T Tk : Nat → Int32} {nul : Bool} {n k : Nat → Int32} {im : Int32} (h : LX B σ cnt ε εk T Tk nul n k im) : ∃ (I : Nat → Int32) (A : Nat → Nat → Int32) (z : Nat → Int32) (ac wt pl : Int32) (p0 t0 : Nat), MIv n k z p0 t0 ∧ pm_sub (pm_mid σ (md_L B I A n k z ac wt pl (nI p0) (nI t0) im)) σ ∧ 74 ≤ cnt ∧ ∀ (τ : pm_S) (cnt' : Nat) (I' : Nat → Int32) (A' : Nat → Nat → Int32) (n' k' z' : Nat → Int32) (ac' wt' pl' : Int32) (p0' t0' : Nat) (im' : Int32), MIv n' k' z' p0' t0' → (∀ j : Nat, j < cnt → τ j = σ j) → cnt ≤ cnt' → LX B (pm_mid τ (md_L B I' A' n' k' z' ac' wt' pl' (nI p0') (nI t0') im')) cnt' ε εk T Tk nul n' k' im' := by
  obtain ⟨h74, ⟨kp, I1, A1, h1, h2, h3, hnu⟩, ⟨I, A, z, ac, wt, pl, p0, t0, h4, h5⟩⟩ := h
  refine ⟨I, A, z, ac, wt, pl, p0, t0, h5, pm_sub_mid h4, h74, ?_⟩
  intro τ cnt' I' A' n' k' z' ac' wt' pl' p0' t0' im' h6 h7 h8
  refine ⟨by omega, ⟨kp, I1, A1, h1.same (fun j _ hj => ?_), h2, h3.same h8 (fun j hj hc => ?_), hnu⟩, ⟨_, _, _, _, _, _, _, _, pm_mid_lies (Nat.le_of_ble_eq_true rfl), h6⟩⟩
  · have h9 : (cl_L B (kp, T) I1 A1).length = 54 := rfl
    rw [pm_mid_lo (Or.inl (by omega))]; exact h7 j (by omega)
  · rw [pm_mid_lo (Or.inr hj)]; exact h7 j hc
/-! ===== the new objects ===== -/
def ok0 (q : kdK) : Bool := (q.1 != 1 && q.1 != 2) || decide (0 < q.2.1)
theorem okv_0 {q : kdK} (h : ok0 q = true) : okv q 0 := by
  unfold ok0 at h
  simp only [Bool.or_eq_true, Bool.and_eq_true, bne_iff_ne, decide_eq_true_eq] at h
  unfold okv
  rcases h with ⟨h1, h2⟩ | h
  · rw [if_neg h1, if_neg h2]; exact trivial
  · split
    · exact ⟨0, h, rfl⟩
    · split
      · exact Or.inr ⟨0, h, rfl⟩
      · exact trivial
theorem ok0_list {l : List kdK} (h : l.all ok0 = true) (c : Nat) : ok0 (l.getD c (0, 0, false)) = true := by
  rw [List.all_eq_true] at h
  rw [List.getD_eq_getElem?_getD]
  cases e : l[c]? with
  | none => rfl
  | some q => exact h q (List.mem_of_getElem? e)
theorem ok0_law (c : Nat) : ok0 (kdLaw c) = true := by
  unfold kdLaw
  split
  · rfl
  · split <;> rfl
theorem ok0_kd (j : Nat) : ok0 (kd j) = true := by
  unfold kd
  split
  · exact ok0_list (l := kdLow) (by decide) _
  · split
    · exact ok0_list (l := kdTown) (by decide) _
    · split
      · exact ok0_list (l := kdRoad) (by decide) _
      · split
        · exact ok0_list (l := kdPers) (by decide) _
        · split
          · exact ok0_list (l := kdPow) (by decide) _
          · split
            · exact ok0_law _
            · split
              · exact ok0_list (l := kdLet) (by decide) _
              · split
                · exact ok0_list (l := kdDebt) (by decide) _
                · split
                  · exact ok0_list (l := kdProm) (by decide) _
                  · rfl
theorem KI.zero {n : Nat → Int32} (h : ∀ j : Nat, j ≠ 9 → n j = 0) : KI n := by
  intro j
  by_cases e : j = 9
  · subst e; exact okv_f (show kd 9 = (0, 0, false) by decide)
  · rw [h j e]; exact okv_0 (ok0_kd j)
theorem stN_nil {n : Nat → Int32} (h : ∀ j : Nat, j ≠ 9 → n j = 0) : ∀ k : Nat, stN n k = 0
  | 0 => rfl
  | k + 1 => by
    show stN n k + (if n (14 * k + 121) = 0 then 0 else 1) = 0
    rw [stN_nil h k, if_pos (h _ (by omega))]
theorem NR.zero {n : Nat → Int32} (h : ∀ j : Nat, j ≠ 9 → n j = 0) : NR n := by
  refine ⟨Or.inl ⟨h 2 (by decide), h 5 (by decide)⟩, fun l _ _ => Or.inr (by rw [h _ (by omega)]; decide), ⟨by rw [stN_nil h]; decide, 0, Nat.zero_le _, h 2 (by decide), fun p _ _ => h _ (by omega)⟩, fun l _ => ⟨0, h _ (by omega), Nat.zero_le _, trivial⟩⟩
def md_n0 : Nat → Int32 := upd (fun _ => 0) (9 : Int32).toNatClampNeg 1000
theorem md_n0_ne (j : Nat) (h : j ≠ 9) : md_n0 j = 0 := by
  unfold md_n0; rw [show (9 : Int32).toNatClampNeg = 9 from rfl, pk_un h]
theorem md_ok : MIv md_n0 (fun _ => 0) (fun _ => 0) 0 0 := ⟨⟨KI.zero md_n0_ne, NR.zero md_n0_ne⟩, ⟨KI.zero (fun _ _ => rfl), NR.zero (fun _ _ => rfl)⟩, fun _ _ => ⟨0, by decide, rfl⟩, by decide, by decide⟩
set_option maxRecDepth 100000 in
theorem md_new {B : Nat} : md_L B (fun _ => 0) (fun _ _ => 0) md_n0 (fun _ => 0) (fun _ => 0) 0 0 0 (nI 0) (nI 0) 0 = l_k_model B := rfl
def cl_I0 (k : Nat) : Int32 := if k = 103 then 1000 else 0
def cl_A0 (fw : Nat → Int32) (a : Nat) : Nat → Int32 := if a = 5 then fw else fun _ => 0
set_option maxRecDepth 100000 in
theorem cl_new {B : Nat} {fw : Nat → Int32} : cl_L B (.null, fun _ => 0) cl_I0 (cl_A0 fw) = l_k_class B fw := by
  have e : cl_L B (.null, fun _ => 0) cl_I0 (cl_A0 fw) = (l_k_class B fw).set 7 (.inl (280, cmx (fun _ => 0) (fun _ => 0))) := rfl
  rw [e, cmx_0]; rfl
theorem gs_new : gs cl_I0 := by
  intro q hq
  have h : ∀ q ∈ gcT, cl_I0 q.1 = nI 0 := by decide
  exact ⟨0, Nat.zero_le _, h q hq⟩
/-! ===== the tracked numbers are the same on both sides ===== -/
theorem mE_r {ε εk : Nat → Int32} {k : Nat} (h : k ∈ gqR) : mE ε εk k = εk k := if_pos h
theorem mE_n {ε εk : Nat → Int32} {k : Nat} (h : k ∉ gqR) : mE ε εk k = ε k := if_neg h
def EQ (ε εk : Nat → Int32) (nul : Bool) (n k : Nat → Int32) (im : Int32) (w : Nat) : Prop := (ε 2 = n 0 ∧ ε 6 = n 2 ∧ ε 102 = n 8 ∧ ε 18 = n 7 ∧ True) ∧ (εk 2 = k 0 ∧ εk 6 = k 2 ∧ εk 102 = k 8 ∧ εk 18 = k 7 ∧ True) ∧ True ∧ ∃ q : Nat, q ≤ w ∧ im = nI q ∧ (nul = true ↔ q = 0)
theorem EQ.up {ε εk : Nat → Int32} {nul : Bool} {n k : Nat → Int32} {im : Int32} {w : Nat} (h : EQ ε εk nul n k im w) : EQ ε εk nul n k im (w + 1) := by
  obtain ⟨h1, h2, h3, q, hq, h4⟩ := h
  exact ⟨h1, h2, h3, q, by omega, h4⟩
theorem EQ.e2 {ε εk : Nat → Int32} {nul : Bool} {n k : Nat → Int32} {im : Int32} {w : Nat} (h : EQ ε εk nul n k im w) : ε 2 = n 0 := h.1.1
theorem EQ.k2 {ε εk : Nat → Int32} {nul : Bool} {n k : Nat → Int32} {im : Int32} {w : Nat} (h : EQ ε εk nul n k im w) : εk 2 = k 0 := h.2.1.1
theorem EQ.e6 {ε εk : Nat → Int32} {nul : Bool} {n k : Nat → Int32} {im : Int32} {w : Nat} (h : EQ ε εk nul n k im w) : ε 6 = n 2 := h.1.2.1
theorem EQ.k6 {ε εk : Nat → Int32} {nul : Bool} {n k : Nat → Int32} {im : Int32} {w : Nat} (h : EQ ε εk nul n k im w) : εk 6 = k 2 := h.2.1.2.1
theorem EQ.e102 {ε εk : Nat → Int32} {nul : Bool} {n k : Nat → Int32} {im : Int32} {w : Nat} (h : EQ ε εk nul n k im w) : ε 102 = n 8 := h.1.2.2.1
theorem EQ.k102 {ε εk : Nat → Int32} {nul : Bool} {n k : Nat → Int32} {im : Int32} {w : Nat} (h : EQ ε εk nul n k im w) : εk 102 = k 8 := h.2.1.2.2.1
theorem EQ.e18 {ε εk : Nat → Int32} {nul : Bool} {n k : Nat → Int32} {im : Int32} {w : Nat} (h : EQ ε εk nul n k im w) : ε 18 = n 7 := h.1.2.2.2.1
theorem EQ.k18 {ε εk : Nat → Int32} {nul : Bool} {n k : Nat → Int32} {im : Int32} {w : Nat} (h : EQ ε εk nul n k im w) : εk 18 = k 7 := h.2.1.2.2.2.1
theorem EQ.keep {ε εk : Nat → Int32} {nul : Bool} {n k : Nat → Int32} {im : Int32} {w : Nat} {n' : Nat → Int32} (h : EQ ε εk nul n k im w) (e0 : n' 0 = n 0) (e2 : n' 2 = n 2) (e8 : n' 8 = n 8) (e7 : n' 7 = n 7) : EQ ε εk nul n' k im (w + 1) := by
  obtain ⟨h1, h2, h3, q, hq, h4⟩ := h.up
  exact ⟨⟨(EQ.e2 h).trans e0.symm, (EQ.e6 h).trans e2.symm, (EQ.e102 h).trans e8.symm, (EQ.e18 h).trans e7.symm, trivial⟩, h2, h3, q, hq, h4⟩
theorem EQ.w2 {ε εk : Nat → Int32} {nul : Bool} {n k : Nat → Int32} {im : Int32} {w : Nat} {n' : Nat → Int32} {x y : Int32} (h : EQ ε εk nul n k im w) (hx : x = y) (e0 : n' 0 = y) (e2 : n' 2 = n 2) (e8 : n' 8 = n 8) (e7 : n' 7 = n 7) : EQ (ui ε 2 x) εk nul n' k im (w + 1) := by
  obtain ⟨h1, h2, h3, q, hq, h4⟩ := h.up
  exact ⟨⟨ui_eq.trans (hx.trans e0.symm), (ui_ne (by decide)).trans ((EQ.e6 h).trans e2.symm), (ui_ne (by decide)).trans ((EQ.e102 h).trans e8.symm), (ui_ne (by decide)).trans ((EQ.e18 h).trans e7.symm), trivial⟩, h2, h3, q, hq, h4⟩
theorem EQ.w6 {ε εk : Nat → Int32} {nul : Bool} {n k : Nat → Int32} {im : Int32} {w : Nat} {n' : Nat → Int32} {x y : Int32} (h : EQ ε εk nul n k im w) (hx : x = y) (e2 : n' 2 = y) (e0 : n' 0 = n 0) (e8 : n' 8 = n 8) (e7 : n' 7 = n 7) : EQ (ui ε 6 x) εk nul n' k im (w + 1) := by
  obtain ⟨h1, h2, h3, q, hq, h4⟩ := h.up
  exact ⟨⟨(ui_ne (by decide)).trans ((EQ.e2 h).trans e0.symm), ui_eq.trans (hx.trans e2.symm), (ui_ne (by decide)).trans ((EQ.e102 h).trans e8.symm), (ui_ne (by decide)).trans ((EQ.e18 h).trans e7.symm), trivial⟩, h2, h3, q, hq, h4⟩
theorem EQ.w102 {ε εk : Nat → Int32} {nul : Bool} {n k : Nat → Int32} {im : Int32} {w : Nat} {n' : Nat → Int32} {x y : Int32} (h : EQ ε εk nul n k im w) (hx : x = y) (e8 : n' 8 = y) (e0 : n' 0 = n 0) (e2 : n' 2 = n 2) (e7 : n' 7 = n 7) : EQ (ui ε 102 x) εk nul n' k im (w + 1) := by
  obtain ⟨h1, h2, h3, q, hq, h4⟩ := h.up
  exact ⟨⟨(ui_ne (by decide)).trans ((EQ.e2 h).trans e0.symm), (ui_ne (by decide)).trans ((EQ.e6 h).trans e2.symm), ui_eq.trans (hx.trans e8.symm), (ui_ne (by decide)).trans ((EQ.e18 h).trans e7.symm), trivial⟩, h2, h3, q, hq, h4⟩
theorem EQ.w18 {ε εk : Nat → Int32} {nul : Bool} {n k : Nat → Int32} {im : Int32} {w : Nat} {n' : Nat → Int32} {x y : Int32} (h : EQ ε εk nul n k im w) (hx : x = y) (e7 : n' 7 = y) (e0 : n' 0 = n 0) (e2 : n' 2 = n 2) (e8 : n' 8 = n 8) : EQ (ui ε 18 x) εk nul n' k im (w + 1) := by
  obtain ⟨h1, h2, h3, q, hq, h4⟩ := h.up
  exact ⟨⟨(ui_ne (by decide)).trans ((EQ.e2 h).trans e0.symm), (ui_ne (by decide)).trans ((EQ.e6 h).trans e2.symm), (ui_ne (by decide)).trans ((EQ.e102 h).trans e8.symm), ui_eq.trans (hx.trans e7.symm), trivial⟩, h2, h3, q, hq, h4⟩
theorem EQ.img {ε εk : Nat → Int32} {nul : Bool} {n k : Nat → Int32} {im : Int32} {w : Nat} {k' : Nat → Int32} {im' : Int32} (h : EQ ε εk nul n k im w) (hk : ∀ j : Nat, j < 2071 → k' j = n j) (hi : im' = im + nI 1) : EQ ε ε false n k' im' (w + 1) := by
  obtain ⟨h1, h2, h3, q, hq, h4, h5⟩ := h
  exact ⟨⟨EQ.e2 ⟨h1, h2, h3, q, hq, h4, h5⟩, EQ.e6 ⟨h1, h2, h3, q, hq, h4, h5⟩, EQ.e102 ⟨h1, h2, h3, q, hq, h4, h5⟩, EQ.e18 ⟨h1, h2, h3, q, hq, h4, h5⟩, trivial⟩, ⟨(EQ.e2 ⟨h1, h2, h3, q, hq, h4, h5⟩).trans (hk 0 (by decide)).symm, (EQ.e6 ⟨h1, h2, h3, q, hq, h4, h5⟩).trans (hk 2 (by decide)).symm, (EQ.e102 ⟨h1, h2, h3, q, hq, h4, h5⟩).trans (hk 8 (by decide)).symm, (EQ.e18 ⟨h1, h2, h3, q, hq, h4, h5⟩).trans (hk 7 (by decide)).symm, trivial⟩, trivial, q + 1, by omega, by rw [hi, h4]; exact nI_add q 1, ⟨fun a => (by cases a), fun a => (by omega)⟩⟩
theorem EQ.res0 {ε εk : Nat → Int32} {nul : Bool} {n k : Nat → Int32} {im : Int32} {w : Nat} {n' : Nat → Int32} {v : Int32} (h : EQ ε εk nul n k im w) (hw : w ≤ 1000) (hu : nul = true) (hn : im = 0 → n' = n ∧ v = (-1000000) - nI 2) : EQ ε εk true n' k im (w + 1) ∧ v = (-1000000) - nI 2 := by
  obtain ⟨h1, h2, h3, q, hq, h4, h5⟩ := h
  obtain ⟨rfl, hv⟩ := hn (by rw [h4, h5.mp hu]; rfl)
  exact ⟨⟨h1, h2, h3, q, by omega, h4, by rw [← h5, hu]⟩, hv⟩
theorem EQ.res1 {ε εk : Nat → Int32} {nul : Bool} {n k : Nat → Int32} {im : Int32} {w : Nat} {n' : Nat → Int32} {v : Int32} (h : EQ ε εk nul n k im w) (hw : w ≤ 1000) (hu : ¬ nul = true) (hn : im ≠ 0 → (∀ j : Nat, j < 2071 → n' j = k j) ∧ v = k 8) : EQ (mE ε εk) εk false n' k im (w + 1) ∧ v = k 8 := by
  obtain ⟨h1, h2, h3, q, hq, h4, h5⟩ := h
  have hq0 : q ≠ 0 := fun e => hu (h5.mpr e)
  obtain ⟨hc, hv⟩ := hn (by rw [h4]; exact nI_ne0 (by omega) (by omega))
  exact ⟨⟨⟨(mE_r (by decide)).trans ((EQ.k2 (ε := ε) (n := n) ⟨h1, h2, h3, q, hq, h4, h5⟩).trans (hc 0 (by decide)).symm), (mE_r (by decide)).trans ((EQ.k6 (ε := ε) (n := n) ⟨h1, h2, h3, q, hq, h4, h5⟩).trans (hc 2 (by decide)).symm), (mE_r (by decide)).trans ((EQ.k102 (ε := ε) (n := n) ⟨h1, h2, h3, q, hq, h4, h5⟩).trans (hc 8 (by decide)).symm), (mE_r (by decide)).trans ((EQ.k18 (ε := ε) (n := n) ⟨h1, h2, h3, q, hq, h4, h5⟩).trans (hc 7 (by decide)).symm), trivial⟩, h2, trivial, q, by omega, h4, ⟨fun a => (by cases a), fun a => absurd a hq0⟩⟩, hv⟩
theorem EQ.new : EQ cl_I0 (fun _ => 0) true md_n0 (fun _ => 0) 0 0 := ⟨⟨(by decide), (by decide), (by decide), (by decide), trivial⟩, ⟨rfl, rfl, rfl, rfl, trivial⟩, trivial, 0, Nat.le_refl _, rfl, ⟨fun _ => rfl, fun _ => rfl⟩⟩
/-! ===== persons are the same on both sides; who lives, who is seated ===== -/
def PQ (T Tk n k : Nat → Int32) : Prop := (∀ j : Nat, t7u (n 2).toNatClampNeg j → T j = mT n j) ∧ ∀ j : Nat, t7u (k 2).toNatClampNeg j → Tk j = mT k j
def LI (B : Nat) (σ : pm_S) (cnt w : Nat) : Prop := ∃ (ε εk T Tk : Nat → Int32) (nul : Bool) (n k : Nat → Int32) (im : Int32), LX B σ cnt ε εk T Tk nul n k im ∧ EQ ε εk nul n k im w ∧ PQ T Tk n k
theorem LI.up {B cnt w : Nat} {σ : pm_S} (h : LI B σ cnt w) : LI B σ cnt (w + 1) := by
  obtain ⟨ε, εk, T, Tk, nul, n, k, im, h1, h2, h3⟩ := h
  exact ⟨ε, εk, T, Tk, nul, n, k, im, h1, h2.up, h3⟩
theorem mT_all {n n' : Nat → Int32} {j : Nat} (hj : t7 j = true) (h : ∀ i : Nat, i < 2071 → n' i = n i) : mT n' j = mT n j := by
  have h1 := t7_iff.mp hj
  exact mT_c (fun _ => h _ (by omega)) (fun _ => h _ (by omega))
theorem PQ.ks {T Tk n k n' : Nat → Int32} (h : PQ T Tk n k) (e2 : n' 2 = n 2) (hk : KS n' n) : PQ T Tk n' k := ⟨fun j hj => by
  rw [e2] at hj
  exact (h.1 j hj).trans (mT_c (fun q => hk _ (tS_13 hj.1 q)) (fun q => hk _ (tS_n hj.1 q))).symm, h.2⟩
theorem PQ.img {T Tk n k k' : Nat → Int32} (h : PQ T Tk n k) (hk : ∀ j : Nat, j < 2071 → k' j = n j) : PQ T T n k' := ⟨h.1, fun j hj => by
  rw [hk 2 (by decide)] at hj
  exact (h.1 j hj).trans (mT_all hj.1 hk).symm⟩
theorem PQ.res0 {ε εk T Tk n k n' : Nat → Int32} {nul : Bool} {im v : Int32} {w : Nat} (h : PQ T Tk n k) (hE : EQ ε εk nul n k im w) (hu : nul = true) (hn : im = 0 → n' = n ∧ v = (-1000000) - nI 2) : PQ T Tk n' k := by
  obtain ⟨h1, h2, h3, q, hq, h4, h5⟩ := hE
  obtain ⟨rfl, -⟩ := hn (by rw [h4, h5.mp hu]; rfl)
  exact h
theorem PQ.res1 {ε εk T Tk n k n' : Nat → Int32} {nul : Bool} {im v : Int32} {w : Nat} (h : PQ T Tk n k) (hE : EQ ε εk nul n k im w) (hw : w ≤ 1000) (hu : ¬ nul = true) (hn : im ≠ 0 → (∀ j : Nat, j < 2071 → n' j = k j) ∧ v = k 8) : PQ Tk Tk n' k := by
  obtain ⟨h1, h2, h3, q, hq, h4, h5⟩ := hE
  have hq0 : q ≠ 0 := fun e => hu (h5.mpr e)
  obtain ⟨hc, -⟩ := hn (by rw [h4]; exact nI_ne0 (by omega) (by omega))
  refine ⟨fun j hj => ?_, h.2⟩
  rw [hc 2 (by decide)] at hj
  exact (h.2 j hj).trans (mT_all hj.1 hc).symm
theorem PQ.new : PQ (fun _ => 0) (fun _ => 0) md_n0 (fun _ => 0) := ⟨fun j hj => absurd hj.2 (by rw [show (md_n0 2).toNatClampNeg = 0 by decide]; omega), fun j hj => absurd hj.2 (by show ¬ j < 14 * Int32.toNatClampNeg 0; rw [show Int32.toNatClampNeg 0 = 0 by decide]; omega)⟩
theorem par_c {T T' : Nat → Int32} {p x s b : Int32} {u : Nat} (h : ∀ j : Nat, t7u u j → T j = T' j) (hp : p = nI u) (hu : u ≤ 20) (q : par T p x s b) : par T' p x s b := by
  refine q.imp id (fun q => ?_)
  obtain ⟨k, hk, rfl⟩ := nI_of (fun z => q.1 (Or.inl z))
  have hku : k < u := by
    refine Nat.lt_of_not_le (fun z => q.1 (Or.inr ?_))
    rw [hp]; exact (nI_leI (by omega) hk).mpr z
  obtain ⟨q1, q2, q3⟩ := q
  rw [nI_clamp hk] at q2 q3
  refine ⟨q1, ?_, ?_⟩
  · rw [nI_clamp hk, ← h _ ⟨t7_iff.mpr ⟨by omega, by omega⟩, by omega⟩]; exact q2
  · rw [nI_clamp hk, ← h _ ⟨t7_iff.mpr ⟨by omega, by omega⟩, by omega⟩]; exact q3
theorem par_ci {T T' : Nat → Int32} {p x s b : Int32} {u : Nat} (h : ∀ j : Nat, t7u u j → T j = T' j) (hp : p = nI u) (hu : u ≤ 20) : par T p x s b ↔ par T' p x s b := ⟨par_c h hp hu, par_c (fun j hj => (h j hj).symm) hp hu⟩
theorem bad_c {T T' : Nat → Int32} {d t p a b c e : Int32} {u : Nat} (h : ∀ j : Nat, t7u u j → T j = T' j) (hp : p = nI u) (hu : u ≤ 20) : ((a < 0 ∨ 1 < a) ∨ (b < -20000 ∨ d < b) ∨ c < 0 ∨ (e < 0 ∨ t ≤ e) ∨ (¬ par T p (c / 100 - 1) 1 b) ∨ (¬ par T p (c - c / 100 * 100 - 1) 0 b)) ↔ ((a < 0 ∨ 1 < a) ∨ (b < -20000 ∨ d < b) ∨ c < 0 ∨ (e < 0 ∨ t ≤ e) ∨ (¬ par T' p (c / 100 - 1) 1 b) ∨ (¬ par T' p (c - c / 100 * 100 - 1) 0 b)) :=
  or_congr Iff.rfl (or_congr Iff.rfl (or_congr Iff.rfl (or_congr Iff.rfl (or_congr (not_congr (par_ci h hp hu)) (not_congr (par_ci h hp hu))))))
theorem ite_c {p q : Prop} [Decidable p] [Decidable q] {x y : Int32} (h : p ↔ q) : (if p then x else y) = (if q then x else y) := by
  by_cases c : p
  · rw [if_pos c, if_pos (h.mp c)]
  · rw [if_neg c, if_neg (fun z => c (h.mpr z))]
theorem vE_c {T T' : Nat → Int32} {d t p a b c e : Int32} {u : Nat} (h : ∀ j : Nat, t7u u j → T j = T' j) (hp : p = nI u) (hu : u ≤ 20) : vE T d t p a b c e = vE T' d t p a b c e := ite_c (bad_c h hp hu)
theorem pE_c {T T' : Nat → Int32} {d t p a b c e : Int32} {u : Nat} (h : ∀ j : Nat, t7u u j → T j = T' j) (hp : p = nI u) (hu : u ≤ 20) : pE T d t p a b c e = pE T' d t p a b c e := ite_c (bad_c h hp hu)
theorem tP_c {T T' : Nat → Int32} {u : Nat} {s b : Int32} {j : Nat} (h : j < 14 * u → T j = T' j) (hj : j < 14 * (u + 1)) : tP T u s b j = tP T' u s b j := by
  unfold tP upd pm_apf
  by_cases q : u * 14 ≤ j ∧ j < u * 14 + 14
  · rw [if_pos q, if_pos q]
  · rw [if_neg q, if_neg q, h (by omega)]
theorem TE_c {T T' : Nat → Int32} {d t p a b c e : Int32} {u : Nat} (h : ∀ j : Nat, t7u u j → T j = T' j) (hp : p = nI u) (hu : u ≤ 20) : ∀ j : Nat, t7u (pE T d t p a b c e).toNatClampNeg j → TE T d t p a b c e j = TE T' d t p a b c e j := by
  intro j hj
  by_cases q : (a < 0 ∨ 1 < a) ∨ (b < -20000 ∨ d < b) ∨ c < 0 ∨ (e < 0 ∨ t ≤ e) ∨ (¬ par T p (c / 100 - 1) 1 b) ∨ (¬ par T p (c - c / 100 * 100 - 1) 0 b)
  · rw [← (vE_n q).2.1, hp, nI_clamp (by omega)] at hj
    rw [(vE_n q).2.2, (vE_n ((bad_c h hp hu).mp q)).2.2]; exact h j hj
  · by_cases q2 : p = nI 20
    · rw [← (vE_f q q2).2.1, hp, nI_clamp (by omega)] at hj
      rw [(vE_f q q2).2.2, (vE_f (fun z => q ((bad_c h hp hu).mpr z)) q2).2.2]; exact h j hj
    · have hlt : u < 20 := by
        refine Nat.lt_of_not_le (fun z => q2 ?_)
        rw [hp, show u = 20 by omega]
      rw [← (vE_y q hp hlt).2.1, nI_clamp (by omega)] at hj
      rw [(vE_y q hp hlt).2.2, (vE_y (fun z => q ((bad_c h hp hu).mpr z)) hp hlt).2.2]; exact tP_c (fun z => h j ⟨hj.1, z⟩) hj.2
theorem PQ.at {T Tk n k : Nat → Int32} (h : PQ T Tk n k) (hn : KI n) : ∃ u : Nat, u ≤ 20 ∧ n 2 = nI u ∧ ∀ j : Nat, t7u u j → T j = mT n j := by
  obtain ⟨u, hu, eu⟩ := KI.nat hn (show kd 2 = (1, 21, true) by decide)
  refine ⟨u, by omega, eu, fun j hj => h.1 j ?_⟩
  rw [eu, nI_clamp (by omega)]; exact hj
theorem vE_q {T Tk n k : Nat → Int32} {d t a b c e : Int32} (h : PQ T Tk n k) (hn : KI n) : vE T d t (n 2) a b c e = vE (pN n) d t (n 2) a b c e := by
  obtain ⟨u, hu, eu, h2⟩ := h.at hn
  exact vE_c (T' := mT n) h2 eu hu
theorem pE_q {T Tk n k : Nat → Int32} {d t a b c e : Int32} (h : PQ T Tk n k) (hn : KI n) : pE T d t (n 2) a b c e = pE (pN n) d t (n 2) a b c e := by
  obtain ⟨u, hu, eu, h2⟩ := h.at hn
  exact pE_c (T' := mT n) h2 eu hu
theorem PQ.pe {T Tk n k n' : Nat → Int32} {d t p a b c e : Int32} (h : PQ T Tk n k) (hn : KI n) (e2 : p = n 2) (hp : n' 2 = pE (pN n) d t (n 2) a b c e) (hx : ∀ j : Nat, t7u (n' 2).toNatClampNeg j → mT n' j = TE (pN n) d t (n 2) a b c e j) : PQ (TE T d t p a b c e) Tk n' k := by
  subst e2
  obtain ⟨u, hu, eu, h2⟩ := h.at hn
  refine ⟨fun j hj => ?_, h.2⟩
  rw [hx j hj]
  rw [hp, ← pE_q h hn] at hj
  exact TE_c (T' := mT n) h2 eu hu j hj
theorem at_c {T T' : Nat → Int32} {p x : Int32} {u : Nat} (c : Nat) (hc : c = 9 ∨ c = 13) (h : ∀ j : Nat, t7u u j → T j = T' j) (hp : p = nI u) (hu : u ≤ 20) (q : ¬ nP p x) : T (14 * x.toNatClampNeg + c) = T' (14 * x.toNatClampNeg + c) := by
  obtain ⟨k, hk, rfl⟩ := nI_of (fun z => q (Or.inl z))
  have hku : k < u := by
    refine Nat.lt_of_not_le (fun z => q (Or.inr ?_))
    rw [hp]; exact (nI_leI (by omega) hk).mpr z
  rw [nI_clamp hk]
  exact h _ ⟨t7_iff.mpr ⟨by omega, by omega⟩, by omega⟩
theorem PQ.di {T Tk n k n' : Nat → Int32} {p x : Int32} (h : PQ T Tk n k) (hn : KI n) (e2 : p = n 2) (en : n' 2 = n 2) (hx : ∀ j : Nat, t7u (n 2).toNatClampNeg j → mT n' j = tX (mT n) (n 2) x j) : PQ (tX T p x) Tk n' k := by
  subst e2
  obtain ⟨u, hu, eu, h2⟩ := h.at hn
  refine ⟨fun j hj => ?_, h.2⟩
  rw [en] at hj
  rw [hx j hj]
  rw [eu, nI_clamp (by omega)] at hj
  unfold tX
  by_cases q : lv T (n 2) x
  · have q2 : lv (mT n) (n 2) x := ⟨q.1, by rw [← at_c 9 (Or.inl rfl) h2 eu hu q.1]; exact q.2⟩
    rw [if_pos q, if_pos q2]
    unfold upd
    rw [h2 j hj]
  · have q2 : ¬ lv (mT n) (n 2) x := fun z => q ⟨z.1, by rw [at_c 9 (Or.inl rfl) h2 eu hu z.1]; exact z.2⟩
    rw [if_neg q, if_neg q2]; exact h2 j hj
theorem cS_up {T T' : Nat → Int32} {p v : Int32} {i u : Nat} (h : ∀ j : Nat, t7u u j → T j = T' j) : ∀ j : Nat, t7u u j → upd T i v j = upd T' i v j := fun j hj => by
  unfold upd
  rw [h j hj]
theorem se_c {T T' : Nat → Int32} {p x : Int32} {u : Nat} (h : ∀ j : Nat, t7u u j → T j = T' j) (hp : p = nI u) (hu : u ≤ 20) (q : ¬ nP p x) : (s1 T x ↔ s1 T' x) ∧ (s0 T x ↔ s0 T' x) := by
  unfold s1 s0
  rw [at_c 9 (Or.inl rfl) h hp hu q, at_c 13 (Or.inr rfl) h hp hu q]
  exact ⟨Iff.rfl, Iff.rfl⟩
theorem vSe1_q {T Tk n k : Nat → Int32} {x : Int32} (h : PQ T Tk n k) (hn : KI n) : vSe1 T (n 2) x = vSe1 (mT n) (n 2) x ∧ ∀ j : Nat, t7u (n 2).toNatClampNeg j → tSe1 T (n 2) x j = tSe1 (mT n) (n 2) x j := by
  obtain ⟨u, hu, eu, h2⟩ := h.at hn
  have hb : ∀ j : Nat, t7u (n 2).toNatClampNeg j → t7u u j := fun j hj => by rw [eu, nI_clamp (by omega)] at hj; exact hj
  by_cases q : nP (n 2) x
  · exact ⟨by rw [← (vSe1_a (T := T) q).1, ← (vSe1_a (T := mT n) q).1], fun j hj => by rw [(vSe1_a (T := T) q).2, (vSe1_a (T := mT n) q).2]; exact h2 j (hb j hj)⟩
  · have hs := (se_c h2 eu hu q).1
    by_cases q2 : s1 T x
    · exact ⟨by rw [← (vSe1_b q q2).1, ← (vSe1_b q (hs.mp q2)).1], fun j hj => by rw [(vSe1_b q q2).2, (vSe1_b q (hs.mp q2)).2]; exact h2 j (hb j hj)⟩
    · have q2' : ¬ s1 (mT n) x := fun z => q2 (hs.mpr z)
      have hc : cS T (n 2) = cS (mT n) (n 2) := cS_u eu (by omega) h2
      by_cases q3 : 9 ≤ cS T (n 2)
      · have q3c : 9 ≤ cS (mT n) (n 2) := by rw [← hc]; exact q3
        exact ⟨by rw [← (vSe1_c q q2 q3).1, ← (vSe1_c q q2' q3c).1], fun j hj => by rw [(vSe1_c q q2 q3).2, (vSe1_c q q2' q3c).2]; exact h2 j (hb j hj)⟩
      · have q3' : ¬ 9 ≤ cS (mT n) (n 2) := fun z => q3 (by rw [hc]; exact z)
        refine ⟨?_, fun j hj => by rw [(vSe1_d q q2 q3).2, (vSe1_d q q2' q3').2]; exact cS_up (p := n 2) h2 j (hb j hj)⟩
        rw [← (vSe1_d q q2 q3).1, ← (vSe1_d q q2' q3').1, cS_u eu (by omega) (cS_up (p := n 2) h2)]
theorem vSe0_q {T Tk n k : Nat → Int32} {x : Int32} (h : PQ T Tk n k) (hn : KI n) : vSe0 T (n 2) x = vSe0 (mT n) (n 2) x ∧ ∀ j : Nat, t7u (n 2).toNatClampNeg j → tSe0 T (n 2) x j = tSe0 (mT n) (n 2) x j := by
  obtain ⟨u, hu, eu, h2⟩ := h.at hn
  have hb : ∀ j : Nat, t7u (n 2).toNatClampNeg j → t7u u j := fun j hj => by rw [eu, nI_clamp (by omega)] at hj; exact hj
  by_cases q : nP (n 2) x
  · exact ⟨by rw [← (vSe0_a (T := T) q).1, ← (vSe0_a (T := mT n) q).1], fun j hj => by rw [(vSe0_a (T := T) q).2, (vSe0_a (T := mT n) q).2]; exact h2 j (hb j hj)⟩
  · have hs := (se_c h2 eu hu q).2
    by_cases q2 : s0 T x
    · exact ⟨by rw [← (vSe0_b q q2).1, ← (vSe0_b q (hs.mp q2)).1], fun j hj => by rw [(vSe0_b q q2).2, (vSe0_b q (hs.mp q2)).2]; exact h2 j (hb j hj)⟩
    · have q2' : ¬ s0 (mT n) x := fun z => q2 (hs.mpr z)
      refine ⟨?_, fun j hj => by rw [(vSe0_d q q2).2, (vSe0_d q q2').2]; exact cS_up (p := n 2) h2 j (hb j hj)⟩
      rw [← (vSe0_d q q2).1, ← (vSe0_d q q2').1, cS_u eu (by omega) (cS_up (p := n 2) h2)]
theorem PQ.se {T T' Tk n k n' : Nat → Int32} {F : (Nat → Int32) → Nat → Int32} (h : PQ T Tk n k) (en : n' 2 = n 2) (hf : ∀ j : Nat, t7u (n 2).toNatClampNeg j → T' j = F (mT n) j) (hx : ∀ j : Nat, t7u (n 2).toNatClampNeg j → mT n' j = F (mT n) j) : PQ T' Tk n' k := ⟨fun j hj => by
  rw [en] at hj
  exact (hf j hj).trans (hx j hj).symm, h.2⟩
theorem vK_q {T Tk n k : Nat → Int32} {d m a b c : Int32} (h : PQ T Tk n k) (hn : KI n) : vK T d (n 2) m a b c = vK (mT n) d (n 2) m a b c ∧ tK T d (n 2) m a b c = tK (mT n) d (n 2) m a b c := by
  obtain ⟨u, hu, eu, h2⟩ := h.at hn
  unfold vK tK
  by_cases q : (a < 0 ∨ n 2 ≤ a) ∨ (b < 0 ∨ 5 < b) ∨ (c < d ∨ 2000 < c)
  · rw [if_pos q, if_pos q, if_pos q, if_pos q]; exact ⟨rfl, rfl⟩
  · rw [if_neg q, if_neg q, if_neg q, if_neg q, at_c 13 (Or.inr rfl) h2 eu hu (fun z => q (Or.inl z))]; exact ⟨rfl, rfl⟩
