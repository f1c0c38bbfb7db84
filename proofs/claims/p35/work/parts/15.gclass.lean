/-! ===== the class's general states: ints by I, arrays by A; what is compared by e ===== -/
abbrev pm_E : Type := (Nat → Int32) × (Nat → Nat → Int32)
def ui (I : Nat → Int32) (k : Nat) (v : Int32) : Nat → Int32 := fun j => if j = k then v else I j
def ua (A : Nat → Nat → Int32) (k : Nat) (g : Nat → Int32) : Nat → Nat → Int32 := fun j => if j = k then g else A j
theorem ui_ne {I : Nat → Int32} {k j : Nat} {v : Int32} (h : j ≠ k) : ui I k v j = I j := if_neg h
theorem ui_eq {I : Nat → Int32} {k : Nat} {v : Int32} : ui I k v k = v := if_pos rfl
theorem ua_ne {A : Nat → Nat → Int32} {k j : Nat} {g : Nat → Int32} (h : j ≠ k) : ua A k g j = A j := if_neg h
theorem ua_eq {A : Nat → Nat → Int32} {k : Nat} {g : Nat → Int32} : ua A k g k = g := if_pos rfl
def pm_two (L : List pm_C) (ρ : pm_S) : pm_S := fun j => if j < 54 then L[j]? else ρ j
theorem pm_two_up {L : List pm_C} {ρ : pm_S} {k : Nat} {x : pm_C} (hk : k < 54) (hl : k < L.length) : pm_up (pm_two L ρ) k x = pm_two (L.set k x) ρ := by
  funext j
  unfold pm_up pm_two
  by_cases h : j = k
  · subst h
    rw [if_pos rfl, if_pos hk, List.getElem?_set_self hl]
  · rw [if_neg h, List.getElem?_set_ne (fun q => h q.symm)]
theorem pm_nrm {M : pm_M} {G : pm_G} {B pc : Nat} {loc : List (Option Value)} {st : List Value} {cs zs cnt k : Nat} {x : pm_C} {L L' : List pm_C} {ρ : pm_S} (hk : k < 54) (hl : k < L.length) (h : L.set k x = L') (kk : pm_wp M G B pc loc st cs zs cnt (pm_two L' ρ)) : pm_wp M G B pc loc st cs zs cnt (pm_up (pm_two L ρ) k x) := by
  rw [pm_two_up hk hl, h]
  exact kk
def gcT : List (Nat × Nat) := [(2, 10), (4, 10), (6, 20), (8, 20), (10, 12), (12, 12), (14, 40), (16, 6), (18, 30), (20, 5), (22, 20), (24, 60), (28, 60), (32, 20), (34, 9), (38, 20), (51, 4)]
def gcS : List (Nat × Nat) := [(2, 0), (101, 1), (6, 2), (102, 3), (16, 4), (18, 5), (22, 6), (100, 7)]
def gcP : List (Nat × Nat) := [(0, 1), (1, 2), (9, 3), (13, 4), (12, 5)]
def gcW : List (Nat × Nat × Nat) := [(21, 6, 5), (49, 7, 4), (50, 8, 4), (52, 9, 96)]
/-- a good state of the class that stands for e -/
def gc (I : Nat → Int32) (A : Nat → Nat → Int32) (e : pm_E) : Prop :=
  (∀ q ∈ gcT, ∃ k : Nat, k ≤ q.2 ∧ I q.1 = nI k) ∧ (∀ q ∈ gcS, I q.1 = e.1 q.2) ∧ (∀ t : Nat, t < 10 → A 3 (t * 3 + 0) = e.2 0 t) ∧ (∀ q ∈ gcP, ∀ p : Nat, p < 20 → A 7 (p * 14 + q.1) = e.2 q.2 p) ∧ ∀ q ∈ gcW, ∀ j : Nat, j < q.2.2 → A q.1 j = e.2 q.2.1 j
def gcFI (k : Nat) : Bool := gcT.all (fun q => q.1 != k) && gcS.all (fun q => q.1 != k)
def gcFA (a : Nat) : Bool := a != 3 && a != 7 && gcW.all (fun q => q.1 != a)
theorem gc.used {I : Nat → Int32} {A : Nat → Nat → Int32} {e : pm_E} (h : gc I A e) (a n : Nat) (hm : (a, n) ∈ gcT) : ∃ k : Nat, k ≤ n ∧ I a = nI k := h.1 (a, n) hm
theorem gc.wi {I : Nat → Int32} {A : Nat → Nat → Int32} {e : pm_E} {k : Nat} {v : Int32} (hk : gcFI k = true) (h : gc I A e) : gc (ui I k v) A e := by
  simp only [gcFI, Bool.and_eq_true, List.all_eq_true, bne_iff_ne] at hk
  refine ⟨fun q hq => ?_, fun q hq => ?_, h.2.2⟩
  · rw [ui_ne (hk.1 q hq)]; exact h.1 q hq
  · rw [ui_ne (hk.2 q hq)]; exact h.2.1 q hq
theorem gc.wiT {I : Nat → Int32} {A : Nat → Nat → Int32} {e : pm_E} {k : Nat} {v : Int32} (n j : Nat) (hk : gcS.all (fun q => q.1 != k) = true) (hT : gcT.all (fun q => q.1 != k || q.2 == n) = true) (hj : j ≤ n) (hv : v = nI j) (h : gc I A e) : gc (ui I k v) A e := by
  simp only [List.all_eq_true, bne_iff_ne, Bool.or_eq_true, beq_iff_eq] at hk hT
  refine ⟨fun q hq => ?_, fun q hq => ?_, h.2.2⟩
  · by_cases e1 : q.1 = k
    · rcases hT q hq with h1 | h1
      · exact absurd e1 h1
      · rw [e1, h1]; exact ⟨j, hj, by rw [ui_eq]; exact hv⟩
    · rw [ui_ne e1]; exact h.1 q hq
  · rw [ui_ne (hk q hq)]; exact h.2.1 q hq
theorem gc.wa {I : Nat → Int32} {A : Nat → Nat → Int32} {e : pm_E} {a : Nat} {g : Nat → Int32} (ha : gcFA a = true) (h : gc I A e) : gc I (ua A a g) e := by
  simp only [gcFA, Bool.and_eq_true, List.all_eq_true, bne_iff_ne] at ha
  refine ⟨h.1, h.2.1, ?_, ?_, fun q hq => ?_⟩
  · rw [ua_ne (Ne.symm ha.1.1)]; exact h.2.2.1
  · rw [ua_ne (Ne.symm ha.1.2)]; exact h.2.2.2.1
  · rw [ua_ne (ha.2 q hq)]; exact h.2.2.2.2 q hq
/-- a number of a row is written: numbers in other columns stay -/
theorem pm_ts_col {R W c k p : Nat} {f : Nat → Int32} {row x : Int32} (hR : R < 2 ^ 31) (hW : W < 2 ^ 31) (hn : R * W < 2 ^ 31) (hc : c < W) (hk : k < W) (hne : k ≠ c) : pm_ts (nI R) (nI W) f row (nI c) x (p * W + k) = f (p * W + k) := by
  unfold pm_ts
  split
  · rfl
  · next h =>
    have h1 : ¬ row < 0 := fun q => h (Or.inl q)
    have h2 : ¬ nI R ≤ row := fun q => h (Or.inr (Or.inl q))
    obtain ⟨i, hi, rfl⟩ := (pk_ix row hR).resolve_left h1 |>.resolve_left h2
    have h5 : (i + 1) * W ≤ R * W := Nat.mul_le_mul_right W hi
    rw [Nat.succ_mul] at h5
    rw [pk_mul, nI_add, nI_clamp (by omega)]
    unfold upd
    rw [if_neg]
    intro hq
    have h6 : (p * W + k) % W = (i * W + c) % W := by rw [hq]
    rw [Nat.mul_comm p W, Nat.mul_comm i W, Nat.mul_add_mod, Nat.mul_add_mod, Nat.mod_eq_of_lt hk, Nat.mod_eq_of_lt hc] at h6
    exact hne h6
theorem gc.w7 {I : Nat → Int32} {A : Nat → Nat → Int32} {e : pm_E} {row x : Int32} (c : Nat) (hc : c < 14 ∧ gcP.all (fun q => q.1 != c) = true) (h : gc I A e) : gc I (ua A 7 (pm_ts (nI 20) (nI 14) (A 7) row (nI c) x)) e := by
  obtain ⟨h14, hc⟩ := hc
  simp only [List.all_eq_true, bne_iff_ne] at hc
  refine ⟨h.1, h.2.1, ?_, fun q hq p hp => ?_, fun q hq => ?_⟩
  · rw [ua_ne (by decide)]; exact h.2.2.1
  · rw [ua_eq, pm_ts_col (by decide) (by decide) (by decide) h14 ?_ (hc q hq)]
    · exact h.2.2.2.1 q hq p hp
    · have h8 : ∀ q ∈ gcP, q.1 < 14 := by decide
      exact h8 q hq
  · have h9 : ∀ q ∈ gcW, q.1 ≠ 7 := by decide
    rw [ua_ne (h9 q hq)]; exact h.2.2.2.2 q hq
theorem gc.w3 {I : Nat → Int32} {A : Nat → Nat → Int32} {e : pm_E} {row x : Int32} (c : Nat) (hc : c = 1 ∨ c = 2) (h : gc I A e) : gc I (ua A 3 (pm_ts (nI 10) (nI 3) (A 3) row (nI c) x)) e := by
  refine ⟨h.1, h.2.1, fun t ht => ?_, ?_, fun q hq => ?_⟩
  · rw [ua_eq, pm_ts_col (by decide) (by decide) (by decide) (by omega) (by omega) (by omega)]
    exact h.2.2.1 t ht
  · rw [ua_ne (by decide)]; exact h.2.2.2.1
  · have h9 : ∀ q ∈ gcW, q.1 ≠ 3 := by decide
    rw [ua_ne (h9 q hq)]; exact h.2.2.2.2 q hq
/-! ===== columns of persons that are compared: kp.2 ===== -/
abbrev pm_KP : Type := Value × (Nat → Int32)
def t7 (j : Nat) : Bool := decide (j < 280 ∧ (j % 14 = 0 ∨ j % 14 = 1 ∨ j % 14 = 9 ∨ j % 14 = 13))
theorem t7_iff {j : Nat} : t7 j = true ↔ (j < 280 ∧ (j % 14 = 0 ∨ j % 14 = 1 ∨ j % 14 = 9 ∨ j % 14 = 13)) := by
  unfold t7; exact decide_eq_true_iff
def cmx (T g : Nat → Int32) (j : Nat) : Int32 := if t7 j = true then T j else g j
theorem cmx_t {T g : Nat → Int32} {j : Nat} (h : t7 j = true) : cmx T g j = T j := if_pos h
theorem cmx_of {T F : Nat → Int32} (h : ∀ j : Nat, t7 j = true → F j = T j) : cmx T F = F := by
  funext j
  unfold cmx
  split
  · next q => exact (h j q).symm
  · rfl
theorem cmx_0 : cmx (fun _ => 0) (fun _ => 0) = fun _ => 0 := cmx_of (fun _ _ => rfl)
def cl_L (B : Nat) (kp : pm_KP) (I : Nat → Int32) (A : Nat → Nat → Int32) : List pm_C := [.inr (11, [.ref (B + 1), .ref (B + 26), .ref (B + 31), .ref (B + 36), .ref (B + 37), .ref (B + 40), .ref (B + 42), .ref (B + 46), .ref (B + 48), .ref (B + 53), kp.1, .int (I 100)]), .inr (7, [.ref (B + 2), .ref (B + 4), .ref (B + 6), .ref (B + 8), .ref (B + 10), .ref (B + 12), .ref (B + 14), .ref (B + 16), .ref (B + 18), .ref (B + 20), .ref (B + 22), .ref (B + 24), .int (I 101), .int (I 102), .int (I 103)]), .inr (9, [.int 10, .int 3, .ref (B + 3), .int (I 2)]), .inl (30, A 3), .inr (9, [.int 10, .int 10, .ref (B + 5), .int (I 4)]), .inl (100, A 5), .inr (9, [.int 20, .int 14, .ref (B + 7), .int (I 6)]), .inl (280, cmx kp.2 (A 7)), .inr (9, [.int 20, .int 6, .ref (B + 9), .int (I 8)]), .inl (120, A 9), .inr (9, [.int 12, .int 6, .ref (B + 11), .int (I 10)]), .inl (72, A 11), .inr (9, [.int 12, .int 60, .ref (B + 13), .int (I 12)]), .inl (720, A 13), .inr (9, [.int 40, .int 12, .ref (B + 15), .int (I 14)]), .inl (480, A 15), .inr (9, [.int 6, .int 5, .ref (B + 17), .int (I 16)]), .inl (30, A 17), .inr (9, [.int 30, .int 5, .ref (B + 19), .int (I 18)]), .inl (150, A 19), .inr (9, [.int 5, .int 1, .ref (B + 21), .int (I 20)]), .inl (5, A 21), .inr (9, [.int 20, .int 1, .ref (B + 23), .int (I 22)]), .inl (20, A 23), .inr (9, [.int 60, .int 1, .ref (B + 25), .int (I 24)]), .inl (60, A 25), .inr (2, [.ref (B + 1), .ref (B + 27), .ref (B + 30), .int (I 104)]), .inr (6, [.ref (B + 24), .ref (B + 28), .int (I 105), .int (I 106)]), .inr (9, [.int 60, .int 1, .ref (B + 29), .int (I 28)]), .inl (60, A 29), .inl (60, A 30), .inr (0, [.ref (B + 1), .ref (B + 26), .ref (B + 18), .ref (B + 32), .ref (B + 34), .int (I 107), .int (I 108), .int (I 109), .int (I 110)]), .inr (9, [.int 20, .int 1, .ref (B + 33), .int (I 32)]), .inl (20, A 33), .inr (9, [.int 9, .int 1, .ref (B + 35), .int (I 34)]), .inl (9, A 35), .inr (3, [.ref (B + 1), .ref (B + 26), .ref (B + 31), .ref (B + 14)]), .inr (4, [.ref (B + 1), .ref (B + 26), .ref (B + 38)]), .inr (9, [.int 20, .int 1, .ref (B + 39), .int (I 38)]), .inl (20, A 39), .inr (1, [.ref (B + 1), .ref (B + 41), .int (I 111)]), .inl (5, A 41), .inr (5, [.ref (B + 1), .ref (B + 43), .ref (B + 44), .ref (B + 45), .int (I 112), .int (I 113), .int (I 114)]), .inl (64, A 43), .inl (64, A 44), .inl (64, A 45), .inr (10, [.ref (B + 47), .int (I 115), .int (I 116), .int (I 117), .int (I 118)]), .inl (40, A 47), .inr (8, [.ref (B + 49), .ref (B + 50), .ref (B + 51)]), .inl (4, A 49), .inl (4, A 50), .inr (9, [.int 4, .int 24, .ref (B + 52), .int (I 51)]), .inl (96, A 52), .inl (6, A 53)]
