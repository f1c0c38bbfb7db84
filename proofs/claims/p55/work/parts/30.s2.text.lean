section
/-! ===== pure: texts; what both readers do with a letter ===== -/
section TXT
variable {K : Nat → Nat} {S T S0 T0 : FS} {b : Nat → Int32} {L : Nat}
def bt (b : Nat → Int32) (L p : Nat) : Int32 := if p < L then b p else -1
/-- the tape on both sides -/
def TP (b : Nat → Int32) (L : Nat) (S0 T0 : FS) : Prop := L ≤ 60 ∧ (S0.1 24 = nI L ∧ ∀ j : Nat, j < L → S0.2 25 j = b j) ∧ (T0.2 55 10 = nI L ∧ ∀ j : Nat, j < L → T0.2 55 (j + 1991) = b j) ∧ ∀ j : Nat, j < L → nB 255 (b j)
/-- the class's reader: frames -/
def CK (S0 S : FS) : Prop := (∀ k : Nat, k ≠ 28 → k ≠ 105 → k ≠ 106 → S.1 k = S0.1 k) ∧ (∀ a : Nat, a ≠ 29 → S.2 a = S0.2 a) ∧ ∃ u : Nat, u ≤ 60 ∧ S.1 28 = nI u
def CF (S0 : FS) (q : Nat) (S : FS) : Prop := CK S0 S ∧ q ≤ 60 ∧ S.1 106 = nI q
def CO (S0 : FS) (p u : Nat) (S : FS) : Prop := CK S0 S ∧ S.1 105 = nI p ∧ S.1 106 = -1 ∧ S.1 28 = nI u
def MK (T0 T : FS) : Prop := (∀ k : Nat, k ≠ 10 → k ≠ 11 → k ≠ 12 → T.1 k = T0.1 k) ∧ ∀ a : Nat, a ≠ 60 → a ≠ 61 → T.2 a = T0.2 a
def MO (T0 : FS) (p u h : Nat) (T : FS) : Prop := MK T0 T ∧ T.1 12 = nI p ∧ T.1 10 = nI u ∧ T.1 11 = nI h
theorem nx_o {p u : Nat} (ht : TP b L S0 T0) (h : CO S0 p u S) (hp : p ≤ 60) : p_X6_next S = bt b L p := by
  obtain ⟨⟨h1, h2, -⟩, h3, h4, -⟩ := h
  unfold p_X6_next bt
  rw [h4, if_pos (by decide), h3, h1 24 (by decide) (by decide) (by decide), ht.2.1.1]
  by_cases c : p < L
  · rw [if_pos (nI_lt c (by have := ht.1; omega)), if_pos c, g24_0 (show p < 60 by have := ht.1; omega), h2 25 (by decide), ht.2.1.2 p c]
  · rw [if_neg (nI_nlt (by omega) (by omega)), if_neg c]
theorem nx_f {q : Nat} (h : CF S0 q S) : p_X6_next S = -1 := by
  unfold p_X6_next
  rw [h.2.2, if_neg (nI_pos (by have := h.2.1; omega))]
theorem fail_f {q : Nat} (h : CF S0 q S) : f_X6_fail S = some (0, S) := by
  unfold f_X6_fail
  rw [h.2.2, if_neg (nI_pos (by have := h.2.1; omega))]
theorem fail_o {p u : Nat} (h : CO S0 p u S) (hp : p ≤ 60) : ∃ S' : FS, f_X6_fail S = some (0, S') ∧ CF S0 p S' := by
  obtain ⟨⟨h1, h2, h5⟩, h3, h4, -⟩ := h
  unfold f_X6_fail
  rw [h4, if_pos (by decide), fl_s, h3]
  exact ⟨_, rfl, ⟨fun k k1 k2 k3 => (wI_n k3).trans (h1 k k1 k2 k3), h2, h5⟩, hp, wI_e⟩
theorem adv_o {p u : Nat} (h : CO S0 p u S) : CO S0 (p + 1) u (wI S 105 (S.1 105 + 1)) ∧ (wI S 105 (S.1 105 + 1)).2 = S.2 := by
  obtain ⟨⟨h1, h2, h5⟩, h3, h4, h6⟩ := h
  exact ⟨⟨⟨fun k k1 k2 k3 => (wI_n k2).trans (h1 k k1 k2 k3), h2, h5⟩, by rw [wI_e, h3, nI_1], h4, h6⟩, rfl⟩
theorem ap_o {u k : Nat} {x : Int32} (h : k ≠ 28) : ((ui S.1 28 (nI (u + 1)), ua S.2 (28 + 1) (pm_apf 1 u x (S.2 (28 + 1)))) : FS).1 k = S.1 k := ui_ne h
theorem app_o {p u : Nat} {x : Int32} (h : CO S0 p u S) (hu : u < 60) : ∃ S' : FS, fApp 28 60 1 S x = some (nI u, S') ∧ CO S0 p (u + 1) S' ∧ (∀ j : Nat, j < u → S'.2 29 j = S.2 29 j) ∧ S'.2 29 u = x := by
  obtain ⟨⟨h1, h2, h5⟩, h3, h4, h6⟩ := h
  refine ⟨_, fApp_f h6 hu (by decide), ⟨⟨fun k k1 k2 k3 => (ui_ne k1).trans (h1 k k1 k2 k3), fun a ha => (ua_ne ha).trans (h2 a ha), u + 1, by omega, (show ui S.1 28 (nI (u + 1)) 28 = _ from ui_eq)⟩, (ap_o (k := 105) (by decide)).trans h3, (ap_o (k := 106) (by decide)).trans h4, (show ui S.1 28 (nI (u + 1)) 28 = _ from ui_eq)⟩, fun j hj => ?_, ?_⟩
  · show ua S.2 29 (pm_apf 1 u x (S.2 29)) 29 j = _
    rw [ua_eq, apf_o (by omega)]
  · show ua S.2 29 (pm_apf 1 u x (S.2 29)) 29 u = _
    rw [ua_eq, apf_0 (by omega) (by decide)]
theorem app_f {q : Nat} {x : Int32} (h : CF S0 q S) : ∃ (v : Int32) (S' : FS), fApp 28 60 1 S x = some (v, S') ∧ CF S0 q S' := by
  obtain ⟨⟨h1, h2, u, h5, h6⟩, hq, h4⟩ := id h
  unfold fApp
  rw [h6, iN_nI (by decide) h5, fb_s]
  by_cases c : u = 60
  · rw [if_pos c]; exact ⟨_, _, rfl, h⟩
  · rw [if_neg c]
    exact ⟨_, _, rfl, ⟨fun k k1 k2 k3 => (ui_ne k1).trans (h1 k k1 k2 k3), fun a ha => (ua_ne ha).trans (h2 a ha), u + 1, by omega, (show ui S.1 28 (nI (u + 1)) 28 = _ from ui_eq)⟩, hq, (ap_o (k := 106) (by decide)).trans h4⟩
/-! the model -/
theorem byt_o {p u h : Nat} (ht : TP b L S0 T0) (hm : MO T0 p u h T) (hp : p ≤ 60) : q_X12_byteAt T (T.1 12) = some (bt b L p) := by
  obtain ⟨⟨h1, h2⟩, h3, -⟩ := hm
  unfold q_X12_byteAt bt
  rw [h3, h2 55 (by decide) (by decide), ht.2.2.1.1]
  by_cases c : p < L
  · rw [if_pos (nI_lt c (by have := ht.1; omega)), if_pos c, show (1991 : Int32) + nI p = nI (p + 1991) from (nI_add 1991 p).trans (congrArg nI (by omega)), ix_nI (by omega) (by decide), fb_s, ht.2.2.1.2 p c]
  · rw [if_neg (nI_nlt (by omega) (by omega)), if_neg c]
theorem lay_o {p u h : Nat} {x : Int32} (hm : MO T0 p u h T) (hu : u < 60) : ∃ T' : FS, f_X12_lays T x = some (0, T') ∧ MO T0 p (u + 1) h T' ∧ T'.2 61 = T.2 61 ∧ (∀ j : Nat, j < u → T'.2 60 j = T.2 60 j) ∧ T'.2 60 u = x := by
  obtain ⟨⟨h1, h2⟩, h3, h4, h5⟩ := hm
  unfold f_X12_lays
  rw [h4, ix_nI hu (by decide), fb_s, fl_s, fl_s]
  refine ⟨_, rfl, ⟨⟨fun k k1 k2 k3 => (wI_n k1).trans (h1 k k1 k2 k3), fun a a1 a2 => (wA_n a1).trans (h2 a a1 a2)⟩, (wI_n (by decide)).trans h3, ?_, (wI_n (by decide)).trans h5⟩, (show (wA T 60 u x).2 61 = T.2 61 from wA_n (by decide)), fun j hj => ?_, ?_⟩
  · rw [wI_e, wA_1, h4, nI_1]
  · show (wA T 60 u x).2 60 j = _
    rw [wA_e, pk_un (by omega)]
  · show (wA T 60 u x).2 60 u = _
    rw [wA_e, pk_us]
/-- a sign is put: place, height -/
theorem push_m {p u h : Nat} {x : Int32} (hm : MO T0 p u h T) : MO T0 (p + 1) u (h + 1) (wI (wI (wA T 61 h x) 11 (T.1 11 + 1)) 12 (T.1 12 + 1)) ∧ (wI (wI (wA T 61 h x) 11 (T.1 11 + 1)) 12 (T.1 12 + 1)).2 61 = upd (T.2 61) h x ∧ (wI (wI (wA T 61 h x) 11 (T.1 11 + 1)) 12 (T.1 12 + 1)).2 60 = T.2 60 := by
  obtain ⟨⟨h1, h2⟩, h3, h4, h5⟩ := hm
  refine ⟨⟨⟨fun k k1 k2 k3 => ?_, fun a a1 a2 => (wA_n a2).trans (h2 a a1 a2)⟩, by rw [wI_e, h3, nI_1], ?_, ?_⟩, ?_, ?_⟩
  · rw [wI_n k3, wI_n k2]; exact h1 k k1 k2 k3
  · rw [wI_n (by decide), wI_n (by decide)]; exact h4
  · rw [wI_n (by decide), wI_e, h5, nI_1]
  · show (wA T 61 h x).2 61 = _
    exact wA_e
  · exact (wA_n (by decide) : (wA T 61 h x).2 60 = T.2 60)
def rk (x : Int32) : Int32 := if x = 124 then 1 else (if x = 38 then 2 else (if x = 60 then 3 else (if x = 61 then 3 else (if x = 62 then 3 else (if x = 43 then 4 else (if x = 45 then 4 else (if x = 33 then 5 else 0)))))))
theorem rk_e (T : FS) (x : Int32) : p_X12_rankOf T x = rk x := rfl
/-- signs of at least a rank are laid, from the top down to h -/
theorem sdn_l {p h : Nat} {r : Int32} : ∀ (m : Nat) (T : FS) (um hm : Nat), MO T0 p um hm T → h ≤ hm → hm - h < m → um + hm ≤ 60 → (∀ j : Nat, h ≤ j → j < hm → ¬ rk (T.2 61 j) < r) → (h = 0 ∨ rk (T.2 61 (h - 1)) < r) → ∃ T' : FS, l_X12_settles_0 r (fun S9 => some (0, S9)) m T = some (0, T') ∧ MO T0 p (um + (hm - h)) h T' ∧ T'.2 61 = T.2 61 ∧ (∀ j : Nat, j < um → T'.2 60 j = T.2 60 j) ∧ ∀ i : Nat, i < hm - h → T'.2 60 (um + i) = -100 - T.2 61 (hm - 1 - i) := by
  intro m
  induction m with
  | zero => intro T um hm _ _ hm0; exact absurd hm0 (Nat.not_lt_zero _)
  | succ m ih =>
    intro T um hm ho hh hf hb hr hl
    obtain ⟨⟨h1, h2⟩, h3, h4, h5⟩ := id ho
    by_cases c : h < hm
    · obtain ⟨g, rfl⟩ : ∃ g : Nat, hm = g + 1 := ⟨hm - 1, by omega⟩
      have ho1 : MO T0 p um g (wI T 11 (T.1 11 - 1)) := by
        refine ⟨⟨fun k k1 k2 k3 => (wI_n k2).trans (h1 k k1 k2 k3), h2⟩, (wI_n (by decide)).trans h3, (wI_n (by decide)).trans h4, ?_⟩
        rw [wI_e, h5, nI_pred]
      obtain ⟨T1, l1, l2, l3, l4, l5⟩ := lay_o (x := -100 - T.2 61 g) ho1 (by omega)
      obtain ⟨T', r1, r2, r3, r4, r5⟩ := ih T1 (um + 1) g l2 (by omega) (by omega) (by omega) (fun j j1 j2 => by rw [l3]; exact hr j j1 (by omega)) (by rw [l3]; exact hl)
      have e3 : (wI T 11 (T.1 11 - 1)).2 61 g = T.2 61 g := rfl
      refine ⟨T', ?_, by rw [show um + (g + 1 - h) = um + 1 + (g - h) by omega]; exact r2, r3.trans l3, fun j hj => (r4 j (by omega)).trans (l4 j hj), fun i hi => ?_⟩
      · rw [l_X12_settles_0, h5, if_pos (show (0 : Int32) < nI (g + 1) from nI_lt (a := 0) (by omega) (by omega)), nI_pred, ix_nI (show g < 60 by omega) (by decide), fb_s, rk_e, if_neg (hr g (by omega) (by omega)), fl_s]
        rw [show wI T 11 (nI g) = wI T 11 (T.1 11 - 1) by rw [h5, nI_pred], show (wI T 11 (T.1 11 - 1)).1 11 = nI g from ho1.2.2.2, ix_nI (show g < 60 by omega) (by decide), fb_s, e3, l1, fb_s]
        exact r1
      · by_cases z : i = 0
        · subst z
          rw [Nat.add_zero, r4 um (by omega), l5, show g + 1 - 1 - 0 = g by omega]
        · have := r5 (i - 1) (by omega)
          rw [show um + 1 + (i - 1) = um + i by omega, show g - 1 - (i - 1) = g + 1 - 1 - i by omega, l3] at this
          exact this
    · obtain rfl : h = hm := by omega
      refine ⟨T, ?_, by rw [Nat.sub_self]; exact ho, rfl, fun _ _ => rfl, fun i hi => absurd hi (by omega)⟩
      rw [l_X12_settles_0, h5]
      rcases hl with rfl | hl
      · rw [if_neg (by decide)]
      · by_cases z : h = 0
        · subst z; rw [if_neg (by decide)]
        · obtain ⟨g, rfl⟩ : ∃ g : Nat, h = g + 1 := ⟨h - 1, by omega⟩
          rw [if_pos (show (0 : Int32) < nI (g + 1) from nI_lt (a := 0) (by omega) (by omega)), nI_pred, ix_nI (show g < 60 by omega) (by decide), fb_s, rk_e, if_pos (show rk (T.2 61 g) < r from hl)]
theorem sdn_o {p h um hm : Nat} {r : Int32} (ho : MO T0 p um hm T) (hh : h ≤ hm) (hb : um + hm ≤ 60) (hr : ∀ j : Nat, h ≤ j → j < hm → ¬ rk (T.2 61 j) < r) (hl : h = 0 ∨ rk (T.2 61 (h - 1)) < r) : ∃ T' : FS, f_X12_settles T r = some (0, T') ∧ MO T0 p (um + (hm - h)) h T' ∧ T'.2 61 = T.2 61 ∧ (∀ j : Nat, j < um → T'.2 60 j = T.2 60 j) ∧ ∀ i : Nat, i < hm - h → T'.2 60 (um + i) = -100 - T.2 61 (hm - 1 - i) :=
  sdn_l FU T um hm ho hh (FU_lt (by omega)) hb hr hl
/-- how many of ! and ( are open -/
def om (f : Nat → Int32) (h : Nat) : Nat := pm_cnt (fun j => f j == 33 || f j == 40) h
theorem om_l {p u h : Nat} (hm : MO T0 p u h T) (h60 : h ≤ 60) : ∀ (m i : Nat), i ≤ h → h - i < m → l_X12_openMany_4 T (fun a b => some a) m (nI (om (T.2 61) i)) (nI i) = some (nI (om (T.2 61) h)) := by
  obtain ⟨-, -, -, h5⟩ := hm
  intro m
  induction m with
  | zero => intro i _ hm0; exact absurd hm0 (Nat.not_lt_zero _)
  | succ m ih =>
    intro i hi hm0
    rw [l_X12_openMany_4, h5]
    by_cases c : i < h
    · have r := ih (i + 1) (by omega) (by omega)
      rw [if_pos (nI_lt c (by omega)), ix_nI (show i < 60 by omega) (by decide), fb_s, nI_1]
      have e : om (T.2 61) (i + 1) = om (T.2 61) i + if (T.2 61 i == 33 || T.2 61 i == 40) = true then 1 else 0 := rfl
      by_cases a : T.2 61 i = 33
      · rw [if_pos a, fv_s, nI_1]
        rw [e, if_pos (by rw [a]; rfl)] at r; exact r
      · rw [if_neg a]
        by_cases d : T.2 61 i = 40
        · rw [if_pos d, fv_s, nI_1]
          rw [e, if_pos (by rw [d]; rfl)] at r; exact r
        · rw [if_neg d, fv_s, Int32.add_zero, nI_1]
          rw [e, if_neg (by rw [beq_false_of_ne a, beq_false_of_ne d]; decide), Nat.add_zero] at r; exact r
    · obtain rfl : i = h := by omega
      rw [if_neg (nI_nlt (Nat.le_refl _) (by omega))]
theorem om_o {p u h : Nat} (hm : MO T0 p u h T) (h60 : h ≤ 60) : q_X12_openMany T = some (nI (om (T.2 61) h)) := om_l hm h60 FU 0 (Nat.zero_le _) (FU_lt (by omega))
/-- is a ( open -/
def hO (f : Nat → Int32) (h : Nat) : Prop := ∃ j : Nat, j < h ∧ f j = 40
theorem ho_l {p u h : Nat} (hm : MO T0 p u h T) (h60 : h ≤ 60) : ∀ (m i : Nat), i ≤ h → h - i < m → (∀ j : Nat, j < i → ¬ T.2 61 j = 40) → (hO (T.2 61) h ∧ l_X12_hasOpen_2 T (fun _ => some 0) m (nI i) = some 1) ∨ (¬ hO (T.2 61) h ∧ l_X12_hasOpen_2 T (fun _ => some 0) m (nI i) = some 0) := by
  obtain ⟨-, -, -, h5⟩ := hm
  intro m
  induction m with
  | zero => intro i _ hm0; exact absurd hm0 (Nat.not_lt_zero _)
  | succ m ih =>
    intro i hi hm0 hn
    rw [l_X12_hasOpen_2, h5]
    by_cases c : i < h
    · rw [if_pos (nI_lt c (by omega)), ix_nI (show i < 60 by omega) (by decide), fb_s, nI_1]
      by_cases a : T.2 61 i = 40
      · left; rw [if_pos a]; exact ⟨⟨i, c, a⟩, rfl⟩
      · rw [if_neg a]
        exact ih (i + 1) (by omega) (by omega) (fun j hj => by
          by_cases z : j = i
          · subst z; exact a
          · exact hn j (by omega))
    · obtain rfl : i = h := by omega
      right
      rw [if_neg (nI_nlt (Nat.le_refl _) (by omega))]
      exact ⟨fun q => by obtain ⟨j, j1, j2⟩ := q; exact hn j j1 j2, rfl⟩
theorem ho_o {p u h : Nat} (hm : MO T0 p u h T) (h60 : h ≤ 60) : (hO (T.2 61) h ∧ q_X12_hasOpen T = some 1) ∨ (¬ hO (T.2 61) h ∧ q_X12_hasOpen T = some 0) := ho_l hm h60 FU 0 (Nat.zero_le _) (FU_lt (by omega)) (fun j hj => absurd hj (Nat.not_lt_zero _))
/-- the first sign from the top whose rank isn't above 3 -/
theorem ts_l {p u h : Nat} {k : Int32 → Option Int32} (hm : MO T0 p u h T) (h60 : h ≤ 60) : ∀ (m i g : Nat), g ≤ i → i ≤ h → i - g < m → (∀ j : Nat, g ≤ j → j < i → 3 < rk (T.2 61 j)) → (g = 0 ∨ ¬ 3 < rk (T.2 61 (g - 1))) → l_X12_isTested_7 T k m (nI i - 1) = k (nI g - 1) := by
  intro m
  induction m with
  | zero => intro i g _ _ hm0; exact absurd hm0 (Nat.not_lt_zero _)
  | succ m ih =>
    intro i g hg hi hm0 hr hl
    rw [l_X12_isTested_7]
    by_cases c : g < i
    · obtain ⟨j, rfl⟩ : ∃ j : Nat, i = j + 1 := ⟨i - 1, by omega⟩
      rw [nI_pred, if_neg (nI_pos (by omega)), ix_nI (show j < 60 by omega) (by decide), fb_s, rk_e, if_pos (hr j (by omega) (by omega)), ← Int32.sub_eq_add_neg]
      exact ih j g (by omega) (by omega) (by omega) (fun q q1 q2 => hr q q1 (by omega)) hl
    · obtain rfl : g = i := by omega
      by_cases z : g = 0
      · subst z; rw [if_pos (by decide)]
      · obtain ⟨j, rfl⟩ : ∃ j : Nat, g = j + 1 := ⟨g - 1, by omega⟩
        rw [nI_pred, if_neg (nI_pos (by omega)), ix_nI (show j < 60 by omega) (by decide), fb_s, rk_e, if_neg (show ¬ 3 < rk (T.2 61 j) from hl.resolve_left (by omega))]
theorem ts_o {p u h g : Nat} (hm : MO T0 p u h T) (h60 : h ≤ 60) (hg : g ≤ h) (hr : ∀ j : Nat, g ≤ j → j < h → 3 < rk (T.2 61 j)) (hl : g = 0 ∨ ¬ 3 < rk (T.2 61 (g - 1))) : q_X12_isTested T = some (if 0 < g ∧ rk (T.2 61 (g - 1)) = 3 then 1 else 0) := by
  unfold q_X12_isTested
  rw [fv_s, hm.2.2.2, ts_l hm h60 FU h g hg (Nat.le_refl _) (FU_lt (by omega)) hr hl]
  by_cases z : g = 0
  · subst z; rw [if_pos (by decide), if_neg (fun q => absurd q.1 (by decide))]
  · obtain ⟨j, rfl⟩ : ∃ j : Nat, g = j + 1 := ⟨g - 1, by omega⟩
    rw [nI_pred, if_neg (nI_pos (by omega)), ix_nI (show j < 60 by omega) (by decide), fb_s, rk_e, show j + 1 - 1 = j by omega]
    by_cases d : rk (T.2 61 j) = 3
    · rw [if_pos d, if_pos ⟨by omega, d⟩]
    · rw [if_neg d, if_neg (fun q => d q.2)]
end TXT
end
section
/-! ===== pure: texts; the levels of both readers ===== -/
section TXT2
variable {S T S0 T0 : FS} {b : Nat → Int32} {L : Nat}
def rn (x : Int32) : Nat := if x = 124 then 1 else (if x = 38 then 2 else (if x = 60 then 3 else (if x = 61 then 3 else (if x = 62 then 3 else (if x = 43 then 4 else (if x = 45 then 4 else (if x = 33 then 5 else 0)))))))
theorem rk_n (x : Int32) : rk x = nI (rn x) := by
  unfold rk rn
  repeat' split
  all_goals rfl
theorem rn_b (x : Int32) : rn x ≤ 5 := by
  unfold rn
  repeat' split
  all_goals decide
theorem rk_lt {x : Int32} {r : Nat} (hr : r ≤ 100) : rk x < nI r ↔ rn x < r := by
  have := rn_b x
  rw [rk_n]
  constructor
  · intro h
    exact Nat.lt_of_not_le (fun z => nI_nlt z (by omega) h)
  · exact fun h => nI_lt h (by omega)
theorem rk_gt {x : Int32} : 3 < rk x ↔ 3 < rn x := by
  have := rn_b x
  rw [rk_n]
  constructor
  · intro h
    exact Nat.lt_of_not_le (fun z => nI_nlt (a := 3) z (by omega) h)
  · exact fun h => nI_lt (a := 3) h (by omega)
theorem rk_eq {x : Int32} {r : Nat} (hr : r ≤ 100) : rk x = nI r ↔ rn x = r := by
  have := rn_b x
  rw [rk_n]
  exact ⟨fun h => nI_inj (by omega) (by omega) h, fun h => by rw [h]⟩
def dgt (x : Int32) : Prop := ¬ x < 48 ∧ ¬ 57 < x
theorem rn_dg {x : Int32} (h : dgt x) : rn x = 0 := by
  unfold rn
  rw [if_neg (fun e => h.2 (by rw [e]; decide)), if_neg (fun e => h.1 (by rw [e]; decide)), if_neg (fun e => h.2 (by rw [e]; decide)), if_neg (fun e => h.2 (by rw [e]; decide)), if_neg (fun e => h.2 (by rw [e]; decide)), if_neg (fun e => h.1 (by rw [e]; decide)), if_neg (fun e => h.1 (by rw [e]; decide)), if_neg (fun e => h.1 (by rw [e]; decide))]
def BAD (b : Nat → Int32) (L : Nat) (S0 : FS) (q : Nat) (S : FS) : Prop := CF S0 q S ∨ (CK S0 S ∧ S.1 105 = nI q ∧ S.1 106 = -1 ∧ q < L ∧ dgt (b q))
theorem bad_nx {q : Nat} (ht : TP b L S0 T0) (h : BAD b L S0 q S) : rn (p_X6_next S) = 0 ∧ p_X6_next S ≠ 41 := by
  rcases h with h | ⟨⟨h1, h2, -⟩, h3, h4, h5, h6⟩
  · rw [nx_f h]; exact ⟨by decide, by decide⟩
  · have e : p_X6_next S = b q := by
      unfold p_X6_next
      rw [h4, if_pos (by decide), h3, h1 24 (by decide) (by decide) (by decide), ht.2.1.1, if_pos (nI_lt h5 (by have := ht.1; omega)), g24_0 (show q < 60 by have := ht.1; omega), h2 25 (by decide), ht.2.1.2 q h5]
    rw [e]
    exact ⟨rn_dg h6, fun z => h6.1 (by rw [z]; decide)⟩
theorem app_b {q : Nat} {x : Int32} (h : BAD b L S0 q S) : ∃ (v : Int32) (S' : FS), fApp 28 60 1 S x = some (v, S') ∧ BAD b L S0 q S' := by
  rcases h with h | ⟨⟨h1, h2, u, h5, h6⟩, h3, h4, h7, h8⟩
  · obtain ⟨v, S', e, h'⟩ := app_f (x := x) h
    exact ⟨v, S', e, Or.inl h'⟩
  · unfold fApp
    rw [h6, iN_nI (by decide) h5, fb_s]
    by_cases c : u = 60
    · rw [if_pos c]; exact ⟨_, _, rfl, Or.inr ⟨⟨h1, h2, u, h5, h6⟩, h3, h4, h7, h8⟩⟩
    · rw [if_neg c]
      exact ⟨_, _, rfl, Or.inr ⟨⟨fun k k1 k2 k3 => (ui_ne k1).trans (h1 k k1 k2 k3), fun a ha => (ua_ne ha).trans (h2 a ha), u + 1, by omega, (show ui S.1 28 (nI (u + 1)) 28 = _ from ui_eq)⟩, (ap_o (k := 105) (by decide)).trans h3, (ap_o (k := 106) (by decide)).trans h4, h7, h8⟩⟩
theorem fail_b {q : Nat} (ht : TP b L S0 T0) (h : BAD b L S0 q S) : ∃ S' : FS, f_X6_fail S = some (0, S') ∧ CF S0 q S' := by
  rcases h with h | ⟨h0, h3, h4, h5, h6⟩
  · exact ⟨_, fail_f h, h⟩
  · unfold f_X6_fail
    rw [h4, if_pos (by decide), fl_s, h3]
    exact ⟨_, rfl, ⟨fun k k1 k2 k3 => (wI_n k3).trans (h0.1 k k1 k2 k3), h0.2.1, h0.2.2⟩, by have := ht.1; omega, wI_e⟩
theorem cls_b {q : Nat} (ht : TP b L S0 T0) (h : BAD b L S0 q S) : ∃ S' : FS, f_X6_readClosing S = some (0, S') ∧ CF S0 q S' := by
  obtain ⟨S', e, h'⟩ := fail_b ht h
  unfold f_X6_readClosing
  rw [if_neg (bad_nx ht h).2, e, fb_s]
  exact ⟨_, rfl, h'⟩
/-! the codes' weight -/
theorem cdH_s {d : Nat → Int32} {u w : Nat} (e : cdH d u = some w) : cdH d (u + 1) = if -20 < d u ∧ d u < 0 then (if d u = -1 then (if 1 ≤ w then some w else none) else if 2 ≤ w then some (w - 1) else none) else if w < 60 then some (w + 1) else none := by
  simp only [cdH, e]
theorem cdH_i {c : Nat → Int32} : ∀ (i k : Nat), cdH c i = some k → k ≤ i ∧ (k = 0 → i = 0)
  | 0, k, h => by
    have h : some 0 = some k := h
    cases h
    exact ⟨Nat.le_refl _, fun _ => rfl⟩
  | i + 1, k, h => by
    cases z : cdH c i with
    | none => simp only [cdH, z] at h; cases h
    | some k' =>
      have := cdH_i i k' z
      rw [cdH_s z] at h
      split at h
      · split at h
        · split at h
          · cases h; exact ⟨by omega, fun e => by omega⟩
          · cases h
        · split at h
          · cases h; exact ⟨by omega, fun e => by omega⟩
          · cases h
      · split at h
        · cases h; exact ⟨by omega, fun e => by omega⟩
        · cases h
theorem cdH_cg {c d : Nat → Int32} (i : Nat) (h : ∀ j : Nat, j < i → c j = d j) : cdH c i = cdH d i := by
  induction i with
  | zero => rfl
  | succ i ih =>
    have e := ih (fun j hj => h j (by omega))
    simp only [cdH]
    rw [e, h i (by omega)]
theorem cdH_n {c d : Nat → Int32} {u w : Nat} (h : cdH c u = some w) (hd : ∀ j : Nat, j < u → d j = c j) (hx : ¬ (-20 < d u ∧ d u < 0)) (hw : w < 60) : cdH d (u + 1) = some (w + 1) := by
  rw [cdH_s ((cdH_cg u hd).trans h), if_neg hx, if_pos hw]
theorem cdH_1 {c d : Nat → Int32} {u w : Nat} (h : cdH c u = some w) (hd : ∀ j : Nat, j < u → d j = c j) (hx : d u = -1) (hw : 1 ≤ w) : cdH d (u + 1) = some w := by
  rw [cdH_s ((cdH_cg u hd).trans h), hx, if_pos (by decide), if_pos rfl, if_pos hw]
theorem cdH_2 {c d : Nat → Int32} {u w : Nat} (h : cdH c u = some w) (hd : ∀ j : Nat, j < u → d j = c j) (hx : -20 < d u ∧ d u < 0) (h1 : d u ≠ -1) (hw : 2 ≤ w) : cdH d (u + 1) = some (w - 1) := by
  rw [cdH_s ((cdH_cg u hd).trans h), if_pos hx, if_neg h1, if_pos hw]
/-! what is so before a part is read, and behind one of a rank -/
def AT (L : Nat) (S0 T0 : FS) (p u w h : Nat) (S T : FS) : Prop := CO S0 p u S ∧ MO T0 p u h T ∧ (u + h ≤ p ∧ p ≤ L ∧ w ≤ h) ∧ (∀ j : Nat, j < u → cdM (S.2 29 j) (T.2 60 j)) ∧ cdH (S.2 29) u = some w
def EN (L : Nat) (S0 T0 : FS) (r q um hm w h : Nat) (f : Nat → Int32) (S T : FS) : Prop := (h ≤ hm ∧ um + hm ≤ q ∧ q ≤ L) ∧ CO S0 q (um + (hm - h)) S ∧ MO T0 q um hm T ∧ (∀ j : Nat, j < um → cdM (S.2 29 j) (T.2 60 j)) ∧ (∀ i : Nat, i < hm - h → cdM (S.2 29 (um + i)) (-100 - T.2 61 (hm - 1 - i))) ∧ cdH (S.2 29) (um + (hm - h)) = some w ∧ (∀ j : Nat, j < h → T.2 61 j = f j) ∧ ∀ j : Nat, h ≤ j → j < hm → r ≤ rn (T.2 61 j) ∧ rn (T.2 61 j) < 5
def tst (T : FS) (h hm : Nat) : Prop := ∃ g : Nat, (h ≤ g ∧ g < hm) ∧ rn (T.2 61 g) = 3 ∧ ∀ j : Nat, g < j → j < hm → 3 < rn (T.2 61 j)
def stp (b : Nat → Int32) (L r q h hm : Nat) (T : FS) : Prop := (r ≤ 4 → rn (bt b L q) ≠ 4) ∧ (r ≤ 3 → rn (bt b L q) = 3 → tst T h hm) ∧ (r ≤ 2 → rn (bt b L q) ≠ 2) ∧ (r ≤ 1 → rn (bt b L q) ≠ 1)
def BO (b : Nat → Int32) (L : Nat) (S0 T0 : FS) (z : Int32) (p : Nat) (T S' : FS) : Prop := ∃ (q n : Nat) (T' : FS), (p ≤ q ∧ q ≤ L ∧ n ≤ q - p + 1) ∧ BAD b L S0 q S' ∧ (∀ m : Nat, l_X12_reads_17 (n + m) T z = some (0, T')) ∧ T'.1 12 = nI q ∧ MK T0 T'
def GO (b : Nat → Int32) (L : Nat) (S0 T0 : FS) (z : Int32) (r p w h : Nat) (f : Nat → Int32) (T S' : FS) : Prop := ∃ (q n um hm : Nat) (T' : FS), (p ≤ q ∧ n ≤ q - p) ∧ (∀ m : Nat, l_X12_reads_17 (n + m) T z = l_X12_reads_17 m T' 0) ∧ EN L S0 T0 r q um hm w h f S' T' ∧ stp b L r q h hm T'
def LV (b : Nat → Int32) (L : Nat) (S0 T0 : FS) (r k : Nat) (Q : FS → Option (Int32 × FS)) : Prop := ∀ (p u w h : Nat) (S T : FS), AT L S0 T0 p u w h S T → (h = 0 ∨ rn (T.2 61 (h - 1)) < r) → om (T.2 61) h = k → ∃ S' : FS, Q S = some (0, S') ∧ (BO b L S0 T0 1 p T S' ∨ GO b L S0 T0 1 r p (w + 1) h (T.2 61) T S')
theorem BO.tr {z z' : Int32} {p p' n : Nat} {T T' S' : FS} (hp : p ≤ p') (hn : n ≤ p' - p) (hm : ∀ m : Nat, l_X12_reads_17 (n + m) T z = l_X12_reads_17 m T' z') (h : BO b L S0 T0 z' p' T' S') : BO b L S0 T0 z p T S' := by
  obtain ⟨q, n', T'', h1, h2, h3, h4⟩ := h
  exact ⟨q, n + n', T'', ⟨by omega, by omega, by omega⟩, h2, fun m => by rw [Nat.add_assoc, hm, h3], h4⟩
theorem GO.tr {z z' : Int32} {r p p' n w h : Nat} {f : Nat → Int32} {T T' S' : FS} (hp : p ≤ p') (hn : n ≤ p' - p) (hm : ∀ m : Nat, l_X12_reads_17 (n + m) T z = l_X12_reads_17 m T' z') (hg : GO b L S0 T0 z' r p' w h f T' S') : GO b L S0 T0 z r p w h f T S' := by
  obtain ⟨q, n', um, hm', T'', h1, h2, h3⟩ := hg
  exact ⟨q, n + n', um, hm', T'', ⟨by omega, by omega⟩, fun m => by rw [Nat.add_assoc, hm, h2], h3⟩
theorem EN.wk {r r' q um hm w h : Nat} {f : Nat → Int32} (hr : r' ≤ r) (he : EN L S0 T0 r q um hm w h f S T) : EN L S0 T0 r' q um hm w h f S T := by
  obtain ⟨h1, h2, h3, h4, h5, h6, h7, h8⟩ := he
  exact ⟨h1, h2, h3, h4, h5, h6, h7, fun j a c => ⟨Nat.le_trans hr (h8 j a c).1, (h8 j a c).2⟩⟩
theorem bt_lt {q : Nat} (h : rn (bt b L q) ≠ 0) : q < L := by
  apply Nat.lt_of_not_le
  intro c
  apply h
  unfold bt
  rw [if_neg (by omega)]
  decide
theorem bt_nn {q : Nat} (ht : TP b L S0 T0) (h : q < L) : ¬ bt b L q < 0 := by
  unfold bt
  rw [if_pos h]
  obtain ⟨c, hc, e⟩ := ht.2.2.2 q h
  rw [e]
  exact nI_pos (by omega)
theorem rn_41 {x : Int32} (h : rn x ≠ 0) : x ≠ 41 ∧ x ≠ 40 := ⟨fun e => h (by rw [e]; decide), fun e => h (by rw [e]; decide)⟩
theorem rn_33 {x : Int32} (h : rn x ≠ 5) : x ≠ 33 := fun e => h (by rw [e]; decide)
theorem om_e {f g : Nat → Int32} : ∀ (h : Nat), (∀ j : Nat, j < h → f j = g j) → om f h = om g h
  | 0, _ => rfl
  | h + 1, q => by
    have e := om_e h (fun j hj => q j (by omega))
    have e1 : om f (h + 1) = om f h + if (f h == 33 || f h == 40) = true then 1 else 0 := rfl
    have e2 : om g (h + 1) = om g h + if (g h == 33 || g h == 40) = true then 1 else 0 := rfl
    rw [e1, e2, e, q h (by omega)]
theorem om_1 {f : Nat → Int32} {h : Nat} (c : f h = 33 ∨ f h = 40) : om f (h + 1) = om f h + 1 := by
  have e1 : om f (h + 1) = om f h + if (f h == 33 || f h == 40) = true then 1 else 0 := rfl
  rw [e1, if_pos (by rcases c with c | c <;> rw [c] <;> decide)]
theorem om_0 {f : Nat → Int32} {h : Nat} (c1 : f h ≠ 33) (c2 : f h ≠ 40) : om f (h + 1) = om f h := by
  have e1 : om f (h + 1) = om f h + if (f h == 33 || f h == 40) = true then 1 else 0 := rfl
  rw [e1, if_neg (by rw [beq_false_of_ne c1, beq_false_of_ne c2]; decide), Nat.add_zero]
/-- a sign of a rank is read -/
theorem opn {r q um hm w h : Nat} {f : Nat → Int32} (ht : TP b L S0 T0) (hr1 : 1 ≤ r) (hr4 : r ≤ 4) (he : EN L S0 T0 r q um hm (w + 1) h f S T) (hw : w ≤ h) (hb : h = 0 ∨ rn (f (h - 1)) < r) (hy : rn (bt b L q) = r) (h3 : r = 3 → ∀ j : Nat, h ≤ j → j < hm → 3 < rn (T.2 61 j)) :
    ∃ T2 : FS, (∀ m : Nat, l_X12_reads_17 (1 + m) T 0 = l_X12_reads_17 m T2 1) ∧ AT L S0 T0 (q + 1) (um + (hm - h)) (w + 1) (h + 1) (wI S 105 (S.1 105 + 1)) T2 ∧ T2.2 61 h = bt b L q ∧ ∀ j : Nat, j < h → T2.2 61 j = f j := by
  obtain ⟨⟨a1, a2, a3⟩, a4, a5, a6, a7, a8, a9, a10⟩ := he
  have hL := ht.1
  have hq : q < L := bt_lt (b := b) (by omega)
  have hbb : h = 0 ∨ rk (T.2 61 (h - 1)) < nI r := by
    by_cases z : h = 0
    · exact Or.inl z
    · right
      rw [rk_lt (by omega), a9 _ (by omega)]
      exact hb.resolve_left z
  obtain ⟨T1, t1, t2, t3, t4, t5⟩ := sdn_o (r := nI r) a5 a1 (by omega) (fun j j1 j2 => by rw [rk_lt (by omega)]; have := (a10 j j1 j2).1; omega) hbb
  obtain ⟨p1, p2, p3⟩ := push_m (x := bt b L q) t2
  refine ⟨_, fun m => ?_, ⟨(adv_o a4).1, p1, ⟨by omega, by omega, by omega⟩, fun j hj => ?_, a8⟩, ?_, fun j hj => ?_⟩
  · have hix : ix 60 (((0 : Int32), T1).2.1 11) = some h := by
      rw [show ((0 : Int32), T1).2.1 11 = nI h from t2.2.2.2]; exact ix_nI (by omega) (by decide)
    have n0 : ¬ nI r = 0 := fun e => by have := nI_inj (b := 0) (by omega) (by decide) e; omega
    have n5 : ¬ nI r = 5 := fun e => by have := nI_inj (b := 5) (by omega) (by decide) e; omega
    rw [Nat.add_comm 1 m, l_X12_reads_17, byt_o ht a5 (by omega), fb_s, if_pos rfl, if_neg (bt_nn ht hq), if_neg (rn_41 (by omega)).1, fv_s, rk_e, rk_n, hy, if_neg n0, if_neg n5]
    by_cases c : r = 3
    · subst c
      have ets : q_X12_isTested T = some 0 := by
        rw [ts_o a5 (by omega) a1 (fun j j1 j2 => rk_gt.mpr (h3 rfl j j1 j2)) (by
          by_cases z : h = 0
          · exact Or.inl z
          · right; rw [rk_gt, a9 _ (by omega)]; have := hb.resolve_left z; omega), if_neg (fun q9 => by
          have z1 := (rk_eq (r := 3) (by omega)).mp q9.2
          rw [a9 _ (by omega)] at z1
          have := hb.resolve_left (by omega); omega)]
      rw [if_pos (by decide), ets, fb_s, if_pos rfl, t1, fb_s]
      rw [hix, fb_s, fl_s, fl_s, fl_s]
      rfl
    · rw [if_neg (show ¬ nI r = 3 from fun e => c (nI_inj (b := 3) (by omega) (by decide) e)), t1, fb_s, hix, fb_s, fl_s, fl_s, fl_s]
      rfl
  · show cdM (S.2 29 j) _
    rw [p3]
    by_cases c : j < um
    · rw [t4 j c]; exact a6 j c
    · have e := t5 (j - um) (by omega)
      have e2 := a7 (j - um) (by omega)
      rw [show um + (j - um) = j by omega] at e e2
      rw [e]; exact e2
  · rw [p2, pk_us]
  · rw [p2, pk_un (by omega), t3]; exact a9 j hj
/-- a sign, what stands behind it, the sign's code -/
theorem step {r k q um hm w h : Nat} {f : Nat → Int32} {Q : FS → Option (Int32 × FS)} {c : Int32} (ht : TP b L S0 T0) (hQ : LV b L S0 T0 (r + 1) k Q) (hr1 : 1 ≤ r) (hr4 : r ≤ 4) (he : EN L S0 T0 r q um hm (w + 1) h f S T) (hw : w ≤ h) (hb : h = 0 ∨ rn (f (h - 1)) < r) (ho : om f h = k) (hy : rn (bt b L q) = r) (h3 : r = 3 → ∀ j : Nat, h ≤ j → j < hm → 3 < rn (T.2 61 j)) (hc : cdM c (-100 - bt b L q)) (hc1 : -20 < c ∧ c < 0) (hc2 : c ≠ -1) :
    ∃ (S1 S2 : FS) (v : Int32), Q (wI S 105 (S.1 105 + 1)) = some (0, S1) ∧ fApp 28 60 1 S1 c = some (v, S2) ∧ (BO b L S0 T0 0 q T S2 ∨ ∃ (q' n um' hm' : Nat) (T' : FS), (q < q' ∧ n ≤ q' - q) ∧ (∀ m : Nat, l_X12_reads_17 (n + m) T 0 = l_X12_reads_17 m T' 0) ∧ EN L S0 T0 r q' um' hm' (w + 1) h f S2 T' ∧ stp b L (r + 1) q' h hm' T' ∧ (r = 3 → tst T' h hm')) := by
  obtain ⟨T2, o1, o2, o3, o4⟩ := opn ht hr1 hr4 he hw hb hy h3
  have hL := ht.1
  have hom : om (T2.2 61) (h + 1) = k := by
    rw [om_0 (by rw [o3]; exact rn_33 (by omega)) (by rw [o3]; exact (rn_41 (by omega)).2), om_e h o4]; exact ho
  obtain ⟨S1, s1, s2⟩ := hQ _ _ _ _ _ _ o2 (Or.inr (by rw [show h + 1 - 1 = h by omega, o3]; omega)) hom
  rcases s2 with s2 | ⟨q', n, um', hm', T', ⟨g1, g2⟩, g3, ⟨⟨a1, a2, a3⟩, a4, a5, a6, a7, a8, a9, a10⟩, g5⟩
  · obtain ⟨q', n, T', ⟨b1, b2, b3⟩, b4, b5⟩ := s2
    obtain ⟨v, S2, v1, v2⟩ := app_b (x := c) b4
    exact ⟨S1, S2, v, s1, v1, Or.inl ⟨q', 1 + n, T', ⟨by omega, b2, by omega⟩, v2, fun m => by rw [Nat.add_assoc, o1, b5.1], b5.2⟩⟩
  · obtain ⟨S2, v1, v2, v3, v4⟩ := app_o (x := c) a4 (by omega)
    refine ⟨S1, S2, _, s1, v1, Or.inr ⟨q', 1 + n, um', hm', T', ⟨by omega, by omega⟩, fun m => by rw [Nat.add_assoc, o1, g3], ⟨⟨by omega, a2, a3⟩, ?_, a5, fun j hj => ?_, fun i hi => ?_, ?_, fun j hj => ?_, fun j j1 j2 => ?_⟩, ⟨fun z => g5.1 z, fun z z2 => ?_, fun z => g5.2.2.1 z, fun z => g5.2.2.2 z⟩, fun z => ?_⟩⟩
    · rw [show um' + (hm' - h) = um' + (hm' - (h + 1)) + 1 by omega]; exact v2
    · rw [v3 j (by omega)]; exact a6 j hj
    · by_cases z : i < hm' - (h + 1)
      · rw [v3 _ (by omega)]; exact a7 i z
      · rw [show um' + i = um' + (hm' - (h + 1)) by omega, v4, show hm' - 1 - i = h by omega, a9 h (by omega), o3]; exact hc
    · rw [show um' + (hm' - h) = um' + (hm' - (h + 1)) + 1 by omega]
      exact cdH_2 a8 v3 (by rw [v4]; exact hc1) (by rw [v4]; exact hc2) (by omega)
    · rw [a9 j (by omega)]; exact o4 j hj
    · by_cases z : j = h
      · subst z; rw [a9 j (by omega), o3]; omega
      · have := a10 j (by omega) j2; omega
    · obtain ⟨g, ⟨t1, t2⟩, t3⟩ := g5.2.1 z z2
      exact ⟨g, ⟨by omega, t2⟩, t3⟩
    · refine ⟨h, ⟨Nat.le_refl _, by omega⟩, by rw [a9 h (by omega), o3]; omega, fun j j1 j2 => ?_⟩
      have := (a10 j (by omega) j2).1; omega
/-- again and again -/
theorem lp {r k w h : Nat} {f : Nat → Int32} {Q : FS → Option (Int32 × FS)} {l : (FS → Int32 → Option (Int32 × FS)) → Nat → FS → Int32 → Option (Int32 × FS)} (ht : TP b L S0 T0) (hQ : LV b L S0 T0 (r + 1) k Q) (hr1 : 1 ≤ r) (hr4 : r ≤ 4) (hr3 : r ≠ 3)
    (l1 : ∀ (m i : Nat) (S : FS) (kk : FS → Int32 → Option (Int32 × FS)), i < 60 → rn (p_X6_next S) ≠ r → l kk (m + 1) S (nI i) = kk S (nI i))
    (l2 : ∀ (m i : Nat) (S : FS) (kk : FS → Int32 → Option (Int32 × FS)), i < 60 → rn (p_X6_next S) = r → ∃ c : Int32, cdM c (-100 - p_X6_next S) ∧ (-20 < c ∧ c < 0) ∧ c ≠ -1 ∧ ∀ (S1 S2 : FS) (v : Int32), Q (wI S 105 (S.1 105 + 1)) = some (0, S1) → fApp 28 60 1 S1 c = some (v, S2) → l kk (m + 1) S (nI i) = l kk m S2 (nI (i + 1)))
    (hb : h = 0 ∨ rn (f (h - 1)) < r) (ho : om f h = k) (hw : w ≤ h) :
    ∀ (m i q um hm : Nat) (S T : FS), i < q → L - q < m → EN L S0 T0 r q um hm (w + 1) h f S T → stp b L (r + 1) q h hm T → ∃ S' : FS, l (fun S9 _ => some (0, S9)) m S (nI i) = some (0, S') ∧ (BO b L S0 T0 0 q T S' ∨ GO b L S0 T0 0 r q (w + 1) h f T S') := by
  have hL := ht.1
  intro m
  induction m with
  | zero => intro i q um hm S T _ h0; exact absurd h0 (Nat.not_lt_zero _)
  | succ m ih =>
    intro i q um hm S T hi hf he hs
    have hn : p_X6_next S = bt b L q := nx_o ht he.2.1 (by have := he.1.2.2; omega)
    have hqL := he.1.2.2
    by_cases c : rn (bt b L q) = r
    · have hq : q < L := bt_lt (b := b) (by omega)
      obtain ⟨cc, c1, c2, c3, c4⟩ := l2 m i S (fun S9 _ => some (0, S9)) (by omega) (by rw [hn]; exact c)
      rw [hn] at c1
      obtain ⟨S1, S2, v, s1, s2, s3⟩ := step ht hQ hr1 hr4 he hw hb ho c (fun z => absurd z hr3) c1 c2 c3
      rw [c4 S1 S2 v s1 s2]
      rcases s3 with s3 | ⟨q', n, um', hm', T', ⟨g1, g2⟩, g3, g4, g5, -⟩
      · obtain ⟨m', rfl⟩ : ∃ m' : Nat, m = m' + 1 := ⟨m - 1, by omega⟩
        have hbad := s3
        obtain ⟨q', n, T', -, b4, -⟩ := hbad
        rw [l1 m' (i + 1) S2 _ (by omega) (by rw [(bad_nx ht b4).1]; omega)]
        exact ⟨S2, rfl, Or.inl s3⟩
      · obtain ⟨S', e1, e2⟩ := ih (i + 1) q' um' hm' S2 T' (by omega) (by omega) g4 g5
        refine ⟨S', e1, ?_⟩
        rcases e2 with e2 | e2
        · exact Or.inl (BO.tr (by omega) g2 g3 e2)
        · exact Or.inr (GO.tr (by omega) g2 g3 e2)
    · rw [l1 m i S _ (by omega) (by rw [hn]; exact c)]
      refine ⟨S, rfl, Or.inr ⟨q, 0, um, hm, T, ⟨Nat.le_refl _, Nat.zero_le _⟩, fun m => by rw [Nat.zero_add], he, fun z => ?_, fun z z2 => ?_, fun z => ?_, fun z => ?_⟩⟩
      · by_cases z4 : r = 4
        · omega
        · exact hs.1 (by omega)
      · exact hs.2.1 (by omega) z2
      · by_cases z4 : r = 2
        · omega
        · exact hs.2.2.1 (by omega)
      · omega
theorem lv_loop {r k : Nat} {Q Q' : FS → Option (Int32 × FS)} {l : (FS → Int32 → Option (Int32 × FS)) → Nat → FS → Int32 → Option (Int32 × FS)} (ht : TP b L S0 T0) (hQ : LV b L S0 T0 (r + 1) k Q) (hr1 : 1 ≤ r) (hr4 : r ≤ 4) (hr3 : r ≠ 3)
    (l1 : ∀ (m i : Nat) (S : FS) (kk : FS → Int32 → Option (Int32 × FS)), i < 60 → rn (p_X6_next S) ≠ r → l kk (m + 1) S (nI i) = kk S (nI i))
    (l2 : ∀ (m i : Nat) (S : FS) (kk : FS → Int32 → Option (Int32 × FS)), i < 60 → rn (p_X6_next S) = r → ∃ c : Int32, cdM c (-100 - p_X6_next S) ∧ (-20 < c ∧ c < 0) ∧ c ≠ -1 ∧ ∀ (S1 S2 : FS) (v : Int32), Q (wI S 105 (S.1 105 + 1)) = some (0, S1) → fApp 28 60 1 S1 c = some (v, S2) → l kk (m + 1) S (nI i) = l kk m S2 (nI (i + 1)))
    (hl : ∀ S : FS, Q' S = fb (Q S) (fun r2 => l (fun S9 _ => some (0, S9)) FU r2.2 0)) : LV b L S0 T0 r k Q' := by
  intro p u w h S T hat hb ho
  have hL := ht.1
  obtain ⟨S1, s1, s2⟩ := hQ p u w h S T hat (hb.imp id (fun z => by omega)) ho
  rw [hl, s1, fb_s]
  show ∃ S' : FS, l (fun S9 _ => some (0, S9)) FU S1 (nI 0) = some (0, S') ∧ _
  rcases s2 with s2 | ⟨q, n, um, hm, T1, ⟨g1, g2⟩, g3, g4, g5⟩
  · have hbad := s2
    obtain ⟨q', n, T', -, b4, -⟩ := hbad
    rw [show FU = 4999 + 1 from rfl, l1 4999 0 S1 _ (by omega) (by rw [(bad_nx ht b4).1]; omega)]
    exact ⟨S1, rfl, Or.inl s2⟩
  · have hq1 : 0 < q := by
      have z := (cdH_i _ _ g4.2.2.2.2.2.1).1
      have z2 := g4.1
      omega
    obtain ⟨S', e1, e2⟩ := lp ht hQ hr1 hr4 hr3 l1 l2 hb ho hat.2.2.1.2.2 FU 0 q um hm S1 T1 hq1 (FU_lt (by omega)) (g4.wk (by omega)) g5
    refine ⟨S', e1, ?_⟩
    rcases e2 with e2 | e2
    · exact Or.inl (BO.tr g1 g2 g3 e2)
    · exact Or.inr (GO.tr g1 g2 g3 e2)
theorem lv_cmp {k : Nat} {Q C : FS → Option (Int32 × FS)} (ht : TP b L S0 T0) (hQ : LV b L S0 T0 4 k Q)
    (c1 : ∀ S S1 : FS, Q S = some (0, S1) → rn (p_X6_next S1) ≠ 3 → C S = some (0, S1))
    (c2 : ∀ S S1 : FS, Q S = some (0, S1) → rn (p_X6_next S1) = 3 → ∃ c : Int32, cdM c (-100 - p_X6_next S1) ∧ (-20 < c ∧ c < 0) ∧ c ≠ -1 ∧ ∀ (S2 S3 : FS) (v : Int32), Q (wI S1 105 (S1.1 105 + 1)) = some (0, S2) → fApp 28 60 1 S2 c = some (v, S3) → C S = some (0, S3)) : LV b L S0 T0 3 k C := by
  intro p u w h S T hat hb ho
  have hL := ht.1
  obtain ⟨S1, s1, s2⟩ := hQ p u w h S T hat (hb.imp id (fun z => by omega)) ho
  rcases s2 with s2 | ⟨q, n, um, hm, T1, ⟨g1, g2⟩, g3, g4, g5⟩
  · have hbad := s2
    obtain ⟨q', n, T', -, b4, -⟩ := hbad
    exact ⟨S1, c1 S S1 s1 (by rw [(bad_nx ht b4).1]; omega), Or.inl s2⟩
  · have hn : p_X6_next S1 = bt b L q := nx_o ht g4.2.1 (by have := g4.1.2.2; omega)
    by_cases c : rn (bt b L q) = 3
    · obtain ⟨cc, d1, d2, d3, d4⟩ := c2 S S1 s1 (by rw [hn]; exact c)
      rw [hn] at d1
      obtain ⟨S2, S3, v, e1, e2, e3⟩ := step (r := 3) ht hQ (by omega) (by omega) (g4.wk (by omega)) hat.2.2.1.2.2 hb ho c (fun _ j j1 j2 => by have := (g4.2.2.2.2.2.2.2 j j1 j2).1; omega) d1 d2 d3
      refine ⟨S3, d4 S2 S3 v e1 e2, ?_⟩
      rcases e3 with e3 | ⟨q', n', um', hm', T', ⟨f1, f2⟩, f3, f4, f5, f6⟩
      · exact Or.inl (BO.tr g1 g2 g3 e3)
      · exact Or.inr (GO.tr g1 g2 g3 ⟨q', n', um', hm', T', ⟨by omega, f2⟩, f3, f4, fun _ => f5.1 (by omega), fun _ _ => f6 rfl, fun z => by omega, fun z => by omega⟩)
    · exact ⟨S1, c1 S S1 s1 (by rw [hn]; exact c), Or.inr ⟨q, n, um, hm, T1, ⟨g1, g2⟩, g3, g4.wk (by omega), fun _ => g5.1 (by omega), fun _ z => absurd z c, fun z => by omega, fun z => by omega⟩⟩
/-- behind a whole text a letter that has no place there -/
theorem tail_b {q um hm w h : Nat} {f : Nat → Int32} (ht : TP b L S0 T0) (he : EN L S0 T0 1 q um hm w h f S T) (hs : stp b L 1 q h hm T) (hx : (bt b L q < 0 ∧ hO (T.2 61) hm) ∨ (q < L ∧ (bt b L q = 41 → ¬ hO (T.2 61) hm))) (m : Nat) : l_X12_reads_17 (1 + m) T 0 = some (0, T) := by
  obtain ⟨⟨a1, a2, a3⟩, -, a5, -⟩ := he
  have hL := ht.1
  have h60 : hm ≤ 60 := by omega
  rw [Nat.add_comm 1 m, l_X12_reads_17, byt_o ht a5 (by omega), fb_s, if_pos rfl]
  rcases hx with ⟨x1, x2⟩ | ⟨x1, x2⟩
  · rw [if_pos x1]
    rcases ho_o a5 h60 with ⟨-, y2⟩ | ⟨y1, -⟩
    · rw [y2, fb_s, if_neg (by decide)]
    · exact absurd x2 y1
  · rw [if_neg (bt_nn ht x1)]
    by_cases c : bt b L q = 41
    · rw [if_pos c]
      rcases ho_o a5 h60 with ⟨y1, -⟩ | ⟨-, y2⟩
      · exact absurd y1 (x2 c)
      · rw [y2, fb_s, if_pos rfl, fv_s, c, rk_e, if_pos (by decide)]
    · rw [if_neg c, fv_s, rk_e, rk_n]
      have hr := rn_b (bt b L q)
      have h4 := hs.1 (by omega)
      have h2 := hs.2.2.1 (by omega)
      have h1 := hs.2.2.2 (by omega)
      by_cases z0 : rn (bt b L q) = 0
      · rw [z0, if_pos (by decide)]
      · by_cases z5 : rn (bt b L q) = 5
        · rw [z5, if_neg (by decide), if_pos (by decide)]
        · have z3 : rn (bt b L q) = 3 := by omega
          obtain ⟨g, ⟨t1, t2⟩, t3, t4⟩ := hs.2.1 (by omega) z3
          have ets : q_X12_isTested T = some 1 := by
            rw [ts_o (g := g + 1) a5 h60 (by omega) (fun j j1 j2 => rk_gt.mpr (t4 j (by omega) j2)) (Or.inr (by rw [show g + 1 - 1 = g by omega, rk_gt]; omega)), if_pos ⟨by omega, (rk_eq (r := 3) (by omega)).mpr (by rw [show g + 1 - 1 = g by omega]; exact t3)⟩]
          rw [z3, if_neg (by decide), if_neg (by decide), if_pos (by decide), ets, fb_s, if_neg (by decide)]
end TXT2
end
section
/-! ===== pure: texts; a part ===== -/
section TXT3
variable {S T S0 T0 : FS} {b : Nat → Int32} {L : Nat}
theorem dg_6 (S : FS) (x : Int32) : (dgt x ∧ ¬ p_X6_isDigit S x = 0) ∨ (¬ dgt x ∧ p_X6_isDigit S x = 0) := by
  unfold p_X6_isDigit dgt
  by_cases c : x < 48
  · right; rw [if_pos c]; exact ⟨fun q => q.1 c, rfl⟩
  · by_cases d : 57 < x
    · right; rw [if_neg c, if_pos d]; exact ⟨fun q => q.2 d, rfl⟩
    · left; rw [if_neg c, if_neg d]; exact ⟨⟨c, d⟩, by decide⟩
theorem dg_12 (S : FS) (x : Int32) : (dgt x ∧ ¬ p_X12_isDigit S x = 0) ∨ (¬ dgt x ∧ p_X12_isDigit S x = 0) := by
  unfold p_X12_isDigit dgt
  by_cases c : x < 48
  · right; rw [if_pos c]; exact ⟨fun q => q.1 c, rfl⟩
  · by_cases d : 57 < x
    · right; rw [if_neg c, if_pos d]; exact ⟨fun q => q.2 d, rfl⟩
    · left; rw [if_neg c, if_neg d]; exact ⟨⟨c, d⟩, by decide⟩
theorem dg6_n {S : FS} {x : Int32} (h : ¬ dgt x) : p_X6_isDigit S x = 0 := (dg_6 S x).elim (fun q => absurd q.1 h) (fun q => q.2)
theorem dg6_y {S : FS} {x : Int32} (h : dgt x) : ¬ p_X6_isDigit S x = 0 := (dg_6 S x).elim (fun q => q.2) (fun q => absurd h q.1)
theorem dg12_n {S : FS} {x : Int32} (h : ¬ dgt x) : p_X12_isDigit S x = 0 := (dg_12 S x).elim (fun q => absurd q.1 h) (fun q => q.2)
theorem dg12_y {S : FS} {x : Int32} (h : dgt x) : ¬ p_X12_isDigit S x = 0 := (dg_12 S x).elim (fun q => q.2) (fun q => absurd h q.1)
theorem dgt_m1 : ¬ dgt (-1) := fun q => q.1 (by decide)
theorem fidx_b {x : Int32} (h : nB 255 x) : fIdx ((x.toUInt32 % 65536).toInt32) = some (nmV x) := by
  obtain ⟨c, hc, rfl⟩ := h
  have key : ∀ c : Nat, c < 256 → ((nI c).toUInt32 % 65536).toInt32 = nI c := by decide +kernel
  rw [key c (by omega)]
  unfold fIdx
  rw [if_neg (fun q => q.elim (nI_pos (by omega)) (nI_nlt (a := 255) (by omega) (by decide)))]
def nmZ : FS := (fun _ => 0, fun _ _ => 0)
theorem nm_c (T : FS) {x : Int32} (h : x = -1 ∨ nB 255 x) : (nmV x = -1 ∧ p_X12_nameOf T x = 0) ∨ ∃ k : Nat, k < 11 ∧ nmV x = nI k ∧ p_X12_nameOf T x = nI (k + 1) := by
  have e : p_X12_nameOf T x = p_X12_nameOf nmZ x := rfl
  rw [e]
  rcases h with rfl | ⟨c, hc, rfl⟩
  · exact Or.inl ⟨by decide, by decide +kernel⟩
  · have key : ∀ c : Nat, c < 256 → (nmV (nI c) = -1 ∧ p_X12_nameOf nmZ (nI c) = 0) ∨ ((nmV (nI c)).toNatClampNeg < 11 ∧ nmV (nI c) = nI (nmV (nI c)).toNatClampNeg ∧ p_X12_nameOf nmZ (nI c) = nI ((nmV (nI c)).toNatClampNeg + 1)) := by decide +kernel
    rcases key c (by omega) with h | h
    · exact Or.inl h
    · exact Or.inr ⟨_, h⟩
theorem nm_dg {x : Int32} (T : FS) (h : nB 255 x) (hd : dgt x) : p_X12_nameOf T x = 0 := by
  have e : p_X12_nameOf T x = p_X12_nameOf nmZ x := rfl
  rw [e]
  obtain ⟨c, hc, rfl⟩ := h
  have key : ∀ c : Nat, c < 58 → p_X12_nameOf nmZ (nI c) = 0 := by decide +kernel
  exact key c (Nat.lt_of_not_le (fun z => hd.2 (nI_lt (a := 57) (by omega) (by omega))))
theorem AT.u60 {p u w h : Nat} (ht : TP b L S0 T0) (hat : AT L S0 T0 p u w h S T) : u < 60 := by
  have z := cdH_i _ _ hat.2.2.2.2
  have z1 := hat.2.2.1
  have z2 := ht.1
  by_cases c : w = 0
  · have := z.2 c; omega
  · omega
theorem bt_c {p : Nat} (ht : TP b L S0 T0) : (bt b L p = -1 ∧ ¬ p < L) ∨ (nB 255 (bt b L p) ∧ p < L ∧ bt b L p = b p) := by
  unfold bt
  by_cases c : p < L
  · right; rw [if_pos c]; exact ⟨ht.2.2.2 p c, c, rfl⟩
  · left; rw [if_neg c]; exact ⟨rfl, c⟩
theorem rd_0 {p u h : Nat} {T' : FS} (ht : TP b L S0 T0) (hm : MO T0 p u h T) (hp : p ≤ 60) (e : f_X12_readsOne T = some (0, T')) (m : Nat) : l_X12_reads_17 (1 + m) T 1 = some (0, T') := by
  rw [Nat.add_comm 1 m, l_X12_reads_17, byt_o ht hm hp, fb_s, if_neg (by decide), e, fb_s]
  exact if_pos rfl
theorem rd_2 {p u h : Nat} {T' : FS} (ht : TP b L S0 T0) (hm : MO T0 p u h T) (hp : p ≤ 60) (e : f_X12_readsOne T = some (2, T')) (m : Nat) : l_X12_reads_17 (1 + m) T 1 = l_X12_reads_17 m T' 1 := by
  rw [Nat.add_comm 1 m, l_X12_reads_17, byt_o ht hm hp, fb_s, if_neg (by decide), e, fb_s]
  exact (if_neg (by decide : ¬ (2 : Int32) = 0)).trans (if_pos rfl)
theorem rd_1 {p u h : Nat} {T1 T' : FS} (ht : TP b L S0 T0) (hm : MO T0 p u h T) (hp : p ≤ 60) (e : f_X12_readsOne T = some (1, T1)) (es : f_X12_settles T1 5 = some (0, T')) (m : Nat) : l_X12_reads_17 (1 + m) T 1 = l_X12_reads_17 m T' 0 := by
  rw [Nat.add_comm 1 m, l_X12_reads_17, byt_o ht hm hp, fb_s, if_neg (by decide), e, fb_s]
  refine (if_neg (by decide : ¬ (1 : Int32) = 0)).trans ((if_neg (by decide : ¬ (1 : Int32) = 2)).trans ?_)
  show fb (f_X12_settles T1 5) (fun r67 => l_X12_reads_17 m r67.2 0) = _
  rw [es, fb_s]
/-- what waits with ! is laid -/
theorem stl {q u hb h0 : Nat} (hm : MO T0 q u h0 T) (h60 : u + h0 ≤ 60) (hh : hb ≤ h0) (h33 : ∀ j : Nat, hb ≤ j → j < h0 → T.2 61 j = 33) (hbb : hb = 0 ∨ rn (T.2 61 (hb - 1)) < 5) : ∃ T' : FS, f_X12_settles T 5 = some (0, T') ∧ MO T0 q (u + (h0 - hb)) hb T' ∧ T'.2 61 = T.2 61 ∧ (∀ j : Nat, j < u → T'.2 60 j = T.2 60 j) ∧ ∀ i : Nat, i < h0 - hb → T'.2 60 (u + i) = -133 := by
  obtain ⟨T', e1, e2, e3, e4, e5⟩ := sdn_o (r := 5) hm hh h60 (fun j j1 j2 => by rw [h33 j j1 j2]; decide) (hbb.imp id (fun z => (rk_lt (r := 5) (by omega)).mpr z))
  refine ⟨T', e1, e2, e3, e4, fun i hi => ?_⟩
  rw [e5 i hi, h33 _ (by omega) (by omega)]
  decide
theorem ro_push {p u h k : Nat} {x : Int32} (ht : TP b L S0 T0) (hm : MO T0 p u h T) (hx : bt b L p = x) (c : x = 33 ∨ x = 40) (hp : p ≤ 60) (hh : h < 60) (ho : om (T.2 61) h = k) (hk : k < 5) : ∃ T2 : FS, f_X12_readsOne T = some (2, T2) ∧ MO T0 (p + 1) u (h + 1) T2 ∧ T2.2 61 = upd (T.2 61) h x ∧ T2.2 60 = T.2 60 := by
  obtain ⟨p1, p2, p3⟩ := push_m (x := x) hm
  have n5 : ¬ nI k = 5 := fun e => by have := nI_inj (b := 5) (by omega) (by decide) e; omega
  refine ⟨_, ?_, p1, p2, p3⟩
  unfold f_X12_readsOne
  rw [byt_o ht hm hp, fb_s, hx]
  rcases c with rfl | rfl
  · rw [if_pos rfl, om_o hm (by omega), fb_s, ho, if_neg n5, hm.2.2.2, ix_nI hh (by decide), fb_s, fl_s, fl_s, fl_s]
    rw [← hm.2.2.2]; rfl
  · rw [if_neg (by decide), if_pos rfl, om_o hm (by omega), fb_s, ho, if_neg n5, hm.2.2.2, ix_nI hh (by decide), fb_s, fl_s, fl_s, fl_s]
    rw [← hm.2.2.2]; rfl
theorem ro_5 {p u h : Nat} {x : Int32} (ht : TP b L S0 T0) (hm : MO T0 p u h T) (hx : bt b L p = x) (c : x = 33 ∨ x = 40) (hp : p ≤ 60) (hh : h ≤ 60) (ho : om (T.2 61) h = 5) : f_X12_readsOne T = some (0, T) := by
  unfold f_X12_readsOne
  rw [byt_o ht hm hp, fb_s, hx]
  rcases c with rfl | rfl
  · rw [if_pos rfl, om_o hm hh, fb_s, ho, if_pos (by decide)]
  · rw [if_neg (by decide), if_pos rfl, om_o hm hh, fb_s, ho, if_pos (by decide)]
theorem ro_name {p u h k : Nat} {x : Int32} (ht : TP b L S0 T0) (hm : MO T0 p u h T) (hx : bt b L p = x) (c1 : x ≠ 33) (c2 : x ≠ 40) (hp : p ≤ 60) (hu : u < 60) (hk : k < 11) (hn : p_X12_nameOf T x = nI (k + 1)) : ∃ T2 : FS, f_X12_readsOne T = some (1, T2) ∧ MO T0 (p + 1) (u + 1) h T2 ∧ T2.2 61 = T.2 61 ∧ (∀ j : Nat, j < u → T2.2 60 j = T.2 60 j) ∧ T2.2 60 u = -1 - nI k := by
  obtain ⟨T1, l1, ⟨⟨l2, l3⟩, l4, l5, l6⟩, l7, l8, l9⟩ := lay_o (x := -nI (k + 1)) hm hu
  have key : ∀ k : Nat, k < 11 → -nI (k + 1) = -1 - nI k := by decide +kernel
  refine ⟨wI T1 12 (T1.1 12 + 1), ?_, ⟨⟨fun a a1 a2 a3 => (wI_n a3).trans (l2 a a1 a2 a3), l3⟩, by rw [wI_e, l4, nI_1], (wI_n (by decide)).trans l5, (wI_n (by decide)).trans l6⟩, l7, l8, l9.trans (key k hk)⟩
  unfold f_X12_readsOne
  rw [byt_o ht hm hp, fb_s, hx, if_neg c1, if_neg c2, hn, if_pos (show (0 : Int32) < nI (k + 1) from nI_lt (a := 0) (by omega) (by omega)), l1, fb_s, fl_s]
theorem ro_bad {p u h : Nat} {x : Int32} (ht : TP b L S0 T0) (hm : MO T0 p u h T) (hx : bt b L p = x) (c1 : x ≠ 33) (c2 : x ≠ 40) (hp : p ≤ 60) (hu : u < 60) (hn : p_X12_nameOf T x = 0) (hd : ¬ dgt x) : ∃ T2 : FS, f_X12_readsOne T = some (0, T2) ∧ T2.1 12 = nI p ∧ MK T0 T2 := by
  obtain ⟨T1, l1, ⟨l2, l4, -⟩, -⟩ := lay_o (x := 0) hm hu
  refine ⟨T1, ?_, l4, l2⟩
  unfold f_X12_readsOne
  rw [byt_o ht hm hp, fb_s, hx, if_neg c1, if_neg c2, hn, if_neg (by decide), fv_s, show FU = 4999 + 1 from rfl, l_X12_readsOne_98, byt_o ht hm hp, fb_s, hx, dg12_n hd, if_pos rfl, l1, fb_s]
  show (if T.1 12 < T1.1 12 then _ else some (0, T1)) = _
  rw [l4, hm.2.1, if_neg (nI_nlt (Nat.le_refl _) (by omega))]
theorem num_l {p u h : Nat} (ht : TP b L S0 T0) : ∀ (d i v : Nat) (S T : FS), i + d = 4 → v < 10 ^ i → CO S0 (p + i) u S → MO T0 (p + i) u h T → p + i ≤ L → ∃ (j V : Nat) (S' T' : FS), (i ≤ j ∧ j ≤ 4 ∧ p + j ≤ L ∧ V < 10000) ∧ (j = 4 ∨ ¬ dgt (bt b L (p + j))) ∧ (CO S0 (p + j) u S' ∧ S'.2 = S.2) ∧ (MO T0 (p + j) u h T' ∧ T'.2 = T.2) ∧ (∀ (k : FS → Int32 → Int32 → Option (Int32 × FS)) (m : Nat), d < m → l_X6_readNumber_4 k m S (nI v) (nI i) = k S' (nI V) (nI j)) ∧ ∀ (k : FS → Int32 → Option (Int32 × FS)) (m : Nat), d < m → l_X12_readsOne_98 (nI p) k m T (nI v) = k T' (nI V) := by
  have hL := ht.1
  intro d
  induction d with
  | zero =>
    intro i v S T hi hv hS hT hp
    obtain rfl : i = 4 := by omega
    refine ⟨4, v, S, T, ⟨Nat.le_refl _, Nat.le_refl _, hp, hv⟩, Or.inl rfl, ⟨hS, rfl⟩, ⟨hT, rfl⟩, fun k m hm => ?_, fun k m hm => ?_⟩
    · obtain ⟨m, rfl⟩ : ∃ m' : Nat, m = m' + 1 := ⟨m - 1, by omega⟩
      rw [l_X6_readNumber_4, if_neg (by decide)]
    · obtain ⟨m, rfl⟩ : ∃ m' : Nat, m = m' + 1 := ⟨m - 1, by omega⟩
      rw [l_X12_readsOne_98, byt_o ht hT (by omega), fb_s]
      rcases dg_12 T (bt b L (p + 4)) with ⟨-, e⟩ | ⟨-, e⟩
      · rw [if_neg e, hT.2.1, pk_sub (by omega), show p + 4 - p = 4 by omega, if_neg (by decide)]
      · rw [if_pos e]
  | succ d ih =>
    intro i v S T hi hv hS hT hp
    have h10 : 10 ^ i ≤ 10 ^ 3 := Nat.pow_le_pow_right (by omega) (by omega)
    by_cases dg : dgt (bt b L (p + i))
    · rcases bt_c (p := p + i) ht with ⟨z, -⟩ | ⟨⟨c, hc, z⟩, z2, -⟩
      · rw [z] at dg; exact absurd dg dgt_m1
      · rw [z] at dg
        have c1 : 48 ≤ c := Nat.le_of_not_lt (fun q => dg.1 (nI_lt (b := 48) q (by decide)))
        have c2 : c ≤ 57 := Nat.le_of_not_lt (fun q => dg.2 (nI_lt (a := 57) q (by omega)))
        have hn : p_X6_next S = nI c := (nx_o ht hS (by omega)).trans z
        have ev : (nI v * 10 + nI c) - 48 = nI (v * 10 + (c - 48)) := by
          rw [show (10 : Int32) = nI 10 from rfl, show (48 : Int32) = nI 48 from rfl, pk_mul, nI_add, pk_sub (by omega)]; exact congrArg nI (by omega)
        have ev2 : (10 * nI v + nI c) - 48 = nI (v * 10 + (c - 48)) := by
          rw [show (10 : Int32) = nI 10 from rfl, show (48 : Int32) = nI 48 from rfl, pk_mul, nI_add, pk_sub (by omega)]; exact congrArg nI (by omega)
        have hT2 : MO T0 (p + (i + 1)) u h (wI T 12 (T.1 12 + 1)) := ⟨⟨fun a a1 a2 a3 => (wI_n a3).trans (hT.1.1 a a1 a2 a3), hT.1.2⟩, by rw [wI_e, hT.2.1, nI_1, Nat.add_assoc], (wI_n (by decide)).trans hT.2.2.1, (wI_n (by decide)).trans hT.2.2.2⟩
        have hpw : 10 ^ (i + 1) = 10 ^ i * 10 := Nat.pow_succ ..
        obtain ⟨j, V, S', T', a1, a2, a3, a4, a5, a6⟩ := ih (i + 1) (v * 10 + (c - 48)) (wI S 105 (S.1 105 + 1)) (wI T 12 (T.1 12 + 1)) (by omega) (by omega) (adv_o hS).1 hT2 (by omega)
        refine ⟨j, V, S', T', ⟨by omega, a1.2⟩, a2, a3, a4, fun k m hm => ?_, fun k m hm => ?_⟩
        · obtain ⟨m, rfl⟩ : ∃ m' : Nat, m = m' + 1 := ⟨m - 1, by omega⟩
          rw [l_X6_readNumber_4, if_pos (show nI i < 4 from nI_lt (b := 4) (show i < 4 by omega) (by decide)), hn, if_neg (dg6_y dg), fv_s, fl_s, ev, nI_1]
          exact a5 k m (by omega)
        · obtain ⟨m, rfl⟩ : ∃ m' : Nat, m = m' + 1 := ⟨m - 1, by omega⟩
          have q1 : (T.1 12) - nI p < 4 := by rw [hT.2.1, pk_sub (by omega)]; exact nI_lt (b := 4) (show p + i - p < 4 by omega) (by decide)
          rw [l_X12_readsOne_98, byt_o ht hT (by omega), fb_s, z, if_neg (dg12_y dg), if_pos q1, fb_s, fv_s, fl_s, ev2]
          exact a6 k m (by omega)
    · refine ⟨i, v, S, T, ⟨Nat.le_refl _, by omega, hp, by omega⟩, Or.inr dg, ⟨hS, rfl⟩, ⟨hT, rfl⟩, fun k m hm => ?_, fun k m hm => ?_⟩
      · obtain ⟨m, rfl⟩ : ∃ m' : Nat, m = m' + 1 := ⟨m - 1, by omega⟩
        rw [l_X6_readNumber_4, if_pos (show nI i < 4 from nI_lt (b := 4) (show i < 4 by omega) (by decide)), nx_o ht hS (by omega), dg6_n dg, if_pos rfl]
      · obtain ⟨m, rfl⟩ : ∃ m' : Nat, m = m' + 1 := ⟨m - 1, by omega⟩
        rw [l_X12_readsOne_98, byt_o ht hT (by omega), fb_s, dg12_n dg, if_pos rfl]
def PG (b : Nat → Int32) (L : Nat) (S0 T0 : FS) (p w hb h0 : Nat) (f : Nat → Int32) (T S' : FS) : Prop := ∃ (q n u' : Nat) (T' : FS), (p ≤ q ∧ n ≤ q - p ∧ q ≤ L ∧ u' + h0 ≤ q) ∧ (∀ m : Nat, l_X12_reads_17 (n + m) T 1 = l_X12_reads_17 m T' 0) ∧ CO S0 q u' S' ∧ MO T0 q (u' + (h0 - hb)) hb T' ∧ (∀ j : Nat, j < u' → cdM (S'.2 29 j) (T'.2 60 j)) ∧ (∀ i : Nat, i < h0 - hb → T'.2 60 (u' + i) = -133) ∧ cdH (S'.2 29) u' = some w ∧ ∀ j : Nat, j < hb → T'.2 61 j = f j
def PO (b : Nat → Int32) (L : Nat) (S0 T0 : FS) (k : Nat) (P : FS → Option (Int32 × FS)) : Prop := ∀ (p u w hb h0 : Nat) (S T : FS), AT L S0 T0 p u w h0 S T → hb ≤ h0 → (∀ j : Nat, hb ≤ j → j < h0 → T.2 61 j = 33) → (hb = 0 ∨ rn (T.2 61 (hb - 1)) < 5) → om (T.2 61) h0 = k → ∃ S' : FS, P S = some (0, S') ∧ (BO b L S0 T0 1 p T S' ∨ PG b L S0 T0 p (w + 1) hb h0 (T.2 61) T S')
theorem lv_part {k : Nat} {P : FS → Option (Int32 × FS)} (hP : PO b L S0 T0 k P) : LV b L S0 T0 5 k P := by
  intro p u w h S T hat hb ho
  obtain ⟨S', e, r⟩ := hP p u w h h S T hat (Nat.le_refl _) (fun j j1 j2 => by omega) hb ho
  refine ⟨S', e, r.imp id ?_⟩
  rintro ⟨q, n, u', T', ⟨g1, g2, g3, g4⟩, g5, g6, g7, g8, g9, g10, g11⟩
  rw [Nat.sub_self, Nat.add_zero] at g7
  exact ⟨q, n, u', h, T', ⟨g1, g2⟩, g5, ⟨⟨Nat.le_refl _, g4, g3⟩, by rw [Nat.sub_self, Nat.add_zero]; exact g6, g7, g8, fun i hi => by omega, by rw [Nat.sub_self, Nat.add_zero]; exact g10, g11, fun j j1 j2 => by omega⟩, fun z => by omega, fun z => by omega, fun z => by omega, fun z => by omega⟩
/-- what a part does with a letter that is neither ! nor ( -/
def PA (P : FS → Option (Int32 × FS)) : Prop := (∀ (S : FS) (x : Int32), p_X6_next S = x → (x = -1 ∨ (nB 255 x ∧ nmV x < 0)) → ¬ dgt x → x ≠ 33 → x ≠ 40 → P S = fb (f_X6_fail S) (fun r => some (0, r.2))) ∧
  (∀ (S : FS) (x : Int32), p_X6_next S = x → nB 255 x → dgt x → P S = fb (f_X6_readNumber S) (fun r => some (0, r.2))) ∧
  (∀ (S : FS) (x : Int32), p_X6_next S = x → nB 255 x → ¬ dgt x → ¬ nmV x < 0 → P S = fb (fApp 28 60 1 (wI S 105 (S.1 105 + 1)) (-20 - nmV x)) (fun r => some (0, r.2)))
theorem BO.one {p : Nat} {S' T1 : FS} (hp : p ≤ L) (hS : BAD b L S0 p S') (e : ∀ m : Nat, l_X12_reads_17 (1 + m) T 1 = some (0, T1)) (h12 : T1.1 12 = nI p) (hk : MK T0 T1) : BO b L S0 T0 1 p T S' := ⟨p, 1, T1, ⟨Nat.le_refl _, hp, by omega⟩, hS, e, h12, hk⟩
theorem part_c {P : FS → Option (Int32 × FS)} {p u w hb h0 : Nat} (ht : TP b L S0 T0) (hP : PA P) (hat : AT L S0 T0 p u w h0 S T) (hh : hb ≤ h0) (h33 : ∀ j : Nat, hb ≤ j → j < h0 → T.2 61 j = 33) (hbb : hb = 0 ∨ rn (T.2 61 (hb - 1)) < 5) (c1 : bt b L p ≠ 33) (c2 : bt b L p ≠ 40) : ∃ S' : FS, P S = some (0, S') ∧ (BO b L S0 T0 1 p T S' ∨ PG b L S0 T0 p (w + 1) hb h0 (T.2 61) T S') := by
  have hL := ht.1
  have hu := hat.u60 ht
  obtain ⟨hS, hM, ⟨b1, b2, b3⟩, hcd, hH⟩ := hat
  have hwu := (cdH_i _ _ hH).1
  have hn := nx_o ht hS (by omega)
  have h9 : bt b L p = -1 ∨ nB 255 (bt b L p) := (bt_c ht).imp (fun q => q.1) (fun q => q.1)
  by_cases dg : dgt (bt b L p)
  · have hB : nB 255 (bt b L p) := h9.resolve_left (fun e => dgt_m1 (e ▸ dg))
    obtain ⟨j, V, S1, T1, ⟨j1, j2, j3, j4⟩, j5, ⟨j6, j7⟩, ⟨j8, j9⟩, j10, j11⟩ := num_l (p := p) ht 4 0 0 S T rfl (by decide) hS hM (by omega)
    have jp : 1 ≤ j := by
      apply Nat.le_of_not_lt
      intro z
      obtain rfl : j = 0 := by omega
      exact (j5.resolve_left (by omega)) dg
    obtain ⟨S2, v1, v2, v3, v4⟩ := app_o (x := nI V) j6 hu
    obtain ⟨T2, l1, l2, l3, l4, l5⟩ := lay_o (x := nI V) j8 hu
    have ec : P S = some (0, S2) := by
      rw [hP.2.1 S _ hn hB dg]
      unfold f_X6_readNumber
      have := j10 (fun S6 x6_1 x6_2 => fb (fApp 28 60 1 S6 x6_1) (fun r8 => some (0, r8.2))) FU (FU_lt (by omega))
      rw [show l_X6_readNumber_4 (fun S6 x6_1 x6_2 => fb (fApp 28 60 1 S6 x6_1) (fun r8 => some (0, r8.2))) FU S 0 0 = _ from this, v1, fb_s, fb_s]
    have em : f_X12_readsOne T = if p_X12_isDigit T2 (bt b L (p + j)) = 0 then some (1, T2) else some (0, T2) := by
      unfold f_X12_readsOne
      rw [byt_o ht hM (by omega), fb_s, if_neg c1, if_neg c2, nm_dg T hB dg, if_neg (by decide), fv_s, hM.2.1]
      refine (j11 _ FU (FU_lt (by omega))).trans ?_
      show fb (f_X12_lays T1 (nI V)) _ = _
      rw [l1, fb_s]
      show (if nI p < T2.1 12 then fb (q_X12_byteAt T2 (T2.1 12)) (fun x28 => if p_X12_isDigit T2 x28 = 0 then some (1, T2) else some (0, T2)) else some (0, T2)) = _
      rw [byt_o ht l2 (by omega), fb_s, l2.2.1, if_pos (nI_lt (by omega) (by omega))]
    refine ⟨S2, ec, ?_⟩
    rcases dg_12 T2 (bt b L (p + j)) with ⟨d1, d2⟩ | ⟨d1, d2⟩
    · rw [if_neg d2] at em
      rcases bt_c (p := p + j) ht with ⟨z, -⟩ | ⟨-, z2, z3⟩
      · rw [z] at d1; exact absurd d1 dgt_m1
      · rw [z3] at d1
        exact Or.inl ⟨p + j, 1, T2, ⟨by omega, by omega, by omega⟩, Or.inr ⟨v2.1, v2.2.1, v2.2.2.1, z2, d1⟩, rd_0 ht hM (by omega) em, l2.2.1, l2.1⟩
    · rw [if_pos d2] at em
      have e61 : T2.2 61 = T.2 61 := l3.trans (by rw [j9])
      obtain ⟨T3, s1, s2, s3, s4, s5⟩ := stl (hb := hb) l2 (by omega) hh (fun i i1 i2 => by rw [e61]; exact h33 i i1 i2) (by rw [e61]; exact hbb)
      refine Or.inr ⟨p + j, 1, u + 1, T3, ⟨by omega, by omega, by omega, by omega⟩, rd_1 ht hM (by omega) em s1, v2, s2, fun i hi => ?_, s5, ?_, fun i hi => by rw [s3, e61]⟩
      · rw [s4 i hi]
        by_cases z : i = u
        · subst z; rw [v4, l5]; exact Or.inl ⟨nI_pos (by omega), rfl⟩
        · rw [v3 i (by omega), l4 i (by omega), j7, j9]; exact hcd i (by omega)
      · refine cdH_n hH (fun i hi => by rw [v3 i hi, j7]) ?_ (by omega)
        rw [v4]; exact fun q => nI_pos (by omega) q.2
  · rcases nm_c T h9 with ⟨n1, n2⟩ | ⟨k, hk, n1, n2⟩
    · obtain ⟨S1, f1, f2⟩ := fail_o hS (by omega)
      obtain ⟨T1, t1, t2, t3⟩ := ro_bad ht hM rfl c1 c2 (by omega) hu n2 dg
      refine ⟨S1, ?_, Or.inl (BO.one b2 (Or.inl f2) (rd_0 ht hM (by omega) t1) t2 t3)⟩
      rw [hP.1 S _ hn (h9.imp id (fun q => ⟨q, by rw [n1]; decide⟩)) dg c1 c2, f1, fb_s]
    · have hB : nB 255 (bt b L p) := h9.resolve_left (fun e => by
        rw [e] at n1
        exact nI_pos (by omega) (n1 ▸ (by decide : nmV (-1) < 0)))
      have hpL : p < L := by
        rcases bt_c (p := p) ht with ⟨z, -⟩ | ⟨-, z, -⟩
        · rw [z] at n1; exact absurd (n1 ▸ (by decide : nmV (-1) < 0)) (nI_pos (by omega))
        · exact z
      obtain ⟨S2, v1, v2, v3, v4⟩ := app_o (x := -20 - nI k) (adv_o hS).1 hu
      obtain ⟨T2, t1, t2, t3, t4, t5⟩ := ro_name ht hM rfl c1 c2 (by omega) hu hk n2
      obtain ⟨T3, s1, s2, s3, s4, s5⟩ := stl (hb := hb) t2 (by omega) hh (fun i i1 i2 => by rw [t3]; exact h33 i i1 i2) (by rw [t3]; exact hbb)
      refine ⟨S2, ?_, Or.inr ⟨p + 1, 1, u + 1, T3, ⟨by omega, by omega, by omega, by omega⟩, rd_1 ht hM (by omega) t1 s1, v2, s2, fun i hi => ?_, s5, ?_, fun i hi => by rw [s3, t3]⟩⟩
      · rw [hP.2.2 S _ hn hB dg (by rw [n1]; exact nI_pos (by omega)), n1, v1, fb_s]
      · rw [s4 i hi]
        by_cases z : i = u
        · subst z; rw [v4, t5]; exact Or.inr (Or.inl ⟨k, hk, rfl, rfl⟩)
        · rw [v3 i (by omega), t4 i (by omega)]; exact hcd i (by omega)
      · refine cdH_n hH (fun i hi => v3 i hi) ?_ (by omega)
        rw [v4]
        have key : ∀ k : Nat, k < 11 → ¬ (-20 < -20 - nI k ∧ -20 - nI k < 0) := by decide +kernel
        exact key k hk
theorem part_5 {P : FS → Option (Int32 × FS)} (ht : TP b L S0 T0) (hP : PA P) (hF : ∀ S : FS, p_X6_next S = 33 ∨ p_X6_next S = 40 → P S = fb (f_X6_fail S) (fun r => some (0, r.2))) : PO b L S0 T0 5 P := by
  intro p u w hb h0 S T hat hh h33 hbb ho
  by_cases c : bt b L p = 33 ∨ bt b L p = 40
  · have hL := ht.1
    obtain ⟨hS, hM, ⟨b1, b2, b3⟩, -⟩ := hat
    obtain ⟨S1, f1, f2⟩ := fail_o hS (by omega)
    refine ⟨S1, ?_, Or.inl (BO.one b2 (Or.inl f2) (rd_0 ht hM (by omega) (ro_5 ht hM rfl c (by omega) (by omega) ho)) hM.2.1 hM.1)⟩
    rw [hF S (by rw [nx_o ht hS (by omega)]; exact c), f1, fb_s]
  · exact part_c ht hP hat hh h33 hbb (fun z => c (Or.inl z)) (fun z => c (Or.inr z))
theorem part_k {k : Nat} {P P' X' : FS → Option (Int32 × FS)} (ht : TP b L S0 T0) (hk : k < 5) (hP : PA P) (hP' : PO b L S0 T0 (k + 1) P') (hX' : LV b L S0 T0 1 (k + 1) X')
    (hx : ∀ S : FS, p_X6_next S = 33 → P S = fb (P' (wI S 105 (S.1 105 + 1))) (fun r => fb (fApp 28 60 1 r.2 (-1)) (fun r => some (0, r.2))))
    (hy : ∀ S : FS, p_X6_next S = 40 → P S = fb (X' (wI S 105 (S.1 105 + 1))) (fun r => fb (f_X6_readClosing r.2) (fun r => some (0, r.2)))) : PO b L S0 T0 k P := by
  intro p u w hb h0 S T hat hh h33 hbb ho
  have hL := ht.1
  by_cases c : bt b L p = 33 ∨ bt b L p = 40
  · have hpL : p < L := by
      rcases bt_c (p := p) ht with ⟨z, -⟩ | ⟨-, z, -⟩
      · rw [z] at c; exact absurd c (by decide)
      · exact z
    obtain ⟨hS, hM, ⟨b1, b2, b3⟩, hcd, hH⟩ := hat
    have hn := nx_o ht hS (by omega)
    obtain ⟨T2, t1, t2, t3, t4⟩ := ro_push ht hM rfl c (by omega) (by omega) ho hk
    have ea := adv_o hS
    have hat2 : AT L S0 T0 (p + 1) u w (h0 + 1) (wI S 105 (S.1 105 + 1)) T2 := ⟨ea.1, t2, ⟨by omega, by omega, by omega⟩, fun j hj => by rw [ea.2, t4]; exact hcd j hj, by rw [ea.2]; exact hH⟩
    have e0 : T2.2 61 h0 = bt b L p := by rw [t3, pk_us]
    have eo : ∀ j : Nat, j < h0 → T2.2 61 j = T.2 61 j := fun j hj => by rw [t3, pk_un (by omega)]
    have ho2 : om (T2.2 61) (h0 + 1) = k + 1 := by rw [om_1 (by rw [e0]; exact c), om_e h0 eo, ho]
    have m1 := fun m => rd_2 ht hM (by omega) t1 m
    rcases c with c | c
    · rw [c] at e0
      obtain ⟨S1, s1, s2⟩ := hP' (p + 1) u w hb (h0 + 1) _ T2 hat2 (by omega) (fun j j1 j2 => by
        by_cases z : j = h0
        · subst z; exact e0
        · rw [eo j (by omega)]; exact h33 j j1 (by omega)) (by
        by_cases y : hb = 0
        · exact Or.inl y
        · right; rw [eo _ (by omega)]; exact hbb.resolve_left y) ho2
      rw [hx S (by rw [hn]; exact c), s1, fb_s]
      rcases s2 with s2 | ⟨q, n, u', T', ⟨g1, g2, g3, g4⟩, g5, g6, g7, g8, g9, g10, g11⟩
      · obtain ⟨q, n, T', ⟨b1, b2, b3⟩, b4, b5, b6⟩ := s2
        obtain ⟨v, S2, v1, v2⟩ := app_b (x := -1) b4
        exact ⟨S2, by show fb (fApp 28 60 1 S1 (-1)) _ = _; rw [v1, fb_s], Or.inl ⟨q, 1 + n, T', ⟨by omega, b2, by omega⟩, v2, fun m => by rw [Nat.add_assoc, m1, b5], b6⟩⟩
      · obtain ⟨S2, v1, v2, v3, v4⟩ := app_o (x := -1) g6 (by omega)
        refine ⟨S2, by show fb (fApp 28 60 1 S1 (-1)) _ = _; rw [v1, fb_s], Or.inr ⟨q, 1 + n, u' + 1, T', ⟨by omega, by omega, g3, by omega⟩, fun m => by rw [Nat.add_assoc, m1, g5], v2, by rw [show u' + 1 + (h0 - hb) = u' + (h0 + 1 - hb) by omega]; exact g7, fun j hj => ?_, fun i hi => ?_, cdH_1 g10 v3 v4 (by omega), fun j hj => by rw [g11 j hj, eo j (by omega)]⟩⟩
        · by_cases z : j = u'
          · subst z
            have := g9 0 (by omega)
            rw [Nat.add_zero] at this
            rw [v4, this]; exact Or.inr (Or.inr (Or.inl ⟨rfl, rfl⟩))
          · rw [v3 j (by omega)]; exact g8 j (by omega)
        · have := g9 (i + 1) (by omega)
          rw [show u' + 1 + i = u' + (i + 1) by omega]; exact this
    · rw [c] at e0
      obtain ⟨S1, s1, s2⟩ := hX' (p + 1) u w (h0 + 1) _ T2 hat2 (Or.inr (by rw [show h0 + 1 - 1 = h0 by omega, e0]; decide)) ho2
      rw [hy S (by rw [hn]; exact c), s1, fb_s]
      rcases s2 with s2 | ⟨q, n, um, hm, T1, ⟨g1, g2⟩, g3, g4, g5⟩
      · obtain ⟨q, n, T', ⟨b1, b2, b3⟩, b4, b5, b6⟩ := s2
        obtain ⟨S2, v1, v2⟩ := cls_b ht b4
        exact ⟨S2, by show fb (f_X6_readClosing S1) _ = _; rw [v1, fb_s], Or.inl ⟨q, 1 + n, T', ⟨by omega, b2, by omega⟩, Or.inl v2, fun m => by rw [Nat.add_assoc, m1, b5], b6⟩⟩
      · have g4' := g4
        obtain ⟨⟨a1, a2, a3⟩, a4, a5, a6, a7, a8, a9, a10⟩ := g4
        have e40 : T1.2 61 h0 = 40 := (a9 h0 (by omega)).trans e0
        have hO1 : hO (T1.2 61) hm := ⟨h0, by omega, e40⟩
        have hn1 := nx_o ht a4 (by omega)
        have m2 : ∀ m : Nat, l_X12_reads_17 (1 + n + m) T 1 = l_X12_reads_17 m T1 0 := fun m => by rw [Nat.add_assoc, m1, g3]
        by_cases d : bt b L q = 41
        · have hqL : q < L := by
            rcases bt_c (p := q) ht with ⟨z, -⟩ | ⟨-, z, -⟩
            · rw [z] at d; exact absurd d (by decide)
            · exact z
          obtain ⟨T3, t31, t32, t33, t34, t35⟩ := sdn_o (r := 1) (h := h0 + 1) a5 a1 (by omega) (fun j j1 j2 => by
            have := (a10 j j1 j2).1
            rw [show (1 : Int32) = nI 1 from rfl, rk_lt (by omega)]; omega) (Or.inr (by rw [show h0 + 1 - 1 = h0 by omega, e40]; decide))
          have hT4 : MO T0 (q + 1) (um + (hm - (h0 + 1))) h0 (wI (wI T3 11 (T3.1 11 - 1)) 12 ((wI T3 11 (T3.1 11 - 1)).1 12 + 1)) := by
            refine ⟨⟨fun k k1 k2 k3 => ?_, t32.1.2⟩, ?_, ?_, ?_⟩
            · rw [wI_n k3, wI_n k2]; exact t32.1.1 k k1 k2 k3
            · rw [wI_e, wI_n (by decide), t32.2.1, nI_1]
            · rw [wI_n (by decide), wI_n (by decide)]; exact t32.2.2.1
            · rw [wI_n (by decide), wI_e, t32.2.2.2, nI_pred]
          have e61 : ∀ j : Nat, j < h0 → (wI (wI T3 11 (T3.1 11 - 1)) 12 ((wI T3 11 (T3.1 11 - 1)).1 12 + 1)).2 61 j = T.2 61 j := fun j hj => by
            show T3.2 61 j = _
            rw [t33, a9 j (by omega)]; exact eo j hj
          obtain ⟨T5, y1, y2, y3, y4, y5⟩ := stl (hb := hb) hT4 (by omega) hh (fun j j1 j2 => by rw [e61 j j2]; exact h33 j j1 j2) (by
            by_cases z : hb = 0
            · exact Or.inl z
            · right; rw [e61 _ (by omega)]; exact hbb.resolve_left z)
          have ea1 := adv_o a4
          refine ⟨wI S1 105 (S1.1 105 + 1), ?_, Or.inr ⟨q + 1, 1 + n + 1, um + (hm - (h0 + 1)), T5, ⟨by omega, by omega, by omega, by omega⟩, fun m => ?_, ea1.1, y2, fun j hj => ?_, y5, by rw [ea1.2]; exact a8, fun j hj => by rw [y3, e61 j (by omega)]⟩⟩
          · show fb (f_X6_readClosing S1) _ = _
            unfold f_X6_readClosing
            rw [hn1, if_pos d, fl_s, fb_s]
          · rw [Nat.add_assoc (1 + n), m2, Nat.add_comm 1 m, l_X12_reads_17, byt_o ht a5 (by omega), fb_s, if_pos rfl, if_neg (bt_nn ht hqL), if_pos d]
            rcases ho_o a5 (by omega) with ⟨-, z2⟩ | ⟨z1, -⟩
            · rw [z2, fb_s, if_neg (by decide), t31, fb_s, fl_s, fl_s, y1, fb_s]
            · exact absurd hO1 z1
          · rw [ea1.2, y4 j hj]
            show cdM _ (T3.2 60 j)
            by_cases z : j < um
            · rw [t34 j z]; exact a6 j z
            · have e := t35 (j - um) (by omega)
              have e2 := a7 (j - um) (by omega)
              rw [show um + (j - um) = j by omega] at e e2
              rw [e]; exact e2
        · obtain ⟨S2, v1, v2⟩ := fail_o a4 (by omega)
          refine ⟨S2, ?_, Or.inl ⟨q, 1 + n + 1, T1, ⟨by omega, a3, by omega⟩, Or.inl v2, fun m => ?_, a5.2.1, a5.1⟩⟩
          · show fb (f_X6_readClosing S1) _ = _
            unfold f_X6_readClosing
            rw [hn1, if_neg d, v1, fb_s, fb_s]
          · rw [Nat.add_assoc (1 + n), m2]
            refine tail_b ht g4' g5 ?_ m
            rcases bt_c (p := q) ht with ⟨z, -⟩ | ⟨-, z, -⟩
            · left; exact ⟨by rw [z]; decide, hO1⟩
            · right; exact ⟨z, fun z2 => absurd z2 d⟩
  · exact part_c ht hP hat hh h33 hbb (fun z => c (Or.inl z)) (fun z => c (Or.inr z))
end TXT3
end
section
/-! ===== pure: texts; the class's levels ===== -/
theorem nB_nn {x : Int32} (h : nB 255 x) : ¬ x < 0 := by
  obtain ⟨c, hc, rfl⟩ := h
  exact nI_pos (by omega)
theorem rn_4 {x : Int32} (h : rn x = 4) : x = 43 ∨ x = 45 := by
  unfold rn at h
  repeat' split at h
  all_goals first | (exact Or.inl (by assumption)) | (exact Or.inr (by assumption)) | (exact absurd h (by decide))
theorem rn_3 {x : Int32} (h : rn x = 3) : x = 60 ∨ x = 61 ∨ x = 62 := by
  unfold rn at h
  repeat' split at h
  all_goals first | (exact Or.inl (by assumption)) | (exact Or.inr (Or.inl (by assumption))) | (exact Or.inr (Or.inr (by assumption))) | (exact absurd h (by decide))
theorem rn_2 {x : Int32} (h : rn x = 2) : x = 38 := by
  unfold rn at h
  repeat' split at h
  all_goals first | (exact absurd h (by decide)) | assumption
theorem rn_1 {x : Int32} (h : rn x = 1) : x = 124 := by
  unfold rn at h
  repeat' split at h
  all_goals first | (exact absurd h (by decide)) | assumption
theorem cdM_124 : cdM (-2) (-100 - 124) := Or.inr (Or.inr (Or.inr (Or.inl ⟨rfl, by decide⟩)))
theorem cdM_38 : cdM (-3) (-100 - 38) := Or.inr (Or.inr (Or.inr (Or.inr (Or.inl ⟨rfl, by decide⟩))))
theorem cdM_60 : cdM (-4) (-100 - 60) := Or.inr (Or.inr (Or.inr (Or.inr (Or.inr (Or.inl ⟨rfl, by decide⟩)))))
theorem cdM_61 : cdM (-5) (-100 - 61) := Or.inr (Or.inr (Or.inr (Or.inr (Or.inr (Or.inr (Or.inl ⟨rfl, by decide⟩))))))
theorem cdM_62 : cdM (-6) (-100 - 62) := Or.inr (Or.inr (Or.inr (Or.inr (Or.inr (Or.inr (Or.inr (Or.inl ⟨rfl, by decide⟩)))))))
theorem cdM_43 : cdM (-7) (-100 - 43) := Or.inr (Or.inr (Or.inr (Or.inr (Or.inr (Or.inr (Or.inr (Or.inr (Or.inl ⟨rfl, by decide⟩))))))))
theorem cdM_45 : cdM (-8) (-100 - 45) := Or.inr (Or.inr (Or.inr (Or.inr (Or.inr (Or.inr (Or.inr (Or.inr (Or.inr (⟨rfl, by decide⟩)))))))))
theorem pa_5 : PA f_X6_readPart_k5 := by
  refine ⟨fun S x h hc hd h33 h40 => ?_, fun S x h hB hd => ?_, fun S x h hB hd hn => ?_⟩
  · unfold f_X6_readPart_k5
    rw [h, fv_s]
    rcases hc with rfl | ⟨hB, hn⟩
    · rw [if_pos (by decide), dg6_n hd, if_pos rfl, if_neg h33, if_neg h40]
    · rw [if_neg (nB_nn hB), fidx_b hB, fb_s, dg6_n hd, if_pos rfl, if_pos hn, if_neg h33, if_neg h40]
  · unfold f_X6_readPart_k5
    rw [h, fv_s, if_neg (nB_nn hB), fidx_b hB, fb_s, if_neg (dg6_y hd)]
  · unfold f_X6_readPart_k5
    rw [h, fv_s, if_neg (nB_nn hB), fidx_b hB, fb_s, dg6_n hd, if_pos rfl, if_neg hn, fl_s]
theorem pf_5 (S : FS) (h : p_X6_next S = 33 ∨ p_X6_next S = 40) : f_X6_readPart_k5 S = fb (f_X6_fail S) (fun r => some (0, r.2)) := by
  unfold f_X6_readPart_k5
  rcases h with h | h
  · rw [h, fv_s, if_neg (by decide), fidx_b (x := 33) ⟨33, by decide, rfl⟩, fb_s, dg6_n (fun q => q.1 (by decide)), if_pos rfl, if_pos (by decide), if_pos rfl, if_neg (by decide)]
  · rw [h, fv_s, if_neg (by decide), fidx_b (x := 40) ⟨40, by decide, rfl⟩, fb_s, dg6_n (fun q => q.1 (by decide)), if_pos rfl, if_pos (by decide), if_neg (by decide), if_pos rfl]
theorem l1_X6_readSum_k5 (m i : Nat) (S : FS) (kk : FS → Int32 → Option (Int32 × FS)) (hi : i < 60) (hn : rn (p_X6_next S) ≠ 4) : l_X6_readSum_k5_7 kk (m + 1) S (nI i) = kk S (nI i) := by
  rw [l_X6_readSum_k5_7, if_pos (show nI i < 60 from nI_lt (b := 60) hi (by decide)), if_neg (fun e => hn (by rw [e]; decide)), if_neg (fun e => hn (by rw [e]; decide))]
theorem l2_X6_readSum_k5 (m i : Nat) (S : FS) (kk : FS → Int32 → Option (Int32 × FS)) (hi : i < 60) (hn : rn (p_X6_next S) = 4) : ∃ c : Int32, cdM c (-100 - p_X6_next S) ∧ (-20 < c ∧ c < 0) ∧ c ≠ -1 ∧ ∀ (S1 S2 : FS) (v : Int32), f_X6_readPart_k5 (wI S 105 (S.1 105 + 1)) = some (0, S1) → fApp 28 60 1 S1 c = some (v, S2) → l_X6_readSum_k5_7 kk (m + 1) S (nI i) = l_X6_readSum_k5_7 kk m S2 (nI (i + 1)) := by
  rcases rn_4 hn with e | e
  · refine ⟨-7, by rw [e]; exact cdM_43, by decide, by decide, fun S1 S2 v h1 h2 => ?_⟩
    rw [l_X6_readSum_k5_7, if_pos (show nI i < 60 from nI_lt (b := 60) hi (by decide)), if_pos e, fl_s, h1, fb_s]
    show fb (fApp 28 60 1 S1 (-7)) _ = _
    rw [h2, fb_s, nI_1]
  · refine ⟨-8, by rw [e]; exact cdM_45, by decide, by decide, fun S1 S2 v h1 h2 => ?_⟩
    rw [l_X6_readSum_k5_7, if_pos (show nI i < 60 from nI_lt (b := 60) hi (by decide)), if_neg (by rw [e]; decide), if_pos e, fl_s, h1, fb_s]
    show fb (fApp 28 60 1 S1 (-8)) _ = _
    rw [h2, fb_s, nI_1]
theorem l1_X6_readConjunction_k5 (m i : Nat) (S : FS) (kk : FS → Int32 → Option (Int32 × FS)) (hi : i < 60) (hn : rn (p_X6_next S) ≠ 2) : l_X6_readConjunction_k5_7 kk (m + 1) S (nI i) = kk S (nI i) := by
  rw [l_X6_readConjunction_k5_7, if_pos (show nI i < 60 from nI_lt (b := 60) hi (by decide)), if_neg (fun e => hn (by rw [e]; decide))]
theorem l2_X6_readConjunction_k5 (m i : Nat) (S : FS) (kk : FS → Int32 → Option (Int32 × FS)) (hi : i < 60) (hn : rn (p_X6_next S) = 2) : ∃ c : Int32, cdM c (-100 - p_X6_next S) ∧ (-20 < c ∧ c < 0) ∧ c ≠ -1 ∧ ∀ (S1 S2 : FS) (v : Int32), f_X6_readComparison_k5 (wI S 105 (S.1 105 + 1)) = some (0, S1) → fApp 28 60 1 S1 c = some (v, S2) → l_X6_readConjunction_k5_7 kk (m + 1) S (nI i) = l_X6_readConjunction_k5_7 kk m S2 (nI (i + 1)) := by
  have e := rn_2 hn
  refine ⟨-3, by rw [e]; exact cdM_38, by decide, by decide, fun S1 S2 v h1 h2 => ?_⟩
  rw [l_X6_readConjunction_k5_7, if_pos (show nI i < 60 from nI_lt (b := 60) hi (by decide)), if_pos e, fl_s, h1, fb_s]
  show fb (fApp 28 60 1 S1 (-3)) _ = _
  rw [h2, fb_s, nI_1]
theorem l1_X6_readText_k5 (m i : Nat) (S : FS) (kk : FS → Int32 → Option (Int32 × FS)) (hi : i < 60) (hn : rn (p_X6_next S) ≠ 1) : l_X6_readText_k5_7 kk (m + 1) S (nI i) = kk S (nI i) := by
  rw [l_X6_readText_k5_7, if_pos (show nI i < 60 from nI_lt (b := 60) hi (by decide)), if_neg (fun e => hn (by rw [e]; decide))]
theorem l2_X6_readText_k5 (m i : Nat) (S : FS) (kk : FS → Int32 → Option (Int32 × FS)) (hi : i < 60) (hn : rn (p_X6_next S) = 1) : ∃ c : Int32, cdM c (-100 - p_X6_next S) ∧ (-20 < c ∧ c < 0) ∧ c ≠ -1 ∧ ∀ (S1 S2 : FS) (v : Int32), f_X6_readConjunction_k5 (wI S 105 (S.1 105 + 1)) = some (0, S1) → fApp 28 60 1 S1 c = some (v, S2) → l_X6_readText_k5_7 kk (m + 1) S (nI i) = l_X6_readText_k5_7 kk m S2 (nI (i + 1)) := by
  have e := rn_1 hn
  refine ⟨-2, by rw [e]; exact cdM_124, by decide, by decide, fun S1 S2 v h1 h2 => ?_⟩
  rw [l_X6_readText_k5_7, if_pos (show nI i < 60 from nI_lt (b := 60) hi (by decide)), if_pos e, fl_s, h1, fb_s]
  show fb (fApp 28 60 1 S1 (-2)) _ = _
  rw [h2, fb_s, nI_1]
theorem c1_5 (S S1 : FS) (h : f_X6_readSum_k5 S = some (0, S1)) (hn : rn (p_X6_next S1) ≠ 3) : f_X6_readComparison_k5 S = some (0, S1) := by
  unfold f_X6_readComparison_k5
  rw [h, fb_s]
  show fv (p_X6_next S1) _ = _
  rw [fv_s, if_neg (fun e => hn (by rw [e]; decide)), if_neg (fun e => hn (by rw [e]; decide)), if_neg (fun e => hn (by rw [e]; decide))]
theorem c2_5 (S S1 : FS) (h : f_X6_readSum_k5 S = some (0, S1)) (hn : rn (p_X6_next S1) = 3) : ∃ c : Int32, cdM c (-100 - p_X6_next S1) ∧ (-20 < c ∧ c < 0) ∧ c ≠ -1 ∧ ∀ (S2 S3 : FS) (v : Int32), f_X6_readSum_k5 (wI S1 105 (S1.1 105 + 1)) = some (0, S2) → fApp 28 60 1 S2 c = some (v, S3) → f_X6_readComparison_k5 S = some (0, S3) := by
  rcases rn_3 hn with e | e | e
  · refine ⟨-4, by rw [e]; exact cdM_60, by decide, by decide, fun S2 S3 v h1 h2 => ?_⟩
    unfold f_X6_readComparison_k5
    rw [h, fb_s]
    show fv (p_X6_next S1) _ = _
    rw [fv_s, if_pos e, fl_s]
    show fb (f_X6_readSum_k5 (wI S1 105 (S1.1 105 + 1))) _ = _
    rw [h1, fb_s]
    show fb (fApp 28 60 1 S2 (-4)) _ = _
    rw [h2, fb_s]
  · refine ⟨-5, by rw [e]; exact cdM_61, by decide, by decide, fun S2 S3 v h1 h2 => ?_⟩
    unfold f_X6_readComparison_k5
    rw [h, fb_s]
    show fv (p_X6_next S1) _ = _
    rw [fv_s, if_neg (by rw [e]; decide), if_pos e, fl_s]
    show fb (f_X6_readSum_k5 (wI S1 105 (S1.1 105 + 1))) _ = _
    rw [h1, fb_s]
    show fb (fApp 28 60 1 S2 (-5)) _ = _
    rw [h2, fb_s]
  · refine ⟨-6, by rw [e]; exact cdM_62, by decide, by decide, fun S2 S3 v h1 h2 => ?_⟩
    unfold f_X6_readComparison_k5
    rw [h, fb_s]
    show fv (p_X6_next S1) _ = _
    rw [fv_s, if_neg (by rw [e]; decide), if_neg (by rw [e]; decide), if_pos e, fl_s]
    show fb (f_X6_readSum_k5 (wI S1 105 (S1.1 105 + 1))) _ = _
    rw [h1, fb_s]
    show fb (fApp 28 60 1 S2 (-6)) _ = _
    rw [h2, fb_s]
theorem lev_5 {b : Nat → Int32} {L : Nat} {S0 T0 : FS} (ht : TP b L S0 T0) : PO b L S0 T0 5 f_X6_readPart_k5 ∧ LV b L S0 T0 1 5 f_X6_readText_k5 := by
  have p : PO b L S0 T0 5 f_X6_readPart_k5 := part_5 ht pa_5 pf_5
  have s : LV b L S0 T0 4 5 f_X6_readSum_k5 := lv_loop (l := l_X6_readSum_k5_7) ht (lv_part p) (by decide) (by decide) (by decide) l1_X6_readSum_k5 l2_X6_readSum_k5 (fun _ => rfl)
  have c : LV b L S0 T0 3 5 f_X6_readComparison_k5 := lv_cmp ht s c1_5 c2_5
  have j : LV b L S0 T0 2 5 f_X6_readConjunction_k5 := lv_loop (l := l_X6_readConjunction_k5_7) ht c (by decide) (by decide) (by decide) l1_X6_readConjunction_k5 l2_X6_readConjunction_k5 (fun _ => rfl)
  exact ⟨p, lv_loop (l := l_X6_readText_k5_7) ht j (by decide) (by decide) (by decide) l1_X6_readText_k5 l2_X6_readText_k5 (fun _ => rfl)⟩
theorem pa_4 : PA f_X6_readPart_k4 := by
  refine ⟨fun S x h hc hd h33 h40 => ?_, fun S x h hB hd => ?_, fun S x h hB hd hn => ?_⟩
  · unfold f_X6_readPart_k4
    rw [h, fv_s]
    rcases hc with rfl | ⟨hB, hn⟩
    · rw [if_pos (by decide), dg6_n hd, if_pos rfl, if_neg h33, if_neg h40]
    · rw [if_neg (nB_nn hB), fidx_b hB, fb_s, dg6_n hd, if_pos rfl, if_pos hn, if_neg h33, if_neg h40]
  · unfold f_X6_readPart_k4
    rw [h, fv_s, if_neg (nB_nn hB), fidx_b hB, fb_s, if_neg (dg6_y hd)]
  · unfold f_X6_readPart_k4
    rw [h, fv_s, if_neg (nB_nn hB), fidx_b hB, fb_s, dg6_n hd, if_pos rfl, if_neg hn, fl_s]
theorem px_4 (S : FS) (h : p_X6_next S = 33) : f_X6_readPart_k4 S = fb (f_X6_readPart_k5 (wI S 105 (S.1 105 + 1))) (fun r => fb (fApp 28 60 1 r.2 (-1)) (fun r => some (0, r.2))) := by
  unfold f_X6_readPart_k4
  rw [h, fv_s, if_neg (by decide), fidx_b (x := 33) ⟨33, by decide, rfl⟩, fb_s, dg6_n (fun q => q.1 (by decide)), if_pos rfl, if_pos (by decide), if_pos rfl, fl_s]
theorem py_4 (S : FS) (h : p_X6_next S = 40) : f_X6_readPart_k4 S = fb (f_X6_readText_k5 (wI S 105 (S.1 105 + 1))) (fun r => fb (f_X6_readClosing r.2) (fun r => some (0, r.2))) := by
  unfold f_X6_readPart_k4
  rw [h, fv_s, if_neg (by decide), fidx_b (x := 40) ⟨40, by decide, rfl⟩, fb_s, dg6_n (fun q => q.1 (by decide)), if_pos rfl, if_pos (by decide), if_neg (by decide), if_pos rfl, fl_s]
theorem l1_X6_readSum_k4 (m i : Nat) (S : FS) (kk : FS → Int32 → Option (Int32 × FS)) (hi : i < 60) (hn : rn (p_X6_next S) ≠ 4) : l_X6_readSum_k4_7 kk (m + 1) S (nI i) = kk S (nI i) := by
  rw [l_X6_readSum_k4_7, if_pos (show nI i < 60 from nI_lt (b := 60) hi (by decide)), if_neg (fun e => hn (by rw [e]; decide)), if_neg (fun e => hn (by rw [e]; decide))]
theorem l2_X6_readSum_k4 (m i : Nat) (S : FS) (kk : FS → Int32 → Option (Int32 × FS)) (hi : i < 60) (hn : rn (p_X6_next S) = 4) : ∃ c : Int32, cdM c (-100 - p_X6_next S) ∧ (-20 < c ∧ c < 0) ∧ c ≠ -1 ∧ ∀ (S1 S2 : FS) (v : Int32), f_X6_readPart_k4 (wI S 105 (S.1 105 + 1)) = some (0, S1) → fApp 28 60 1 S1 c = some (v, S2) → l_X6_readSum_k4_7 kk (m + 1) S (nI i) = l_X6_readSum_k4_7 kk m S2 (nI (i + 1)) := by
  rcases rn_4 hn with e | e
  · refine ⟨-7, by rw [e]; exact cdM_43, by decide, by decide, fun S1 S2 v h1 h2 => ?_⟩
    rw [l_X6_readSum_k4_7, if_pos (show nI i < 60 from nI_lt (b := 60) hi (by decide)), if_pos e, fl_s, h1, fb_s]
    show fb (fApp 28 60 1 S1 (-7)) _ = _
    rw [h2, fb_s, nI_1]
  · refine ⟨-8, by rw [e]; exact cdM_45, by decide, by decide, fun S1 S2 v h1 h2 => ?_⟩
    rw [l_X6_readSum_k4_7, if_pos (show nI i < 60 from nI_lt (b := 60) hi (by decide)), if_neg (by rw [e]; decide), if_pos e, fl_s, h1, fb_s]
    show fb (fApp 28 60 1 S1 (-8)) _ = _
    rw [h2, fb_s, nI_1]
theorem l1_X6_readConjunction_k4 (m i : Nat) (S : FS) (kk : FS → Int32 → Option (Int32 × FS)) (hi : i < 60) (hn : rn (p_X6_next S) ≠ 2) : l_X6_readConjunction_k4_7 kk (m + 1) S (nI i) = kk S (nI i) := by
  rw [l_X6_readConjunction_k4_7, if_pos (show nI i < 60 from nI_lt (b := 60) hi (by decide)), if_neg (fun e => hn (by rw [e]; decide))]
theorem l2_X6_readConjunction_k4 (m i : Nat) (S : FS) (kk : FS → Int32 → Option (Int32 × FS)) (hi : i < 60) (hn : rn (p_X6_next S) = 2) : ∃ c : Int32, cdM c (-100 - p_X6_next S) ∧ (-20 < c ∧ c < 0) ∧ c ≠ -1 ∧ ∀ (S1 S2 : FS) (v : Int32), f_X6_readComparison_k4 (wI S 105 (S.1 105 + 1)) = some (0, S1) → fApp 28 60 1 S1 c = some (v, S2) → l_X6_readConjunction_k4_7 kk (m + 1) S (nI i) = l_X6_readConjunction_k4_7 kk m S2 (nI (i + 1)) := by
  have e := rn_2 hn
  refine ⟨-3, by rw [e]; exact cdM_38, by decide, by decide, fun S1 S2 v h1 h2 => ?_⟩
  rw [l_X6_readConjunction_k4_7, if_pos (show nI i < 60 from nI_lt (b := 60) hi (by decide)), if_pos e, fl_s, h1, fb_s]
  show fb (fApp 28 60 1 S1 (-3)) _ = _
  rw [h2, fb_s, nI_1]
theorem l1_X6_readText_k4 (m i : Nat) (S : FS) (kk : FS → Int32 → Option (Int32 × FS)) (hi : i < 60) (hn : rn (p_X6_next S) ≠ 1) : l_X6_readText_k4_7 kk (m + 1) S (nI i) = kk S (nI i) := by
  rw [l_X6_readText_k4_7, if_pos (show nI i < 60 from nI_lt (b := 60) hi (by decide)), if_neg (fun e => hn (by rw [e]; decide))]
theorem l2_X6_readText_k4 (m i : Nat) (S : FS) (kk : FS → Int32 → Option (Int32 × FS)) (hi : i < 60) (hn : rn (p_X6_next S) = 1) : ∃ c : Int32, cdM c (-100 - p_X6_next S) ∧ (-20 < c ∧ c < 0) ∧ c ≠ -1 ∧ ∀ (S1 S2 : FS) (v : Int32), f_X6_readConjunction_k4 (wI S 105 (S.1 105 + 1)) = some (0, S1) → fApp 28 60 1 S1 c = some (v, S2) → l_X6_readText_k4_7 kk (m + 1) S (nI i) = l_X6_readText_k4_7 kk m S2 (nI (i + 1)) := by
  have e := rn_1 hn
  refine ⟨-2, by rw [e]; exact cdM_124, by decide, by decide, fun S1 S2 v h1 h2 => ?_⟩
  rw [l_X6_readText_k4_7, if_pos (show nI i < 60 from nI_lt (b := 60) hi (by decide)), if_pos e, fl_s, h1, fb_s]
  show fb (fApp 28 60 1 S1 (-2)) _ = _
  rw [h2, fb_s, nI_1]
theorem c1_4 (S S1 : FS) (h : f_X6_readSum_k4 S = some (0, S1)) (hn : rn (p_X6_next S1) ≠ 3) : f_X6_readComparison_k4 S = some (0, S1) := by
  unfold f_X6_readComparison_k4
  rw [h, fb_s]
  show fv (p_X6_next S1) _ = _
  rw [fv_s, if_neg (fun e => hn (by rw [e]; decide)), if_neg (fun e => hn (by rw [e]; decide)), if_neg (fun e => hn (by rw [e]; decide))]
theorem c2_4 (S S1 : FS) (h : f_X6_readSum_k4 S = some (0, S1)) (hn : rn (p_X6_next S1) = 3) : ∃ c : Int32, cdM c (-100 - p_X6_next S1) ∧ (-20 < c ∧ c < 0) ∧ c ≠ -1 ∧ ∀ (S2 S3 : FS) (v : Int32), f_X6_readSum_k4 (wI S1 105 (S1.1 105 + 1)) = some (0, S2) → fApp 28 60 1 S2 c = some (v, S3) → f_X6_readComparison_k4 S = some (0, S3) := by
  rcases rn_3 hn with e | e | e
  · refine ⟨-4, by rw [e]; exact cdM_60, by decide, by decide, fun S2 S3 v h1 h2 => ?_⟩
    unfold f_X6_readComparison_k4
    rw [h, fb_s]
    show fv (p_X6_next S1) _ = _
    rw [fv_s, if_pos e, fl_s]
    show fb (f_X6_readSum_k4 (wI S1 105 (S1.1 105 + 1))) _ = _
    rw [h1, fb_s]
    show fb (fApp 28 60 1 S2 (-4)) _ = _
    rw [h2, fb_s]
  · refine ⟨-5, by rw [e]; exact cdM_61, by decide, by decide, fun S2 S3 v h1 h2 => ?_⟩
    unfold f_X6_readComparison_k4
    rw [h, fb_s]
    show fv (p_X6_next S1) _ = _
    rw [fv_s, if_neg (by rw [e]; decide), if_pos e, fl_s]
    show fb (f_X6_readSum_k4 (wI S1 105 (S1.1 105 + 1))) _ = _
    rw [h1, fb_s]
    show fb (fApp 28 60 1 S2 (-5)) _ = _
    rw [h2, fb_s]
  · refine ⟨-6, by rw [e]; exact cdM_62, by decide, by decide, fun S2 S3 v h1 h2 => ?_⟩
    unfold f_X6_readComparison_k4
    rw [h, fb_s]
    show fv (p_X6_next S1) _ = _
    rw [fv_s, if_neg (by rw [e]; decide), if_neg (by rw [e]; decide), if_pos e, fl_s]
    show fb (f_X6_readSum_k4 (wI S1 105 (S1.1 105 + 1))) _ = _
    rw [h1, fb_s]
    show fb (fApp 28 60 1 S2 (-6)) _ = _
    rw [h2, fb_s]
theorem lev_4 {b : Nat → Int32} {L : Nat} {S0 T0 : FS} (ht : TP b L S0 T0) : PO b L S0 T0 4 f_X6_readPart_k4 ∧ LV b L S0 T0 1 4 f_X6_readText_k4 := by
  have p : PO b L S0 T0 4 f_X6_readPart_k4 := part_k ht (by decide) pa_4 (lev_5 ht).1 (lev_5 ht).2 px_4 py_4
  have s : LV b L S0 T0 4 4 f_X6_readSum_k4 := lv_loop (l := l_X6_readSum_k4_7) ht (lv_part p) (by decide) (by decide) (by decide) l1_X6_readSum_k4 l2_X6_readSum_k4 (fun _ => rfl)
  have c : LV b L S0 T0 3 4 f_X6_readComparison_k4 := lv_cmp ht s c1_4 c2_4
  have j : LV b L S0 T0 2 4 f_X6_readConjunction_k4 := lv_loop (l := l_X6_readConjunction_k4_7) ht c (by decide) (by decide) (by decide) l1_X6_readConjunction_k4 l2_X6_readConjunction_k4 (fun _ => rfl)
  exact ⟨p, lv_loop (l := l_X6_readText_k4_7) ht j (by decide) (by decide) (by decide) l1_X6_readText_k4 l2_X6_readText_k4 (fun _ => rfl)⟩
theorem pa_3 : PA f_X6_readPart_k3 := by
  refine ⟨fun S x h hc hd h33 h40 => ?_, fun S x h hB hd => ?_, fun S x h hB hd hn => ?_⟩
  · unfold f_X6_readPart_k3
    rw [h, fv_s]
    rcases hc with rfl | ⟨hB, hn⟩
    · rw [if_pos (by decide), dg6_n hd, if_pos rfl, if_neg h33, if_neg h40]
    · rw [if_neg (nB_nn hB), fidx_b hB, fb_s, dg6_n hd, if_pos rfl, if_pos hn, if_neg h33, if_neg h40]
  · unfold f_X6_readPart_k3
    rw [h, fv_s, if_neg (nB_nn hB), fidx_b hB, fb_s, if_neg (dg6_y hd)]
  · unfold f_X6_readPart_k3
    rw [h, fv_s, if_neg (nB_nn hB), fidx_b hB, fb_s, dg6_n hd, if_pos rfl, if_neg hn, fl_s]
theorem px_3 (S : FS) (h : p_X6_next S = 33) : f_X6_readPart_k3 S = fb (f_X6_readPart_k4 (wI S 105 (S.1 105 + 1))) (fun r => fb (fApp 28 60 1 r.2 (-1)) (fun r => some (0, r.2))) := by
  unfold f_X6_readPart_k3
  rw [h, fv_s, if_neg (by decide), fidx_b (x := 33) ⟨33, by decide, rfl⟩, fb_s, dg6_n (fun q => q.1 (by decide)), if_pos rfl, if_pos (by decide), if_pos rfl, fl_s]
theorem py_3 (S : FS) (h : p_X6_next S = 40) : f_X6_readPart_k3 S = fb (f_X6_readText_k4 (wI S 105 (S.1 105 + 1))) (fun r => fb (f_X6_readClosing r.2) (fun r => some (0, r.2))) := by
  unfold f_X6_readPart_k3
  rw [h, fv_s, if_neg (by decide), fidx_b (x := 40) ⟨40, by decide, rfl⟩, fb_s, dg6_n (fun q => q.1 (by decide)), if_pos rfl, if_pos (by decide), if_neg (by decide), if_pos rfl, fl_s]
theorem l1_X6_readSum_k3 (m i : Nat) (S : FS) (kk : FS → Int32 → Option (Int32 × FS)) (hi : i < 60) (hn : rn (p_X6_next S) ≠ 4) : l_X6_readSum_k3_7 kk (m + 1) S (nI i) = kk S (nI i) := by
  rw [l_X6_readSum_k3_7, if_pos (show nI i < 60 from nI_lt (b := 60) hi (by decide)), if_neg (fun e => hn (by rw [e]; decide)), if_neg (fun e => hn (by rw [e]; decide))]
theorem l2_X6_readSum_k3 (m i : Nat) (S : FS) (kk : FS → Int32 → Option (Int32 × FS)) (hi : i < 60) (hn : rn (p_X6_next S) = 4) : ∃ c : Int32, cdM c (-100 - p_X6_next S) ∧ (-20 < c ∧ c < 0) ∧ c ≠ -1 ∧ ∀ (S1 S2 : FS) (v : Int32), f_X6_readPart_k3 (wI S 105 (S.1 105 + 1)) = some (0, S1) → fApp 28 60 1 S1 c = some (v, S2) → l_X6_readSum_k3_7 kk (m + 1) S (nI i) = l_X6_readSum_k3_7 kk m S2 (nI (i + 1)) := by
  rcases rn_4 hn with e | e
  · refine ⟨-7, by rw [e]; exact cdM_43, by decide, by decide, fun S1 S2 v h1 h2 => ?_⟩
    rw [l_X6_readSum_k3_7, if_pos (show nI i < 60 from nI_lt (b := 60) hi (by decide)), if_pos e, fl_s, h1, fb_s]
    show fb (fApp 28 60 1 S1 (-7)) _ = _
    rw [h2, fb_s, nI_1]
  · refine ⟨-8, by rw [e]; exact cdM_45, by decide, by decide, fun S1 S2 v h1 h2 => ?_⟩
    rw [l_X6_readSum_k3_7, if_pos (show nI i < 60 from nI_lt (b := 60) hi (by decide)), if_neg (by rw [e]; decide), if_pos e, fl_s, h1, fb_s]
    show fb (fApp 28 60 1 S1 (-8)) _ = _
    rw [h2, fb_s, nI_1]
theorem l1_X6_readConjunction_k3 (m i : Nat) (S : FS) (kk : FS → Int32 → Option (Int32 × FS)) (hi : i < 60) (hn : rn (p_X6_next S) ≠ 2) : l_X6_readConjunction_k3_7 kk (m + 1) S (nI i) = kk S (nI i) := by
  rw [l_X6_readConjunction_k3_7, if_pos (show nI i < 60 from nI_lt (b := 60) hi (by decide)), if_neg (fun e => hn (by rw [e]; decide))]
theorem l2_X6_readConjunction_k3 (m i : Nat) (S : FS) (kk : FS → Int32 → Option (Int32 × FS)) (hi : i < 60) (hn : rn (p_X6_next S) = 2) : ∃ c : Int32, cdM c (-100 - p_X6_next S) ∧ (-20 < c ∧ c < 0) ∧ c ≠ -1 ∧ ∀ (S1 S2 : FS) (v : Int32), f_X6_readComparison_k3 (wI S 105 (S.1 105 + 1)) = some (0, S1) → fApp 28 60 1 S1 c = some (v, S2) → l_X6_readConjunction_k3_7 kk (m + 1) S (nI i) = l_X6_readConjunction_k3_7 kk m S2 (nI (i + 1)) := by
  have e := rn_2 hn
  refine ⟨-3, by rw [e]; exact cdM_38, by decide, by decide, fun S1 S2 v h1 h2 => ?_⟩
  rw [l_X6_readConjunction_k3_7, if_pos (show nI i < 60 from nI_lt (b := 60) hi (by decide)), if_pos e, fl_s, h1, fb_s]
  show fb (fApp 28 60 1 S1 (-3)) _ = _
  rw [h2, fb_s, nI_1]
theorem l1_X6_readText_k3 (m i : Nat) (S : FS) (kk : FS → Int32 → Option (Int32 × FS)) (hi : i < 60) (hn : rn (p_X6_next S) ≠ 1) : l_X6_readText_k3_7 kk (m + 1) S (nI i) = kk S (nI i) := by
  rw [l_X6_readText_k3_7, if_pos (show nI i < 60 from nI_lt (b := 60) hi (by decide)), if_neg (fun e => hn (by rw [e]; decide))]
theorem l2_X6_readText_k3 (m i : Nat) (S : FS) (kk : FS → Int32 → Option (Int32 × FS)) (hi : i < 60) (hn : rn (p_X6_next S) = 1) : ∃ c : Int32, cdM c (-100 - p_X6_next S) ∧ (-20 < c ∧ c < 0) ∧ c ≠ -1 ∧ ∀ (S1 S2 : FS) (v : Int32), f_X6_readConjunction_k3 (wI S 105 (S.1 105 + 1)) = some (0, S1) → fApp 28 60 1 S1 c = some (v, S2) → l_X6_readText_k3_7 kk (m + 1) S (nI i) = l_X6_readText_k3_7 kk m S2 (nI (i + 1)) := by
  have e := rn_1 hn
  refine ⟨-2, by rw [e]; exact cdM_124, by decide, by decide, fun S1 S2 v h1 h2 => ?_⟩
  rw [l_X6_readText_k3_7, if_pos (show nI i < 60 from nI_lt (b := 60) hi (by decide)), if_pos e, fl_s, h1, fb_s]
  show fb (fApp 28 60 1 S1 (-2)) _ = _
  rw [h2, fb_s, nI_1]
theorem c1_3 (S S1 : FS) (h : f_X6_readSum_k3 S = some (0, S1)) (hn : rn (p_X6_next S1) ≠ 3) : f_X6_readComparison_k3 S = some (0, S1) := by
  unfold f_X6_readComparison_k3
  rw [h, fb_s]
  show fv (p_X6_next S1) _ = _
  rw [fv_s, if_neg (fun e => hn (by rw [e]; decide)), if_neg (fun e => hn (by rw [e]; decide)), if_neg (fun e => hn (by rw [e]; decide))]
theorem c2_3 (S S1 : FS) (h : f_X6_readSum_k3 S = some (0, S1)) (hn : rn (p_X6_next S1) = 3) : ∃ c : Int32, cdM c (-100 - p_X6_next S1) ∧ (-20 < c ∧ c < 0) ∧ c ≠ -1 ∧ ∀ (S2 S3 : FS) (v : Int32), f_X6_readSum_k3 (wI S1 105 (S1.1 105 + 1)) = some (0, S2) → fApp 28 60 1 S2 c = some (v, S3) → f_X6_readComparison_k3 S = some (0, S3) := by
  rcases rn_3 hn with e | e | e
  · refine ⟨-4, by rw [e]; exact cdM_60, by decide, by decide, fun S2 S3 v h1 h2 => ?_⟩
    unfold f_X6_readComparison_k3
    rw [h, fb_s]
    show fv (p_X6_next S1) _ = _
    rw [fv_s, if_pos e, fl_s]
    show fb (f_X6_readSum_k3 (wI S1 105 (S1.1 105 + 1))) _ = _
    rw [h1, fb_s]
    show fb (fApp 28 60 1 S2 (-4)) _ = _
    rw [h2, fb_s]
  · refine ⟨-5, by rw [e]; exact cdM_61, by decide, by decide, fun S2 S3 v h1 h2 => ?_⟩
    unfold f_X6_readComparison_k3
    rw [h, fb_s]
    show fv (p_X6_next S1) _ = _
    rw [fv_s, if_neg (by rw [e]; decide), if_pos e, fl_s]
    show fb (f_X6_readSum_k3 (wI S1 105 (S1.1 105 + 1))) _ = _
    rw [h1, fb_s]
    show fb (fApp 28 60 1 S2 (-5)) _ = _
    rw [h2, fb_s]
  · refine ⟨-6, by rw [e]; exact cdM_62, by decide, by decide, fun S2 S3 v h1 h2 => ?_⟩
    unfold f_X6_readComparison_k3
    rw [h, fb_s]
    show fv (p_X6_next S1) _ = _
    rw [fv_s, if_neg (by rw [e]; decide), if_neg (by rw [e]; decide), if_pos e, fl_s]
    show fb (f_X6_readSum_k3 (wI S1 105 (S1.1 105 + 1))) _ = _
    rw [h1, fb_s]
    show fb (fApp 28 60 1 S2 (-6)) _ = _
    rw [h2, fb_s]
theorem lev_3 {b : Nat → Int32} {L : Nat} {S0 T0 : FS} (ht : TP b L S0 T0) : PO b L S0 T0 3 f_X6_readPart_k3 ∧ LV b L S0 T0 1 3 f_X6_readText_k3 := by
  have p : PO b L S0 T0 3 f_X6_readPart_k3 := part_k ht (by decide) pa_3 (lev_4 ht).1 (lev_4 ht).2 px_3 py_3
  have s : LV b L S0 T0 4 3 f_X6_readSum_k3 := lv_loop (l := l_X6_readSum_k3_7) ht (lv_part p) (by decide) (by decide) (by decide) l1_X6_readSum_k3 l2_X6_readSum_k3 (fun _ => rfl)
  have c : LV b L S0 T0 3 3 f_X6_readComparison_k3 := lv_cmp ht s c1_3 c2_3
  have j : LV b L S0 T0 2 3 f_X6_readConjunction_k3 := lv_loop (l := l_X6_readConjunction_k3_7) ht c (by decide) (by decide) (by decide) l1_X6_readConjunction_k3 l2_X6_readConjunction_k3 (fun _ => rfl)
  exact ⟨p, lv_loop (l := l_X6_readText_k3_7) ht j (by decide) (by decide) (by decide) l1_X6_readText_k3 l2_X6_readText_k3 (fun _ => rfl)⟩
theorem pa_2 : PA f_X6_readPart_k2 := by
  refine ⟨fun S x h hc hd h33 h40 => ?_, fun S x h hB hd => ?_, fun S x h hB hd hn => ?_⟩
  · unfold f_X6_readPart_k2
    rw [h, fv_s]
    rcases hc with rfl | ⟨hB, hn⟩
    · rw [if_pos (by decide), dg6_n hd, if_pos rfl, if_neg h33, if_neg h40]
    · rw [if_neg (nB_nn hB), fidx_b hB, fb_s, dg6_n hd, if_pos rfl, if_pos hn, if_neg h33, if_neg h40]
  · unfold f_X6_readPart_k2
    rw [h, fv_s, if_neg (nB_nn hB), fidx_b hB, fb_s, if_neg (dg6_y hd)]
  · unfold f_X6_readPart_k2
    rw [h, fv_s, if_neg (nB_nn hB), fidx_b hB, fb_s, dg6_n hd, if_pos rfl, if_neg hn, fl_s]
theorem px_2 (S : FS) (h : p_X6_next S = 33) : f_X6_readPart_k2 S = fb (f_X6_readPart_k3 (wI S 105 (S.1 105 + 1))) (fun r => fb (fApp 28 60 1 r.2 (-1)) (fun r => some (0, r.2))) := by
  unfold f_X6_readPart_k2
  rw [h, fv_s, if_neg (by decide), fidx_b (x := 33) ⟨33, by decide, rfl⟩, fb_s, dg6_n (fun q => q.1 (by decide)), if_pos rfl, if_pos (by decide), if_pos rfl, fl_s]
theorem py_2 (S : FS) (h : p_X6_next S = 40) : f_X6_readPart_k2 S = fb (f_X6_readText_k3 (wI S 105 (S.1 105 + 1))) (fun r => fb (f_X6_readClosing r.2) (fun r => some (0, r.2))) := by
  unfold f_X6_readPart_k2
  rw [h, fv_s, if_neg (by decide), fidx_b (x := 40) ⟨40, by decide, rfl⟩, fb_s, dg6_n (fun q => q.1 (by decide)), if_pos rfl, if_pos (by decide), if_neg (by decide), if_pos rfl, fl_s]
theorem l1_X6_readSum_k2 (m i : Nat) (S : FS) (kk : FS → Int32 → Option (Int32 × FS)) (hi : i < 60) (hn : rn (p_X6_next S) ≠ 4) : l_X6_readSum_k2_7 kk (m + 1) S (nI i) = kk S (nI i) := by
  rw [l_X6_readSum_k2_7, if_pos (show nI i < 60 from nI_lt (b := 60) hi (by decide)), if_neg (fun e => hn (by rw [e]; decide)), if_neg (fun e => hn (by rw [e]; decide))]
theorem l2_X6_readSum_k2 (m i : Nat) (S : FS) (kk : FS → Int32 → Option (Int32 × FS)) (hi : i < 60) (hn : rn (p_X6_next S) = 4) : ∃ c : Int32, cdM c (-100 - p_X6_next S) ∧ (-20 < c ∧ c < 0) ∧ c ≠ -1 ∧ ∀ (S1 S2 : FS) (v : Int32), f_X6_readPart_k2 (wI S 105 (S.1 105 + 1)) = some (0, S1) → fApp 28 60 1 S1 c = some (v, S2) → l_X6_readSum_k2_7 kk (m + 1) S (nI i) = l_X6_readSum_k2_7 kk m S2 (nI (i + 1)) := by
  rcases rn_4 hn with e | e
  · refine ⟨-7, by rw [e]; exact cdM_43, by decide, by decide, fun S1 S2 v h1 h2 => ?_⟩
    rw [l_X6_readSum_k2_7, if_pos (show nI i < 60 from nI_lt (b := 60) hi (by decide)), if_pos e, fl_s, h1, fb_s]
    show fb (fApp 28 60 1 S1 (-7)) _ = _
    rw [h2, fb_s, nI_1]
  · refine ⟨-8, by rw [e]; exact cdM_45, by decide, by decide, fun S1 S2 v h1 h2 => ?_⟩
    rw [l_X6_readSum_k2_7, if_pos (show nI i < 60 from nI_lt (b := 60) hi (by decide)), if_neg (by rw [e]; decide), if_pos e, fl_s, h1, fb_s]
    show fb (fApp 28 60 1 S1 (-8)) _ = _
    rw [h2, fb_s, nI_1]
theorem l1_X6_readConjunction_k2 (m i : Nat) (S : FS) (kk : FS → Int32 → Option (Int32 × FS)) (hi : i < 60) (hn : rn (p_X6_next S) ≠ 2) : l_X6_readConjunction_k2_7 kk (m + 1) S (nI i) = kk S (nI i) := by
  rw [l_X6_readConjunction_k2_7, if_pos (show nI i < 60 from nI_lt (b := 60) hi (by decide)), if_neg (fun e => hn (by rw [e]; decide))]
theorem l2_X6_readConjunction_k2 (m i : Nat) (S : FS) (kk : FS → Int32 → Option (Int32 × FS)) (hi : i < 60) (hn : rn (p_X6_next S) = 2) : ∃ c : Int32, cdM c (-100 - p_X6_next S) ∧ (-20 < c ∧ c < 0) ∧ c ≠ -1 ∧ ∀ (S1 S2 : FS) (v : Int32), f_X6_readComparison_k2 (wI S 105 (S.1 105 + 1)) = some (0, S1) → fApp 28 60 1 S1 c = some (v, S2) → l_X6_readConjunction_k2_7 kk (m + 1) S (nI i) = l_X6_readConjunction_k2_7 kk m S2 (nI (i + 1)) := by
  have e := rn_2 hn
  refine ⟨-3, by rw [e]; exact cdM_38, by decide, by decide, fun S1 S2 v h1 h2 => ?_⟩
  rw [l_X6_readConjunction_k2_7, if_pos (show nI i < 60 from nI_lt (b := 60) hi (by decide)), if_pos e, fl_s, h1, fb_s]
  show fb (fApp 28 60 1 S1 (-3)) _ = _
  rw [h2, fb_s, nI_1]
theorem l1_X6_readText_k2 (m i : Nat) (S : FS) (kk : FS → Int32 → Option (Int32 × FS)) (hi : i < 60) (hn : rn (p_X6_next S) ≠ 1) : l_X6_readText_k2_7 kk (m + 1) S (nI i) = kk S (nI i) := by
  rw [l_X6_readText_k2_7, if_pos (show nI i < 60 from nI_lt (b := 60) hi (by decide)), if_neg (fun e => hn (by rw [e]; decide))]
theorem l2_X6_readText_k2 (m i : Nat) (S : FS) (kk : FS → Int32 → Option (Int32 × FS)) (hi : i < 60) (hn : rn (p_X6_next S) = 1) : ∃ c : Int32, cdM c (-100 - p_X6_next S) ∧ (-20 < c ∧ c < 0) ∧ c ≠ -1 ∧ ∀ (S1 S2 : FS) (v : Int32), f_X6_readConjunction_k2 (wI S 105 (S.1 105 + 1)) = some (0, S1) → fApp 28 60 1 S1 c = some (v, S2) → l_X6_readText_k2_7 kk (m + 1) S (nI i) = l_X6_readText_k2_7 kk m S2 (nI (i + 1)) := by
  have e := rn_1 hn
  refine ⟨-2, by rw [e]; exact cdM_124, by decide, by decide, fun S1 S2 v h1 h2 => ?_⟩
  rw [l_X6_readText_k2_7, if_pos (show nI i < 60 from nI_lt (b := 60) hi (by decide)), if_pos e, fl_s, h1, fb_s]
  show fb (fApp 28 60 1 S1 (-2)) _ = _
  rw [h2, fb_s, nI_1]
theorem c1_2 (S S1 : FS) (h : f_X6_readSum_k2 S = some (0, S1)) (hn : rn (p_X6_next S1) ≠ 3) : f_X6_readComparison_k2 S = some (0, S1) := by
  unfold f_X6_readComparison_k2
  rw [h, fb_s]
  show fv (p_X6_next S1) _ = _
  rw [fv_s, if_neg (fun e => hn (by rw [e]; decide)), if_neg (fun e => hn (by rw [e]; decide)), if_neg (fun e => hn (by rw [e]; decide))]
theorem c2_2 (S S1 : FS) (h : f_X6_readSum_k2 S = some (0, S1)) (hn : rn (p_X6_next S1) = 3) : ∃ c : Int32, cdM c (-100 - p_X6_next S1) ∧ (-20 < c ∧ c < 0) ∧ c ≠ -1 ∧ ∀ (S2 S3 : FS) (v : Int32), f_X6_readSum_k2 (wI S1 105 (S1.1 105 + 1)) = some (0, S2) → fApp 28 60 1 S2 c = some (v, S3) → f_X6_readComparison_k2 S = some (0, S3) := by
  rcases rn_3 hn with e | e | e
  · refine ⟨-4, by rw [e]; exact cdM_60, by decide, by decide, fun S2 S3 v h1 h2 => ?_⟩
    unfold f_X6_readComparison_k2
    rw [h, fb_s]
    show fv (p_X6_next S1) _ = _
    rw [fv_s, if_pos e, fl_s]
    show fb (f_X6_readSum_k2 (wI S1 105 (S1.1 105 + 1))) _ = _
    rw [h1, fb_s]
    show fb (fApp 28 60 1 S2 (-4)) _ = _
    rw [h2, fb_s]
  · refine ⟨-5, by rw [e]; exact cdM_61, by decide, by decide, fun S2 S3 v h1 h2 => ?_⟩
    unfold f_X6_readComparison_k2
    rw [h, fb_s]
    show fv (p_X6_next S1) _ = _
    rw [fv_s, if_neg (by rw [e]; decide), if_pos e, fl_s]
    show fb (f_X6_readSum_k2 (wI S1 105 (S1.1 105 + 1))) _ = _
    rw [h1, fb_s]
    show fb (fApp 28 60 1 S2 (-5)) _ = _
    rw [h2, fb_s]
  · refine ⟨-6, by rw [e]; exact cdM_62, by decide, by decide, fun S2 S3 v h1 h2 => ?_⟩
    unfold f_X6_readComparison_k2
    rw [h, fb_s]
    show fv (p_X6_next S1) _ = _
    rw [fv_s, if_neg (by rw [e]; decide), if_neg (by rw [e]; decide), if_pos e, fl_s]
    show fb (f_X6_readSum_k2 (wI S1 105 (S1.1 105 + 1))) _ = _
    rw [h1, fb_s]
    show fb (fApp 28 60 1 S2 (-6)) _ = _
    rw [h2, fb_s]
theorem lev_2 {b : Nat → Int32} {L : Nat} {S0 T0 : FS} (ht : TP b L S0 T0) : PO b L S0 T0 2 f_X6_readPart_k2 ∧ LV b L S0 T0 1 2 f_X6_readText_k2 := by
  have p : PO b L S0 T0 2 f_X6_readPart_k2 := part_k ht (by decide) pa_2 (lev_3 ht).1 (lev_3 ht).2 px_2 py_2
  have s : LV b L S0 T0 4 2 f_X6_readSum_k2 := lv_loop (l := l_X6_readSum_k2_7) ht (lv_part p) (by decide) (by decide) (by decide) l1_X6_readSum_k2 l2_X6_readSum_k2 (fun _ => rfl)
  have c : LV b L S0 T0 3 2 f_X6_readComparison_k2 := lv_cmp ht s c1_2 c2_2
  have j : LV b L S0 T0 2 2 f_X6_readConjunction_k2 := lv_loop (l := l_X6_readConjunction_k2_7) ht c (by decide) (by decide) (by decide) l1_X6_readConjunction_k2 l2_X6_readConjunction_k2 (fun _ => rfl)
  exact ⟨p, lv_loop (l := l_X6_readText_k2_7) ht j (by decide) (by decide) (by decide) l1_X6_readText_k2 l2_X6_readText_k2 (fun _ => rfl)⟩
theorem pa_1 : PA f_X6_readPart_k1 := by
  refine ⟨fun S x h hc hd h33 h40 => ?_, fun S x h hB hd => ?_, fun S x h hB hd hn => ?_⟩
  · unfold f_X6_readPart_k1
    rw [h, fv_s]
    rcases hc with rfl | ⟨hB, hn⟩
    · rw [if_pos (by decide), dg6_n hd, if_pos rfl, if_neg h33, if_neg h40]
    · rw [if_neg (nB_nn hB), fidx_b hB, fb_s, dg6_n hd, if_pos rfl, if_pos hn, if_neg h33, if_neg h40]
  · unfold f_X6_readPart_k1
    rw [h, fv_s, if_neg (nB_nn hB), fidx_b hB, fb_s, if_neg (dg6_y hd)]
  · unfold f_X6_readPart_k1
    rw [h, fv_s, if_neg (nB_nn hB), fidx_b hB, fb_s, dg6_n hd, if_pos rfl, if_neg hn, fl_s]
theorem px_1 (S : FS) (h : p_X6_next S = 33) : f_X6_readPart_k1 S = fb (f_X6_readPart_k2 (wI S 105 (S.1 105 + 1))) (fun r => fb (fApp 28 60 1 r.2 (-1)) (fun r => some (0, r.2))) := by
  unfold f_X6_readPart_k1
  rw [h, fv_s, if_neg (by decide), fidx_b (x := 33) ⟨33, by decide, rfl⟩, fb_s, dg6_n (fun q => q.1 (by decide)), if_pos rfl, if_pos (by decide), if_pos rfl, fl_s]
theorem py_1 (S : FS) (h : p_X6_next S = 40) : f_X6_readPart_k1 S = fb (f_X6_readText_k2 (wI S 105 (S.1 105 + 1))) (fun r => fb (f_X6_readClosing r.2) (fun r => some (0, r.2))) := by
  unfold f_X6_readPart_k1
  rw [h, fv_s, if_neg (by decide), fidx_b (x := 40) ⟨40, by decide, rfl⟩, fb_s, dg6_n (fun q => q.1 (by decide)), if_pos rfl, if_pos (by decide), if_neg (by decide), if_pos rfl, fl_s]
theorem l1_X6_readSum_k1 (m i : Nat) (S : FS) (kk : FS → Int32 → Option (Int32 × FS)) (hi : i < 60) (hn : rn (p_X6_next S) ≠ 4) : l_X6_readSum_k1_7 kk (m + 1) S (nI i) = kk S (nI i) := by
  rw [l_X6_readSum_k1_7, if_pos (show nI i < 60 from nI_lt (b := 60) hi (by decide)), if_neg (fun e => hn (by rw [e]; decide)), if_neg (fun e => hn (by rw [e]; decide))]
theorem l2_X6_readSum_k1 (m i : Nat) (S : FS) (kk : FS → Int32 → Option (Int32 × FS)) (hi : i < 60) (hn : rn (p_X6_next S) = 4) : ∃ c : Int32, cdM c (-100 - p_X6_next S) ∧ (-20 < c ∧ c < 0) ∧ c ≠ -1 ∧ ∀ (S1 S2 : FS) (v : Int32), f_X6_readPart_k1 (wI S 105 (S.1 105 + 1)) = some (0, S1) → fApp 28 60 1 S1 c = some (v, S2) → l_X6_readSum_k1_7 kk (m + 1) S (nI i) = l_X6_readSum_k1_7 kk m S2 (nI (i + 1)) := by
  rcases rn_4 hn with e | e
  · refine ⟨-7, by rw [e]; exact cdM_43, by decide, by decide, fun S1 S2 v h1 h2 => ?_⟩
    rw [l_X6_readSum_k1_7, if_pos (show nI i < 60 from nI_lt (b := 60) hi (by decide)), if_pos e, fl_s, h1, fb_s]
    show fb (fApp 28 60 1 S1 (-7)) _ = _
    rw [h2, fb_s, nI_1]
  · refine ⟨-8, by rw [e]; exact cdM_45, by decide, by decide, fun S1 S2 v h1 h2 => ?_⟩
    rw [l_X6_readSum_k1_7, if_pos (show nI i < 60 from nI_lt (b := 60) hi (by decide)), if_neg (by rw [e]; decide), if_pos e, fl_s, h1, fb_s]
    show fb (fApp 28 60 1 S1 (-8)) _ = _
    rw [h2, fb_s, nI_1]
theorem l1_X6_readConjunction_k1 (m i : Nat) (S : FS) (kk : FS → Int32 → Option (Int32 × FS)) (hi : i < 60) (hn : rn (p_X6_next S) ≠ 2) : l_X6_readConjunction_k1_7 kk (m + 1) S (nI i) = kk S (nI i) := by
  rw [l_X6_readConjunction_k1_7, if_pos (show nI i < 60 from nI_lt (b := 60) hi (by decide)), if_neg (fun e => hn (by rw [e]; decide))]
theorem l2_X6_readConjunction_k1 (m i : Nat) (S : FS) (kk : FS → Int32 → Option (Int32 × FS)) (hi : i < 60) (hn : rn (p_X6_next S) = 2) : ∃ c : Int32, cdM c (-100 - p_X6_next S) ∧ (-20 < c ∧ c < 0) ∧ c ≠ -1 ∧ ∀ (S1 S2 : FS) (v : Int32), f_X6_readComparison_k1 (wI S 105 (S.1 105 + 1)) = some (0, S1) → fApp 28 60 1 S1 c = some (v, S2) → l_X6_readConjunction_k1_7 kk (m + 1) S (nI i) = l_X6_readConjunction_k1_7 kk m S2 (nI (i + 1)) := by
  have e := rn_2 hn
  refine ⟨-3, by rw [e]; exact cdM_38, by decide, by decide, fun S1 S2 v h1 h2 => ?_⟩
  rw [l_X6_readConjunction_k1_7, if_pos (show nI i < 60 from nI_lt (b := 60) hi (by decide)), if_pos e, fl_s, h1, fb_s]
  show fb (fApp 28 60 1 S1 (-3)) _ = _
  rw [h2, fb_s, nI_1]
theorem l1_X6_readText_k1 (m i : Nat) (S : FS) (kk : FS → Int32 → Option (Int32 × FS)) (hi : i < 60) (hn : rn (p_X6_next S) ≠ 1) : l_X6_readText_k1_7 kk (m + 1) S (nI i) = kk S (nI i) := by
  rw [l_X6_readText_k1_7, if_pos (show nI i < 60 from nI_lt (b := 60) hi (by decide)), if_neg (fun e => hn (by rw [e]; decide))]
theorem l2_X6_readText_k1 (m i : Nat) (S : FS) (kk : FS → Int32 → Option (Int32 × FS)) (hi : i < 60) (hn : rn (p_X6_next S) = 1) : ∃ c : Int32, cdM c (-100 - p_X6_next S) ∧ (-20 < c ∧ c < 0) ∧ c ≠ -1 ∧ ∀ (S1 S2 : FS) (v : Int32), f_X6_readConjunction_k1 (wI S 105 (S.1 105 + 1)) = some (0, S1) → fApp 28 60 1 S1 c = some (v, S2) → l_X6_readText_k1_7 kk (m + 1) S (nI i) = l_X6_readText_k1_7 kk m S2 (nI (i + 1)) := by
  have e := rn_1 hn
  refine ⟨-2, by rw [e]; exact cdM_124, by decide, by decide, fun S1 S2 v h1 h2 => ?_⟩
  rw [l_X6_readText_k1_7, if_pos (show nI i < 60 from nI_lt (b := 60) hi (by decide)), if_pos e, fl_s, h1, fb_s]
  show fb (fApp 28 60 1 S1 (-2)) _ = _
  rw [h2, fb_s, nI_1]
theorem c1_1 (S S1 : FS) (h : f_X6_readSum_k1 S = some (0, S1)) (hn : rn (p_X6_next S1) ≠ 3) : f_X6_readComparison_k1 S = some (0, S1) := by
  unfold f_X6_readComparison_k1
  rw [h, fb_s]
  show fv (p_X6_next S1) _ = _
  rw [fv_s, if_neg (fun e => hn (by rw [e]; decide)), if_neg (fun e => hn (by rw [e]; decide)), if_neg (fun e => hn (by rw [e]; decide))]
theorem c2_1 (S S1 : FS) (h : f_X6_readSum_k1 S = some (0, S1)) (hn : rn (p_X6_next S1) = 3) : ∃ c : Int32, cdM c (-100 - p_X6_next S1) ∧ (-20 < c ∧ c < 0) ∧ c ≠ -1 ∧ ∀ (S2 S3 : FS) (v : Int32), f_X6_readSum_k1 (wI S1 105 (S1.1 105 + 1)) = some (0, S2) → fApp 28 60 1 S2 c = some (v, S3) → f_X6_readComparison_k1 S = some (0, S3) := by
  rcases rn_3 hn with e | e | e
  · refine ⟨-4, by rw [e]; exact cdM_60, by decide, by decide, fun S2 S3 v h1 h2 => ?_⟩
    unfold f_X6_readComparison_k1
    rw [h, fb_s]
    show fv (p_X6_next S1) _ = _
    rw [fv_s, if_pos e, fl_s]
    show fb (f_X6_readSum_k1 (wI S1 105 (S1.1 105 + 1))) _ = _
    rw [h1, fb_s]
    show fb (fApp 28 60 1 S2 (-4)) _ = _
    rw [h2, fb_s]
  · refine ⟨-5, by rw [e]; exact cdM_61, by decide, by decide, fun S2 S3 v h1 h2 => ?_⟩
    unfold f_X6_readComparison_k1
    rw [h, fb_s]
    show fv (p_X6_next S1) _ = _
    rw [fv_s, if_neg (by rw [e]; decide), if_pos e, fl_s]
    show fb (f_X6_readSum_k1 (wI S1 105 (S1.1 105 + 1))) _ = _
    rw [h1, fb_s]
    show fb (fApp 28 60 1 S2 (-5)) _ = _
    rw [h2, fb_s]
  · refine ⟨-6, by rw [e]; exact cdM_62, by decide, by decide, fun S2 S3 v h1 h2 => ?_⟩
    unfold f_X6_readComparison_k1
    rw [h, fb_s]
    show fv (p_X6_next S1) _ = _
    rw [fv_s, if_neg (by rw [e]; decide), if_neg (by rw [e]; decide), if_pos e, fl_s]
    show fb (f_X6_readSum_k1 (wI S1 105 (S1.1 105 + 1))) _ = _
    rw [h1, fb_s]
    show fb (fApp 28 60 1 S2 (-6)) _ = _
    rw [h2, fb_s]
theorem lev_1 {b : Nat → Int32} {L : Nat} {S0 T0 : FS} (ht : TP b L S0 T0) : PO b L S0 T0 1 f_X6_readPart_k1 ∧ LV b L S0 T0 1 1 f_X6_readText_k1 := by
  have p : PO b L S0 T0 1 f_X6_readPart_k1 := part_k ht (by decide) pa_1 (lev_2 ht).1 (lev_2 ht).2 px_1 py_1
  have s : LV b L S0 T0 4 1 f_X6_readSum_k1 := lv_loop (l := l_X6_readSum_k1_7) ht (lv_part p) (by decide) (by decide) (by decide) l1_X6_readSum_k1 l2_X6_readSum_k1 (fun _ => rfl)
  have c : LV b L S0 T0 3 1 f_X6_readComparison_k1 := lv_cmp ht s c1_1 c2_1
  have j : LV b L S0 T0 2 1 f_X6_readConjunction_k1 := lv_loop (l := l_X6_readConjunction_k1_7) ht c (by decide) (by decide) (by decide) l1_X6_readConjunction_k1 l2_X6_readConjunction_k1 (fun _ => rfl)
  exact ⟨p, lv_loop (l := l_X6_readText_k1_7) ht j (by decide) (by decide) (by decide) l1_X6_readText_k1 l2_X6_readText_k1 (fun _ => rfl)⟩
theorem pa_0 : PA f_X6_readPart_k0 := by
  refine ⟨fun S x h hc hd h33 h40 => ?_, fun S x h hB hd => ?_, fun S x h hB hd hn => ?_⟩
  · unfold f_X6_readPart_k0
    rw [h, fv_s]
    rcases hc with rfl | ⟨hB, hn⟩
    · rw [if_pos (by decide), dg6_n hd, if_pos rfl, if_neg h33, if_neg h40]
    · rw [if_neg (nB_nn hB), fidx_b hB, fb_s, dg6_n hd, if_pos rfl, if_pos hn, if_neg h33, if_neg h40]
  · unfold f_X6_readPart_k0
    rw [h, fv_s, if_neg (nB_nn hB), fidx_b hB, fb_s, if_neg (dg6_y hd)]
  · unfold f_X6_readPart_k0
    rw [h, fv_s, if_neg (nB_nn hB), fidx_b hB, fb_s, dg6_n hd, if_pos rfl, if_neg hn, fl_s]
theorem px_0 (S : FS) (h : p_X6_next S = 33) : f_X6_readPart_k0 S = fb (f_X6_readPart_k1 (wI S 105 (S.1 105 + 1))) (fun r => fb (fApp 28 60 1 r.2 (-1)) (fun r => some (0, r.2))) := by
  unfold f_X6_readPart_k0
  rw [h, fv_s, if_neg (by decide), fidx_b (x := 33) ⟨33, by decide, rfl⟩, fb_s, dg6_n (fun q => q.1 (by decide)), if_pos rfl, if_pos (by decide), if_pos rfl, fl_s]
theorem py_0 (S : FS) (h : p_X6_next S = 40) : f_X6_readPart_k0 S = fb (f_X6_readText_k1 (wI S 105 (S.1 105 + 1))) (fun r => fb (f_X6_readClosing r.2) (fun r => some (0, r.2))) := by
  unfold f_X6_readPart_k0
  rw [h, fv_s, if_neg (by decide), fidx_b (x := 40) ⟨40, by decide, rfl⟩, fb_s, dg6_n (fun q => q.1 (by decide)), if_pos rfl, if_pos (by decide), if_neg (by decide), if_pos rfl, fl_s]
theorem l1_X6_readSum_k0 (m i : Nat) (S : FS) (kk : FS → Int32 → Option (Int32 × FS)) (hi : i < 60) (hn : rn (p_X6_next S) ≠ 4) : l_X6_readSum_k0_7 kk (m + 1) S (nI i) = kk S (nI i) := by
  rw [l_X6_readSum_k0_7, if_pos (show nI i < 60 from nI_lt (b := 60) hi (by decide)), if_neg (fun e => hn (by rw [e]; decide)), if_neg (fun e => hn (by rw [e]; decide))]
theorem l2_X6_readSum_k0 (m i : Nat) (S : FS) (kk : FS → Int32 → Option (Int32 × FS)) (hi : i < 60) (hn : rn (p_X6_next S) = 4) : ∃ c : Int32, cdM c (-100 - p_X6_next S) ∧ (-20 < c ∧ c < 0) ∧ c ≠ -1 ∧ ∀ (S1 S2 : FS) (v : Int32), f_X6_readPart_k0 (wI S 105 (S.1 105 + 1)) = some (0, S1) → fApp 28 60 1 S1 c = some (v, S2) → l_X6_readSum_k0_7 kk (m + 1) S (nI i) = l_X6_readSum_k0_7 kk m S2 (nI (i + 1)) := by
  rcases rn_4 hn with e | e
  · refine ⟨-7, by rw [e]; exact cdM_43, by decide, by decide, fun S1 S2 v h1 h2 => ?_⟩
    rw [l_X6_readSum_k0_7, if_pos (show nI i < 60 from nI_lt (b := 60) hi (by decide)), if_pos e, fl_s, h1, fb_s]
    show fb (fApp 28 60 1 S1 (-7)) _ = _
    rw [h2, fb_s, nI_1]
  · refine ⟨-8, by rw [e]; exact cdM_45, by decide, by decide, fun S1 S2 v h1 h2 => ?_⟩
    rw [l_X6_readSum_k0_7, if_pos (show nI i < 60 from nI_lt (b := 60) hi (by decide)), if_neg (by rw [e]; decide), if_pos e, fl_s, h1, fb_s]
    show fb (fApp 28 60 1 S1 (-8)) _ = _
    rw [h2, fb_s, nI_1]
theorem l1_X6_readConjunction_k0 (m i : Nat) (S : FS) (kk : FS → Int32 → Option (Int32 × FS)) (hi : i < 60) (hn : rn (p_X6_next S) ≠ 2) : l_X6_readConjunction_k0_7 kk (m + 1) S (nI i) = kk S (nI i) := by
  rw [l_X6_readConjunction_k0_7, if_pos (show nI i < 60 from nI_lt (b := 60) hi (by decide)), if_neg (fun e => hn (by rw [e]; decide))]
theorem l2_X6_readConjunction_k0 (m i : Nat) (S : FS) (kk : FS → Int32 → Option (Int32 × FS)) (hi : i < 60) (hn : rn (p_X6_next S) = 2) : ∃ c : Int32, cdM c (-100 - p_X6_next S) ∧ (-20 < c ∧ c < 0) ∧ c ≠ -1 ∧ ∀ (S1 S2 : FS) (v : Int32), f_X6_readComparison_k0 (wI S 105 (S.1 105 + 1)) = some (0, S1) → fApp 28 60 1 S1 c = some (v, S2) → l_X6_readConjunction_k0_7 kk (m + 1) S (nI i) = l_X6_readConjunction_k0_7 kk m S2 (nI (i + 1)) := by
  have e := rn_2 hn
  refine ⟨-3, by rw [e]; exact cdM_38, by decide, by decide, fun S1 S2 v h1 h2 => ?_⟩
  rw [l_X6_readConjunction_k0_7, if_pos (show nI i < 60 from nI_lt (b := 60) hi (by decide)), if_pos e, fl_s, h1, fb_s]
  show fb (fApp 28 60 1 S1 (-3)) _ = _
  rw [h2, fb_s, nI_1]
theorem l1_X6_readText_k0 (m i : Nat) (S : FS) (kk : FS → Int32 → Option (Int32 × FS)) (hi : i < 60) (hn : rn (p_X6_next S) ≠ 1) : l_X6_readText_k0_7 kk (m + 1) S (nI i) = kk S (nI i) := by
  rw [l_X6_readText_k0_7, if_pos (show nI i < 60 from nI_lt (b := 60) hi (by decide)), if_neg (fun e => hn (by rw [e]; decide))]
theorem l2_X6_readText_k0 (m i : Nat) (S : FS) (kk : FS → Int32 → Option (Int32 × FS)) (hi : i < 60) (hn : rn (p_X6_next S) = 1) : ∃ c : Int32, cdM c (-100 - p_X6_next S) ∧ (-20 < c ∧ c < 0) ∧ c ≠ -1 ∧ ∀ (S1 S2 : FS) (v : Int32), f_X6_readConjunction_k0 (wI S 105 (S.1 105 + 1)) = some (0, S1) → fApp 28 60 1 S1 c = some (v, S2) → l_X6_readText_k0_7 kk (m + 1) S (nI i) = l_X6_readText_k0_7 kk m S2 (nI (i + 1)) := by
  have e := rn_1 hn
  refine ⟨-2, by rw [e]; exact cdM_124, by decide, by decide, fun S1 S2 v h1 h2 => ?_⟩
  rw [l_X6_readText_k0_7, if_pos (show nI i < 60 from nI_lt (b := 60) hi (by decide)), if_pos e, fl_s, h1, fb_s]
  show fb (fApp 28 60 1 S1 (-2)) _ = _
  rw [h2, fb_s, nI_1]
theorem c1_0 (S S1 : FS) (h : f_X6_readSum_k0 S = some (0, S1)) (hn : rn (p_X6_next S1) ≠ 3) : f_X6_readComparison_k0 S = some (0, S1) := by
  unfold f_X6_readComparison_k0
  rw [h, fb_s]
  show fv (p_X6_next S1) _ = _
  rw [fv_s, if_neg (fun e => hn (by rw [e]; decide)), if_neg (fun e => hn (by rw [e]; decide)), if_neg (fun e => hn (by rw [e]; decide))]
theorem c2_0 (S S1 : FS) (h : f_X6_readSum_k0 S = some (0, S1)) (hn : rn (p_X6_next S1) = 3) : ∃ c : Int32, cdM c (-100 - p_X6_next S1) ∧ (-20 < c ∧ c < 0) ∧ c ≠ -1 ∧ ∀ (S2 S3 : FS) (v : Int32), f_X6_readSum_k0 (wI S1 105 (S1.1 105 + 1)) = some (0, S2) → fApp 28 60 1 S2 c = some (v, S3) → f_X6_readComparison_k0 S = some (0, S3) := by
  rcases rn_3 hn with e | e | e
  · refine ⟨-4, by rw [e]; exact cdM_60, by decide, by decide, fun S2 S3 v h1 h2 => ?_⟩
    unfold f_X6_readComparison_k0
    rw [h, fb_s]
    show fv (p_X6_next S1) _ = _
    rw [fv_s, if_pos e, fl_s]
    show fb (f_X6_readSum_k0 (wI S1 105 (S1.1 105 + 1))) _ = _
    rw [h1, fb_s]
    show fb (fApp 28 60 1 S2 (-4)) _ = _
    rw [h2, fb_s]
  · refine ⟨-5, by rw [e]; exact cdM_61, by decide, by decide, fun S2 S3 v h1 h2 => ?_⟩
    unfold f_X6_readComparison_k0
    rw [h, fb_s]
    show fv (p_X6_next S1) _ = _
    rw [fv_s, if_neg (by rw [e]; decide), if_pos e, fl_s]
    show fb (f_X6_readSum_k0 (wI S1 105 (S1.1 105 + 1))) _ = _
    rw [h1, fb_s]
    show fb (fApp 28 60 1 S2 (-5)) _ = _
    rw [h2, fb_s]
  · refine ⟨-6, by rw [e]; exact cdM_62, by decide, by decide, fun S2 S3 v h1 h2 => ?_⟩
    unfold f_X6_readComparison_k0
    rw [h, fb_s]
    show fv (p_X6_next S1) _ = _
    rw [fv_s, if_neg (by rw [e]; decide), if_neg (by rw [e]; decide), if_pos e, fl_s]
    show fb (f_X6_readSum_k0 (wI S1 105 (S1.1 105 + 1))) _ = _
    rw [h1, fb_s]
    show fb (fApp 28 60 1 S2 (-6)) _ = _
    rw [h2, fb_s]
theorem lev_0 {b : Nat → Int32} {L : Nat} {S0 T0 : FS} (ht : TP b L S0 T0) : PO b L S0 T0 0 f_X6_readPart_k0 ∧ LV b L S0 T0 1 0 f_X6_readText_k0 := by
  have p : PO b L S0 T0 0 f_X6_readPart_k0 := part_k ht (by decide) pa_0 (lev_1 ht).1 (lev_1 ht).2 px_0 py_0
  have s : LV b L S0 T0 4 0 f_X6_readSum_k0 := lv_loop (l := l_X6_readSum_k0_7) ht (lv_part p) (by decide) (by decide) (by decide) l1_X6_readSum_k0 l2_X6_readSum_k0 (fun _ => rfl)
  have c : LV b L S0 T0 3 0 f_X6_readComparison_k0 := lv_cmp ht s c1_0 c2_0
  have j : LV b L S0 T0 2 0 f_X6_readConjunction_k0 := lv_loop (l := l_X6_readConjunction_k0_7) ht c (by decide) (by decide) (by decide) l1_X6_readConjunction_k0 l2_X6_readConjunction_k0 (fun _ => rfl)
  exact ⟨p, lv_loop (l := l_X6_readText_k0_7) ht j (by decide) (by decide) (by decide) l1_X6_readText_k0 l2_X6_readText_k0 (fun _ => rfl)⟩
end
section
/-! ===== pure: a whole text; a law ===== -/
section LAWT
variable {K : Nat → Nat} {S T S' T' : FS} {b : Nat → Int32} {L : Nat} {za zb : Int32}
theorem tape_ok (ht : TP b L S T) : (∃ (q : Nat) (S' T' : FS), q ≤ 60 ∧ f_X6_readTape S = some (nI q, S') ∧ CK S S' ∧ f_X12_reads T = some (0, T') ∧ T'.1 12 = nI q ∧ MK T T') ∨ ∃ (u : Nat) (S' T' : FS), u ≤ 60 ∧ f_X6_readTape S = some (-1, S') ∧ CK S S' ∧ S'.1 28 = nI u ∧ f_X12_reads T = some (1, T') ∧ MK T T' ∧ T'.1 10 = nI u ∧ (∀ j : Nat, j < u → cdM (S'.2 29 j) (T'.2 60 j)) ∧ cdH (S'.2 29) u = some 1 := by
  have hL := ht.1
  have hC : CO S 0 0 (wI (wI (wI S 28 0) 105 0) 106 (-1)) := by
    refine ⟨⟨fun k k1 k2 k3 => ?_, fun _ _ => rfl, 0, by omega, ?_⟩, ?_, wI_e, ?_⟩
    · rw [wI_n k3, wI_n k2, wI_n k1]
    · rw [wI_n (by decide), wI_n (by decide), wI_e]; rfl
    · rw [wI_n (by decide), wI_e]; rfl
    · rw [wI_n (by decide), wI_n (by decide), wI_e]; rfl
  have hM : MO T 0 0 0 (wI (wI (wI T 10 0) 11 0) 12 0) := by
    refine ⟨⟨fun k k1 k2 k3 => ?_, fun _ _ _ => rfl⟩, wI_e, ?_, ?_⟩
    · rw [wI_n k3, wI_n k2, wI_n k1]
    · rw [wI_n (by decide), wI_n (by decide), wI_e]; rfl
    · rw [wI_n (by decide), wI_e]; rfl
  have hat : AT L S T 0 0 0 0 (wI (wI (wI S 28 0) 105 0) 106 (-1)) (wI (wI (wI T 10 0) 11 0) 12 0) := ⟨hC, hM, ⟨Nat.le_refl _, Nat.zero_le _, Nat.le_refl _⟩, fun j hj => absurd hj (Nat.not_lt_zero _), rfl⟩
  obtain ⟨S5, e, r⟩ := (lev_0 ht).2 0 0 0 0 _ _ hat (Or.inl rfl) rfl
  have ec : f_X6_readTape S = if S5.1 105 < S5.1 24 then fb (f_X6_fail S5) (fun r8 => some (r8.2.1 106, r8.2)) else some (S5.1 106, S5) := by
    unfold f_X6_readTape
    rw [fl_s, fl_s, fl_s, e, fb_s]
  have em : f_X12_reads T = l_X12_reads_17 FU (wI (wI (wI T 10 0) 11 0) 12 0) 1 := by
    unfold f_X12_reads
    rw [fl_s, fl_s, fl_s]
  rcases r with ⟨q, n, T1, ⟨b1, b2, b3⟩, b4, b5, b6, b7⟩ | ⟨q, n, um, hm, T1, ⟨g1, g2⟩, g3, g4, g5⟩
  · left
    rw [show FU = n + (5000 - n) from by show 5000 = _; omega, b5] at em
    by_cases c : S5.1 105 < S5.1 24
    · obtain ⟨S6, f1, f2⟩ := fail_b ht b4
      rw [if_pos c, f1, fb_s] at ec
      have ec' : f_X6_readTape S = some (S6.1 106, S6) := ec
      rw [f2.2.2] at ec'
      exact ⟨q, S6, T1, by omega, ec', f2.1, em, b6, b7⟩
    · rw [if_neg c] at ec
      rcases b4 with b4 | ⟨⟨d1, -⟩, d2, d3, d4, -⟩
      · rw [b4.2.2] at ec
        exact ⟨q, S5, T1, by omega, ec, b4.1, em, b6, b7⟩
      · rw [d2, d1 24 (by decide) (by decide) (by decide), ht.2.1.1] at c
        exact absurd (nI_lt d4 (by omega)) c
  · have g4' := g4
    obtain ⟨⟨a1, a2, a3⟩, a4, a5, a6, a7, a8, a9, a10⟩ := g4
    have no : ¬ hO (T1.2 61) hm := fun z => by
      obtain ⟨j, j1, j2⟩ := z
      have := (a10 j (Nat.zero_le _) j1).1
      rw [j2] at this
      exact absurd this (by decide)
    rw [show FU = n + (1 + (4999 - n)) from by show 5000 = _; omega, g3] at em
    have e24 : S5.1 24 = nI L := (a4.1.1 24 (by decide) (by decide) (by decide)).trans ht.2.1.1
    by_cases c : q < L
    · left
      rw [tail_b ht g4' g5 (Or.inr ⟨c, fun _ => no⟩)] at em
      obtain ⟨S6, f1, f2⟩ := fail_o a4 (by omega)
      rw [a4.2.1, e24, if_pos (nI_lt c (by omega)), f1, fb_s] at ec
      have ec' : f_X6_readTape S = some (S6.1 106, S6) := ec
      rw [f2.2.2] at ec'
      exact ⟨q, S6, T1, by omega, ec', f2.1, em, a5.2.1, a5.1⟩
    · right
      rw [a4.2.1, e24, if_neg (nI_nlt (by omega) (by omega)), a4.2.2.1] at ec
      obtain ⟨T2, t1, t2, t3, t4, t5⟩ := sdn_o (r := 1) (h := 0) a5 (Nat.zero_le _) (by omega) (fun j j1 j2 => by
        have := (a10 j j1 j2).1
        rw [show (1 : Int32) = nI 1 from rfl, rk_lt (by omega)]; omega) (Or.inl rfl)
      have hb : bt b L q = -1 := if_neg c
      rw [Nat.add_comm 1, l_X12_reads_17, byt_o ht a5 (by omega), fb_s, if_pos rfl, hb, if_pos (by decide)] at em
      rcases ho_o a5 (by omega) with ⟨z1, -⟩ | ⟨-, z2⟩
      · exact absurd z1 no
      · rw [z2, fb_s, if_pos rfl, t1, fb_s] at em
        refine ⟨um + (hm - 0), S5, T2, by omega, ec, a4.1, a4.2.2.2, em, t2.1, t2.2.2.1, fun j hj => ?_, a8⟩
        by_cases z : j < um
        · rw [t4 j z]; exact a6 j z
        · have e1 := t5 (j - um) (by omega)
          have e2 := a7 (j - um) (by omega)
          rw [show um + (j - um) = j by omega] at e1 e2
          rw [e1]; exact e2
/-- the codes go over -/
theorem cpy_c {l u : Nat} {r6 : Int32 × FS} (hl : l < 12) (hu : u ≤ 60) (hr : r6.1 = nI l) : ∀ (m i : Nat) (S : FS), i ≤ u → u - i < m → ∃ S' : FS, (∀ k : FS → Int32 → Option (Int32 × FS), l_X2_enact_118 r6 (nI u) k m S (nI i) = k S' (nI u)) ∧ S'.1 = S.1 ∧ (∀ a : Nat, a ≠ 13 → S'.2 a = S.2 a) ∧ (∀ j : Nat, j < 60 * l + i → S'.2 13 j = S.2 13 j) ∧ ∀ t : Nat, i ≤ t → t < u → S'.2 13 (60 * l + t) = S.2 29 t := by
  intro m
  induction m with
  | zero => intro i S _ h0; exact absurd h0 (Nat.not_lt_zero _)
  | succ m ih =>
    intro i S hi hf
    by_cases c : i < u
    · have ew : fP 12 12 60 S r6.1 (nI i) (fG 28 60 1 S (nI i) 0) = wA S 13 (60 * l + i) (S.2 29 i) := by
        rw [hr, g28_0 (by omega)]
        exact (fP_nI (by decide) (by decide) (by decide) hl (by omega)).trans (congrArg (fun q => wA S 13 q (S.2 29 i)) (by omega))
      obtain ⟨S', e1, e2, e3, e4, e5⟩ := ih (i + 1) (wA S 13 (60 * l + i) (S.2 29 i)) (by omega) (by omega)
      refine ⟨S', fun k => ?_, e2.trans wA_1, fun a ha => (e3 a ha).trans (wA_n ha), fun j hj => ?_, fun t t1 t2 => ?_⟩
      · rw [l_X2_enact_118, if_pos (nI_lt c (by omega)), ew, fl_s, nI_1]; exact e1 k
      · rw [e4 j (by omega), wA_e, pk_un (by omega)]
      · by_cases z : t = i
        · subst z; rw [e4 _ (by omega), wA_e, pk_us]
        · rw [e5 t (by omega) t2, wA_n (by decide)]
    · obtain rfl : i = u := by omega
      refine ⟨S, fun k => ?_, rfl, fun _ _ => rfl, fun _ _ => rfl, fun t t1 t2 => absurd t2 (by omega)⟩
      rw [l_X2_enact_118, if_neg (nI_nlt (Nat.le_refl _) (by omega))]
theorem cpy_m {l u : Nat} {x : Int32} (hl : l < 12) (hu : u ≤ 60) (hx : x = (510 : Int32) + (65 : Int32) * nI l) : ∀ (m i : Nat) (T : FS), i ≤ u → u - i < m → T.1 10 = nI u → ∃ T' : FS, (∀ k : FS → Int32 → Option (Int32 × FS), l_X12_law_148 x k m T (nI i) = k T' (nI u)) ∧ T'.1 = T.1 ∧ (∀ a : Nat, a ≠ 55 → T'.2 a = T.2 a) ∧ (∀ j : Nat, (j < 65 * l + 515 + i ∨ 65 * l + 515 + u ≤ j) → T'.2 55 j = T.2 55 j) ∧ ∀ t : Nat, i ≤ t → t < u → T'.2 55 (65 * l + (515 + t)) = T.2 60 t := by
  intro m
  induction m with
  | zero => intro i T _ h0; exact absurd h0 (Nat.not_lt_zero _)
  | succ m ih =>
    intro i T hi hf h10
    by_cases c : i < u
    · have ei : ix 2071 ((x + 5) + nI i) = some (65 * l + 515 + i) := by
        rw [hx, show (510 : Int32) = nI 510 from rfl, show (65 : Int32) = nI 65 from rfl, show (5 : Int32) = nI 5 from rfl, pk_mul, nI_add, nI_add, nI_add, show 510 + 65 * l + 5 + i = 65 * l + 515 + i by omega]
        exact ix_nI (by omega) (by decide)
      obtain ⟨T', e1, e2, e3, e4, e5⟩ := ih (i + 1) (wA T 55 (65 * l + 515 + i) (T.2 60 i)) (by omega) (by omega) h10
      refine ⟨T', fun k => ?_, e2.trans wA_1, fun a ha => (e3 a ha).trans (wA_n ha), fun j hj => ?_, fun t t1 t2 => ?_⟩
      · rw [l_X12_law_148, h10, if_pos (nI_lt c (by omega)), ix_nI (show i < 60 by omega) (by decide), fb_s, ei, fb_s, fl_s, nI_1]; exact e1 k
      · rw [e4 j (by omega), wA_e, pk_un (by omega)]
      · by_cases z : t = i
        · subst z; rw [e4 _ (by omega), wA_e, show 65 * l + (515 + t) = 65 * l + 515 + t by omega, pk_us]
        · rw [e5 t (by omega) t2, wA_n (by decide)]
    · obtain rfl : i = u := by omega
      refine ⟨T, fun k => ?_, rfl, fun _ _ => rfl, fun _ _ => rfl, fun t t1 t2 => absurd t2 (by omega)⟩
      rw [l_X12_law_148, h10, if_neg (nI_nlt (Nat.le_refl _) (by omega))]
theorem law_c {l u d8 : Nat} (hl : l < 12) (hu : u ≤ 60) (hr : f_X6_readTape S = some (-1, S')) (k10 : S'.1 10 = nI l) (k28 : S'.1 28 = nI u) (k102 : S'.1 102 = nI d8) : ∃ S1 : FS, f_X2_enact S za zb = some (nI l, S1) ∧ (∀ k : Nat, k ≠ 10 → k ≠ 24 → S1.1 k = S'.1 k) ∧ S1.1 10 = nI (l + 1) ∧ S1.1 24 = 0 ∧ (∀ a : Nat, a ≠ 11 → a ≠ 13 → S1.2 a = S'.2 a) ∧ (∀ j : Nat, j < 6 * l → S1.2 11 j = S'.2 11 j) ∧ (S1.2 11 (6 * l) = za ∧ S1.2 11 (6 * l + 1) = zb ∧ S1.2 11 (6 * l + 2) = nI d8 ∧ S1.2 11 (6 * l + 3) = -1 ∧ S1.2 11 (6 * l + 4) = nI u) ∧ (∀ j : Nat, j < 60 * l → S1.2 13 j = S'.2 13 j) ∧ ∀ t : Nat, t < u → S1.2 13 (60 * l + t) = S'.2 29 t := by
  have e10 : (wI S' 24 0).1 10 = nI l := (wI_n (by decide)).trans k10
  have e28 : (ui (wI S' 24 0).1 10 (nI (l + 1))) 28 = nI u := (ui_ne (by decide)).trans ((wI_n (by decide)).trans k28)
  have e102 : (ui (wI S' 24 0).1 10 (nI (l + 1))) 102 = nI d8 := (ui_ne (by decide)).trans ((wI_n (by decide)).trans k102)
  generalize hA : ((ui (wI S' 24 0).1 10 (nI (l + 1)), ua (wI S' 24 0).2 (10 + 1) (pm_apf 6 l za ((wI S' 24 0).2 (10 + 1)))) : FS) = A
  have a28 : A.1 28 = nI u := by rw [← hA]; exact e28
  have a102 : A.1 102 = nI d8 := by rw [← hA]; exact e102
  have a10 : A.1 10 = nI (l + 1) := by
    rw [← hA]
    show ui (wI S' 24 0).1 10 (nI (l + 1)) 10 = _
    exact ui_eq
  have a24 : A.1 24 = 0 := by
    rw [← hA]
    show ui (wI S' 24 0).1 10 (nI (l + 1)) 24 = _
    exact (ui_ne (by decide)).trans wI_e
  have ak : ∀ k : Nat, k ≠ 10 → k ≠ 24 → A.1 k = S'.1 k := fun k k1 k2 => by rw [← hA]; exact (ui_ne k1).trans (wI_n k2)
  have aa : ∀ a : Nat, a ≠ 11 → A.2 a = S'.2 a := fun a a1 => by rw [← hA]; exact ua_ne a1
  have a11 : A.2 11 = pm_apf 6 l za (S'.2 11) := by
    rw [← hA]
    show ua (wI S' 24 0).2 (10 + 1) (pm_apf 6 l za ((wI S' 24 0).2 (10 + 1))) 11 = _
    exact ua_eq
  obtain ⟨S3, c1, c2, c3, c4, c5⟩ := cpy_c (r6 := (nI l, A)) hl hu rfl FU 0 (wA (wA (wA (wA A 11 (6 * l + 1) zb) 11 (6 * l + 2) (nI d8)) 11 (6 * l + 3) (-1)) 11 (6 * l + 4) (nI u)) (Nat.zero_le _) (FU_lt (by omega))
  have s28 : S3.1 28 = nI u := by rw [c2]; exact a28
  obtain ⟨x17, hx⟩ : ∃ x17 : Int32, qRows 28 60 1 S3 0 (-30) = some x17 := by
    unfold qRows
    rw [s28, iN_nI (by decide) hu, fb_s]
    exact ⟨_, rfl⟩
  have f11 : S3.2 11 = upd (upd (upd (upd (pm_apf 6 l za (S'.2 11)) (6 * l + 1) zb) (6 * l + 2) (nI d8)) (6 * l + 3) (-1)) (6 * l + 4) (nI u) := by
    rw [c3 11 (by decide), wA_e, wA_e, wA_e, wA_e, a11]
  refine ⟨wA S3 11 (6 * l + 5) x17, ?_, fun k k1 k2 => ?_, ?_, ?_, fun a a1 a2 => ?_, fun j hj => ?_, ⟨?_, ?_, ?_, ?_, ?_⟩, fun j hj => ?_, fun t ht => ?_⟩
  · unfold f_X2_enact
    rw [hr, fb_s]
    show fl (wI S' 24 0) (fun S3 => if (-1 : Int32) < 0 then _ else _) = _
    rw [fl_s, if_pos (by decide), fApp_f e10 hl (by decide), fb_s]
    show fv ((((ui (wI S' 24 0).1 10 (nI (l + 1)), ua (wI S' 24 0).2 (10 + 1) (pm_apf 6 l za ((wI S' 24 0).2 (10 + 1)))) : FS)).1 28) _ = _
    rw [hA, fv_s, a28]
    show fl (fP 10 12 6 A (nI l) 1 zb) _ = _
    rw [s10_1 hl, fl_s, s10_2 hl, fl_s, s10_3 hl, fl_s, s10_4 hl, fl_s]
    rw [show (wA A 11 (6 * l + 1) zb).1 102 = nI d8 from a102]
    refine (c1 _).trans ?_
    show fb (qRows 28 60 1 S3 0 (-30)) _ = _
    rw [hx, fb_s]
    show fl (fP 10 12 6 S3 (nI l) 5 x17) _ = _
    rw [s10_5 hl, fl_s]
  · rw [wA_1, c2]; exact ak k k1 k2
  · rw [wA_1, c2]; exact a10
  · rw [wA_1, c2]; exact a24
  · rw [wA_n a1, c3 a a2, wA_n a1, wA_n a1, wA_n a1, wA_n a1]; exact aa a a1
  · rw [wA_e, f11]; simp (disch := omega) only [pk_un, apf_o]
  · rw [wA_e, f11]; simp (disch := omega) only [pk_un, apf_0]
  · rw [wA_e, f11]; simp (disch := omega) only [pk_un, pk_us]
  · rw [wA_e, f11]; simp (disch := omega) only [pk_un, pk_us]
  · rw [wA_e, f11]; simp (disch := omega) only [pk_un, pk_us]
  · rw [wA_e, f11]; simp (disch := omega) only [pk_un, pk_us]
  · rw [wA_n (by decide), c4 j (by omega), wA_n (by decide), wA_n (by decide), wA_n (by decide), wA_n (by decide), aa 13 (by decide)]
  · rw [wA_n (by decide), c5 t (Nat.zero_le _) ht, wA_n (by decide), wA_n (by decide), wA_n (by decide), wA_n (by decide), aa 29 (by decide)]
theorem law_m {l u : Nat} (hl : l < 12) (hu : u ≤ 60) (h10 : T'.1 10 = nI u) (h4 : T'.2 55 4 = nI l) : ∃ T1 : FS, (fl (wA T' 55 10 0) (fun S9 => fv (510 + (65 * nI l)) (fun x11 =>
     fl (wA S9 55 4 ((S9.2 55 4) + 1)) (fun S12 =>
     fb (ix 2071 x11) (fun j13 =>
     fl (wA S12 55 j13 za) (fun S14 =>
     fb (ix 2071 (x11 + 1)) (fun j15 =>
     fl (wA S14 55 j15 zb) (fun S16 =>
     fb (ix 2071 (x11 + 2)) (fun j17 =>
     fl (wA S16 55 j17 (S16.2 55 8)) (fun S18 =>
     fb (ix 2071 (x11 + 3)) (fun j19 =>
     fl (wA S18 55 j19 (-1)) (fun S20 =>
     fb (ix 2071 (x11 + 4)) (fun j21 =>
     fl (wA S20 55 j21 (S20.1 10)) (fun S22 =>
     l_X12_law_148 x11 (fun S28 x28_6 =>
     some (nI l, S28)) FU S22 0)))))))))))))) = some (nI l, T1) ∧ T1.1 = T'.1 ∧ (∀ a : Nat, a ≠ 55 → T1.2 a = T'.2 a) ∧ (∀ j : Nat, j ≠ 4 → j ≠ 10 → (j < 65 * l + 510 ∨ 65 * l + 575 ≤ j) → T1.2 55 j = T'.2 55 j) ∧ T1.2 55 4 = nI (l + 1) ∧ T1.2 55 10 = 0 ∧ (T1.2 55 (65 * l + 510) = za ∧ T1.2 55 (65 * l + 511) = zb ∧ T1.2 55 (65 * l + 512) = T'.2 55 8 ∧ T1.2 55 (65 * l + 513) = -1 ∧ T1.2 55 (65 * l + 514) = nI u) ∧ ∀ t : Nat, t < u → T1.2 55 (65 * l + (515 + t)) = T'.2 60 t := by
  have w4 : (wA T' 55 10 0).2 55 4 + 1 = nI (l + 1) := by rw [wA_e, pk_un (by decide), h4, nI_1]
  generalize hA : wA (wA (wA T' 55 10 0) 55 4 (nI (l + 1))) 55 (65 * l + 510) za = A
  have w8 : (wA A 55 (65 * l + 511) zb).2 55 8 = T'.2 55 8 := by
    rw [← hA, wA_e, wA_e, wA_e, wA_e]; simp (disch := omega) only [pk_un]
  have w10 : (wA (wA (wA A 55 (65 * l + 511) zb) 55 (65 * l + 512) (T'.2 55 8)) 55 (65 * l + 513) (-1)).1 10 = nI u := by
    rw [wA_1, wA_1, wA_1, ← hA, wA_1, wA_1, wA_1]; exact h10
  generalize hB : wA (wA (wA (wA A 55 (65 * l + 511) zb) 55 (65 * l + 512) (T'.2 55 8)) 55 (65 * l + 513) (-1)) 55 (65 * l + 514) (nI u) = B
  have b1 : B.1 = T'.1 := by rw [← hB, ← hA]; rfl
  have b2 : ∀ a : Nat, a ≠ 55 → B.2 a = T'.2 a := fun a ha => by rw [← hB, wA_n ha, wA_n ha, wA_n ha, wA_n ha, ← hA, wA_n ha, wA_n ha, wA_n ha]
  have b3 : B.2 55 = upd (upd (upd (upd (upd (upd (upd (T'.2 55) 10 0) 4 (nI (l + 1))) (65 * l + 510) za) (65 * l + 511) zb) (65 * l + 512) (T'.2 55 8)) (65 * l + 513) (-1)) (65 * l + 514) (nI u) := by
    rw [← hB, wA_e, wA_e, wA_e, wA_e, ← hA, wA_e, wA_e, wA_e]
  obtain ⟨T1, c1, c2, c3, c4, c5⟩ := cpy_m (l := l) (u := u) hl hu rfl FU 0 B (Nat.zero_le _) (FU_lt (by omega)) (by rw [b1]; exact h10)
  refine ⟨T1, ?_, c2.trans b1, fun a ha => (c3 a ha).trans (b2 a ha), fun j j1 j2 j3 => ?_, ?_, ?_, ⟨?_, ?_, ?_, ?_, ?_⟩, fun t ht => ?_⟩
  · rw [fl_s, fv_s, w4, fl_s, ixL_0 hl, fb_s, hA, fl_s, ixL_1 hl, fb_s, fl_s, ixL_2 hl, fb_s, w8, fl_s, ixL_3 hl, fb_s, fl_s, ixL_4 hl, fb_s, w10, hB, fl_s]
    exact c1 _
  · rw [c4 j (by omega), b3]; simp (disch := omega) only [pk_un]
  · rw [c4 4 (by omega), b3]; simp (disch := omega) only [pk_un, pk_us]
  · rw [c4 10 (by omega), b3]; simp (disch := omega) only [pk_un, pk_us]
  · rw [c4 _ (by omega), b3]; simp (disch := omega) only [pk_un, pk_us]
  · rw [c4 _ (by omega), b3]; simp (disch := omega) only [pk_un, pk_us]
  · rw [c4 _ (by omega), b3]; simp (disch := omega) only [pk_un, pk_us]
  · rw [c4 _ (by omega), b3]; simp (disch := omega) only [pk_un, pk_us]
  · rw [c4 _ (by omega), b3]; simp (disch := omega) only [pk_un, pk_us]
  · rw [c5 t (Nat.zero_le _) ht, b2 60 (by decide)]
theorem CK.ce (h : CK S S') : CE S S' := by
  have a := h.2.1
  refine ⟨⟨⟨a 49 (by decide), a 50 (by decide), a 52 (by decide), a 47 (by decide)⟩, h.1 115 (by decide) (by decide) (by decide), h.1 100 (by decide) (by decide) (by decide)⟩, fun k hk => ?_, fun q hq => a q (fun e => by subst e; revert hq; decide)⟩
  exact h.1 k (fun e => by subst e; revert hk; decide) (fun e => by subst e; revert hk; decide) (fun e => by subst e; revert hk; decide)
theorem op_law (h : RelR K S (T.2 55)) : OK2 S T (f_X11_law S za zb) (f_X12_law T za zb) := by
  unfold f_X11_law f_X12_law p_X12_isDay
  simp only [fb_id]
  obtain ⟨k1, k2, c4⟩ := h.ct 10 4 12 (by decide)
  obtain ⟨t1, t2, c10⟩ := h.ct 24 10 60 (by decide)
  obtain ⟨d1, d2, d3⟩ := h.ct 102 8 2000 (by decide)
  rcases out_c za 0 4 with ⟨a1, a2⟩ | ⟨a1, a2⟩
  · rcases out_c zb 0 2000 with ⟨b1, b2⟩ | ⟨b1, b2⟩
    · simp only [a1, a2, b1, b2, i10, ↓reduceIte]
      rw [fv_s, k2]
      by_cases c : K 4 = 12
      · rw [fFull_t k1 (by omega) (by omega), if_neg (by decide), if_pos (by rw [c]; rfl)]; exact ok_4 h
      · rw [fFull_f k1 (by omega) (by decide), if_pos rfl, if_neg (fun q => c (nI_inj (by omega) (by decide) (q.trans (show (12 : Int32) = nI 12 from rfl))))]
        have hl : K 4 < 12 := by omega
        have ht : TP (fun j => T.2 55 (j + 1991)) (K 10) S T := ⟨c10, ⟨t1, fun j hj => (h.ta j hj).1⟩, ⟨t2, fun _ _ => rfl⟩, fun j hj => (h.ta j hj).2⟩
        have h0 : ∀ {S' : FS}, CE S S' → RelR (kU K 10 0) (wI S' 24 0) (upd (T.2 55) 10 0) := fun {S'} ce => by
          refine (h.ce ce).onA_10z (CQ.rf.wI (Or.inr rfl) (by decide) (by decide)) (NQ.rf.w (Or.inr (Or.inr rfl))) (fun i hi => kU_n hi) ?_ (onct 24 10 60 (by decide) ?_ ?_ (by rw [kU_e]; omega)) ?_
          · rw [wI_n (by decide), pk_un (by decide)]; exact (h.ce ce).1.2
          · rw [wI_e, kU_e]; rfl
          · rw [pk_us, kU_e]; rfl
          · intro j hj; rw [kU_e] at hj; exact absurd hj (Nat.not_lt_zero _)
        rcases tape_ok ht with ⟨q, S', T', q60, r1, r2, r3, r4, r5⟩ | ⟨u, S', T', u60, r1, r2, r3, r4, r5, r6, r7, r8⟩
        · have e1 : f_X2_enact S za zb = some (-10 - nI q, wI S' 24 0) := by
            unfold f_X2_enact
            rw [r1, fb_s]
            show fl (wI S' 24 0) (fun S3 => if nI q < 0 then _ else some (-10 - nI q, S3)) = _
            rw [fl_s, if_neg (nI_pos (by omega))]
          rw [e1, r3, fb_s, fb_s]
          show OK2 S T (f_X11_told (wI S' 24 0) (-10 - nI q)) (fl (wA T' 55 10 0) (fun S9 => if (0 : Int32) = 0 then some (-10 - S9.1 12, S9) else _))
          rw [fl_s, if_pos rfl, show (wA T' 55 10 0).1 12 = nI q from r4]
          refine okt (K := kU K 10 0) ?_ (r2.ce.1.tr (CQ.rf.wI (as := []) (s := 24) (Or.inr rfl) (by decide) (by decide)).1) ⟨⟨?_, ?_, ?_, ?_, ?_⟩, ?_, ?_⟩
          · rw [wA_e, r5.2 55 (by decide) (by decide)]; exact h0 r2.ce
          · rw [wA_n (by decide)]; exact r5.2 56 (by decide) (by decide)
          · rw [wA_n (by decide)]; exact r5.2 69 (by decide) (by decide)
          · rw [wA_n (by decide)]; exact r5.2 70 (by decide) (by decide)
          · rw [wA_n (by decide)]; exact r5.2 71 (by decide) (by decide)
          · rw [wA_n (by decide)]; exact r5.2 72 (by decide) (by decide)
          · exact r5.1 22 (by decide) (by decide) (by decide)
          · exact r5.1 3 (by decide) (by decide) (by decide)
        · have q10 : S'.1 10 = nI (K 4) := (r2.1 10 (by decide) (by decide) (by decide)).trans k1
          have q102 : S'.1 102 = nI (K 8) := (r2.1 102 (by decide) (by decide) (by decide)).trans d1
          have e55 : T'.2 55 = T.2 55 := r5.2 55 (by decide) (by decide)
          obtain ⟨S1, s1, s2, s3, s4, s5, s6, ⟨s7, s8, s9, s10, s11⟩, s12, s13⟩ := law_c (za := za) (zb := zb) hl u60 r1 q10 r3 q102
          obtain ⟨T1, m1, m2, m3, m4, m5, m6, ⟨m7, m8, m9, m10, m11⟩, m12⟩ := law_m (za := za) (zb := zb) hl u60 r6 (by rw [e55]; exact k2)
          rw [s1, r4, fb_s, fb_s]
          have em : fl (wA T' 55 10 0) (fun S9 => if (1 : Int32) = 0 then some (-10 - S9.1 12, S9) else fv (510 + (65 * nI (K 4))) (fun x11 => fl (wA S9 55 4 ((S9.2 55 4) + 1)) (fun S12 => fb (ix 2071 x11) (fun j13 => fl (wA S12 55 j13 za) (fun S14 => fb (ix 2071 (x11 + 1)) (fun j15 => fl (wA S14 55 j15 zb) (fun S16 => fb (ix 2071 (x11 + 2)) (fun j17 => fl (wA S16 55 j17 (S16.2 55 8)) (fun S18 => fb (ix 2071 (x11 + 3)) (fun j19 => fl (wA S18 55 j19 (-1)) (fun S20 => fb (ix 2071 (x11 + 4)) (fun j21 => fl (wA S20 55 j21 (S20.1 10)) (fun S22 => l_X12_law_148 x11 (fun S28 x28_6 => some (nI (K 4), S28)) FU S22 0))))))))))))) = some (nI (K 4), T1) := by
            rw [← m1, fl_s, fl_s, if_neg (by decide)]
          show OK2 S T (f_X11_told S1 (nI (K 4))) (fl (wA T' 55 10 0) _)
          refine (show OK2 S T (f_X11_told S1 (nI (K 4))) (some (nI (K 4), T1)) → _ from fun z => ?_) ?_
          · rw [← em] at z; exact z
          rw [e55] at m4 m9
          have hce := r2.ce
          have cq : CQ [11, 13] 10 (wI S' 24 0) S1 := by
            refine ⟨⟨⟨s5 49 (by decide) (by decide), s5 50 (by decide) (by decide), s5 52 (by decide) (by decide), s5 47 (by decide) (by decide)⟩, (s2 115 (by decide) (by decide)).trans (wI_n (by decide)).symm, (s2 100 (by decide) (by decide)).trans (wI_n (by decide)).symm⟩, fun k hk k3 k4 => ?_, fun q hq hn => ?_⟩
            · by_cases z : k = 24
              · subst z; rw [s4, wI_e]
              · rw [s2 k k4 z, wI_n z]
            · exact s5 q (fun e => hn (by rw [e]; decide)) (fun e => hn (by rw [e]; decide))
          refine okt (K := kU (kU K 10 0) 4 (K 4 + 1)) ?_ (hce.1.tr ⟨⟨s5 49 (by decide) (by decide), s5 50 (by decide) (by decide), s5 52 (by decide) (by decide), s5 47 (by decide) (by decide)⟩, s2 115 (by decide) (by decide), s2 100 (by decide) (by decide)⟩) ⟨⟨(m3 56 (by decide)).trans (r5.2 56 (by decide) (by decide)), (m3 69 (by decide)).trans (r5.2 69 (by decide) (by decide)), (m3 70 (by decide)).trans (r5.2 70 (by decide) (by decide)), (m3 71 (by decide)).trans (r5.2 71 (by decide) (by decide)), (m3 72 (by decide)).trans (r5.2 72 (by decide) (by decide))⟩, by rw [m2]; exact r5.1 22 (by decide) (by decide) (by decide), by rw [m2]; exact r5.1 3 (by decide) (by decide) (by decide)⟩
          have e8 : kU (kU K 10 0) 4 (K 4 + 1) 8 = K 8 := (kU_n (by decide)).trans (kU_n (by decide))
          refine (h0 hce).onL_4 cq (fun j j1 j2 j3 => ?_) (fun i hi => kU_n hi) ?_ ?_ (onct 10 4 12 (by decide) ?_ ?_ ?_) ?_
          · by_cases z : j = 10
            · subst z; rw [m6, pk_us]
            · rw [m4 j j3 z (by omega), pk_un z]
          · rw [kU_e, kU_n (by decide)]; omega
          · rw [s2 103 (by decide) (by decide), m4 9 (by decide) (by decide) (by omega)]; exact (h.ce hce).1.2
          · rw [s3, kU_e]
          · rw [m5, kU_e]
          · rw [kU_e]; omega
          · intro m hm
            rw [kU_e] at hm
            rw [e8]
            by_cases z : m = K 4
            · subst z
              rw [s7, s8, s9, s10, s11, m7, m8, m9, m10, m11, d2]
              refine ⟨⟨rfl, rfl, rfl, rfl⟩, ⟨K 8, Nat.le_refl _, rfl, fun l' hl' => ?_⟩, Or.inl rfl, u, u60, rfl, rfl, fun i hi => ?_, ?_⟩
              · obtain ⟨-, ⟨d, g2, g3, -⟩, -⟩ := h.la l' hl'
                exact ⟨d, g2, by rw [m4 _ (by omega) (by omega) (by omega)]; exact g3⟩
              · rw [s13 i hi, m12 i hi]; exact r7 i hi
              · rw [← r8]; exact cdH_cg u (fun i hi => s13 i hi)
            · obtain ⟨g1, ⟨d, g2, g3, g4⟩, g5, e, g6, g7, g8, g9, g10⟩ := h.la m (by omega)
              have sn : ∀ j : Nat, j < 6 * K 4 → S1.2 11 j = S.2 11 j := fun j hj => (s6 j hj).trans (by rw [r2.2.1 11 (by decide)])
              have s3n : ∀ i : Nat, i < e → S1.2 13 (60 * m + i) = S.2 13 (60 * m + i) := fun i hi => (s12 _ (by omega)).trans (by rw [r2.2.1 13 (by decide)])
              have mn : ∀ j : Nat, 510 ≤ j → j < 65 * K 4 + 510 → T1.2 55 j = T.2 55 j := fun j j1 j2 => m4 j (by omega) (by omega) (by omega)
              rw [sn _ (by omega), sn _ (by omega), sn _ (by omega), sn _ (by omega), sn _ (by omega), mn _ (by omega) (by omega), mn _ (by omega) (by omega), mn _ (by omega) (by omega), mn _ (by omega) (by omega), mn _ (by omega) (by omega)]
              refine ⟨g1, ⟨d, g2, g3, fun l' hl' => ?_⟩, g5, e, g6, g7, g8, fun i hi => ?_, ?_⟩
              · rw [mn _ (by omega) (by omega)]; exact g4 l' hl'
              · rw [s3n i hi, mn _ (by omega) (by omega)]; exact g9 i hi
              · rw [← g10]; exact cdH_cg e (fun i hi => s3n i hi)
    · simp only [a1, a2, b1, b2, i10, ↓reduceIte]; exact ok_1 h
  · simp only [a1, a2, ↓reduceIte]; exact ok_1 h
end LAWT
end
