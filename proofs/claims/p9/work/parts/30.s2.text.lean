/-! ===== pure: texts; what both readers do with a letter ===== -/
section TXT
variable {K : Nat → Nat} {S T S0 T0 : FS} {b : Nat → Int32} {L : Nat}
def bt (b : Nat → Int32) (L p : Nat) : Int32 := if p < L then b p else -1
/-- the tape on both sides -/
def TP (b : Nat → Int32) (L : Nat) (S0 T0 : FS) : Prop := L ≤ 60 ∧ (S0.1 24 = nI L ∧ ∀ j : Nat, j < L → S0.2 25 j = b j) ∧ (T0.2 55 10 = nI L ∧ ∀ j : Nat, j < L → T0.2 55 (j + 1991) = b j) ∧ ∀ j : Nat, j < L → nB 255 (b j)
/-- the class's reader: frames -/
def CK (S0 S : FS) : Prop := (∀ k : Nat, k ≠ 28 → k ≠ 105 → k ≠ 106 → S.1 k = S0.1 k) ∧ (∀ a : Nat, a ≠ 29 → S.2 a = S0.2 a) ∧ ∃ u : Nat, u ≤ 60 ∧ S.1 28 = nI u
def CF (S0 : FS) (q : Nat) (S : FS) : Prop := CK S0 S ∧ q ≤ 60 ∧ S.1 106 = nI q
def CO (S0 : FS) (p u : Nat) (S : FS) : Prop := CK S0 S ∧ S.1 105 = nI p ∧ S.1 106 = -1 ∧ S.1 28 = nI u
def MK (T0 T : FS) : Prop := (∀ k : Nat, k ≠ 10 → k ≠ 11 → k ≠ 12 → T.1 k = T0.1 k) ∧ ∀ a : Nat, a ≠ 60 → a ≠ 61 → T.2 a = T0.2 a
def MO (T0 : FS) (p u h : Nat) (T : FS) : Prop := MK T0 T ∧ T.1 12 = nI p ∧ T.1 10 = nI u ∧ T.1 11 = nI h
theorem nx_o {p u : Nat} (ht : TP b L S0 T0) (h : CO S0 p u S) (hp : p ≤ 60) : p_X6_next S = bt b L p := by
  obtain ⟨⟨h1, h2, -⟩, h3, h4, -⟩ := h
  unfold p_X6_next bt
  rw [h4, if_pos (by decide), h3, h1 24 (by decide) (by decide) (by decide), ht.2.1.1]
  by_cases c : p < L
  · rw [if_pos (nI_lt c (by have := ht.1; omega)), if_pos c, g24_0 (show p < 60 by have := ht.1; omega), h2 25 (by decide), ht.2.1.2 p c]
  · rw [if_neg (nI_nlt (by omega) (by omega)), if_neg c]
theorem nx_f {q : Nat} (h : CF S0 q S) : p_X6_next S = -1 := by
  unfold p_X6_next
  rw [h.2.2, if_neg (nI_pos (by have := h.2.1; omega))]
theorem fail_f {q : Nat} (h : CF S0 q S) : f_X6_fail S = some (0, S) := by
  unfold f_X6_fail
  rw [h.2.2, if_neg (nI_pos (by have := h.2.1; omega))]
theorem fail_o {p u : Nat} (h : CO S0 p u S) (hp : p ≤ 60) : ∃ S' : FS, f_X6_fail S = some (0, S') ∧ CF S0 p S' := by
  obtain ⟨⟨h1, h2, h5⟩, h3, h4, -⟩ := h
  unfold f_X6_fail
  rw [h4, if_pos (by decide), fl_s, h3]
  exact ⟨_, rfl, ⟨fun k k1 k2 k3 => (wI_n k3).trans (h1 k k1 k2 k3), h2, h5⟩, hp, wI_e⟩
theorem adv_o {p u : Nat} (h : CO S0 p u S) : CO S0 (p + 1) u (wI S 105 (S.1 105 + 1)) ∧ (wI S 105 (S.1 105 + 1)).2 = S.2 := by
  obtain ⟨⟨h1, h2, h5⟩, h3, h4, h6⟩ := h
  exact ⟨⟨⟨fun k k1 k2 k3 => (wI_n k2).trans (h1 k k1 k2 k3), h2, h5⟩, by rw [wI_e, h3, nI_1], h4, h6⟩, rfl⟩
theorem ap_o {u k : Nat} {x : Int32} (h : k ≠ 28) : ((ui S.1 28 (nI (u + 1)), ua S.2 (28 + 1) (pm_apf 1 u x (S.2 (28 + 1)))) : FS).1 k = S.1 k := ui_ne h
theorem app_o {p u : Nat} {x : Int32} (h : CO S0 p u S) (hu : u < 60) : ∃ S' : FS, fApp 28 60 1 S x = some (nI u, S') ∧ CO S0 p (u + 1) S' ∧ (∀ j : Nat, j < u → S'.2 29 j = S.2 29 j) ∧ S'.2 29 u = x := by
  obtain ⟨⟨h1, h2, h5⟩, h3, h4, h6⟩ := h
  refine ⟨_, fApp_f h6 hu (by decide), ⟨⟨fun k k1 k2 k3 => (ui_ne k1).trans (h1 k k1 k2 k3), fun a ha => (ua_ne ha).trans (h2 a ha), u + 1, by omega, (show ui S.1 28 (nI (u + 1)) 28 = _ from ui_eq)⟩, (ap_o (k := 105) (by decide)).trans h3, (ap_o (k := 106) (by decide)).trans h4, (show ui S.1 28 (nI (u + 1)) 28 = _ from ui_eq)⟩, fun j hj => ?_, ?_⟩
  · show ua S.2 29 (pm_apf 1 u x (S.2 29)) 29 j = _
    rw [ua_eq, apf_o (by omega)]
  · show ua S.2 29 (pm_apf 1 u x (S.2 29)) 29 u = _
    rw [ua_eq, apf_0 (by omega) (by decide)]
theorem app_f {q : Nat} {x : Int32} (h : CF S0 q S) : ∃ (v : Int32) (S' : FS), fApp 28 60 1 S x = some (v, S') ∧ CF S0 q S' := by
  obtain ⟨⟨h1, h2, u, h5, h6⟩, hq, h4⟩ := id h
  unfold fApp
  rw [h6, iN_nI (by decide) h5, fb_s]
  by_cases c : u = 60
  · rw [if_pos c]; exact ⟨_, _, rfl, h⟩
  · rw [if_neg c]
    exact ⟨_, _, rfl, ⟨fun k k1 k2 k3 => (ui_ne k1).trans (h1 k k1 k2 k3), fun a ha => (ua_ne ha).trans (h2 a ha), u + 1, by omega, (show ui S.1 28 (nI (u + 1)) 28 = _ from ui_eq)⟩, hq, (ap_o (k := 106) (by decide)).trans h4⟩
/-! the model -/
theorem byt_o {p u h : Nat} (ht : TP b L S0 T0) (hm : MO T0 p u h T) (hp : p ≤ 60) : q_X12_byteAt T (T.1 12) = some (bt b L p) := by
  obtain ⟨⟨h1, h2⟩, h3, -⟩ := hm
  unfold q_X12_byteAt bt
  rw [h3, h2 55 (by decide) (by decide), ht.2.2.1.1]
  by_cases c : p < L
  · rw [if_pos (nI_lt c (by have := ht.1; omega)), if_pos c, show (1991 : Int32) + nI p = nI (p + 1991) from (nI_add 1991 p).trans (congrArg nI (by omega)), ix_nI (by omega) (by decide), fb_s, ht.2.2.1.2 p c]
  · rw [if_neg (nI_nlt (by omega) (by omega)), if_neg c]
theorem lay_o {p u h : Nat} {x : Int32} (hm : MO T0 p u h T) (hu : u < 60) : ∃ T' : FS, f_X12_lays T x = some (0, T') ∧ MO T0 p (u + 1) h T' ∧ T'.2 61 = T.2 61 ∧ (∀ j : Nat, j < u → T'.2 60 j = T.2 60 j) ∧ T'.2 60 u = x := by
  obtain ⟨⟨h1, h2⟩, h3, h4, h5⟩ := hm
  unfold f_X12_lays
  rw [h4, ix_nI hu (by decide), fb_s, fl_s, fl_s]
  refine ⟨_, rfl, ⟨⟨fun k k1 k2 k3 => (wI_n k1).trans (h1 k k1 k2 k3), fun a a1 a2 => (wA_n a1).trans (h2 a a1 a2)⟩, (wI_n (by decide)).trans h3, ?_, (wI_n (by decide)).trans h5⟩, (show (wA T 60 u x).2 61 = T.2 61 from wA_n (by decide)), fun j hj => ?_, ?_⟩
  · rw [wI_e, wA_1, h4, nI_1]
  · show (wA T 60 u x).2 60 j = _
    rw [wA_e, pk_un (by omega)]
  · show (wA T 60 u x).2 60 u = _
    rw [wA_e, pk_us]
/-- a sign is put: place, height -/
theorem push_m {p u h : Nat} {x : Int32} (hm : MO T0 p u h T) : MO T0 (p + 1) u (h + 1) (wI (wI (wA T 61 h x) 11 (T.1 11 + 1)) 12 (T.1 12 + 1)) ∧ (wI (wI (wA T 61 h x) 11 (T.1 11 + 1)) 12 (T.1 12 + 1)).2 61 = upd (T.2 61) h x ∧ (wI (wI (wA T 61 h x) 11 (T.1 11 + 1)) 12 (T.1 12 + 1)).2 60 = T.2 60 := by
  obtain ⟨⟨h1, h2⟩, h3, h4, h5⟩ := hm
  refine ⟨⟨⟨fun k k1 k2 k3 => ?_, fun a a1 a2 => (wA_n a2).trans (h2 a a1 a2)⟩, by rw [wI_e, h3, nI_1], ?_, ?_⟩, ?_, ?_⟩
  · rw [wI_n k3, wI_n k2]; exact h1 k k1 k2 k3
  · rw [wI_n (by decide), wI_n (by decide)]; exact h4
  · rw [wI_n (by decide), wI_e, h5, nI_1]
  · show (wA T 61 h x).2 61 = _
    exact wA_e
  · exact (wA_n (by decide) : (wA T 61 h x).2 60 = T.2 60)
def rk (x : Int32) : Int32 := if x = 124 then 1 else (if x = 38 then 2 else (if x = 60 then 3 else (if x = 61 then 3 else (if x = 62 then 3 else (if x = 43 then 4 else (if x = 45 then 4 else (if x = 33 then 5 else 0)))))))
theorem rk_e (T : FS) (x : Int32) : p_X12_rankOf T x = rk x := rfl
/-- signs of at least a rank are laid, from the top down to h -/
theorem sdn_l {p h : Nat} {r : Int32} : ∀ (m : Nat) (T : FS) (um hm : Nat), MO T0 p um hm T → h ≤ hm → hm - h < m → um + hm ≤ 60 → (∀ j : Nat, h ≤ j → j < hm → ¬ rk (T.2 61 j) < r) → (h = 0 ∨ rk (T.2 61 (h - 1)) < r) → ∃ T' : FS, l_X12_settles_0 r (fun S9 => some (0, S9)) m T = some (0, T') ∧ MO T0 p (um + (hm - h)) h T' ∧ T'.2 61 = T.2 61 ∧ (∀ j : Nat, j < um → T'.2 60 j = T.2 60 j) ∧ ∀ i : Nat, i < hm - h → T'.2 60 (um + i) = -100 - T.2 61 (hm - 1 - i) := by
  intro m
  induction m with
  | zero => intro T um hm _ _ hm0; exact absurd hm0 (Nat.not_lt_zero _)
  | succ m ih =>
    intro T um hm ho hh hf hb hr hl
    obtain ⟨⟨h1, h2⟩, h3, h4, h5⟩ := id ho
    by_cases c : h < hm
    · obtain ⟨g, rfl⟩ : ∃ g : Nat, hm = g + 1 := ⟨hm - 1, by omega⟩
      have ho1 : MO T0 p um g (wI T 11 (T.1 11 - 1)) := by
        refine ⟨⟨fun k k1 k2 k3 => (wI_n k2).trans (h1 k k1 k2 k3), h2⟩, (wI_n (by decide)).trans h3, (wI_n (by decide)).trans h4, ?_⟩
        rw [wI_e, h5, nI_pred]
      obtain ⟨T1, l1, l2, l3, l4, l5⟩ := lay_o (x := -100 - T.2 61 g) ho1 (by omega)
      obtain ⟨T', r1, r2, r3, r4, r5⟩ := ih T1 (um + 1) g l2 (by omega) (by omega) (by omega) (fun j j1 j2 => by rw [l3]; exact hr j j1 (by omega)) (by rw [l3]; exact hl)
      have e3 : (wI T 11 (T.1 11 - 1)).2 61 g = T.2 61 g := rfl
      refine ⟨T', ?_, by rw [show um + (g + 1 - h) = um + 1 + (g - h) by omega]; exact r2, r3.trans l3, fun j hj => (r4 j (by omega)).trans (l4 j hj), fun i hi => ?_⟩
      · rw [l_X12_settles_0, h5, if_pos (show (0 : Int32) < nI (g + 1) from nI_lt (a := 0) (by omega) (by omega)), nI_pred, ix_nI (show g < 60 by omega) (by decide), fb_s, rk_e, if_neg (hr g (by omega) (by omega)), fl_s]
        rw [show wI T 11 (nI g) = wI T 11 (T.1 11 - 1) by rw [h5, nI_pred], show (wI T 11 (T.1 11 - 1)).1 11 = nI g from ho1.2.2.2, ix_nI (show g < 60 by omega) (by decide), fb_s, e3, l1, fb_s]
        exact r1
      · by_cases z : i = 0
        · subst z
          rw [Nat.add_zero, r4 um (by omega), l5, show g + 1 - 1 - 0 = g by omega]
        · have := r5 (i - 1) (by omega)
          rw [show um + 1 + (i - 1) = um + i by omega, show g - 1 - (i - 1) = g + 1 - 1 - i by omega, l3] at this
          exact this
    · obtain rfl : h = hm := by omega
      refine ⟨T, ?_, by rw [Nat.sub_self]; exact ho, rfl, fun _ _ => rfl, fun i hi => absurd hi (by omega)⟩
      rw [l_X12_settles_0, h5]
      rcases hl with rfl | hl
      · rw [if_neg (by decide)]
      · by_cases z : h = 0
        · subst z; rw [if_neg (by decide)]
        · obtain ⟨g, rfl⟩ : ∃ g : Nat, h = g + 1 := ⟨h - 1, by omega⟩
          rw [if_pos (show (0 : Int32) < nI (g + 1) from nI_lt (a := 0) (by omega) (by omega)), nI_pred, ix_nI (show g < 60 by omega) (by decide), fb_s, rk_e, if_pos (show rk (T.2 61 g) < r from hl)]
theorem sdn_o {p h um hm : Nat} {r : Int32} (ho : MO T0 p um hm T) (hh : h ≤ hm) (hb : um + hm ≤ 60) (hr : ∀ j : Nat, h ≤ j → j < hm → ¬ rk (T.2 61 j) < r) (hl : h = 0 ∨ rk (T.2 61 (h - 1)) < r) : ∃ T' : FS, f_X12_settles T r = some (0, T') ∧ MO T0 p (um + (hm - h)) h T' ∧ T'.2 61 = T.2 61 ∧ (∀ j : Nat, j < um → T'.2 60 j = T.2 60 j) ∧ ∀ i : Nat, i < hm - h → T'.2 60 (um + i) = -100 - T.2 61 (hm - 1 - i) :=
  sdn_l FU T um hm ho hh (FU_lt (by omega)) hb hr hl
/-- how many of ! and ( are open -/
def om (f : Nat → Int32) (h : Nat) : Nat := pm_cnt (fun j => f j == 33 || f j == 40) h
theorem om_l {p u h : Nat} (hm : MO T0 p u h T) (h60 : h ≤ 60) : ∀ (m i : Nat), i ≤ h → h - i < m → l_X12_openMany_4 T (fun a b => some a) m (nI (om (T.2 61) i)) (nI i) = some (nI (om (T.2 61) h)) := by
  obtain ⟨-, -, -, h5⟩ := hm
  intro m
  induction m with
  | zero => intro i _ hm0; exact absurd hm0 (Nat.not_lt_zero _)
  | succ m ih =>
    intro i hi hm0
    rw [l_X12_openMany_4, h5]
    by_cases c : i < h
    · have r := ih (i + 1) (by omega) (by omega)
      rw [if_pos (nI_lt c (by omega)), ix_nI (show i < 60 by omega) (by decide), fb_s, nI_1]
      have e : om (T.2 61) (i + 1) = om (T.2 61) i + if (T.2 61 i == 33 || T.2 61 i == 40) = true then 1 else 0 := rfl
      by_cases a : T.2 61 i = 33
      · rw [if_pos a, fv_s, nI_1]
        rw [e, if_pos (by rw [a]; rfl)] at r; exact r
      · rw [if_neg a]
        by_cases d : T.2 61 i = 40
        · rw [if_pos d, fv_s, nI_1]
          rw [e, if_pos (by rw [d]; rfl)] at r; exact r
        · rw [if_neg d, fv_s, Int32.add_zero, nI_1]
          rw [e, if_neg (by rw [beq_false_of_ne a, beq_false_of_ne d]; decide), Nat.add_zero] at r; exact r
    · obtain rfl : i = h := by omega
      rw [if_neg (nI_nlt (Nat.le_refl _) (by omega))]
theorem om_o {p u h : Nat} (hm : MO T0 p u h T) (h60 : h ≤ 60) : q_X12_openMany T = some (nI (om (T.2 61) h)) := om_l hm h60 FU 0 (Nat.zero_le _) (FU_lt (by omega))
/-- is a ( open -/
def hO (f : Nat → Int32) (h : Nat) : Prop := ∃ j : Nat, j < h ∧ f j = 40
theorem ho_l {p u h : Nat} (hm : MO T0 p u h T) (h60 : h ≤ 60) : ∀ (m i : Nat), i ≤ h → h - i < m → (∀ j : Nat, j < i → ¬ T.2 61 j = 40) → (hO (T.2 61) h ∧ l_X12_hasOpen_2 T (fun _ => some 0) m (nI i) = some 1) ∨ (¬ hO (T.2 61) h ∧ l_X12_hasOpen_2 T (fun _ => some 0) m (nI i) = some 0) := by
  obtain ⟨-, -, -, h5⟩ := hm
  intro m
  induction m with
  | zero => intro i _ hm0; exact absurd hm0 (Nat.not_lt_zero _)
  | succ m ih =>
    intro i hi hm0 hn
    rw [l_X12_hasOpen_2, h5]
    by_cases c : i < h
    · rw [if_pos (nI_lt c (by omega)), ix_nI (show i < 60 by omega) (by decide), fb_s, nI_1]
      by_cases a : T.2 61 i = 40
      · left; rw [if_pos a]; exact ⟨⟨i, c, a⟩, rfl⟩
      · rw [if_neg a]
        exact ih (i + 1) (by omega) (by omega) (fun j hj => by
          by_cases z : j = i
          · subst z; exact a
          · exact hn j (by omega))
    · obtain rfl : i = h := by omega
      right
      rw [if_neg (nI_nlt (Nat.le_refl _) (by omega))]
      exact ⟨fun q => by obtain ⟨j, j1, j2⟩ := q; exact hn j j1 j2, rfl⟩
theorem ho_o {p u h : Nat} (hm : MO T0 p u h T) (h60 : h ≤ 60) : (hO (T.2 61) h ∧ q_X12_hasOpen T = some 1) ∨ (¬ hO (T.2 61) h ∧ q_X12_hasOpen T = some 0) := ho_l hm h60 FU 0 (Nat.zero_le _) (FU_lt (by omega)) (fun j hj => absurd hj (Nat.not_lt_zero _))
/-- the first sign from the top whose rank isn't above 3 -/
theorem ts_l {p u h : Nat} {k : Int32 → Option Int32} (hm : MO T0 p u h T) (h60 : h ≤ 60) : ∀ (m i g : Nat), g ≤ i → i ≤ h → i - g < m → (∀ j : Nat, g ≤ j → j < i → 3 < rk (T.2 61 j)) → (g = 0 ∨ ¬ 3 < rk (T.2 61 (g - 1))) → l_X12_isTested_7 T k m (nI i - 1) = k (nI g - 1) := by
  intro m
  induction m with
  | zero => intro i g _ _ hm0; exact absurd hm0 (Nat.not_lt_zero _)
  | succ m ih =>
    intro i g hg hi hm0 hr hl
    rw [l_X12_isTested_7]
    by_cases c : g < i
    · obtain ⟨j, rfl⟩ : ∃ j : Nat, i = j + 1 := ⟨i - 1, by omega⟩
      rw [nI_pred, if_neg (nI_pos (by omega)), ix_nI (show j < 60 by omega) (by decide), fb_s, rk_e, if_pos (hr j (by omega) (by omega)), ← Int32.sub_eq_add_neg]
      exact ih j g (by omega) (by omega) (by omega) (fun q q1 q2 => hr q q1 (by omega)) hl
    · obtain rfl : g = i := by omega
      by_cases z : g = 0
      · subst z; rw [if_pos (by decide)]
      · obtain ⟨j, rfl⟩ : ∃ j : Nat, g = j + 1 := ⟨g - 1, by omega⟩
        rw [nI_pred, if_neg (nI_pos (by omega)), ix_nI (show j < 60 by omega) (by decide), fb_s, rk_e, if_neg (show ¬ 3 < rk (T.2 61 j) from hl.resolve_left (by omega))]
theorem ts_o {p u h g : Nat} (hm : MO T0 p u h T) (h60 : h ≤ 60) (hg : g ≤ h) (hr : ∀ j : Nat, g ≤ j → j < h → 3 < rk (T.2 61 j)) (hl : g = 0 ∨ ¬ 3 < rk (T.2 61 (g - 1))) : q_X12_isTested T = some (if 0 < g ∧ rk (T.2 61 (g - 1)) = 3 then 1 else 0) := by
  unfold q_X12_isTested
  rw [fv_s, hm.2.2.2, ts_l hm h60 FU h g hg (Nat.le_refl _) (FU_lt (by omega)) hr hl]
  by_cases z : g = 0
  · subst z; rw [if_pos (by decide), if_neg (fun q => absurd q.1 (by decide))]
  · obtain ⟨j, rfl⟩ : ∃ j : Nat, g = j + 1 := ⟨g - 1, by omega⟩
    rw [nI_pred, if_neg (nI_pos (by omega)), ix_nI (show j < 60 by omega) (by decide), fb_s, rk_e, show j + 1 - 1 = j by omega]
    by_cases d : rk (T.2 61 j) = 3
    · rw [if_pos d, if_pos ⟨by omega, d⟩]
    · rw [if_neg d, if_neg (fun q => d q.2)]
end TXT
