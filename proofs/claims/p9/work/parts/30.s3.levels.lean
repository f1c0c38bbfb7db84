/-! ===== pure: texts; the levels of both readers ===== -/
section TXT2
variable {S T S0 T0 : FS} {b : Nat → Int32} {L : Nat}
def rn (x : Int32) : Nat := if x = 124 then 1 else (if x = 38 then 2 else (if x = 60 then 3 else (if x = 61 then 3 else (if x = 62 then 3 else (if x = 43 then 4 else (if x = 45 then 4 else (if x = 33 then 5 else 0)))))))
theorem rk_n (x : Int32) : rk x = nI (rn x) := by
  unfold rk rn
  repeat' split
  all_goals rfl
theorem rn_b (x : Int32) : rn x ≤ 5 := by
  unfold rn
  repeat' split
  all_goals decide
theorem rk_lt {x : Int32} {r : Nat} (hr : r ≤ 100) : rk x < nI r ↔ rn x < r := by
  have := rn_b x
  rw [rk_n]
  constructor
  · intro h
    exact Nat.lt_of_not_le (fun z => nI_nlt z (by omega) h)
  · exact fun h => nI_lt h (by omega)
theorem rk_gt {x : Int32} : 3 < rk x ↔ 3 < rn x := by
  have := rn_b x
  rw [rk_n]
  constructor
  · intro h
    exact Nat.lt_of_not_le (fun z => nI_nlt (a := 3) z (by omega) h)
  · exact fun h => nI_lt (a := 3) h (by omega)
theorem rk_eq {x : Int32} {r : Nat} (hr : r ≤ 100) : rk x = nI r ↔ rn x = r := by
  have := rn_b x
  rw [rk_n]
  exact ⟨fun h => nI_inj (by omega) (by omega) h, fun h => by rw [h]⟩
def dgt (x : Int32) : Prop := ¬ x < 48 ∧ ¬ 57 < x
theorem rn_dg {x : Int32} (h : dgt x) : rn x = 0 := by
  unfold rn
  rw [if_neg (fun e => h.2 (by rw [e]; decide)), if_neg (fun e => h.1 (by rw [e]; decide)), if_neg (fun e => h.2 (by rw [e]; decide)), if_neg (fun e => h.2 (by rw [e]; decide)), if_neg (fun e => h.2 (by rw [e]; decide)), if_neg (fun e => h.1 (by rw [e]; decide)), if_neg (fun e => h.1 (by rw [e]; decide)), if_neg (fun e => h.1 (by rw [e]; decide))]
def BAD (b : Nat → Int32) (L : Nat) (S0 : FS) (q : Nat) (S : FS) : Prop := CF S0 q S ∨ (CK S0 S ∧ S.1 105 = nI q ∧ S.1 106 = -1 ∧ q < L ∧ dgt (b q))
theorem bad_nx {q : Nat} (ht : TP b L S0 T0) (h : BAD b L S0 q S) : rn (p_X6_next S) = 0 ∧ p_X6_next S ≠ 41 := by
  rcases h with h | ⟨⟨h1, h2, -⟩, h3, h4, h5, h6⟩
  · rw [nx_f h]; exact ⟨by decide, by decide⟩
  · have e : p_X6_next S = b q := by
      unfold p_X6_next
      rw [h4, if_pos (by decide), h3, h1 24 (by decide) (by decide) (by decide), ht.2.1.1, if_pos (nI_lt h5 (by have := ht.1; omega)), g24_0 (show q < 60 by have := ht.1; omega), h2 25 (by decide), ht.2.1.2 q h5]
    rw [e]
    exact ⟨rn_dg h6, fun z => h6.1 (by rw [z]; decide)⟩
theorem app_b {q : Nat} {x : Int32} (h : BAD b L S0 q S) : ∃ (v : Int32) (S' : FS), fApp 28 60 1 S x = some (v, S') ∧ BAD b L S0 q S' := by
  rcases h with h | ⟨⟨h1, h2, u, h5, h6⟩, h3, h4, h7, h8⟩
  · obtain ⟨v, S', e, h'⟩ := app_f (x := x) h
    exact ⟨v, S', e, Or.inl h'⟩
  · unfold fApp
    rw [h6, iN_nI (by decide) h5, fb_s]
    by_cases c : u = 60
    · rw [if_pos c]; exact ⟨_, _, rfl, Or.inr ⟨⟨h1, h2, u, h5, h6⟩, h3, h4, h7, h8⟩⟩
    · rw [if_neg c]
      exact ⟨_, _, rfl, Or.inr ⟨⟨fun k k1 k2 k3 => (ui_ne k1).trans (h1 k k1 k2 k3), fun a ha => (ua_ne ha).trans (h2 a ha), u + 1, by omega, (show ui S.1 28 (nI (u + 1)) 28 = _ from ui_eq)⟩, (ap_o (k := 105) (by decide)).trans h3, (ap_o (k := 106) (by decide)).trans h4, h7, h8⟩⟩
theorem fail_b {q : Nat} (ht : TP b L S0 T0) (h : BAD b L S0 q S) : ∃ S' : FS, f_X6_fail S = some (0, S') ∧ CF S0 q S' := by
  rcases h with h | ⟨h0, h3, h4, h5, h6⟩
  · exact ⟨_, fail_f h, h⟩
  · unfold f_X6_fail
    rw [h4, if_pos (by decide), fl_s, h3]
    exact ⟨_, rfl, ⟨fun k k1 k2 k3 => (wI_n k3).trans (h0.1 k k1 k2 k3), h0.2.1, h0.2.2⟩, by have := ht.1; omega, wI_e⟩
theorem cls_b {q : Nat} (ht : TP b L S0 T0) (h : BAD b L S0 q S) : ∃ S' : FS, f_X6_readClosing S = some (0, S') ∧ CF S0 q S' := by
  obtain ⟨S', e, h'⟩ := fail_b ht h
  unfold f_X6_readClosing
  rw [if_neg (bad_nx ht h).2, e, fb_s]
  exact ⟨_, rfl, h'⟩
/-! the codes' weight -/
theorem cdH_s {d : Nat → Int32} {u w : Nat} (e : cdH d u = some w) : cdH d (u + 1) = if -20 < d u ∧ d u < 0 then (if d u = -1 then (if 1 ≤ w then some w else none) else if 2 ≤ w then some (w - 1) else none) else if w < 60 then some (w + 1) else none := by
  simp only [cdH, e]
theorem cdH_i {c : Nat → Int32} : ∀ (i k : Nat), cdH c i = some k → k ≤ i ∧ (k = 0 → i = 0)
  | 0, k, h => by
    have h : some 0 = some k := h
    cases h
    exact ⟨Nat.le_refl _, fun _ => rfl⟩
  | i + 1, k, h => by
    cases z : cdH c i with
    | none => simp only [cdH, z] at h; cases h
    | some k' =>
      have := cdH_i i k' z
      rw [cdH_s z] at h
      split at h
      · split at h
        · split at h
          · cases h; exact ⟨by omega, fun e => by omega⟩
          · cases h
        · split at h
          · cases h; exact ⟨by omega, fun e => by omega⟩
          · cases h
      · split at h
        · cases h; exact ⟨by omega, fun e => by omega⟩
        · cases h
theorem cdH_cg {c d : Nat → Int32} (i : Nat) (h : ∀ j : Nat, j < i → c j = d j) : cdH c i = cdH d i := by
  induction i with
  | zero => rfl
  | succ i ih =>
    have e := ih (fun j hj => h j (by omega))
    simp only [cdH]
    rw [e, h i (by omega)]
theorem cdH_n {c d : Nat → Int32} {u w : Nat} (h : cdH c u = some w) (hd : ∀ j : Nat, j < u → d j = c j) (hx : ¬ (-20 < d u ∧ d u < 0)) (hw : w < 60) : cdH d (u + 1) = some (w + 1) := by
  rw [cdH_s ((cdH_cg u hd).trans h), if_neg hx, if_pos hw]
theorem cdH_1 {c d : Nat → Int32} {u w : Nat} (h : cdH c u = some w) (hd : ∀ j : Nat, j < u → d j = c j) (hx : d u = -1) (hw : 1 ≤ w) : cdH d (u + 1) = some w := by
  rw [cdH_s ((cdH_cg u hd).trans h), hx, if_pos (by decide), if_pos rfl, if_pos hw]
theorem cdH_2 {c d : Nat → Int32} {u w : Nat} (h : cdH c u = some w) (hd : ∀ j : Nat, j < u → d j = c j) (hx : -20 < d u ∧ d u < 0) (h1 : d u ≠ -1) (hw : 2 ≤ w) : cdH d (u + 1) = some (w - 1) := by
  rw [cdH_s ((cdH_cg u hd).trans h), if_pos hx, if_neg h1, if_pos hw]
/-! what is so before a part is read, and behind one of a rank -/
def AT (L : Nat) (S0 T0 : FS) (p u w h : Nat) (S T : FS) : Prop := CO S0 p u S ∧ MO T0 p u h T ∧ (u + h ≤ p ∧ p ≤ L ∧ w ≤ h) ∧ (∀ j : Nat, j < u → cdM (S.2 29 j) (T.2 60 j)) ∧ cdH (S.2 29) u = some w
def EN (L : Nat) (S0 T0 : FS) (r q um hm w h : Nat) (f : Nat → Int32) (S T : FS) : Prop := (h ≤ hm ∧ um + hm ≤ q ∧ q ≤ L) ∧ CO S0 q (um + (hm - h)) S ∧ MO T0 q um hm T ∧ (∀ j : Nat, j < um → cdM (S.2 29 j) (T.2 60 j)) ∧ (∀ i : Nat, i < hm - h → cdM (S.2 29 (um + i)) (-100 - T.2 61 (hm - 1 - i))) ∧ cdH (S.2 29) (um + (hm - h)) = some w ∧ (∀ j : Nat, j < h → T.2 61 j = f j) ∧ ∀ j : Nat, h ≤ j → j < hm → r ≤ rn (T.2 61 j) ∧ rn (T.2 61 j) < 5
def tst (T : FS) (h hm : Nat) : Prop := ∃ g : Nat, (h ≤ g ∧ g < hm) ∧ rn (T.2 61 g) = 3 ∧ ∀ j : Nat, g < j → j < hm → 3 < rn (T.2 61 j)
def stp (b : Nat → Int32) (L r q h hm : Nat) (T : FS) : Prop := (r ≤ 4 → rn (bt b L q) ≠ 4) ∧ (r ≤ 3 → rn (bt b L q) = 3 → tst T h hm) ∧ (r ≤ 2 → rn (bt b L q) ≠ 2) ∧ (r ≤ 1 → rn (bt b L q) ≠ 1)
def BO (b : Nat → Int32) (L : Nat) (S0 T0 : FS) (z : Int32) (p : Nat) (T S' : FS) : Prop := ∃ (q n : Nat) (T' : FS), (p ≤ q ∧ q ≤ L ∧ n ≤ q - p + 1) ∧ BAD b L S0 q S' ∧ (∀ m : Nat, l_X12_reads_17 (n + m) T z = some (0, T')) ∧ T'.1 12 = nI q ∧ MK T0 T'
def GO (b : Nat → Int32) (L : Nat) (S0 T0 : FS) (z : Int32) (r p w h : Nat) (f : Nat → Int32) (T S' : FS) : Prop := ∃ (q n um hm : Nat) (T' : FS), (p ≤ q ∧ n ≤ q - p) ∧ (∀ m : Nat, l_X12_reads_17 (n + m) T z = l_X12_reads_17 m T' 0) ∧ EN L S0 T0 r q um hm w h f S' T' ∧ stp b L r q h hm T'
def LV (b : Nat → Int32) (L : Nat) (S0 T0 : FS) (r k : Nat) (Q : FS → Option (Int32 × FS)) : Prop := ∀ (p u w h : Nat) (S T : FS), AT L S0 T0 p u w h S T → (h = 0 ∨ rn (T.2 61 (h - 1)) < r) → om (T.2 61) h = k → ∃ S' : FS, Q S = some (0, S') ∧ (BO b L S0 T0 1 p T S' ∨ GO b L S0 T0 1 r p (w + 1) h (T.2 61) T S')
theorem BO.tr {z z' : Int32} {p p' n : Nat} {T T' S' : FS} (hp : p ≤ p') (hn : n ≤ p' - p) (hm : ∀ m : Nat, l_X12_reads_17 (n + m) T z = l_X12_reads_17 m T' z') (h : BO b L S0 T0 z' p' T' S') : BO b L S0 T0 z p T S' := by
  obtain ⟨q, n', T'', h1, h2, h3, h4⟩ := h
  exact ⟨q, n + n', T'', ⟨by omega, by omega, by omega⟩, h2, fun m => by rw [Nat.add_assoc, hm, h3], h4⟩
theorem GO.tr {z z' : Int32} {r p p' n w h : Nat} {f : Nat → Int32} {T T' S' : FS} (hp : p ≤ p') (hn : n ≤ p' - p) (hm : ∀ m : Nat, l_X12_reads_17 (n + m) T z = l_X12_reads_17 m T' z') (hg : GO b L S0 T0 z' r p' w h f T' S') : GO b L S0 T0 z r p w h f T S' := by
  obtain ⟨q, n', um, hm', T'', h1, h2, h3⟩ := hg
  exact ⟨q, n + n', um, hm', T'', ⟨by omega, by omega⟩, fun m => by rw [Nat.add_assoc, hm, h2], h3⟩
theorem EN.wk {r r' q um hm w h : Nat} {f : Nat → Int32} (hr : r' ≤ r) (he : EN L S0 T0 r q um hm w h f S T) : EN L S0 T0 r' q um hm w h f S T := by
  obtain ⟨h1, h2, h3, h4, h5, h6, h7, h8⟩ := he
  exact ⟨h1, h2, h3, h4, h5, h6, h7, fun j a c => ⟨Nat.le_trans hr (h8 j a c).1, (h8 j a c).2⟩⟩
theorem bt_lt {q : Nat} (h : rn (bt b L q) ≠ 0) : q < L := by
  apply Nat.lt_of_not_le
  intro c
  apply h
  unfold bt
  rw [if_neg (by omega)]
  decide
theorem bt_nn {q : Nat} (ht : TP b L S0 T0) (h : q < L) : ¬ bt b L q < 0 := by
  unfold bt
  rw [if_pos h]
  obtain ⟨c, hc, e⟩ := ht.2.2.2 q h
  rw [e]
  exact nI_pos (by omega)
theorem rn_41 {x : Int32} (h : rn x ≠ 0) : x ≠ 41 ∧ x ≠ 40 := ⟨fun e => h (by rw [e]; decide), fun e => h (by rw [e]; decide)⟩
theorem rn_33 {x : Int32} (h : rn x ≠ 5) : x ≠ 33 := fun e => h (by rw [e]; decide)
theorem om_e {f g : Nat → Int32} : ∀ (h : Nat), (∀ j : Nat, j < h → f j = g j) → om f h = om g h
  | 0, _ => rfl
  | h + 1, q => by
    have e := om_e h (fun j hj => q j (by omega))
    have e1 : om f (h + 1) = om f h + if (f h == 33 || f h == 40) = true then 1 else 0 := rfl
    have e2 : om g (h + 1) = om g h + if (g h == 33 || g h == 40) = true then 1 else 0 := rfl
    rw [e1, e2, e, q h (by omega)]
theorem om_1 {f : Nat → Int32} {h : Nat} (c : f h = 33 ∨ f h = 40) : om f (h + 1) = om f h + 1 := by
  have e1 : om f (h + 1) = om f h + if (f h == 33 || f h == 40) = true then 1 else 0 := rfl
  rw [e1, if_pos (by rcases c with c | c <;> rw [c] <;> decide)]
theorem om_0 {f : Nat → Int32} {h : Nat} (c1 : f h ≠ 33) (c2 : f h ≠ 40) : om f (h + 1) = om f h := by
  have e1 : om f (h + 1) = om f h + if (f h == 33 || f h == 40) = true then 1 else 0 := rfl
  rw [e1, if_neg (by rw [beq_false_of_ne c1, beq_false_of_ne c2]; decide), Nat.add_zero]
/-- a sign of a rank is read -/
theorem opn {r q um hm w h : Nat} {f : Nat → Int32} (ht : TP b L S0 T0) (hr1 : 1 ≤ r) (hr4 : r ≤ 4) (he : EN L S0 T0 r q um hm (w + 1) h f S T) (hw : w ≤ h) (hb : h = 0 ∨ rn (f (h - 1)) < r) (hy : rn (bt b L q) = r) (h3 : r = 3 → ∀ j : Nat, h ≤ j → j < hm → 3 < rn (T.2 61 j)) :
    ∃ T2 : FS, (∀ m : Nat, l_X12_reads_17 (1 + m) T 0 = l_X12_reads_17 m T2 1) ∧ AT L S0 T0 (q + 1) (um + (hm - h)) (w + 1) (h + 1) (wI S 105 (S.1 105 + 1)) T2 ∧ T2.2 61 h = bt b L q ∧ ∀ j : Nat, j < h → T2.2 61 j = f j := by
  obtain ⟨⟨a1, a2, a3⟩, a4, a5, a6, a7, a8, a9, a10⟩ := he
  have hL := ht.1
  have hq : q < L := bt_lt (b := b) (by omega)
  have hbb : h = 0 ∨ rk (T.2 61 (h - 1)) < nI r := by
    by_cases z : h = 0
    · exact Or.inl z
    · right
      rw [rk_lt (by omega), a9 _ (by omega)]
      exact hb.resolve_left z
  obtain ⟨T1, t1, t2, t3, t4, t5⟩ := sdn_o (r := nI r) a5 a1 (by omega) (fun j j1 j2 => by rw [rk_lt (by omega)]; have := (a10 j j1 j2).1; omega) hbb
  obtain ⟨p1, p2, p3⟩ := push_m (x := bt b L q) t2
  refine ⟨_, fun m => ?_, ⟨(adv_o a4).1, p1, ⟨by omega, by omega, by omega⟩, fun j hj => ?_, a8⟩, ?_, fun j hj => ?_⟩
  · have hix : ix 60 (((0 : Int32), T1).2.1 11) = some h := by
      rw [show ((0 : Int32), T1).2.1 11 = nI h from t2.2.2.2]; exact ix_nI (by omega) (by decide)
    have n0 : ¬ nI r = 0 := fun e => by have := nI_inj (b := 0) (by omega) (by decide) e; omega
    have n5 : ¬ nI r = 5 := fun e => by have := nI_inj (b := 5) (by omega) (by decide) e; omega
    rw [Nat.add_comm 1 m, l_X12_reads_17, byt_o ht a5 (by omega), fb_s, if_pos rfl, if_neg (bt_nn ht hq), if_neg (rn_41 (by omega)).1, fv_s, rk_e, rk_n, hy, if_neg n0, if_neg n5]
    by_cases c : r = 3
    · subst c
      have ets : q_X12_isTested T = some 0 := by
        rw [ts_o a5 (by omega) a1 (fun j j1 j2 => rk_gt.mpr (h3 rfl j j1 j2)) (by
          by_cases z : h = 0
          · exact Or.inl z
          · right; rw [rk_gt, a9 _ (by omega)]; have := hb.resolve_left z; omega), if_neg (fun q9 => by
          have z1 := (rk_eq (r := 3) (by omega)).mp q9.2
          rw [a9 _ (by omega)] at z1
          have := hb.resolve_left (by omega); omega)]
      rw [if_pos (by decide), ets, fb_s, if_pos rfl, t1, fb_s]
      rw [hix, fb_s, fl_s, fl_s, fl_s]
      rfl
    · rw [if_neg (show ¬ nI r = 3 from fun e => c (nI_inj (b := 3) (by omega) (by decide) e)), t1, fb_s, hix, fb_s, fl_s, fl_s, fl_s]
      rfl
  · show cdM (S.2 29 j) _
    rw [p3]
    by_cases c : j < um
    · rw [t4 j c]; exact a6 j c
    · have e := t5 (j - um) (by omega)
      have e2 := a7 (j - um) (by omega)
      rw [show um + (j - um) = j by omega] at e e2
      rw [e]; exact e2
  · rw [p2, pk_us]
  · rw [p2, pk_un (by omega), t3]; exact a9 j hj
/-- a sign, what stands behind it, the sign's code -/
theorem step {r k q um hm w h : Nat} {f : Nat → Int32} {Q : FS → Option (Int32 × FS)} {c : Int32} (ht : TP b L S0 T0) (hQ : LV b L S0 T0 (r + 1) k Q) (hr1 : 1 ≤ r) (hr4 : r ≤ 4) (he : EN L S0 T0 r q um hm (w + 1) h f S T) (hw : w ≤ h) (hb : h = 0 ∨ rn (f (h - 1)) < r) (ho : om f h = k) (hy : rn (bt b L q) = r) (h3 : r = 3 → ∀ j : Nat, h ≤ j → j < hm → 3 < rn (T.2 61 j)) (hc : cdM c (-100 - bt b L q)) (hc1 : -20 < c ∧ c < 0) (hc2 : c ≠ -1) :
    ∃ (S1 S2 : FS) (v : Int32), Q (wI S 105 (S.1 105 + 1)) = some (0, S1) ∧ fApp 28 60 1 S1 c = some (v, S2) ∧ (BO b L S0 T0 0 q T S2 ∨ ∃ (q' n um' hm' : Nat) (T' : FS), (q < q' ∧ n ≤ q' - q) ∧ (∀ m : Nat, l_X12_reads_17 (n + m) T 0 = l_X12_reads_17 m T' 0) ∧ EN L S0 T0 r q' um' hm' (w + 1) h f S2 T' ∧ stp b L (r + 1) q' h hm' T' ∧ (r = 3 → tst T' h hm')) := by
  obtain ⟨T2, o1, o2, o3, o4⟩ := opn ht hr1 hr4 he hw hb hy h3
  have hL := ht.1
  have hom : om (T2.2 61) (h + 1) = k := by
    rw [om_0 (by rw [o3]; exact rn_33 (by omega)) (by rw [o3]; exact (rn_41 (by omega)).2), om_e h o4]; exact ho
  obtain ⟨S1, s1, s2⟩ := hQ _ _ _ _ _ _ o2 (Or.inr (by rw [show h + 1 - 1 = h by omega, o3]; omega)) hom
  rcases s2 with s2 | ⟨q', n, um', hm', T', ⟨g1, g2⟩, g3, ⟨⟨a1, a2, a3⟩, a4, a5, a6, a7, a8, a9, a10⟩, g5⟩
  · obtain ⟨q', n, T', ⟨b1, b2, b3⟩, b4, b5⟩ := s2
    obtain ⟨v, S2, v1, v2⟩ := app_b (x := c) b4
    exact ⟨S1, S2, v, s1, v1, Or.inl ⟨q', 1 + n, T', ⟨by omega, b2, by omega⟩, v2, fun m => by rw [Nat.add_assoc, o1, b5.1], b5.2⟩⟩
  · obtain ⟨S2, v1, v2, v3, v4⟩ := app_o (x := c) a4 (by omega)
    refine ⟨S1, S2, _, s1, v1, Or.inr ⟨q', 1 + n, um', hm', T', ⟨by omega, by omega⟩, fun m => by rw [Nat.add_assoc, o1, g3], ⟨⟨by omega, a2, a3⟩, ?_, a5, fun j hj => ?_, fun i hi => ?_, ?_, fun j hj => ?_, fun j j1 j2 => ?_⟩, ⟨fun z => g5.1 z, fun z z2 => ?_, fun z => g5.2.2.1 z, fun z => g5.2.2.2 z⟩, fun z => ?_⟩⟩
    · rw [show um' + (hm' - h) = um' + (hm' - (h + 1)) + 1 by omega]; exact v2
    · rw [v3 j (by omega)]; exact a6 j hj
    · by_cases z : i < hm' - (h + 1)
      · rw [v3 _ (by omega)]; exact a7 i z
      · rw [show um' + i = um' + (hm' - (h + 1)) by omega, v4, show hm' - 1 - i = h by omega, a9 h (by omega), o3]; exact hc
    · rw [show um' + (hm' - h) = um' + (hm' - (h + 1)) + 1 by omega]
      exact cdH_2 a8 v3 (by rw [v4]; exact hc1) (by rw [v4]; exact hc2) (by omega)
    · rw [a9 j (by omega)]; exact o4 j hj
    · by_cases z : j = h
      · subst z; rw [a9 j (by omega), o3]; omega
      · have := a10 j (by omega) j2; omega
    · obtain ⟨g, ⟨t1, t2⟩, t3⟩ := g5.2.1 z z2
      exact ⟨g, ⟨by omega, t2⟩, t3⟩
    · refine ⟨h, ⟨Nat.le_refl _, by omega⟩, by rw [a9 h (by omega), o3]; omega, fun j j1 j2 => ?_⟩
      have := (a10 j (by omega) j2).1; omega
/-- again and again -/
theorem lp {r k w h : Nat} {f : Nat → Int32} {Q : FS → Option (Int32 × FS)} {l : (FS → Int32 → Option (Int32 × FS)) → Nat → FS → Int32 → Option (Int32 × FS)} (ht : TP b L S0 T0) (hQ : LV b L S0 T0 (r + 1) k Q) (hr1 : 1 ≤ r) (hr4 : r ≤ 4) (hr3 : r ≠ 3)
    (l1 : ∀ (m i : Nat) (S : FS) (kk : FS → Int32 → Option (Int32 × FS)), i < 60 → rn (p_X6_next S) ≠ r → l kk (m + 1) S (nI i) = kk S (nI i))
    (l2 : ∀ (m i : Nat) (S : FS) (kk : FS → Int32 → Option (Int32 × FS)), i < 60 → rn (p_X6_next S) = r → ∃ c : Int32, cdM c (-100 - p_X6_next S) ∧ (-20 < c ∧ c < 0) ∧ c ≠ -1 ∧ ∀ (S1 S2 : FS) (v : Int32), Q (wI S 105 (S.1 105 + 1)) = some (0, S1) → fApp 28 60 1 S1 c = some (v, S2) → l kk (m + 1) S (nI i) = l kk m S2 (nI (i + 1)))
    (hb : h = 0 ∨ rn (f (h - 1)) < r) (ho : om f h = k) (hw : w ≤ h) :
    ∀ (m i q um hm : Nat) (S T : FS), i < q → L - q < m → EN L S0 T0 r q um hm (w + 1) h f S T → stp b L (r + 1) q h hm T → ∃ S' : FS, l (fun S9 _ => some (0, S9)) m S (nI i) = some (0, S') ∧ (BO b L S0 T0 0 q T S' ∨ GO b L S0 T0 0 r q (w + 1) h f T S') := by
  have hL := ht.1
  intro m
  induction m with
  | zero => intro i q um hm S T _ h0; exact absurd h0 (Nat.not_lt_zero _)
  | succ m ih =>
    intro i q um hm S T hi hf he hs
    have hn : p_X6_next S = bt b L q := nx_o ht he.2.1 (by have := he.1.2.2; omega)
    have hqL := he.1.2.2
    by_cases c : rn (bt b L q) = r
    · have hq : q < L := bt_lt (b := b) (by omega)
      obtain ⟨cc, c1, c2, c3, c4⟩ := l2 m i S (fun S9 _ => some (0, S9)) (by omega) (by rw [hn]; exact c)
      rw [hn] at c1
      obtain ⟨S1, S2, v, s1, s2, s3⟩ := step ht hQ hr1 hr4 he hw hb ho c (fun z => absurd z hr3) c1 c2 c3
      rw [c4 S1 S2 v s1 s2]
      rcases s3 with s3 | ⟨q', n, um', hm', T', ⟨g1, g2⟩, g3, g4, g5, -⟩
      · obtain ⟨m', rfl⟩ : ∃ m' : Nat, m = m' + 1 := ⟨m - 1, by omega⟩
        have hbad := s3
        obtain ⟨q', n, T', -, b4, -⟩ := hbad
        rw [l1 m' (i + 1) S2 _ (by omega) (by rw [(bad_nx ht b4).1]; omega)]
        exact ⟨S2, rfl, Or.inl s3⟩
      · obtain ⟨S', e1, e2⟩ := ih (i + 1) q' um' hm' S2 T' (by omega) (by omega) g4 g5
        refine ⟨S', e1, ?_⟩
        rcases e2 with e2 | e2
        · exact Or.inl (BO.tr (by omega) g2 g3 e2)
        · exact Or.inr (GO.tr (by omega) g2 g3 e2)
    · rw [l1 m i S _ (by omega) (by rw [hn]; exact c)]
      refine ⟨S, rfl, Or.inr ⟨q, 0, um, hm, T, ⟨Nat.le_refl _, Nat.zero_le _⟩, fun m => by rw [Nat.zero_add], he, fun z => ?_, fun z z2 => ?_, fun z => ?_, fun z => ?_⟩⟩
      · by_cases z4 : r = 4
        · omega
        · exact hs.1 (by omega)
      · exact hs.2.1 (by omega) z2
      · by_cases z4 : r = 2
        · omega
        · exact hs.2.2.1 (by omega)
      · omega
theorem lv_loop {r k : Nat} {Q Q' : FS → Option (Int32 × FS)} {l : (FS → Int32 → Option (Int32 × FS)) → Nat → FS → Int32 → Option (Int32 × FS)} (ht : TP b L S0 T0) (hQ : LV b L S0 T0 (r + 1) k Q) (hr1 : 1 ≤ r) (hr4 : r ≤ 4) (hr3 : r ≠ 3)
    (l1 : ∀ (m i : Nat) (S : FS) (kk : FS → Int32 → Option (Int32 × FS)), i < 60 → rn (p_X6_next S) ≠ r → l kk (m + 1) S (nI i) = kk S (nI i))
    (l2 : ∀ (m i : Nat) (S : FS) (kk : FS → Int32 → Option (Int32 × FS)), i < 60 → rn (p_X6_next S) = r → ∃ c : Int32, cdM c (-100 - p_X6_next S) ∧ (-20 < c ∧ c < 0) ∧ c ≠ -1 ∧ ∀ (S1 S2 : FS) (v : Int32), Q (wI S 105 (S.1 105 + 1)) = some (0, S1) → fApp 28 60 1 S1 c = some (v, S2) → l kk (m + 1) S (nI i) = l kk m S2 (nI (i + 1)))
    (hl : ∀ S : FS, Q' S = fb (Q S) (fun r2 => l (fun S9 _ => some (0, S9)) FU r2.2 0)) : LV b L S0 T0 r k Q' := by
  intro p u w h S T hat hb ho
  have hL := ht.1
  obtain ⟨S1, s1, s2⟩ := hQ p u w h S T hat (hb.imp id (fun z => by omega)) ho
  rw [hl, s1, fb_s]
  show ∃ S' : FS, l (fun S9 _ => some (0, S9)) FU S1 (nI 0) = some (0, S') ∧ _
  rcases s2 with s2 | ⟨q, n, um, hm, T1, ⟨g1, g2⟩, g3, g4, g5⟩
  · have hbad := s2
    obtain ⟨q', n, T', -, b4, -⟩ := hbad
    rw [show FU = 4999 + 1 from rfl, l1 4999 0 S1 _ (by omega) (by rw [(bad_nx ht b4).1]; omega)]
    exact ⟨S1, rfl, Or.inl s2⟩
  · have hq1 : 0 < q := by
      have z := (cdH_i _ _ g4.2.2.2.2.2.1).1
      have z2 := g4.1
      omega
    obtain ⟨S', e1, e2⟩ := lp ht hQ hr1 hr4 hr3 l1 l2 hb ho hat.2.2.1.2.2 FU 0 q um hm S1 T1 hq1 (FU_lt (by omega)) (g4.wk (by omega)) g5
    refine ⟨S', e1, ?_⟩
    rcases e2 with e2 | e2
    · exact Or.inl (BO.tr g1 g2 g3 e2)
    · exact Or.inr (GO.tr g1 g2 g3 e2)
theorem lv_cmp {k : Nat} {Q C : FS → Option (Int32 × FS)} (ht : TP b L S0 T0) (hQ : LV b L S0 T0 4 k Q)
    (c1 : ∀ S S1 : FS, Q S = some (0, S1) → rn (p_X6_next S1) ≠ 3 → C S = some (0, S1))
    (c2 : ∀ S S1 : FS, Q S = some (0, S1) → rn (p_X6_next S1) = 3 → ∃ c : Int32, cdM c (-100 - p_X6_next S1) ∧ (-20 < c ∧ c < 0) ∧ c ≠ -1 ∧ ∀ (S2 S3 : FS) (v : Int32), Q (wI S1 105 (S1.1 105 + 1)) = some (0, S2) → fApp 28 60 1 S2 c = some (v, S3) → C S = some (0, S3)) : LV b L S0 T0 3 k C := by
  intro p u w h S T hat hb ho
  have hL := ht.1
  obtain ⟨S1, s1, s2⟩ := hQ p u w h S T hat (hb.imp id (fun z => by omega)) ho
  rcases s2 with s2 | ⟨q, n, um, hm, T1, ⟨g1, g2⟩, g3, g4, g5⟩
  · have hbad := s2
    obtain ⟨q', n, T', -, b4, -⟩ := hbad
    exact ⟨S1, c1 S S1 s1 (by rw [(bad_nx ht b4).1]; omega), Or.inl s2⟩
  · have hn : p_X6_next S1 = bt b L q := nx_o ht g4.2.1 (by have := g4.1.2.2; omega)
    by_cases c : rn (bt b L q) = 3
    · obtain ⟨cc, d1, d2, d3, d4⟩ := c2 S S1 s1 (by rw [hn]; exact c)
      rw [hn] at d1
      obtain ⟨S2, S3, v, e1, e2, e3⟩ := step (r := 3) ht hQ (by omega) (by omega) (g4.wk (by omega)) hat.2.2.1.2.2 hb ho c (fun _ j j1 j2 => by have := (g4.2.2.2.2.2.2.2 j j1 j2).1; omega) d1 d2 d3
      refine ⟨S3, d4 S2 S3 v e1 e2, ?_⟩
      rcases e3 with e3 | ⟨q', n', um', hm', T', ⟨f1, f2⟩, f3, f4, f5, f6⟩
      · exact Or.inl (BO.tr g1 g2 g3 e3)
      · exact Or.inr (GO.tr g1 g2 g3 ⟨q', n', um', hm', T', ⟨by omega, f2⟩, f3, f4, fun _ => f5.1 (by omega), fun _ _ => f6 rfl, fun z => by omega, fun z => by omega⟩)
    · exact ⟨S1, c1 S S1 s1 (by rw [hn]; exact c), Or.inr ⟨q, n, um, hm, T1, ⟨g1, g2⟩, g3, g4.wk (by omega), fun _ => g5.1 (by omega), fun _ z => absurd z c, fun z => by omega, fun z => by omega⟩⟩
/-- behind a whole text a letter that has no place there -/
theorem tail_b {q um hm w h : Nat} {f : Nat → Int32} (ht : TP b L S0 T0) (he : EN L S0 T0 1 q um hm w h f S T) (hs : stp b L 1 q h hm T) (hx : (bt b L q < 0 ∧ hO (T.2 61) hm) ∨ (q < L ∧ (bt b L q = 41 → ¬ hO (T.2 61) hm))) (m : Nat) : l_X12_reads_17 (1 + m) T 0 = some (0, T) := by
  obtain ⟨⟨a1, a2, a3⟩, -, a5, -⟩ := he
  have hL := ht.1
  have h60 : hm ≤ 60 := by omega
  rw [Nat.add_comm 1 m, l_X12_reads_17, byt_o ht a5 (by omega), fb_s, if_pos rfl]
  rcases hx with ⟨x1, x2⟩ | ⟨x1, x2⟩
  · rw [if_pos x1]
    rcases ho_o a5 h60 with ⟨-, y2⟩ | ⟨y1, -⟩
    · rw [y2, fb_s, if_neg (by decide)]
    · exact absurd x2 y1
  · rw [if_neg (bt_nn ht x1)]
    by_cases c : bt b L q = 41
    · rw [if_pos c]
      rcases ho_o a5 h60 with ⟨y1, -⟩ | ⟨-, y2⟩
      · exact absurd y1 (x2 c)
      · rw [y2, fb_s, if_pos rfl, fv_s, c, rk_e, if_pos (by decide)]
    · rw [if_neg c, fv_s, rk_e, rk_n]
      have hr := rn_b (bt b L q)
      have h4 := hs.1 (by omega)
      have h2 := hs.2.2.1 (by omega)
      have h1 := hs.2.2.2 (by omega)
      by_cases z0 : rn (bt b L q) = 0
      · rw [z0, if_pos (by decide)]
      · by_cases z5 : rn (bt b L q) = 5
        · rw [z5, if_neg (by decide), if_pos (by decide)]
        · have z3 : rn (bt b L q) = 3 := by omega
          obtain ⟨g, ⟨t1, t2⟩, t3, t4⟩ := hs.2.1 (by omega) z3
          have ets : q_X12_isTested T = some 1 := by
            rw [ts_o (g := g + 1) a5 h60 (by omega) (fun j j1 j2 => rk_gt.mpr (t4 j (by omega) j2)) (Or.inr (by rw [show g + 1 - 1 = g by omega, rk_gt]; omega)), if_pos ⟨by omega, (rk_eq (r := 3) (by omega)).mpr (by rw [show g + 1 - 1 = g by omega]; exact t3)⟩]
          rw [z3, if_neg (by decide), if_neg (by decide), if_pos (by decide), ets, fb_s, if_neg (by decide)]
end TXT2
