/-! ===== pure: texts; a part ===== -/
section TXT3
variable {S T S0 T0 : FS} {b : Nat → Int32} {L : Nat}
theorem dg_6 (S : FS) (x : Int32) : (dgt x ∧ ¬ p_X6_isDigit S x = 0) ∨ (¬ dgt x ∧ p_X6_isDigit S x = 0) := by
  unfold p_X6_isDigit dgt
  by_cases c : x < 48
  · right; rw [if_pos c]; exact ⟨fun q => q.1 c, rfl⟩
  · by_cases d : 57 < x
    · right; rw [if_neg c, if_pos d]; exact ⟨fun q => q.2 d, rfl⟩
    · left; rw [if_neg c, if_neg d]; exact ⟨⟨c, d⟩, by decide⟩
theorem dg_12 (S : FS) (x : Int32) : (dgt x ∧ ¬ p_X12_isDigit S x = 0) ∨ (¬ dgt x ∧ p_X12_isDigit S x = 0) := by
  unfold p_X12_isDigit dgt
  by_cases c : x < 48
  · right; rw [if_pos c]; exact ⟨fun q => q.1 c, rfl⟩
  · by_cases d : 57 < x
    · right; rw [if_neg c, if_pos d]; exact ⟨fun q => q.2 d, rfl⟩
    · left; rw [if_neg c, if_neg d]; exact ⟨⟨c, d⟩, by decide⟩
theorem dg6_n {S : FS} {x : Int32} (h : ¬ dgt x) : p_X6_isDigit S x = 0 := (dg_6 S x).elim (fun q => absurd q.1 h) (fun q => q.2)
theorem dg6_y {S : FS} {x : Int32} (h : dgt x) : ¬ p_X6_isDigit S x = 0 := (dg_6 S x).elim (fun q => q.2) (fun q => absurd h q.1)
theorem dg12_n {S : FS} {x : Int32} (h : ¬ dgt x) : p_X12_isDigit S x = 0 := (dg_12 S x).elim (fun q => absurd q.1 h) (fun q => q.2)
theorem dg12_y {S : FS} {x : Int32} (h : dgt x) : ¬ p_X12_isDigit S x = 0 := (dg_12 S x).elim (fun q => q.2) (fun q => absurd h q.1)
theorem dgt_m1 : ¬ dgt (-1) := fun q => q.1 (by decide)
theorem fidx_b {x : Int32} (h : nB 255 x) : fIdx ((x.toUInt32 % 65536).toInt32) = some (nmV x) := by
  obtain ⟨c, hc, rfl⟩ := h
  have key : ∀ c : Nat, c < 256 → ((nI c).toUInt32 % 65536).toInt32 = nI c := by decide +kernel
  rw [key c (by omega)]
  unfold fIdx
  rw [if_neg (fun q => q.elim (nI_pos (by omega)) (nI_nlt (a := 255) (by omega) (by decide)))]
def nmZ : FS := (fun _ => 0, fun _ _ => 0)
theorem nm_c (T : FS) {x : Int32} (h : x = -1 ∨ nB 255 x) : (nmV x = -1 ∧ p_X12_nameOf T x = 0) ∨ ∃ k : Nat, k < 11 ∧ nmV x = nI k ∧ p_X12_nameOf T x = nI (k + 1) := by
  have e : p_X12_nameOf T x = p_X12_nameOf nmZ x := rfl
  rw [e]
  rcases h with rfl | ⟨c, hc, rfl⟩
  · exact Or.inl ⟨by decide, by decide +kernel⟩
  · have key : ∀ c : Nat, c < 256 → (nmV (nI c) = -1 ∧ p_X12_nameOf nmZ (nI c) = 0) ∨ ((nmV (nI c)).toNatClampNeg < 11 ∧ nmV (nI c) = nI (nmV (nI c)).toNatClampNeg ∧ p_X12_nameOf nmZ (nI c) = nI ((nmV (nI c)).toNatClampNeg + 1)) := by decide +kernel
    rcases key c (by omega) with h | h
    · exact Or.inl h
    · exact Or.inr ⟨_, h⟩
theorem nm_dg {x : Int32} (T : FS) (h : nB 255 x) (hd : dgt x) : p_X12_nameOf T x = 0 := by
  have e : p_X12_nameOf T x = p_X12_nameOf nmZ x := rfl
  rw [e]
  obtain ⟨c, hc, rfl⟩ := h
  have key : ∀ c : Nat, c < 58 → p_X12_nameOf nmZ (nI c) = 0 := by decide +kernel
  exact key c (Nat.lt_of_not_le (fun z => hd.2 (nI_lt (a := 57) (by omega) (by omega))))
theorem AT.u60 {p u w h : Nat} (ht : TP b L S0 T0) (hat : AT L S0 T0 p u w h S T) : u < 60 := by
  have z := cdH_i _ _ hat.2.2.2.2
  have z1 := hat.2.2.1
  have z2 := ht.1
  by_cases c : w = 0
  · have := z.2 c; omega
  · omega
theorem bt_c {p : Nat} (ht : TP b L S0 T0) : (bt b L p = -1 ∧ ¬ p < L) ∨ (nB 255 (bt b L p) ∧ p < L ∧ bt b L p = b p) := by
  unfold bt
  by_cases c : p < L
  · right; rw [if_pos c]; exact ⟨ht.2.2.2 p c, c, rfl⟩
  · left; rw [if_neg c]; exact ⟨rfl, c⟩
theorem rd_0 {p u h : Nat} {T' : FS} (ht : TP b L S0 T0) (hm : MO T0 p u h T) (hp : p ≤ 60) (e : f_X12_readsOne T = some (0, T')) (m : Nat) : l_X12_reads_17 (1 + m) T 1 = some (0, T') := by
  rw [Nat.add_comm 1 m, l_X12_reads_17, byt_o ht hm hp, fb_s, if_neg (by decide), e, fb_s]
  exact if_pos rfl
theorem rd_2 {p u h : Nat} {T' : FS} (ht : TP b L S0 T0) (hm : MO T0 p u h T) (hp : p ≤ 60) (e : f_X12_readsOne T = some (2, T')) (m : Nat) : l_X12_reads_17 (1 + m) T 1 = l_X12_reads_17 m T' 1 := by
  rw [Nat.add_comm 1 m, l_X12_reads_17, byt_o ht hm hp, fb_s, if_neg (by decide), e, fb_s]
  exact (if_neg (by decide : ¬ (2 : Int32) = 0)).trans (if_pos rfl)
theorem rd_1 {p u h : Nat} {T1 T' : FS} (ht : TP b L S0 T0) (hm : MO T0 p u h T) (hp : p ≤ 60) (e : f_X12_readsOne T = some (1, T1)) (es : f_X12_settles T1 5 = some (0, T')) (m : Nat) : l_X12_reads_17 (1 + m) T 1 = l_X12_reads_17 m T' 0 := by
  rw [Nat.add_comm 1 m, l_X12_reads_17, byt_o ht hm hp, fb_s, if_neg (by decide), e, fb_s]
  refine (if_neg (by decide : ¬ (1 : Int32) = 0)).trans ((if_neg (by decide : ¬ (1 : Int32) = 2)).trans ?_)
  show fb (f_X12_settles T1 5) (fun r67 => l_X12_reads_17 m r67.2 0) = _
  rw [es, fb_s]
/-- what waits with ! is laid -/
theorem stl {q u hb h0 : Nat} (hm : MO T0 q u h0 T) (h60 : u + h0 ≤ 60) (hh : hb ≤ h0) (h33 : ∀ j : Nat, hb ≤ j → j < h0 → T.2 61 j = 33) (hbb : hb = 0 ∨ rn (T.2 61 (hb - 1)) < 5) : ∃ T' : FS, f_X12_settles T 5 = some (0, T') ∧ MO T0 q (u + (h0 - hb)) hb T' ∧ T'.2 61 = T.2 61 ∧ (∀ j : Nat, j < u → T'.2 60 j = T.2 60 j) ∧ ∀ i : Nat, i < h0 - hb → T'.2 60 (u + i) = -133 := by
  obtain ⟨T', e1, e2, e3, e4, e5⟩ := sdn_o (r := 5) hm hh h60 (fun j j1 j2 => by rw [h33 j j1 j2]; decide) (hbb.imp id (fun z => (rk_lt (r := 5) (by omega)).mpr z))
  refine ⟨T', e1, e2, e3, e4, fun i hi => ?_⟩
  rw [e5 i hi, h33 _ (by omega) (by omega)]
  decide
theorem ro_push {p u h k : Nat} {x : Int32} (ht : TP b L S0 T0) (hm : MO T0 p u h T) (hx : bt b L p = x) (c : x = 33 ∨ x = 40) (hp : p ≤ 60) (hh : h < 60) (ho : om (T.2 61) h = k) (hk : k < 5) : ∃ T2 : FS, f_X12_readsOne T = some (2, T2) ∧ MO T0 (p + 1) u (h + 1) T2 ∧ T2.2 61 = upd (T.2 61) h x ∧ T2.2 60 = T.2 60 := by
  obtain ⟨p1, p2, p3⟩ := push_m (x := x) hm
  have n5 : ¬ nI k = 5 := fun e => by have := nI_inj (b := 5) (by omega) (by decide) e; omega
  refine ⟨_, ?_, p1, p2, p3⟩
  unfold f_X12_readsOne
  rw [byt_o ht hm hp, fb_s, hx]
  rcases c with rfl | rfl
  · rw [if_pos rfl, om_o hm (by omega), fb_s, ho, if_neg n5, hm.2.2.2, ix_nI hh (by decide), fb_s, fl_s, fl_s, fl_s]
    rw [← hm.2.2.2]; rfl
  · rw [if_neg (by decide), if_pos rfl, om_o hm (by omega), fb_s, ho, if_neg n5, hm.2.2.2, ix_nI hh (by decide), fb_s, fl_s, fl_s, fl_s]
    rw [← hm.2.2.2]; rfl
theorem ro_5 {p u h : Nat} {x : Int32} (ht : TP b L S0 T0) (hm : MO T0 p u h T) (hx : bt b L p = x) (c : x = 33 ∨ x = 40) (hp : p ≤ 60) (hh : h ≤ 60) (ho : om (T.2 61) h = 5) : f_X12_readsOne T = some (0, T) := by
  unfold f_X12_readsOne
  rw [byt_o ht hm hp, fb_s, hx]
  rcases c with rfl | rfl
  · rw [if_pos rfl, om_o hm hh, fb_s, ho, if_pos (by decide)]
  · rw [if_neg (by decide), if_pos rfl, om_o hm hh, fb_s, ho, if_pos (by decide)]
theorem ro_name {p u h k : Nat} {x : Int32} (ht : TP b L S0 T0) (hm : MO T0 p u h T) (hx : bt b L p = x) (c1 : x ≠ 33) (c2 : x ≠ 40) (hp : p ≤ 60) (hu : u < 60) (hk : k < 11) (hn : p_X12_nameOf T x = nI (k + 1)) : ∃ T2 : FS, f_X12_readsOne T = some (1, T2) ∧ MO T0 (p + 1) (u + 1) h T2 ∧ T2.2 61 = T.2 61 ∧ (∀ j : Nat, j < u → T2.2 60 j = T.2 60 j) ∧ T2.2 60 u = -1 - nI k := by
  obtain ⟨T1, l1, ⟨⟨l2, l3⟩, l4, l5, l6⟩, l7, l8, l9⟩ := lay_o (x := -nI (k + 1)) hm hu
  have key : ∀ k : Nat, k < 11 → -nI (k + 1) = -1 - nI k := by decide +kernel
  refine ⟨wI T1 12 (T1.1 12 + 1), ?_, ⟨⟨fun a a1 a2 a3 => (wI_n a3).trans (l2 a a1 a2 a3), l3⟩, by rw [wI_e, l4, nI_1], (wI_n (by decide)).trans l5, (wI_n (by decide)).trans l6⟩, l7, l8, l9.trans (key k hk)⟩
  unfold f_X12_readsOne
  rw [byt_o ht hm hp, fb_s, hx, if_neg c1, if_neg c2, hn, if_pos (show (0 : Int32) < nI (k + 1) from nI_lt (a := 0) (by omega) (by omega)), l1, fb_s, fl_s]
theorem ro_bad {p u h : Nat} {x : Int32} (ht : TP b L S0 T0) (hm : MO T0 p u h T) (hx : bt b L p = x) (c1 : x ≠ 33) (c2 : x ≠ 40) (hp : p ≤ 60) (hu : u < 60) (hn : p_X12_nameOf T x = 0) (hd : ¬ dgt x) : ∃ T2 : FS, f_X12_readsOne T = some (0, T2) ∧ T2.1 12 = nI p ∧ MK T0 T2 := by
  obtain ⟨T1, l1, ⟨l2, l4, -⟩, -⟩ := lay_o (x := 0) hm hu
  refine ⟨T1, ?_, l4, l2⟩
  unfold f_X12_readsOne
  rw [byt_o ht hm hp, fb_s, hx, if_neg c1, if_neg c2, hn, if_neg (by decide), fv_s, show FU = 4999 + 1 from rfl, l_X12_readsOne_98, byt_o ht hm hp, fb_s, hx, dg12_n hd, if_pos rfl, l1, fb_s]
  show (if T.1 12 < T1.1 12 then _ else some (0, T1)) = _
  rw [l4, hm.2.1, if_neg (nI_nlt (Nat.le_refl _) (by omega))]
theorem num_l {p u h : Nat} (ht : TP b L S0 T0) : ∀ (d i v : Nat) (S T : FS), i + d = 4 → v < 10 ^ i → CO S0 (p + i) u S → MO T0 (p + i) u h T → p + i ≤ L → ∃ (j V : Nat) (S' T' : FS), (i ≤ j ∧ j ≤ 4 ∧ p + j ≤ L ∧ V < 10000) ∧ (j = 4 ∨ ¬ dgt (bt b L (p + j))) ∧ (CO S0 (p + j) u S' ∧ S'.2 = S.2) ∧ (MO T0 (p + j) u h T' ∧ T'.2 = T.2) ∧ (∀ (k : FS → Int32 → Int32 → Option (Int32 × FS)) (m : Nat), d < m → l_X6_readNumber_4 k m S (nI v) (nI i) = k S' (nI V) (nI j)) ∧ ∀ (k : FS → Int32 → Option (Int32 × FS)) (m : Nat), d < m → l_X12_readsOne_98 (nI p) k m T (nI v) = k T' (nI V) := by
  have hL := ht.1
  intro d
  induction d with
  | zero =>
    intro i v S T hi hv hS hT hp
    obtain rfl : i = 4 := by omega
    refine ⟨4, v, S, T, ⟨Nat.le_refl _, Nat.le_refl _, hp, hv⟩, Or.inl rfl, ⟨hS, rfl⟩, ⟨hT, rfl⟩, fun k m hm => ?_, fun k m hm => ?_⟩
    · obtain ⟨m, rfl⟩ : ∃ m' : Nat, m = m' + 1 := ⟨m - 1, by omega⟩
      rw [l_X6_readNumber_4, if_neg (by decide)]
    · obtain ⟨m, rfl⟩ : ∃ m' : Nat, m = m' + 1 := ⟨m - 1, by omega⟩
      rw [l_X12_readsOne_98, byt_o ht hT (by omega), fb_s]
      rcases dg_12 T (bt b L (p + 4)) with ⟨-, e⟩ | ⟨-, e⟩
      · rw [if_neg e, hT.2.1, pk_sub (by omega), show p + 4 - p = 4 by omega, if_neg (by decide)]
      · rw [if_pos e]
  | succ d ih =>
    intro i v S T hi hv hS hT hp
    have h10 : 10 ^ i ≤ 10 ^ 3 := Nat.pow_le_pow_right (by omega) (by omega)
    by_cases dg : dgt (bt b L (p + i))
    · rcases bt_c (p := p + i) ht with ⟨z, -⟩ | ⟨⟨c, hc, z⟩, z2, -⟩
      · rw [z] at dg; exact absurd dg dgt_m1
      · rw [z] at dg
        have c1 : 48 ≤ c := Nat.le_of_not_lt (fun q => dg.1 (nI_lt (b := 48) q (by decide)))
        have c2 : c ≤ 57 := Nat.le_of_not_lt (fun q => dg.2 (nI_lt (a := 57) q (by omega)))
        have hn : p_X6_next S = nI c := (nx_o ht hS (by omega)).trans z
        have ev : (nI v * 10 + nI c) - 48 = nI (v * 10 + (c - 48)) := by
          rw [show (10 : Int32) = nI 10 from rfl, show (48 : Int32) = nI 48 from rfl, pk_mul, nI_add, pk_sub (by omega)]; exact congrArg nI (by omega)
        have ev2 : (10 * nI v + nI c) - 48 = nI (v * 10 + (c - 48)) := by
          rw [show (10 : Int32) = nI 10 from rfl, show (48 : Int32) = nI 48 from rfl, pk_mul, nI_add, pk_sub (by omega)]; exact congrArg nI (by omega)
        have hT2 : MO T0 (p + (i + 1)) u h (wI T 12 (T.1 12 + 1)) := ⟨⟨fun a a1 a2 a3 => (wI_n a3).trans (hT.1.1 a a1 a2 a3), hT.1.2⟩, by rw [wI_e, hT.2.1, nI_1, Nat.add_assoc], (wI_n (by decide)).trans hT.2.2.1, (wI_n (by decide)).trans hT.2.2.2⟩
        have hpw : 10 ^ (i + 1) = 10 ^ i * 10 := Nat.pow_succ ..
        obtain ⟨j, V, S', T', a1, a2, a3, a4, a5, a6⟩ := ih (i + 1) (v * 10 + (c - 48)) (wI S 105 (S.1 105 + 1)) (wI T 12 (T.1 12 + 1)) (by omega) (by omega) (adv_o hS).1 hT2 (by omega)
        refine ⟨j, V, S', T', ⟨by omega, a1.2⟩, a2, a3, a4, fun k m hm => ?_, fun k m hm => ?_⟩
        · obtain ⟨m, rfl⟩ : ∃ m' : Nat, m = m' + 1 := ⟨m - 1, by omega⟩
          rw [l_X6_readNumber_4, if_pos (show nI i < 4 from nI_lt (b := 4) (show i < 4 by omega) (by decide)), hn, if_neg (dg6_y dg), fv_s, fl_s, ev, nI_1]
          exact a5 k m (by omega)
        · obtain ⟨m, rfl⟩ : ∃ m' : Nat, m = m' + 1 := ⟨m - 1, by omega⟩
          have q1 : (T.1 12) - nI p < 4 := by rw [hT.2.1, pk_sub (by omega)]; exact nI_lt (b := 4) (show p + i - p < 4 by omega) (by decide)
          rw [l_X12_readsOne_98, byt_o ht hT (by omega), fb_s, z, if_neg (dg12_y dg), if_pos q1, fb_s, fv_s, fl_s, ev2]
          exact a6 k m (by omega)
    · refine ⟨i, v, S, T, ⟨Nat.le_refl _, by omega, hp, by omega⟩, Or.inr dg, ⟨hS, rfl⟩, ⟨hT, rfl⟩, fun k m hm => ?_, fun k m hm => ?_⟩
      · obtain ⟨m, rfl⟩ : ∃ m' : Nat, m = m' + 1 := ⟨m - 1, by omega⟩
        rw [l_X6_readNumber_4, if_pos (show nI i < 4 from nI_lt (b := 4) (show i < 4 by omega) (by decide)), nx_o ht hS (by omega), dg6_n dg, if_pos rfl]
      · obtain ⟨m, rfl⟩ : ∃ m' : Nat, m = m' + 1 := ⟨m - 1, by omega⟩
        rw [l_X12_readsOne_98, byt_o ht hT (by omega), fb_s, dg12_n dg, if_pos rfl]
def PG (b : Nat → Int32) (L : Nat) (S0 T0 : FS) (p w hb h0 : Nat) (f : Nat → Int32) (T S' : FS) : Prop := ∃ (q n u' : Nat) (T' : FS), (p ≤ q ∧ n ≤ q - p ∧ q ≤ L ∧ u' + h0 ≤ q) ∧ (∀ m : Nat, l_X12_reads_17 (n + m) T 1 = l_X12_reads_17 m T' 0) ∧ CO S0 q u' S' ∧ MO T0 q (u' + (h0 - hb)) hb T' ∧ (∀ j : Nat, j < u' → cdM (S'.2 29 j) (T'.2 60 j)) ∧ (∀ i : Nat, i < h0 - hb → T'.2 60 (u' + i) = -133) ∧ cdH (S'.2 29) u' = some w ∧ ∀ j : Nat, j < hb → T'.2 61 j = f j
def PO (b : Nat → Int32) (L : Nat) (S0 T0 : FS) (k : Nat) (P : FS → Option (Int32 × FS)) : Prop := ∀ (p u w hb h0 : Nat) (S T : FS), AT L S0 T0 p u w h0 S T → hb ≤ h0 → (∀ j : Nat, hb ≤ j → j < h0 → T.2 61 j = 33) → (hb = 0 ∨ rn (T.2 61 (hb - 1)) < 5) → om (T.2 61) h0 = k → ∃ S' : FS, P S = some (0, S') ∧ (BO b L S0 T0 1 p T S' ∨ PG b L S0 T0 p (w + 1) hb h0 (T.2 61) T S')
theorem lv_part {k : Nat} {P : FS → Option (Int32 × FS)} (hP : PO b L S0 T0 k P) : LV b L S0 T0 5 k P := by
  intro p u w h S T hat hb ho
  obtain ⟨S', e, r⟩ := hP p u w h h S T hat (Nat.le_refl _) (fun j j1 j2 => by omega) hb ho
  refine ⟨S', e, r.imp id ?_⟩
  rintro ⟨q, n, u', T', ⟨g1, g2, g3, g4⟩, g5, g6, g7, g8, g9, g10, g11⟩
  rw [Nat.sub_self, Nat.add_zero] at g7
  exact ⟨q, n, u', h, T', ⟨g1, g2⟩, g5, ⟨⟨Nat.le_refl _, g4, g3⟩, by rw [Nat.sub_self, Nat.add_zero]; exact g6, g7, g8, fun i hi => by omega, by rw [Nat.sub_self, Nat.add_zero]; exact g10, g11, fun j j1 j2 => by omega⟩, fun z => by omega, fun z => by omega, fun z => by omega, fun z => by omega⟩
/-- what a part does with a letter that is neither ! nor ( -/
def PA (P : FS → Option (Int32 × FS)) : Prop := (∀ (S : FS) (x : Int32), p_X6_next S = x → (x = -1 ∨ (nB 255 x ∧ nmV x < 0)) → ¬ dgt x → x ≠ 33 → x ≠ 40 → P S = fb (f_X6_fail S) (fun r => some (0, r.2))) ∧
  (∀ (S : FS) (x : Int32), p_X6_next S = x → nB 255 x → dgt x → P S = fb (f_X6_readNumber S) (fun r => some (0, r.2))) ∧
  (∀ (S : FS) (x : Int32), p_X6_next S = x → nB 255 x → ¬ dgt x → ¬ nmV x < 0 → P S = fb (fApp 28 60 1 (wI S 105 (S.1 105 + 1)) (-20 - nmV x)) (fun r => some (0, r.2)))
theorem BO.one {p : Nat} {S' T1 : FS} (hp : p ≤ L) (hS : BAD b L S0 p S') (e : ∀ m : Nat, l_X12_reads_17 (1 + m) T 1 = some (0, T1)) (h12 : T1.1 12 = nI p) (hk : MK T0 T1) : BO b L S0 T0 1 p T S' := ⟨p, 1, T1, ⟨Nat.le_refl _, hp, by omega⟩, hS, e, h12, hk⟩
theorem part_c {P : FS → Option (Int32 × FS)} {p u w hb h0 : Nat} (ht : TP b L S0 T0) (hP : PA P) (hat : AT L S0 T0 p u w h0 S T) (hh : hb ≤ h0) (h33 : ∀ j : Nat, hb ≤ j → j < h0 → T.2 61 j = 33) (hbb : hb = 0 ∨ rn (T.2 61 (hb - 1)) < 5) (c1 : bt b L p ≠ 33) (c2 : bt b L p ≠ 40) : ∃ S' : FS, P S = some (0, S') ∧ (BO b L S0 T0 1 p T S' ∨ PG b L S0 T0 p (w + 1) hb h0 (T.2 61) T S') := by
  have hL := ht.1
  have hu := hat.u60 ht
  obtain ⟨hS, hM, ⟨b1, b2, b3⟩, hcd, hH⟩ := hat
  have hwu := (cdH_i _ _ hH).1
  have hn := nx_o ht hS (by omega)
  have h9 : bt b L p = -1 ∨ nB 255 (bt b L p) := (bt_c ht).imp (fun q => q.1) (fun q => q.1)
  by_cases dg : dgt (bt b L p)
  · have hB : nB 255 (bt b L p) := h9.resolve_left (fun e => dgt_m1 (e ▸ dg))
    obtain ⟨j, V, S1, T1, ⟨j1, j2, j3, j4⟩, j5, ⟨j6, j7⟩, ⟨j8, j9⟩, j10, j11⟩ := num_l (p := p) ht 4 0 0 S T rfl (by decide) hS hM (by omega)
    have jp : 1 ≤ j := by
      apply Nat.le_of_not_lt
      intro z
      obtain rfl : j = 0 := by omega
      exact (j5.resolve_left (by omega)) dg
    obtain ⟨S2, v1, v2, v3, v4⟩ := app_o (x := nI V) j6 hu
    obtain ⟨T2, l1, l2, l3, l4, l5⟩ := lay_o (x := nI V) j8 hu
    have ec : P S = some (0, S2) := by
      rw [hP.2.1 S _ hn hB dg]
      unfold f_X6_readNumber
      have := j10 (fun S6 x6_1 x6_2 => fb (fApp 28 60 1 S6 x6_1) (fun r8 => some (0, r8.2))) FU (FU_lt (by omega))
      rw [show l_X6_readNumber_4 (fun S6 x6_1 x6_2 => fb (fApp 28 60 1 S6 x6_1) (fun r8 => some (0, r8.2))) FU S 0 0 = _ from this, v1, fb_s, fb_s]
    have em : f_X12_readsOne T = if p_X12_isDigit T2 (bt b L (p + j)) = 0 then some (1, T2) else some (0, T2) := by
      unfold f_X12_readsOne
      rw [byt_o ht hM (by omega), fb_s, if_neg c1, if_neg c2, nm_dg T hB dg, if_neg (by decide), fv_s, hM.2.1]
      refine (j11 _ FU (FU_lt (by omega))).trans ?_
      show fb (f_X12_lays T1 (nI V)) _ = _
      rw [l1, fb_s]
      show (if nI p < T2.1 12 then fb (q_X12_byteAt T2 (T2.1 12)) (fun x28 => if p_X12_isDigit T2 x28 = 0 then some (1, T2) else some (0, T2)) else some (0, T2)) = _
      rw [byt_o ht l2 (by omega), fb_s, l2.2.1, if_pos (nI_lt (by omega) (by omega))]
    refine ⟨S2, ec, ?_⟩
    rcases dg_12 T2 (bt b L (p + j)) with ⟨d1, d2⟩ | ⟨d1, d2⟩
    · rw [if_neg d2] at em
      rcases bt_c (p := p + j) ht with ⟨z, -⟩ | ⟨-, z2, z3⟩
      · rw [z] at d1; exact absurd d1 dgt_m1
      · rw [z3] at d1
        exact Or.inl ⟨p + j, 1, T2, ⟨by omega, by omega, by omega⟩, Or.inr ⟨v2.1, v2.2.1, v2.2.2.1, z2, d1⟩, rd_0 ht hM (by omega) em, l2.2.1, l2.1⟩
    · rw [if_pos d2] at em
      have e61 : T2.2 61 = T.2 61 := l3.trans (by rw [j9])
      obtain ⟨T3, s1, s2, s3, s4, s5⟩ := stl (hb := hb) l2 (by omega) hh (fun i i1 i2 => by rw [e61]; exact h33 i i1 i2) (by rw [e61]; exact hbb)
      refine Or.inr ⟨p + j, 1, u + 1, T3, ⟨by omega, by omega, by omega, by omega⟩, rd_1 ht hM (by omega) em s1, v2, s2, fun i hi => ?_, s5, ?_, fun i hi => by rw [s3, e61]⟩
      · rw [s4 i hi]
        by_cases z : i = u
        · subst z; rw [v4, l5]; exact Or.inl ⟨nI_pos (by omega), rfl⟩
        · rw [v3 i (by omega), l4 i (by omega), j7, j9]; exact hcd i (by omega)
      · refine cdH_n hH (fun i hi => by rw [v3 i hi, j7]) ?_ (by omega)
        rw [v4]; exact fun q => nI_pos (by omega) q.2
  · rcases nm_c T h9 with ⟨n1, n2⟩ | ⟨k, hk, n1, n2⟩
    · obtain ⟨S1, f1, f2⟩ := fail_o hS (by omega)
      obtain ⟨T1, t1, t2, t3⟩ := ro_bad ht hM rfl c1 c2 (by omega) hu n2 dg
      refine ⟨S1, ?_, Or.inl (BO.one b2 (Or.inl f2) (rd_0 ht hM (by omega) t1) t2 t3)⟩
      rw [hP.1 S _ hn (h9.imp id (fun q => ⟨q, by rw [n1]; decide⟩)) dg c1 c2, f1, fb_s]
    · have hB : nB 255 (bt b L p) := h9.resolve_left (fun e => by
        rw [e] at n1
        exact nI_pos (by omega) (n1 ▸ (by decide : nmV (-1) < 0)))
      have hpL : p < L := by
        rcases bt_c (p := p) ht with ⟨z, -⟩ | ⟨-, z, -⟩
        · rw [z] at n1; exact absurd (n1 ▸ (by decide : nmV (-1) < 0)) (nI_pos (by omega))
        · exact z
      obtain ⟨S2, v1, v2, v3, v4⟩ := app_o (x := -20 - nI k) (adv_o hS).1 hu
      obtain ⟨T2, t1, t2, t3, t4, t5⟩ := ro_name ht hM rfl c1 c2 (by omega) hu hk n2
      obtain ⟨T3, s1, s2, s3, s4, s5⟩ := stl (hb := hb) t2 (by omega) hh (fun i i1 i2 => by rw [t3]; exact h33 i i1 i2) (by rw [t3]; exact hbb)
      refine ⟨S2, ?_, Or.inr ⟨p + 1, 1, u + 1, T3, ⟨by omega, by omega, by omega, by omega⟩, rd_1 ht hM (by omega) t1 s1, v2, s2, fun i hi => ?_, s5, ?_, fun i hi => by rw [s3, t3]⟩⟩
      · rw [hP.2.2 S _ hn hB dg (by rw [n1]; exact nI_pos (by omega)), n1, v1, fb_s]
      · rw [s4 i hi]
        by_cases z : i = u
        · subst z; rw [v4, t5]; exact Or.inr (Or.inl ⟨k, hk, rfl, rfl⟩)
        · rw [v3 i (by omega), t4 i (by omega)]; exact hcd i (by omega)
      · refine cdH_n hH (fun i hi => v3 i hi) ?_ (by omega)
        rw [v4]
        have key : ∀ k : Nat, k < 11 → ¬ (-20 < -20 - nI k ∧ -20 - nI k < 0) := by decide +kernel
        exact key k hk
theorem part_5 {P : FS → Option (Int32 × FS)} (ht : TP b L S0 T0) (hP : PA P) (hF : ∀ S : FS, p_X6_next S = 33 ∨ p_X6_next S = 40 → P S = fb (f_X6_fail S) (fun r => some (0, r.2))) : PO b L S0 T0 5 P := by
  intro p u w hb h0 S T hat hh h33 hbb ho
  by_cases c : bt b L p = 33 ∨ bt b L p = 40
  · have hL := ht.1
    obtain ⟨hS, hM, ⟨b1, b2, b3⟩, -⟩ := hat
    obtain ⟨S1, f1, f2⟩ := fail_o hS (by omega)
    refine ⟨S1, ?_, Or.inl (BO.one b2 (Or.inl f2) (rd_0 ht hM (by omega) (ro_5 ht hM rfl c (by omega) (by omega) ho)) hM.2.1 hM.1)⟩
    rw [hF S (by rw [nx_o ht hS (by omega)]; exact c), f1, fb_s]
  · exact part_c ht hP hat hh h33 hbb (fun z => c (Or.inl z)) (fun z => c (Or.inr z))
theorem part_k {k : Nat} {P P' X' : FS → Option (Int32 × FS)} (ht : TP b L S0 T0) (hk : k < 5) (hP : PA P) (hP' : PO b L S0 T0 (k + 1) P') (hX' : LV b L S0 T0 1 (k + 1) X')
    (hx : ∀ S : FS, p_X6_next S = 33 → P S = fb (P' (wI S 105 (S.1 105 + 1))) (fun r => fb (fApp 28 60 1 r.2 (-1)) (fun r => some (0, r.2))))
    (hy : ∀ S : FS, p_X6_next S = 40 → P S = fb (X' (wI S 105 (S.1 105 + 1))) (fun r => fb (f_X6_readClosing r.2) (fun r => some (0, r.2)))) : PO b L S0 T0 k P := by
  intro p u w hb h0 S T hat hh h33 hbb ho
  have hL := ht.1
  by_cases c : bt b L p = 33 ∨ bt b L p = 40
  · have hpL : p < L := by
      rcases bt_c (p := p) ht with ⟨z, -⟩ | ⟨-, z, -⟩
      · rw [z] at c; exact absurd c (by decide)
      · exact z
    obtain ⟨hS, hM, ⟨b1, b2, b3⟩, hcd, hH⟩ := hat
    have hn := nx_o ht hS (by omega)
    obtain ⟨T2, t1, t2, t3, t4⟩ := ro_push ht hM rfl c (by omega) (by omega) ho hk
    have ea := adv_o hS
    have hat2 : AT L S0 T0 (p + 1) u w (h0 + 1) (wI S 105 (S.1 105 + 1)) T2 := ⟨ea.1, t2, ⟨by omega, by omega, by omega⟩, fun j hj => by rw [ea.2, t4]; exact hcd j hj, by rw [ea.2]; exact hH⟩
    have e0 : T2.2 61 h0 = bt b L p := by rw [t3, pk_us]
    have eo : ∀ j : Nat, j < h0 → T2.2 61 j = T.2 61 j := fun j hj => by rw [t3, pk_un (by omega)]
    have ho2 : om (T2.2 61) (h0 + 1) = k + 1 := by rw [om_1 (by rw [e0]; exact c), om_e h0 eo, ho]
    have m1 := fun m => rd_2 ht hM (by omega) t1 m
    rcases c with c | c
    · rw [c] at e0
      obtain ⟨S1, s1, s2⟩ := hP' (p + 1) u w hb (h0 + 1) _ T2 hat2 (by omega) (fun j j1 j2 => by
        by_cases z : j = h0
        · subst z; exact e0
        · rw [eo j (by omega)]; exact h33 j j1 (by omega)) (by
        by_cases y : hb = 0
        · exact Or.inl y
        · right; rw [eo _ (by omega)]; exact hbb.resolve_left y) ho2
      rw [hx S (by rw [hn]; exact c), s1, fb_s]
      rcases s2 with s2 | ⟨q, n, u', T', ⟨g1, g2, g3, g4⟩, g5, g6, g7, g8, g9, g10, g11⟩
      · obtain ⟨q, n, T', ⟨b1, b2, b3⟩, b4, b5, b6⟩ := s2
        obtain ⟨v, S2, v1, v2⟩ := app_b (x := -1) b4
        exact ⟨S2, by show fb (fApp 28 60 1 S1 (-1)) _ = _; rw [v1, fb_s], Or.inl ⟨q, 1 + n, T', ⟨by omega, b2, by omega⟩, v2, fun m => by rw [Nat.add_assoc, m1, b5], b6⟩⟩
      · obtain ⟨S2, v1, v2, v3, v4⟩ := app_o (x := -1) g6 (by omega)
        refine ⟨S2, by show fb (fApp 28 60 1 S1 (-1)) _ = _; rw [v1, fb_s], Or.inr ⟨q, 1 + n, u' + 1, T', ⟨by omega, by omega, g3, by omega⟩, fun m => by rw [Nat.add_assoc, m1, g5], v2, by rw [show u' + 1 + (h0 - hb) = u' + (h0 + 1 - hb) by omega]; exact g7, fun j hj => ?_, fun i hi => ?_, cdH_1 g10 v3 v4 (by omega), fun j hj => by rw [g11 j hj, eo j (by omega)]⟩⟩
        · by_cases z : j = u'
          · subst z
            have := g9 0 (by omega)
            rw [Nat.add_zero] at this
            rw [v4, this]; exact Or.inr (Or.inr (Or.inl ⟨rfl, rfl⟩))
          · rw [v3 j (by omega)]; exact g8 j (by omega)
        · have := g9 (i + 1) (by omega)
          rw [show u' + 1 + i = u' + (i + 1) by omega]; exact this
    · rw [c] at e0
      obtain ⟨S1, s1, s2⟩ := hX' (p + 1) u w (h0 + 1) _ T2 hat2 (Or.inr (by rw [show h0 + 1 - 1 = h0 by omega, e0]; decide)) ho2
      rw [hy S (by rw [hn]; exact c), s1, fb_s]
      rcases s2 with s2 | ⟨q, n, um, hm, T1, ⟨g1, g2⟩, g3, g4, g5⟩
      · obtain ⟨q, n, T', ⟨b1, b2, b3⟩, b4, b5, b6⟩ := s2
        obtain ⟨S2, v1, v2⟩ := cls_b ht b4
        exact ⟨S2, by show fb (f_X6_readClosing S1) _ = _; rw [v1, fb_s], Or.inl ⟨q, 1 + n, T', ⟨by omega, b2, by omega⟩, Or.inl v2, fun m => by rw [Nat.add_assoc, m1, b5], b6⟩⟩
      · have g4' := g4
        obtain ⟨⟨a1, a2, a3⟩, a4, a5, a6, a7, a8, a9, a10⟩ := g4
        have e40 : T1.2 61 h0 = 40 := (a9 h0 (by omega)).trans e0
        have hO1 : hO (T1.2 61) hm := ⟨h0, by omega, e40⟩
        have hn1 := nx_o ht a4 (by omega)
        have m2 : ∀ m : Nat, l_X12_reads_17 (1 + n + m) T 1 = l_X12_reads_17 m T1 0 := fun m => by rw [Nat.add_assoc, m1, g3]
        by_cases d : bt b L q = 41
        · have hqL : q < L := by
            rcases bt_c (p := q) ht with ⟨z, -⟩ | ⟨-, z, -⟩
            · rw [z] at d; exact absurd d (by decide)
            · exact z
          obtain ⟨T3, t31, t32, t33, t34, t35⟩ := sdn_o (r := 1) (h := h0 + 1) a5 a1 (by omega) (fun j j1 j2 => by
            have := (a10 j j1 j2).1
            rw [show (1 : Int32) = nI 1 from rfl, rk_lt (by omega)]; omega) (Or.inr (by rw [show h0 + 1 - 1 = h0 by omega, e40]; decide))
          have hT4 : MO T0 (q + 1) (um + (hm - (h0 + 1))) h0 (wI (wI T3 11 (T3.1 11 - 1)) 12 ((wI T3 11 (T3.1 11 - 1)).1 12 + 1)) := by
            refine ⟨⟨fun k k1 k2 k3 => ?_, t32.1.2⟩, ?_, ?_, ?_⟩
            · rw [wI_n k3, wI_n k2]; exact t32.1.1 k k1 k2 k3
            · rw [wI_e, wI_n (by decide), t32.2.1, nI_1]
            · rw [wI_n (by decide), wI_n (by decide)]; exact t32.2.2.1
            · rw [wI_n (by decide), wI_e, t32.2.2.2, nI_pred]
          have e61 : ∀ j : Nat, j < h0 → (wI (wI T3 11 (T3.1 11 - 1)) 12 ((wI T3 11 (T3.1 11 - 1)).1 12 + 1)).2 61 j = T.2 61 j := fun j hj => by
            show T3.2 61 j = _
            rw [t33, a9 j (by omega)]; exact eo j hj
          obtain ⟨T5, y1, y2, y3, y4, y5⟩ := stl (hb := hb) hT4 (by omega) hh (fun j j1 j2 => by rw [e61 j j2]; exact h33 j j1 j2) (by
            by_cases z : hb = 0
            · exact Or.inl z
            · right; rw [e61 _ (by omega)]; exact hbb.resolve_left z)
          have ea1 := adv_o a4
          refine ⟨wI S1 105 (S1.1 105 + 1), ?_, Or.inr ⟨q + 1, 1 + n + 1, um + (hm - (h0 + 1)), T5, ⟨by omega, by omega, by omega, by omega⟩, fun m => ?_, ea1.1, y2, fun j hj => ?_, y5, by rw [ea1.2]; exact a8, fun j hj => by rw [y3, e61 j (by omega)]⟩⟩
          · show fb (f_X6_readClosing S1) _ = _
            unfold f_X6_readClosing
            rw [hn1, if_pos d, fl_s, fb_s]
          · rw [Nat.add_assoc (1 + n), m2, Nat.add_comm 1 m, l_X12_reads_17, byt_o ht a5 (by omega), fb_s, if_pos rfl, if_neg (bt_nn ht hqL), if_pos d]
            rcases ho_o a5 (by omega) with ⟨-, z2⟩ | ⟨z1, -⟩
            · rw [z2, fb_s, if_neg (by decide), t31, fb_s, fl_s, fl_s, y1, fb_s]
            · exact absurd hO1 z1
          · rw [ea1.2, y4 j hj]
            show cdM _ (T3.2 60 j)
            by_cases z : j < um
            · rw [t34 j z]; exact a6 j z
            · have e := t35 (j - um) (by omega)
              have e2 := a7 (j - um) (by omega)
              rw [show um + (j - um) = j by omega] at e e2
              rw [e]; exact e2
        · obtain ⟨S2, v1, v2⟩ := fail_o a4 (by omega)
          refine ⟨S2, ?_, Or.inl ⟨q, 1 + n + 1, T1, ⟨by omega, a3, by omega⟩, Or.inl v2, fun m => ?_, a5.2.1, a5.1⟩⟩
          · show fb (f_X6_readClosing S1) _ = _
            unfold f_X6_readClosing
            rw [hn1, if_neg d, v1, fb_s, fb_s]
          · rw [Nat.add_assoc (1 + n), m2]
            refine tail_b ht g4' g5 ?_ m
            rcases bt_c (p := q) ht with ⟨z, -⟩ | ⟨-, z, -⟩
            · left; exact ⟨by rw [z]; decide, hO1⟩
            · right; exact ⟨z, fun z2 => absurd z2 d⟩
  · exact part_c ht hP hat hh h33 hbb (fun z => c (Or.inl z)) (fun z => c (Or.inr z))
end TXT3
