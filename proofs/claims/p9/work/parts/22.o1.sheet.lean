/-! ===== pure: sheets ===== -/
section SHT
variable {K : Nat → Nat} {S T : FS} {za zb zc zd ze : Int32}
theorem RelR.cs {S' : FS} {n : Nat → Int32} (h : RelR K S n) (eI : ∀ k ∈ ctI, S'.1 k = S.1 k) (eA : ∀ a ∈ ctA, S'.2 a = S.2 a) : RelR K S' n := by
  obtain ⟨h1, h2⟩ := h
  have e3 := eA 3 (by decide)
  have e5 := eA 5 (by decide)
  have e7 := eA 7 (by decide)
  have e9 := eA 9 (by decide)
  have e11 := eA 11 (by decide)
  have e13 := eA 13 (by decide)
  have e15 := eA 15 (by decide)
  have e17 := eA 17 (by decide)
  have e19 := eA 19 (by decide)
  have e21 := eA 21 (by decide)
  have e23 := eA 23 (by decide)
  have e25 := eA 25 (by decide)
  refine ⟨⟨fun q hq => ?_, ?_⟩, ?_⟩
  · have h9 : ∀ q ∈ ctT, q.1 ∈ ctI := by decide
    rw [eI q.1 (h9 q hq)]; exact h1.1 q hq
  · rw [eI 103 (by decide)]; exact h1.2
  · rw [e3, e5, e7, e9, e11, e13, e15, e17, e19, e21, e23, e25]; exact h2
/-- images are left alone -/
def KX (S S' T T' : FS) : Prop := S'.1 100 = S.1 100 ∧ T'.2 56 = T.2 56 ∧ T'.1 3 = T.1 3
theorem KX.rf : KX S S T T := ⟨rfl, rfl, rfl⟩
/-- both answer the same; realm, sheets and trace stand for the same again -/
def OK3 (S T : FS) (x y : Option (Int32 × FS)) : Prop := ∃ (v : Int32) (S' T' : FS), x = some (v, S') ∧ y = some (v, T') ∧ (∃ K' : Nat → Nat, RelR K' S' (T'.2 55)) ∧ RX S' T' ∧ KX S S' T T'
/-- both answer -/
def OK4 (S T : FS) (x y : Option (Int32 × FS)) : Prop := ∃ (v v' : Int32) (S' T' : FS), x = some (v, S') ∧ y = some (v', T') ∧ (∃ K' : Nat → Nat, RelR K' S' (T'.2 55)) ∧ RX S' T' ∧ KX S S' T T'
theorem OK3.one {x y : Option (Int32 × FS)} (h : OK3 S T x y) : OK4 S T x y := by
  obtain ⟨v, S', T', h1, h2, h3⟩ := h
  exact ⟨v, v, S', T', h1, h2, h3⟩
theorem OK2.x {x y : Option (Int32 × FS)} (h : OK2 S T x y) (hx : RX S T) : OK3 S T x y := by
  obtain ⟨v, S', T', h1, h2, h3, h4, h5⟩ := h
  exact ⟨v, S', T', h1, h2, h3, hx.mono h4 h5, h4.2.2, h5.1.1, h5.2.2⟩
theorem OK1.x {x y : Option (Int32 × FS)} (h : OK1 S T x y) (hx : RX S T) : OK4 S T x y := by
  obtain ⟨v, v', S', T', h1, h2, h3, h4, h5⟩ := h
  exact ⟨v, v', S', T', h1, h2, h3, hx.mono h4 h5, h4.2.2, h5.1.1, h5.2.2⟩
theorem sh_c (S T : FS) (x : Int32) : (p_X8_has S x = 0 ∧ p_X12_isSheet T x = 0) ∨ ∃ s : Nat, s < 4 ∧ x = nI s ∧ p_X8_has S x = 1 ∧ p_X12_isSheet T x = 1 ∧ ix 4 x = some s ∧ q_X8_bitsOf S x = some (S.2 49 s) ∧ q_X8_sizeOf S x = some (S.2 50 s) := by
  unfold p_X8_has p_X12_isSheet p_X12_in q_X8_bitsOf q_X8_sizeOf
  rcases pk_ix x (n := 4) (by decide) with h | h | ⟨s, hs, rfl⟩
  · left; rw [if_pos h, if_pos h]; exact ⟨rfl, rfl⟩
  · left
    have h2 : ¬ x < 4 := Int32.not_lt.mpr h
    by_cases c : x < 0
    · rw [if_pos c, if_pos c]; exact ⟨rfl, rfl⟩
    · rw [if_neg c, if_neg c, if_neg h2, if_pos (Int32.lt_of_lt_of_le (by decide) h)]; exact ⟨rfl, rfl⟩
  · right
    have p0 : ¬ nI s < 0 := nI_pos (by omega)
    have p4 : nI s < 4 := nI_lt (b := 4) hs (by decide)
    have p3 : ¬ (3 : Int32) < nI s := nI_nlt (a := 3) (by omega) (by decide)
    simp only [p0, p4, p3, ↓reduceIte, ix_nI hs (show 4 ≤ 2 ^ 31 by decide), fb_s]
    refine ⟨s, hs, rfl, ?_, ?_, ?_, ?_, ?_⟩ <;> first | rfl | trivial
def E52 (S S' : FS) : Prop := S'.1 = S.1 ∧ ∀ a : Nat, a ≠ 52 → S'.2 a = S.2 a
def E72 (T T' : FS) : Prop := T'.1 = T.1 ∧ ∀ a : Nat, a ≠ 72 → a ≠ 73 → T'.2 a = T.2 a
theorem ix96 {s i : Nat} (hs : s < 4) (hi : i < 24) : ix 96 ((24 : Int32) * nI s + nI i) = some (24 * s + i) := by
  rw [show (24 : Int32) = nI 24 from rfl, pk_mul, nI_add]; exact ix_nI (by omega) (by decide)
theorem clr_l {s : Nat} (hs : s < 4) : ∀ (m i : Nat) (S T : FS), i ≤ 24 → 24 - i < m → (∀ j : Nat, j < 96 → ¬ (24 * s + i ≤ j ∧ j < 24 * s + 24) → S.2 52 j = T.2 72 j) → ∃ S' T' : FS, E52 S S' ∧ E72 T T' ∧ (∀ j : Nat, j < 96 → S'.2 52 j = T'.2 72 j) ∧ (∀ k, l_X8_layOut_39 (nI s) k m S (nI i) = k S' (nI 24)) ∧ ∀ k, l_X12_sheet_90 (nI s) k m T (nI i) = k T' (nI 24) := by
  intro m
  induction m with
  | zero => intro i S T _ hm; exact absurd hm (Nat.not_lt_zero _)
  | succ m ih =>
    intro i S T hi hm hj
    by_cases c : i < 24
    · have lt : nI i < 24 := nI_lt (b := 24) c (by decide)
      obtain ⟨S', T', r1, r2, r3, r4, r5⟩ := ih (i + 1) (wA S 52 (24 * s + i) 0) (wA T 72 (24 * s + i) 0) (by omega) (by omega) (fun j h1 h2 => by
        rw [wA_e, wA_e]
        by_cases z : j = 24 * s + i
        · subst z; rw [pk_us, pk_us]
        · rw [pk_un z, pk_un z]; exact hj j h1 (by omega))
      refine ⟨S', T', ⟨r1.1, fun a ha => (r1.2 a ha).trans (wA_n ha)⟩, ⟨r2.1, fun a ha hb => (r2.2 a ha hb).trans (wA_n ha)⟩, r3, fun k => ?_, fun k => ?_⟩
      · rw [l_X8_layOut_39]
        simp only [lt, fl_s, s51 hs c, nI_1, ↓reduceIte]; exact r4 k
      · rw [l_X12_sheet_90]
        simp only [lt, fl_s, ix96 hs c, fb_s, nI_1, ↓reduceIte]; exact r5 k
    · have ei : i = 24 := by omega
      subst ei
      refine ⟨S, T, ⟨rfl, fun _ _ => rfl⟩, ⟨rfl, fun _ _ _ => rfl⟩, fun j h1 => hj j h1 (by omega), fun k => ?_, fun k => ?_⟩
      · rw [l_X8_layOut_39, if_neg (by decide)]
      · rw [l_X12_sheet_90, if_neg (by decide)]
theorem RelR.lay (h : RelR K S (T.2 55)) (hx : RX S T) {s n : Nat} {b : Int32} (hs : s < 4) (hn : n ≤ 24) (hb : b = 0 ∨ b = 8 ∨ b = 16 ∨ b = 32) : ∃ S' T' : FS, f_X8_layOut S (nI s) b (nI n) = some (0, S') ∧ j_X12_sheet_87 (nI s) (wA (wA T 70 s b) 71 s (nI n)) = some (1, T') ∧ (∃ K' : Nat → Nat, RelR K' S' (T'.2 55)) ∧ RX S' T' ∧ KX S S' T T' := by
  obtain ⟨x1, x2, x3, x4, x5⟩ := hx
  obtain ⟨S', T', r1, r2, r3, r4, r5⟩ := clr_l hs FU 0 (wA (wA S 49 s b) 50 s (nI n)) (wA (wA T 70 s b) 71 s (nI n)) (Nat.zero_le _) (FU_lt (by decide)) (fun j h1 _ => x2 j h1)
  have sA : ∀ a : Nat, a ≠ 52 → a ≠ 49 → a ≠ 50 → S'.2 a = S.2 a := fun a h1 h2 h3 => by rw [r1.2 a h1, wA_n h3, wA_n h2]
  have sI : S'.1 = S.1 := r1.1
  have tA : ∀ a : Nat, a ≠ 72 → a ≠ 73 → a ≠ 70 → a ≠ 71 → T'.2 a = T.2 a := fun a h1 h2 h3 h4 => by rw [r2.2 a h1 h2, wA_n h4, wA_n h3]
  have tI : T'.1 = T.1 := r2.1
  refine ⟨S', T', ?_, ?_, ⟨K, ?_⟩, ⟨fun q hq => ?_, r3, ?_, ?_, ?_⟩, ?_⟩
  · unfold f_X8_layOut j_X8_layOut_36
    rw [if_neg (nI_pos (by omega)), if_pos (show nI s < 4 from nI_lt (b := 4) hs (by decide)), ix_nI hs (by decide), fb_s, fl_s, fl_s]
    exact r4 _
  · exact r5 _
  · rw [tA 55 (by decide) (by decide) (by decide) (by decide)]
    exact h.cs (fun k _ => by rw [sI]) (fun a ha => sA a (fun q => by subst q; revert ha; decide) (fun q => by subst q; revert ha; decide) (fun q => by subst q; revert ha; decide))
  · rw [r1.2 49 (by decide), r1.2 50 (by decide), r2.2 70 (by decide) (by decide), r2.2 71 (by decide) (by decide), wA_n (show (49 : Nat) ≠ 50 by decide), wA_n (show (70 : Nat) ≠ 71 by decide), wA_e, wA_e, wA_e, wA_e, wA_n (show (50 : Nat) ≠ 49 by decide), wA_n (show (71 : Nat) ≠ 70 by decide)]
    by_cases z : q = s
    · subst z; simp only [pk_us]; exact ⟨⟨trivial, trivial⟩, ⟨n, hn, rfl⟩, hb⟩
    · simp only [pk_un z]; exact x1 q hq
  · rw [sI, tI]; exact x3
  · rw [tI]; exact x4
  · rw [sA 47 (by decide) (by decide) (by decide), tA 69 (by decide) (by decide) (by decide) (by decide)]; exact x5
  · exact ⟨by rw [sI], tA 56 (by decide) (by decide) (by decide) (by decide), by rw [tI]⟩
theorem op_sheet (h : RelR K S (T.2 55)) (hx : RX S T) : OK3 S T (f_X11_sheet S za zb zc) (f_X12_sheet T za zb zc) := by
  unfold f_X11_sheet f_X12_sheet
  simp only [fb_id]
  rcases sh_c S T za with ⟨a1, a2⟩ | ⟨s, hs, rfl, a1, a2, a3, -, -⟩
  · simp only [a1, a2, ↓reduceIte]; exact (ok_1 h).x hx
  · simp only [a1, a2, i10, ↓reduceIte]
    unfold j_X12_sheet_65 p_X8_isWidth
    simp only [a3, fb_s, fl_s]
    have go : ∀ n : Nat, n ≤ 24 → (zb = 0 ∨ zb = 8 ∨ zb = 16 ∨ zb = 32) → OK3 S T (fb (f_X8_layOut S (nI s) zb (nI n)) fun r => some (1, r.2)) (j_X12_sheet_87 (nI s) (wA (wA T 70 s zb) 71 s (nI n))) := by
      intro n hn hb
      obtain ⟨S', T', r1, r2, r3, r4, r5⟩ := h.lay hx hs hn hb
      rw [r1, r2]
      exact ⟨1, S', T', rfl, rfl, r3, r4, r5⟩
    by_cases b0 : zb = 0
    · subst b0
      have := go 0 (by decide) (Or.inl rfl)
      rw [show nI 0 = 0 from rfl] at this
      simp only [↓reduceIte]; exact this
    · simp only [b0, ↓reduceIte]
      have mid : (zb = 8 ∨ zb = 16 ∨ zb = 32) → OK3 S T (if zc < 0 then f_X11_told S (-1000003) else if 24 < zc then f_X11_told S (-1000001) else fb (f_X8_layOut S (nI s) zb zc) fun r11 => some (1, r11.2)) (if zc < 0 then f_X12_finds T 3 else if 24 < zc then f_X12_finds T 1 else j_X12_sheet_87 (nI s) (wA (wA T 70 s zb) 71 s zc)) := by
        intro hb
        by_cases c0 : zc < 0
        · rw [if_pos c0, if_pos c0]; exact (ok_3 h).x hx
        · rw [if_neg c0, if_neg c0]
          by_cases c4 : 24 < zc
          · rw [if_pos c4, if_pos c4]; exact (ok_1 h).x hx
          · rw [if_neg c4, if_neg c4]
            obtain ⟨n, hn, rfl⟩ := in_nat (a := 0) (b := 24) (by decide) (by decide) c0 c4
            exact go n hn.2 (Or.inr hb)
      by_cases b8 : zb = 8
      · have := mid (Or.inl b8)
        simp only [b8, ↓reduceIte, i10] at this ⊢; exact this
      · by_cases b16 : zb = 16
        · have := mid (Or.inr (Or.inl b16))
          simp only [b8, b16, ↓reduceIte, i10] at this ⊢; exact this
        · by_cases b32 : zb = 32
          · have := mid (Or.inr (Or.inr b32))
            simp only [b8, b16, b32, ↓reduceIte, i10] at this ⊢; exact this
          · simp only [b8, b16, b32, ↓reduceIte]; exact (ok_1 h).x hx
/-- one number -/
theorem RelR.num (h : RelR K S (T.2 55)) (hx : RX S T) {j : Nat} (v : Int32) : OK3 S T (some (1, wA S 52 j v)) (some (1, wA T 72 j v)) := by
  obtain ⟨x1, x2, x3, x4, x5⟩ := hx
  refine ⟨1, _, _, rfl, rfl, ⟨K, h.cs (fun _ _ => rfl) (fun a ha => wA_n (fun q => by subst q; revert ha; decide))⟩, ⟨x1, fun q hq => ?_, x3, x4, x5⟩, rfl, rfl, rfl⟩
  rw [wA_e, wA_e]
  by_cases z : q = j
  · subst z; rw [pk_us, pk_us]
  · rw [pk_un z, pk_un z]; exact x2 q hq
theorem op_put (h : RelR K S (T.2 55)) (hx : RX S T) : OK3 S T (f_X11_put S za zb zc) (f_X12_put T za zb zc) := by
  unfold f_X11_put f_X12_put q_X8_isMissing f_X8_setNumber
  simp only [fb_id]
  rcases sh_c S T za with ⟨a1, a2⟩ | ⟨s, hs, rfl, a1, a2, a3, a4, a5⟩
  · simp only [a1, a2, ↓reduceIte]; exact (ok_1 h).x hx
  · obtain ⟨⟨y1, y2⟩, ⟨sz, y3, y4⟩, y5⟩ := hx.1 s hs
    simp only [a1, a2, i10, a3, a4, a5, fb_s, y1, y2, y4, ↓reduceIte]
    by_cases b0 : T.2 70 s = 0
    · simp only [b0, fb_s, i10, ↓reduceIte]; exact (ok_2 h).x hx
    · simp only [b0, fb_s, ↓reduceIte]
      rcases cnt_c zb (k := sz) (by omega) with ⟨c1, c2⟩ | ⟨i, hi, rfl, c2⟩
      · rw [if_pos (c2 T)]
        by_cases z : zb < 0
        · rw [if_pos z]; exact (ok_1 h).x hx
        · rw [if_neg z, if_neg (Int32.not_lt.mpr (c1.resolve_left z))]; exact (ok_1 h).x hx
      · have i24 : i < 24 := by omega
        rw [if_neg (show ¬ p_X12_in T (nI i) 0 (nI sz - 1) = 0 by rw [c2 T]; decide), if_neg (nI_pos (by omega)), if_pos (nI_lt hi (by omega)), ix96 hs i24]
        simp only [s51 hs i24, fl_s, fb_s]
        by_cases b8 : T.2 70 s = 8
        · simp only [b8, fb_s, ↓reduceIte]; exact h.num hx _
        · by_cases b16 : T.2 70 s = 16
          · simp only [b8, b16, fb_s, ↓reduceIte]; exact h.num hx _
          · simp only [b8, b16, fb_s, ↓reduceIte]; exact h.num hx _
end SHT
