/-! ===== pure: move, rents ===== -/
section MOV
variable {K : Nat → Nat} {S T : FS} {za zb zc zd ze : Int32}
theorem lcmp_n {a b c : Nat} (ha : a < 2 ^ 31) (hb : b < 2 ^ 31) (hc : c < 2 ^ 31) : 0 < lg_cmp ((nI a).toInt64 + (nI b).toInt64) (nI c).toInt64 ↔ c < a + b := by
  rw [lg_cmp_gt, Int64.lt_iff_toInt_lt, lg_i2l_add, Int32.toInt_toInt64, nI_toInt ha, nI_toInt hb, nI_toInt hc]
  omega
/-- the model's numbers to its row of 24, and back -/
theorem mv1_l {s i n : Nat} (hs : s < 4) (hi : i + n ≤ 24) : ∀ (m k : Nat) (T : FS), k ≤ n → n - k < m → ∃ T' : FS, E72 T T' ∧ T'.2 72 = T.2 72 ∧ (∀ j : Nat, j < n → (k ≤ j → T'.2 73 j = T.2 72 (24 * s + i + j)) ∧ (j < k → T'.2 73 j = T.2 73 j)) ∧ ∀ kk, l_X12_move_123 (nI s) (nI i) (nI n) kk m T (nI k) = kk T' (nI n) := by
  intro m
  induction m with
  | zero => intro k T _ hm; exact absurd hm (Nat.not_lt_zero _)
  | succ m ih =>
    intro k T hk hm
    by_cases c : k < n
    · obtain ⟨T', r1, r2, r3, r4⟩ := ih (k + 1) (wA T 73 k (T.2 72 (24 * s + i + k))) (by omega) (by omega)
      refine ⟨T', ⟨r1.1, fun a h1 h2 => (r1.2 a h1 h2).trans (wA_n h2)⟩, r2.trans (wA_n (by decide)), fun j hj => ⟨fun q => ?_, fun q => ?_⟩, fun kk => ?_⟩
      · by_cases z : j = k
        · subst z; rw [(r3 j hj).2 (by omega), wA_e, pk_us]
        · rw [(r3 j hj).1 (by omega), wA_n (by decide)]
      · rw [(r3 j hj).2 (by omega), wA_e, pk_un (by omega)]
      · have e1 : ix 96 ((24 : Int32) * nI s + nI i + nI k) = some (24 * s + i + k) := by
          rw [show (24 : Int32) = nI 24 from rfl, pk_mul, nI_add, nI_add]; exact ix_nI (by omega) (by decide)
        rw [l_X12_move_123, if_pos (nI_lt c (by omega))]
        simp only [e1, ix_nI (show k < 24 by omega) (show 24 ≤ 2 ^ 31 by decide), fb_s, fl_s, nI_1]; exact r4 kk
    · have ei : k = n := by omega
      subst ei
      refine ⟨T, ⟨rfl, fun _ _ _ => rfl⟩, rfl, fun j hj => ⟨fun q => absurd q (by omega), fun _ => rfl⟩, fun kk => ?_⟩
      rw [l_X12_move_123, if_neg (nI_nlt (Nat.le_refl _) (by omega))]
theorem mv2_l {s i n : Nat} (hs : s < 4) (hi : i + n ≤ 24) : ∀ (m k : Nat) (T : FS), k ≤ n → n - k < m → ∃ T' : FS, E72 T T' ∧ (∀ j : Nat, T'.2 72 j = if 24 * s + i + k ≤ j ∧ j < 24 * s + i + n then T.2 73 (j - (24 * s + i)) else T.2 72 j) ∧ ∀ kk, l_X12_move_160 (nI s) (nI i) (nI n) kk m T (nI k) = kk T' (nI n) := by
  intro m
  induction m with
  | zero => intro k T _ hm; exact absurd hm (Nat.not_lt_zero _)
  | succ m ih =>
    intro k T hk hm
    by_cases c : k < n
    · obtain ⟨T', r1, r3, r4⟩ := ih (k + 1) (wA T 72 (24 * s + i + k) (T.2 73 k)) (by omega) (by omega)
      refine ⟨T', ⟨r1.1, fun a h1 h2 => (r1.2 a h1 h2).trans (wA_n h1)⟩, fun j => ?_, fun kk => ?_⟩
      · rw [r3 j, wA_e, wA_n (show (73 : Nat) ≠ 72 by decide)]
        by_cases z : j = 24 * s + i + k
        · subst z
          rw [if_neg (by omega), if_pos (by omega), pk_us]
          exact congrArg _ (by omega)
        · rw [pk_un z]
          by_cases q : 24 * s + i + (k + 1) ≤ j ∧ j < 24 * s + i + n
          · rw [if_pos q, if_pos (by omega)]
          · rw [if_neg q, if_neg (by omega)]
      · have e1 : ix 96 ((24 : Int32) * nI s + nI i + nI k) = some (24 * s + i + k) := by
          rw [show (24 : Int32) = nI 24 from rfl, pk_mul, nI_add, nI_add]; exact ix_nI (by omega) (by decide)
        rw [l_X12_move_160, if_pos (nI_lt c (by omega))]
        simp only [e1, ix_nI (show k < 24 by omega) (show 24 ≤ 2 ^ 31 by decide), fb_s, fl_s, nI_1]; exact r4 kk
    · have ei : k = n := by omega
      subst ei
      refine ⟨T, ⟨rfl, fun _ _ _ => rfl⟩, fun j => by rw [if_neg (by omega)], fun kk => ?_⟩
      rw [l_X12_move_160, if_neg (nI_nlt (Nat.le_refl _) (by omega))]
theorem stand_c {s sz : Nat} {x y : Int32} (hs : q_X8_sizeOf S (nI s) = some (nI sz)) (hz : sz ≤ 24) : (q_X8_stand S (nI s) x y = some 0 ∧ (x < 0 ∨ y < 0 ∨ ∃ a b : Nat, a < 2 ^ 31 ∧ b < 2 ^ 31 ∧ x = nI a ∧ y = nI b ∧ sz < a + b)) ∨ ∃ a b : Nat, x = nI a ∧ y = nI b ∧ a + b ≤ sz ∧ q_X8_stand S (nI s) x y = some 1 := by
  unfold q_X8_stand
  by_cases c1 : x < 0
  · left; rw [if_pos c1]; exact ⟨rfl, Or.inl c1⟩
  · rw [if_neg c1]
    by_cases c2 : y < 0
    · left; rw [if_pos c2]; exact ⟨rfl, Or.inr (Or.inl c2)⟩
    · rw [if_neg c2, hs, fb_s]
      obtain ⟨a, ha, rfl⟩ := nI_of c1
      obtain ⟨b, hb, rfl⟩ := nI_of c2
      by_cases c3 : sz < b
      · left; rw [if_pos (nI_lt c3 (by omega))]; exact ⟨rfl, Or.inr (Or.inr ⟨a, b, ha, hb, rfl, rfl, by omega⟩)⟩
      · rw [if_neg (nI_nlt (by omega) (by omega)), fb_s, pk_sub (by omega)]
        by_cases c4 : sz - b < a
        · left; rw [if_pos (nI_lt c4 (by omega))]; exact ⟨rfl, Or.inr (Or.inr ⟨a, b, ha, hb, rfl, rfl, by omega⟩)⟩
        · right; rw [if_neg (nI_nlt (by omega) (by omega))]; exact ⟨a, b, rfl, rfl, by omega, rfl⟩
theorem fTr_in {f : Nat → Int32} {s i o j n : Nat} (hs : s < 4) (ho : o < 4) (hi : i + n ≤ 24) (hj : j + n ≤ 24) : fTr 4 24 f (nI s) (nI i) (nI o) (nI j) (nI n) = va_cpy f f (24 * s + i) (24 * o + j) n := by
  unfold fTr
  rw [pk_sub (show n ≤ 24 by omega), if_neg]
  · rw [pk_mul, pk_mul, nI_add, nI_add, nI_clamp (by omega), nI_clamp (by omega), nI_clamp (by omega), Nat.mul_comm s 24, Nat.mul_comm o 24]
  · rintro (q | q | q | q | q | q | q | q | q)
    · exact nI_pos (by omega) q
    · exact nI_ge hs (by omega) q
    · exact nI_pos (by omega) q
    · exact nI_pos (by omega) q
    · exact nI_nlt (by omega) (by omega) q
    · exact nI_pos (by omega) q
    · exact nI_ge ho (by omega) q
    · exact nI_pos (by omega) q
    · exact nI_nlt (by omega) (by omega) q
theorem op_move (h : RelR K S (T.2 55)) (hx : RX S T) : OK3 S T (f_X11_move S za zb zc zd ze) (f_X12_move T za zb zc zd ze) := by
  unfold f_X11_move f_X12_move q_X8_isMissing
  simp only [fb_id]
  rcases sh_c S T za with ⟨a1, a2⟩ | ⟨s, hs, rfl, a1, a2, a3, a4, a5⟩
  · simp only [a1, a2, ↓reduceIte]; exact (ok_1 h).x hx
  · rcases sh_c S T zc with ⟨b1, b2⟩ | ⟨o, ho, rfl, b1, b2, b3, b4, b5⟩
    · simp only [a1, a2, b1, b2, i10, ↓reduceIte]; exact (ok_1 h).x hx
    · obtain ⟨⟨y1, y2⟩, ⟨sz, y3, y4⟩, y5⟩ := hx.1 s hs
      obtain ⟨⟨z1, z2⟩, ⟨oz, z3, z4⟩, z5⟩ := hx.1 o ho
      rw [y2, y4] at a5
      rw [z2, z4] at b5
      simp only [a1, a2, b1, b2, i10, a3, b3, a4, b4, fb_s, y1, z1, y4, z4, ↓reduceIte]
      by_cases c0 : T.2 70 s = 0
      · simp only [c0, fb_s, i10, ↓reduceIte]; exact (ok_2 h).x hx
      · by_cases d0 : T.2 70 o = 0
        · simp only [c0, d0, fb_s, i10, ↓reduceIte]; exact (ok_2 h).x hx
        · simp only [c0, d0, fb_s, ↓reduceIte]
          by_cases e0 : T.2 70 s = T.2 70 o
          · simp only [e0, ↓reduceIte]
            have bad : (ze < 0 ∨ zb < 0 ∨ zd < 0 ∨ (∃ a b : Nat, a < 2 ^ 31 ∧ b < 2 ^ 31 ∧ zb = nI a ∧ ze = nI b ∧ sz < a + b) ∨ ∃ a b : Nat, a < 2 ^ 31 ∧ b < 2 ^ 31 ∧ zd = nI a ∧ ze = nI b ∧ oz < a + b) → ∀ y : Option (Int32 × FS), OK3 S T (f_X11_told S (-1000001)) (if ze < 0 then f_X12_finds T 1 else if zb < 0 then f_X12_finds T 1 else if zd < 0 then f_X12_finds T 1 else if 0 < lg_cmp (zb.toInt64 + ze.toInt64) (nI sz).toInt64 then f_X12_finds T 1 else if 0 < lg_cmp (zd.toInt64 + ze.toInt64) (nI oz).toInt64 then f_X12_finds T 1 else y) := by
              intro q y
              by_cases q1 : ze < 0
              · rw [if_pos q1]; exact (ok_1 h).x hx
              · rw [if_neg q1]
                by_cases q2 : zb < 0
                · rw [if_pos q2]; exact (ok_1 h).x hx
                · rw [if_neg q2]
                  by_cases q3 : zd < 0
                  · rw [if_pos q3]; exact (ok_1 h).x hx
                  · rw [if_neg q3]
                    rcases q with q | q | q | ⟨a, b, ha, hb, rfl, rfl, q⟩ | ⟨a, b, ha, hb, rfl, rfl, q⟩
                    · exact absurd q q1
                    · exact absurd q q2
                    · exact absurd q q3
                    · rw [if_pos ((lcmp_n ha hb (by omega)).mpr q)]; exact (ok_1 h).x hx
                    · by_cases q4 : 0 < lg_cmp (zb.toInt64 + (nI b).toInt64) (nI sz).toInt64
                      · rw [if_pos q4]; exact (ok_1 h).x hx
                      · rw [if_neg q4, if_pos ((lcmp_n ha hb (by omega)).mpr q)]; exact (ok_1 h).x hx
            rcases stand_c (x := zb) (y := ze) a5 y3 with ⟨s1, s2⟩ | ⟨i, n, rfl, rfl, s1, s2⟩
            · simp only [s1, fb_s, ↓reduceIte]
              exact bad (by rcases s2 with q | q | q; exact Or.inr (Or.inl q); exact Or.inl q; exact Or.inr (Or.inr (Or.inr (Or.inl q)))) _
            · simp only [s2, fb_s, i10, ↓reduceIte]
              rcases stand_c (x := zd) (y := nI n) b5 z3 with ⟨t1, t2⟩ | ⟨j, n', rfl, en, t1, t2⟩
              · simp only [t1, fb_s, ↓reduceIte]
                exact bad (by rcases t2 with q | q | q; exact Or.inr (Or.inr (Or.inl q)); exact Or.inl q; exact Or.inr (Or.inr (Or.inr (Or.inr q)))) _
              · obtain rfl : n = n' := nI_inj (by omega) (by omega) en
                simp only [t2, fb_s, i10, ↓reduceIte]
                unfold f_X8_transfer fTrans
                rw [fTr_in hs ho (show i + n ≤ 24 by omega) (show j + n ≤ 24 by omega), if_neg (nI_pos (by omega)), if_neg (nI_pos (by omega)), if_neg (nI_pos (by omega)), if_neg (fun q => absurd ((lcmp_n (by omega) (by omega) (by omega)).mp q) (by omega)), if_neg (fun q => absurd ((lcmp_n (by omega) (by omega) (by omega)).mp q) (by omega))]
                obtain ⟨T1, p1, p2, p3, p4⟩ := mv1_l (n := n) hs (show i + n ≤ 24 by omega) FU 0 T (Nat.zero_le _) (FU_lt (by omega))
                obtain ⟨T2, q1, q3, q4⟩ := mv2_l (n := n) ho (show j + n ≤ 24 by omega) FU 0 T1 (Nat.zero_le _) (FU_lt (by omega))
                rw [show ∀ kk, l_X12_move_123 (nI s) (nI i) (nI n) kk FU T 0 = kk T1 (nI n) from p4, show ∀ kk, l_X12_move_160 (nI o) (nI j) (nI n) kk FU T1 0 = kk T2 (nI n) from q4, fl_s]
                have tA : ∀ a : Nat, a ≠ 72 → a ≠ 73 → T2.2 a = T.2 a := fun a h1 h2 => (q1.2 a h1 h2).trans (p1.2 a h1 h2)
                have tI : T2.1 = T.1 := q1.1.trans p1.1
                obtain ⟨x1, x2, x3, x4, x5⟩ := hx
                refine ⟨nI n, _, T2, rfl, rfl, ⟨K, ?_⟩, ⟨fun q hq => ?_, fun q hq => ?_, ?_, ?_, ?_⟩, ?_⟩
                · rw [tA 55 (by decide) (by decide)]
                  exact h.cs (fun _ _ => rfl) (fun a ha => ua_ne (fun q => by subst q; revert ha; decide))
                · rw [tA 70 (by decide) (by decide), tA 71 (by decide) (by decide)]; exact x1 q hq
                · show ua S.2 (51 + 1) (va_cpy (S.2 (51 + 1)) (S.2 (51 + 1)) (24 * s + i) (24 * o + j) n) 52 q = _
                  rw [show ∀ g, ua S.2 (51 + 1) g 52 = g from fun g => ua_eq, q3 q]
                  by_cases z : 24 * o + j + 0 ≤ q ∧ q < 24 * o + j + n
                  · rw [if_pos z, pk_cpy_in (by omega) z.2, (p3 _ (by omega)).1 (by omega)]
                    exact x2 _ (by omega)
                  · rw [if_neg z, pk_cpy_out (by omega), p2]; exact x2 q hq
                · rw [tI]; exact x3
                · rw [tI]; exact x4
                · rw [tA 69 (by decide) (by decide)]; exact x5
                · exact ⟨rfl, tA 56 (by decide) (by decide), by rw [tI]⟩
          · simp only [e0, ↓reduceIte]; exact (ok_5 h).x hx
theorem all_l (h : RelR K S (T.2 55)) (hx : RX S T) {s sz : Nat} (hs : s < 4) (hz : sz ≤ 24) (ez : T.2 71 s = nI sz) : ∀ (m i : Nat), i ≤ sz → sz - i < m → ∀ k, (l_X8_areAllWithin_10 (nI s) (-1) 999 S (nI sz) (fun _ => some 1) m (nI i) = some 1 ∧ (∀ j : Nat, i ≤ j → j < sz → fOut (T.2 72 (24 * s + j)) (-1) 999 = 0) ∧ l_X12_rents_85 (nI s) s k m T (nI i) = k T (nI sz)) ∨ (l_X8_areAllWithin_10 (nI s) (-1) 999 S (nI sz) (fun _ => some 1) m (nI i) = some 0 ∧ l_X12_rents_85 (nI s) s k m T (nI i) = f_X12_finds T 1) := by
  intro m
  induction m with
  | zero => intro i _ hm; exact absurd hm (Nat.not_lt_zero _)
  | succ m ih =>
    intro i hi hm k
    rw [l_X8_areAllWithin_10, l_X12_rents_85, ez]
    by_cases c : i < sz
    · have i24 : i < 24 := by omega
      have en : p_X8_numberAt S (nI s) (nI i) = T.2 72 (24 * s + i) := by
        unfold p_X8_numberAt; rw [g51 hs i24]; exact hx.2.1 _ (by omega)
      rw [if_pos (nI_lt c (by omega)), if_pos (nI_lt c (by omega)), en, ix96 hs i24, fb_s, fb_id, nI_1]
      rcases out_c (T.2 72 (24 * s + i)) (-1) 999 with ⟨b1, b2⟩ | ⟨b1, b2⟩
      · rw [b1, b2, if_pos rfl, if_neg (by decide)]
        rcases ih (i + 1) (by omega) (by omega) k with ⟨r1, r2, r3⟩ | r
        · left
          refine ⟨r1, fun j h1 h2 => ?_, r3⟩
          by_cases z : j = i
          · subst z; exact b1
          · exact r2 j (by omega) h2
        · exact Or.inr r
      · right
        rw [b1, b2, if_neg (by decide), if_pos rfl]; exact ⟨rfl, rfl⟩
    · have ei : i = sz := by omega
      subst ei
      left
      rw [if_neg (nI_nlt (Nat.le_refl _) (by omega)), if_neg (nI_nlt (Nat.le_refl _) (by omega))]
      exact ⟨rfl, fun j h1 h2 => absurd h1 (by omega), rfl⟩
theorem RelR.rnt (h : RelR K S (T.2 55)) {t k : Nat} (ht : t < K 0) (hk : k ≤ 999) : RelR K (wA S 3 (3 * t) (nI k)) ((wA T 55 (3 * t + 20) (nI k)).2 55) := by
  have c0 := (h.ct 2 0 10 (by decide)).2.2
  rw [wA_e]
  refine h.onT (CQ.rf.wA (by decide) (by decide)) (NQ.rf.w (Or.inl (by omega))) ?_ ?_ (fun u hu e => by rw [pk_un (by omega)]; exact e)
  · rw [wA_1, pk_un (by omega)]; exact h.1.2
  · rw [wA_e]
    intro u hu
    have h1 := h.tw u hu
    by_cases e : u = t
    · subst e
      simp (disch := omega) only [pk_us, pk_un]
      exact ⟨⟨trivial, h1.1.2⟩, ⟨k, by omega, rfl⟩, h1.2.2⟩
    · simp (disch := omega) only [pk_un]; exact h1
theorem take_l {s sz : Nat} (hs : s < 4) (hz : sz ≤ 24) : ∀ (m i a : Nat) (S T : FS), i ≤ sz → sz - i < m → sz ≤ K 0 → RelR K S (T.2 55) → RX S T → T.2 71 s = nI sz → (∀ j : Nat, i ≤ j → j < sz → fOut (T.2 72 (24 * s + j)) (-1) 999 = 0) → ∃ (S' T' : FS) (v : Int32), RelR K S' (T'.2 55) ∧ RX S' T' ∧ KX S S' T T' ∧ (∀ k, l_X11_takeRents_5 (nI s) (nI sz) k m S (nI a) (nI i) = k S' v (nI sz)) ∧ ∀ k, l_X12_rents_133 (nI s) s k m T (nI a) (nI i) = k T' v (nI sz) := by
  intro m
  induction m with
  | zero => intro i a S T _ hm; exact absurd hm (Nat.not_lt_zero _)
  | succ m ih =>
    intro i a S T hi hm h0 h hx ez ha
    have c0 := (h.ct 2 0 10 (by decide)).2.2
    by_cases c : i < sz
    · have i24 : i < 24 := by omega
      have i10' : i < 10 := by omega
      have lt := nI_lt c (show sz < 2 ^ 31 by omega)
      have en : p_X8_numberAt S (nI s) (nI i) = T.2 72 (24 * s + i) := by
        unfold p_X8_numberAt; rw [g51 hs i24]; exact hx.2.1 _ (by omega)
      by_cases z : T.2 72 (24 * s + i) < 0
      · obtain ⟨S', T', v, r1, r2, r3, r4, r5⟩ := ih (i + 1) a S T (by omega) (by omega) h0 h hx ez (fun j h1 h2 => ha j (by omega) h2)
        refine ⟨S', T', v, r1, r2, r3, fun k => ?_, fun k => ?_⟩
        · rw [l_X11_takeRents_5]
          simp only [lt, fv_s, en, z, nI_1, ↓reduceIte]; exact r4 k
        · rw [l_X12_rents_133]
          simp only [ez, lt, ix96 hs i24, fb_s, z, nI_1, ↓reduceIte]; exact r5 k
      · obtain ⟨k0, hk0, ek⟩ : ∃ k0 : Nat, k0 ≤ 999 ∧ T.2 72 (24 * s + i) = nI k0 := by
          have q := ha i (Nat.le_refl _) c
          have q2 : ¬ 999 < T.2 72 (24 * s + i) := fun z2 => by unfold fOut at q; rw [if_pos (Or.inr z2)] at q; exact absurd q (by decide)
          obtain ⟨k0, b1, b2⟩ := in_nat (a := 0) (b := 999) (by decide) (by decide) z q2
          exact ⟨k0, b1.2, b2⟩
        obtain ⟨x1, x2, x3, x4, x5⟩ := id hx
        obtain ⟨S', T', v, r1, r2, r3, r4, r5⟩ := ih (i + 1) (a + 1) _ _ (by omega) (by omega) h0 (h.rnt (t := i) (by omega) hk0) ⟨x1, x2, x3, x4, x5⟩ ez (fun j h1 h2 => ha j (by omega) h2)
        refine ⟨S', T', v, r1, r2, r3, fun k => ?_, fun k => ?_⟩
        · rw [l_X11_takeRents_5]
          simp only [lt, fv_s, en, ek, nI_pos (show k0 < 2 ^ 31 by omega), fl_s, s2_0 i10', nI_1, ↓reduceIte]; exact r4 k
        · rw [l_X12_rents_133]
          simp only [ez, lt, ix96 hs i24, fb_s, ek, nI_pos (show k0 < 2 ^ 31 by omega), ixT_0 i10', fl_s, nI_1, ↓reduceIte]; exact r5 k
    · have ei : i = sz := by omega
      subst ei
      refine ⟨S, T, nI a, h, hx, KX.rf, fun k => ?_, fun k => ?_⟩
      · rw [l_X11_takeRents_5, if_neg (nI_nlt (Nat.le_refl _) (by omega))]
      · rw [l_X12_rents_133, ez, if_neg (nI_nlt (Nat.le_refl _) (by omega))]
theorem op_rents (h : RelR K S (T.2 55)) (hx : RX S T) : OK3 S T (f_X11_rents S za zb) (f_X12_rents T za zb) := by
  unfold f_X11_rents f_X12_rents q_X8_isMissing p_X8_isWidth q_X8_areAllWithin f_X11_takeRents
  simp only [fb_id]
  obtain ⟨k1, k2, c0⟩ := h.ct 2 0 10 (by decide)
  rcases sh_c S T za with ⟨a1, a2⟩ | ⟨s, hs, rfl, a1, a2, a3, a4, a5⟩
  · simp only [a1, a2, ↓reduceIte]; exact (ok_1 h).x hx
  · obtain ⟨⟨y1, y2⟩, ⟨sz, y3, y4⟩, y5⟩ := hx.1 s hs
    rw [y2, y4] at a5
    simp only [a1, a2, i10, a4, a5, fb_s, y1, ↓reduceIte]
    have go : OK3 S T (fb (if T.2 70 s = 0 then some (1 : Int32) else some 0) fun x6 => if x6 = 0 then if T.2 70 s = zb then if S.1 2 < nI sz then f_X11_told S (-1000003) else fb (l_X8_areAllWithin_10 (nI s) (-1) 999 S (nI sz) (fun x6_5 => some 1) FU 0) fun x15 => if x15 = 0 then f_X11_told S (-1000001) else fb (l_X11_takeRents_5 (nI s) (nI sz) (fun S6 x6_3 x6_4 => some (x6_3, S6)) FU S 0 0) fun r20 => f_X11_told r20.2 r20.1 else f_X11_told S (-1000005) else f_X11_told S (-1000002)) (j_X12_rents_31 (nI s) zb T) := by
      unfold j_X12_rents_31
      simp only [fb_id, a3, fb_s, y4, k1, k2]
      by_cases b0 : T.2 70 s = 0
      · simp only [b0, fb_s, i10, ↓reduceIte]; exact (ok_2 h).x hx
      · simp only [b0, fb_s, ↓reduceIte]
        by_cases b1 : T.2 70 s = zb
        · simp only [b1, ↓reduceIte]
          by_cases b2 : K 0 < sz
          · rw [if_pos (nI_lt b2 (by omega)), if_pos (nI_lt b2 (by omega))]; exact (ok_3 h).x hx
          · rw [if_neg (nI_nlt (by omega) (by omega)), if_neg (nI_nlt (by omega) (by omega))]
            rcases all_l h hx hs y3 y4 FU 0 (Nat.zero_le _) (FU_lt (by omega)) (fun S12 x12_3 => l_X12_rents_133 (nI s) s (fun S19 x19_3 x19_4 => some (x19_3, S19)) FU S12 0 0) with ⟨r1, r2, r3⟩ | ⟨r1, r2⟩
            · rw [show l_X8_areAllWithin_10 (nI s) (-1) 999 S (nI sz) (fun _ => some 1) FU 0 = some 1 from r1, show l_X12_rents_85 (nI s) s (fun S12 x12_3 => l_X12_rents_133 (nI s) s (fun S19 x19_3 x19_4 => some (x19_3, S19)) FU S12 0 0) FU T 0 = l_X12_rents_133 (nI s) s (fun S19 x19_3 x19_4 => some (x19_3, S19)) FU T 0 0 from r3, fb_s, if_neg (by decide)]
              obtain ⟨S', T', v, p1, p2, p3, p4, p5⟩ := take_l (K := K) hs y3 FU 0 0 S T (Nat.zero_le _) (FU_lt (by omega)) (by omega) h hx y4 (fun j h1 h2 => r2 j h1 h2)
              rw [show ∀ k, l_X11_takeRents_5 (nI s) (nI sz) k FU S 0 0 = k S' v (nI sz) from p4, show ∀ k, l_X12_rents_133 (nI s) s k FU T 0 0 = k T' v (nI sz) from p5, fb_s]
              obtain ⟨S2, e1, e2⟩ := told_e S' v
              exact ⟨v, S2, T', e1, rfl, ⟨K, p1.ce e2⟩, p2.mono e2.1 MX.rf, e2.1.2.2.trans p3.1, p3.2⟩
            · rw [show l_X8_areAllWithin_10 (nI s) (-1) 999 S (nI sz) (fun _ => some 1) FU 0 = some 0 from r1, show l_X12_rents_85 (nI s) s (fun S12 x12_3 => l_X12_rents_133 (nI s) s (fun S19 x19_3 x19_4 => some (x19_3, S19)) FU S12 0 0) FU T 0 = f_X12_finds T 1 from r2, fb_s, if_pos rfl]
              exact (ok_1 h).x hx
        · simp only [b1, ↓reduceIte]; exact (ok_5 h).x hx
    by_cases b8 : zb = 8
    · subst b8; simp only [↓reduceIte, i10]; exact go
    · by_cases b16 : zb = 16
      · subst b16; simp only [b8, ↓reduceIte, i10]; exact go
      · by_cases b32 : zb = 32
        · subst b32; simp only [b8, b16, ↓reduceIte, i10]; exact go
        · simp only [b8, b16, b32, ↓reduceIte]; exact (ok_1 h).x hx
end MOV
