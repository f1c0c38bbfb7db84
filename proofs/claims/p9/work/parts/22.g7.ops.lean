/-! ===== pure: debt, owed, check, count, trace ===== -/
section OP7
variable {K : Nat → Nat} {S T : FS} {za zb zc zd : Int32}
/-- sheets and voices -/
def RX (S T : FS) : Prop := (∀ s : Nat, s < 4 → (S.2 49 s = T.2 70 s ∧ S.2 50 s = T.2 71 s) ∧ nB 24 (T.2 71 s) ∧ (T.2 70 s = 0 ∨ T.2 70 s = 8 ∨ T.2 70 s = 16 ∨ T.2 70 s = 32)) ∧ (∀ j : Nat, j < 96 → S.2 52 j = T.2 72 j) ∧ S.1 115 = T.1 22 ∧ nB 40 (T.1 22) ∧ ∀ j : Nat, j < 40 → S.2 47 j = T.2 69 j
theorem RX.mono {S' T' : FS} (h : RX S T) (c : CX S S') (m : MX T T') : RX S' T' := by
  unfold RX
  rw [c.1.1, c.1.2.1, c.1.2.2.1, c.1.2.2.2, c.2.1, m.1.2.1, m.1.2.2.1, m.1.2.2.2.1, m.1.2.2.2.2, m.2.1]; exact h
theorem op_trace (h : RelR K S (T.2 55)) (hx : RX S T) : OK2 S T (f_X11_trace S za) (f_X12_trace T za) := by
  unfold f_X11_trace f_X12_trace q_X10_bodyAt
  simp only [fb_id]
  obtain ⟨-, -, e1, ⟨k, hk, e2⟩, e3⟩ := hx
  rw [e1, e2]
  rcases cnt_c za (k := k) (by omega) with ⟨a, b⟩ | ⟨j, hj, rfl, b⟩
  · rw [if_pos (b T)]
    rcases a with a | a
    · rw [if_pos a]; exact ok_2 h
    · by_cases c : za < 0
      · rw [if_pos c]; exact ok_2 h
      · rw [if_neg c, if_neg (Int32.not_lt.mpr a)]; exact ok_2 h
  · simp only [b T, i10, nI_pos (show j < 2 ^ 31 by omega), nI_lt hj (show k < 2 ^ 31 by omega), show nI j < 40 from nI_lt (b := 40) (by omega) (by decide), ix_nI (show j < 40 by omega) (by decide), ↓reduceIte, fb_s]
    rw [e3 j (by omega)]; exact okt h CX.rf MX.rf
theorem op_debt (h : RelR K S (T.2 55)) : OK2 S T (f_X11_debt S za zb zc) (f_X12_debt T za zb zc) := by
  unfold f_X11_debt f_X12_debt
  simp only [fb_id, fv_s]
  obtain ⟨k1, k2, c6⟩ := h.ct 16 6 6 (by decide)
  have c0 := (h.ct 2 0 10 (by decide)).2.2
  have c8 := (h.ct 102 8 2000 (by decide)).2.2
  rcases out_c za 0 99999 with ⟨c1, m1⟩ | ⟨c1, m1⟩
  · simp only [c1, m1, i10, ↓reduceIte]
    by_cases n0 : zb < 0
    · -- below 0 the class refuses too
      rw [if_pos n0]
      rcases out_c (zb / 10000) 0 99 with ⟨c2, m2⟩ | ⟨c2, m2⟩
      · simp only [c2, ↓reduceIte]
        have : zb - zb / 10000 * 10000 < 1 := by
          obtain ⟨q, hq, eq⟩ := out_n 0 99 rfl rfl (by decide) (by decide) c2
          rw [Int32.lt_iff_toInt_lt] at n0 ⊢
          have z0 : (0 : Int32).toInt = 0 := by decide
          have z1 : (1 : Int32).toInt = 1 := by decide
          rw [z0] at n0
          have h1 : (zb / 10000 * 10000 : Int32).toInt = (q : Int) * 10000 := by
            rw [eq, Int32.toInt_mul, nI_toInt (by omega), show (10000 : Int32).toInt = 10000 by decide]
            exact Int.bmod_eq_of_le (by omega) (by omega)
          have h2 := Int32.le_toInt zb
          have h3 : (zb / 10000 : Int32).toInt = -((-zb.toInt) / 10000) := by
            have e3 := Int.neg_tdiv (-zb.toInt) 10000
            rw [Int.neg_neg] at e3
            rw [Int32.toInt_div, show (10000 : Int32).toInt = 10000 by decide, e3, Int.tdiv_eq_ediv_of_nonneg (by omega)]
            exact Int.bmod_eq_of_le (by omega) (by omega)
          have h4 : q = 0 := by
            rw [eq, nI_toInt (by omega)] at h3
            omega
          subst h4
          rw [Int32.toInt_sub, h1, z1]
          rw [Int.bmod_eq_of_le (by omega) (by omega)]
          omega
        rw [if_pos this]; exact ok_1 h
      · simp only [c2, i10, ↓reduceIte]; exact ok_1 h
    · rw [if_neg n0]
      rcases out_c (zb / 10000) 0 99 with ⟨c2, m2⟩ | ⟨c2, m2⟩
      · simp only [c2, m2, i10, ↓reduceIte]
        obtain ⟨z, hz, ez⟩ := nI_of n0
        have e1 : zb / 10000 = nI (z / 10000) := by rw [ez]; exact pk_div (d := 10000) hz (by decide) (by decide)
        have e2 : zb - zb / 10000 * 10000 = nI (z % 10000) := by rw [ez]; exact pk_rem (d := 10000) hz (by decide) (by decide)
        rw [e2, e1]
        by_cases n1 : nI (z % 10000) < 1
        · rw [if_pos n1]
          have : p_X12_in T (nI (z % 10000)) 1 9999 = 0 := by unfold p_X12_in; rw [if_pos n1]
          rw [if_pos this]; exact ok_1 h
        · rw [if_neg n1]
          have : p_X12_in T (nI (z % 10000)) 1 9999 = 1 := by
            unfold p_X12_in
            rw [if_neg n1, if_neg]
            exact nI_nlt (a := 9999) (b := z % 10000) (by omega) (by decide)
          simp only [this, i10, ↓reduceIte]
          rcases h.twn zc with ⟨t1, t2⟩ | ⟨t, ht, rfl, t1, t2⟩
          · simp only [t1, t2, ↓reduceIte]; exact ok_1 h
          · simp only [t1, t2, i10, ↓reduceIte]
            by_cases c : K 6 = 6
            · rw [fFull_t k1 (by omega) (by omega), k2, if_neg (by decide), if_pos (by rw [c]; rfl)]; exact ok_4 h
            · rw [fFull_f k1 (by omega) (by decide), if_pos rfl, k2, if_neg (fun q => c (nI_inj (by omega) (by decide) (q.trans (show (6 : Int32) = nI 6 from rfl))))]
              have d6 : K 6 < 6 := by omega
              unfold f_X7_addDebt
              rw [fApp_f k1 d6 (by decide)]
              simp only [fb_s, fl_s, nI_1, ixD_0 d6, ixD_1 d6, ixD_2 d6, ixD_3 d6, ixD_4 d6, s16_1 d6, s16_2 d6, s16_3 d6, wA_1, wA_e]
              have e9 : upd (upd (upd (upd (upd (upd (T.2 55) 6 (nI (K 6 + 1))) (6 * K 6 + 1770) za) (6 * K 6 + 1771) (nI (z / 10000))) (6 * K 6 + 1772) (nI (z % 10000))) (6 * K 6 + 1773) 0) (6 * K 6 + 1774) (nI t) 9 = S.1 103 := by
                simp (disch := omega) only [pk_un]; exact h.1.2.symm
              have e93 : ui S.1 16 (nI (K 6 + 1)) 103 = S.1 103 := rfl
              rw [e9, e93]
              refine okt (K := kU K 6 (K 6 + 1)) ?_ ⟨⟨rfl, rfl, rfl, rfl⟩, rfl, rfl⟩ ⟨⟨rfl, rfl, rfl, rfl, rfl⟩, rfl, rfl⟩
              simp only [wA_e]
              refine h.onD_6 (((((CQ.rf.app (by decide) (by decide) (by decide) (by decide)).wA (by decide) (by decide)).wA (by decide) (by decide)).wA (by decide) (by decide)).wI (Or.inl rfl) (by decide) (by decide)) (((((((NQ.rf.w (Or.inr (Or.inr rfl))).w (Or.inl (by omega))).w (Or.inl (by omega))).w (Or.inl (by omega))).w (Or.inl (by omega))).w (Or.inl (by omega))).w (Or.inr (Or.inl rfl))) (fun i hi => kU_n hi) (by rw [kU_e]; omega) ?_ (onct 16 6 6 (by decide) ?_ ?_ (by rw [kU_e]; omega)) ?_
              · rw [wI_e, pk_us]
              · rw [kU_e]; rfl
              · rw [kU_e]; simp (disch := omega) only [pk_un, pk_us]
              · rw [wI_2]
                simp only [wA_e, ua_eq]
                intro d hd
                rw [kU_e] at hd
                rw [kU_n (show (0 : Nat) ≠ 6 by decide), kU_n (show (8 : Nat) ≠ 6 by decide)]
                by_cases e : d = K 6
                · subst e
                  simp (disch := omega) only [pk_us, pk_un, apf_0, apf_c]
                  exact ⟨⟨trivial, trivial, trivial, trivial, trivial⟩, t, 0, ht, rfl, Nat.zero_le _, rfl, fun q => absurd q (by decide)⟩
                · obtain ⟨g1, t', m, g2, g3, g4, g5, g6⟩ := h.de d (by omega)
                  simp (disch := omega) only [pk_un, apf_o]
                  refine ⟨g1, t', m, g2, g3, g4, g5, fun q => ?_⟩
                  simp (disch := omega) only [pk_un]; exact g6 q
      · simp only [c2, m2, i10, ↓reduceIte]; exact ok_1 h
  · simp only [c1, m1, i10, ↓reduceIte]; exact ok_1 h
theorem owed_l {k : FS → Int32 → Int32 → Option (Int32 × FS)} (h : RelR K S (T.2 55)) (x : Int32) : ∀ (m i : Nat), i ≤ K 6 → K 6 - i < m → l_X12_owed_122 x k m T (nI (pm_cnt (fun r => T.2 55 (6 * r + 1774) == x) i)) (nI i) = k T (nI (pm_cnt (fun r => T.2 55 (6 * r + 1774) == x) (K 6))) (nI (K 6)) := by
  obtain ⟨k1, k2, k3⟩ := h.ct 16 6 6 (by decide)
  intro m
  induction m with
  | zero => intro i _ hm; exact absurd hm (Nat.not_lt_zero _)
  | succ m ih =>
    intro i hi hm
    rw [l_X12_owed_122, k2]
    by_cases c : i < K 6
    · rw [if_pos (nI_lt c (by omega)), ixD_4 (by omega), fb_s]
      have e := ih (i + 1) (by omega) (by omega)
      rw [show pm_cnt (fun r => T.2 55 (6 * r + 1774) == x) (i + 1) = pm_cnt (fun r => T.2 55 (6 * r + 1774) == x) i + (if (T.2 55 (6 * i + 1774) == x) = true then 1 else 0) from rfl] at e
      by_cases c2 : T.2 55 (6 * i + 1774) = x
      · rw [if_pos c2, fv_s, nI_1, nI_1]
        rw [if_pos (by rw [c2]; exact beq_self_eq_true x)] at e; exact e
      · rw [if_neg c2, fv_s, nI_1, Int32.add_zero]
        rw [if_neg (by rw [beq_iff_eq]; exact c2), Nat.add_zero] at e; exact e
    · have ei : i = K 6 := by omega
      subst ei
      rw [if_neg (nI_nlt (Nat.le_refl _) (by omega))]
theorem op_owed (h : RelR K S (T.2 55)) : OK2 S T (f_X11_owed S za zb) (f_X12_owed T za zb) := by
  unfold f_X11_owed f_X12_owed
  simp only [fb_id]
  obtain ⟨k1, k2, c6⟩ := h.ct 16 6 6 (by decide)
  have c0 := (h.ct 2 0 10 (by decide)).2.2
  rcases h.deb za with ⟨c1, m1⟩ | ⟨d, hd, rfl, c1, m1⟩
  · simp only [c1, m1, eq_self, ↓reduceIte]; exact ok_1 h
  · have d6 : d < 6 := by omega
    obtain ⟨⟨e0, e1, e2, e3, e4⟩, t, m, t1, t2, -⟩ := h.de d hd
    have t10 : t < 10 := by omega
    have ef := (h.tw t t1).1.2.2
    simp only [c1, m1, i10, ↓reduceIte, ixD_4 d6, fb_s, fv_s, g16_3 d6, g16_0 d6, g16_4 d6, ixD_0 d6, ixD_3 d6, e3, e0, e4, t2, g2_2 t10, ixT_2 t10, ef]
    by_cases b0 : zb = 0
    · simp only [b0, ↓reduceIte]; exact ok0 h CX.rf MX.rf
    · by_cases b1 : zb = 1
      · simp only [b0, b1, ↓reduceIte]; exact ok0 h CX.rf MX.rf
      · by_cases b2 : zb = 2
        · simp only [b0, b1, b2, ↓reduceIte]; exact ok0 h CX.rf MX.rf
        · by_cases b3 : zb = 3
          · simp only [b0, b1, b2, b3, ↓reduceIte]
            have hl := owed_l (k := fun S17 x17_4 x17_5 => some (x17_4, S17)) h (nI t) FU 0 (Nat.zero_le _) (FU_lt (by omega))
            rw [show l_X12_owed_122 (nI t) (fun S17 x17_4 x17_5 => some (x17_4, S17)) FU T 0 0 = _ from hl, qRows_e k1 c6 (by decide), fb_s]
            have ec : pm_cnt (fun r => S.2 17 (r * 5 + 3) == nI t) (K 6) = pm_cnt (fun r => T.2 55 (6 * r + 1774) == nI t) (K 6) := pm_cnt_congr (fun j hj => by
              have := (h.de j hj).1.2.2.2.1
              show (S.2 17 (j * 5 + 3) == nI t) = (T.2 55 (6 * j + 1774) == nI t)
              rw [show j * 5 + 3 = 5 * j + 3 by omega, this])
            rw [show pm_cnt (fun r => S.2 (16 + 1) (r * 5 + 3) == nI t) (K 6) = _ from ec]
            exact ok0 h CX.rf MX.rf
          · simp only [b0, b1, b2, b3, ↓reduceIte]; exact ok_1 h
end OP7
