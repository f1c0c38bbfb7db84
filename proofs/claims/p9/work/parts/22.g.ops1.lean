/-! ===== pure: pay, men ===== -/
theorem op_pay {K : Nat → Nat} {S T : FS} {za zb : Int32} (h : RelR K S (T.2 55)) : OK2 S T (f_X11_pay S za zb) (f_X12_pay T za zb) := by
  unfold f_X11_pay f_X12_pay
  simp only [fb_id]
  rcases h.per za with ⟨c1, m1⟩ | ⟨p, hp, rfl, c1, m1⟩
  · simp only [c1, m1, eq_self, ↓reduceIte]; exact ok_1 h
  · rcases out_c zb 1 9999 with ⟨c2, m2⟩ | ⟨c2, m2⟩
    · have c20 := (h.ct 6 2 20 (by decide)).2.2
      have ch : S.1 103 = T.2 55 9 := h.1.2
      rcases h.liv hp with ⟨l1, l2, l3⟩ | ⟨l1, l2, -, l3, l4⟩
      · simp only [c1, m1, c2, m2, l2, l3, i10, eq_self, fb_s, ↓reduceIte, f_X7_payFromChest, ch]
        by_cases c : T.2 55 9 < zb
        · simp only [c, ↓reduceIte, fb_s]; exact okf h CX.rf MX.rf (finds_2 T)
        · simp only [c, ↓reduceIte, fl_s, fb_s]
          rw [g6_7 (by omega), s6_7 (by omega), man_7 (by omega), fb_s, sets_7 (by omega), fb_s]
          have ec : S.2 7 (14 * p + 7) = T.2 55 (14 * p + 117) := (h.pe p hp).2.1.1
          have em : (wA T 55 9 (T.2 55 9 - zb)).2 55 (14 * p + 117) = T.2 55 (14 * p + 117) := by rw [wA_e, pk_un (by omega)]
          have e9 : (wA (wA T 55 9 (T.2 55 9 - zb)) 55 (14 * p + 117) (T.2 55 (14 * p + 117) + zb)).2 55 = upd (upd (T.2 55) 9 (T.2 55 9 - zb)) (14 * p + 117) (T.2 55 (14 * p + 117) + zb) := by rw [wA_e, wA_e]
          rw [em, wI_2, ec, wA_1, wI_e]
          have e2 : (wA (wA T 55 9 (T.2 55 9 - zb)) 55 (14 * p + 117) (T.2 55 (14 * p + 117) + zb)).2 55 9 = T.2 55 9 - zb := by rw [e9, pk_un (by omega), pk_us]
          rw [e2]
          refine okt (K := K) ?_ ⟨⟨rfl, rfl, rfl, rfl⟩, rfl, rfl⟩ ⟨⟨rfl, rfl, rfl, rfl, rfl⟩, rfl, rfl⟩
          rw [e9]
          refine h.onP ((CQ.rf.wI (Or.inl rfl) (by decide) (by decide)).wA (by decide) (by decide)) ((NQ.rf.w (Or.inr (Or.inl rfl))).w (Or.inl (by omega))) ?_ ?_ (h.se.n9.w (c := 7) (by decide)) ?_ (fun x hx => hx.n9.w (c := 7) (by decide)) (fun q hq => by simp (disch := omega) only [pk_un])
          · rw [wA_1, wI_e, pk_un (by omega), pk_us]
          · rw [wA_e, wI_2]; exact (h.pe.n9 c20).w c20 hp (Or.inl rfl)
          · rw [wA_e, wI_2]; exact (h.st.n9 c20).w c20 (c := 7) (by decide) (by decide)
      · simp only [c1, m1, c2, m2, l3, l4, i10, eq_self, fb_s, ↓reduceIte]; exact ok_3 h
    · simp only [c1, m1, c2, m2, i10, eq_self, ↓reduceIte]; exact ok_1 h
