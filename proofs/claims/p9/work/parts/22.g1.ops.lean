/-! ===== pure: men, price, guard ===== -/
section OP1
variable {K : Nat → Nat} {S T : FS} {za zb zc zd : Int32}
theorem op_men (h : RelR K S (T.2 55)) : OK2 S T (f_X11_men S za zb) (f_X12_men T za zb) := by
  unfold f_X11_men f_X12_men
  simp only [fb_id]
  rcases h.per za with ⟨c1, m1⟩ | ⟨p, hp, rfl, c1, m1⟩
  · simp only [c1, m1, eq_self, ↓reduceIte]; exact ok_1 h
  · rcases out_c zb (-99) 99 with ⟨c2, m2⟩ | ⟨c2, m2⟩
    · have c20 := (h.ct 6 2 20 (by decide)).2.2
      have ec : S.2 7 (14 * p + 8) = T.2 55 (14 * p + 118) := (h.pe p hp).2.1.2.1
      rcases h.liv hp with ⟨l1, l2, l3⟩ | ⟨l1, l2, -, l3, l4⟩
      · simp only [c1, m1, c2, m2, l2, l3, i10, eq_self, fb_s, fv_s, ↓reduceIte]
        rw [g6_8 (by omega), s6_8 (by omega), man_8 (by omega), ec]
        rcases out_c (T.2 55 (14 * p + 118) + zb) 0 999 with ⟨c3, m3⟩ | ⟨c3, m3⟩
        · simp only [fb_s, c3, m3, i10, ↓reduceIte, fl_s]
          rw [sets_8 (by omega)]
          simp only [fb_s]
          rw [man_8 (by omega)]
          simp only [fb_s]
          have e9 : (wA T 55 (14 * p + 118) (T.2 55 (14 * p + 118) + zb)).2 55 = upd (T.2 55) (14 * p + 118) (T.2 55 (14 * p + 118) + zb) := wA_e
          rw [e9, pk_us]
          refine ok0 (K := K) ?_ ⟨⟨rfl, rfl, rfl, rfl⟩, rfl, rfl⟩ ⟨⟨rfl, rfl, rfl, rfl, rfl⟩, rfl, rfl⟩
          rw [e9]
          refine h.onP (CQ.rf.wA (by decide) (by decide)) (NQ.rf.w (Or.inl (by omega))) ?_ ?_ (h.se.w (c := 8) (by decide)) ?_ (fun x hx => hx.w (c := 8) (by decide)) (fun q hq => pk_un (by omega))
          · rw [wA_1, pk_un (by omega)]; exact h.1.2
          · rw [wA_e]; exact h.pe.w c20 hp (Or.inr (Or.inl rfl))
          · rw [wA_e]; exact h.st.w c20 (c := 8) (by decide) (by decide)
        · simp only [fb_s, c3, m3, i10, eq_self, ↓reduceIte]; exact ok_1 h
      · simp only [c1, m1, c2, m2, l3, l4, i10, eq_self, fb_s, ↓reduceIte]; exact ok_3 h
    · simp only [c1, m1, c2, m2, i10, eq_self, ↓reduceIte]; exact ok_1 h
theorem RPe.pri {f n : Nat → Int32} {p : Nat} {x : Int32} (h : RPe K f n) (b : K 2 ≤ 20) (hp : p < K 2) (hx : nB 999 x) : RPe K (upd f (14 * p + 12) x) (upd n (14 * p + 122) x) := by
  intro q hq
  have h1 := h q hq
  unfold PLv at h1 ⊢
  by_cases e : q = p
  · subst e
    simp (disch := omega) only [pk_us, pk_un]
    exact ⟨h1.1, ⟨h1.2.1.1, h1.2.1.2.1, h1.2.1.2.2.1, trivial, h1.2.1.2.2.2.2⟩, h1.2.2.1, h1.2.2.2.1, h1.2.2.2.2.1, h1.2.2.2.2.2.1, h1.2.2.2.2.2.2.1, hx, h1.2.2.2.2.2.2.2.2⟩
  · simp (disch := omega) only [pk_un]; exact h1
theorem op_price (h : RelR K S (T.2 55)) : OK2 S T (f_X11_price S za zb) (f_X12_price T za zb) := by
  unfold f_X11_price f_X12_price
  simp only [fb_id]
  rcases h.per za with ⟨c1, m1⟩ | ⟨p, hp, rfl, c1, m1⟩
  · simp only [c1, m1, eq_self, ↓reduceIte]; exact ok_1 h
  · rcases out_c zb 1 999 with ⟨c2, m2⟩ | ⟨c2, m2⟩
    · have c20 := (h.ct 6 2 20 (by decide)).2.2
      have ec : S.2 7 (14 * p + 12) = T.2 55 (14 * p + 122) := (h.pe p hp).2.1.2.2.2.1
      simp only [c1, m1, c2, m2, i10, eq_self, fb_s, fl_s, ↓reduceIte]
      rw [g6_12 (by omega), s6_12 (by omega), man_12 (by omega), sets_12 (by omega), ec]
      simp only [fb_s]
      have e9 : (wA T 55 (14 * p + 122) zb).2 55 = upd (T.2 55) (14 * p + 122) zb := wA_e
      refine ok0 (K := K) ?_ ⟨⟨rfl, rfl, rfl, rfl⟩, rfl, rfl⟩ ⟨⟨rfl, rfl, rfl, rfl, rfl⟩, rfl, rfl⟩
      rw [e9]
      obtain ⟨k, hk, e⟩ := out_n 1 999 rfl rfl (by decide) (by decide) c2
      refine h.onP (CQ.rf.wA (by decide) (by decide)) (NQ.rf.w (Or.inl (by omega))) ?_ ?_ (h.se.w (c := 12) (by decide)) ?_ (fun x hx => hx.w (c := 12) (by decide)) (fun q hq => pk_un (by omega))
      · rw [wA_1, pk_un (by omega)]; exact h.1.2
      · rw [wA_e]; exact h.pe.pri c20 hp ⟨k, by omega, e⟩
      · rw [wA_e]; exact h.st.w c20 (c := 12) (by decide) (by decide)
    · simp only [c1, m1, c2, m2, i10, eq_self, ↓reduceIte]; exact ok_1 h
theorem op_guard (h : RelR K S (T.2 55)) : OK2 S T (f_X11_guard S za zb) (f_X12_guard T za zb) := by
  unfold f_X11_guard f_X12_guard
  simp only [fb_id]
  rcases out_c za 0 4 with ⟨c1, m1⟩ | ⟨c1, m1⟩
  · rcases out_c zb 0 6 with ⟨c2, m2⟩ | ⟨c2, m2⟩
    · obtain ⟨g, hg, rfl⟩ := out_n 0 4 rfl rfl (by decide) (by decide) c1
      obtain ⟨k, hk, e⟩ := out_n 0 6 rfl rfl (by decide) (by decide) c2
      have ec := (h.gu g (by omega)).1
      simp only [c1, m1, c2, m2, i10, eq_self, fb_s, fl_s, fv_s, ↓reduceIte]
      rw [g20_0 (by omega), s20_0 (by omega), show ix 2071 ((1986 : Int32) + nI g) = some (g + 1986) from by rw [show (1986 : Int32) + nI g = nI (g + 1986) from (nI_add 1986 g).trans (congrArg nI (by omega))]; exact ix_nI (by omega) (by decide), ec]
      simp only [fb_s]
      have e9 : (wA T 55 (g + 1986) zb).2 55 = upd (T.2 55) (g + 1986) zb := wA_e
      refine ok0 (K := K) ?_ ⟨⟨rfl, rfl, rfl, rfl⟩, rfl, rfl⟩ ⟨⟨rfl, rfl, rfl, rfl, rfl⟩, rfl, rfl⟩
      rw [e9]
      refine h.onG (CQ.rf.wA (by decide) (by decide)) (NQ.rf.w (Or.inl (by omega))) ?_ ?_
      · rw [wA_1, pk_un (by omega)]; exact h.1.2
      · rw [wA_e]
        intro j hj
        by_cases q : j = g
        · subst q; rw [pk_us, pk_us]; exact ⟨rfl, k, by omega, e⟩
        · rw [pk_un q, pk_un (by omega)]; exact h.gu j hj
    · simp only [c1, m1, c2, m2, i10, eq_self, ↓reduceIte]; exact ok_1 h
  · simp only [c1, m1, i10, eq_self, ↓reduceIte]; exact ok_1 h
end OP1
