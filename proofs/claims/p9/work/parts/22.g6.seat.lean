/-! ===== pure: seat ===== -/
section OP6
variable {K : Nat → Nat} {S T : FS} {za zb zc zd : Int32}
def sc (n : Nat → Int32) (P : Nat) : Nat := pm_cnt (fun p => n (14 * p + 121) == 1) P
theorem pm_cnt_flip {p q : Nat → Bool} {i : Nat} (h : ∀ j : Nat, j ≠ i → p j = q j) (h1 : p i = true) (h2 : q i = false) : ∀ m : Nat, i < m → pm_cnt p m = pm_cnt q m + 1
  | 0, hm => absurd hm (Nat.not_lt_zero _)
  | m + 1, hm => by
    unfold pm_cnt
    by_cases e : i = m
    · subst e
      rw [pm_cnt_congr (q := q) (fun j hj => h j (by omega)), h1, h2]; simp
    · rw [pm_cnt_flip h h1 h2 m (by omega), h m (fun z => e z.symm)]; omega
theorem sc_1 {n : Nat → Int32} {p P : Nat} (hp : p < P) (h0 : n (14 * p + 121) = 0) : sc (upd n (14 * p + 121) 1) P = sc n P + 1 :=
  pm_cnt_flip (i := p) (fun j hj => by show ((upd n (14 * p + 121) 1) (14 * j + 121) == 1) = _; rw [pk_un (by omega)]) (by show ((upd n (14 * p + 121) 1) (14 * p + 121) == 1) = true; rw [pk_us]; rfl) (by show (n (14 * p + 121) == 1) = false; rw [h0]; rfl) P hp
theorem sc_0 {n : Nat → Int32} {p P : Nat} (hp : p < P) (h0 : n (14 * p + 121) = 1) : sc n P = sc (upd n (14 * p + 121) 0) P + 1 :=
  pm_cnt_flip (i := p) (fun j hj => by show (n (14 * j + 121) == 1) = ((upd n (14 * p + 121) 0) (14 * j + 121) == 1); rw [pk_un (by omega)]) (by show (n (14 * p + 121) == 1) = true; rw [h0]; rfl) (by show ((upd n (14 * p + 121) 0) (14 * p + 121) == 1) = false; rw [pk_us]; rfl) P hp
theorem rows_e (h : RelR K S (T.2 55)) : qRows 6 20 14 S 13 1 = some (nI (sc (T.2 55) (K 2))) := by
  obtain ⟨k1, k2, k3⟩ := h.ct 6 2 20 (by decide)
  rw [qRows_e k1 k3 (by decide)]
  refine congrArg some (congrArg nI (pm_cnt_congr (fun j hj => ?_)))
  have e := (h.pe j hj).2.1.2.2.2.2
  show (S.2 7 (j * 14 + 13) == 1) = (T.2 55 (14 * j + 121) == 1)
  rw [show j * 14 + 13 = 14 * j + 13 by omega, e]
theorem many_l {k : Int32 → Int32 → Option Int32} (h : RelR K S (T.2 55)) : ∀ (m i : Nat), i ≤ K 2 → K 2 - i < m → l_X12_seatedMany_4 T k m (nI (sc (T.2 55) i)) (nI i) = k (nI (sc (T.2 55) (K 2))) (nI (K 2)) := by
  obtain ⟨k1, k2, k3⟩ := h.ct 6 2 20 (by decide)
  intro m
  induction m with
  | zero => intro i _ hm; exact absurd hm (Nat.not_lt_zero _)
  | succ m ih =>
    intro i hi hm
    rw [l_X12_seatedMany_4, k2]
    by_cases c : i < K 2
    · rw [if_pos (nI_lt c (by omega)), man_11 (by omega), fb_s, fv_s, nI_1]
      have e : nI (sc (T.2 55) i) + T.2 55 (14 * i + 121) = nI (sc (T.2 55) (i + 1)) := by
        obtain ⟨v, hv, ev⟩ := (h.pe i c).2.2.2.2.2.2.1
        have e1 : sc (T.2 55) (i + 1) = sc (T.2 55) i + v := by
          show pm_cnt _ (i + 1) = _
          unfold pm_cnt
          rcases (show v = 0 ∨ v = 1 by omega) with rfl | rfl
          · simp only [ev]; rfl
          · simp only [ev]; rfl
        rw [ev, nI_add, e1]
      rw [e]; exact ih (i + 1) (by omega) (by omega)
    · have ei : i = K 2 := by omega
      subst ei
      rw [if_neg (nI_nlt (Nat.le_refl _) (by omega))]
theorem many_e (h : RelR K S (T.2 55)) : q_X12_seatedMany T = some (nI (sc (T.2 55) (K 2))) := by
  obtain ⟨k1, k2, k3⟩ := h.ct 6 2 20 (by decide)
  unfold q_X12_seatedMany
  exact many_l h FU 0 (Nat.zero_le _) (FU_lt (by omega))
theorem RPe.sit {f n : Nat → Int32} {p v : Nat} (h : RPe K f n) (b : K 2 ≤ 20) (hp : p < K 2) (hv : v ≤ 1) (hl : n (14 * p + 119) = -1 ∨ v = 0) : RPe K (upd f (14 * p + 13) (nI v)) (upd n (14 * p + 121) (nI v)) := by
  intro q hq
  have h1 := h q hq
  unfold PLv at h1 ⊢
  by_cases e : q = p
  · subst e
    simp (disch := omega) only [pk_us, pk_un]
    refine ⟨h1.1, ⟨h1.2.1.1, h1.2.1.2.1, h1.2.1.2.2.1, h1.2.1.2.2.2.1, trivial⟩, ?_, h1.2.2.2.1, h1.2.2.2.2.1, h1.2.2.2.2.2.1, ⟨v, hv, rfl⟩, h1.2.2.2.2.2.2.2⟩
    rcases h1.2.2.1 with a | ⟨a1, a2, a3⟩
    · exact Or.inl a
    · refine Or.inr ⟨a1, a2, ?_⟩
      rcases hl with hl | rfl
      · rw [hl] at a2; exact absurd rfl (a2.m1 (by decide)).1
      · rfl
  · simp (disch := omega) only [pk_un]; exact h1
theorem RPw.pn {f n n' : Nat → Int32} (h : RPw K f n) (b : K 3 ≤ 20) (b2 : K 2 ≤ 20) (hn : ∀ j : Nat, 390 ≤ j → j < 510 → n' j = n j) (hd : ∀ p : Nat, p < K 2 → n' (14 * p + 119) = n (14 * p + 119)) : RPw K f n' :=
  h.same b b2 rfl (Nat.le_refl _) (fun _ _ => rfl) hn (fun x hx => by
    rcases hx with hx | ⟨p, p1, p2, p3⟩
    · exact Or.inl hx
    · exact Or.inr ⟨p, p1, p2, by rw [hd p p1]; exact p3⟩)
/-- one is seated: no promise is touched -/
theorem RelR.sit {p : Nat} (h : RelR K S (T.2 55)) (hp : p < K 2) (hl : T.2 55 (14 * p + 119) = -1) (h0 : T.2 55 (14 * p + 121) = 0) (h9 : sc (T.2 55) (K 2) < 9) : RelR K (wA S 7 (14 * p + 13) 1) ((wA T 55 (14 * p + 121) 1).2 55) := by
  have c20 := (h.ct 6 2 20 (by decide)).2.2
  have c3 := (h.ct 8 3 20 (by decide)).2.2
  have c7 := (h.ct 18 7 30 (by decide)).2.2
  rw [wA_e]
  refine h.onPQ (CQ.rf.wA (by decide) (by decide)) (fun j j1 j2 j3 j4 => pk_un (by omega)) ?_ ?_ ?_ ?_ ?_ ?_ ?_
  · rw [wA_1, pk_un (by omega)]; exact h.1.2
  · rw [wA_e]; exact h.pe.sit c20 hp (Nat.le_refl 1) (Or.inl hl)
  · refine ⟨?_, h.se.2⟩
    show sc (upd (T.2 55) (14 * p + 121) 1) (K 2) ≤ 9
    rw [sc_1 hp h0]; omega
  · rw [wA_e]; exact h.st.same c20 rfl (fun q hq => pk_un (by omega)) (fun q hq => ⟨pk_un (by omega), pk_un (by omega)⟩)
  · rw [wA_n (by decide)]; exact h.pr.same c7 rfl (Nat.le_refl _) rfl (fun _ _ => rfl) (fun j j1 j2 => pk_un (by omega))
  · rw [wA_n (by decide)]
    refine ⟨?_, h.ps.2.same c7 rfl (fun j j1 j2 => pk_un (by omega))⟩
    intro k hk
    simp (disch := omega) only [pk_un]
    intro z1 z2
    obtain ⟨q, y1, y2, y3⟩ := h.ps.1 k hk z1 z2
    refine ⟨q, y1, y2, ?_⟩
    by_cases e : q = p
    · subst e; rw [pk_us]
    · rw [pk_un (by omega)]; exact y3
  · rw [wA_n (by decide)]; exact h.pw.pn c3 c20 (fun j j1 j2 => pk_un (by omega)) (fun q hq => pk_un (by omega))
/-- one leaves the council: class unseat, model leaves -/
theorem RelR.unsit {p : Nat} (h : RelR K S (T.2 55)) (hp : p < K 2) : ∃ (S' T' : FS), f_X0_unseat S (nI p) = some (0, S') ∧ f_X12_leaves T (nI p) = some (0, T') ∧ RelR K S' (T'.2 55) ∧ CX S S' ∧ MX T T' ∧ CQ [7, 19] 103 S S' ∧ S'.1 = S.1 ∧ S'.2 7 = upd (S.2 7) (14 * p + 13) 0 ∧ NQ 1806 1986 9 (upd (T.2 55) (14 * p + 121) 0) (T'.2 55) ∧ T'.2 55 9 = T.2 55 9 := by
  have c20 := (h.ct 6 2 20 (by decide)).2.2
  have c3 := (h.ct 8 3 20 (by decide)).2.2
  obtain ⟨k1, k2, c7⟩ := h.ct 18 7 30 (by decide)
  have p20 : p < 20 := by omega
  unfold f_X0_unseat f_X12_leaves f_X0_endAllOf
  rw [s6_13 p20, sets_11 p20]
  simp only [fl_s, fb_s, fv_s]
  have e18 : (wA S 7 (14 * p + 13) 0).1 18 = nI (K 7) := k1
  have hq : PQ K (wA S 7 (14 * p + 13) 0) (wA T 55 (14 * p + 121) 0) := by
    obtain ⟨c7, c8, a1, a2, a3, a4, hr⟩ := PQ.of h
    refine ⟨c7, c8, a1, a2, ?_, ?_, ?_⟩
    · rw [wA_e, pk_un (by omega)]; exact a3
    · rw [wA_e, pk_un (by omega)]; exact a4
    · rw [wA_e, wA_n (by decide)]; exact hr.same c7 rfl (Nat.le_refl _) rfl (fun _ _ => rfl) (fun j j1 j2 => pk_un (by omega))
  obtain ⟨S', T', c', r1, r2, r3, r4, r5, r6⟩ := leave_loop (K := K) p20 FU 0 _ _ _ _ 0 (Nat.zero_le _) (FU_lt (by omega)) hq ⟨CQ.rf, rfl⟩ FR.rf (fun k hk => absurd hk (Nat.not_lt_zero _))
  have r5' := r5 (fun S7 x7_3 x7_5 => some (x7_3, S7))
  have r6' := r6 (fun S10 x10_2 => some (0, S10))
  rw [e18]
  refine ⟨S', T', ?_, r6', ?_⟩
  · rw [show l_X0_endAllOf_14 (nI p) 1 (nI (K 7)) (fun S7 x7_3 x7_5 => some (x7_3, S7)) FU (wA S 7 (14 * p + 13) 0) 0 0 = some (c', S') from r5']; rfl
  obtain ⟨n1, n2, n3, n4, n5⟩ := r3
  rw [wA_e] at n1 n3 n4 n5
  have f7 : S'.2 7 = upd (S.2 7) (14 * p + 13) 0 := by
    rw [r2.1.2.2 7 (by decide) (by decide), wA_e]
  have nj : ∀ j : Nat, ¬ (1806 ≤ j ∧ j < 1986) → j ≠ 9 → T'.2 55 j = upd (T.2 55) (14 * p + 121) 0 j := fun j j1 j2 => n1 j j1 j2 j2
  have cq : CQ [7, 19] 103 S S' := by
    refine CQ.tr (CQ.rf.wA (a := 7) (j := 14 * p + 13) (v := 0) (by decide) (by decide)) ⟨r2.1.1, r2.1.2.1, fun q q1 q2 => r2.1.2.2 q q1 (fun z => q2 ?_)⟩
    rw [List.mem_singleton] at z; rw [z]; decide
  have n9 : T'.2 55 9 = T.2 55 9 := by rw [n4, pk_un (by omega)]
  refine ⟨?_, cq.1, MX.tr ⟨⟨rfl, rfl, rfl, rfl, rfl⟩, rfl, rfl⟩ n2, cq, r2.2, f7, n1, n9⟩
  refine h.onPQ cq (fun j j1 j2 j3 j4 => by rw [nj j j2 j3, pk_un (by omega)]) ?_ ?_ ?_ ?_ ?_ ?_ ?_
  · rw [r2.2, n9]; exact h.1.2
  · rw [f7]
    refine (h.pe.sit c20 hp (Nat.zero_le 1) (Or.inr rfl)).same c20 (Nat.le_refl _) rfl rfl (fun _ _ => rfl) (fun j j1 j2 => nj j (by omega) (by omega))
  · refine ⟨?_, h.se.2⟩
    have e1 : pm_cnt (fun q => T'.2 55 (14 * q + 121) == 1) (K 2) = sc (upd (T.2 55) (14 * p + 121) 0) (K 2) := pm_cnt_congr (fun j hj => by rw [nj _ (by omega) (by omega)])
    rw [e1]
    have h9 : sc (T.2 55) (K 2) ≤ 9 := h.se.1
    obtain ⟨v, hv, ev⟩ := (h.pe p hp).2.2.2.2.2.2.1
    rcases (show v = 0 ∨ v = 1 by omega) with rfl | rfl
    · rw [upd_id (show T.2 55 (14 * p + 121) = 0 from ev)]; exact h9
    · have := sc_0 hp ev; omega
  · rw [f7]; exact h.st.same c20 rfl (fun q hq => pk_un (by omega)) (fun q hq => ⟨by rw [nj _ (by omega) (by omega), pk_un (by omega)], by rw [nj _ (by omega) (by omega), pk_un (by omega)]⟩)
  · exact r1.2.2.2.2.2.2
  · refine ⟨?_, h.ps.2.mono c7 rfl (fun k hk => ⟨by rw [(n3 k hk).1, pk_un (by omega)], by rw [(n3 k hk).2.1, pk_un (by omega)]⟩) (fun k hk z => n5 k hk (by rw [pk_un (by omega)]; exact z))⟩
    intro k hk z1 z2
    obtain ⟨y1, y2⟩ := r4 k hk z1
    have y3 := y2 z2
    obtain ⟨t1, t2, t3⟩ := n3 k (by omega)
    rw [wA_n (by decide)] at y1
    rw [t3, pk_un (by omega)] at z2
    rw [t1, pk_un (by omega)] at y3 ⊢
    obtain ⟨q, x1, x2, x3⟩ := h.ps.1 k hk y1 z2
    refine ⟨q, x1, x2, ?_⟩
    have hqp : q ≠ p := fun e => y3 (by rw [x2, e])
    rw [nj _ (by omega) (by omega), pk_un (by omega)]; exact x3
  · rw [cq.2.2 9 (by decide) (by decide)]
    exact h.pw.pn c3 c20 (fun j j1 j2 => by rw [nj j (by omega) (by omega), pk_un (by omega)]) (fun q hq => by rw [nj _ (by omega) (by omega), pk_un (by omega)])
theorem op_seat (h : RelR K S (T.2 55)) (hz : zb = 0 ∨ zb = 1) : OK2 S T (f_X11_seat S za zb) (f_X12_seat T za zb) := by
  unfold f_X11_seat f_X12_seat
  simp only [fb_id]
  have c20 := (h.ct 6 2 20 (by decide)).2.2
  rcases h.per za with ⟨c1, m1⟩ | ⟨p, hp, rfl, c1, m1⟩
  · simp only [c1, m1, eq_self, ↓reduceIte]; exact ok_1 h
  · have p20 : p < 20 := by omega
    have e13 : S.2 7 (14 * p + 13) = T.2 55 (14 * p + 121) := (h.pe p hp).2.1.2.2.2.2
    obtain ⟨v, hv, ev⟩ := (h.pe p hp).2.2.2.2.2.2.1
    have i01 : ((0 : Int32) = 1) = False := eq_false (by decide)
    have h9 : sc (T.2 55) (K 2) ≤ 9 := h.se.1
    simp only [c1, m1, i10, ↓reduceIte, g6_13 p20, e13, man_11 p20, fb_s, ev, rows_e h, many_e h]
    rcases h.liv hp with ⟨l1, l2, l3⟩ | ⟨l1, l2, -, l3, l4⟩
    · simp only [l2, l3, i10, ↓reduceIte, fb_s]
      rcases (show v = 0 ∨ v = 1 by omega) with rfl | rfl
      · rcases hz with rfl | rfl
        · simp only [show nI 0 = 0 from rfl, i01, ↓reduceIte]; exact ok_3 h
        · simp only [show nI 0 = 0 from rfl, i01, ↓reduceIte]
          by_cases c9 : sc (T.2 55) (K 2) = 9
          · rw [c9, if_neg (show ¬ nI 9 < 9 by decide), if_pos (show nI 9 = 9 from rfl)]; exact ok_4 h
          · rw [if_pos (show nI (sc (T.2 55) (K 2)) < 9 from nI_lt (b := 9) (by omega) (by decide)), if_neg (fun q => c9 (nI_inj (by omega) (by decide) (q.trans (show (9 : Int32) = nI 9 from rfl)))), sets_11 p20]
            simp only [fb_s, fl_s]
            rw [s6_13 p20]
            have h' := h.sit hp l1 ev (by omega)
            rw [rows_e h', many_e h']
            simp only [fb_s]
            exact ok0 h' ⟨⟨rfl, rfl, rfl, rfl⟩, rfl, rfl⟩ ⟨⟨rfl, rfl, rfl, rfl, rfl⟩, rfl, rfl⟩
      · rcases hz with rfl | rfl
        · simp only [show nI 1 = 1 from rfl, i10, ↓reduceIte]
          obtain ⟨S', T', q1, q2, q3, q4, q5, -⟩ := h.unsit hp
          rw [q1, q2]
          simp only [fb_s]
          rw [rows_e q3, many_e q3]
          simp only [fb_s]
          exact ok0 q3 q4 q5
        · simp only [show nI 1 = 1 from rfl, i10, ↓reduceIte]; exact ok_3 h
    · simp only [l3, l4, ↓reduceIte, fb_s]
      split
      · exact ok_3 h
      · exact ok_3 h
end OP6
