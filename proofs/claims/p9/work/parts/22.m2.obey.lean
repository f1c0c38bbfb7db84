/-! ===== pure: open, obey ===== -/
section OPO
variable {K : Nat → Nat} {S T : FS} {za zb zc zd : Int32}
/-- a law in force, as both ask for it -/
theorem RelR.rul (h : RelR K S (T.2 55)) (u d k : Int32) (hb : vP (K 2) zb) (hc : vP (K 5) zc) : ∃ (v w : Int32) (S' T' : FS), f_X2_ruling S u d k zb zc = some (v, S') ∧ f_X12_comesTo T (lg (T.2 55) u d k (K 4)) zb zc d = some (w, T') ∧ EC S S' ∧ EM T T' ∧ (TA K S T zb → v = w) := by
  have c4 := (h.ct 10 4 12 (by decide)).2.2
  unfold f_X2_ruling
  rw [(h.inF u d k).1, fb_s]
  rcases lg_c (n := T.2 55) (za := u) (zb := d) (zc := k) (K 4) with e | ⟨j, hj, e⟩
  · rw [e, if_pos (by decide)]
    refine ⟨1, 1, S, T, rfl, ?_, EC.rf, EM.rf, fun _ => rfl⟩
    unfold f_X12_comesTo
    rw [if_pos (by decide)]
  · rw [e, if_neg (nI_pos (by omega))]
    obtain ⟨v, w, S', T', r1, r2, r3⟩ := h.comes (zd := d) hj hb hc
    exact ⟨v, w, S', T', by rw [r1, fb_s], r2, r3⟩
theorem RelR.taL (h : RelR K S (T.2 55)) {p : Nat} (hp : p < K 2) (hl : T.2 55 (14 * p + 119) = -1) : TA K S T (nI p) := by
  intro q hq e
  have c2 := (h.ct 6 2 20 (by decide)).2.2
  have : p = q := nI_inj (by omega) (by omega) e
  subst this
  rcases (h.pe p hp).2.2.1 with ⟨-, -, a3, -⟩ | ⟨-, ⟨d, a1, a2⟩, -⟩
  · exact a3
  · rw [hl] at a2; exact absurd a2.symm (nI_m1 (by omega))
theorem RLe.opn {f n : Nat → Int32} {e : Nat} {x y : Int32} (h : RLe K f n) (c5 : K 5 ≤ 40) (he : e < K 5) (hs : n (12 * e + 1294) ≠ -1) : RLe K (upd (upd f (12 * e + 9) x) (12 * e + 10) y) (upd (upd n (12 * e + 1296) x) (12 * e + 1297) y) := by
  intro q hq
  have hh := h q hq
  by_cases z : q = e
  · subst z
    simp (disch := omega) only [pk_us, pk_un]
    exact ⟨hh.1, ⟨hh.2.1.1, trivial, trivial, hh.2.1.2.2.2⟩, hh.2.2.1, hh.2.2.2.1, hh.2.2.2.2.1, fun _ => hs⟩
  · simp (disch := omega) only [pk_un]; exact hh
theorem op_open (h : RelR K S (T.2 55)) : OK2 S T (f_X11_open S za) (f_X12_open T za) := by
  unfold f_X11_open f_X12_open
  simp only [fb_id]
  have c5 := (h.ct 14 5 40 (by decide)).2.2
  have c2 := (h.ct 6 2 20 (by decide)).2.2
  have c0 := (h.ct 2 0 10 (by decide)).2.2
  obtain ⟨d1, d2, d3⟩ := h.ct 102 8 2000 (by decide)
  rcases h.let' za with ⟨a1, m1⟩ | ⟨e, he, rfl, a1, m1⟩
  · simp only [a1, m1, ↓reduceIte]; exact ok_1 h
  · have e40 : e < 40 := by omega
    obtain ⟨⟨l0, l1, l2, l3, l4⟩, ⟨l5, l5b, l5c, l5d⟩, l6, l7, ⟨l8, ⟨tw, htw, l9⟩, l10⟩, l11⟩ := h.le e he
    unfold f_X3_unfold p_X3_isSent
    simp only [a1, m1, i10, ↓reduceIte, of_4 e40, of_5 e40, of_6 e40, fb_s, fv_s, g14_6 e40, g14_8 e40, g14_9 e40, l4, l5, l5b, d1, d2]
    rcases l8 with z | ⟨p, hp, z⟩
    · simp only [z, ltm1, fb_s, ↓reduceIte]; exact ok_3 h
    · have p20 : p < 20 := by omega
      have zm : ¬ nI p = -1 := nI_m1 (by omega)
      simp only [z, zm, nI_pos (show p < 2 ^ 31 by omega), i10, ↓reduceIte]
      by_cases c8 : nI (K 8) < T.2 55 (12 * e + 1295)
      · simp only [c8, fb_s, ↓reduceIte]; exact ok_3 h
      · by_cases c9 : T.2 55 (12 * e + 1296) < 0
        · rcases h.liv hp with ⟨v1, v2, v3⟩ | ⟨v1, v2, v5, v3, v4⟩
          · rcases h.town_of hp v1 with ⟨t1, t2⟩ | ⟨cc, hcc, t1, t3, t2⟩
            · simp only [c8, c9, v3, fb_s, i10, man_4 p20, of_10 e40, l9, t1, t2, show ¬ (-1 : Int32) = nI tw from fun q => nI_m1 (by omega) q.symm, ↓reduceIte]; exact ok_3 h
            · simp only [c8, c9, v3, fb_s, i10, man_4 p20, of_10 e40, l9, t1, t2, g6_4 p20, t3, g14_7 e40, l7 (by rw [z]; exact zm), ↓reduceIte]
              by_cases tt : nI cc = nI tw
              · obtain ⟨T1, e1, g1⟩ := h.knw hp
                have en := e1.2 55 (by decide)
                have h1 : RelR K S (T1.2 55) := by rw [en]; exact h
                obtain ⟨v, w, S', T', r1, r2, r3, r4, r5⟩ := h1.rul (zb := nI p) (zc := nI e) 1 (nI (K 8)) (p_X7_knownTo S (nI p)) (Or.inr ⟨p, hp, rfl⟩) (Or.inr ⟨e, he, rfl⟩)
                have vw := r5 (h1.taL hp (by rw [en]; exact v1))
                subst vw
                have h2 : RelR K S' (T'.2 55) := by rw [r4.me.2]; exact h1.ce r3.ce
                obtain ⟨d1', d2', -⟩ := h2.ct 102 8 2000 (by decide)
                have d2'' : T1.2 55 8 = nI (K 8) := by rw [en]; exact d2
                have fin : ∀ y : Int32, OK2 S T (f_X11_told (wA (wA S' 15 (12 * e + 9) (nI (K 8))) 15 (12 * e + 10) y) y) (some (y, wA (wA T' 55 (12 * e + 1296) (nI (K 8))) 55 (12 * e + 1297) y)) := by
                  intro y
                  refine okt (K := K) ?_ (r3.ce.1.tr ⟨⟨rfl, rfl, rfl, rfl⟩, rfl, rfl⟩) ((e1.me.1.tr r4.me.1).tr ⟨⟨rfl, rfl, rfl, rfl, rfl⟩, rfl, rfl⟩)
                  simp only [wA_e]
                  refine h2.onE ((CQ.rf.wA (by decide) (by decide)).wA (by decide) (by decide)) ((NQ.rf.w (Or.inl (by omega))).w (Or.inl (by omega))) ?_ ?_
                  · simp (disch := omega) only [pk_un, wA_1]; exact h2.1.2
                  · simp only [wA_e]
                    refine h2.le.opn c5 he ?_
                    rw [r4.me.2, en, z]; exact zm
                simp only [tt, ↓reduceIte, g1, fb_s, (h1.inF 1 (nI (K 8)) (p_X7_knownTo S (nI p))).2, d2'', r1, r2, d1', d2', writes_6 e40, writes_7 e40, s14_9 e40, s14_10 e40, fl_s]
                by_cases y0 : v = 0
                · simp only [y0, ↓reduceIte, fb_s]; exact fin 0
                · simp only [y0, ↓reduceIte, fb_s]; exact fin 1
              · simp only [tt, fb_s, ↓reduceIte]; exact ok_3 h
          · have it : p_X7_isInTown S (nI p) = 0 := by
              unfold p_X7_isInTown; rw [v3, if_pos rfl]
            simp only [c8, c9, v4, it, fb_s, ↓reduceIte]; exact ok_3 h
        · simp only [c8, c9, fb_s, ↓reduceIte]; exact ok_3 h
/-- obeyed, on both sides -/
theorem RelR.mkd (h : RelR K S (T.2 55)) {n' : Nat → Int32} {e : Nat} (he : e < K 5) (hn : n' = upd (T.2 55) (12 * e + 1298) 1) : RelR K (wA S 15 (12 * e + 11) 1) n' := by
  have c5 := (h.ct 14 5 40 (by decide)).2.2
  subst hn
  refine h.onE (CQ.rf.wA (by decide) (by decide)) (NQ.rf.w (Or.inl (by omega))) ?_ ?_
  · simp (disch := omega) only [pk_un, wA_1]; exact h.1.2
  · simp only [wA_e]
    intro q hq
    have hh := h.le q hq
    by_cases z : q = e
    · subst z
      simp (disch := omega) only [pk_us, pk_un]
      exact ⟨hh.1, ⟨hh.2.1.1, hh.2.1.2.1, hh.2.1.2.2.1, trivial, hh.2.1.2.2.2.2⟩, hh.2.2.1, hh.2.2.2.1, ⟨hh.2.2.2.2.1.1, hh.2.2.2.2.1.2.1, hh.2.2.2.2.1.2.2.1, hh.2.2.2.2.1.2.2.2.1, ⟨1, by decide, rfl⟩⟩, hh.2.2.2.2.2⟩
    · simp (disch := omega) only [pk_un]; exact hh
/-- what a letter asks for: it can't be, or is done -/
def OB (K : Nat → Nat) (S T : FS) (e : Nat) (s w p : Int32) : Prop :=
  (f_X3_carryOutSort S s w p = some (-1000002, S) ∧ ∃ T1 : FS, f_X12_cannot T (nI e) = some (1, T1) ∧ ME T T1) ∨
  ∃ (v : Int32) (S' T1 T' : FS), f_X3_carryOutSort S s w p = some (v, S') ∧ v ≠ -1000002 ∧ f_X12_cannot T (nI e) = some (0, T1) ∧ f_X12_obeys (wA T1 55 (12 * e + 1298) 1) (nI e) = some (v, T') ∧ RelR K (wA S' 15 (12 * e + 11) 1) (T'.2 55) ∧ CX S S' ∧ MX T T'
theorem nI_nf {a : Nat} (h : a < 2 ^ 31) : nI a ≠ -1000002 := fun q => nI_pos h (by rw [q]; decide)
theorem RelR.payd (h : RelR K S (T.2 55)) {p : Nat} (hp : p < K 2) (x : Int32) : RelR K (wA (wI S 103 (T.2 55 9 - x)) 7 (14 * p + 7) (T.2 55 (14 * p + 117) + x)) ((wA (wA T 55 9 (T.2 55 9 - x)) 55 (14 * p + 117) (T.2 55 (14 * p + 117) + x)).2 55) := by
  have c20 := (h.ct 6 2 20 (by decide)).2.2
  simp only [wA_e]
  refine h.onP ((CQ.rf.wI (Or.inl rfl) (by decide) (by decide)).wA (by decide) (by decide)) ((NQ.rf.w (Or.inr (Or.inl rfl))).w (Or.inl (by omega))) ?_ ?_ (h.se.n9.w (c := 7) (by decide)) ?_ (fun x hx => hx.n9.w (c := 7) (by decide)) (fun q hq => by simp (disch := omega) only [pk_un])
  · rw [wA_1, wI_e, pk_un (by omega), pk_us]
  · rw [wA_e, wI_2]; exact (h.pe.n9 c20).w c20 hp (Or.inl rfl)
  · rw [wA_e, wI_2]; exact (h.st.n9 c20).w c20 (c := 7) (by decide) (by decide)
theorem RelR.ob0 (h : RelR K S (T.2 55)) {e p w : Nat} (he : e < K 5) (hp : p < K 2) (hw : w ≤ 999) (es : T.2 55 (12 * e + 1291) = 0) (ew : T.2 55 (12 * e + 1292) = nI w) (ep : T.2 55 (12 * e + 1294) = nI p) : OB K S T e 0 (nI w) (nI p) := by
  have c5 := (h.ct 14 5 40 (by decide)).2.2
  have c2 := (h.ct 6 2 20 (by decide)).2.2
  have e40 : e < 40 := by omega
  have p20 : p < 20 := by omega
  have ch : S.1 103 = T.2 55 9 := h.1.2
  unfold OB f_X3_carryOutSort f_X7_payFromChest f_X12_cannot
  simp only [of_4 e40, of_2 e40, of_1 e40, fb_s, es, ew, ep, ↓reduceIte, ch]
  by_cases c : T.2 55 9 < nI w
  · left
    simp only [c, ↓reduceIte, fb_s]
    exact ⟨trivial, T, rfl, ME.rf⟩
  · right
    simp only [c, ↓reduceIte, fb_s, fl_s, g6_7 p20, s6_7 p20, wI_2, wA_1, wI_e, (h.pe p hp).2.1.1]
    obtain ⟨c9, b9, e9⟩ := nI_of (x := T.2 55 9) (fun q => c (Int32.lt_of_lt_of_le q (nI_pos' (by omega))))
    have le : w ≤ c9 := by
      rw [e9] at c
      apply Classical.byContradiction
      intro q; exact c (nI_lt (by omega) (by omega))
    refine ⟨_, _, T, wA (wA (wA T 55 (12 * e + 1298) 1) 55 9 (T.2 55 9 - nI w)) 55 (14 * p + 117) (T.2 55 (14 * p + 117) + nI w), rfl, ?_, rfl, ?_, ?_, ⟨⟨rfl, rfl, rfl, rfl⟩, rfl, rfl⟩, ?_⟩
    · rw [e9, pk_sub le]; exact nI_nf (by omega)
    · unfold f_X12_obeys
      have q4 : (wA T 55 (12 * e + 1298) 1).2 55 (12 * e + 1294) = nI p := by rw [wA_e, pk_un (by omega), ep]
      have q2 : (wA T 55 (12 * e + 1298) 1).2 55 (12 * e + 1292) = nI w := by rw [wA_e, pk_un (by omega), ew]
      have q1 : (wA T 55 (12 * e + 1298) 1).2 55 (12 * e + 1291) = 0 := by rw [wA_e, pk_un (by omega), es]
      have q9 : (wA T 55 (12 * e + 1298) 1).2 55 9 = T.2 55 9 := by rw [wA_e, pk_un (by omega)]
      simp only [of_4 e40, of_2 e40, of_1 e40, fb_s, q4, q2, q1, q9, fl_s, man_7 p20, sets_7 p20, ↓reduceIte]
      have q7 : (wA (wA T 55 (12 * e + 1298) 1) 55 9 (T.2 55 9 - nI w)).2 55 (14 * p + 117) = T.2 55 (14 * p + 117) := by rw [wA_e, wA_e, pk_un (by omega), pk_un (by omega)]
      rw [q7]
      have q8 : (wA (wA (wA T 55 (12 * e + 1298) 1) 55 9 (T.2 55 9 - nI w)) 55 (14 * p + 117) (T.2 55 (14 * p + 117) + nI w)).2 55 9 = T.2 55 9 - nI w := by
        simp only [wA_e]; rw [pk_un (by omega), pk_us]
      rw [q8]
    · refine (h.payd hp (nI w)).mkd (e := e) he ?_
      simp only [wA_e]
      rw [upd_cm (a := 12 * e + 1298) (b := 9) (by omega), upd_cm (a := 12 * e + 1298) (b := 14 * p + 117) (by omega)]
    · exact ⟨⟨rfl, rfl, rfl, rfl, rfl⟩, rfl, rfl⟩
theorem ua_cm {A : Nat → Nat → Int32} {a b : Nat} {f g : Nat → Int32} (h : a ≠ b) : ua (ua A a f) b g = ua (ua A b g) a f := by
  funext j
  unfold ua
  by_cases c : j = b
  · subst c; rw [if_pos rfl, if_neg (fun q => h q.symm), if_pos rfl]
  · rw [if_neg c, if_neg c]
theorem fP_mk {a R W j : Nat} {x v c u : Int32} (h : 15 ≠ a + 1) : fP a R W (wA S 15 j u) x c v = wA (fP a R W S x c v) 15 j u := by
  unfold fP wA
  simp only
  rw [ua_cm h, ua_ne (fun q => h q.symm), ua_ne h]
theorem setOut_mk {j : Nat} {u a b : Int32} : f_X7_setOut (wA S 15 j u) a b = fb (f_X7_setOut S a b) (fun r => some (r.1, wA r.2 15 j u)) := by
  unfold f_X7_setOut
  rw [show p_X7_wayBetween (wA S 15 j u) (fG 6 20 14 (wA S 15 j u) a 4) b = p_X7_wayBetween S (fG 6 20 14 S a 4) b from rfl, show p_X7_knownTo (wA S 15 j u) a = p_X7_knownTo S a from rfl]
  simp only [fv_s, fl_s]
  by_cases c : p_X7_wayBetween S (fG 6 20 14 S a 4) b < 0
  · rw [if_pos c, if_pos c, fb_s]
  · rw [if_neg c, if_neg c]
    by_cases d : 0 < p_X7_wayBetween S (fG 6 20 14 S a 4) b
    · rw [if_pos d, if_pos d, fb_s]
      simp only [fP_mk (S := _) (show (15 : Nat) ≠ 6 + 1 by decide), wA_1]
    · rw [if_neg d, if_neg d, fb_s]; rfl
theorem RelR.ob1 (h : RelR K S (T.2 55)) {e p w : Nat} (he : e < K 5) (hp : p < K 2) (hl : T.2 55 (14 * p + 119) = -1) (hw : w ≤ 999) (es : T.2 55 (12 * e + 1291) = 1) (ew : T.2 55 (12 * e + 1292) = nI w) (ep : T.2 55 (12 * e + 1294) = nI p) : OB K S T e 1 (nI w) (nI p) := by
  have c5 := (h.ct 14 5 40 (by decide)).2.2
  have c2 := (h.ct 6 2 20 (by decide)).2.2
  obtain ⟨w1, w2, c0⟩ := h.ct 2 0 10 (by decide)
  obtain ⟨d1, d2, d3⟩ := h.ct 102 8 2000 (by decide)
  have k0 : 1 ≤ K 0 := h.se.2 (by omega)
  have e40 : e < 40 := by omega
  have p20 : p < 20 := by omega
  have t0 : w % K 0 < K 0 := Nat.mod_lt _ (by omega)
  have rm : nI w - nI w / nI (K 0) * nI (K 0) = nI (w % K 0) := pk_rem (by omega) (by omega) (by omega)
  have nzk : nz (nI (K 0)) = some () := by unfold nz; rw [if_neg (nI_ne0 (by omega) (by omega))]
  unfold OB f_X3_carryOutSort f_X3_sendAway f_X12_cannot
  simp only [of_4 e40, of_2 e40, of_1 e40, fb_s, es, ew, ep, i10, ↓reduceIte, fv_s, w1, w2, show (0 : Int32) < nI (K 0) from nI_lt (a := 0) (by omega) (by omega), man_4 p20, nzk, rm]
  rcases h.town_of hp hl with ⟨t1, t2⟩ | ⟨c, hc, t1, t3, t2⟩
  · left
    simp only [t1, t2, ltm1, ↓reduceIte, fb_s]
    exact ⟨trivial, T, rfl, ME.rf⟩
  · simp only [t1, t2, i10, nI_pos (show c < 2 ^ 31 by omega), ↓reduceIte, fb_s]
    obtain ⟨T1, x, e1, g1, o1⟩ := h.farOf hc t0
    have en := e1.2 55 (by decide)
    rw [g1]
    simp only [fb_s]
    rcases o1 with ⟨o1, o2⟩ | ⟨d, o1, rfl, o2⟩
    · left
      rw [if_pos o1]
      refine ⟨?_, T1, rfl, e1.me⟩
      unfold f_X7_setOut
      simp only [g6_4 p20, t3, o2, fv_s, ltm2, ↓reduceIte, fb_s]
    · right
      rw [if_neg (nI_pos (by omega))]
      have hm : RelR K (wA S 15 (12 * e + 11) 1) ((wA T1 55 (12 * e + 1298) 1).2 55) := h.mkd he (by rw [wA_e, en])
      have q : ∀ j : Nat, j ≠ 12 * e + 1298 → (wA T1 55 (12 * e + 1298) 1).2 55 j = T.2 55 j := fun j hj => by rw [wA_e, pk_un hj, en]
      obtain ⟨T', S1, y, v, y1, y2, y3, y4, y5, y6, -, -, -⟩ := hm.goes (t := w % K 0) hp (by rw [q _ (by omega)]; exact hl) (by rw [q _ (by omega)]; exact t1) hc t0
      rw [setOut_mk] at y2
      obtain ⟨r, r1, r2⟩ := fb_some y2
      obtain ⟨rv, rS⟩ := Prod.mk.inj (Option.some.inj r2)
      have vn : r.1 = nI (K 8 + d) := by
        unfold f_X7_setOut at r1
        simp only [g6_4 p20, t3, o2, fv_s, nI_pos (show d < 2 ^ 31 by omega), ↓reduceIte, fl_s] at r1
        split at r1
        · rw [← Option.some.inj r1]
          show S.1 102 + nI d = _
          rw [d1, nI_add]
        · rw [← Option.some.inj r1]
          show S.1 102 + nI d = _
          rw [d1, nI_add]
      have yv : y = v := by
        rcases y6 with ⟨-, z⟩ | ⟨dd, -, z1, z2⟩
        · rw [← rv, vn] at z; exact absurd z (nI_nf (by omega))
        · rw [z1, z2]
      refine ⟨r.1, r.2, T1, T', by rw [r1]; rfl, by rw [vn]; exact nI_nf (by omega), rfl, ?_, ?_, ?_, ?_⟩
      · unfold f_X12_obeys
        simp only [of_4 e40, of_2 e40, of_1 e40, fb_s, q (12 * e + 1294) (by omega), q (12 * e + 1292) (by omega), q (12 * e + 1291) (by omega), q 0 (by omega), es, ew, ep, i10, ↓reduceIte, w2, nzk, rm, y1]
        rw [yv, rv]
      · rw [rS]; exact y3
      · rw [← rS] at y4; exact y4
      · exact e1.me.1.tr (MX.tr ⟨⟨rfl, rfl, rfl, rfl, rfl⟩, rfl, rfl⟩ y5)
theorem RelR.ob2 (h : RelR K S (T.2 55)) {e p w : Nat} (he : e < K 5) (hp : p < K 2) (hl : T.2 55 (14 * p + 119) = -1) (hw9 : w ≤ 999) (es : T.2 55 (12 * e + 1291) = 2) (ew : T.2 55 (12 * e + 1292) = nI w) (ep : T.2 55 (12 * e + 1294) = nI p) : OB K S T e 2 (nI w) (nI p) := by
  have c5 := (h.ct 14 5 40 (by decide)).2.2
  have c2 := (h.ct 6 2 20 (by decide)).2.2
  have c3 := (h.ct 8 3 20 (by decide)).2.2
  have e40 : e < 40 := by omega
  have p20 : p < 20 := by omega
  unfold OB f_X3_carryOutSort f_X7_handOver f_X7_setLent f_X12_cannot
  simp only [of_4 e40, of_2 e40, of_1 e40, fb_s, es, ew, ep, show ((2 : Int32) = 0) = False from eq_false (by decide), show ((2 : Int32) = 1) = False from eq_false (by decide), ↓reduceIte]
  rcases h.pow (nI w) with ⟨a1, m1⟩ | ⟨w', hw, ew', a1, m1⟩
  · left
    simp only [a1, m1, ↓reduceIte]
    exact ⟨trivial, T, rfl, ME.rf⟩
  · right
    simp only [a1, m1, i10, ↓reduceIte]
    have ww : w' = w := (nI_inj (by omega) (by omega) ew').symm
    subst ww
    obtain ⟨w20, ⟨f0, f1, f2, f3, f4⟩, b1, b2⟩ := h.pwc hw
    have hv : vL (K 2) (T.2 55) (T.2 55 (6 * w' + 391)) := (h.pw w' hw).2.2.2.2.1
    simp only [fb_s, fl_s, s8_3 w20, s8_4 w20, s8_2 w20, g8_2 w20]
    have q2 : (wA (wA S 9 (6 * w' + 3) (-1)) 9 (6 * w' + 4) (-1)).2 9 (6 * w' + 2) = T.2 55 (6 * w' + 391) := by
      rw [wA_e, wA_e, pk_un (by omega), pk_un (by omega)]; exact f2
    rw [q2]
    refine ⟨_, _, T, wA (wA (wA (wA T 55 (12 * e + 1298) 1) 55 (6 * w' + 391) (nI p)) 55 (6 * w' + 392) (-1)) 55 (6 * w' + 393) (-1), rfl, ?_, rfl, ?_, ?_, ⟨⟨rfl, rfl, rfl, rfl⟩, rfl, rfl⟩, ?_⟩
    · rcases hv with z | ⟨q, q1, z, -⟩
      · rw [z]; decide
      · rw [z]; exact nI_nf (by omega)
    · unfold f_X12_obeys f_X12_comesBack
      have q : ∀ j : Nat, j ≠ 12 * e + 1298 → (wA T 55 (12 * e + 1298) 1).2 55 j = T.2 55 j := fun j hj => by rw [wA_e, pk_un hj]
      simp only [of_4 e40, of_2 e40, of_1 e40, fb_s, q (12 * e + 1294) (by omega), q (12 * e + 1292) (by omega), q (12 * e + 1291) (by omega), es, ew, ep, show ((2 : Int32) = 0) = False from eq_false (by decide), show ((2 : Int32) = 1) = False from eq_false (by decide), ↓reduceIte, its_1 w20, q (6 * w' + 391) (by omega), makes_1 w20, makes_2 w20, makes_3 w20]
    · refine RelR.mkd (T := wA (wA (wA T 55 (6 * w' + 391) (nI p)) 55 (6 * w' + 392) (-1)) 55 (6 * w' + 393) (-1)) ?_ (e := e) he ?_
      · simp only [wA_e]
        refine h.onW (((CQ.rf.wA (by decide) (by decide)).wA (by decide) (by decide)).wA (by decide) (by decide)) (((NQ.rf.w (Or.inl (by omega))).w (Or.inl (by omega))).w (Or.inl (by omega))) ?_ ?_
        · simp (disch := omega) only [pk_un, wA_1]; exact h.1.2
        · simp only [wA_e]
          rw [upd_cm (a := 6 * w' + 391) (b := 6 * w' + 392) (by omega), upd_cm (a := 6 * w' + 391) (b := 6 * w' + 393) (by omega)]
          have r1 := h.pw.lent c3 c2 hw (x := -1) (y := -1) (Or.inl rfl) (fun _ => rfl)
          exact r1.hold c3 c2 hw (((show vL (K 2) (T.2 55) (nI p) from Or.inr ⟨p, hp, rfl, hl⟩).o c2 (by omega)).o c2 (by omega))
      · simp only [wA_e]
        rw [upd_cm (a := 12 * e + 1298) (b := 6 * w' + 391) (by omega), upd_cm (a := 12 * e + 1298) (b := 6 * w' + 392) (by omega), upd_cm (a := 12 * e + 1298) (b := 6 * w' + 393) (by omega)]
    · exact ⟨⟨rfl, rfl, rfl, rfl, rfl⟩, rfl, rfl⟩
end OPO
