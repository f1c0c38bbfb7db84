def RL : String := "SealCouncilLaw"
def mL_law (nm : String) : pm_M := (⟨RL, nm, "([I)Z"⟩, code, 4, some .boolean)
/-! ===== the law: its script, its end ===== -/
def pm_scr (G : pm_G) (B b L : Nat) (xs : Nat → Int32) : Prop := va_X b L xs (pm_s G) (pm_s G).heap ∧ b < B ∧ B = (pm_s G).heap.size
def pm_lend (nm : String) (G : pm_G) (B : Nat) : Prop := ∀ (pc : Nat) (loc : List (Option Value)) (cs zs cnt : Nat) (σ : pm_S), cs ≤ 600000 → zs ≤ 7302250 → decode code pc = .ok (.ireturn, 1) → pm_wp (mL_law nm) G B pc loc [.int 1] cs zs cnt σ
section PML
variable {M : pm_M} {G : pm_G} {B pc pc' : Nat} {loc : List (Option Value)} {st : List Value} {cs zs cnt : Nat} {σ : pm_S}
theorem pm_sld {b L : Nat} {xs : Nat → Int32} {i : Int32} (hG : pm_ok M G B) (hs : pm_scr G B b L xs) (hd : pm_dec M pc (.iaload, 1) pc') (hi : vp_in i L) (kk : pm_wp M G B pc' loc (.int (xs i.toNatClampNeg) :: st) cs zs cnt σ) : pm_wp M G B pc loc (.int i :: .ref b :: st) cs zs cnt σ := by
  obtain ⟨hd, rfl⟩ := hd
  obtain ⟨hX, hb, hB⟩ := hs
  intro H ls locs h1 h2 h3 h4
  refine va_sld (A := fun q => B ≤ q) (H0 := (pm_s G).heap) hG.x hG.b hX (by rw [← hB]; exact hb) (Nat.not_le.mpr hb) ⟨by rw [h1.1, ← hB]; exact Nat.le_add_right _ _, fun q hq hn => h2 q (by omega), h4⟩ hi hd (kk H ls locs h1 h2 h3 h4)
theorem pm_slen {b L : Nat} {xs : Nat → Int32} (hG : pm_ok M G B) (hs : pm_scr G B b L xs) (hd : pm_dec M pc (.arraylength, 1) pc') (kk : pm_wp M G B pc' loc (.int (Int32.ofNat L) :: st) cs zs cnt σ) : pm_wp M G B pc loc (.ref b :: st) cs zs cnt σ := by
  obtain ⟨hd, rfl⟩ := hd
  obtain ⟨hX, hb, hB⟩ := hs
  intro H ls locs h1 h2 h3 h4
  refine va_slen (A := fun q => B ≤ q) (H0 := (pm_s G).heap) hG.x hG.b hX (by rw [← hB]; exact hb) (Nat.not_le.mpr hb) ⟨by rw [h1.1, ← hB]; exact Nat.le_add_right _ _, fun q hq hn => h2 q (by omega), h4⟩ hd (kk H ls locs h1 h2 h3 h4)
end PML
theorem pm_two_sub {σ : pm_S} {k : Nat} {C R : List pm_C} (h1 : pm_lies σ 0 C) (h2 : pm_lies σ k R) : pm_sub (pm_cat (pm_ofL C) k R) σ := by
  intro j x hj
  unfold pm_cat at hj
  split at hj
  · have h3 := h1 j x hj
    rw [Nat.zero_add] at h3
    exact h3
  · have h3 := h2 (j - k) x hj
    rw [show k + (j - k) = j by omega] at h3
    exact h3
theorem pm_old_lies {σ σ' : pm_S} {k n : Nat} {L : List pm_C} (h : pm_old k σ σ') (h1 : pm_lies σ n L) (hk : n + L.length ≤ k) : pm_lies σ' n L := by
  intro i x hx
  have hi : i < L.length := (List.getElem?_eq_some_iff.mp hx).1
  rw [h _ (by omega)]
  exact h1 i x hx
theorem pm_mid_lies {σ : pm_S} {L : List pm_C} (h : L.length ≤ 20) : pm_lies (pm_mid σ L) 54 L := by
  intro i x hi
  have hl : i < L.length := (List.getElem?_eq_some_iff.mp hi).1
  unfold pm_mid
  rw [if_neg (by omega), if_pos (by omega), Nat.add_sub_cancel_left]
  exact hi
theorem pm_mid_lo {σ : pm_S} {L : List pm_C} {j : Nat} (h : j < 54 ∨ 74 ≤ j) : pm_mid σ L j = σ j := by
  unfold pm_mid
  rcases h with h | h
  · rw [if_pos h]
  · rw [if_neg (by omega), if_neg (by omega)]
theorem pm_sub_mid {L : List pm_C} {σ : pm_S} (h : pm_lies σ 54 L) : pm_sub (pm_mid σ L) σ := by
  intro j x hj
  unfold pm_mid at hj
  split at hj
  · exact hj
  · split at hj
    · have h1 := h (j - 54) x hj
      rwa [show 54 + (j - 54) = j by omega] at h1
    · exact hj
/-! ===== what an image keeps stands for the same ===== -/
section IMG
variable {K : Nat → Nat} {S T : FS}
theorem mnR_n {R k : Nat} (h : k ≤ R) (hR : R < 2 ^ 31) : mnR R (nI k) = nI k := by
  unfold mnR; rw [if_neg (nI_nlt h hR)]
theorem RelR.tk {J : Nat → Int32} {Kf : Nat → Nat → Int32} {n : Nat → Int32} (h : RelR K S n) (ht : tk J Kf S.1 S.2 tk_all) : RelR K (J, Kf) n := by
  have c0 := (h.ct 2 0 10 (by decide)).2.2
  have c1 := (h.ct 101 1 20 (by decide)).2.2
  have c2 := (h.ct 6 2 20 (by decide)).2.2
  have c3 := (h.ct 8 3 20 (by decide)).2.2
  have c4 := (h.ct 10 4 12 (by decide)).2.2
  have c5 := (h.ct 14 5 40 (by decide)).2.2
  have c6 := (h.ct 16 6 6 (by decide)).2.2
  have c7 := (h.ct 18 7 30 (by decide)).2.2
  have c10 := (h.ct 24 10 60 (by decide)).2.2
  have c11 := (h.ct 22 11 20 (by decide)).2.2
  obtain ⟨t1, t2, t3, t4⟩ := ht
  have ar := fun a m (hm : (a, m) ∈ tk_all) => (t1 (a, m) hm).2
  have ci : ∀ a m : Nat, (a, m) ∈ tk_all → ∀ i b : Nat, (a, i, b) ∈ ctT → b ≤ rwT a → rwT a < 2 ^ 31 → J a = S.1 a := fun a m hm i b hc hb hr => by
    obtain ⟨q1, q2, q3⟩ := h.ct a i b hc
    have e : J a = mnR (rwT a) (S.1 a) := (t1 (a, m) hm).1
    rw [e, q1]; exact mnR_n (by omega) hr
  refine ⟨⟨fun q hq => ?_, ?_⟩, ?_, ?_, ?_, ?_, ?_, ?_, ?_, ?_, ?_, ?_, ?_, ?_, ?_, ?_⟩
  · have e : J q.1 = S.1 q.1 := by
      simp only [ctT, List.mem_cons, List.not_mem_nil, or_false] at hq
      rcases hq with rfl | rfl | rfl | rfl | rfl | rfl | rfl | rfl | rfl | rfl | rfl
      · exact ci 2 30 (by decide) 0 10 (by decide) (by decide) (by decide)
      · exact t2
      · exact ci 6 280 (by decide) 2 20 (by decide) (by decide) (by decide)
      · exact ci 8 120 (by decide) 3 20 (by decide) (by decide) (by decide)
      · exact ci 10 72 (by decide) 4 12 (by decide) (by decide) (by decide)
      · exact ci 14 480 (by decide) 5 40 (by decide) (by decide) (by decide)
      · exact ci 16 30 (by decide) 6 6 (by decide) (by decide) (by decide)
      · exact ci 18 150 (by decide) 7 30 (by decide) (by decide) (by decide)
      · exact t3
      · exact ci 24 60 (by decide) 10 60 (by decide) (by decide) (by decide)
      · exact ci 22 20 (by decide) 11 20 (by decide) (by decide) (by decide)
    rw [show ((J, Kf) : FS).1 q.1 = J q.1 from rfl, e]; exact h.1.1 q hq
  · exact t4.trans h.1.2
  · exact h.tw.same c0 rfl (Nat.le_refl _) (ar 2 30 (by decide)) (fun _ _ _ => rfl)
  · exact h.wy.same (Nat.le_refl _) (ar 4 100 (by decide)) (fun _ _ _ => rfl)
  · exact h.pe.same c2 (Nat.le_refl _) rfl rfl (ar 6 280 (by decide)) (fun _ _ _ => rfl)
  · exact h.pw.same c3 c2 rfl (Nat.le_refl _) (ar 8 120 (by decide)) (fun _ _ _ => rfl) (fun _ z => z)
  · exact h.la.same c4 rfl (Nat.le_refl _) (ar 10 72 (by decide)) (ar 12 720 (by decide)) (fun _ _ _ => rfl)
  · exact h.le.same c5 rfl (Nat.le_refl _) (Nat.le_refl _) (ar 14 480 (by decide)) (fun _ _ _ => rfl)
  · exact h.de.same c6 c0 rfl (Nat.le_refl _) (Nat.le_refl _) (ar 16 30 (by decide)) (fun _ _ _ => rfl) (fun _ _ z => z)
  · exact h.pr.same c7 rfl (Nat.le_refl _) rfl (ar 18 150 (by decide)) (fun _ _ _ => rfl)
  · exact h.gu.same (ar 20 5 (by decide)) (fun _ _ _ => rfl)
  · exact h.wt.same c11 rfl (ar 22 20 (by decide)) (fun _ _ _ => rfl)
  · exact h.ta.same c10 rfl (ar 24 60 (by decide)) (fun _ _ _ => rfl)
  · exact h.se
  · exact h.st.same c2 rfl (fun p hp => ar 6 280 (by decide) _ (by omega)) (fun _ _ => ⟨rfl, rfl⟩)
  · exact h.ps.same c7 rfl (Nat.le_refl _) rfl (ar 18 150 (by decide)) (fun _ _ _ => rfl) (fun _ _ => rfl)
/-- the same numbers -/
theorem RelR.nn {n n' : Nat → Int32} (h : RelR K S n) (hn : ∀ j : Nat, j < 2071 → n' j = n j) : RelR K S n' := by
  have c0 := (h.ct 2 0 10 (by decide)).2.2
  have c1 := (h.ct 101 1 20 (by decide)).2.2
  have c2 := (h.ct 6 2 20 (by decide)).2.2
  have c3 := (h.ct 8 3 20 (by decide)).2.2
  have c4 := (h.ct 10 4 12 (by decide)).2.2
  have c5 := (h.ct 14 5 40 (by decide)).2.2
  have c6 := (h.ct 16 6 6 (by decide)).2.2
  have c7 := (h.ct 18 7 30 (by decide)).2.2
  have c10 := (h.ct 24 10 60 (by decide)).2.2
  have c11 := (h.ct 22 11 20 (by decide)).2.2
  have z : ∀ j : Nat, j < 2071 → n' j = n j := hn
  refine ⟨⟨fun q hq => ?_, ?_⟩, ?_, ?_, ?_, ?_, ?_, ?_, ?_, ?_, ?_, ?_, ?_, ?_, ?_, ?_⟩
  · have h9 : ∀ q ∈ ctT, q.2.1 < 2071 := by decide
    rw [z _ (h9 q hq)]; exact h.1.1 q hq
  · rw [z 9 (by decide)]; exact h.1.2
  · exact h.tw.same c0 rfl (Nat.le_refl _) (fun _ _ => rfl) (fun j _ h2 => z j (by omega))
  · exact h.wy.same (Nat.le_refl _) (fun _ _ => rfl) (fun j _ h2 => z j (by omega))
  · exact h.pe.same c2 (Nat.le_refl _) rfl rfl (fun _ _ => rfl) (fun j _ h2 => z j (by omega))
  · exact h.pw.same c3 c2 rfl (Nat.le_refl _) (fun _ _ => rfl) (fun j _ h2 => z j (by omega)) (fun x hx => hx.same c2 (Nat.le_refl _) (fun j _ h2 => z j (by omega)))
  · exact h.la.same c4 rfl (Nat.le_refl _) (fun _ _ => rfl) (fun _ _ => rfl) (fun j _ h2 => z j (by omega))
  · exact h.le.same c5 rfl (Nat.le_refl _) (Nat.le_refl _) (fun _ _ => rfl) (fun j _ h2 => z j (by omega))
  · exact h.de.same c6 c0 rfl (Nat.le_refl _) (Nat.le_refl _) (fun _ _ => rfl) (fun j _ h2 => z j (by omega)) (fun t ht e => by rw [z _ (by omega)]; exact e)
  · exact h.pr.same c7 rfl (Nat.le_refl _) rfl (fun _ _ => rfl) (fun j _ h2 => z j (by omega))
  · exact h.gu.same (fun _ _ => rfl) (fun j _ h2 => z j (by omega))
  · exact h.wt.same c11 rfl (fun _ _ => rfl) (fun j _ h2 => z j (by omega))
  · exact h.ta.same c10 rfl (fun _ _ => rfl) (fun j _ h2 => z j (by omega))
  · exact h.se.same c2 rfl (Nat.le_refl _) (fun p hp => z _ (by omega))
  · exact h.st.same c2 rfl (fun _ _ => rfl) (fun p hp => ⟨z _ (by omega), z _ (by omega)⟩)
  · exact h.ps.same c7 rfl (Nat.le_refl _) rfl (fun _ _ => rfl) (fun j _ h2 => z j (by omega)) (fun p hp => z _ (by omega))
theorem RelR.mx {J : Nat → Int32} {Kf : Nat → Nat → Int32} {n : Nat → Int32} (h : RelR K (J, Kf) n) : RelR K (mI S.1 J, mA S.2 Kf) n := by
  refine h.cs (fun k hk => ?_) (fun a ha => ?_)
  · have h9 : ∀ k ∈ ctI, (k ≤ 24 ∧ k % 2 = 0) ∨ k = 101 ∨ k = 102 ∨ k = 103 := by decide
    exact if_pos (h9 k hk)
  · have h9 : ∀ a ∈ ctA, a ≤ 25 := by decide
    exact if_pos (h9 a ha)
def IM (T T1 : FS) : Prop := (T1.1 3 = T.1 3 + 1 ∧ ∀ k : Nat, k ≠ 3 → T1.1 k = T.1 k) ∧ (∀ a : Nat, a ≠ 56 → T1.2 a = T.2 a) ∧ ∀ j : Nat, j < 2071 → T1.2 56 j = T.2 55 j
theorem img_l : ∀ (m i : Nat) (T : FS), i ≤ 2071 → 2071 - i < m → ∃ T1 : FS, T1.1 = T.1 ∧ (∀ a : Nat, a ≠ 56 → T1.2 a = T.2 a) ∧ (∀ j : Nat, (j < i → T1.2 56 j = T.2 56 j) ∧ (i ≤ j → j < 2071 → T1.2 56 j = T.2 55 j)) ∧ ∀ k, l_X12_image_2 k m T (nI i) = k T1 (nI 2071) := by
  intro m
  induction m with
  | zero => intro i T _ hm; exact absurd hm (Nat.not_lt_zero _)
  | succ m ih =>
    intro i T hi hm
    by_cases c : i < 2071
    · obtain ⟨T1, r1, r2, r3, r4⟩ := ih (i + 1) (wA T 56 i (T.2 55 i)) (by omega) (by omega)
      refine ⟨T1, r1, fun a ha => (r2 a ha).trans (wA_n ha), fun j => ⟨fun q => ?_, fun q q2 => ?_⟩, fun k => ?_⟩
      · rw [(r3 j).1 (by omega), wA_e, pk_un (by omega)]
      · by_cases z : j = i
        · subst z; rw [(r3 j).1 (by omega), wA_e, pk_us]
        · rw [(r3 j).2 (by omega) q2, wA_n (by decide)]
      · rw [l_X12_image_2, if_pos (show nI i < 2071 from nI_lt (b := 2071) c (by decide)), ix_nI c (by decide), fb_s, fl_s, nI_1]; exact r4 k
    · obtain rfl : i = 2071 := by omega
      refine ⟨T, rfl, fun _ _ => rfl, fun j => ⟨fun _ => rfl, fun q q2 => absurd q (by omega)⟩, fun k => ?_⟩
      rw [l_X12_image_2, if_neg (by decide)]
theorem img_t (T : FS) : ∃ T1 : FS, IM T T1 ∧ f_X12_image T = some (T.1 3 + 1, T1) := by
  obtain ⟨T1, r1, r2, r3, r4⟩ := img_l FU 0 T (by omega) (FU_lt (by omega))
  refine ⟨wI T1 3 (T1.1 3 + 1), ⟨⟨by rw [wI_e, r1], fun k hk => by rw [wI_n hk, r1]⟩, r2, fun j hj => (r3 j).2 (Nat.zero_le _) hj⟩, ?_⟩
  unfold f_X12_image
  rw [show ∀ k, l_X12_image_2 k FU T 0 = k T1 (nI 2071) from r4, fl_s, wI_e, r1]
def RM (T T1 : FS) : Prop := T1.1 = T.1 ∧ (∀ a : Nat, a ≠ 55 → T1.2 a = T.2 a) ∧ ∀ j : Nat, j < 2071 → T1.2 55 j = T.2 56 j
theorem rst_l : ∀ (m i : Nat) (T : FS), i ≤ 2071 → 2071 - i < m → ∃ T1 : FS, T1.1 = T.1 ∧ (∀ a : Nat, a ≠ 55 → T1.2 a = T.2 a) ∧ (∀ j : Nat, (j < i → T1.2 55 j = T.2 55 j) ∧ (i ≤ j → j < 2071 → T1.2 55 j = T.2 56 j)) ∧ ∀ k, l_X12_restore_15 k m T (nI i) = k T1 (nI 2071) := by
  intro m
  induction m with
  | zero => intro i T _ hm; exact absurd hm (Nat.not_lt_zero _)
  | succ m ih =>
    intro i T hi hm
    by_cases c : i < 2071
    · obtain ⟨T1, r1, r2, r3, r4⟩ := ih (i + 1) (wA T 55 i (T.2 56 i)) (by omega) (by omega)
      refine ⟨T1, r1, fun a ha => (r2 a ha).trans (wA_n ha), fun j => ⟨fun q => ?_, fun q q2 => ?_⟩, fun k => ?_⟩
      · rw [(r3 j).1 (by omega), wA_e, pk_un (by omega)]
      · by_cases z : j = i
        · subst z; rw [(r3 j).1 (by omega), wA_e, pk_us]
        · rw [(r3 j).2 (by omega) q2, wA_n (by decide)]
      · rw [l_X12_restore_15, if_pos (show nI i < 2071 from nI_lt (b := 2071) c (by decide)), ix_nI c (by decide), fb_s, fl_s, nI_1]; exact r4 k
    · obtain rfl : i = 2071 := by omega
      refine ⟨T, rfl, fun _ _ => rfl, fun j => ⟨fun _ => rfl, fun q q2 => absurd q (by omega)⟩, fun k => ?_⟩
      rw [l_X12_restore_15, if_neg (by decide)]
theorem rst_t {T : FS} (h : ¬ T.1 3 = 0) : ∃ T1 : FS, RM T T1 ∧ f_X12_restore T = some (T1.2 55 8, T1) := by
  obtain ⟨T1, r1, r2, r3, r4⟩ := rst_l FU 0 T (by omega) (FU_lt (by omega))
  refine ⟨T1, ⟨r1, r2, fun j hj => (r3 j).2 (Nat.zero_le _) hj⟩, ?_⟩
  unfold f_X12_restore
  rw [if_neg h, show ∀ k, l_X12_restore_15 k FU T 0 = k T1 (nI 2071) from r4]
end IMG
/-! ===== the law: what holds between two calls ===== -/
section LAWI
variable {B cnt cnt' w : Nat} {σ σ1 τ : pm_S} {kp : Value} {S S1 T T1 : FS} {K : Nat → Nat}
def KPX (B : Nat) (σ : pm_S) (cnt w : Nat) (kp : Value) (S T : FS) : Prop := (∃ c : Nat, c ≤ w ∧ S.1 100 = nI c ∧ T.1 3 = nI c ∧ (c = 0 ↔ kp = .null)) ∧ (kp = .null ∨ ∃ (κ : Nat) (J : Nat → Int32) (Kf : Nat → Nat → Int32), kp = .ref (B + (κ + 0)) ∧ 74 ≤ κ ∧ κ + 25 ≤ cnt ∧ pm_lies σ κ (rl_L B κ J Kf) ∧ ∃ Kk : Nat → Nat, RelR Kk (J, Kf) (T.2 56))
def LI (B : Nat) (σ : pm_S) (cnt w : Nat) : Prop := 74 ≤ cnt ∧ ∃ (kp : Value) (S T : FS), pm_lies σ 0 (cl_L B kp S.1 S.2) ∧ pm_lies σ 54 (md_F B T.1 T.2) ∧ (∃ K : Nat → Nat, RelR K S (T.2 55)) ∧ RX S T ∧ KPX B σ cnt w kp S T
theorem LI.up (h : LI B σ cnt w) : LI B σ cnt (w + 1) := by
  obtain ⟨h1, kp, S, T, h2, h3, h4, h5, ⟨c, c1, c2⟩, h6⟩ := h
  exact ⟨h1, kp, S, T, h2, h3, h4, h5, ⟨c, by omega, c2⟩, h6⟩
theorem KPX.nx (h : KPX B σ cnt w kp S T) (kx : KX S S1 T T1) (hc : cnt ≤ cnt') (hs : ∀ j : Nat, 74 ≤ j → j < cnt → σ1 j = σ j) : KPX B σ1 cnt' (w + 1) kp S1 T1 := by
  obtain ⟨⟨c, c1, c2, c3, c4⟩, h6⟩ := h
  refine ⟨⟨c, by omega, kx.1.trans c2, kx.2.2.trans c3, c4⟩, ?_⟩
  rcases h6 with h6 | ⟨κ, J, Kf, e1, e2, e3, e4, e5⟩
  · exact Or.inl h6
  · refine Or.inr ⟨κ, J, Kf, e1, e2, by omega, e4.same (fun j h7 h8 => hs j (by omega) (by have h9 : (rl_L B κ J Kf).length = 25 := rfl; omega)), ?_⟩
    rw [kx.2.1]; exact e5
theorem LI.nxt (h74 : 74 ≤ cnt) (hk : KPX B σ cnt w kp S T) (hr : ∃ K' : Nat → Nat, RelR K' S1 (T1.2 55)) (hx : RX S1 T1) (kx : KX S S1 T T1) (ho : ∀ j : Nat, j < cnt → τ j = cst B kp S1 σ j) (hc : cnt ≤ cnt') : LI B (mst B T1 τ) cnt' (w + 1) := by
  refine ⟨by omega, kp, S1, T1, ?_, pm_mid_lies (Nat.le_of_ble_eq_true rfl), hr, hx, hk.nx kx hc (fun j h1 h2 => ?_)⟩
  · refine (pm_two_lies (ρ := σ) (Nat.le_of_ble_eq_true rfl)).same (fun j _ hj => ?_)
    have h9 : (cl_L B kp S1.1 S1.2).length = 54 := rfl
    exact (pm_mid_lo (Or.inl (by omega))).trans (ho j (by omega))
  · exact (pm_mid_lo (Or.inr h1)).trans ((ho j h2).trans (pm_two_hi (by omega)))
theorem LI.nx (h74 : 74 ≤ cnt) (hk : KPX B σ cnt w kp S T) (hr : ∃ K' : Nat → Nat, RelR K' S1 (T1.2 55)) (hx : RX S1 T1) (kx : KX S S1 T T1) : LI B (mst B T1 (cst B kp S1 σ)) cnt (w + 1) := LI.nxt h74 hk hr hx kx (fun _ _ => rfl) (Nat.le_refl _)
theorem LI.img {κ : Nat} {J : Nat → Int32} {Kf : Nat → Nat → Int32} (hw : w ≤ 1000) (h74 : 74 ≤ cnt) (hk : KPX B σ cnt w kp S T) (hr : RelR K S (T.2 55)) (hx : RX S T) (l0 : pm_lies σ1 0 (cl_L B (.ref (B + (κ + 0))) (ui S.1 100 (S.1 100 + 1)) S.2)) (q74 : 74 ≤ κ) (qκ : κ + 25 ≤ cnt') (lk : pm_lies σ1 κ (rl_L B κ J Kf)) (htk : tk J Kf S.1 S.2 tk_all) (hc : cnt ≤ cnt') (im : IM T T1) : LI B (mst B T1 σ1) cnt' (w + 1) := by
  obtain ⟨⟨c, c1, c2, c3, c4⟩, -⟩ := hk
  obtain ⟨⟨i1, i2⟩, i3, i4⟩ := im
  obtain ⟨x1, x2, x3, x4, x5⟩ := hx
  refine ⟨by omega, .ref (B + (κ + 0)), (ui S.1 100 (S.1 100 + 1), S.2), T1, ?_, pm_mid_lies (Nat.le_of_ble_eq_true rfl), ⟨K, ?_⟩, ⟨fun s hs => ?_, ?_, ?_, ?_, ?_⟩, ⟨c + 1, by omega, ?_, ?_, ⟨fun q => absurd q (by omega), fun q => by cases q⟩⟩, Or.inr ⟨κ, J, Kf, rfl, q74, qκ, ?_, K, ?_⟩⟩
  · refine l0.same (fun j _ hj => ?_)
    have h9 : (cl_L B (.ref (B + (κ + 0))) (ui S.1 100 (S.1 100 + 1)) S.2).length = 54 := rfl
    exact pm_mid_lo (Or.inl (by omega))
  · rw [i3 55 (by decide)]
    exact hr.cs (fun k hk => ui_ne (fun q => by subst q; revert hk; decide)) (fun _ _ => rfl)
  · rw [i3 70 (by decide), i3 71 (by decide)]; exact x1 s hs
  · rw [i3 72 (by decide)]; exact x2
  · rw [i2 22 (by decide)]; exact x3
  · rw [i2 22 (by decide)]; exact x4
  · rw [i3 69 (by decide)]; exact x5
  · show ui S.1 100 (S.1 100 + 1) 100 = _
    rw [ui_eq, c2, nI_1]
  · rw [i1, c3, nI_1]
  · exact lk.same (fun j h1 _ => pm_mid_lo (Or.inr (by omega)))
  · exact (hr.tk htk).nn i4
theorem LI.res {κ : Nat} {J J1 : Nat → Int32} {Kf K1 : Nat → Nat → Int32} {Kk : Nat → Nat} (h74 : 74 ≤ cnt) (hk : KPX B σ cnt w (.ref (B + (κ + 0))) S T) (hx : RX S T) (hr : RelR Kk (J, Kf) (T.2 56)) (l0 : pm_lies σ1 0 (cl_L B (.ref (B + (κ + 0))) (mI S.1 J1) (mA S.2 K1))) (htk : tk J1 K1 J Kf tk_all) (q74 : 74 ≤ κ) (qκ : κ + 25 ≤ cnt) (lk : pm_lies σ1 κ (rl_L B κ J Kf)) (rm : RM T T1) : LI B (mst B T1 σ1) cnt (w + 1) := by
  obtain ⟨⟨c, c1, c2, c3, c4⟩, -⟩ := hk
  obtain ⟨i1, i3, i4⟩ := rm
  obtain ⟨x1, x2, x3, x4, x5⟩ := hx
  refine ⟨h74, .ref (B + (κ + 0)), (mI S.1 J1, mA S.2 K1), T1, ?_, pm_mid_lies (Nat.le_of_ble_eq_true rfl), ⟨Kk, ?_⟩, ⟨fun s hs => ?_, ?_, ?_, ?_, ?_⟩, ⟨c, by omega, ?_, ?_, c4⟩, Or.inr ⟨κ, J, Kf, rfl, q74, qκ, ?_, Kk, ?_⟩⟩
  · refine l0.same (fun j _ hj => ?_)
    have h9 : (cl_L B (.ref (B + (κ + 0))) (mI S.1 J1) (mA S.2 K1)).length = 54 := rfl
    exact pm_mid_lo (Or.inl (by omega))
  · exact ((RelR.tk (S := (J, Kf)) hr htk).nn i4).mx
  · rw [i3 70 (by decide), i3 71 (by decide)]
    show (mA S.2 K1 49 s = _ ∧ mA S.2 K1 50 s = _) ∧ _
    rw [show mA S.2 K1 49 = S.2 49 from if_neg (by decide), show mA S.2 K1 50 = S.2 50 from if_neg (by decide)]; exact x1 s hs
  · rw [i3 72 (by decide)]
    show ∀ j : Nat, j < 96 → mA S.2 K1 52 j = _
    rw [show mA S.2 K1 52 = S.2 52 from if_neg (by decide)]; exact x2
  · rw [i1]
    show mI S.1 J1 115 = _
    rw [show mI S.1 J1 115 = S.1 115 from if_neg (by decide)]; exact x3
  · rw [i1]; exact x4
  · rw [i3 69 (by decide)]
    show ∀ j : Nat, j < 40 → mA S.2 K1 47 j = _
    rw [show mA S.2 K1 47 = S.2 47 from if_neg (by decide)]; exact x5
  · show mI S.1 J1 100 = _
    rw [show mI S.1 J1 100 = S.1 100 from if_neg (by decide)]; exact c2
  · rw [i1]; exact c3
  · exact lk.same (fun j h1 _ => pm_mid_lo (Or.inr (by omega)))
  · rw [i3 56 (by decide)]; exact hr
theorem KPX.img (hk : KPX B σ cnt w kp S T) : kp = .null ∨ ∃ (κ : Nat) (J : Nat → Int32) (Kf : Nat → Nat → Int32), kp = .ref (B + (κ + 0)) ∧ 74 ≤ κ ∧ κ + 25 ≤ cnt ∧ pm_lies σ κ (rl_L B κ J Kf) := by
  rcases hk.2 with h | ⟨κ, J, Kf, e1, e2, e3, e4, -⟩
  · exact Or.inl h
  · exact Or.inr ⟨κ, J, Kf, e1, e2, e3, e4⟩
theorem KPX.ct (hk : KPX B σ cnt w kp S T) (hw : w ≤ 1000) : S.1 100 = T.1 3 ∧ (T.1 3 = 0 ↔ kp = .null) := by
  obtain ⟨⟨c, c1, c2, c3, c4⟩, -⟩ := hk
  refine ⟨c2.trans c3.symm, ?_⟩
  rw [← c4, c3]
  exact ⟨fun q => nI_inj (b := 0) (by omega) (by decide) q, fun q => by rw [q]; rfl⟩
theorem res_day {J J1 : Nat → Int32} {Kf K1 : Nat → Nat → Int32} {Kk : Nat → Nat} (hr : RelR Kk (J, Kf) (T.2 56)) (htk : tk J1 K1 J Kf tk_all) (rm : RM T T1) : J1 102 = T1.2 55 8 := by
  obtain ⟨q1, q2, -⟩ := hr.ct 102 8 2000 (by decide)
  rw [htk.2.2.1, rm.2.2 8 (by decide), q2]; exact q1
theorem op_restore0 (h : RelR K S (T.2 55)) (hx : RX S T) (h0 : T.1 3 = 0) : ∃ S1 T1 : FS, f_X11_told S (-1000002) = some (-1000002, S1) ∧ f_X12_restore T = some (-1000002, T1) ∧ (∃ K' : Nat → Nat, RelR K' S1 (T1.2 55)) ∧ RX S1 T1 ∧ KX S S1 T T1 := by
  obtain ⟨S1, e1, e2⟩ := told_e S (-1000002)
  obtain ⟨T1, f1, f2⟩ := finds_2 T
  refine ⟨S1, T1, e1, ?_, ⟨K, by rw [f2.2]; exact h.ce e2⟩, hx.mono e2.1 f2.1, e2.1.2.2, f2.1.1.1, f2.1.2.2⟩
  unfold f_X12_restore
  rw [if_pos h0, fb_id]; exact f1
end LAWI
def cl_I0 (k : Nat) : Int32 := if k = 103 then 1000 else 0
def cl_A0 (fw : Nat → Int32) (a : Nat) : Nat → Int32 := if a = 5 then fw else fun _ => 0
set_option maxRecDepth 100000 in
theorem cl_new {B : Nat} {fw : Nat → Int32} : cl_L B .null cl_I0 (cl_A0 fw) = l_k_class B fw := rfl
def md_n0 : Nat → Int32 := upd (fun _ => 0) (9 : Int32).toNatClampNeg 1000
theorem md_n0_ne (j : Nat) (h : j ≠ 9) : md_n0 j = 0 := by
  unfold md_n0; rw [show (9 : Int32).toNatClampNeg = 9 from rfl, pk_un h]
def md_A0 (a : Nat) : Nat → Int32 := if a = 55 then md_n0 else fun _ => 0
set_option maxRecDepth 100000 in
theorem md_new {B : Nat} : md_F B (fun _ => 0) md_A0 = l_k_model B := rfl
theorem WQ1.new {fw n : Nat → Int32} (hfw : ∀ j : Nat, j < 100 → fw j = wY0 j) : WQ1 fw n 0 0 := by
  have et : ∀ i j : Nat, i < 10 → j < 10 → tv fw i j = if i = j then 0 else 1000 := by
    intro i j hi hj
    unfold tv
    rw [hfw _ (by omega)]
    unfold wY0
    by_cases c : i = j
    · rw [if_pos (by omega), if_pos c] <;> rfl
    · rw [if_neg (by omega), if_neg c] <;> rfl
  refine ⟨fun k hk => ?_, fun r hr => absurd hr (Nat.not_lt_zero _), fun i hi => by rw [et i i hi hi, if_pos rfl], fun i hi r hr => absurd hr (Nat.not_lt_zero _), fun i hi D hD _ j hj hl => ?_, fun i j hi hj hij _ => by rw [et i j hi hj, if_neg hij]⟩
  · rw [hfw k hk]
    unfold wY0
    split
    · exact ⟨0, by omega, rfl⟩
    · exact ⟨1000, by omega, rfl⟩
  · rw [et i j hi hj] at hl ⊢
    by_cases c : i = j
    · subst c; rw [hD]; omega
    · rw [if_neg c] at hl; omega
theorem new_rel {fw : Nat → Int32} (hfw : ∀ j : Nat, j < 100 → fw j = wY0 j) : RelR (fun _ => 0) (cl_I0, cl_A0 fw) (((fun _ => 0, md_A0) : FS).2 55) := by
  have no : ∀ {p : Prop} {t : Nat}, t < 0 → p := fun h => absurd h (Nat.not_lt_zero _)
  refine ⟨⟨?_, rfl⟩, fun _ h => no h, WQ1.new hfw, fun _ h => no h, fun _ h => no h, fun _ h => no h, fun _ h => no h, fun _ h => no h, fun _ h => no h, fun j hj => ⟨?_, 0, Nat.zero_le _, ?_⟩, fun _ h => no h, fun _ h => no h, ⟨Nat.zero_le _, fun q => absurd q (by decide)⟩, ⟨fun _ => 0, fun _ h => no h, fun _ => rfl, fun _ h => no h, fun _ _ _ _ h => no h⟩, ⟨fun _ h => no h, fun _ _ _ h => no h⟩⟩
  · have : ∀ q ∈ ctT, cl_I0 q.1 = nI 0 ∧ md_n0 q.2.1 = nI 0 ∧ 0 ≤ q.2.2 := by decide
    exact this
  · exact (md_n0_ne (j + 1986) (by omega)).symm
  · exact md_n0_ne (j + 1986) (by omega)
theorem new_rx {fw : Nat → Int32} : RX (cl_I0, cl_A0 fw) (fun _ => 0, md_A0) :=
  ⟨fun _ _ => ⟨⟨rfl, rfl⟩, ⟨0, Nat.zero_le _, rfl⟩, Or.inl rfl⟩, fun _ _ => rfl, rfl, ⟨0, Nat.zero_le _, rfl⟩, fun _ _ => rfl⟩
