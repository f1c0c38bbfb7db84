/-! ===== pure: feed ===== -/
section FEE
variable {K : Nat → Nat} {S T : FS}
def fB (x : Int64) (i : Nat) : Int32 := ((x.toUInt64 >>> (((8 : Int32) * nI i).toInt64.toUInt64 &&& Int64.toUInt64 63)).toInt64).toInt32 &&& 255
def mB (x : Int64) (i : Nat) : Int32 := ((x >>> (((8 : Int32) * nI i).toInt64 &&& 63)) &&& 255).toInt32
theorem bit_lo : ∀ j : Fin 8, (255#32).getLsbD j.val = true ∧ (255#64).getLsbD j.val = true := by decide
theorem bit_hi : ∀ j : Fin 32, 8 ≤ j.val → (255#32).getLsbD j.val = false ∧ (255#64).getLsbD j.val = false := by decide
theorem bvk (b : BitVec 64) (k : Nat) (hk : k ≤ 56) : ((b >>> k).signExtend 32) &&& 255#32 = ((b.sshiftRight k) &&& 255#64).signExtend 32 := by
  apply BitVec.eq_of_getLsbD_eq
  intro j hj
  rw [BitVec.getLsbD_and, BitVec.getLsbD_signExtend, BitVec.getLsbD_signExtend, if_pos (show j < 64 by omega), if_pos (show j < 64 by omega), BitVec.getLsbD_and, BitVec.getLsbD_ushiftRight, BitVec.getLsbD_sshiftRight]
  by_cases c : j < 8
  · have e := bit_lo ⟨j, c⟩
    rw [if_pos (show k + j < 64 by omega), show (255#32).getLsbD j = true from e.1, show (255#64).getLsbD j = true from e.2, decide_eq_false (show ¬ 64 ≤ j by omega), decide_eq_true hj]
    cases b.getLsbD (k + j) <;> rfl
  · have e := bit_hi ⟨j, hj⟩ (by show 8 ≤ j; omega)
    rw [show (255#32).getLsbD j = false from e.1, show (255#64).getLsbD j = false from e.2, Bool.and_false, Bool.and_false, Bool.and_false]
theorem fb1 (x : Int64) (s : UInt64) (k : Nat) (hs : (s.toBitVec % 64).toNat = k) : (((x.toUInt64 >>> s).toInt64).toInt32 &&& 255).toBitVec = ((x.toBitVec >>> k).signExtend 32) &&& 255#32 := by
  subst hs; rfl
theorem mb1 (x s : Int64) (k : Nat) (hs : (s.toBitVec.smod 64).toNat = k) : (((x >>> s) &&& 255).toInt32).toBitVec = ((x.toBitVec.sshiftRight k) &&& 255#64).signExtend 32 := by
  subst hs; rfl
theorem fbs8 : ∀ i : Fin 8, ((((8 : Int32) * nI i.val).toInt64.toUInt64 &&& Int64.toUInt64 63).toBitVec % 64).toNat = 8 * i.val := by decide +kernel
theorem mbs8 : ∀ i : Fin 8, ((((8 : Int32) * nI i.val).toInt64 &&& 63).toBitVec.smod 64).toNat = 8 * i.val := by decide +kernel
theorem fB_mB (x : Int64) (i : Nat) (h : i < 8) : fB x i = mB x i := by
  apply Int32.toBitVec_inj.mp
  unfold fB mB
  exact (fb1 x _ (8 * i) (fbs8 ⟨i, h⟩)).trans ((bvk _ _ (by omega)).trans (mb1 x _ (8 * i) (mbs8 ⟨i, h⟩)).symm)
theorem feed_l {x : Int64} {c : Nat} (hc : c ≤ 8) : ∀ (m i : Nat) (K : Nat → Nat) (S T : FS), i ≤ c → c - i < m → K 10 + (c - i) ≤ 60 → RelR K S (T.2 55) → ∃ (K' : Nat → Nat) (S' T' : FS), RelR K' S' (T'.2 55) ∧ CX S S' ∧ MX T T' ∧ (∀ k, l_X11_feed_44 x (nI c) k m S (nI i) = k S' (nI c)) ∧ ∀ k, l_X12_feed_39 x (nI c) k m T (nI i) = k T' (nI c) := by
  intro m
  induction m with
  | zero => intro i K S T _ hm; exact absurd hm (Nat.not_lt_zero _)
  | succ m ih =>
    intro i K S T hi hm hb h
    by_cases ci : i < c
    · have lt := nI_lt ci (show c < 2 ^ 31 by omega)
      obtain ⟨k1, k2, c10⟩ := h.ct 24 10 60 (by decide)
      have u60 : K 10 < 60 := by omega
      have ap : fApp 24 60 1 S (fB x i) = some (nI (K 10), (ui S.1 24 (nI (K 10 + 1)), ua S.2 25 (pm_apf 1 (K 10) (fB x i) (S.2 25)))) := fApp_f k1 u60 (by decide)
      have jx : ix 2071 ((1991 : Int32) + nI (K 10)) = some (K 10 + 1991) := by
        rw [show (1991 : Int32) + nI (K 10) = nI (K 10 + 1991) from (nI_add 1991 (K 10)).trans (congrArg nI (by omega))]; exact ix_nI (by omega) (by decide)
      have e10 : (wA T 55 (K 10 + 1991) (fB x i)).2 55 10 = nI (K 10) := by rw [wA_e, pk_un (by omega), k2]
      have h2 : RelR (kU K 10 (K 10 + 1)) (ui S.1 24 (nI (K 10 + 1)), ua S.2 25 (pm_apf 1 (K 10) (fB x i) (S.2 25))) ((wA (wA T 55 (K 10 + 1991) (fB x i)) 55 10 (nI (K 10 + 1))).2 55) := by
        simp only [wA_e]
        refine h.onA_10 (CQ.rf.app (by decide) (by decide) (by decide) (by decide)) ((NQ.rf.w (Or.inl (by omega))).w (Or.inr (Or.inr rfl))) (fun j hj => kU_n hj) (by rw [kU_e]; omega) ?_ (onct 24 10 60 (by decide) ?_ ?_ (by rw [kU_e]; omega)) ?_
        · show ui S.1 24 (nI (K 10 + 1)) 103 = _
          rw [ui_ne (by decide), pk_un (by omega), pk_un (by omega)]; exact h.1.2
        · rw [kU_e]; exact (ui_eq : ui S.1 24 (nI (K 10 + 1)) 24 = _)
        · rw [kU_e, pk_us]
        · show RTa _ (ua S.2 25 (pm_apf 1 (K 10) (fB x i) (S.2 25)) 25) _
          rw [ua_eq]
          intro j hj
          rw [kU_e] at hj
          rw [pk_un (by omega)]
          by_cases z : j = K 10
          · subst z
            rw [apf_0 (by omega) (by decide), pk_us]
            obtain ⟨q, q1, q2⟩ := pk_andE (((x.toUInt64 >>> (((8 : Int32) * nI i).toInt64.toUInt64 &&& Int64.toUInt64 63)).toInt64).toInt32) (m := 255) 8 (by decide)
            exact ⟨rfl, q, by omega, q2⟩
          · rw [apf_o (by omega), pk_un (by omega)]; exact h.ta j (by omega)
      obtain ⟨K', S', T', r1, r2, r3, r4, r5⟩ := ih (i + 1) _ _ _ (by omega) (by omega) (by rw [kU_e]; omega) h2
      refine ⟨K', S', T', r1, CX.tr (CQ.rf.app (as := [25]) (s := 24) (a := 25) (by decide) (by decide) (by decide) (by decide)).1 r2, MX.tr ⟨⟨rfl, rfl, rfl, rfl, rfl⟩, rfl, rfl⟩ r3, fun k => ?_, fun k => ?_⟩
      · rw [l_X11_feed_44, if_pos lt]
        show fb (fApp 24 60 1 S (fB x i)) _ = _
        rw [ap, fb_s, nI_1]; exact r4 k
      · rw [l_X12_feed_39, if_pos lt, k2, jx, fb_s]
        show fl (wA T 55 (K 10 + 1991) (mB x i)) _ = _
        rw [← fB_mB x i (by omega), fl_s, fl_s, e10, nI_1, nI_1]; exact r5 k
    · obtain rfl : i = c := by omega
      refine ⟨K, S, T, h, CX.rf, MX.rf, fun k => ?_, fun k => ?_⟩
      · rw [l_X11_feed_44, if_neg (nI_nlt (Nat.le_refl _) (by omega))]
      · rw [l_X12_feed_39, if_neg (nI_nlt (Nat.le_refl _) (by omega))]
theorem op_feed {za : Int64} {zb : Int32} (h : RelR K S (T.2 55)) : OK2 S T (f_X11_feed S za zb) (f_X12_feed T za zb) := by
  unfold f_X11_feed f_X12_feed
  simp only [fb_id]
  obtain ⟨k1, k2, c10⟩ := h.ct 24 10 60 (by decide)
  rcases out_c zb 1 8 with ⟨b1, b2⟩ | ⟨b1, b2⟩
  · obtain ⟨c, hc, rfl⟩ := out_n 1 8 rfl rfl (by decide) (by decide) b1
    simp only [b1, b2, i10, k1, k2, nI_add, ↓reduceIte]
    by_cases z : 60 < K 10 + c
    · have z' : (60 : Int32) < nI (K 10 + c) := nI_lt (a := 60) z (by omega)
      rw [if_pos z', if_pos z']; exact ok_4 h
    · have z' : ¬ (60 : Int32) < nI (K 10 + c) := nI_nlt (a := 60) (by omega) (by decide)
      rw [if_neg z', if_neg z']
      obtain ⟨K', S', T', r1, r2, r3, r4, r5⟩ := feed_l (x := za) (c := c) hc.2 FU 0 K S T (Nat.zero_le _) (FU_lt (by omega)) (by omega) h
      rw [show ∀ k, l_X11_feed_44 za (nI c) k FU S 0 = k S' (nI c) from r4, show ∀ k, l_X12_feed_39 za (nI c) k FU T 0 = k T' (nI c) from r5]
      obtain ⟨y1, y2, -⟩ := r1.ct 24 10 60 (by decide)
      rw [y1, y2]
      exact ok0 r1 r2 r3
  · simp only [b1, b2, ↓reduceIte]
    rw [if_neg (by decide)]; exact ok_1 h
end FEE
