section
/-! ===== pure: what both sides read and write ===== -/
theorem fb_s {α β : Type} {r : α} {k : α → Option β} : fb (some r) k = k r := Eq.trans rfl rfl
theorem fl_s {β : Type} {x : FS} {k : FS → β} : fl x k = k x := Eq.trans rfl rfl
theorem fv_s {β : Type} {x : Int32} {k : Int32 → β} : fv x k = k x := Eq.trans rfl rfl
theorem fw_s {β : Type} {x : Nat → Int32} {k : (Nat → Int32) → β} : fw x k = k x := Eq.trans rfl rfl
theorem nI_m1 {a : Nat} (h : a < 2 ^ 31) : ¬ nI a = -1 := fun q => nI_pos h (by rw [q]; decide)
theorem nI_inj {a b : Nat} (ha : a < 2 ^ 31) (hb : b < 2 ^ 31) (h : nI a = nI b) : a = b := (nI_eq ha hb).mp h
theorem fG_nI {a R W : Nat} {S : FS} {r c : Nat} (hR : R < 2 ^ 31) (hW : W < 2 ^ 31) (hn : R * W < 2 ^ 31) (hr : r < R) (hc : c < W) : fG a R W S (nI r) (nI c) = S.2 (a + 1) (r * W + c) := pm_tg_in hR hW hn hr hc
theorem fP_nI {a R W : Nat} {S : FS} {r c : Nat} {x : Int32} (hR : R < 2 ^ 31) (hW : W < 2 ^ 31) (hn : R * W < 2 ^ 31) (hr : r < R) (hc : c < W) : fP a R W S (nI r) (nI c) x = wA S (a + 1) (r * W + c) x := by
  unfold fP wA; rw [pm_ts_in hR hW hn hr hc]
theorem fHas_t {a k r : Nat} {S : FS} (h : S.1 a = nI k) (hr : r < k) (hk : k < 2 ^ 31) : fHas a S (nI r) = 1 := by
  unfold fHas
  rw [h, if_neg]
  rintro (q | q)
  · exact nI_pos (by omega) q
  · exact nI_ge hr hk q
theorem fHas_f {a k : Nat} {S : FS} {x : Int32} (h : S.1 a = nI k) (hx : x < 0 ∨ nI k ≤ x) : fHas a S x = 0 := by
  unfold fHas
  rw [h, if_pos hx]
theorem fFull_t {a R k : Nat} {S : FS} (h : S.1 a = nI k) (hk : R ≤ k) (hk2 : k < 2 ^ 31) : fFull a R S = 1 := by
  unfold fFull
  rw [h, if_neg (nI_nlt hk hk2)]
theorem fFull_f {a R k : Nat} {S : FS} (h : S.1 a = nI k) (hk : k < R) (hR : R < 2 ^ 31) : fFull a R S = 0 := by
  unfold fFull
  rw [h, if_pos (nI_lt hk hR)]
theorem fApp_f {a R W k : Nat} {S : FS} {x : Int32} (h : S.1 a = nI k) (hk : k < R) (hR : R < 2 ^ 31) : fApp a R W S x = some (nI k, (ui S.1 a (nI (k + 1)), ua S.2 (a + 1) (pm_apf W k x (S.2 (a + 1))))) := by
  unfold fApp
  rw [h, iN_nI hR (by omega), fb_s, if_neg (by omega)]
theorem qRows_e {a R W k c : Nat} {S : FS} {x : Int32} (h : S.1 a = nI k) (hk : k ≤ R) (hR : R < 2 ^ 31) : qRows a R W S c x = some (nI (pm_cnt (fun r => S.2 (a + 1) (r * W + c) == x) k)) := by
  unfold qRows
  rw [h, iN_nI hR hk]; rfl
theorem qSum_e {a R W k c : Nat} {S : FS} (h : S.1 a = nI k) (hk : k ≤ R) (hR : R < 2 ^ 31) : qSum a R W S c = some (pm_sum (S.2 (a + 1)) W c k) := by
  unfold qSum
  rw [h, iN_nI hR hk]; rfl
theorem wA_1 {S : FS} {a j : Nat} {v : Int32} : (wA S a j v).1 = S.1 := rfl
theorem wI_2 {S : FS} {k : Nat} {v : Int32} : (wI S k v).2 = S.2 := rfl
theorem wA_e {S : FS} {a j : Nat} {v : Int32} : (wA S a j v).2 a = upd (S.2 a) j v := if_pos rfl
theorem wA_n {S : FS} {a b j : Nat} {v : Int32} (h : b ≠ a) : (wA S a j v).2 b = S.2 b := if_neg h
theorem wI_e {S : FS} {k : Nat} {v : Int32} : (wI S k v).1 k = v := if_pos rfl
theorem wI_n {S : FS} {k j : Nat} {v : Int32} (h : j ≠ k) : (wI S k v).1 j = S.1 j := if_neg h
theorem g2_0 {S : FS} {p : Nat} (h : p < 10) : fG 2 10 3 S (nI p) 0 = S.2 3 (3 * p) := by
  refine (fG_nI (c := 0) (by decide) (by decide) (by decide) h (by decide)).trans (congrArg (S.2 3) (by omega))
theorem s2_0 {S : FS} {p : Nat} {x : Int32} (h : p < 10) : fP 2 10 3 S (nI p) 0 x = wA S 3 (3 * p) x := by
  refine (fP_nI (c := 0) (by decide) (by decide) (by decide) h (by decide)).trans (congrArg (fun q => wA S 3 q x) (by omega))
theorem g2_1 {S : FS} {p : Nat} (h : p < 10) : fG 2 10 3 S (nI p) 1 = S.2 3 (3 * p + 1) := by
  refine (fG_nI (c := 1) (by decide) (by decide) (by decide) h (by decide)).trans (congrArg (S.2 3) (by omega))
theorem s2_1 {S : FS} {p : Nat} {x : Int32} (h : p < 10) : fP 2 10 3 S (nI p) 1 x = wA S 3 (3 * p + 1) x := by
  refine (fP_nI (c := 1) (by decide) (by decide) (by decide) h (by decide)).trans (congrArg (fun q => wA S 3 q x) (by omega))
theorem g2_2 {S : FS} {p : Nat} (h : p < 10) : fG 2 10 3 S (nI p) 2 = S.2 3 (3 * p + 2) := by
  refine (fG_nI (c := 2) (by decide) (by decide) (by decide) h (by decide)).trans (congrArg (S.2 3) (by omega))
theorem s2_2 {S : FS} {p : Nat} {x : Int32} (h : p < 10) : fP 2 10 3 S (nI p) 2 x = wA S 3 (3 * p + 2) x := by
  refine (fP_nI (c := 2) (by decide) (by decide) (by decide) h (by decide)).trans (congrArg (fun q => wA S 3 q x) (by omega))
theorem g6_0 {S : FS} {p : Nat} (h : p < 20) : fG 6 20 14 S (nI p) 0 = S.2 7 (14 * p) := by
  refine (fG_nI (c := 0) (by decide) (by decide) (by decide) h (by decide)).trans (congrArg (S.2 7) (by omega))
theorem s6_0 {S : FS} {p : Nat} {x : Int32} (h : p < 20) : fP 6 20 14 S (nI p) 0 x = wA S 7 (14 * p) x := by
  refine (fP_nI (c := 0) (by decide) (by decide) (by decide) h (by decide)).trans (congrArg (fun q => wA S 7 q x) (by omega))
theorem g6_1 {S : FS} {p : Nat} (h : p < 20) : fG 6 20 14 S (nI p) 1 = S.2 7 (14 * p + 1) := by
  refine (fG_nI (c := 1) (by decide) (by decide) (by decide) h (by decide)).trans (congrArg (S.2 7) (by omega))
theorem s6_1 {S : FS} {p : Nat} {x : Int32} (h : p < 20) : fP 6 20 14 S (nI p) 1 x = wA S 7 (14 * p + 1) x := by
  refine (fP_nI (c := 1) (by decide) (by decide) (by decide) h (by decide)).trans (congrArg (fun q => wA S 7 q x) (by omega))
theorem g6_2 {S : FS} {p : Nat} (h : p < 20) : fG 6 20 14 S (nI p) 2 = S.2 7 (14 * p + 2) := by
  refine (fG_nI (c := 2) (by decide) (by decide) (by decide) h (by decide)).trans (congrArg (S.2 7) (by omega))
theorem s6_2 {S : FS} {p : Nat} {x : Int32} (h : p < 20) : fP 6 20 14 S (nI p) 2 x = wA S 7 (14 * p + 2) x := by
  refine (fP_nI (c := 2) (by decide) (by decide) (by decide) h (by decide)).trans (congrArg (fun q => wA S 7 q x) (by omega))
theorem g6_3 {S : FS} {p : Nat} (h : p < 20) : fG 6 20 14 S (nI p) 3 = S.2 7 (14 * p + 3) := by
  refine (fG_nI (c := 3) (by decide) (by decide) (by decide) h (by decide)).trans (congrArg (S.2 7) (by omega))
theorem s6_3 {S : FS} {p : Nat} {x : Int32} (h : p < 20) : fP 6 20 14 S (nI p) 3 x = wA S 7 (14 * p + 3) x := by
  refine (fP_nI (c := 3) (by decide) (by decide) (by decide) h (by decide)).trans (congrArg (fun q => wA S 7 q x) (by omega))
theorem g6_4 {S : FS} {p : Nat} (h : p < 20) : fG 6 20 14 S (nI p) 4 = S.2 7 (14 * p + 4) := by
  refine (fG_nI (c := 4) (by decide) (by decide) (by decide) h (by decide)).trans (congrArg (S.2 7) (by omega))
theorem s6_4 {S : FS} {p : Nat} {x : Int32} (h : p < 20) : fP 6 20 14 S (nI p) 4 x = wA S 7 (14 * p + 4) x := by
  refine (fP_nI (c := 4) (by decide) (by decide) (by decide) h (by decide)).trans (congrArg (fun q => wA S 7 q x) (by omega))
theorem g6_5 {S : FS} {p : Nat} (h : p < 20) : fG 6 20 14 S (nI p) 5 = S.2 7 (14 * p + 5) := by
  refine (fG_nI (c := 5) (by decide) (by decide) (by decide) h (by decide)).trans (congrArg (S.2 7) (by omega))
theorem s6_5 {S : FS} {p : Nat} {x : Int32} (h : p < 20) : fP 6 20 14 S (nI p) 5 x = wA S 7 (14 * p + 5) x := by
  refine (fP_nI (c := 5) (by decide) (by decide) (by decide) h (by decide)).trans (congrArg (fun q => wA S 7 q x) (by omega))
theorem g6_6 {S : FS} {p : Nat} (h : p < 20) : fG 6 20 14 S (nI p) 6 = S.2 7 (14 * p + 6) := by
  refine (fG_nI (c := 6) (by decide) (by decide) (by decide) h (by decide)).trans (congrArg (S.2 7) (by omega))
theorem s6_6 {S : FS} {p : Nat} {x : Int32} (h : p < 20) : fP 6 20 14 S (nI p) 6 x = wA S 7 (14 * p + 6) x := by
  refine (fP_nI (c := 6) (by decide) (by decide) (by decide) h (by decide)).trans (congrArg (fun q => wA S 7 q x) (by omega))
theorem g6_7 {S : FS} {p : Nat} (h : p < 20) : fG 6 20 14 S (nI p) 7 = S.2 7 (14 * p + 7) := by
  refine (fG_nI (c := 7) (by decide) (by decide) (by decide) h (by decide)).trans (congrArg (S.2 7) (by omega))
theorem s6_7 {S : FS} {p : Nat} {x : Int32} (h : p < 20) : fP 6 20 14 S (nI p) 7 x = wA S 7 (14 * p + 7) x := by
  refine (fP_nI (c := 7) (by decide) (by decide) (by decide) h (by decide)).trans (congrArg (fun q => wA S 7 q x) (by omega))
theorem g6_8 {S : FS} {p : Nat} (h : p < 20) : fG 6 20 14 S (nI p) 8 = S.2 7 (14 * p + 8) := by
  refine (fG_nI (c := 8) (by decide) (by decide) (by decide) h (by decide)).trans (congrArg (S.2 7) (by omega))
theorem s6_8 {S : FS} {p : Nat} {x : Int32} (h : p < 20) : fP 6 20 14 S (nI p) 8 x = wA S 7 (14 * p + 8) x := by
  refine (fP_nI (c := 8) (by decide) (by decide) (by decide) h (by decide)).trans (congrArg (fun q => wA S 7 q x) (by omega))
theorem g6_9 {S : FS} {p : Nat} (h : p < 20) : fG 6 20 14 S (nI p) 9 = S.2 7 (14 * p + 9) := by
  refine (fG_nI (c := 9) (by decide) (by decide) (by decide) h (by decide)).trans (congrArg (S.2 7) (by omega))
theorem s6_9 {S : FS} {p : Nat} {x : Int32} (h : p < 20) : fP 6 20 14 S (nI p) 9 x = wA S 7 (14 * p + 9) x := by
  refine (fP_nI (c := 9) (by decide) (by decide) (by decide) h (by decide)).trans (congrArg (fun q => wA S 7 q x) (by omega))
theorem g6_10 {S : FS} {p : Nat} (h : p < 20) : fG 6 20 14 S (nI p) 10 = S.2 7 (14 * p + 10) := by
  refine (fG_nI (c := 10) (by decide) (by decide) (by decide) h (by decide)).trans (congrArg (S.2 7) (by omega))
theorem s6_10 {S : FS} {p : Nat} {x : Int32} (h : p < 20) : fP 6 20 14 S (nI p) 10 x = wA S 7 (14 * p + 10) x := by
  refine (fP_nI (c := 10) (by decide) (by decide) (by decide) h (by decide)).trans (congrArg (fun q => wA S 7 q x) (by omega))
theorem g6_11 {S : FS} {p : Nat} (h : p < 20) : fG 6 20 14 S (nI p) 11 = S.2 7 (14 * p + 11) := by
  refine (fG_nI (c := 11) (by decide) (by decide) (by decide) h (by decide)).trans (congrArg (S.2 7) (by omega))
theorem s6_11 {S : FS} {p : Nat} {x : Int32} (h : p < 20) : fP 6 20 14 S (nI p) 11 x = wA S 7 (14 * p + 11) x := by
  refine (fP_nI (c := 11) (by decide) (by decide) (by decide) h (by decide)).trans (congrArg (fun q => wA S 7 q x) (by omega))
theorem g6_12 {S : FS} {p : Nat} (h : p < 20) : fG 6 20 14 S (nI p) 12 = S.2 7 (14 * p + 12) := by
  refine (fG_nI (c := 12) (by decide) (by decide) (by decide) h (by decide)).trans (congrArg (S.2 7) (by omega))
theorem s6_12 {S : FS} {p : Nat} {x : Int32} (h : p < 20) : fP 6 20 14 S (nI p) 12 x = wA S 7 (14 * p + 12) x := by
  refine (fP_nI (c := 12) (by decide) (by decide) (by decide) h (by decide)).trans (congrArg (fun q => wA S 7 q x) (by omega))
theorem g6_13 {S : FS} {p : Nat} (h : p < 20) : fG 6 20 14 S (nI p) 13 = S.2 7 (14 * p + 13) := by
  refine (fG_nI (c := 13) (by decide) (by decide) (by decide) h (by decide)).trans (congrArg (S.2 7) (by omega))
theorem s6_13 {S : FS} {p : Nat} {x : Int32} (h : p < 20) : fP 6 20 14 S (nI p) 13 x = wA S 7 (14 * p + 13) x := by
  refine (fP_nI (c := 13) (by decide) (by decide) (by decide) h (by decide)).trans (congrArg (fun q => wA S 7 q x) (by omega))
theorem g8_0 {S : FS} {p : Nat} (h : p < 20) : fG 8 20 6 S (nI p) 0 = S.2 9 (6 * p) := by
  refine (fG_nI (c := 0) (by decide) (by decide) (by decide) h (by decide)).trans (congrArg (S.2 9) (by omega))
theorem s8_0 {S : FS} {p : Nat} {x : Int32} (h : p < 20) : fP 8 20 6 S (nI p) 0 x = wA S 9 (6 * p) x := by
  refine (fP_nI (c := 0) (by decide) (by decide) (by decide) h (by decide)).trans (congrArg (fun q => wA S 9 q x) (by omega))
theorem g8_1 {S : FS} {p : Nat} (h : p < 20) : fG 8 20 6 S (nI p) 1 = S.2 9 (6 * p + 1) := by
  refine (fG_nI (c := 1) (by decide) (by decide) (by decide) h (by decide)).trans (congrArg (S.2 9) (by omega))
theorem s8_1 {S : FS} {p : Nat} {x : Int32} (h : p < 20) : fP 8 20 6 S (nI p) 1 x = wA S 9 (6 * p + 1) x := by
  refine (fP_nI (c := 1) (by decide) (by decide) (by decide) h (by decide)).trans (congrArg (fun q => wA S 9 q x) (by omega))
theorem g8_2 {S : FS} {p : Nat} (h : p < 20) : fG 8 20 6 S (nI p) 2 = S.2 9 (6 * p + 2) := by
  refine (fG_nI (c := 2) (by decide) (by decide) (by decide) h (by decide)).trans (congrArg (S.2 9) (by omega))
theorem s8_2 {S : FS} {p : Nat} {x : Int32} (h : p < 20) : fP 8 20 6 S (nI p) 2 x = wA S 9 (6 * p + 2) x := by
  refine (fP_nI (c := 2) (by decide) (by decide) (by decide) h (by decide)).trans (congrArg (fun q => wA S 9 q x) (by omega))
theorem g8_3 {S : FS} {p : Nat} (h : p < 20) : fG 8 20 6 S (nI p) 3 = S.2 9 (6 * p + 3) := by
  refine (fG_nI (c := 3) (by decide) (by decide) (by decide) h (by decide)).trans (congrArg (S.2 9) (by omega))
theorem s8_3 {S : FS} {p : Nat} {x : Int32} (h : p < 20) : fP 8 20 6 S (nI p) 3 x = wA S 9 (6 * p + 3) x := by
  refine (fP_nI (c := 3) (by decide) (by decide) (by decide) h (by decide)).trans (congrArg (fun q => wA S 9 q x) (by omega))
theorem g8_4 {S : FS} {p : Nat} (h : p < 20) : fG 8 20 6 S (nI p) 4 = S.2 9 (6 * p + 4) := by
  refine (fG_nI (c := 4) (by decide) (by decide) (by decide) h (by decide)).trans (congrArg (S.2 9) (by omega))
theorem s8_4 {S : FS} {p : Nat} {x : Int32} (h : p < 20) : fP 8 20 6 S (nI p) 4 x = wA S 9 (6 * p + 4) x := by
  refine (fP_nI (c := 4) (by decide) (by decide) (by decide) h (by decide)).trans (congrArg (fun q => wA S 9 q x) (by omega))
theorem g8_5 {S : FS} {p : Nat} (h : p < 20) : fG 8 20 6 S (nI p) 5 = S.2 9 (6 * p + 5) := by
  refine (fG_nI (c := 5) (by decide) (by decide) (by decide) h (by decide)).trans (congrArg (S.2 9) (by omega))
theorem s8_5 {S : FS} {p : Nat} {x : Int32} (h : p < 20) : fP 8 20 6 S (nI p) 5 x = wA S 9 (6 * p + 5) x := by
  refine (fP_nI (c := 5) (by decide) (by decide) (by decide) h (by decide)).trans (congrArg (fun q => wA S 9 q x) (by omega))
theorem g10_0 {S : FS} {p : Nat} (h : p < 12) : fG 10 12 6 S (nI p) 0 = S.2 11 (6 * p) := by
  refine (fG_nI (c := 0) (by decide) (by decide) (by decide) h (by decide)).trans (congrArg (S.2 11) (by omega))
theorem s10_0 {S : FS} {p : Nat} {x : Int32} (h : p < 12) : fP 10 12 6 S (nI p) 0 x = wA S 11 (6 * p) x := by
  refine (fP_nI (c := 0) (by decide) (by decide) (by decide) h (by decide)).trans (congrArg (fun q => wA S 11 q x) (by omega))
theorem g10_1 {S : FS} {p : Nat} (h : p < 12) : fG 10 12 6 S (nI p) 1 = S.2 11 (6 * p + 1) := by
  refine (fG_nI (c := 1) (by decide) (by decide) (by decide) h (by decide)).trans (congrArg (S.2 11) (by omega))
theorem s10_1 {S : FS} {p : Nat} {x : Int32} (h : p < 12) : fP 10 12 6 S (nI p) 1 x = wA S 11 (6 * p + 1) x := by
  refine (fP_nI (c := 1) (by decide) (by decide) (by decide) h (by decide)).trans (congrArg (fun q => wA S 11 q x) (by omega))
theorem g10_2 {S : FS} {p : Nat} (h : p < 12) : fG 10 12 6 S (nI p) 2 = S.2 11 (6 * p + 2) := by
  refine (fG_nI (c := 2) (by decide) (by decide) (by decide) h (by decide)).trans (congrArg (S.2 11) (by omega))
theorem s10_2 {S : FS} {p : Nat} {x : Int32} (h : p < 12) : fP 10 12 6 S (nI p) 2 x = wA S 11 (6 * p + 2) x := by
  refine (fP_nI (c := 2) (by decide) (by decide) (by decide) h (by decide)).trans (congrArg (fun q => wA S 11 q x) (by omega))
theorem g10_3 {S : FS} {p : Nat} (h : p < 12) : fG 10 12 6 S (nI p) 3 = S.2 11 (6 * p + 3) := by
  refine (fG_nI (c := 3) (by decide) (by decide) (by decide) h (by decide)).trans (congrArg (S.2 11) (by omega))
theorem s10_3 {S : FS} {p : Nat} {x : Int32} (h : p < 12) : fP 10 12 6 S (nI p) 3 x = wA S 11 (6 * p + 3) x := by
  refine (fP_nI (c := 3) (by decide) (by decide) (by decide) h (by decide)).trans (congrArg (fun q => wA S 11 q x) (by omega))
theorem g10_4 {S : FS} {p : Nat} (h : p < 12) : fG 10 12 6 S (nI p) 4 = S.2 11 (6 * p + 4) := by
  refine (fG_nI (c := 4) (by decide) (by decide) (by decide) h (by decide)).trans (congrArg (S.2 11) (by omega))
theorem s10_4 {S : FS} {p : Nat} {x : Int32} (h : p < 12) : fP 10 12 6 S (nI p) 4 x = wA S 11 (6 * p + 4) x := by
  refine (fP_nI (c := 4) (by decide) (by decide) (by decide) h (by decide)).trans (congrArg (fun q => wA S 11 q x) (by omega))
theorem g10_5 {S : FS} {p : Nat} (h : p < 12) : fG 10 12 6 S (nI p) 5 = S.2 11 (6 * p + 5) := by
  refine (fG_nI (c := 5) (by decide) (by decide) (by decide) h (by decide)).trans (congrArg (S.2 11) (by omega))
theorem s10_5 {S : FS} {p : Nat} {x : Int32} (h : p < 12) : fP 10 12 6 S (nI p) 5 x = wA S 11 (6 * p + 5) x := by
  refine (fP_nI (c := 5) (by decide) (by decide) (by decide) h (by decide)).trans (congrArg (fun q => wA S 11 q x) (by omega))
theorem g14_0 {S : FS} {p : Nat} (h : p < 40) : fG 14 40 12 S (nI p) 0 = S.2 15 (12 * p) := by
  refine (fG_nI (c := 0) (by decide) (by decide) (by decide) h (by decide)).trans (congrArg (S.2 15) (by omega))
theorem s14_0 {S : FS} {p : Nat} {x : Int32} (h : p < 40) : fP 14 40 12 S (nI p) 0 x = wA S 15 (12 * p) x := by
  refine (fP_nI (c := 0) (by decide) (by decide) (by decide) h (by decide)).trans (congrArg (fun q => wA S 15 q x) (by omega))
theorem g14_1 {S : FS} {p : Nat} (h : p < 40) : fG 14 40 12 S (nI p) 1 = S.2 15 (12 * p + 1) := by
  refine (fG_nI (c := 1) (by decide) (by decide) (by decide) h (by decide)).trans (congrArg (S.2 15) (by omega))
theorem s14_1 {S : FS} {p : Nat} {x : Int32} (h : p < 40) : fP 14 40 12 S (nI p) 1 x = wA S 15 (12 * p + 1) x := by
  refine (fP_nI (c := 1) (by decide) (by decide) (by decide) h (by decide)).trans (congrArg (fun q => wA S 15 q x) (by omega))
theorem g14_2 {S : FS} {p : Nat} (h : p < 40) : fG 14 40 12 S (nI p) 2 = S.2 15 (12 * p + 2) := by
  refine (fG_nI (c := 2) (by decide) (by decide) (by decide) h (by decide)).trans (congrArg (S.2 15) (by omega))
theorem s14_2 {S : FS} {p : Nat} {x : Int32} (h : p < 40) : fP 14 40 12 S (nI p) 2 x = wA S 15 (12 * p + 2) x := by
  refine (fP_nI (c := 2) (by decide) (by decide) (by decide) h (by decide)).trans (congrArg (fun q => wA S 15 q x) (by omega))
theorem g14_3 {S : FS} {p : Nat} (h : p < 40) : fG 14 40 12 S (nI p) 3 = S.2 15 (12 * p + 3) := by
  refine (fG_nI (c := 3) (by decide) (by decide) (by decide) h (by decide)).trans (congrArg (S.2 15) (by omega))
theorem s14_3 {S : FS} {p : Nat} {x : Int32} (h : p < 40) : fP 14 40 12 S (nI p) 3 x = wA S 15 (12 * p + 3) x := by
  refine (fP_nI (c := 3) (by decide) (by decide) (by decide) h (by decide)).trans (congrArg (fun q => wA S 15 q x) (by omega))
theorem g14_4 {S : FS} {p : Nat} (h : p < 40) : fG 14 40 12 S (nI p) 4 = S.2 15 (12 * p + 4) := by
  refine (fG_nI (c := 4) (by decide) (by decide) (by decide) h (by decide)).trans (congrArg (S.2 15) (by omega))
theorem s14_4 {S : FS} {p : Nat} {x : Int32} (h : p < 40) : fP 14 40 12 S (nI p) 4 x = wA S 15 (12 * p + 4) x := by
  refine (fP_nI (c := 4) (by decide) (by decide) (by decide) h (by decide)).trans (congrArg (fun q => wA S 15 q x) (by omega))
theorem g14_5 {S : FS} {p : Nat} (h : p < 40) : fG 14 40 12 S (nI p) 5 = S.2 15 (12 * p + 5) := by
  refine (fG_nI (c := 5) (by decide) (by decide) (by decide) h (by decide)).trans (congrArg (S.2 15) (by omega))
theorem s14_5 {S : FS} {p : Nat} {x : Int32} (h : p < 40) : fP 14 40 12 S (nI p) 5 x = wA S 15 (12 * p + 5) x := by
  refine (fP_nI (c := 5) (by decide) (by decide) (by decide) h (by decide)).trans (congrArg (fun q => wA S 15 q x) (by omega))
theorem g14_6 {S : FS} {p : Nat} (h : p < 40) : fG 14 40 12 S (nI p) 6 = S.2 15 (12 * p + 6) := by
  refine (fG_nI (c := 6) (by decide) (by decide) (by decide) h (by decide)).trans (congrArg (S.2 15) (by omega))
theorem s14_6 {S : FS} {p : Nat} {x : Int32} (h : p < 40) : fP 14 40 12 S (nI p) 6 x = wA S 15 (12 * p + 6) x := by
  refine (fP_nI (c := 6) (by decide) (by decide) (by decide) h (by decide)).trans (congrArg (fun q => wA S 15 q x) (by omega))
theorem g14_7 {S : FS} {p : Nat} (h : p < 40) : fG 14 40 12 S (nI p) 7 = S.2 15 (12 * p + 7) := by
  refine (fG_nI (c := 7) (by decide) (by decide) (by decide) h (by decide)).trans (congrArg (S.2 15) (by omega))
theorem s14_7 {S : FS} {p : Nat} {x : Int32} (h : p < 40) : fP 14 40 12 S (nI p) 7 x = wA S 15 (12 * p + 7) x := by
  refine (fP_nI (c := 7) (by decide) (by decide) (by decide) h (by decide)).trans (congrArg (fun q => wA S 15 q x) (by omega))
theorem g14_8 {S : FS} {p : Nat} (h : p < 40) : fG 14 40 12 S (nI p) 8 = S.2 15 (12 * p + 8) := by
  refine (fG_nI (c := 8) (by decide) (by decide) (by decide) h (by decide)).trans (congrArg (S.2 15) (by omega))
theorem s14_8 {S : FS} {p : Nat} {x : Int32} (h : p < 40) : fP 14 40 12 S (nI p) 8 x = wA S 15 (12 * p + 8) x := by
  refine (fP_nI (c := 8) (by decide) (by decide) (by decide) h (by decide)).trans (congrArg (fun q => wA S 15 q x) (by omega))
theorem g14_9 {S : FS} {p : Nat} (h : p < 40) : fG 14 40 12 S (nI p) 9 = S.2 15 (12 * p + 9) := by
  refine (fG_nI (c := 9) (by decide) (by decide) (by decide) h (by decide)).trans (congrArg (S.2 15) (by omega))
theorem s14_9 {S : FS} {p : Nat} {x : Int32} (h : p < 40) : fP 14 40 12 S (nI p) 9 x = wA S 15 (12 * p + 9) x := by
  refine (fP_nI (c := 9) (by decide) (by decide) (by decide) h (by decide)).trans (congrArg (fun q => wA S 15 q x) (by omega))
theorem g14_10 {S : FS} {p : Nat} (h : p < 40) : fG 14 40 12 S (nI p) 10 = S.2 15 (12 * p + 10) := by
  refine (fG_nI (c := 10) (by decide) (by decide) (by decide) h (by decide)).trans (congrArg (S.2 15) (by omega))
theorem s14_10 {S : FS} {p : Nat} {x : Int32} (h : p < 40) : fP 14 40 12 S (nI p) 10 x = wA S 15 (12 * p + 10) x := by
  refine (fP_nI (c := 10) (by decide) (by decide) (by decide) h (by decide)).trans (congrArg (fun q => wA S 15 q x) (by omega))
theorem g14_11 {S : FS} {p : Nat} (h : p < 40) : fG 14 40 12 S (nI p) 11 = S.2 15 (12 * p + 11) := by
  refine (fG_nI (c := 11) (by decide) (by decide) (by decide) h (by decide)).trans (congrArg (S.2 15) (by omega))
theorem s14_11 {S : FS} {p : Nat} {x : Int32} (h : p < 40) : fP 14 40 12 S (nI p) 11 x = wA S 15 (12 * p + 11) x := by
  refine (fP_nI (c := 11) (by decide) (by decide) (by decide) h (by decide)).trans (congrArg (fun q => wA S 15 q x) (by omega))
theorem g16_0 {S : FS} {p : Nat} (h : p < 6) : fG 16 6 5 S (nI p) 0 = S.2 17 (5 * p) := by
  refine (fG_nI (c := 0) (by decide) (by decide) (by decide) h (by decide)).trans (congrArg (S.2 17) (by omega))
theorem s16_0 {S : FS} {p : Nat} {x : Int32} (h : p < 6) : fP 16 6 5 S (nI p) 0 x = wA S 17 (5 * p) x := by
  refine (fP_nI (c := 0) (by decide) (by decide) (by decide) h (by decide)).trans (congrArg (fun q => wA S 17 q x) (by omega))
theorem g16_1 {S : FS} {p : Nat} (h : p < 6) : fG 16 6 5 S (nI p) 1 = S.2 17 (5 * p + 1) := by
  refine (fG_nI (c := 1) (by decide) (by decide) (by decide) h (by decide)).trans (congrArg (S.2 17) (by omega))
theorem s16_1 {S : FS} {p : Nat} {x : Int32} (h : p < 6) : fP 16 6 5 S (nI p) 1 x = wA S 17 (5 * p + 1) x := by
  refine (fP_nI (c := 1) (by decide) (by decide) (by decide) h (by decide)).trans (congrArg (fun q => wA S 17 q x) (by omega))
theorem g16_2 {S : FS} {p : Nat} (h : p < 6) : fG 16 6 5 S (nI p) 2 = S.2 17 (5 * p + 2) := by
  refine (fG_nI (c := 2) (by decide) (by decide) (by decide) h (by decide)).trans (congrArg (S.2 17) (by omega))
theorem s16_2 {S : FS} {p : Nat} {x : Int32} (h : p < 6) : fP 16 6 5 S (nI p) 2 x = wA S 17 (5 * p + 2) x := by
  refine (fP_nI (c := 2) (by decide) (by decide) (by decide) h (by decide)).trans (congrArg (fun q => wA S 17 q x) (by omega))
theorem g16_3 {S : FS} {p : Nat} (h : p < 6) : fG 16 6 5 S (nI p) 3 = S.2 17 (5 * p + 3) := by
  refine (fG_nI (c := 3) (by decide) (by decide) (by decide) h (by decide)).trans (congrArg (S.2 17) (by omega))
theorem s16_3 {S : FS} {p : Nat} {x : Int32} (h : p < 6) : fP 16 6 5 S (nI p) 3 x = wA S 17 (5 * p + 3) x := by
  refine (fP_nI (c := 3) (by decide) (by decide) (by decide) h (by decide)).trans (congrArg (fun q => wA S 17 q x) (by omega))
theorem g16_4 {S : FS} {p : Nat} (h : p < 6) : fG 16 6 5 S (nI p) 4 = S.2 17 (5 * p + 4) := by
  refine (fG_nI (c := 4) (by decide) (by decide) (by decide) h (by decide)).trans (congrArg (S.2 17) (by omega))
theorem s16_4 {S : FS} {p : Nat} {x : Int32} (h : p < 6) : fP 16 6 5 S (nI p) 4 x = wA S 17 (5 * p + 4) x := by
  refine (fP_nI (c := 4) (by decide) (by decide) (by decide) h (by decide)).trans (congrArg (fun q => wA S 17 q x) (by omega))
theorem g18_0 {S : FS} {p : Nat} (h : p < 30) : fG 18 30 5 S (nI p) 0 = S.2 19 (5 * p) := by
  refine (fG_nI (c := 0) (by decide) (by decide) (by decide) h (by decide)).trans (congrArg (S.2 19) (by omega))
theorem s18_0 {S : FS} {p : Nat} {x : Int32} (h : p < 30) : fP 18 30 5 S (nI p) 0 x = wA S 19 (5 * p) x := by
  refine (fP_nI (c := 0) (by decide) (by decide) (by decide) h (by decide)).trans (congrArg (fun q => wA S 19 q x) (by omega))
theorem g18_1 {S : FS} {p : Nat} (h : p < 30) : fG 18 30 5 S (nI p) 1 = S.2 19 (5 * p + 1) := by
  refine (fG_nI (c := 1) (by decide) (by decide) (by decide) h (by decide)).trans (congrArg (S.2 19) (by omega))
theorem s18_1 {S : FS} {p : Nat} {x : Int32} (h : p < 30) : fP 18 30 5 S (nI p) 1 x = wA S 19 (5 * p + 1) x := by
  refine (fP_nI (c := 1) (by decide) (by decide) (by decide) h (by decide)).trans (congrArg (fun q => wA S 19 q x) (by omega))
theorem g18_2 {S : FS} {p : Nat} (h : p < 30) : fG 18 30 5 S (nI p) 2 = S.2 19 (5 * p + 2) := by
  refine (fG_nI (c := 2) (by decide) (by decide) (by decide) h (by decide)).trans (congrArg (S.2 19) (by omega))
theorem s18_2 {S : FS} {p : Nat} {x : Int32} (h : p < 30) : fP 18 30 5 S (nI p) 2 x = wA S 19 (5 * p + 2) x := by
  refine (fP_nI (c := 2) (by decide) (by decide) (by decide) h (by decide)).trans (congrArg (fun q => wA S 19 q x) (by omega))
theorem g18_3 {S : FS} {p : Nat} (h : p < 30) : fG 18 30 5 S (nI p) 3 = S.2 19 (5 * p + 3) := by
  refine (fG_nI (c := 3) (by decide) (by decide) (by decide) h (by decide)).trans (congrArg (S.2 19) (by omega))
theorem s18_3 {S : FS} {p : Nat} {x : Int32} (h : p < 30) : fP 18 30 5 S (nI p) 3 x = wA S 19 (5 * p + 3) x := by
  refine (fP_nI (c := 3) (by decide) (by decide) (by decide) h (by decide)).trans (congrArg (fun q => wA S 19 q x) (by omega))
theorem g18_4 {S : FS} {p : Nat} (h : p < 30) : fG 18 30 5 S (nI p) 4 = S.2 19 (5 * p + 4) := by
  refine (fG_nI (c := 4) (by decide) (by decide) (by decide) h (by decide)).trans (congrArg (S.2 19) (by omega))
theorem s18_4 {S : FS} {p : Nat} {x : Int32} (h : p < 30) : fP 18 30 5 S (nI p) 4 x = wA S 19 (5 * p + 4) x := by
  refine (fP_nI (c := 4) (by decide) (by decide) (by decide) h (by decide)).trans (congrArg (fun q => wA S 19 q x) (by omega))
theorem g20_0 {S : FS} {p : Nat} (h : p < 5) : fG 20 5 1 S (nI p) 0 = S.2 21 (p) := by
  refine (fG_nI (c := 0) (by decide) (by decide) (by decide) h (by decide)).trans (congrArg (S.2 21) (by omega))
theorem s20_0 {S : FS} {p : Nat} {x : Int32} (h : p < 5) : fP 20 5 1 S (nI p) 0 x = wA S 21 (p) x := by
  refine (fP_nI (c := 0) (by decide) (by decide) (by decide) h (by decide)).trans (congrArg (fun q => wA S 21 q x) (by omega))
theorem g22_0 {S : FS} {p : Nat} (h : p < 20) : fG 22 20 1 S (nI p) 0 = S.2 23 (p) := by
  refine (fG_nI (c := 0) (by decide) (by decide) (by decide) h (by decide)).trans (congrArg (S.2 23) (by omega))
theorem s22_0 {S : FS} {p : Nat} {x : Int32} (h : p < 20) : fP 22 20 1 S (nI p) 0 x = wA S 23 (p) x := by
  refine (fP_nI (c := 0) (by decide) (by decide) (by decide) h (by decide)).trans (congrArg (fun q => wA S 23 q x) (by omega))
theorem g24_0 {S : FS} {p : Nat} (h : p < 60) : fG 24 60 1 S (nI p) 0 = S.2 25 (p) := by
  refine (fG_nI (c := 0) (by decide) (by decide) (by decide) h (by decide)).trans (congrArg (S.2 25) (by omega))
theorem s24_0 {S : FS} {p : Nat} {x : Int32} (h : p < 60) : fP 24 60 1 S (nI p) 0 x = wA S 25 (p) x := by
  refine (fP_nI (c := 0) (by decide) (by decide) (by decide) h (by decide)).trans (congrArg (fun q => wA S 25 q x) (by omega))
theorem g28_0 {S : FS} {p : Nat} (h : p < 60) : fG 28 60 1 S (nI p) 0 = S.2 29 (p) := by
  refine (fG_nI (c := 0) (by decide) (by decide) (by decide) h (by decide)).trans (congrArg (S.2 29) (by omega))
theorem s28_0 {S : FS} {p : Nat} {x : Int32} (h : p < 60) : fP 28 60 1 S (nI p) 0 x = wA S 29 (p) x := by
  refine (fP_nI (c := 0) (by decide) (by decide) (by decide) h (by decide)).trans (congrArg (fun q => wA S 29 q x) (by omega))
theorem g32_0 {S : FS} {p : Nat} (h : p < 20) : fG 32 20 1 S (nI p) 0 = S.2 33 (p) := by
  refine (fG_nI (c := 0) (by decide) (by decide) (by decide) h (by decide)).trans (congrArg (S.2 33) (by omega))
theorem s32_0 {S : FS} {p : Nat} {x : Int32} (h : p < 20) : fP 32 20 1 S (nI p) 0 x = wA S 33 (p) x := by
  refine (fP_nI (c := 0) (by decide) (by decide) (by decide) h (by decide)).trans (congrArg (fun q => wA S 33 q x) (by omega))
theorem g34_0 {S : FS} {p : Nat} (h : p < 9) : fG 34 9 1 S (nI p) 0 = S.2 35 (p) := by
  refine (fG_nI (c := 0) (by decide) (by decide) (by decide) h (by decide)).trans (congrArg (S.2 35) (by omega))
theorem s34_0 {S : FS} {p : Nat} {x : Int32} (h : p < 9) : fP 34 9 1 S (nI p) 0 x = wA S 35 (p) x := by
  refine (fP_nI (c := 0) (by decide) (by decide) (by decide) h (by decide)).trans (congrArg (fun q => wA S 35 q x) (by omega))
theorem g38_0 {S : FS} {p : Nat} (h : p < 20) : fG 38 20 1 S (nI p) 0 = S.2 39 (p) := by
  refine (fG_nI (c := 0) (by decide) (by decide) (by decide) h (by decide)).trans (congrArg (S.2 39) (by omega))
theorem s38_0 {S : FS} {p : Nat} {x : Int32} (h : p < 20) : fP 38 20 1 S (nI p) 0 x = wA S 39 (p) x := by
  refine (fP_nI (c := 0) (by decide) (by decide) (by decide) h (by decide)).trans (congrArg (fun q => wA S 39 q x) (by omega))
theorem g4 {S : FS} {p c : Nat} (h : p < 10) (hc : c < 10) : fG 4 10 10 S (nI p) (nI c) = S.2 5 (10 * p + c) := (fG_nI (by decide) (by decide) (by decide) h hc).trans (congrArg (S.2 5) (by omega))
theorem s4 {S : FS} {p c : Nat} {x : Int32} (h : p < 10) (hc : c < 10) : fP 4 10 10 S (nI p) (nI c) x = wA S 5 (10 * p + c) x := (fP_nI (by decide) (by decide) (by decide) h hc).trans (congrArg (fun q => wA S 5 q x) (by omega))
theorem g12 {S : FS} {p c : Nat} (h : p < 12) (hc : c < 60) : fG 12 12 60 S (nI p) (nI c) = S.2 13 (60 * p + c) := (fG_nI (by decide) (by decide) (by decide) h hc).trans (congrArg (S.2 13) (by omega))
theorem s12 {S : FS} {p c : Nat} {x : Int32} (h : p < 12) (hc : c < 60) : fP 12 12 60 S (nI p) (nI c) x = wA S 13 (60 * p + c) x := (fP_nI (by decide) (by decide) (by decide) h hc).trans (congrArg (fun q => wA S 13 q x) (by omega))
theorem g51 {S : FS} {p c : Nat} (h : p < 4) (hc : c < 24) : fG 51 4 24 S (nI p) (nI c) = S.2 52 (24 * p + c) := (fG_nI (by decide) (by decide) (by decide) h hc).trans (congrArg (S.2 52) (by omega))
theorem s51 {S : FS} {p c : Nat} {x : Int32} (h : p < 4) (hc : c < 24) : fP 51 4 24 S (nI p) (nI c) x = wA S 52 (24 * p + c) x := (fP_nI (by decide) (by decide) (by decide) h hc).trans (congrArg (fun q => wA S 52 q x) (by omega))
end
section
/-! ===== pure: the model's accessors ===== -/
theorem ix_lin {N b s p c e : Nat} (he : s * p + (b + c) = e) (h : e < N) (hN : N ≤ 2 ^ 31) : ix N ((nI b + nI s * nI p) + nI c) = some e := by
  rw [pk_mul, nI_add, nI_add, ← he]
  rw [show b + s * p + c = s * p + (b + c) by omega]
  exact ix_nI (by omega) hN
theorem ix_lin0 {N b s p e : Nat} (he : s * p + b = e) (h : e < N) (hN : N ≤ 2 ^ 31) : ix N (nI b + nI s * nI p) = some e := by
  rw [pk_mul, nI_add, ← he, show b + s * p = s * p + b by omega]
  exact ix_nI (by omega) hN
theorem man_0 {T : FS} {p : Nat} (h : p < 20) : q_X12_man T (nI p) 0 = some (T.2 55 (14 * p + 110)) := by
  unfold q_X12_man
  rw [show ix 2071 (((110 : Int32) + (14 : Int32) * nI p) + (0 : Int32)) = some (14 * p + 110) from ix_lin (b := 110) (s := 14) (c := 0) (by omega) (by omega) (by decide)]; rfl
theorem sets_0 {T : FS} {p : Nat} {x : Int32} (h : p < 20) : f_X12_sets T (nI p) 0 x = some (0, wA T 55 (14 * p + 110) x) := by
  unfold f_X12_sets
  rw [show ix 2071 (((110 : Int32) + (14 : Int32) * nI p) + (0 : Int32)) = some (14 * p + 110) from ix_lin (b := 110) (s := 14) (c := 0) (by omega) (by omega) (by decide)]; rfl
theorem man_1 {T : FS} {p : Nat} (h : p < 20) : q_X12_man T (nI p) 1 = some (T.2 55 (14 * p + 111)) := by
  unfold q_X12_man
  rw [show ix 2071 (((110 : Int32) + (14 : Int32) * nI p) + (1 : Int32)) = some (14 * p + 111) from ix_lin (b := 110) (s := 14) (c := 1) (by omega) (by omega) (by decide)]; rfl
theorem sets_1 {T : FS} {p : Nat} {x : Int32} (h : p < 20) : f_X12_sets T (nI p) 1 x = some (0, wA T 55 (14 * p + 111) x) := by
  unfold f_X12_sets
  rw [show ix 2071 (((110 : Int32) + (14 : Int32) * nI p) + (1 : Int32)) = some (14 * p + 111) from ix_lin (b := 110) (s := 14) (c := 1) (by omega) (by omega) (by decide)]; rfl
theorem man_2 {T : FS} {p : Nat} (h : p < 20) : q_X12_man T (nI p) 2 = some (T.2 55 (14 * p + 112)) := by
  unfold q_X12_man
  rw [show ix 2071 (((110 : Int32) + (14 : Int32) * nI p) + (2 : Int32)) = some (14 * p + 112) from ix_lin (b := 110) (s := 14) (c := 2) (by omega) (by omega) (by decide)]; rfl
theorem sets_2 {T : FS} {p : Nat} {x : Int32} (h : p < 20) : f_X12_sets T (nI p) 2 x = some (0, wA T 55 (14 * p + 112) x) := by
  unfold f_X12_sets
  rw [show ix 2071 (((110 : Int32) + (14 : Int32) * nI p) + (2 : Int32)) = some (14 * p + 112) from ix_lin (b := 110) (s := 14) (c := 2) (by omega) (by omega) (by decide)]; rfl
theorem man_3 {T : FS} {p : Nat} (h : p < 20) : q_X12_man T (nI p) 3 = some (T.2 55 (14 * p + 113)) := by
  unfold q_X12_man
  rw [show ix 2071 (((110 : Int32) + (14 : Int32) * nI p) + (3 : Int32)) = some (14 * p + 113) from ix_lin (b := 110) (s := 14) (c := 3) (by omega) (by omega) (by decide)]; rfl
theorem sets_3 {T : FS} {p : Nat} {x : Int32} (h : p < 20) : f_X12_sets T (nI p) 3 x = some (0, wA T 55 (14 * p + 113) x) := by
  unfold f_X12_sets
  rw [show ix 2071 (((110 : Int32) + (14 : Int32) * nI p) + (3 : Int32)) = some (14 * p + 113) from ix_lin (b := 110) (s := 14) (c := 3) (by omega) (by omega) (by decide)]; rfl
theorem man_4 {T : FS} {p : Nat} (h : p < 20) : q_X12_man T (nI p) 4 = some (T.2 55 (14 * p + 114)) := by
  unfold q_X12_man
  rw [show ix 2071 (((110 : Int32) + (14 : Int32) * nI p) + (4 : Int32)) = some (14 * p + 114) from ix_lin (b := 110) (s := 14) (c := 4) (by omega) (by omega) (by decide)]; rfl
theorem sets_4 {T : FS} {p : Nat} {x : Int32} (h : p < 20) : f_X12_sets T (nI p) 4 x = some (0, wA T 55 (14 * p + 114) x) := by
  unfold f_X12_sets
  rw [show ix 2071 (((110 : Int32) + (14 : Int32) * nI p) + (4 : Int32)) = some (14 * p + 114) from ix_lin (b := 110) (s := 14) (c := 4) (by omega) (by omega) (by decide)]; rfl
theorem man_5 {T : FS} {p : Nat} (h : p < 20) : q_X12_man T (nI p) 5 = some (T.2 55 (14 * p + 115)) := by
  unfold q_X12_man
  rw [show ix 2071 (((110 : Int32) + (14 : Int32) * nI p) + (5 : Int32)) = some (14 * p + 115) from ix_lin (b := 110) (s := 14) (c := 5) (by omega) (by omega) (by decide)]; rfl
theorem sets_5 {T : FS} {p : Nat} {x : Int32} (h : p < 20) : f_X12_sets T (nI p) 5 x = some (0, wA T 55 (14 * p + 115) x) := by
  unfold f_X12_sets
  rw [show ix 2071 (((110 : Int32) + (14 : Int32) * nI p) + (5 : Int32)) = some (14 * p + 115) from ix_lin (b := 110) (s := 14) (c := 5) (by omega) (by omega) (by decide)]; rfl
theorem man_6 {T : FS} {p : Nat} (h : p < 20) : q_X12_man T (nI p) 6 = some (T.2 55 (14 * p + 116)) := by
  unfold q_X12_man
  rw [show ix 2071 (((110 : Int32) + (14 : Int32) * nI p) + (6 : Int32)) = some (14 * p + 116) from ix_lin (b := 110) (s := 14) (c := 6) (by omega) (by omega) (by decide)]; rfl
theorem sets_6 {T : FS} {p : Nat} {x : Int32} (h : p < 20) : f_X12_sets T (nI p) 6 x = some (0, wA T 55 (14 * p + 116) x) := by
  unfold f_X12_sets
  rw [show ix 2071 (((110 : Int32) + (14 : Int32) * nI p) + (6 : Int32)) = some (14 * p + 116) from ix_lin (b := 110) (s := 14) (c := 6) (by omega) (by omega) (by decide)]; rfl
theorem man_7 {T : FS} {p : Nat} (h : p < 20) : q_X12_man T (nI p) 7 = some (T.2 55 (14 * p + 117)) := by
  unfold q_X12_man
  rw [show ix 2071 (((110 : Int32) + (14 : Int32) * nI p) + (7 : Int32)) = some (14 * p + 117) from ix_lin (b := 110) (s := 14) (c := 7) (by omega) (by omega) (by decide)]; rfl
theorem sets_7 {T : FS} {p : Nat} {x : Int32} (h : p < 20) : f_X12_sets T (nI p) 7 x = some (0, wA T 55 (14 * p + 117) x) := by
  unfold f_X12_sets
  rw [show ix 2071 (((110 : Int32) + (14 : Int32) * nI p) + (7 : Int32)) = some (14 * p + 117) from ix_lin (b := 110) (s := 14) (c := 7) (by omega) (by omega) (by decide)]; rfl
theorem man_8 {T : FS} {p : Nat} (h : p < 20) : q_X12_man T (nI p) 8 = some (T.2 55 (14 * p + 118)) := by
  unfold q_X12_man
  rw [show ix 2071 (((110 : Int32) + (14 : Int32) * nI p) + (8 : Int32)) = some (14 * p + 118) from ix_lin (b := 110) (s := 14) (c := 8) (by omega) (by omega) (by decide)]; rfl
theorem sets_8 {T : FS} {p : Nat} {x : Int32} (h : p < 20) : f_X12_sets T (nI p) 8 x = some (0, wA T 55 (14 * p + 118) x) := by
  unfold f_X12_sets
  rw [show ix 2071 (((110 : Int32) + (14 : Int32) * nI p) + (8 : Int32)) = some (14 * p + 118) from ix_lin (b := 110) (s := 14) (c := 8) (by omega) (by omega) (by decide)]; rfl
theorem man_9 {T : FS} {p : Nat} (h : p < 20) : q_X12_man T (nI p) 9 = some (T.2 55 (14 * p + 119)) := by
  unfold q_X12_man
  rw [show ix 2071 (((110 : Int32) + (14 : Int32) * nI p) + (9 : Int32)) = some (14 * p + 119) from ix_lin (b := 110) (s := 14) (c := 9) (by omega) (by omega) (by decide)]; rfl
theorem sets_9 {T : FS} {p : Nat} {x : Int32} (h : p < 20) : f_X12_sets T (nI p) 9 x = some (0, wA T 55 (14 * p + 119) x) := by
  unfold f_X12_sets
  rw [show ix 2071 (((110 : Int32) + (14 : Int32) * nI p) + (9 : Int32)) = some (14 * p + 119) from ix_lin (b := 110) (s := 14) (c := 9) (by omega) (by omega) (by decide)]; rfl
theorem man_10 {T : FS} {p : Nat} (h : p < 20) : q_X12_man T (nI p) 10 = some (T.2 55 (14 * p + 120)) := by
  unfold q_X12_man
  rw [show ix 2071 (((110 : Int32) + (14 : Int32) * nI p) + (10 : Int32)) = some (14 * p + 120) from ix_lin (b := 110) (s := 14) (c := 10) (by omega) (by omega) (by decide)]; rfl
theorem sets_10 {T : FS} {p : Nat} {x : Int32} (h : p < 20) : f_X12_sets T (nI p) 10 x = some (0, wA T 55 (14 * p + 120) x) := by
  unfold f_X12_sets
  rw [show ix 2071 (((110 : Int32) + (14 : Int32) * nI p) + (10 : Int32)) = some (14 * p + 120) from ix_lin (b := 110) (s := 14) (c := 10) (by omega) (by omega) (by decide)]; rfl
theorem man_11 {T : FS} {p : Nat} (h : p < 20) : q_X12_man T (nI p) 11 = some (T.2 55 (14 * p + 121)) := by
  unfold q_X12_man
  rw [show ix 2071 (((110 : Int32) + (14 : Int32) * nI p) + (11 : Int32)) = some (14 * p + 121) from ix_lin (b := 110) (s := 14) (c := 11) (by omega) (by omega) (by decide)]; rfl
theorem sets_11 {T : FS} {p : Nat} {x : Int32} (h : p < 20) : f_X12_sets T (nI p) 11 x = some (0, wA T 55 (14 * p + 121) x) := by
  unfold f_X12_sets
  rw [show ix 2071 (((110 : Int32) + (14 : Int32) * nI p) + (11 : Int32)) = some (14 * p + 121) from ix_lin (b := 110) (s := 14) (c := 11) (by omega) (by omega) (by decide)]; rfl
theorem man_12 {T : FS} {p : Nat} (h : p < 20) : q_X12_man T (nI p) 12 = some (T.2 55 (14 * p + 122)) := by
  unfold q_X12_man
  rw [show ix 2071 (((110 : Int32) + (14 : Int32) * nI p) + (12 : Int32)) = some (14 * p + 122) from ix_lin (b := 110) (s := 14) (c := 12) (by omega) (by omega) (by decide)]; rfl
theorem sets_12 {T : FS} {p : Nat} {x : Int32} (h : p < 20) : f_X12_sets T (nI p) 12 x = some (0, wA T 55 (14 * p + 122) x) := by
  unfold f_X12_sets
  rw [show ix 2071 (((110 : Int32) + (14 : Int32) * nI p) + (12 : Int32)) = some (14 * p + 122) from ix_lin (b := 110) (s := 14) (c := 12) (by omega) (by omega) (by decide)]; rfl
theorem man_13 {T : FS} {p : Nat} (h : p < 20) : q_X12_man T (nI p) 13 = some (T.2 55 (14 * p + 123)) := by
  unfold q_X12_man
  rw [show ix 2071 (((110 : Int32) + (14 : Int32) * nI p) + (13 : Int32)) = some (14 * p + 123) from ix_lin (b := 110) (s := 14) (c := 13) (by omega) (by omega) (by decide)]; rfl
theorem sets_13 {T : FS} {p : Nat} {x : Int32} (h : p < 20) : f_X12_sets T (nI p) 13 x = some (0, wA T 55 (14 * p + 123) x) := by
  unfold f_X12_sets
  rw [show ix 2071 (((110 : Int32) + (14 : Int32) * nI p) + (13 : Int32)) = some (14 * p + 123) from ix_lin (b := 110) (s := 14) (c := 13) (by omega) (by omega) (by decide)]; rfl
theorem its_0 {T : FS} {p : Nat} (h : p < 20) : q_X12_its T (nI p) 0 = some (T.2 55 (6 * p + 390)) := by
  unfold q_X12_its
  rw [show ix 2071 (((390 : Int32) + (6 : Int32) * nI p) + (0 : Int32)) = some (6 * p + 390) from ix_lin (b := 390) (s := 6) (c := 0) (by omega) (by omega) (by decide)]; rfl
theorem makes_0 {T : FS} {p : Nat} {x : Int32} (h : p < 20) : f_X12_makes T (nI p) 0 x = some (0, wA T 55 (6 * p + 390) x) := by
  unfold f_X12_makes
  rw [show ix 2071 (((390 : Int32) + (6 : Int32) * nI p) + (0 : Int32)) = some (6 * p + 390) from ix_lin (b := 390) (s := 6) (c := 0) (by omega) (by omega) (by decide)]; rfl
theorem its_1 {T : FS} {p : Nat} (h : p < 20) : q_X12_its T (nI p) 1 = some (T.2 55 (6 * p + 391)) := by
  unfold q_X12_its
  rw [show ix 2071 (((390 : Int32) + (6 : Int32) * nI p) + (1 : Int32)) = some (6 * p + 391) from ix_lin (b := 390) (s := 6) (c := 1) (by omega) (by omega) (by decide)]; rfl
theorem makes_1 {T : FS} {p : Nat} {x : Int32} (h : p < 20) : f_X12_makes T (nI p) 1 x = some (0, wA T 55 (6 * p + 391) x) := by
  unfold f_X12_makes
  rw [show ix 2071 (((390 : Int32) + (6 : Int32) * nI p) + (1 : Int32)) = some (6 * p + 391) from ix_lin (b := 390) (s := 6) (c := 1) (by omega) (by omega) (by decide)]; rfl
theorem its_2 {T : FS} {p : Nat} (h : p < 20) : q_X12_its T (nI p) 2 = some (T.2 55 (6 * p + 392)) := by
  unfold q_X12_its
  rw [show ix 2071 (((390 : Int32) + (6 : Int32) * nI p) + (2 : Int32)) = some (6 * p + 392) from ix_lin (b := 390) (s := 6) (c := 2) (by omega) (by omega) (by decide)]; rfl
theorem makes_2 {T : FS} {p : Nat} {x : Int32} (h : p < 20) : f_X12_makes T (nI p) 2 x = some (0, wA T 55 (6 * p + 392) x) := by
  unfold f_X12_makes
  rw [show ix 2071 (((390 : Int32) + (6 : Int32) * nI p) + (2 : Int32)) = some (6 * p + 392) from ix_lin (b := 390) (s := 6) (c := 2) (by omega) (by omega) (by decide)]; rfl
theorem its_3 {T : FS} {p : Nat} (h : p < 20) : q_X12_its T (nI p) 3 = some (T.2 55 (6 * p + 393)) := by
  unfold q_X12_its
  rw [show ix 2071 (((390 : Int32) + (6 : Int32) * nI p) + (3 : Int32)) = some (6 * p + 393) from ix_lin (b := 390) (s := 6) (c := 3) (by omega) (by omega) (by decide)]; rfl
theorem makes_3 {T : FS} {p : Nat} {x : Int32} (h : p < 20) : f_X12_makes T (nI p) 3 x = some (0, wA T 55 (6 * p + 393) x) := by
  unfold f_X12_makes
  rw [show ix 2071 (((390 : Int32) + (6 : Int32) * nI p) + (3 : Int32)) = some (6 * p + 393) from ix_lin (b := 390) (s := 6) (c := 3) (by omega) (by omega) (by decide)]; rfl
theorem its_4 {T : FS} {p : Nat} (h : p < 20) : q_X12_its T (nI p) 4 = some (T.2 55 (6 * p + 394)) := by
  unfold q_X12_its
  rw [show ix 2071 (((390 : Int32) + (6 : Int32) * nI p) + (4 : Int32)) = some (6 * p + 394) from ix_lin (b := 390) (s := 6) (c := 4) (by omega) (by omega) (by decide)]; rfl
theorem makes_4 {T : FS} {p : Nat} {x : Int32} (h : p < 20) : f_X12_makes T (nI p) 4 x = some (0, wA T 55 (6 * p + 394) x) := by
  unfold f_X12_makes
  rw [show ix 2071 (((390 : Int32) + (6 : Int32) * nI p) + (4 : Int32)) = some (6 * p + 394) from ix_lin (b := 390) (s := 6) (c := 4) (by omega) (by omega) (by decide)]; rfl
theorem its_5 {T : FS} {p : Nat} (h : p < 20) : q_X12_its T (nI p) 5 = some (T.2 55 (6 * p + 395)) := by
  unfold q_X12_its
  rw [show ix 2071 (((390 : Int32) + (6 : Int32) * nI p) + (5 : Int32)) = some (6 * p + 395) from ix_lin (b := 390) (s := 6) (c := 5) (by omega) (by omega) (by decide)]; rfl
theorem makes_5 {T : FS} {p : Nat} {x : Int32} (h : p < 20) : f_X12_makes T (nI p) 5 x = some (0, wA T 55 (6 * p + 395) x) := by
  unfold f_X12_makes
  rw [show ix 2071 (((390 : Int32) + (6 : Int32) * nI p) + (5 : Int32)) = some (6 * p + 395) from ix_lin (b := 390) (s := 6) (c := 5) (by omega) (by omega) (by decide)]; rfl
theorem of_0 {T : FS} {p : Nat} (h : p < 40) : q_X12_of T (nI p) 0 = some (T.2 55 (12 * p + 1290)) := by
  unfold q_X12_of
  rw [show ix 2071 (((1290 : Int32) + (12 : Int32) * nI p) + (0 : Int32)) = some (12 * p + 1290) from ix_lin (b := 1290) (s := 12) (c := 0) (by omega) (by omega) (by decide)]; rfl
theorem writes_0 {T : FS} {p : Nat} {x : Int32} (h : p < 40) : f_X12_writes T (nI p) 0 x = some (0, wA T 55 (12 * p + 1290) x) := by
  unfold f_X12_writes
  rw [show ix 2071 (((1290 : Int32) + (12 : Int32) * nI p) + (0 : Int32)) = some (12 * p + 1290) from ix_lin (b := 1290) (s := 12) (c := 0) (by omega) (by omega) (by decide)]; rfl
theorem of_1 {T : FS} {p : Nat} (h : p < 40) : q_X12_of T (nI p) 1 = some (T.2 55 (12 * p + 1291)) := by
  unfold q_X12_of
  rw [show ix 2071 (((1290 : Int32) + (12 : Int32) * nI p) + (1 : Int32)) = some (12 * p + 1291) from ix_lin (b := 1290) (s := 12) (c := 1) (by omega) (by omega) (by decide)]; rfl
theorem writes_1 {T : FS} {p : Nat} {x : Int32} (h : p < 40) : f_X12_writes T (nI p) 1 x = some (0, wA T 55 (12 * p + 1291) x) := by
  unfold f_X12_writes
  rw [show ix 2071 (((1290 : Int32) + (12 : Int32) * nI p) + (1 : Int32)) = some (12 * p + 1291) from ix_lin (b := 1290) (s := 12) (c := 1) (by omega) (by omega) (by decide)]; rfl
theorem of_2 {T : FS} {p : Nat} (h : p < 40) : q_X12_of T (nI p) 2 = some (T.2 55 (12 * p + 1292)) := by
  unfold q_X12_of
  rw [show ix 2071 (((1290 : Int32) + (12 : Int32) * nI p) + (2 : Int32)) = some (12 * p + 1292) from ix_lin (b := 1290) (s := 12) (c := 2) (by omega) (by omega) (by decide)]; rfl
theorem writes_2 {T : FS} {p : Nat} {x : Int32} (h : p < 40) : f_X12_writes T (nI p) 2 x = some (0, wA T 55 (12 * p + 1292) x) := by
  unfold f_X12_writes
  rw [show ix 2071 (((1290 : Int32) + (12 : Int32) * nI p) + (2 : Int32)) = some (12 * p + 1292) from ix_lin (b := 1290) (s := 12) (c := 2) (by omega) (by omega) (by decide)]; rfl
theorem of_3 {T : FS} {p : Nat} (h : p < 40) : q_X12_of T (nI p) 3 = some (T.2 55 (12 * p + 1293)) := by
  unfold q_X12_of
  rw [show ix 2071 (((1290 : Int32) + (12 : Int32) * nI p) + (3 : Int32)) = some (12 * p + 1293) from ix_lin (b := 1290) (s := 12) (c := 3) (by omega) (by omega) (by decide)]; rfl
theorem writes_3 {T : FS} {p : Nat} {x : Int32} (h : p < 40) : f_X12_writes T (nI p) 3 x = some (0, wA T 55 (12 * p + 1293) x) := by
  unfold f_X12_writes
  rw [show ix 2071 (((1290 : Int32) + (12 : Int32) * nI p) + (3 : Int32)) = some (12 * p + 1293) from ix_lin (b := 1290) (s := 12) (c := 3) (by omega) (by omega) (by decide)]; rfl
theorem of_4 {T : FS} {p : Nat} (h : p < 40) : q_X12_of T (nI p) 4 = some (T.2 55 (12 * p + 1294)) := by
  unfold q_X12_of
  rw [show ix 2071 (((1290 : Int32) + (12 : Int32) * nI p) + (4 : Int32)) = some (12 * p + 1294) from ix_lin (b := 1290) (s := 12) (c := 4) (by omega) (by omega) (by decide)]; rfl
theorem writes_4 {T : FS} {p : Nat} {x : Int32} (h : p < 40) : f_X12_writes T (nI p) 4 x = some (0, wA T 55 (12 * p + 1294) x) := by
  unfold f_X12_writes
  rw [show ix 2071 (((1290 : Int32) + (12 : Int32) * nI p) + (4 : Int32)) = some (12 * p + 1294) from ix_lin (b := 1290) (s := 12) (c := 4) (by omega) (by omega) (by decide)]; rfl
theorem of_5 {T : FS} {p : Nat} (h : p < 40) : q_X12_of T (nI p) 5 = some (T.2 55 (12 * p + 1295)) := by
  unfold q_X12_of
  rw [show ix 2071 (((1290 : Int32) + (12 : Int32) * nI p) + (5 : Int32)) = some (12 * p + 1295) from ix_lin (b := 1290) (s := 12) (c := 5) (by omega) (by omega) (by decide)]; rfl
theorem writes_5 {T : FS} {p : Nat} {x : Int32} (h : p < 40) : f_X12_writes T (nI p) 5 x = some (0, wA T 55 (12 * p + 1295) x) := by
  unfold f_X12_writes
  rw [show ix 2071 (((1290 : Int32) + (12 : Int32) * nI p) + (5 : Int32)) = some (12 * p + 1295) from ix_lin (b := 1290) (s := 12) (c := 5) (by omega) (by omega) (by decide)]; rfl
theorem of_6 {T : FS} {p : Nat} (h : p < 40) : q_X12_of T (nI p) 6 = some (T.2 55 (12 * p + 1296)) := by
  unfold q_X12_of
  rw [show ix 2071 (((1290 : Int32) + (12 : Int32) * nI p) + (6 : Int32)) = some (12 * p + 1296) from ix_lin (b := 1290) (s := 12) (c := 6) (by omega) (by omega) (by decide)]; rfl
theorem writes_6 {T : FS} {p : Nat} {x : Int32} (h : p < 40) : f_X12_writes T (nI p) 6 x = some (0, wA T 55 (12 * p + 1296) x) := by
  unfold f_X12_writes
  rw [show ix 2071 (((1290 : Int32) + (12 : Int32) * nI p) + (6 : Int32)) = some (12 * p + 1296) from ix_lin (b := 1290) (s := 12) (c := 6) (by omega) (by omega) (by decide)]; rfl
theorem of_7 {T : FS} {p : Nat} (h : p < 40) : q_X12_of T (nI p) 7 = some (T.2 55 (12 * p + 1297)) := by
  unfold q_X12_of
  rw [show ix 2071 (((1290 : Int32) + (12 : Int32) * nI p) + (7 : Int32)) = some (12 * p + 1297) from ix_lin (b := 1290) (s := 12) (c := 7) (by omega) (by omega) (by decide)]; rfl
theorem writes_7 {T : FS} {p : Nat} {x : Int32} (h : p < 40) : f_X12_writes T (nI p) 7 x = some (0, wA T 55 (12 * p + 1297) x) := by
  unfold f_X12_writes
  rw [show ix 2071 (((1290 : Int32) + (12 : Int32) * nI p) + (7 : Int32)) = some (12 * p + 1297) from ix_lin (b := 1290) (s := 12) (c := 7) (by omega) (by omega) (by decide)]; rfl
theorem of_8 {T : FS} {p : Nat} (h : p < 40) : q_X12_of T (nI p) 8 = some (T.2 55 (12 * p + 1298)) := by
  unfold q_X12_of
  rw [show ix 2071 (((1290 : Int32) + (12 : Int32) * nI p) + (8 : Int32)) = some (12 * p + 1298) from ix_lin (b := 1290) (s := 12) (c := 8) (by omega) (by omega) (by decide)]; rfl
theorem writes_8 {T : FS} {p : Nat} {x : Int32} (h : p < 40) : f_X12_writes T (nI p) 8 x = some (0, wA T 55 (12 * p + 1298) x) := by
  unfold f_X12_writes
  rw [show ix 2071 (((1290 : Int32) + (12 : Int32) * nI p) + (8 : Int32)) = some (12 * p + 1298) from ix_lin (b := 1290) (s := 12) (c := 8) (by omega) (by omega) (by decide)]; rfl
theorem of_9 {T : FS} {p : Nat} (h : p < 40) : q_X12_of T (nI p) 9 = some (T.2 55 (12 * p + 1299)) := by
  unfold q_X12_of
  rw [show ix 2071 (((1290 : Int32) + (12 : Int32) * nI p) + (9 : Int32)) = some (12 * p + 1299) from ix_lin (b := 1290) (s := 12) (c := 9) (by omega) (by omega) (by decide)]; rfl
theorem writes_9 {T : FS} {p : Nat} {x : Int32} (h : p < 40) : f_X12_writes T (nI p) 9 x = some (0, wA T 55 (12 * p + 1299) x) := by
  unfold f_X12_writes
  rw [show ix 2071 (((1290 : Int32) + (12 : Int32) * nI p) + (9 : Int32)) = some (12 * p + 1299) from ix_lin (b := 1290) (s := 12) (c := 9) (by omega) (by omega) (by decide)]; rfl
theorem of_10 {T : FS} {p : Nat} (h : p < 40) : q_X12_of T (nI p) 10 = some (T.2 55 (12 * p + 1300)) := by
  unfold q_X12_of
  rw [show ix 2071 (((1290 : Int32) + (12 : Int32) * nI p) + (10 : Int32)) = some (12 * p + 1300) from ix_lin (b := 1290) (s := 12) (c := 10) (by omega) (by omega) (by decide)]; rfl
theorem writes_10 {T : FS} {p : Nat} {x : Int32} (h : p < 40) : f_X12_writes T (nI p) 10 x = some (0, wA T 55 (12 * p + 1300) x) := by
  unfold f_X12_writes
  rw [show ix 2071 (((1290 : Int32) + (12 : Int32) * nI p) + (10 : Int32)) = some (12 * p + 1300) from ix_lin (b := 1290) (s := 12) (c := 10) (by omega) (by omega) (by decide)]; rfl
theorem of_11 {T : FS} {p : Nat} (h : p < 40) : q_X12_of T (nI p) 11 = some (T.2 55 (12 * p + 1301)) := by
  unfold q_X12_of
  rw [show ix 2071 (((1290 : Int32) + (12 : Int32) * nI p) + (11 : Int32)) = some (12 * p + 1301) from ix_lin (b := 1290) (s := 12) (c := 11) (by omega) (by omega) (by decide)]; rfl
theorem writes_11 {T : FS} {p : Nat} {x : Int32} (h : p < 40) : f_X12_writes T (nI p) 11 x = some (0, wA T 55 (12 * p + 1301) x) := by
  unfold f_X12_writes
  rw [show ix 2071 (((1290 : Int32) + (12 : Int32) * nI p) + (11 : Int32)) = some (12 * p + 1301) from ix_lin (b := 1290) (s := 12) (c := 11) (by omega) (by omega) (by decide)]; rfl
theorem promised_0 {T : FS} {p : Nat} (h : p < 30) : q_X12_promised T (nI p) 0 = some (T.2 55 (6 * p + 1806)) := by
  unfold q_X12_promised
  rw [show ix 2071 (((1806 : Int32) + (6 : Int32) * nI p) + (0 : Int32)) = some (6 * p + 1806) from ix_lin (b := 1806) (s := 6) (c := 0) (by omega) (by omega) (by decide)]; rfl
theorem promised_1 {T : FS} {p : Nat} (h : p < 30) : q_X12_promised T (nI p) 1 = some (T.2 55 (6 * p + 1807)) := by
  unfold q_X12_promised
  rw [show ix 2071 (((1806 : Int32) + (6 : Int32) * nI p) + (1 : Int32)) = some (6 * p + 1807) from ix_lin (b := 1806) (s := 6) (c := 1) (by omega) (by omega) (by decide)]; rfl
theorem promised_2 {T : FS} {p : Nat} (h : p < 30) : q_X12_promised T (nI p) 2 = some (T.2 55 (6 * p + 1808)) := by
  unfold q_X12_promised
  rw [show ix 2071 (((1806 : Int32) + (6 : Int32) * nI p) + (2 : Int32)) = some (6 * p + 1808) from ix_lin (b := 1806) (s := 6) (c := 2) (by omega) (by omega) (by decide)]; rfl
theorem promised_3 {T : FS} {p : Nat} (h : p < 30) : q_X12_promised T (nI p) 3 = some (T.2 55 (6 * p + 1809)) := by
  unfold q_X12_promised
  rw [show ix 2071 (((1806 : Int32) + (6 : Int32) * nI p) + (3 : Int32)) = some (6 * p + 1809) from ix_lin (b := 1806) (s := 6) (c := 3) (by omega) (by omega) (by decide)]; rfl
theorem promised_4 {T : FS} {p : Nat} (h : p < 30) : q_X12_promised T (nI p) 4 = some (T.2 55 (6 * p + 1810)) := by
  unfold q_X12_promised
  rw [show ix 2071 (((1806 : Int32) + (6 : Int32) * nI p) + (4 : Int32)) = some (6 * p + 1810) from ix_lin (b := 1806) (s := 6) (c := 4) (by omega) (by omega) (by decide)]; rfl
theorem promised_5 {T : FS} {p : Nat} (h : p < 30) : q_X12_promised T (nI p) 5 = some (T.2 55 (6 * p + 1811)) := by
  unfold q_X12_promised
  rw [show ix 2071 (((1806 : Int32) + (6 : Int32) * nI p) + (5 : Int32)) = some (6 * p + 1811) from ix_lin (b := 1806) (s := 6) (c := 5) (by omega) (by omega) (by decide)]; rfl
theorem ixT_0 {p : Nat} (h : p < 10) : ix 2071 ((20 : Int32) + (3 : Int32) * nI p) = some (3 * p + 20) := ix_lin0 (b := 20) (s := 3) (by omega) (by omega) (by decide)
theorem ixT_1 {p : Nat} (h : p < 10) : ix 2071 (((20 : Int32) + (3 : Int32) * nI p) + (1 : Int32)) = some (3 * p + 21) := ix_lin (b := 20) (s := 3) (c := 1) (by omega) (by omega) (by decide)
theorem ixT_2 {p : Nat} (h : p < 10) : ix 2071 (((20 : Int32) + (3 : Int32) * nI p) + (2 : Int32)) = some (3 * p + 22) := ix_lin (b := 20) (s := 3) (c := 2) (by omega) (by omega) (by decide)
theorem ixL_0 {p : Nat} (h : p < 12) : ix 2071 ((510 : Int32) + (65 : Int32) * nI p) = some (65 * p + 510) := ix_lin0 (b := 510) (s := 65) (by omega) (by omega) (by decide)
theorem ixL_1 {p : Nat} (h : p < 12) : ix 2071 (((510 : Int32) + (65 : Int32) * nI p) + (1 : Int32)) = some (65 * p + 511) := ix_lin (b := 510) (s := 65) (c := 1) (by omega) (by omega) (by decide)
theorem ixL_2 {p : Nat} (h : p < 12) : ix 2071 (((510 : Int32) + (65 : Int32) * nI p) + (2 : Int32)) = some (65 * p + 512) := ix_lin (b := 510) (s := 65) (c := 2) (by omega) (by omega) (by decide)
theorem ixL_3 {p : Nat} (h : p < 12) : ix 2071 (((510 : Int32) + (65 : Int32) * nI p) + (3 : Int32)) = some (65 * p + 513) := ix_lin (b := 510) (s := 65) (c := 3) (by omega) (by omega) (by decide)
theorem ixL_4 {p : Nat} (h : p < 12) : ix 2071 (((510 : Int32) + (65 : Int32) * nI p) + (4 : Int32)) = some (65 * p + 514) := ix_lin (b := 510) (s := 65) (c := 4) (by omega) (by omega) (by decide)
theorem ixD_0 {p : Nat} (h : p < 6) : ix 2071 ((1770 : Int32) + (6 : Int32) * nI p) = some (6 * p + 1770) := ix_lin0 (b := 1770) (s := 6) (by omega) (by omega) (by decide)
theorem ixD_1 {p : Nat} (h : p < 6) : ix 2071 (((1770 : Int32) + (6 : Int32) * nI p) + (1 : Int32)) = some (6 * p + 1771) := ix_lin (b := 1770) (s := 6) (c := 1) (by omega) (by omega) (by decide)
theorem ixD_2 {p : Nat} (h : p < 6) : ix 2071 (((1770 : Int32) + (6 : Int32) * nI p) + (2 : Int32)) = some (6 * p + 1772) := ix_lin (b := 1770) (s := 6) (c := 2) (by omega) (by omega) (by decide)
theorem ixD_3 {p : Nat} (h : p < 6) : ix 2071 (((1770 : Int32) + (6 : Int32) * nI p) + (3 : Int32)) = some (6 * p + 1773) := ix_lin (b := 1770) (s := 6) (c := 3) (by omega) (by omega) (by decide)
theorem ixD_4 {p : Nat} (h : p < 6) : ix 2071 (((1770 : Int32) + (6 : Int32) * nI p) + (4 : Int32)) = some (6 * p + 1774) := ix_lin (b := 1770) (s := 6) (c := 4) (by omega) (by omega) (by decide)
theorem ixQ_0 {p : Nat} (h : p < 30) : ix 2071 ((1806 : Int32) + (6 : Int32) * nI p) = some (6 * p + 1806) := ix_lin0 (b := 1806) (s := 6) (by omega) (by omega) (by decide)
theorem ixQ_1 {p : Nat} (h : p < 30) : ix 2071 (((1806 : Int32) + (6 : Int32) * nI p) + (1 : Int32)) = some (6 * p + 1807) := ix_lin (b := 1806) (s := 6) (c := 1) (by omega) (by omega) (by decide)
theorem ixQ_2 {p : Nat} (h : p < 30) : ix 2071 (((1806 : Int32) + (6 : Int32) * nI p) + (2 : Int32)) = some (6 * p + 1808) := ix_lin (b := 1806) (s := 6) (c := 2) (by omega) (by omega) (by decide)
theorem ixQ_3 {p : Nat} (h : p < 30) : ix 2071 (((1806 : Int32) + (6 : Int32) * nI p) + (3 : Int32)) = some (6 * p + 1809) := ix_lin (b := 1806) (s := 6) (c := 3) (by omega) (by omega) (by decide)
theorem ixQ_4 {p : Nat} (h : p < 30) : ix 2071 (((1806 : Int32) + (6 : Int32) * nI p) + (4 : Int32)) = some (6 * p + 1810) := ix_lin (b := 1806) (s := 6) (c := 4) (by omega) (by omega) (by decide)
theorem ixQ_5 {p : Nat} (h : p < 30) : ix 2071 (((1806 : Int32) + (6 : Int32) * nI p) + (5 : Int32)) = some (6 * p + 1811) := ix_lin (b := 1806) (s := 6) (c := 5) (by omega) (by omega) (by decide)
theorem ixR_0 {p : Nat} (h : p < 20) : ix 2071 ((50 : Int32) + (3 : Int32) * nI p) = some (3 * p + 50) := ix_lin0 (b := 50) (s := 3) (by omega) (by omega) (by decide)
theorem ixR_1 {p : Nat} (h : p < 20) : ix 2071 (((50 : Int32) + (3 : Int32) * nI p) + (1 : Int32)) = some (3 * p + 51) := ix_lin (b := 50) (s := 3) (c := 1) (by omega) (by omega) (by decide)
theorem ixR_2 {p : Nat} (h : p < 20) : ix 2071 (((50 : Int32) + (3 : Int32) * nI p) + (2 : Int32)) = some (3 * p + 52) := ix_lin (b := 50) (s := 3) (c := 2) (by omega) (by omega) (by decide)
end
section
/-! ===== ways: the class's table of ways and the model's roads ===== -/
def nv (n : Nat → Int32) (j : Nat) : Nat := (n j).toNatClampNeg
def tv (T : Nat → Int32) (i j : Nat) : Nat := (T (i * 10 + j)).toNatClampNeg
def WV (T : Nat → Int32) : Prop := ∀ k : Nat, k < 100 → ∃ v : Nat, v ≤ 1000 ∧ T k = nI v
theorem WV.at {T : Nat → Int32} (h : WV T) {i j : Nat} (hi : i < 10) (hj : j < 10) : T (i * 10 + j) = nI (tv T i j) ∧ tv T i j ≤ 1000 := by
  obtain ⟨v, hv, e⟩ := h (i * 10 + j) (by omega)
  have e2 : tv T i j = v := by
    unfold tv; rw [e]; exact nI_clamp (by omega)
  rw [e2]; exact ⟨e, hv⟩
/-- a distance that no road breaks -/
def FE (n : Nat → Int32) (m : Nat) (D : Nat → Nat) : Prop := ∀ r : Nat, r < m → D (nv n (3 * r + 50)) ≤ D (nv n (3 * r + 51)) + nv n (3 * r + 52) ∧ D (nv n (3 * r + 51)) ≤ D (nv n (3 * r + 50)) + nv n (3 * r + 52)
theorem FE.sub {n : Nat → Int32} {m : Nat} {D : Nat → Nat} (h : FE n m D) (c : Nat) : FE n m (fun t => D t - c) := by
  intro r hr
  obtain ⟨h1, h2⟩ := h r hr
  exact ⟨by show D (nv n (3 * r + 50)) - c ≤ D (nv n (3 * r + 51)) - c + nv n (3 * r + 52); omega, by show D (nv n (3 * r + 51)) - c ≤ D (nv n (3 * r + 50)) - c + nv n (3 * r + 52); omega⟩
theorem FE.same {n n' : Nat → Int32} {m : Nat} {D : Nat → Nat} (h : FE n m D) (e : ∀ j : Nat, 50 ≤ j → j < 3 * m + 50 → n' j = n j) : FE n' m D := by
  intro r hr
  unfold nv
  rw [e (3 * r + 50) (by omega) (by omega), e (3 * r + 51) (by omega) (by omega), e (3 * r + 52) (by omega) (by omega)]
  exact h r hr
theorem nv_of {n : Nat → Int32} {j k : Nat} (e : n j = nI k) (hk : k < 2 ^ 31) : nv n j = k := by
  unfold nv; rw [e]; exact nI_clamp hk
def RB (n : Nat → Int32) (m : Nat) : Prop := ∀ r : Nat, r < m → (nv n (3 * r + 50) < 10 ∧ nv n (3 * r + 51) < 10) ∧ nv n (3 * r + 52) < 10 ∧ n (3 * r + 50) = nI (nv n (3 * r + 50)) ∧ n (3 * r + 51) = nI (nv n (3 * r + 51)) ∧ n (3 * r + 52) = nI (nv n (3 * r + 52))
theorem FE.cong {n : Nat → Int32} {m : Nat} {D D' : Nat → Nat} (h : FE n m D) (hb : RB n m) (e : ∀ t : Nat, t < 10 → D' t = D t) : FE n m D' := by
  intro r hr
  obtain ⟨⟨h1, h2⟩, -⟩ := hb r hr
  rw [e _ h1, e _ h2]; exact h r hr
theorem RB.same {n n' : Nat → Int32} {m : Nat} (h : RB n m) (e : ∀ j : Nat, 50 ≤ j → j < 3 * m + 50 → n' j = n j) : RB n' m := by
  intro r hr
  unfold nv
  rw [e (3 * r + 50) (by omega) (by omega), e (3 * r + 51) (by omega) (by omega), e (3 * r + 52) (by omega) (by omega)]
  exact h r hr
/-- T has the ways of the first m roads; u towns -/
def WQ1 (T n : Nat → Int32) (m u : Nat) : Prop := WV T ∧ RB n m ∧ (∀ i : Nat, i < 10 → tv T i i = 0) ∧ (∀ i : Nat, i < 10 → FE n m (tv T i)) ∧ (∀ i : Nat, i < 10 → ∀ D : Nat → Nat, D i = 0 → FE n m D → ∀ j : Nat, j < 10 → tv T i j < 1000 → D j ≤ tv T i j) ∧ ∀ i j : Nat, i < 10 → j < 10 → i ≠ j → (u ≤ i ∨ u ≤ j) → tv T i j = 1000
theorem WQ1.tri {T n : Nat → Int32} {m u : Nat} (h : WQ1 T n m u) {i j k : Nat} (hi : i < 10) (hj : j < 10) (hk : k < 10) : tv T i j ≤ tv T i k + tv T k j := by
  obtain ⟨h1, hb, h2, h3, h4, h5⟩ := h
  by_cases c : tv T k j < 1000
  · have h6 := h4 k hk (fun t => tv T i t - tv T i k) (Nat.sub_self _) ((h3 i hi).sub _) j hj c
    have h7 : tv T i j - tv T i k ≤ tv T k j := h6
    omega
  · have h6 := (h1.at hi hj).2
    omega
theorem WQ1.same {T T' n n' : Nat → Int32} {m u u' : Nat} (h : WQ1 T n m u) (hu : u ≤ u') (eT : ∀ j : Nat, j < 100 → T' j = T j) (e : ∀ j : Nat, 50 ≤ j → j < 3 * m + 50 → n' j = n j) : WQ1 T' n' m u' := by
  obtain ⟨h1, hb, h2, h3, h4, h5⟩ := h
  have et : ∀ i j : Nat, i < 10 → j < 10 → tv T' i j = tv T i j := fun i j hi hj => by
    unfold tv; rw [eT _ (by omega)]
  have e' : ∀ j : Nat, 50 ≤ j → j < 3 * m + 50 → n j = n' j := fun j a b => (e j a b).symm
  refine ⟨fun k hk => by rw [eT k hk]; exact h1 k hk, hb.same e, fun i hi => (et i i hi hi).trans (h2 i hi), fun i hi => ?_, fun i hi D hD hF j hj hl => ?_, fun i j hi hj a b => (et i j hi hj).trans (h5 i j hi hj a (by omega))⟩
  · exact ((h3 i hi).same e).cong (hb.same e) (fun t ht => et i t hi ht)
  · rw [et i j hi hj] at hl ⊢
    exact h4 i hi D hD (hF.same e') j hj hl
/-- what a new road between a and b makes of the ways among the first u towns -/
def JP (T T' : Nat → Int32) (u a b d : Nat) : Prop := WV T' ∧ (∀ i j : Nat, i < 10 → j < 10 → ¬ (i < u ∧ j < u) → tv T' i j = tv T i j) ∧ (∀ i j : Nat, i < u → j < u → tv T' i j ≤ tv T i j ∧ tv T' i j ≤ tv T i a + d + tv T b j ∧ tv T' i j ≤ tv T i b + d + tv T a j) ∧ ∀ N : Nat → Nat → Nat, (∀ i j : Nat, i < u → j < u → N i j ≤ tv T i j) → (∀ i j : Nat, i < u → j < u → N i j ≤ N i a + d + N b j ∧ N i j ≤ N i b + d + N a j) → ∀ i j : Nat, i < u → j < u → N i j ≤ tv T' i j
def mW (T : Nat → Int32) (a b d i j : Nat) : Nat := min (tv T i j) (min (tv T i a + d + tv T b j) (tv T i b + d + tv T a j))
theorem mW_le {T : Nat → Int32} {a b d i j : Nat} : mW T a b d i j ≤ tv T i j ∧ mW T a b d i j ≤ tv T i a + d + tv T b j ∧ mW T a b d i j ≤ tv T i b + d + tv T a j ∧ (mW T a b d i j = tv T i j ∨ mW T a b d i j = tv T i a + d + tv T b j ∨ mW T a b d i j = tv T i b + d + tv T a j) := by
  unfold mW; omega
theorem JP.eq {T T' n : Nat → Int32} {m u a b d : Nat} (h : WQ1 T n m u) (hj : JP T T' u a b d) (hu : u ≤ 10) (ha : a < u) (hb : b < u) : ∀ i j : Nat, i < 10 → j < 10 → tv T' i j = mW T a b d i j := by
  intro i j hi hj'
  obtain ⟨j0, j1, j2, j3⟩ := hj
  have mle := @mW_le T a b d
  by_cases c : i < u ∧ j < u
  · have hN := j3 (mW T a b d) (fun i j _ _ => (mle (i := i) (j := j)).1) (fun i j hi hj => by
      have x0 := mle (i := i) (j := j)
      have x1 := mle (i := i) (j := a)
      have x2 := mle (i := b) (j := j)
      have x3 := mle (i := i) (j := b)
      have x4 := mle (i := a) (j := j)
      have ya := h.2.2.1 a (by omega)
      have yb := h.2.2.1 b (by omega)
      have t1 := h.tri (i := i) (j := j) (k := a) (by omega) (by omega) (by omega)
      have t2 := h.tri (i := i) (j := j) (k := b) (by omega) (by omega) (by omega)
      have t3 := h.tri (i := b) (j := a) (k := a) (by omega) (by omega) (by omega)
      omega) i j c.1 c.2
    have x0 := mle (i := i) (j := j)
    have x1 := j2 i j c.1 c.2
    omega
  · rw [j1 i j hi hj' c]
    have x0 := mle (i := i) (j := j)
    by_cases e : i = j
    · subst e
      have y := h.2.2.1 i hi
      omega
    · have y := h.2.2.2.2.2 i j hi hj' e (by omega)
      by_cases c1 : u ≤ i
      · have y1 := h.2.2.2.2.2 i a hi (by omega) (by omega) (Or.inl c1)
        have y2 := h.2.2.2.2.2 i b hi (by omega) (by omega) (Or.inl c1)
        omega
      · have y1 := h.2.2.2.2.2 a j (by omega) hj' (by omega) (Or.inr (by omega))
        have y2 := h.2.2.2.2.2 b j (by omega) hj' (by omega) (Or.inr (by omega))
        omega
theorem WQ1.join {T T' n n' : Nat → Int32} {m u a b d : Nat} (h : WQ1 T n m u) (hj : JP T T' u a b d) (hu : u ≤ 10) (ha : a < u) (hb : b < u) (hab : a ≠ b) (e : ∀ j : Nat, 50 ≤ j → j < 3 * m + 50 → n' j = n j) (f0 : n' (3 * m + 50) = nI a) (f1 : n' (3 * m + 51) = nI b) (f2 : n' (3 * m + 52) = nI d) (hd : d < 10) : WQ1 T' n' (m + 1) u := by
  have e0 := nv_of f0 (by omega)
  have e1 := nv_of f1 (by omega)
  have e2 := nv_of f2 (by omega)
  have et := JP.eq h hj hu ha hb
  have mle := @mW_le T a b d
  have tri := fun (i j k : Nat) (hi : i < 10) (hj : j < 10) (hk : k < 10) => h.tri (i := i) (j := j) (k := k) hi hj hk
  obtain ⟨h1, hB, h2, h3, h4, h5⟩ := h
  have e' : ∀ j : Nat, 50 ≤ j → j < 3 * m + 50 → n j = n' j := fun j a b => (e j a b).symm
  have za := h2 a (by omega)
  have zb := h2 b (by omega)
  refine ⟨hj.1, fun r hr => ?_, fun i hi => ?_, fun i hi r hr => ?_, fun i hi D hD hF j hj hl => ?_, fun i j hi hj' a' b' => ?_⟩
  · by_cases c : r = m
    · subst c; rw [e0, e1, e2]; exact ⟨⟨by omega, by omega⟩, hd, f0, f1, f2⟩
    · exact hB.same e r (by omega)
  · rw [et i i hi hi]
    have x := mle (i := i) (j := i)
    have y := h2 i hi
    omega
  · by_cases c : r = m
    · subst c
      rw [e0, e1, e2, et i a hi (by omega), et i b hi (by omega)]
      have x1 := mle (i := i) (j := a)
      have x2 := mle (i := i) (j := b)
      omega
    · obtain ⟨⟨q1, q2⟩, -⟩ := hB.same e r (by omega)
      have y0 := (h3 i hi).same e r (by omega)
      have ya := (h3 a (by omega)).same e r (by omega)
      have yb := (h3 b (by omega)).same e r (by omega)
      rw [et i _ hi q1, et i _ hi q2]
      have x1 := mle (i := i) (j := nv n' (3 * r + 50))
      have x2 := mle (i := i) (j := nv n' (3 * r + 51))
      omega
  · have hF0 : FE n m D := (show FE n' m D from fun r hr => hF r (by omega)).same e'
    have hm := hF m (Nat.lt_succ_self m)
    rw [e0, e1, e2] at hm
    rw [et i j hi hj] at hl ⊢
    have x := mle (i := i) (j := j)
    have hs : ∀ c j : Nat, c < 10 → j < 10 → tv T c j < 1000 → D j ≤ D c + tv T c j := fun c j hc hj hl => by
      have y := h4 c hc (fun t => D t - D c) (Nat.sub_self _) (hF0.sub _) j hj hl
      have y' : D j - D c ≤ tv T c j := y
      omega
    rcases x.2.2.2 with q | q | q
    · rw [q] at hl ⊢
      have y := hs i j hi hj hl
      omega
    · rw [q] at hl ⊢
      have y1 := hs i a hi (by omega) (by omega)
      have y2 := hs b j (by omega) hj (by omega)
      omega
    · rw [q] at hl ⊢
      have y1 := hs i b hi (by omega) (by omega)
      have y2 := hs a j (by omega) hj (by omega)
      omega
  · rw [hj.2.1 i j hi hj' (by omega)]; exact h5 i j hi hj' a' b'
/-- what the model's days are behind findDays: of the roads below m, from c on -/
def FX (f n : Nat → Int32) (m c : Nat) : Prop := (∀ t : Nat, t < 10 → f t = -1 ∨ ∃ q : Nat, q ≤ 81 ∧ f t = nI q) ∧ f c = nI 0 ∧ (∀ r : Nat, r < m → ∀ q : Nat, q ≤ 81 → (f (nv n (3 * r + 50)) = nI q → ∃ p : Nat, p ≤ q + nv n (3 * r + 52) ∧ p ≤ 81 ∧ f (nv n (3 * r + 51)) = nI p) ∧ (f (nv n (3 * r + 51)) = nI q → ∃ p : Nat, p ≤ q + nv n (3 * r + 52) ∧ p ≤ 81 ∧ f (nv n (3 * r + 50)) = nI p)) ∧ ∀ P : Nat → Nat, P c = 0 → FE n m P → ∀ t q : Nat, t < 10 → q ≤ 81 → f t = nI q → P t ≤ q
def vFr (x : Int32) : Int32 := if x < 0 then -1000002 else x
def vWy (W : Nat) : Int32 := if 1000 ≤ W then -1000002 else nI W
def dD (f : Nat → Int32) (s : Nat) : Nat := if f s = -1 then 1000 else (f s).toNatClampNeg
theorem dD_y {f : Nat → Int32} {s q : Nat} (e : f s = nI q) (hq : q ≤ 81) : dD f s = q := by
  unfold dD; rw [if_neg (by rw [e]; exact nI_m1 (by omega)), e, nI_clamp (by omega)]
theorem dD_n {f : Nat → Int32} {s : Nat} (e : f s = -1) : dD f s = 1000 := if_pos e
theorem FX.far {T f n : Nat → Int32} {m u c t : Nat} (h : WQ1 T n m u) (hf : FX f n m c) (hc : c < 10) (ht : t < 10) : vWy (tv T c t) = vFr (f t) := by
  obtain ⟨h1, hB, h2, h3, h4, h5⟩ := h
  obtain ⟨f1, f2, f3, f4⟩ := hf
  have hD : FE n m (dD f) := by
    intro r hr
    obtain ⟨⟨b1, b2⟩, -⟩ := hB r hr
    have go : ∀ x y w : Nat, x < 10 → y < 10 → (∀ q : Nat, q ≤ 81 → f x = nI q → ∃ p : Nat, p ≤ q + w ∧ p ≤ 81 ∧ f y = nI p) → (∀ q : Nat, q ≤ 81 → f y = nI q → ∃ p : Nat, p ≤ q + w ∧ p ≤ 81 ∧ f x = nI p) → dD f y ≤ dD f x + w := by
      intro x y w hx hy g1 g2
      rcases f1 x hx with ex | ⟨q, hq, ex⟩
      · rcases f1 y hy with ey | ⟨p, hp, ey⟩
        · rw [dD_n ex, dD_n ey]; omega
        · obtain ⟨p', hp', hp2, e'⟩ := g2 p hp ey
          exact absurd (e'.symm.trans ex) (nI_m1 (by omega))
      · obtain ⟨p, hp, hp2, ey⟩ := g1 q hq ex
        rw [dD_y ex hq, dD_y ey hp2]; exact hp
    exact ⟨go _ _ _ b2 b1 (fun q hq => (f3 r hr q hq).2) (fun q hq => (f3 r hr q hq).1), go _ _ _ b1 b2 (fun q hq => (f3 r hr q hq).1) (fun q hq => (f3 r hr q hq).2)⟩
  have hD0 : dD f c = 0 := dD_y f2 (by omega)
  rcases f1 t ht with e | ⟨q, hq, e⟩
  · have hw : 1000 ≤ tv T c t := by
      refine Nat.le_of_not_lt (fun hl => ?_)
      have y := h4 c hc (dD f) hD0 hD t ht hl
      rw [dD_n e] at y; omega
    unfold vWy vFr
    rw [if_pos hw, e, if_pos (by decide)]
  · have up := f4 (tv T c) (h2 c hc) (h3 c hc) t q ht hq e
    have lo := h4 c hc (dD f) hD0 hD t ht (by omega)
    rw [dD_y e hq] at lo
    have eq : tv T c t = q := by omega
    unfold vWy vFr
    rw [eq, e, if_neg (by omega), if_neg (nI_pos (by omega))]
/-! ===== pure: class and model stand for the same realm; K: how many there are ===== -/
def ctT : List (Nat × Nat × Nat) := [(2, 0, 10), (101, 1, 20), (6, 2, 20), (8, 3, 20), (10, 4, 12), (14, 5, 40), (16, 6, 6), (18, 7, 30), (102, 8, 2000), (24, 10, 60), (22, 11, 20)]
def RCt (K : Nat → Nat) (I n : Nat → Int32) : Prop := (∀ q ∈ ctT, I q.1 = nI (K q.2.1) ∧ n q.2.1 = nI (K q.2.1) ∧ K q.2.1 ≤ q.2.2) ∧ I 103 = n 9
/-- nobody, or one of the first P -/
def vP (P : Nat) (x : Int32) : Prop := x = -1 ∨ ∃ p : Nat, p < P ∧ x = nI p
theorem vP.mono {P Q : Nat} {x : Int32} (h : vP P x) (hq : P ≤ Q) : vP Q x := by
  rcases h with h | ⟨p, h1, h2⟩
  · exact Or.inl h
  · exact Or.inr ⟨p, by omega, h2⟩
/-- a number of at most m -/
def nB (m : Nat) (x : Int32) : Prop := ∃ k : Nat, k ≤ m ∧ x = nI k
def RTw (K : Nat → Nat) (f n : Nat → Int32) : Prop := ∀ t : Nat, t < K 0 → (f (3 * t) = n (3 * t + 20) ∧ f (3 * t + 1) = n (3 * t + 21) ∧ f (3 * t + 2) = n (3 * t + 22)) ∧ nB 999 (n (3 * t + 20)) ∧ vP (K 2) (n (3 * t + 21)) ∧ nB 1 (n (3 * t + 22))
/-- living, or dead -/
def PLv (K : Nat → Nat) (f n : Nat → Int32) (p : Nat) : Prop :=
  (f (14 * p + 9) = 0 ∧ n (14 * p + 119) = -1 ∧ f (14 * p + 4) = n (14 * p + 114) ∧ (n (14 * p + 114) = -1 → (f (14 * p + 5) = n (14 * p + 115) ∧ f (14 * p + 6) = n (14 * p + 116)) ∧ (∃ t : Nat, t < K 0 ∧ n (14 * p + 115) = nI t) ∧ ∃ c : Nat, (K 8 < c ∧ c ≤ 4000) ∧ n (14 * p + 116) = nI c)) ∨
  (f (14 * p + 9) = 1 ∧ nB 2000 (n (14 * p + 119)) ∧ n (14 * p + 121) = 0)
/-- a day on which one may have been born -/
def bB (x : Int32) : Prop := ¬ x < -20000 ∧ ¬ 2000 < x
def RPe (K : Nat → Nat) (f n : Nat → Int32) : Prop := ∀ p : Nat, p < K 2 → (f (14 * p) = n (14 * p + 110) ∧ f (14 * p + 1) = n (14 * p + 111) ∧ f (14 * p + 2) = n (14 * p + 112) ∧ f (14 * p + 3) = n (14 * p + 113)) ∧
  (f (14 * p + 7) = n (14 * p + 117) ∧ f (14 * p + 8) = n (14 * p + 118) ∧ f (14 * p + 10) = n (14 * p + 120) ∧ f (14 * p + 12) = n (14 * p + 122) ∧ f (14 * p + 13) = n (14 * p + 121)) ∧ PLv K f n p ∧
  (vP (K 2) (n (14 * p + 112)) ∧ vP (K 2) (n (14 * p + 113)) ∧ vP (K 0) (n (14 * p + 114)) ∧ nB 1 (n (14 * p + 121)) ∧ nB 999 (n (14 * p + 122)) ∧ bB (n (14 * p + 111)))
/-- nobody, or one that lives -/
def vL (P : Nat) (n : Nat → Int32) (x : Int32) : Prop := x = -1 ∨ ∃ p : Nat, p < P ∧ x = nI p ∧ n (14 * p + 119) = -1
def RPw (K : Nat → Nat) (f n : Nat → Int32) : Prop := ∀ w : Nat, w < K 3 → (f (6 * w) = n (6 * w + 390) ∧ f (6 * w + 1) = n (6 * w + 394) ∧ f (6 * w + 2) = n (6 * w + 391) ∧ f (6 * w + 3) = n (6 * w + 392) ∧ f (6 * w + 4) = n (6 * w + 393)) ∧
  (n (6 * w + 390) = 2 → f (6 * w + 5) = n (6 * w + 395)) ∧ (n (6 * w + 390) ≠ 2 → f (6 * w + 5) = -1) ∧ nB 5 (n (6 * w + 390)) ∧ vL (K 2) n (n (6 * w + 391)) ∧ vL (K 2) n (n (6 * w + 392)) ∧ nB 19 (n (6 * w + 395)) ∧ (n (6 * w + 392) = -1 → n (6 * w + 393) = -1)
/-- a step of the class's code and of the model's -/
def cdM (c m : Int32) : Prop := (¬ c < 0 ∧ m = c) ∨ (∃ k : Nat, k < 11 ∧ c = -20 - nI k ∧ m = -1 - nI k) ∨ (c = -1 ∧ m = -133) ∨ (c = -2 ∧ m = -224) ∨ (c = -3 ∧ m = -138) ∨ (c = -4 ∧ m = -160) ∨ (c = -5 ∧ m = -161) ∨ (c = -6 ∧ m = -162) ∨ (c = -7 ∧ m = -143) ∨ (c = -8 ∧ m = -145)
/-- how many numbers wait behind the first i steps: never too few, never too many -/
def cdH (c : Nat → Int32) : Nat → Option Nat
  | 0 => some 0
  | i + 1 => match cdH c i with
    | none => none
    | some h => if -20 < c i ∧ c i < 0 then (if c i = -1 then (if 1 ≤ h then some h else none) else if 2 ≤ h then some (h - 1) else none) else if h < 60 then some (h + 1) else none
def RLa (K : Nat → Nat) (f g n : Nat → Int32) : Prop := ∀ l : Nat, l < K 4 → (f (6 * l) = n (65 * l + 510) ∧ f (6 * l + 1) = n (65 * l + 511) ∧ f (6 * l + 2) = n (65 * l + 512) ∧ f (6 * l + 3) = n (65 * l + 513)) ∧
  (∃ d : Nat, d ≤ K 8 ∧ n (65 * l + 512) = nI d ∧ ∀ l' : Nat, l' < l → ∃ d' : Nat, d' ≤ d ∧ n (65 * l' + 512) = nI d') ∧ (n (65 * l + 513) = -1 ∨ nB 2000 (n (65 * l + 513))) ∧
  ∃ e : Nat, e ≤ 60 ∧ f (6 * l + 4) = nI e ∧ n (65 * l + 514) = nI e ∧ (∀ i : Nat, i < e → cdM (g (60 * l + i)) (n (65 * l + (515 + i)))) ∧ cdH (fun i => g (60 * l + i)) e = some 1
def RLe (K : Nat → Nat) (f n : Nat → Int32) : Prop := ∀ e : Nat, e < K 5 → (f (12 * e) = n (12 * e + 1290) ∧ f (12 * e + 1) = n (12 * e + 1291) ∧ f (12 * e + 2) = n (12 * e + 1292) ∧ f (12 * e + 4) = n (12 * e + 1293) ∧ f (12 * e + 6) = n (12 * e + 1294)) ∧
  (f (12 * e + 8) = n (12 * e + 1295) ∧ f (12 * e + 9) = n (12 * e + 1296) ∧ f (12 * e + 10) = n (12 * e + 1297) ∧ f (12 * e + 11) = n (12 * e + 1298) ∧ f (12 * e + 5) = n (12 * e + 1299)) ∧
  (n (12 * e + 1294) = -1 → f (12 * e + 3) = n (12 * e + 1300)) ∧ (n (12 * e + 1294) ≠ -1 → f (12 * e + 7) = n (12 * e + 1300)) ∧
  (vP (K 2) (n (12 * e + 1294)) ∧ (∃ t : Nat, t < K 0 ∧ n (12 * e + 1300) = nI t) ∧ nB 4 (n (12 * e + 1291)) ∧ nB 999 (n (12 * e + 1292)) ∧ nB 1 (n (12 * e + 1298))) ∧ (¬ n (12 * e + 1296) < 0 → n (12 * e + 1294) ≠ -1)
def RDe (K : Nat → Nat) (f n : Nat → Int32) : Prop := ∀ d : Nat, d < K 6 → (f (5 * d) = n (6 * d + 1770) ∧ f (5 * d + 1) = n (6 * d + 1771) ∧ f (5 * d + 2) = n (6 * d + 1772) ∧ f (5 * d + 3) = n (6 * d + 1774) ∧ f (5 * d + 4) = n (6 * d + 1773)) ∧
  ∃ t m : Nat, t < K 0 ∧ n (6 * d + 1774) = nI t ∧ m ≤ K 8 ∧ n (6 * d + 1773) = nI m ∧ (2 ≤ m → n (3 * t + 22) = 1)
def RPr (K : Nat → Nat) (f n : Nat → Int32) : Prop := ∀ k : Nat, k < K 7 → (f (5 * k) = n (6 * k + 1806) ∧ f (5 * k + 1) = n (6 * k + 1807) ∧ f (5 * k + 2) = n (6 * k + 1808) ∧ f (5 * k + 3) = n (6 * k + 1809)) ∧
  (f (5 * k + 4) = 2 ↔ n (6 * k + 1810) = 1) ∧ (¬ n (6 * k + 1808) < nI (K 8) → (f (5 * k + 4) = 0 ↔ n (6 * k + 1810) = 0 ∧ n (6 * k + 1811) = 0)) ∧
  (∃ p : Nat, p < K 2 ∧ n (6 * k + 1806) = nI p) ∧ nB 2000 (n (6 * k + 1808)) ∧ nB 1 (n (6 * k + 1809)) ∧ nB 2 (f (5 * k + 4)) ∧ nB 1 (n (6 * k + 1810))
def RGu (f n : Nat → Int32) : Prop := ∀ j : Nat, j < 5 → f j = n (j + 1986) ∧ nB 6 (n (j + 1986))
def RWt (K : Nat → Nat) (f n : Nat → Int32) : Prop := ∀ j : Nat, j < K 11 → f j = n (j + 2051)
def RTa (K : Nat → Nat) (f n : Nat → Int32) : Prop := ∀ j : Nat, j < K 10 → f j = n (j + 1991) ∧ nB 255 (n (j + 1991))
/-- seated at most nine, and where there are persons there are towns -/
def RSe (K : Nat → Nat) (n : Nat → Int32) : Prop := pm_cnt (fun p => n (14 * p + 121) == 1) (K 2) ≤ 9 ∧ (1 ≤ K 2 → 1 ≤ K 0)
/-- a promise that stands is of one that is seated -/
def RPs0 (K : Nat → Nat) (f n : Nat → Int32) : Prop := ∀ k : Nat, k < K 7 → f (5 * k + 4) = 0 → ¬ n (6 * k + 1808) < nI (K 8) → ∃ p : Nat, p < K 2 ∧ n (6 * k + 1806) = nI p ∧ n (14 * p + 121) = 1
/-- of one person's promises for one cause all but the last have lapsed -/
def RPu (K : Nat → Nat) (n : Nat → Int32) : Prop := ∀ j k : Nat, j < k → k < K 7 → n (6 * j + 1806) = n (6 * k + 1806) → n (6 * j + 1807) = n (6 * k + 1807) → n (6 * j + 1811) = 1
def RPs (K : Nat → Nat) (f n : Nat → Int32) : Prop := RPs0 K f n ∧ RPu K n
/-- steps to THE CHILD -/
def SF (n : Nat → Int32) (P : Nat) (D : Nat → Nat) : Prop := ∀ p : Nat, p < P → ∀ c : Nat, c = 112 ∨ c = 113 → ∀ q : Nat, n (14 * p + c) = nI q → q < P → D p ≤ D q + 1 ∧ D q ≤ D p + 1
def RSt (K : Nat → Nat) (f n : Nat → Int32) : Prop := ∃ s : Nat → Nat, (∀ p : Nat, p < K 2 → f (14 * p + 11) = nI (s p) ∧ (s p ≤ 19 ∨ s p = 99)) ∧ (1 ≤ K 2 → s 0 = 0) ∧ SF n (K 2) s ∧ ∀ D : Nat → Nat, D 0 = 0 → SF n (K 2) D → ∀ p : Nat, p < K 2 → s p < 99 → D p ≤ s p
def RelR (K : Nat → Nat) (S : FS) (n : Nat → Int32) : Prop := RCt K S.1 n ∧ RTw K (S.2 3) n ∧ WQ1 (S.2 5) n (K 1) (K 0) ∧ RPe K (S.2 7) n ∧ RPw K (S.2 9) n ∧ RLa K (S.2 11) (S.2 13) n ∧ RLe K (S.2 15) n ∧ RDe K (S.2 17) n ∧ RPr K (S.2 19) n ∧ RGu (S.2 21) n ∧ RWt K (S.2 23) n ∧ RTa K (S.2 25) n ∧ RSe K n ∧ RSt K (S.2 7) n ∧ RPs K (S.2 19) n
end
section
/-! ===== pure: what leaves a part of the relation as it is ===== -/
section FRM
variable {K K' : Nat → Nat} {f f' g g' n n' : Nat → Int32}
theorem RTw.same (h : RTw K f n) (b : K 0 ≤ 10) (k0 : K' 0 = K 0) (k2 : K 2 ≤ K' 2) (hf : ∀ j : Nat, j < 30 → f' j = f j) (hn : ∀ j : Nat, 20 ≤ j → j < 50 → n' j = n j) : RTw K' f' n' := by
  intro t ht
  rw [k0] at ht
  obtain ⟨h1, h2, h3, h4⟩ := h t ht
  simp (disch := omega) only [hf, hn]
  exact ⟨h1, h2, h3.mono k2, h4⟩
theorem RPe.same (h : RPe K f n) (b : K 2 ≤ 20) (k0 : K 0 ≤ K' 0) (k2 : K' 2 = K 2) (k8 : K' 8 = K 8) (hf : ∀ j : Nat, j < 280 → f' j = f j) (hn : ∀ j : Nat, 110 ≤ j → j < 390 → n' j = n j) : RPe K' f' n' := by
  intro p hp
  rw [k2] at hp
  obtain ⟨h1, h2, h3, h4, h5, h6, h7⟩ := h p hp
  unfold PLv at h3 ⊢
  simp (disch := omega) only [hf, hn, k2, k8]
  refine ⟨h1, h2, ?_, h4, h5, h6.mono k0, h7⟩
  rcases h3 with ⟨a1, a2, a3, a4⟩ | a
  · refine Or.inl ⟨a1, a2, a3, fun q => ?_⟩
    obtain ⟨b1, ⟨t, b2, b3⟩, b4⟩ := a4 q
    exact ⟨b1, ⟨t, by omega, b3⟩, b4⟩
  · exact Or.inr a
theorem vL.same {P Q : Nat} {x : Int32} (h : vL P n x) (hP : P ≤ 20) (hq : P ≤ Q) (hn : ∀ j : Nat, 110 ≤ j → j < 390 → n' j = n j) : vL Q n' x := by
  rcases h with h | ⟨p, h1, h2, h3⟩
  · exact Or.inl h
  · exact Or.inr ⟨p, by omega, h2, by rw [hn _ (by omega) (by omega)]; exact h3⟩
theorem RPw.same (h : RPw K f n) (b : K 3 ≤ 20) (b2 : K 2 ≤ 20) (k3 : K' 3 = K 3) (k2 : K 2 ≤ K' 2) (hf : ∀ j : Nat, j < 120 → f' j = f j) (hn : ∀ j : Nat, 390 ≤ j → j < 510 → n' j = n j) (hv : ∀ x : Int32, vL (K 2) n x → vL (K' 2) n' x) : RPw K' f' n' := by
  intro w hw
  rw [k3] at hw
  obtain ⟨h1, h2, h3, h4, h5, h6, h7⟩ := h w hw
  simp (disch := omega) only [hf, hn]
  exact ⟨h1, h2, h3, h4, hv _ h5, hv _ h6, h7⟩
theorem RLa.same (h : RLa K f g n) (b : K 4 ≤ 12) (k4 : K' 4 = K 4) (k8 : K 8 ≤ K' 8) (hf : ∀ j : Nat, j < 72 → f' j = f j) (hg : ∀ j : Nat, j < 720 → g' j = g j) (hn : ∀ j : Nat, 510 ≤ j → j < 1290 → n' j = n j) : RLa K' f' g' n' := by
  intro l hl
  rw [k4] at hl
  obtain ⟨h1, ⟨d, d1, d2, d3⟩, h3, e, e1, e2, e3, e4, e5⟩ := h l hl
  simp (disch := omega) only [hf, hn]
  refine ⟨h1, ⟨d, by omega, d2, fun l' hl' => ?_⟩, h3, e, e1, e2, e3, fun i hi => ?_, ?_⟩
  · rw [hn _ (by omega) (by omega)]; exact d3 l' hl'
  · rw [hn _ (by omega) (by omega), hg _ (by omega)]; exact e4 i hi
  · rw [← e5]
    have key : ∀ i : Nat, i ≤ e → cdH (fun i => g' (60 * l + i)) i = cdH (fun i => g (60 * l + i)) i := by
      intro i
      induction i with
      | zero => intro _; rfl
      | succ i ih =>
        intro hi
        unfold cdH
        rw [ih (by omega)]
        have : g' (60 * l + i) = g (60 * l + i) := hg _ (by omega)
        simp only [this]
    exact key e (Nat.le_refl _)
theorem RLe.same (h : RLe K f n) (b : K 5 ≤ 40) (k5 : K' 5 = K 5) (k0 : K 0 ≤ K' 0) (k2 : K 2 ≤ K' 2) (hf : ∀ j : Nat, j < 480 → f' j = f j) (hn : ∀ j : Nat, 1290 ≤ j → j < 1770 → n' j = n j) : RLe K' f' n' := by
  intro e he
  rw [k5] at he
  obtain ⟨h1, h2, h3, h4, ⟨h5, ⟨t, t1, t2⟩, h6⟩, h7⟩ := h e he
  simp (disch := omega) only [hf, hn]
  exact ⟨h1, h2, h3, h4, ⟨h5.mono k2, ⟨t, by omega, t2⟩, h6⟩, h7⟩
theorem RDe.same (h : RDe K f n) (b : K 6 ≤ 6) (b0 : K 0 ≤ 10) (k6 : K' 6 = K 6) (k0 : K 0 ≤ K' 0) (k8 : K 8 ≤ K' 8) (hf : ∀ j : Nat, j < 30 → f' j = f j) (hn : ∀ j : Nat, 1770 ≤ j → j < 1806 → n' j = n j) (ht : ∀ t : Nat, t < K 0 → n (3 * t + 22) = 1 → n' (3 * t + 22) = 1) : RDe K' f' n' := by
  intro d hd
  rw [k6] at hd
  obtain ⟨h1, t, m, t1, t2, m1, m2, m3⟩ := h d hd
  simp (disch := omega) only [hf, hn]
  exact ⟨h1, t, m, by omega, t2, by omega, m2, fun q => ht t t1 (m3 q)⟩
theorem RPr.same (h : RPr K f n) (b : K 7 ≤ 30) (k7 : K' 7 = K 7) (k2 : K 2 ≤ K' 2) (k8 : K' 8 = K 8) (hf : ∀ j : Nat, j < 150 → f' j = f j) (hn : ∀ j : Nat, 1806 ≤ j → j < 1986 → n' j = n j) : RPr K' f' n' := by
  intro k hk
  rw [k7] at hk
  obtain ⟨h1, h2, h3, ⟨p, h4, h5⟩, h6⟩ := h k hk
  simp (disch := omega) only [hf, hn, k8]
  exact ⟨h1, h2, h3, ⟨p, by omega, h5⟩, h6⟩
theorem RPs0.same (h : RPs0 K f n) (b : K 7 ≤ 30) (k7 : K' 7 = K 7) (k2 : K 2 ≤ K' 2) (k8 : K' 8 = K 8) (hf : ∀ j : Nat, j < 150 → f' j = f j) (hn : ∀ j : Nat, 1806 ≤ j → j < 1986 → n' j = n j) (hs : ∀ p : Nat, p < K 2 → n' (14 * p + 121) = n (14 * p + 121)) : RPs0 K' f' n' := by
  intro k hk
  rw [k7] at hk
  simp (disch := omega) only [hf, hn, k8]
  intro h1 h2
  obtain ⟨p, h3, h4, h5⟩ := h k hk h1 h2
  exact ⟨p, by omega, h4, by rw [hs p h3]; exact h5⟩
theorem RPu.mono (h : RPu K n) (b : K 7 ≤ 30) (k7 : K' 7 = K 7) (e : ∀ k : Nat, k < 30 → n' (6 * k + 1806) = n (6 * k + 1806) ∧ n' (6 * k + 1807) = n (6 * k + 1807)) (m : ∀ k : Nat, k < 30 → n (6 * k + 1811) = 1 → n' (6 * k + 1811) = 1) : RPu K' n' := by
  intro j k hj hk e1 e2
  rw [k7] at hk
  rw [(e j (by omega)).1, (e k (by omega)).1] at e1
  rw [(e j (by omega)).2, (e k (by omega)).2] at e2
  exact m j (by omega) (h j k hj hk e1 e2)
theorem RPu.same (h : RPu K n) (b : K 7 ≤ 30) (k7 : K' 7 = K 7) (hn : ∀ j : Nat, 1806 ≤ j → j < 1986 → n' j = n j) : RPu K' n' :=
  h.mono b k7 (fun k hk => ⟨hn _ (by omega) (by omega), hn _ (by omega) (by omega)⟩) (fun k hk q => by rw [hn _ (by omega) (by omega)]; exact q)
theorem RPs.same (h : RPs K f n) (b : K 7 ≤ 30) (k7 : K' 7 = K 7) (k2 : K 2 ≤ K' 2) (k8 : K' 8 = K 8) (hf : ∀ j : Nat, j < 150 → f' j = f j) (hn : ∀ j : Nat, 1806 ≤ j → j < 1986 → n' j = n j) (hs : ∀ p : Nat, p < K 2 → n' (14 * p + 121) = n (14 * p + 121)) : RPs K' f' n' := ⟨h.1.same b k7 k2 k8 hf hn hs, h.2.same b k7 hn⟩
theorem RGu.same (h : RGu f n) (hf : ∀ j : Nat, j < 5 → f' j = f j) (hn : ∀ j : Nat, 1986 ≤ j → j < 1991 → n' j = n j) : RGu f' n' := by
  intro j hj
  simp (disch := omega) only [hf, hn]
  exact h j hj
theorem RWt.same (h : RWt K f n) (b : K 11 ≤ 20) (k : K' 11 = K 11) (hf : ∀ j : Nat, j < 20 → f' j = f j) (hn : ∀ j : Nat, 2051 ≤ j → j < 2071 → n' j = n j) : RWt K' f' n' := by
  intro j hj
  rw [k] at hj
  simp (disch := omega) only [hf, hn]
  exact h j hj
theorem RTa.same (h : RTa K f n) (b : K 10 ≤ 60) (k : K' 10 = K 10) (hf : ∀ j : Nat, j < 60 → f' j = f j) (hn : ∀ j : Nat, 1991 ≤ j → j < 2051 → n' j = n j) : RTa K' f' n' := by
  intro j hj
  rw [k] at hj
  simp (disch := omega) only [hf, hn]
  exact h j hj
theorem pm_cnt_congr {p q : Nat → Bool} : ∀ {m : Nat}, (∀ j : Nat, j < m → p j = q j) → pm_cnt p m = pm_cnt q m
  | 0, _ => rfl
  | m + 1, h => by
    unfold pm_cnt
    rw [pm_cnt_congr (fun j hj => h j (by omega)), h m (by omega)]
theorem RSe.same (h : RSe K n) (b : K 2 ≤ 20) (k2 : K' 2 = K 2) (k0 : K 0 ≤ K' 0) (hn : ∀ p : Nat, p < K 2 → n' (14 * p + 121) = n (14 * p + 121)) : RSe K' n' := by
  refine ⟨?_, fun q => ?_⟩
  · rw [k2, pm_cnt_congr (q := fun p => n (14 * p + 121) == 1) (fun j hj => by rw [hn j hj])]; exact h.1
  · have := h.2 (by omega); omega
theorem SF.same {P : Nat} {D : Nat → Nat} (h : SF n P D) (hn : ∀ p : Nat, p < P → n' (14 * p + 112) = n (14 * p + 112) ∧ n' (14 * p + 113) = n (14 * p + 113)) : SF n' P D := by
  intro p hp c hc q e hq
  refine h p hp c hc q ?_ hq
  rcases hc with rfl | rfl
  · rw [← (hn p hp).1]; exact e
  · rw [← (hn p hp).2]; exact e
theorem RSt.same (h : RSt K f n) (b : K 2 ≤ 20) (k2 : K' 2 = K 2) (hf : ∀ p : Nat, p < K 2 → f' (14 * p + 11) = f (14 * p + 11)) (hn : ∀ p : Nat, p < K 2 → n' (14 * p + 112) = n (14 * p + 112) ∧ n' (14 * p + 113) = n (14 * p + 113)) : RSt K' f' n' := by
  obtain ⟨s, h1, h2, h3, h4⟩ := h
  refine ⟨s, ?_, ?_, ?_, ?_⟩
  · rw [k2]; intro p hp; rw [hf p hp]; exact h1 p hp
  · rw [k2]; exact h2
  · rw [k2]; exact h3.same hn
  · rw [k2]; intro D d0 dF p hp hs
    exact h4 D d0 (dF.same (fun p hp => ⟨(hn p hp).1.symm, (hn p hp).2.symm⟩)) p hp hs
end FRM
/-- the class's cells that are no realm: sheets, voices, images -/
def CX (S S' : FS) : Prop := (S'.2 49 = S.2 49 ∧ S'.2 50 = S.2 50 ∧ S'.2 52 = S.2 52 ∧ S'.2 47 = S.2 47) ∧ S'.1 115 = S.1 115 ∧ S'.1 100 = S.1 100
def MX (T T' : FS) : Prop := (T'.2 56 = T.2 56 ∧ T'.2 69 = T.2 69 ∧ T'.2 70 = T.2 70 ∧ T'.2 71 = T.2 71 ∧ T'.2 72 = T.2 72) ∧ T'.1 22 = T.1 22 ∧ T'.1 3 = T.1 3
def ctI : List Nat := [2, 101, 6, 8, 10, 14, 16, 18, 102, 24, 22, 103]
def ctA : List Nat := [3, 5, 7, 9, 11, 13, 15, 17, 19, 21, 23, 25]
def CE (S S' : FS) : Prop := CX S S' ∧ (∀ k ∈ ctI, S'.1 k = S.1 k) ∧ ∀ a ∈ ctA, S'.2 a = S.2 a
def ME (T T' : FS) : Prop := MX T T' ∧ T'.2 55 = T.2 55
theorem CX.rf {S : FS} : CX S S := ⟨⟨rfl, rfl, rfl, rfl⟩, rfl, rfl⟩
theorem MX.rf {S : FS} : MX S S := ⟨⟨rfl, rfl, rfl, rfl, rfl⟩, rfl, rfl⟩
theorem CE.rf {S : FS} : CE S S := ⟨CX.rf, fun _ _ => rfl, fun _ _ => rfl⟩
theorem ME.rf {S : FS} : ME S S := ⟨MX.rf, rfl⟩
theorem CX.tr {S S' S2 : FS} (h : CX S S') (g : CX S' S2) : CX S S2 := ⟨⟨g.1.1.trans h.1.1, g.1.2.1.trans h.1.2.1, g.1.2.2.1.trans h.1.2.2.1, g.1.2.2.2.trans h.1.2.2.2⟩, g.2.1.trans h.2.1, g.2.2.trans h.2.2⟩
theorem MX.tr {S S' S2 : FS} (h : MX S S') (g : MX S' S2) : MX S S2 := ⟨⟨g.1.1.trans h.1.1, g.1.2.1.trans h.1.2.1, g.1.2.2.1.trans h.1.2.2.1, g.1.2.2.2.1.trans h.1.2.2.2.1, g.1.2.2.2.2.trans h.1.2.2.2.2⟩, g.2.1.trans h.2.1, g.2.2.trans h.2.2⟩
theorem CE.tr {S S' S2 : FS} (h : CE S S') (g : CE S' S2) : CE S S2 := ⟨h.1.tr g.1, fun k hk => (g.2.1 k hk).trans (h.2.1 k hk), fun a ha => (g.2.2 a ha).trans (h.2.2 a ha)⟩
theorem ME.tr {S S' S2 : FS} (h : ME S S') (g : ME S' S2) : ME S S2 := ⟨h.1.tr g.1, g.2.trans h.2⟩
def cxI : List Nat := [115, 100, 2, 101, 6, 8, 10, 14, 16, 18, 102, 24, 22, 103]
def cxA : List Nat := [49, 50, 52, 47, 3, 5, 7, 9, 11, 13, 15, 17, 19, 21, 23, 25]
theorem CE.wI {S : FS} {k : Nat} {v : Int32} (h : cxI.all (fun q => q != k) = true) : CE S (wI S k v) := by
  simp only [cxI, List.all_cons, List.all_nil, Bool.and_true, Bool.and_eq_true, bne_iff_ne] at h
  obtain ⟨h1, h2, h3⟩ := h
  refine ⟨⟨⟨rfl, rfl, rfl, rfl⟩, wI_n h1, wI_n h2⟩, fun q hq => wI_n ?_, fun _ _ => rfl⟩
  have : ctI.all (fun q => q != k) = true := by
    simp only [ctI, List.all_cons, List.all_nil, Bool.and_true, Bool.and_eq_true, bne_iff_ne]; exact h3
  rw [List.all_eq_true] at this
  exact bne_iff_ne.mp (this q hq)
theorem CE.wA {S : FS} {a j : Nat} {v : Int32} (h : cxA.all (fun q => q != a) = true) : CE S (wA S a j v) := by
  simp only [cxA, List.all_cons, List.all_nil, Bool.and_true, Bool.and_eq_true, bne_iff_ne] at h
  obtain ⟨h1, h2, h3, h4, h5⟩ := h
  refine ⟨⟨⟨wA_n h1, wA_n h2, wA_n h3, wA_n h4⟩, rfl, rfl⟩, fun _ _ => rfl, fun q hq => wA_n ?_⟩
  have : ctA.all (fun q => q != a) = true := by
    simp only [ctA, List.all_cons, List.all_nil, Bool.and_true, Bool.and_eq_true, bne_iff_ne]; exact h5
  rw [List.all_eq_true] at this
  exact bne_iff_ne.mp (this q hq)
def mxA : List Nat := [56, 69, 70, 71, 72, 55]
theorem ME.wA {S : FS} {a j : Nat} {v : Int32} (h : mxA.all (fun q => q != a) = true) : ME S (wA S a j v) := by
  simp only [mxA, List.all_cons, List.all_nil, Bool.and_true, Bool.and_eq_true, bne_iff_ne] at h
  obtain ⟨h1, h2, h3, h4, h5, h6⟩ := h
  exact ⟨⟨⟨wA_n h1, wA_n h2, wA_n h3, wA_n h4, wA_n h5⟩, rfl, rfl⟩, wA_n h6⟩
theorem ME.wI {S : FS} {k : Nat} {v : Int32} (h1 : (22 : Nat) ≠ k) (h2 : (3 : Nat) ≠ k) : ME S (wI S k v) := ⟨⟨⟨rfl, rfl, rfl, rfl, rfl⟩, wI_n h1, wI_n h2⟩, rfl⟩
theorem RelR.ce {K : Nat → Nat} {S S' : FS} {n : Nat → Int32} (h : RelR K S n) (e : CE S S') : RelR K S' n := by
  obtain ⟨-, eI, eA⟩ := e
  obtain ⟨h1, h2⟩ := h
  have e3 := eA 3 (by decide)
  have e5 := eA 5 (by decide)
  have e7 := eA 7 (by decide)
  have e9 := eA 9 (by decide)
  have e11 := eA 11 (by decide)
  have e13 := eA 13 (by decide)
  have e15 := eA 15 (by decide)
  have e17 := eA 17 (by decide)
  have e19 := eA 19 (by decide)
  have e21 := eA 21 (by decide)
  have e23 := eA 23 (by decide)
  have e25 := eA 25 (by decide)
  refine ⟨⟨fun q hq => ?_, ?_⟩, ?_⟩
  · have h9 : ∀ q ∈ ctT, q.1 ∈ ctI := by decide
    rw [eI q.1 (h9 q hq)]; exact h1.1 q hq
  · rw [eI 103 (by decide)]; exact h1.2
  · rw [e3, e5, e7, e9, e11, e13, e15, e17, e19, e21, e23, e25]; exact h2
/-- both answer the same, and stand for the same again -/
def OK2 (S T : FS) (x y : Option (Int32 × FS)) : Prop := ∃ (v : Int32) (S' T' : FS), x = some (v, S') ∧ y = some (v, T') ∧ (∃ K' : Nat → Nat, RelR K' S' (T'.2 55)) ∧ CX S S' ∧ MX T T'
/-- both answer, and stand for the same again -/
def OK1 (S T : FS) (x y : Option (Int32 × FS)) : Prop := ∃ (v v' : Int32) (S' T' : FS), x = some (v, S') ∧ y = some (v', T') ∧ (∃ K' : Nat → Nat, RelR K' S' (T'.2 55)) ∧ CX S S' ∧ MX T T'
theorem OK2.one {S T : FS} {x y : Option (Int32 × FS)} (h : OK2 S T x y) : OK1 S T x y := by
  obtain ⟨v, S', T', h1, h2, h3⟩ := h
  exact ⟨v, v, S', T', h1, h2, h3⟩
theorem fb_id {x : Option (Int32 × FS)} : fb x (fun r => some (r.1, r.2)) = x := by cases x <;> rfl
section REL
variable {K : Nat → Nat} {S : FS} {n : Nat → Int32}
theorem RelR.ct (h : RelR K S n) (a i b : Nat) (hm : (a, i, b) ∈ ctT) : S.1 a = nI (K i) ∧ n i = nI (K i) ∧ K i ≤ b := h.1.1 (a, i, b) hm
theorem RelR.tw (h : RelR K S n) : RTw K (S.2 3) n := h.2.1
theorem RelR.wy (h : RelR K S n) : WQ1 (S.2 5) n (K 1) (K 0) := h.2.2.1
theorem RelR.pe (h : RelR K S n) : RPe K (S.2 7) n := h.2.2.2.1
theorem RelR.pw (h : RelR K S n) : RPw K (S.2 9) n := h.2.2.2.2.1
theorem RelR.la (h : RelR K S n) : RLa K (S.2 11) (S.2 13) n := h.2.2.2.2.2.1
theorem RelR.le (h : RelR K S n) : RLe K (S.2 15) n := h.2.2.2.2.2.2.1
theorem RelR.de (h : RelR K S n) : RDe K (S.2 17) n := h.2.2.2.2.2.2.2.1
theorem RelR.pr (h : RelR K S n) : RPr K (S.2 19) n := h.2.2.2.2.2.2.2.2.1
theorem RelR.gu (h : RelR K S n) : RGu (S.2 21) n := h.2.2.2.2.2.2.2.2.2.1
theorem RelR.wt (h : RelR K S n) : RWt K (S.2 23) n := h.2.2.2.2.2.2.2.2.2.2.1
theorem RelR.ta (h : RelR K S n) : RTa K (S.2 25) n := h.2.2.2.2.2.2.2.2.2.2.2.1
theorem RelR.se (h : RelR K S n) : RSe K n := h.2.2.2.2.2.2.2.2.2.2.2.2.1
theorem RelR.st (h : RelR K S n) : RSt K (S.2 7) n := h.2.2.2.2.2.2.2.2.2.2.2.2.2.1
theorem RelR.ps (h : RelR K S n) : RPs K (S.2 19) n := h.2.2.2.2.2.2.2.2.2.2.2.2.2.2
end REL
end
section
/-! ===== pure: findings; who is there ===== -/
theorem told_e (S : FS) (x : Int32) : ∃ S' : FS, f_X11_told S x = some (x, S') ∧ CE S S' := by
  unfold f_X11_told
  split
  · exact ⟨S, rfl, CE.rf⟩
  · next h1 =>
    split
    · exact ⟨S, rfl, CE.rf⟩
    · split
      · next h3 =>
        have hv := pm_told_in h1 (Int32.not_le.mpr h3)
        rw [ix_lit hv rfl]
        exact ⟨_, rfl, CE.wA (by decide)⟩
      · exact ⟨S, rfl, CE.rf⟩
theorem finds_1 (T : FS) : ∃ T' : FS, f_X12_finds T 1 = some (-1000001, T') ∧ ME T T' := ⟨_, rfl, ME.wA (by decide)⟩
theorem finds_2 (T : FS) : ∃ T' : FS, f_X12_finds T 2 = some (-1000002, T') ∧ ME T T' := ⟨_, rfl, ME.wA (by decide)⟩
theorem finds_3 (T : FS) : ∃ T' : FS, f_X12_finds T 3 = some (-1000003, T') ∧ ME T T' := ⟨_, rfl, ME.wA (by decide)⟩
theorem finds_4 (T : FS) : ∃ T' : FS, f_X12_finds T 4 = some (-1000004, T') ∧ ME T T' := ⟨_, rfl, ME.wA (by decide)⟩
theorem finds_5 (T : FS) : ∃ T' : FS, f_X12_finds T 5 = some (-1000005, T') ∧ ME T T' := ⟨_, rfl, ME.wA (by decide)⟩
section BAS
variable {K : Nat → Nat} {S T S1 T1 : FS}
theorem ok0 {v : Int32} (h : RelR K S1 (T1.2 55)) (cx : CX S S1) (mx : MX T T1) : OK2 S T (some (v, S1)) (some (v, T1)) := ⟨v, S1, T1, rfl, rfl, ⟨K, h⟩, cx, mx⟩
theorem okf {v : Int32} {y : Option (Int32 × FS)} (h : RelR K S1 (T1.2 55)) (cx : CX S S1) (mx : MX T T1) (hy : ∃ T' : FS, y = some (v, T') ∧ ME T1 T') : OK2 S T (f_X11_told S1 v) y := by
  obtain ⟨S', e1, c1⟩ := told_e S1 v
  obtain ⟨T', e2, c2⟩ := hy
  exact ⟨v, S', T', e1, e2, ⟨K, by rw [c2.2]; exact h.ce c1⟩, cx.tr c1.1, mx.tr c2.1⟩
theorem okt {v : Int32} (h : RelR K S1 (T1.2 55)) (cx : CX S S1) (mx : MX T T1) : OK2 S T (f_X11_told S1 v) (some (v, T1)) := okf h cx mx ⟨T1, rfl, ME.rf⟩
theorem ok_1 (h : RelR K S (T.2 55)) : OK2 S T (f_X11_told S (-1000001)) (f_X12_finds T 1) := okf h CX.rf MX.rf (finds_1 T)
theorem ok_2 (h : RelR K S (T.2 55)) : OK2 S T (f_X11_told S (-1000002)) (f_X12_finds T 2) := okf h CX.rf MX.rf (finds_2 T)
theorem ok_3 (h : RelR K S (T.2 55)) : OK2 S T (f_X11_told S (-1000003)) (f_X12_finds T 3) := okf h CX.rf MX.rf (finds_3 T)
theorem ok_4 (h : RelR K S (T.2 55)) : OK2 S T (f_X11_told S (-1000004)) (f_X12_finds T 4) := okf h CX.rf MX.rf (finds_4 T)
theorem ok_5 (h : RelR K S (T.2 55)) : OK2 S T (f_X11_told S (-1000005)) (f_X12_finds T 5) := okf h CX.rf MX.rf (finds_5 T)
end BAS
theorem in_out {T : FS} {x a b : Int32} : p_X12_in T x a b = if fOut x a b = 0 then 1 else 0 := by
  unfold p_X12_in fOut
  by_cases h1 : x < a
  · rw [if_pos h1, if_pos (Or.inl h1), if_neg (by decide)]
  · rw [if_neg h1]
    by_cases h2 : b < x
    · rw [if_pos h2, if_pos (Or.inr h2), if_neg (by decide)]
    · rw [if_neg h2, show (if x < a ∨ b < x then (1 : Int32) else 0) = 0 from if_neg (fun q => q.elim h1 h2), if_pos rfl]
theorem out_c (x a b : Int32) : (fOut x a b = 0 ∧ ∀ T : FS, p_X12_in T x a b = 1) ∨ (fOut x a b = 1 ∧ ∀ T : FS, p_X12_in T x a b = 0) := by
  by_cases c : x < a ∨ b < x
  · right
    have : fOut x a b = 1 := by unfold fOut; rw [if_pos c]
    exact ⟨this, fun T => by rw [in_out, this, if_neg (by decide)]⟩
  · left
    have : fOut x a b = 0 := by unfold fOut; rw [if_neg c]
    exact ⟨this, fun T => by rw [in_out, this, if_pos rfl]⟩
theorem cnt_c (x : Int32) {k : Nat} (hk : k < 2 ^ 30) : ((x < 0 ∨ nI k ≤ x) ∧ ∀ T : FS, p_X12_in T x 0 (nI k - 1) = 0) ∨ ∃ j : Nat, j < k ∧ x = nI j ∧ ∀ T : FS, p_X12_in T x 0 (nI k - 1) = 1 := by
  have h1 : (nI k - 1 : Int32).toInt = (k : Int) - 1 := pk_sub_toInt (a := k) (b := 1) (by omega) (by decide)
  rcases pk_ix x (n := k) (by omega) with h | h | ⟨j, hj, rfl⟩
  · left
    exact ⟨Or.inl h, fun T => by unfold p_X12_in; rw [if_pos h]⟩
  · left
    refine ⟨Or.inr h, fun T => ?_⟩
    unfold p_X12_in
    have h2 : nI k - 1 < x := by
      rw [Int32.lt_iff_toInt_lt, h1]
      rw [Int32.le_iff_toInt_le, nI_toInt (by omega)] at h
      omega
    by_cases c : x < 0
    · rw [if_pos c]
    · rw [if_neg c, if_pos h2]
  · right
    refine ⟨j, hj, rfl, fun T => ?_⟩
    unfold p_X12_in
    rw [if_neg (nI_pos (by omega)), if_neg]
    rw [Int32.lt_iff_toInt_lt, h1, nI_toInt (by omega)]
    omega
section WHO
variable {K : Nat → Nat} {S T : FS}
theorem RelR.per (h : RelR K S (T.2 55)) (x : Int32) : (fHas 6 S x = 0 ∧ p_X12_isPerson T x = 0) ∨ ∃ p : Nat, p < K 2 ∧ x = nI p ∧ fHas 6 S x = 1 ∧ p_X12_isPerson T x = 1 := by
  obtain ⟨h1, h2, h3⟩ := h.ct 6 2 20 (by decide)
  unfold p_X12_isPerson
  rw [h2]
  rcases cnt_c x (k := K 2) (by omega) with ⟨a, b⟩ | ⟨p, a, rfl, b⟩
  · exact Or.inl ⟨fHas_f h1 a, b T⟩
  · exact Or.inr ⟨p, a, rfl, fHas_t h1 a (by omega), b T⟩
theorem RelR.twn (h : RelR K S (T.2 55)) (x : Int32) : (fHas 2 S x = 0 ∧ p_X12_isTown T x = 0) ∨ ∃ p : Nat, p < K 0 ∧ x = nI p ∧ fHas 2 S x = 1 ∧ p_X12_isTown T x = 1 := by
  obtain ⟨h1, h2, h3⟩ := h.ct 2 0 10 (by decide)
  unfold p_X12_isTown
  rw [h2]
  rcases cnt_c x (k := K 0) (by omega) with ⟨a, b⟩ | ⟨p, a, rfl, b⟩
  · exact Or.inl ⟨fHas_f h1 a, b T⟩
  · exact Or.inr ⟨p, a, rfl, fHas_t h1 a (by omega), b T⟩
theorem RelR.pow (h : RelR K S (T.2 55)) (x : Int32) : (fHas 8 S x = 0 ∧ p_X12_isPower T x = 0) ∨ ∃ p : Nat, p < K 3 ∧ x = nI p ∧ fHas 8 S x = 1 ∧ p_X12_isPower T x = 1 := by
  obtain ⟨h1, h2, h3⟩ := h.ct 8 3 20 (by decide)
  unfold p_X12_isPower
  rw [h2]
  rcases cnt_c x (k := K 3) (by omega) with ⟨a, b⟩ | ⟨p, a, rfl, b⟩
  · exact Or.inl ⟨fHas_f h1 a, b T⟩
  · exact Or.inr ⟨p, a, rfl, fHas_t h1 a (by omega), b T⟩
theorem RelR.law (h : RelR K S (T.2 55)) (x : Int32) : (fHas 10 S x = 0 ∧ p_X12_isLaw T x = 0) ∨ ∃ p : Nat, p < K 4 ∧ x = nI p ∧ fHas 10 S x = 1 ∧ p_X12_isLaw T x = 1 := by
  obtain ⟨h1, h2, h3⟩ := h.ct 10 4 12 (by decide)
  unfold p_X12_isLaw
  rw [h2]
  rcases cnt_c x (k := K 4) (by omega) with ⟨a, b⟩ | ⟨p, a, rfl, b⟩
  · exact Or.inl ⟨fHas_f h1 a, b T⟩
  · exact Or.inr ⟨p, a, rfl, fHas_t h1 a (by omega), b T⟩
theorem RelR.let' (h : RelR K S (T.2 55)) (x : Int32) : (fHas 14 S x = 0 ∧ p_X12_isLetter T x = 0) ∨ ∃ p : Nat, p < K 5 ∧ x = nI p ∧ fHas 14 S x = 1 ∧ p_X12_isLetter T x = 1 := by
  obtain ⟨h1, h2, h3⟩ := h.ct 14 5 40 (by decide)
  unfold p_X12_isLetter
  rw [h2]
  rcases cnt_c x (k := K 5) (by omega) with ⟨a, b⟩ | ⟨p, a, rfl, b⟩
  · exact Or.inl ⟨fHas_f h1 a, b T⟩
  · exact Or.inr ⟨p, a, rfl, fHas_t h1 a (by omega), b T⟩
theorem RelR.deb (h : RelR K S (T.2 55)) (x : Int32) : (fHas 16 S x = 0 ∧ p_X12_in T x 0 (T.2 55 6 - 1) = 0) ∨ ∃ p : Nat, p < K 6 ∧ x = nI p ∧ fHas 16 S x = 1 ∧ p_X12_in T x 0 (T.2 55 6 - 1) = 1 := by
  obtain ⟨h1, h2, h3⟩ := h.ct 16 6 6 (by decide)
  rw [h2]
  rcases cnt_c x (k := K 6) (by omega) with ⟨a, b⟩ | ⟨p, a, rfl, b⟩
  · exact Or.inl ⟨fHas_f h1 a, b T⟩
  · exact Or.inr ⟨p, a, rfl, fHas_t h1 a (by omega), b T⟩
theorem RelR.pro (h : RelR K S (T.2 55)) (x : Int32) : (fHas 18 S x = 0 ∧ p_X12_in T x 0 (T.2 55 7 - 1) = 0) ∨ ∃ p : Nat, p < K 7 ∧ x = nI p ∧ fHas 18 S x = 1 ∧ p_X12_in T x 0 (T.2 55 7 - 1) = 1 := by
  obtain ⟨h1, h2, h3⟩ := h.ct 18 7 30 (by decide)
  rw [h2]
  rcases cnt_c x (k := K 7) (by omega) with ⟨a, b⟩ | ⟨p, a, rfl, b⟩
  · exact Or.inl ⟨fHas_f h1 a, b T⟩
  · exact Or.inr ⟨p, a, rfl, fHas_t h1 a (by omega), b T⟩
/-- who lives, on both sides -/
theorem RelR.liv (h : RelR K S (T.2 55)) {p : Nat} (hp : p < K 2) : (T.2 55 (14 * p + 119) = -1 ∧ p_X7_isLiving S (nI p) = 1 ∧ q_X12_lives T (nI p) = some 1) ∨ (T.2 55 (14 * p + 119) ≠ -1 ∧ T.2 55 (14 * p + 121) = 0 ∧ S.2 7 (14 * p + 9) = 1 ∧ p_X7_isLiving S (nI p) = 0 ∧ q_X12_lives T (nI p) = some 0) := by
  obtain ⟨h1, h2, h3⟩ := h.ct 6 2 20 (by decide)
  have hc := fHas_t h1 hp (by omega)
  unfold p_X7_isLiving q_X12_lives
  rw [hc, if_neg (by decide), g6_9 (by omega), man_9 (by omega), fb_s]
  rcases (h.pe p hp).2.2.1 with ⟨a1, a2, -⟩ | ⟨a1, ⟨d, d1, d2⟩, a3⟩
  · left
    rw [a1, a2, if_pos rfl, if_pos (by decide)]; exact ⟨rfl, rfl, rfl⟩
  · right
    rw [a1, d2, if_neg (by decide), if_neg (nI_pos (by omega))]
    exact ⟨nI_m1 (by omega), a3, rfl, rfl, rfl⟩
end WHO
theorem i10 : ((1 : Int32) = 0) = False := eq_false (by decide)
theorem ltm1 : ((-1 : Int32) < 0) = True := eq_true (by decide)
theorem ltm2 : ((-1000002 : Int32) < 0) = True := eq_true (by decide)
theorem ltm3 : ((-1000003 : Int32) < 0) = True := eq_true (by decide)
theorem i00 : ((0 : Int32) = 0) = True := eq_true rfl
theorem i01 : ((0 : Int32) = 1) = False := eq_false (by decide)
end
section
/-! ===== pure: one part of the realm is written ===== -/
def CQ (as : List Nat) (s : Nat) (S S' : FS) : Prop := CX S S' ∧ (∀ k ∈ ctI, k ≠ 103 → k ≠ s → S'.1 k = S.1 k) ∧ ∀ q ∈ ctA, q ∉ as → S'.2 q = S.2 q
section CQS
variable {as : List Nat} {s : Nat} {S S' S2 : FS}
theorem CQ.rf : CQ as s S S := ⟨CX.rf, fun _ _ _ _ => rfl, fun _ _ _ => rfl⟩
theorem CQ.tr (h : CQ as s S S') (g : CQ as s S' S2) : CQ as s S S2 := ⟨h.1.tr g.1, fun k hk h3 h4 => (g.2.1 k hk h3 h4).trans (h.2.1 k hk h3 h4), fun q hq h3 => (g.2.2 q hq h3).trans (h.2.2 q hq h3)⟩
theorem CQ.ce (h : CE S S') : CQ as s S S' := ⟨h.1, fun k hk _ _ => h.2.1 k hk, fun q hq _ => h.2.2 q hq⟩
theorem CQ.wA {a j : Nat} {v : Int32} (h : CQ as s S S') (ha : a ∈ as) (hx : [49, 50, 52, 47].all (fun q => q != a) = true) : CQ as s S (wA S' a j v) := by
  simp only [List.all_cons, List.all_nil, Bool.and_true, Bool.and_eq_true, bne_iff_ne] at hx
  exact h.tr ⟨⟨⟨wA_n hx.1, wA_n hx.2.1, wA_n hx.2.2.1, wA_n hx.2.2.2⟩, rfl, rfl⟩, fun _ _ _ _ => rfl, fun q _ hq => wA_n (fun e => hq (by rw [e]; exact ha))⟩
theorem CQ.uA {a : Nat} {g : Nat → Int32} (h : CQ as s S S') (ha : a ∈ as) (hx : [49, 50, 52, 47].all (fun q => q != a) = true) : CQ as s S (S'.1, ua S'.2 a g) := by
  simp only [List.all_cons, List.all_nil, Bool.and_true, Bool.and_eq_true, bne_iff_ne] at hx
  exact h.tr ⟨⟨⟨ua_ne hx.1, ua_ne hx.2.1, ua_ne hx.2.2.1, ua_ne hx.2.2.2⟩, rfl, rfl⟩, fun _ _ _ _ => rfl, fun q _ hq => ua_ne (fun e => hq (by rw [e]; exact ha))⟩
theorem CQ.wI {v : Int32} {k : Nat} (h : CQ as s S S') (hk : k = 103 ∨ k = s) (h1 : (115 : Nat) ≠ k) (h2 : (100 : Nat) ≠ k) : CQ as s S (wI S' k v) :=
  h.tr ⟨⟨⟨rfl, rfl, rfl, rfl⟩, wI_n h1, wI_n h2⟩, fun q _ q1 q2 => wI_n (by rcases hk with rfl | rfl; exact q1; exact q2), fun _ _ _ => rfl⟩
theorem CQ.app {a : Nat} {v : Int32} {g : Nat → Int32} (h : CQ as s S S') (ha : a ∈ as) (hx : [49, 50, 52, 47].all (fun q => q != a) = true) (h1 : (115 : Nat) ≠ s) (h2 : (100 : Nat) ≠ s) : CQ as s S (ui S'.1 s v, ua S'.2 a g) := by
  simp only [List.all_cons, List.all_nil, Bool.and_true, Bool.and_eq_true, bne_iff_ne] at hx
  exact h.tr ⟨⟨⟨ua_ne hx.1, ua_ne hx.2.1, ua_ne hx.2.2.1, ua_ne hx.2.2.2⟩, ui_ne h1, ui_ne h2⟩, fun _ _ _ q2 => ui_ne q2, fun q _ hq => ua_ne (fun e => hq (by rw [e]; exact ha))⟩
end CQS
def NQ (lo hi c : Nat) (n n' : Nat → Int32) : Prop := ∀ j : Nat, ¬ (lo ≤ j ∧ j < hi) → j ≠ 9 → j ≠ c → n' j = n j
theorem NQ.rf {lo hi c : Nat} {n : Nat → Int32} : NQ lo hi c n n := fun _ _ _ _ => rfl
theorem NQ.w {lo hi c e : Nat} {n n' : Nat → Int32} {v : Int32} (h : NQ lo hi c n n') (he : (lo ≤ e ∧ e < hi) ∨ e = 9 ∨ e = c) : NQ lo hi c n (upd n' e v) := fun j h1 h2 h3 => by
  rw [pk_un (by rcases he with he | he | he <;> (intro q; subst q; first | exact h1 he | exact h2 he | exact h3 he))]; exact h j h1 h2 h3
theorem WQ1.no {n n' f f' : Nat → Int32} {m m' u u' : Nat} (h : WQ1 f n m u) (hm : m' = m) (b : m ≤ 20) (hu : u ≤ u') (e : f' = f) (hn : ∀ j : Nat, 50 ≤ j → j < 110 → n' j = n j) : WQ1 f' n' m' u' := by
  subst hm; exact h.same hu (fun _ _ => by rw [e]) (fun j h1 h2 => hn j h1 (by omega))
theorem RCt.cq {K K' : Nat → Nat} {S S' : FS} {n n' : Nat → Int32} {as : List Nat} {s lo hi c : Nat} (h : RelR K S n) (cq : CQ as s S S') (nq : NQ lo hi c n n') (hlo : 12 ≤ lo) (hK : ∀ i : Nat, i ≠ c → K' i = K i) (hc : S'.1 103 = n' 9)
    (hs : ∀ q ∈ ctT, q.1 = s ∨ q.2.1 = c → S'.1 q.1 = nI (K' q.2.1) ∧ n' q.2.1 = nI (K' q.2.1) ∧ K' q.2.1 ≤ q.2.2) : RCt K' S'.1 n' := by
  refine ⟨fun q hq => ?_, hc⟩
  have h9 : ∀ q ∈ ctT, q.1 ∈ ctI ∧ q.1 ≠ 103 ∧ q.2.1 < 12 ∧ q.2.1 ≠ 9 := by decide
  obtain ⟨a1, a2, a3, a4⟩ := h9 q hq
  by_cases e : q.1 = s ∨ q.2.1 = c
  · exact hs q hq e
  · have e1 : q.1 ≠ s := fun z => e (Or.inl z)
    have e2 : q.2.1 ≠ c := fun z => e (Or.inr z)
    rw [cq.2.1 q.1 a1 a2 e1, nq _ (by omega) a4 e2, hK _ e2]; exact h.1.1 q hq
/-- no counter is written -/
theorem noct {K' : Nat → Nat} {S' : FS} {n' : Nat → Int32} : ∀ q ∈ ctT, q.1 = 103 ∨ q.2.1 = 9 → S'.1 q.1 = nI (K' q.2.1) ∧ n' q.2.1 = nI (K' q.2.1) ∧ K' q.2.1 ≤ q.2.2 := by
  intro q hq
  have h9 : ∀ q ∈ ctT, ¬ (q.1 = 103 ∨ q.2.1 = 9) := by decide
  exact fun e => absurd e (h9 q hq)
theorem onct {K' : Nat → Nat} {S' : FS} {n' : Nat → Int32} (s c b : Nat) (hm : ctT.all (fun q => (q.1 == s) == (q.2.1 == c) && (q.1 != s || q.2.2 == b)) = true) (h1 : S'.1 s = nI (K' c)) (h2 : n' c = nI (K' c)) (h3 : K' c ≤ b) : ∀ q ∈ ctT, q.1 = s ∨ q.2.1 = c → S'.1 q.1 = nI (K' q.2.1) ∧ n' q.2.1 = nI (K' q.2.1) ∧ K' q.2.1 ≤ q.2.2 := by
  intro q hq e
  rw [List.all_eq_true] at hm
  have h4 := hm q hq
  simp only [Bool.and_eq_true, beq_iff_eq, Bool.or_eq_true, bne_iff_ne] at h4
  obtain ⟨h5, h6⟩ := h4
  have e1 : q.1 = s := by
    rcases e with e | e
    · exact e
    · have : (q.1 == s) = true := by rw [h5, e]; simp
      exact beq_iff_eq.mp this
  have e2 : q.2.1 = c := by
    have : (q.2.1 == c) = true := by rw [← h5, e1]; simp
    exact beq_iff_eq.mp this
  have e3 : q.2.2 = b := h6.resolve_left (fun z => z e1)
  rw [e1, e2, e3]; exact ⟨h1, h2, h3⟩
theorem RelR.onT {K : Nat → Nat} {S S' : FS} {n n' : Nat → Int32} (h : RelR K S n) (cq : CQ [3] 103 S S') (nq : NQ 20 50 9 n n') (hc : S'.1 103 = n' 9) (htw : RTw K (S'.2 3) n') (ht : ∀ t : Nat, t < K 0 → n (3 * t + 22) = 1 → n' (3 * t + 22) = 1) : RelR K S' n' := by
  have hK : ∀ i : Nat, i ≠ 9 → K i = K i := fun _ _ => rfl
  have hct := noct (K' := K) (S' := S') (n' := n')
  have c0 := (h.ct 2 0 10 (by decide)).2.2
  have c1 := (h.ct 101 1 20 (by decide)).2.2
  have c2 := (h.ct 6 2 20 (by decide)).2.2
  have c3 := (h.ct 8 3 20 (by decide)).2.2
  have c4 := (h.ct 10 4 12 (by decide)).2.2
  have c5 := (h.ct 14 5 40 (by decide)).2.2
  have c6 := (h.ct 16 6 6 (by decide)).2.2
  have c7 := (h.ct 18 7 30 (by decide)).2.2
  have c10 := (h.ct 24 10 60 (by decide)).2.2
  have c11 := (h.ct 22 11 20 (by decide)).2.2
  have eA := fun q hq h3 => cq.2.2 q hq h3
  refine ⟨RCt.cq h cq nq (by decide) hK hc hct, htw, ?_, ?_, ?_, ?_, ?_, ?_, ?_, ?_, ?_, ?_, ?_, ?_, ?_⟩
  · exact h.wy.no (hK 1 (by decide)) c1 (Nat.le_of_eq (hK 0 (by decide)).symm) (eA 5 (by decide) (by decide)) (fun j h1 h2 => nq j (by omega) (by omega) (by omega))
  · exact h.pe.same c2 (Nat.le_of_eq (hK 0 (by decide)).symm) (hK 2 (by decide)) (hK 8 (by decide)) (fun _ _ => by rw [eA 7 (by decide) (by decide)]) (fun j h1 h2 => nq j (by omega) (by omega) (by omega))
  · exact h.pw.same c3 c2 (hK 3 (by decide)) (Nat.le_of_eq (hK 2 (by decide)).symm) (fun _ _ => by rw [eA 9 (by decide) (by decide)]) (fun j h1 h2 => nq j (by omega) (by omega) (by omega)) (fun x hx => hx.same c2 (Nat.le_of_eq (hK 2 (by decide)).symm) (fun j h1 h2 => nq j (by omega) (by omega) (by omega)))
  · exact h.la.same c4 (hK 4 (by decide)) (Nat.le_of_eq (hK 8 (by decide)).symm) (fun _ _ => by rw [eA 11 (by decide) (by decide)]) (fun _ _ => by rw [eA 13 (by decide) (by decide)]) (fun j h1 h2 => nq j (by omega) (by omega) (by omega))
  · exact h.le.same c5 (hK 5 (by decide)) (Nat.le_of_eq (hK 0 (by decide)).symm) (Nat.le_of_eq (hK 2 (by decide)).symm) (fun _ _ => by rw [eA 15 (by decide) (by decide)]) (fun j h1 h2 => nq j (by omega) (by omega) (by omega))
  · exact h.de.same c6 c0 (hK 6 (by decide)) (Nat.le_of_eq (hK 0 (by decide)).symm) (Nat.le_of_eq (hK 8 (by decide)).symm) (fun _ _ => by rw [eA 17 (by decide) (by decide)]) (fun j h1 h2 => nq j (by omega) (by omega) (by omega)) ht
  · exact h.pr.same c7 (hK 7 (by decide)) (Nat.le_of_eq (hK 2 (by decide)).symm) (hK 8 (by decide)) (fun _ _ => by rw [eA 19 (by decide) (by decide)]) (fun j h1 h2 => nq j (by omega) (by omega) (by omega))
  · exact h.gu.same (fun _ _ => by rw [eA 21 (by decide) (by decide)]) (fun j h1 h2 => nq j (by omega) (by omega) (by omega))
  · exact h.wt.same c11 (hK 11 (by decide)) (fun _ _ => by rw [eA 23 (by decide) (by decide)]) (fun j h1 h2 => nq j (by omega) (by omega) (by omega))
  · exact h.ta.same c10 (hK 10 (by decide)) (fun _ _ => by rw [eA 25 (by decide) (by decide)]) (fun j h1 h2 => nq j (by omega) (by omega) (by omega))
  · exact h.se.same c2 (hK 2 (by decide)) (Nat.le_of_eq (hK 0 (by decide)).symm) (fun p hp => nq _ (by omega) (by omega) (by omega))
  · exact h.st.same c2 (hK 2 (by decide)) (fun p hp => by rw [eA 7 (by decide) (by decide)]) (fun p hp => ⟨nq _ (by omega) (by omega) (by omega), nq _ (by omega) (by omega) (by omega)⟩)
  · exact h.ps.same c7 (hK 7 (by decide)) (Nat.le_of_eq (hK 2 (by decide)).symm) (hK 8 (by decide)) (fun _ _ => by rw [eA 19 (by decide) (by decide)]) (fun j h1 h2 => nq j (by omega) (by omega) (by omega)) (fun p hp => nq _ (by omega) (by omega) (by omega))
theorem RelR.onR {K : Nat → Nat} {S S' : FS} {n n' : Nat → Int32} (h : RelR K S n) (cq : CQ [5] 103 S S') (nq : NQ 50 110 9 n n') (hc : S'.1 103 = n' 9) (hwy : WQ1 (S'.2 5) n' (K 1) (K 0)) : RelR K S' n' := by
  have hK : ∀ i : Nat, i ≠ 9 → K i = K i := fun _ _ => rfl
  have hct := noct (K' := K) (S' := S') (n' := n')
  have c0 := (h.ct 2 0 10 (by decide)).2.2
  have c1 := (h.ct 101 1 20 (by decide)).2.2
  have c2 := (h.ct 6 2 20 (by decide)).2.2
  have c3 := (h.ct 8 3 20 (by decide)).2.2
  have c4 := (h.ct 10 4 12 (by decide)).2.2
  have c5 := (h.ct 14 5 40 (by decide)).2.2
  have c6 := (h.ct 16 6 6 (by decide)).2.2
  have c7 := (h.ct 18 7 30 (by decide)).2.2
  have c10 := (h.ct 24 10 60 (by decide)).2.2
  have c11 := (h.ct 22 11 20 (by decide)).2.2
  have eA := fun q hq h3 => cq.2.2 q hq h3
  refine ⟨RCt.cq h cq nq (by decide) hK hc hct, ?_, hwy, ?_, ?_, ?_, ?_, ?_, ?_, ?_, ?_, ?_, ?_, ?_, ?_⟩
  · exact h.tw.same c0 (hK 0 (by decide)) (Nat.le_of_eq (hK 2 (by decide)).symm) (fun _ _ => by rw [eA 3 (by decide) (by decide)]) (fun j h1 h2 => nq j (by omega) (by omega) (by omega))
  · exact h.pe.same c2 (Nat.le_of_eq (hK 0 (by decide)).symm) (hK 2 (by decide)) (hK 8 (by decide)) (fun _ _ => by rw [eA 7 (by decide) (by decide)]) (fun j h1 h2 => nq j (by omega) (by omega) (by omega))
  · exact h.pw.same c3 c2 (hK 3 (by decide)) (Nat.le_of_eq (hK 2 (by decide)).symm) (fun _ _ => by rw [eA 9 (by decide) (by decide)]) (fun j h1 h2 => nq j (by omega) (by omega) (by omega)) (fun x hx => hx.same c2 (Nat.le_of_eq (hK 2 (by decide)).symm) (fun j h1 h2 => nq j (by omega) (by omega) (by omega)))
  · exact h.la.same c4 (hK 4 (by decide)) (Nat.le_of_eq (hK 8 (by decide)).symm) (fun _ _ => by rw [eA 11 (by decide) (by decide)]) (fun _ _ => by rw [eA 13 (by decide) (by decide)]) (fun j h1 h2 => nq j (by omega) (by omega) (by omega))
  · exact h.le.same c5 (hK 5 (by decide)) (Nat.le_of_eq (hK 0 (by decide)).symm) (Nat.le_of_eq (hK 2 (by decide)).symm) (fun _ _ => by rw [eA 15 (by decide) (by decide)]) (fun j h1 h2 => nq j (by omega) (by omega) (by omega))
  · exact h.de.same c6 c0 (hK 6 (by decide)) (Nat.le_of_eq (hK 0 (by decide)).symm) (Nat.le_of_eq (hK 8 (by decide)).symm) (fun _ _ => by rw [eA 17 (by decide) (by decide)]) (fun j h1 h2 => nq j (by omega) (by omega) (by omega)) (fun t ht e => by rw [nq _ (by omega) (by omega) (by omega)]; exact e)
  · exact h.pr.same c7 (hK 7 (by decide)) (Nat.le_of_eq (hK 2 (by decide)).symm) (hK 8 (by decide)) (fun _ _ => by rw [eA 19 (by decide) (by decide)]) (fun j h1 h2 => nq j (by omega) (by omega) (by omega))
  · exact h.gu.same (fun _ _ => by rw [eA 21 (by decide) (by decide)]) (fun j h1 h2 => nq j (by omega) (by omega) (by omega))
  · exact h.wt.same c11 (hK 11 (by decide)) (fun _ _ => by rw [eA 23 (by decide) (by decide)]) (fun j h1 h2 => nq j (by omega) (by omega) (by omega))
  · exact h.ta.same c10 (hK 10 (by decide)) (fun _ _ => by rw [eA 25 (by decide) (by decide)]) (fun j h1 h2 => nq j (by omega) (by omega) (by omega))
  · exact h.se.same c2 (hK 2 (by decide)) (Nat.le_of_eq (hK 0 (by decide)).symm) (fun p hp => nq _ (by omega) (by omega) (by omega))
  · exact h.st.same c2 (hK 2 (by decide)) (fun p hp => by rw [eA 7 (by decide) (by decide)]) (fun p hp => ⟨nq _ (by omega) (by omega) (by omega), nq _ (by omega) (by omega) (by omega)⟩)
  · exact h.ps.same c7 (hK 7 (by decide)) (Nat.le_of_eq (hK 2 (by decide)).symm) (hK 8 (by decide)) (fun _ _ => by rw [eA 19 (by decide) (by decide)]) (fun j h1 h2 => nq j (by omega) (by omega) (by omega)) (fun p hp => nq _ (by omega) (by omega) (by omega))
theorem RelR.onP {K : Nat → Nat} {S S' : FS} {n n' : Nat → Int32} (h : RelR K S n) (cq : CQ [7] 103 S S') (nq : NQ 110 390 9 n n') (hc : S'.1 103 = n' 9) (hpe : RPe K (S'.2 7) n') (hse : RSe K n') (hst : RSt K (S'.2 7) n') (hv : ∀ x : Int32, vL (K 2) n x → vL (K 2) n' x) (hsq : ∀ p : Nat, p < K 2 → n' (14 * p + 121) = n (14 * p + 121)) : RelR K S' n' := by
  have hK : ∀ i : Nat, i ≠ 9 → K i = K i := fun _ _ => rfl
  have hct := noct (K' := K) (S' := S') (n' := n')
  have c0 := (h.ct 2 0 10 (by decide)).2.2
  have c1 := (h.ct 101 1 20 (by decide)).2.2
  have c2 := (h.ct 6 2 20 (by decide)).2.2
  have c3 := (h.ct 8 3 20 (by decide)).2.2
  have c4 := (h.ct 10 4 12 (by decide)).2.2
  have c5 := (h.ct 14 5 40 (by decide)).2.2
  have c6 := (h.ct 16 6 6 (by decide)).2.2
  have c7 := (h.ct 18 7 30 (by decide)).2.2
  have c10 := (h.ct 24 10 60 (by decide)).2.2
  have c11 := (h.ct 22 11 20 (by decide)).2.2
  have eA := fun q hq h3 => cq.2.2 q hq h3
  refine ⟨RCt.cq h cq nq (by decide) hK hc hct, ?_, ?_, hpe, ?_, ?_, ?_, ?_, ?_, ?_, ?_, ?_, hse, hst, ?_⟩
  · exact h.tw.same c0 (hK 0 (by decide)) (Nat.le_of_eq (hK 2 (by decide)).symm) (fun _ _ => by rw [eA 3 (by decide) (by decide)]) (fun j h1 h2 => nq j (by omega) (by omega) (by omega))
  · exact h.wy.no (hK 1 (by decide)) c1 (Nat.le_of_eq (hK 0 (by decide)).symm) (eA 5 (by decide) (by decide)) (fun j h1 h2 => nq j (by omega) (by omega) (by omega))
  · exact h.pw.same c3 c2 (hK 3 (by decide)) (Nat.le_of_eq (hK 2 (by decide)).symm) (fun _ _ => by rw [eA 9 (by decide) (by decide)]) (fun j h1 h2 => nq j (by omega) (by omega) (by omega)) hv
  · exact h.la.same c4 (hK 4 (by decide)) (Nat.le_of_eq (hK 8 (by decide)).symm) (fun _ _ => by rw [eA 11 (by decide) (by decide)]) (fun _ _ => by rw [eA 13 (by decide) (by decide)]) (fun j h1 h2 => nq j (by omega) (by omega) (by omega))
  · exact h.le.same c5 (hK 5 (by decide)) (Nat.le_of_eq (hK 0 (by decide)).symm) (Nat.le_of_eq (hK 2 (by decide)).symm) (fun _ _ => by rw [eA 15 (by decide) (by decide)]) (fun j h1 h2 => nq j (by omega) (by omega) (by omega))
  · exact h.de.same c6 c0 (hK 6 (by decide)) (Nat.le_of_eq (hK 0 (by decide)).symm) (Nat.le_of_eq (hK 8 (by decide)).symm) (fun _ _ => by rw [eA 17 (by decide) (by decide)]) (fun j h1 h2 => nq j (by omega) (by omega) (by omega)) (fun t ht e => by rw [nq _ (by omega) (by omega) (by omega)]; exact e)
  · exact h.pr.same c7 (hK 7 (by decide)) (Nat.le_of_eq (hK 2 (by decide)).symm) (hK 8 (by decide)) (fun _ _ => by rw [eA 19 (by decide) (by decide)]) (fun j h1 h2 => nq j (by omega) (by omega) (by omega))
  · exact h.gu.same (fun _ _ => by rw [eA 21 (by decide) (by decide)]) (fun j h1 h2 => nq j (by omega) (by omega) (by omega))
  · exact h.wt.same c11 (hK 11 (by decide)) (fun _ _ => by rw [eA 23 (by decide) (by decide)]) (fun j h1 h2 => nq j (by omega) (by omega) (by omega))
  · exact h.ta.same c10 (hK 10 (by decide)) (fun _ _ => by rw [eA 25 (by decide) (by decide)]) (fun j h1 h2 => nq j (by omega) (by omega) (by omega))
  · exact h.ps.same c7 (hK 7 (by decide)) (Nat.le_of_eq (hK 2 (by decide)).symm) (hK 8 (by decide)) (fun _ _ => by rw [eA 19 (by decide) (by decide)]) (fun j h1 h2 => nq j (by omega) (by omega) (by omega)) hsq
theorem RelR.onW {K : Nat → Nat} {S S' : FS} {n n' : Nat → Int32} (h : RelR K S n) (cq : CQ [9] 103 S S') (nq : NQ 390 510 9 n n') (hc : S'.1 103 = n' 9) (hpw : RPw K (S'.2 9) n') : RelR K S' n' := by
  have hK : ∀ i : Nat, i ≠ 9 → K i = K i := fun _ _ => rfl
  have hct := noct (K' := K) (S' := S') (n' := n')
  have c0 := (h.ct 2 0 10 (by decide)).2.2
  have c1 := (h.ct 101 1 20 (by decide)).2.2
  have c2 := (h.ct 6 2 20 (by decide)).2.2
  have c3 := (h.ct 8 3 20 (by decide)).2.2
  have c4 := (h.ct 10 4 12 (by decide)).2.2
  have c5 := (h.ct 14 5 40 (by decide)).2.2
  have c6 := (h.ct 16 6 6 (by decide)).2.2
  have c7 := (h.ct 18 7 30 (by decide)).2.2
  have c10 := (h.ct 24 10 60 (by decide)).2.2
  have c11 := (h.ct 22 11 20 (by decide)).2.2
  have eA := fun q hq h3 => cq.2.2 q hq h3
  refine ⟨RCt.cq h cq nq (by decide) hK hc hct, ?_, ?_, ?_, hpw, ?_, ?_, ?_, ?_, ?_, ?_, ?_, ?_, ?_, ?_⟩
  · exact h.tw.same c0 (hK 0 (by decide)) (Nat.le_of_eq (hK 2 (by decide)).symm) (fun _ _ => by rw [eA 3 (by decide) (by decide)]) (fun j h1 h2 => nq j (by omega) (by omega) (by omega))
  · exact h.wy.no (hK 1 (by decide)) c1 (Nat.le_of_eq (hK 0 (by decide)).symm) (eA 5 (by decide) (by decide)) (fun j h1 h2 => nq j (by omega) (by omega) (by omega))
  · exact h.pe.same c2 (Nat.le_of_eq (hK 0 (by decide)).symm) (hK 2 (by decide)) (hK 8 (by decide)) (fun _ _ => by rw [eA 7 (by decide) (by decide)]) (fun j h1 h2 => nq j (by omega) (by omega) (by omega))
  · exact h.la.same c4 (hK 4 (by decide)) (Nat.le_of_eq (hK 8 (by decide)).symm) (fun _ _ => by rw [eA 11 (by decide) (by decide)]) (fun _ _ => by rw [eA 13 (by decide) (by decide)]) (fun j h1 h2 => nq j (by omega) (by omega) (by omega))
  · exact h.le.same c5 (hK 5 (by decide)) (Nat.le_of_eq (hK 0 (by decide)).symm) (Nat.le_of_eq (hK 2 (by decide)).symm) (fun _ _ => by rw [eA 15 (by decide) (by decide)]) (fun j h1 h2 => nq j (by omega) (by omega) (by omega))
  · exact h.de.same c6 c0 (hK 6 (by decide)) (Nat.le_of_eq (hK 0 (by decide)).symm) (Nat.le_of_eq (hK 8 (by decide)).symm) (fun _ _ => by rw [eA 17 (by decide) (by decide)]) (fun j h1 h2 => nq j (by omega) (by omega) (by omega)) (fun t ht e => by rw [nq _ (by omega) (by omega) (by omega)]; exact e)
  · exact h.pr.same c7 (hK 7 (by decide)) (Nat.le_of_eq (hK 2 (by decide)).symm) (hK 8 (by decide)) (fun _ _ => by rw [eA 19 (by decide) (by decide)]) (fun j h1 h2 => nq j (by omega) (by omega) (by omega))
  · exact h.gu.same (fun _ _ => by rw [eA 21 (by decide) (by decide)]) (fun j h1 h2 => nq j (by omega) (by omega) (by omega))
  · exact h.wt.same c11 (hK 11 (by decide)) (fun _ _ => by rw [eA 23 (by decide) (by decide)]) (fun j h1 h2 => nq j (by omega) (by omega) (by omega))
  · exact h.ta.same c10 (hK 10 (by decide)) (fun _ _ => by rw [eA 25 (by decide) (by decide)]) (fun j h1 h2 => nq j (by omega) (by omega) (by omega))
  · exact h.se.same c2 (hK 2 (by decide)) (Nat.le_of_eq (hK 0 (by decide)).symm) (fun p hp => nq _ (by omega) (by omega) (by omega))
  · exact h.st.same c2 (hK 2 (by decide)) (fun p hp => by rw [eA 7 (by decide) (by decide)]) (fun p hp => ⟨nq _ (by omega) (by omega) (by omega), nq _ (by omega) (by omega) (by omega)⟩)
  · exact h.ps.same c7 (hK 7 (by decide)) (Nat.le_of_eq (hK 2 (by decide)).symm) (hK 8 (by decide)) (fun _ _ => by rw [eA 19 (by decide) (by decide)]) (fun j h1 h2 => nq j (by omega) (by omega) (by omega)) (fun p hp => nq _ (by omega) (by omega) (by omega))
theorem RelR.onL {K : Nat → Nat} {S S' : FS} {n n' : Nat → Int32} (h : RelR K S n) (cq : CQ [11, 13] 103 S S') (nq : NQ 510 1290 9 n n') (hc : S'.1 103 = n' 9) (hla : RLa K (S'.2 11) (S'.2 13) n') : RelR K S' n' := by
  have hK : ∀ i : Nat, i ≠ 9 → K i = K i := fun _ _ => rfl
  have hct := noct (K' := K) (S' := S') (n' := n')
  have c0 := (h.ct 2 0 10 (by decide)).2.2
  have c1 := (h.ct 101 1 20 (by decide)).2.2
  have c2 := (h.ct 6 2 20 (by decide)).2.2
  have c3 := (h.ct 8 3 20 (by decide)).2.2
  have c4 := (h.ct 10 4 12 (by decide)).2.2
  have c5 := (h.ct 14 5 40 (by decide)).2.2
  have c6 := (h.ct 16 6 6 (by decide)).2.2
  have c7 := (h.ct 18 7 30 (by decide)).2.2
  have c10 := (h.ct 24 10 60 (by decide)).2.2
  have c11 := (h.ct 22 11 20 (by decide)).2.2
  have eA := fun q hq h3 => cq.2.2 q hq h3
  refine ⟨RCt.cq h cq nq (by decide) hK hc hct, ?_, ?_, ?_, ?_, hla, ?_, ?_, ?_, ?_, ?_, ?_, ?_, ?_, ?_⟩
  · exact h.tw.same c0 (hK 0 (by decide)) (Nat.le_of_eq (hK 2 (by decide)).symm) (fun _ _ => by rw [eA 3 (by decide) (by decide)]) (fun j h1 h2 => nq j (by omega) (by omega) (by omega))
  · exact h.wy.no (hK 1 (by decide)) c1 (Nat.le_of_eq (hK 0 (by decide)).symm) (eA 5 (by decide) (by decide)) (fun j h1 h2 => nq j (by omega) (by omega) (by omega))
  · exact h.pe.same c2 (Nat.le_of_eq (hK 0 (by decide)).symm) (hK 2 (by decide)) (hK 8 (by decide)) (fun _ _ => by rw [eA 7 (by decide) (by decide)]) (fun j h1 h2 => nq j (by omega) (by omega) (by omega))
  · exact h.pw.same c3 c2 (hK 3 (by decide)) (Nat.le_of_eq (hK 2 (by decide)).symm) (fun _ _ => by rw [eA 9 (by decide) (by decide)]) (fun j h1 h2 => nq j (by omega) (by omega) (by omega)) (fun x hx => hx.same c2 (Nat.le_of_eq (hK 2 (by decide)).symm) (fun j h1 h2 => nq j (by omega) (by omega) (by omega)))
  · exact h.le.same c5 (hK 5 (by decide)) (Nat.le_of_eq (hK 0 (by decide)).symm) (Nat.le_of_eq (hK 2 (by decide)).symm) (fun _ _ => by rw [eA 15 (by decide) (by decide)]) (fun j h1 h2 => nq j (by omega) (by omega) (by omega))
  · exact h.de.same c6 c0 (hK 6 (by decide)) (Nat.le_of_eq (hK 0 (by decide)).symm) (Nat.le_of_eq (hK 8 (by decide)).symm) (fun _ _ => by rw [eA 17 (by decide) (by decide)]) (fun j h1 h2 => nq j (by omega) (by omega) (by omega)) (fun t ht e => by rw [nq _ (by omega) (by omega) (by omega)]; exact e)
  · exact h.pr.same c7 (hK 7 (by decide)) (Nat.le_of_eq (hK 2 (by decide)).symm) (hK 8 (by decide)) (fun _ _ => by rw [eA 19 (by decide) (by decide)]) (fun j h1 h2 => nq j (by omega) (by omega) (by omega))
  · exact h.gu.same (fun _ _ => by rw [eA 21 (by decide) (by decide)]) (fun j h1 h2 => nq j (by omega) (by omega) (by omega))
  · exact h.wt.same c11 (hK 11 (by decide)) (fun _ _ => by rw [eA 23 (by decide) (by decide)]) (fun j h1 h2 => nq j (by omega) (by omega) (by omega))
  · exact h.ta.same c10 (hK 10 (by decide)) (fun _ _ => by rw [eA 25 (by decide) (by decide)]) (fun j h1 h2 => nq j (by omega) (by omega) (by omega))
  · exact h.se.same c2 (hK 2 (by decide)) (Nat.le_of_eq (hK 0 (by decide)).symm) (fun p hp => nq _ (by omega) (by omega) (by omega))
  · exact h.st.same c2 (hK 2 (by decide)) (fun p hp => by rw [eA 7 (by decide) (by decide)]) (fun p hp => ⟨nq _ (by omega) (by omega) (by omega), nq _ (by omega) (by omega) (by omega)⟩)
  · exact h.ps.same c7 (hK 7 (by decide)) (Nat.le_of_eq (hK 2 (by decide)).symm) (hK 8 (by decide)) (fun _ _ => by rw [eA 19 (by decide) (by decide)]) (fun j h1 h2 => nq j (by omega) (by omega) (by omega)) (fun p hp => nq _ (by omega) (by omega) (by omega))
theorem RelR.onE {K : Nat → Nat} {S S' : FS} {n n' : Nat → Int32} (h : RelR K S n) (cq : CQ [15] 103 S S') (nq : NQ 1290 1770 9 n n') (hc : S'.1 103 = n' 9) (hle : RLe K (S'.2 15) n') : RelR K S' n' := by
  have hK : ∀ i : Nat, i ≠ 9 → K i = K i := fun _ _ => rfl
  have hct := noct (K' := K) (S' := S') (n' := n')
  have c0 := (h.ct 2 0 10 (by decide)).2.2
  have c1 := (h.ct 101 1 20 (by decide)).2.2
  have c2 := (h.ct 6 2 20 (by decide)).2.2
  have c3 := (h.ct 8 3 20 (by decide)).2.2
  have c4 := (h.ct 10 4 12 (by decide)).2.2
  have c5 := (h.ct 14 5 40 (by decide)).2.2
  have c6 := (h.ct 16 6 6 (by decide)).2.2
  have c7 := (h.ct 18 7 30 (by decide)).2.2
  have c10 := (h.ct 24 10 60 (by decide)).2.2
  have c11 := (h.ct 22 11 20 (by decide)).2.2
  have eA := fun q hq h3 => cq.2.2 q hq h3
  refine ⟨RCt.cq h cq nq (by decide) hK hc hct, ?_, ?_, ?_, ?_, ?_, hle, ?_, ?_, ?_, ?_, ?_, ?_, ?_, ?_⟩
  · exact h.tw.same c0 (hK 0 (by decide)) (Nat.le_of_eq (hK 2 (by decide)).symm) (fun _ _ => by rw [eA 3 (by decide) (by decide)]) (fun j h1 h2 => nq j (by omega) (by omega) (by omega))
  · exact h.wy.no (hK 1 (by decide)) c1 (Nat.le_of_eq (hK 0 (by decide)).symm) (eA 5 (by decide) (by decide)) (fun j h1 h2 => nq j (by omega) (by omega) (by omega))
  · exact h.pe.same c2 (Nat.le_of_eq (hK 0 (by decide)).symm) (hK 2 (by decide)) (hK 8 (by decide)) (fun _ _ => by rw [eA 7 (by decide) (by decide)]) (fun j h1 h2 => nq j (by omega) (by omega) (by omega))
  · exact h.pw.same c3 c2 (hK 3 (by decide)) (Nat.le_of_eq (hK 2 (by decide)).symm) (fun _ _ => by rw [eA 9 (by decide) (by decide)]) (fun j h1 h2 => nq j (by omega) (by omega) (by omega)) (fun x hx => hx.same c2 (Nat.le_of_eq (hK 2 (by decide)).symm) (fun j h1 h2 => nq j (by omega) (by omega) (by omega)))
  · exact h.la.same c4 (hK 4 (by decide)) (Nat.le_of_eq (hK 8 (by decide)).symm) (fun _ _ => by rw [eA 11 (by decide) (by decide)]) (fun _ _ => by rw [eA 13 (by decide) (by decide)]) (fun j h1 h2 => nq j (by omega) (by omega) (by omega))
  · exact h.de.same c6 c0 (hK 6 (by decide)) (Nat.le_of_eq (hK 0 (by decide)).symm) (Nat.le_of_eq (hK 8 (by decide)).symm) (fun _ _ => by rw [eA 17 (by decide) (by decide)]) (fun j h1 h2 => nq j (by omega) (by omega) (by omega)) (fun t ht e => by rw [nq _ (by omega) (by omega) (by omega)]; exact e)
  · exact h.pr.same c7 (hK 7 (by decide)) (Nat.le_of_eq (hK 2 (by decide)).symm) (hK 8 (by decide)) (fun _ _ => by rw [eA 19 (by decide) (by decide)]) (fun j h1 h2 => nq j (by omega) (by omega) (by omega))
  · exact h.gu.same (fun _ _ => by rw [eA 21 (by decide) (by decide)]) (fun j h1 h2 => nq j (by omega) (by omega) (by omega))
  · exact h.wt.same c11 (hK 11 (by decide)) (fun _ _ => by rw [eA 23 (by decide) (by decide)]) (fun j h1 h2 => nq j (by omega) (by omega) (by omega))
  · exact h.ta.same c10 (hK 10 (by decide)) (fun _ _ => by rw [eA 25 (by decide) (by decide)]) (fun j h1 h2 => nq j (by omega) (by omega) (by omega))
  · exact h.se.same c2 (hK 2 (by decide)) (Nat.le_of_eq (hK 0 (by decide)).symm) (fun p hp => nq _ (by omega) (by omega) (by omega))
  · exact h.st.same c2 (hK 2 (by decide)) (fun p hp => by rw [eA 7 (by decide) (by decide)]) (fun p hp => ⟨nq _ (by omega) (by omega) (by omega), nq _ (by omega) (by omega) (by omega)⟩)
  · exact h.ps.same c7 (hK 7 (by decide)) (Nat.le_of_eq (hK 2 (by decide)).symm) (hK 8 (by decide)) (fun _ _ => by rw [eA 19 (by decide) (by decide)]) (fun j h1 h2 => nq j (by omega) (by omega) (by omega)) (fun p hp => nq _ (by omega) (by omega) (by omega))
theorem RelR.onD {K : Nat → Nat} {S S' : FS} {n n' : Nat → Int32} (h : RelR K S n) (cq : CQ [17] 103 S S') (nq : NQ 1770 1806 9 n n') (hc : S'.1 103 = n' 9) (hde : RDe K (S'.2 17) n') : RelR K S' n' := by
  have hK : ∀ i : Nat, i ≠ 9 → K i = K i := fun _ _ => rfl
  have hct := noct (K' := K) (S' := S') (n' := n')
  have c0 := (h.ct 2 0 10 (by decide)).2.2
  have c1 := (h.ct 101 1 20 (by decide)).2.2
  have c2 := (h.ct 6 2 20 (by decide)).2.2
  have c3 := (h.ct 8 3 20 (by decide)).2.2
  have c4 := (h.ct 10 4 12 (by decide)).2.2
  have c5 := (h.ct 14 5 40 (by decide)).2.2
  have c6 := (h.ct 16 6 6 (by decide)).2.2
  have c7 := (h.ct 18 7 30 (by decide)).2.2
  have c10 := (h.ct 24 10 60 (by decide)).2.2
  have c11 := (h.ct 22 11 20 (by decide)).2.2
  have eA := fun q hq h3 => cq.2.2 q hq h3
  refine ⟨RCt.cq h cq nq (by decide) hK hc hct, ?_, ?_, ?_, ?_, ?_, ?_, hde, ?_, ?_, ?_, ?_, ?_, ?_, ?_⟩
  · exact h.tw.same c0 (hK 0 (by decide)) (Nat.le_of_eq (hK 2 (by decide)).symm) (fun _ _ => by rw [eA 3 (by decide) (by decide)]) (fun j h1 h2 => nq j (by omega) (by omega) (by omega))
  · exact h.wy.no (hK 1 (by decide)) c1 (Nat.le_of_eq (hK 0 (by decide)).symm) (eA 5 (by decide) (by decide)) (fun j h1 h2 => nq j (by omega) (by omega) (by omega))
  · exact h.pe.same c2 (Nat.le_of_eq (hK 0 (by decide)).symm) (hK 2 (by decide)) (hK 8 (by decide)) (fun _ _ => by rw [eA 7 (by decide) (by decide)]) (fun j h1 h2 => nq j (by omega) (by omega) (by omega))
  · exact h.pw.same c3 c2 (hK 3 (by decide)) (Nat.le_of_eq (hK 2 (by decide)).symm) (fun _ _ => by rw [eA 9 (by decide) (by decide)]) (fun j h1 h2 => nq j (by omega) (by omega) (by omega)) (fun x hx => hx.same c2 (Nat.le_of_eq (hK 2 (by decide)).symm) (fun j h1 h2 => nq j (by omega) (by omega) (by omega)))
  · exact h.la.same c4 (hK 4 (by decide)) (Nat.le_of_eq (hK 8 (by decide)).symm) (fun _ _ => by rw [eA 11 (by decide) (by decide)]) (fun _ _ => by rw [eA 13 (by decide) (by decide)]) (fun j h1 h2 => nq j (by omega) (by omega) (by omega))
  · exact h.le.same c5 (hK 5 (by decide)) (Nat.le_of_eq (hK 0 (by decide)).symm) (Nat.le_of_eq (hK 2 (by decide)).symm) (fun _ _ => by rw [eA 15 (by decide) (by decide)]) (fun j h1 h2 => nq j (by omega) (by omega) (by omega))
  · exact h.pr.same c7 (hK 7 (by decide)) (Nat.le_of_eq (hK 2 (by decide)).symm) (hK 8 (by decide)) (fun _ _ => by rw [eA 19 (by decide) (by decide)]) (fun j h1 h2 => nq j (by omega) (by omega) (by omega))
  · exact h.gu.same (fun _ _ => by rw [eA 21 (by decide) (by decide)]) (fun j h1 h2 => nq j (by omega) (by omega) (by omega))
  · exact h.wt.same c11 (hK 11 (by decide)) (fun _ _ => by rw [eA 23 (by decide) (by decide)]) (fun j h1 h2 => nq j (by omega) (by omega) (by omega))
  · exact h.ta.same c10 (hK 10 (by decide)) (fun _ _ => by rw [eA 25 (by decide) (by decide)]) (fun j h1 h2 => nq j (by omega) (by omega) (by omega))
  · exact h.se.same c2 (hK 2 (by decide)) (Nat.le_of_eq (hK 0 (by decide)).symm) (fun p hp => nq _ (by omega) (by omega) (by omega))
  · exact h.st.same c2 (hK 2 (by decide)) (fun p hp => by rw [eA 7 (by decide) (by decide)]) (fun p hp => ⟨nq _ (by omega) (by omega) (by omega), nq _ (by omega) (by omega) (by omega)⟩)
  · exact h.ps.same c7 (hK 7 (by decide)) (Nat.le_of_eq (hK 2 (by decide)).symm) (hK 8 (by decide)) (fun _ _ => by rw [eA 19 (by decide) (by decide)]) (fun j h1 h2 => nq j (by omega) (by omega) (by omega)) (fun p hp => nq _ (by omega) (by omega) (by omega))
theorem RelR.onQ {K : Nat → Nat} {S S' : FS} {n n' : Nat → Int32} (h : RelR K S n) (cq : CQ [19] 103 S S') (nq : NQ 1806 1986 9 n n') (hc : S'.1 103 = n' 9) (hpr : RPr K (S'.2 19) n') (hps : RPs K (S'.2 19) n') : RelR K S' n' := by
  have hK : ∀ i : Nat, i ≠ 9 → K i = K i := fun _ _ => rfl
  have hct := noct (K' := K) (S' := S') (n' := n')
  have c0 := (h.ct 2 0 10 (by decide)).2.2
  have c1 := (h.ct 101 1 20 (by decide)).2.2
  have c2 := (h.ct 6 2 20 (by decide)).2.2
  have c3 := (h.ct 8 3 20 (by decide)).2.2
  have c4 := (h.ct 10 4 12 (by decide)).2.2
  have c5 := (h.ct 14 5 40 (by decide)).2.2
  have c6 := (h.ct 16 6 6 (by decide)).2.2
  have c7 := (h.ct 18 7 30 (by decide)).2.2
  have c10 := (h.ct 24 10 60 (by decide)).2.2
  have c11 := (h.ct 22 11 20 (by decide)).2.2
  have eA := fun q hq h3 => cq.2.2 q hq h3
  refine ⟨RCt.cq h cq nq (by decide) hK hc hct, ?_, ?_, ?_, ?_, ?_, ?_, ?_, hpr, ?_, ?_, ?_, ?_, ?_, hps⟩
  · exact h.tw.same c0 (hK 0 (by decide)) (Nat.le_of_eq (hK 2 (by decide)).symm) (fun _ _ => by rw [eA 3 (by decide) (by decide)]) (fun j h1 h2 => nq j (by omega) (by omega) (by omega))
  · exact h.wy.no (hK 1 (by decide)) c1 (Nat.le_of_eq (hK 0 (by decide)).symm) (eA 5 (by decide) (by decide)) (fun j h1 h2 => nq j (by omega) (by omega) (by omega))
  · exact h.pe.same c2 (Nat.le_of_eq (hK 0 (by decide)).symm) (hK 2 (by decide)) (hK 8 (by decide)) (fun _ _ => by rw [eA 7 (by decide) (by decide)]) (fun j h1 h2 => nq j (by omega) (by omega) (by omega))
  · exact h.pw.same c3 c2 (hK 3 (by decide)) (Nat.le_of_eq (hK 2 (by decide)).symm) (fun _ _ => by rw [eA 9 (by decide) (by decide)]) (fun j h1 h2 => nq j (by omega) (by omega) (by omega)) (fun x hx => hx.same c2 (Nat.le_of_eq (hK 2 (by decide)).symm) (fun j h1 h2 => nq j (by omega) (by omega) (by omega)))
  · exact h.la.same c4 (hK 4 (by decide)) (Nat.le_of_eq (hK 8 (by decide)).symm) (fun _ _ => by rw [eA 11 (by decide) (by decide)]) (fun _ _ => by rw [eA 13 (by decide) (by decide)]) (fun j h1 h2 => nq j (by omega) (by omega) (by omega))
  · exact h.le.same c5 (hK 5 (by decide)) (Nat.le_of_eq (hK 0 (by decide)).symm) (Nat.le_of_eq (hK 2 (by decide)).symm) (fun _ _ => by rw [eA 15 (by decide) (by decide)]) (fun j h1 h2 => nq j (by omega) (by omega) (by omega))
  · exact h.de.same c6 c0 (hK 6 (by decide)) (Nat.le_of_eq (hK 0 (by decide)).symm) (Nat.le_of_eq (hK 8 (by decide)).symm) (fun _ _ => by rw [eA 17 (by decide) (by decide)]) (fun j h1 h2 => nq j (by omega) (by omega) (by omega)) (fun t ht e => by rw [nq _ (by omega) (by omega) (by omega)]; exact e)
  · exact h.gu.same (fun _ _ => by rw [eA 21 (by decide) (by decide)]) (fun j h1 h2 => nq j (by omega) (by omega) (by omega))
  · exact h.wt.same c11 (hK 11 (by decide)) (fun _ _ => by rw [eA 23 (by decide) (by decide)]) (fun j h1 h2 => nq j (by omega) (by omega) (by omega))
  · exact h.ta.same c10 (hK 10 (by decide)) (fun _ _ => by rw [eA 25 (by decide) (by decide)]) (fun j h1 h2 => nq j (by omega) (by omega) (by omega))
  · exact h.se.same c2 (hK 2 (by decide)) (Nat.le_of_eq (hK 0 (by decide)).symm) (fun p hp => nq _ (by omega) (by omega) (by omega))
  · exact h.st.same c2 (hK 2 (by decide)) (fun p hp => by rw [eA 7 (by decide) (by decide)]) (fun p hp => ⟨nq _ (by omega) (by omega) (by omega), nq _ (by omega) (by omega) (by omega)⟩)
theorem RelR.onG {K : Nat → Nat} {S S' : FS} {n n' : Nat → Int32} (h : RelR K S n) (cq : CQ [21] 103 S S') (nq : NQ 1986 1991 9 n n') (hc : S'.1 103 = n' 9) (hgu : RGu (S'.2 21) n') : RelR K S' n' := by
  have hK : ∀ i : Nat, i ≠ 9 → K i = K i := fun _ _ => rfl
  have hct := noct (K' := K) (S' := S') (n' := n')
  have c0 := (h.ct 2 0 10 (by decide)).2.2
  have c1 := (h.ct 101 1 20 (by decide)).2.2
  have c2 := (h.ct 6 2 20 (by decide)).2.2
  have c3 := (h.ct 8 3 20 (by decide)).2.2
  have c4 := (h.ct 10 4 12 (by decide)).2.2
  have c5 := (h.ct 14 5 40 (by decide)).2.2
  have c6 := (h.ct 16 6 6 (by decide)).2.2
  have c7 := (h.ct 18 7 30 (by decide)).2.2
  have c10 := (h.ct 24 10 60 (by decide)).2.2
  have c11 := (h.ct 22 11 20 (by decide)).2.2
  have eA := fun q hq h3 => cq.2.2 q hq h3
  refine ⟨RCt.cq h cq nq (by decide) hK hc hct, ?_, ?_, ?_, ?_, ?_, ?_, ?_, ?_, hgu, ?_, ?_, ?_, ?_, ?_⟩
  · exact h.tw.same c0 (hK 0 (by decide)) (Nat.le_of_eq (hK 2 (by decide)).symm) (fun _ _ => by rw [eA 3 (by decide) (by decide)]) (fun j h1 h2 => nq j (by omega) (by omega) (by omega))
  · exact h.wy.no (hK 1 (by decide)) c1 (Nat.le_of_eq (hK 0 (by decide)).symm) (eA 5 (by decide) (by decide)) (fun j h1 h2 => nq j (by omega) (by omega) (by omega))
  · exact h.pe.same c2 (Nat.le_of_eq (hK 0 (by decide)).symm) (hK 2 (by decide)) (hK 8 (by decide)) (fun _ _ => by rw [eA 7 (by decide) (by decide)]) (fun j h1 h2 => nq j (by omega) (by omega) (by omega))
  · exact h.pw.same c3 c2 (hK 3 (by decide)) (Nat.le_of_eq (hK 2 (by decide)).symm) (fun _ _ => by rw [eA 9 (by decide) (by decide)]) (fun j h1 h2 => nq j (by omega) (by omega) (by omega)) (fun x hx => hx.same c2 (Nat.le_of_eq (hK 2 (by decide)).symm) (fun j h1 h2 => nq j (by omega) (by omega) (by omega)))
  · exact h.la.same c4 (hK 4 (by decide)) (Nat.le_of_eq (hK 8 (by decide)).symm) (fun _ _ => by rw [eA 11 (by decide) (by decide)]) (fun _ _ => by rw [eA 13 (by decide) (by decide)]) (fun j h1 h2 => nq j (by omega) (by omega) (by omega))
  · exact h.le.same c5 (hK 5 (by decide)) (Nat.le_of_eq (hK 0 (by decide)).symm) (Nat.le_of_eq (hK 2 (by decide)).symm) (fun _ _ => by rw [eA 15 (by decide) (by decide)]) (fun j h1 h2 => nq j (by omega) (by omega) (by omega))
  · exact h.de.same c6 c0 (hK 6 (by decide)) (Nat.le_of_eq (hK 0 (by decide)).symm) (Nat.le_of_eq (hK 8 (by decide)).symm) (fun _ _ => by rw [eA 17 (by decide) (by decide)]) (fun j h1 h2 => nq j (by omega) (by omega) (by omega)) (fun t ht e => by rw [nq _ (by omega) (by omega) (by omega)]; exact e)
  · exact h.pr.same c7 (hK 7 (by decide)) (Nat.le_of_eq (hK 2 (by decide)).symm) (hK 8 (by decide)) (fun _ _ => by rw [eA 19 (by decide) (by decide)]) (fun j h1 h2 => nq j (by omega) (by omega) (by omega))
  · exact h.wt.same c11 (hK 11 (by decide)) (fun _ _ => by rw [eA 23 (by decide) (by decide)]) (fun j h1 h2 => nq j (by omega) (by omega) (by omega))
  · exact h.ta.same c10 (hK 10 (by decide)) (fun _ _ => by rw [eA 25 (by decide) (by decide)]) (fun j h1 h2 => nq j (by omega) (by omega) (by omega))
  · exact h.se.same c2 (hK 2 (by decide)) (Nat.le_of_eq (hK 0 (by decide)).symm) (fun p hp => nq _ (by omega) (by omega) (by omega))
  · exact h.st.same c2 (hK 2 (by decide)) (fun p hp => by rw [eA 7 (by decide) (by decide)]) (fun p hp => ⟨nq _ (by omega) (by omega) (by omega), nq _ (by omega) (by omega) (by omega)⟩)
  · exact h.ps.same c7 (hK 7 (by decide)) (Nat.le_of_eq (hK 2 (by decide)).symm) (hK 8 (by decide)) (fun _ _ => by rw [eA 19 (by decide) (by decide)]) (fun j h1 h2 => nq j (by omega) (by omega) (by omega)) (fun p hp => nq _ (by omega) (by omega) (by omega))
theorem RelR.onA {K : Nat → Nat} {S S' : FS} {n n' : Nat → Int32} (h : RelR K S n) (cq : CQ [25] 103 S S') (nq : NQ 1991 2051 9 n n') (hc : S'.1 103 = n' 9) (hta : RTa K (S'.2 25) n') : RelR K S' n' := by
  have hK : ∀ i : Nat, i ≠ 9 → K i = K i := fun _ _ => rfl
  have hct := noct (K' := K) (S' := S') (n' := n')
  have c0 := (h.ct 2 0 10 (by decide)).2.2
  have c1 := (h.ct 101 1 20 (by decide)).2.2
  have c2 := (h.ct 6 2 20 (by decide)).2.2
  have c3 := (h.ct 8 3 20 (by decide)).2.2
  have c4 := (h.ct 10 4 12 (by decide)).2.2
  have c5 := (h.ct 14 5 40 (by decide)).2.2
  have c6 := (h.ct 16 6 6 (by decide)).2.2
  have c7 := (h.ct 18 7 30 (by decide)).2.2
  have c10 := (h.ct 24 10 60 (by decide)).2.2
  have c11 := (h.ct 22 11 20 (by decide)).2.2
  have eA := fun q hq h3 => cq.2.2 q hq h3
  refine ⟨RCt.cq h cq nq (by decide) hK hc hct, ?_, ?_, ?_, ?_, ?_, ?_, ?_, ?_, ?_, ?_, hta, ?_, ?_, ?_⟩
  · exact h.tw.same c0 (hK 0 (by decide)) (Nat.le_of_eq (hK 2 (by decide)).symm) (fun _ _ => by rw [eA 3 (by decide) (by decide)]) (fun j h1 h2 => nq j (by omega) (by omega) (by omega))
  · exact h.wy.no (hK 1 (by decide)) c1 (Nat.le_of_eq (hK 0 (by decide)).symm) (eA 5 (by decide) (by decide)) (fun j h1 h2 => nq j (by omega) (by omega) (by omega))
  · exact h.pe.same c2 (Nat.le_of_eq (hK 0 (by decide)).symm) (hK 2 (by decide)) (hK 8 (by decide)) (fun _ _ => by rw [eA 7 (by decide) (by decide)]) (fun j h1 h2 => nq j (by omega) (by omega) (by omega))
  · exact h.pw.same c3 c2 (hK 3 (by decide)) (Nat.le_of_eq (hK 2 (by decide)).symm) (fun _ _ => by rw [eA 9 (by decide) (by decide)]) (fun j h1 h2 => nq j (by omega) (by omega) (by omega)) (fun x hx => hx.same c2 (Nat.le_of_eq (hK 2 (by decide)).symm) (fun j h1 h2 => nq j (by omega) (by omega) (by omega)))
  · exact h.la.same c4 (hK 4 (by decide)) (Nat.le_of_eq (hK 8 (by decide)).symm) (fun _ _ => by rw [eA 11 (by decide) (by decide)]) (fun _ _ => by rw [eA 13 (by decide) (by decide)]) (fun j h1 h2 => nq j (by omega) (by omega) (by omega))
  · exact h.le.same c5 (hK 5 (by decide)) (Nat.le_of_eq (hK 0 (by decide)).symm) (Nat.le_of_eq (hK 2 (by decide)).symm) (fun _ _ => by rw [eA 15 (by decide) (by decide)]) (fun j h1 h2 => nq j (by omega) (by omega) (by omega))
  · exact h.de.same c6 c0 (hK 6 (by decide)) (Nat.le_of_eq (hK 0 (by decide)).symm) (Nat.le_of_eq (hK 8 (by decide)).symm) (fun _ _ => by rw [eA 17 (by decide) (by decide)]) (fun j h1 h2 => nq j (by omega) (by omega) (by omega)) (fun t ht e => by rw [nq _ (by omega) (by omega) (by omega)]; exact e)
  · exact h.pr.same c7 (hK 7 (by decide)) (Nat.le_of_eq (hK 2 (by decide)).symm) (hK 8 (by decide)) (fun _ _ => by rw [eA 19 (by decide) (by decide)]) (fun j h1 h2 => nq j (by omega) (by omega) (by omega))
  · exact h.gu.same (fun _ _ => by rw [eA 21 (by decide) (by decide)]) (fun j h1 h2 => nq j (by omega) (by omega) (by omega))
  · exact h.wt.same c11 (hK 11 (by decide)) (fun _ _ => by rw [eA 23 (by decide) (by decide)]) (fun j h1 h2 => nq j (by omega) (by omega) (by omega))
  · exact h.se.same c2 (hK 2 (by decide)) (Nat.le_of_eq (hK 0 (by decide)).symm) (fun p hp => nq _ (by omega) (by omega) (by omega))
  · exact h.st.same c2 (hK 2 (by decide)) (fun p hp => by rw [eA 7 (by decide) (by decide)]) (fun p hp => ⟨nq _ (by omega) (by omega) (by omega), nq _ (by omega) (by omega) (by omega)⟩)
  · exact h.ps.same c7 (hK 7 (by decide)) (Nat.le_of_eq (hK 2 (by decide)).symm) (hK 8 (by decide)) (fun _ _ => by rw [eA 19 (by decide) (by decide)]) (fun j h1 h2 => nq j (by omega) (by omega) (by omega)) (fun p hp => nq _ (by omega) (by omega) (by omega))
theorem RelR.onX {K : Nat → Nat} {S S' : FS} {n n' : Nat → Int32} (h : RelR K S n) (cq : CQ [23] 103 S S') (nq : NQ 2051 2071 9 n n') (hc : S'.1 103 = n' 9) (hwt : RWt K (S'.2 23) n') : RelR K S' n' := by
  have hK : ∀ i : Nat, i ≠ 9 → K i = K i := fun _ _ => rfl
  have hct := noct (K' := K) (S' := S') (n' := n')
  have c0 := (h.ct 2 0 10 (by decide)).2.2
  have c1 := (h.ct 101 1 20 (by decide)).2.2
  have c2 := (h.ct 6 2 20 (by decide)).2.2
  have c3 := (h.ct 8 3 20 (by decide)).2.2
  have c4 := (h.ct 10 4 12 (by decide)).2.2
  have c5 := (h.ct 14 5 40 (by decide)).2.2
  have c6 := (h.ct 16 6 6 (by decide)).2.2
  have c7 := (h.ct 18 7 30 (by decide)).2.2
  have c10 := (h.ct 24 10 60 (by decide)).2.2
  have c11 := (h.ct 22 11 20 (by decide)).2.2
  have eA := fun q hq h3 => cq.2.2 q hq h3
  refine ⟨RCt.cq h cq nq (by decide) hK hc hct, ?_, ?_, ?_, ?_, ?_, ?_, ?_, ?_, ?_, hwt, ?_, ?_, ?_, ?_⟩
  · exact h.tw.same c0 (hK 0 (by decide)) (Nat.le_of_eq (hK 2 (by decide)).symm) (fun _ _ => by rw [eA 3 (by decide) (by decide)]) (fun j h1 h2 => nq j (by omega) (by omega) (by omega))
  · exact h.wy.no (hK 1 (by decide)) c1 (Nat.le_of_eq (hK 0 (by decide)).symm) (eA 5 (by decide) (by decide)) (fun j h1 h2 => nq j (by omega) (by omega) (by omega))
  · exact h.pe.same c2 (Nat.le_of_eq (hK 0 (by decide)).symm) (hK 2 (by decide)) (hK 8 (by decide)) (fun _ _ => by rw [eA 7 (by decide) (by decide)]) (fun j h1 h2 => nq j (by omega) (by omega) (by omega))
  · exact h.pw.same c3 c2 (hK 3 (by decide)) (Nat.le_of_eq (hK 2 (by decide)).symm) (fun _ _ => by rw [eA 9 (by decide) (by decide)]) (fun j h1 h2 => nq j (by omega) (by omega) (by omega)) (fun x hx => hx.same c2 (Nat.le_of_eq (hK 2 (by decide)).symm) (fun j h1 h2 => nq j (by omega) (by omega) (by omega)))
  · exact h.la.same c4 (hK 4 (by decide)) (Nat.le_of_eq (hK 8 (by decide)).symm) (fun _ _ => by rw [eA 11 (by decide) (by decide)]) (fun _ _ => by rw [eA 13 (by decide) (by decide)]) (fun j h1 h2 => nq j (by omega) (by omega) (by omega))
  · exact h.le.same c5 (hK 5 (by decide)) (Nat.le_of_eq (hK 0 (by decide)).symm) (Nat.le_of_eq (hK 2 (by decide)).symm) (fun _ _ => by rw [eA 15 (by decide) (by decide)]) (fun j h1 h2 => nq j (by omega) (by omega) (by omega))
  · exact h.de.same c6 c0 (hK 6 (by decide)) (Nat.le_of_eq (hK 0 (by decide)).symm) (Nat.le_of_eq (hK 8 (by decide)).symm) (fun _ _ => by rw [eA 17 (by decide) (by decide)]) (fun j h1 h2 => nq j (by omega) (by omega) (by omega)) (fun t ht e => by rw [nq _ (by omega) (by omega) (by omega)]; exact e)
  · exact h.pr.same c7 (hK 7 (by decide)) (Nat.le_of_eq (hK 2 (by decide)).symm) (hK 8 (by decide)) (fun _ _ => by rw [eA 19 (by decide) (by decide)]) (fun j h1 h2 => nq j (by omega) (by omega) (by omega))
  · exact h.gu.same (fun _ _ => by rw [eA 21 (by decide) (by decide)]) (fun j h1 h2 => nq j (by omega) (by omega) (by omega))
  · exact h.ta.same c10 (hK 10 (by decide)) (fun _ _ => by rw [eA 25 (by decide) (by decide)]) (fun j h1 h2 => nq j (by omega) (by omega) (by omega))
  · exact h.se.same c2 (hK 2 (by decide)) (Nat.le_of_eq (hK 0 (by decide)).symm) (fun p hp => nq _ (by omega) (by omega) (by omega))
  · exact h.st.same c2 (hK 2 (by decide)) (fun p hp => by rw [eA 7 (by decide) (by decide)]) (fun p hp => ⟨nq _ (by omega) (by omega) (by omega), nq _ (by omega) (by omega) (by omega)⟩)
  · exact h.ps.same c7 (hK 7 (by decide)) (Nat.le_of_eq (hK 2 (by decide)).symm) (hK 8 (by decide)) (fun _ _ => by rw [eA 19 (by decide) (by decide)]) (fun j h1 h2 => nq j (by omega) (by omega) (by omega)) (fun p hp => nq _ (by omega) (by omega) (by omega))
theorem RelR.onT_0 {K K' : Nat → Nat} {S S' : FS} {n n' : Nat → Int32} (h : RelR K S n) (cq : CQ [3] 2 S S') (nq : NQ 20 50 0 n n') (hK : ∀ i : Nat, i ≠ 0 → K' i = K i) (hk : K 0 ≤ K' 0) (hc : S'.1 103 = n' 9) (hct : ∀ q ∈ ctT, q.1 = 2 ∨ q.2.1 = 0 → S'.1 q.1 = nI (K' q.2.1) ∧ n' q.2.1 = nI (K' q.2.1) ∧ K' q.2.1 ≤ q.2.2) (htw : RTw K' (S'.2 3) n') (ht : ∀ t : Nat, t < K 0 → n (3 * t + 22) = 1 → n' (3 * t + 22) = 1) : RelR K' S' n' := by
  have c0 := (h.ct 2 0 10 (by decide)).2.2
  have c1 := (h.ct 101 1 20 (by decide)).2.2
  have c2 := (h.ct 6 2 20 (by decide)).2.2
  have c3 := (h.ct 8 3 20 (by decide)).2.2
  have c4 := (h.ct 10 4 12 (by decide)).2.2
  have c5 := (h.ct 14 5 40 (by decide)).2.2
  have c6 := (h.ct 16 6 6 (by decide)).2.2
  have c7 := (h.ct 18 7 30 (by decide)).2.2
  have c10 := (h.ct 24 10 60 (by decide)).2.2
  have c11 := (h.ct 22 11 20 (by decide)).2.2
  have eA := fun q hq h3 => cq.2.2 q hq h3
  refine ⟨RCt.cq h cq nq (by decide) hK hc hct, htw, ?_, ?_, ?_, ?_, ?_, ?_, ?_, ?_, ?_, ?_, ?_, ?_, ?_⟩
  · exact h.wy.no (hK 1 (by decide)) c1 hk (eA 5 (by decide) (by decide)) (fun j h1 h2 => nq j (by omega) (by omega) (by omega))
  · exact h.pe.same c2 hk (hK 2 (by decide)) (hK 8 (by decide)) (fun _ _ => by rw [eA 7 (by decide) (by decide)]) (fun j h1 h2 => nq j (by omega) (by omega) (by omega))
  · exact h.pw.same c3 c2 (hK 3 (by decide)) (Nat.le_of_eq (hK 2 (by decide)).symm) (fun _ _ => by rw [eA 9 (by decide) (by decide)]) (fun j h1 h2 => nq j (by omega) (by omega) (by omega)) (fun x hx => hx.same c2 (Nat.le_of_eq (hK 2 (by decide)).symm) (fun j h1 h2 => nq j (by omega) (by omega) (by omega)))
  · exact h.la.same c4 (hK 4 (by decide)) (Nat.le_of_eq (hK 8 (by decide)).symm) (fun _ _ => by rw [eA 11 (by decide) (by decide)]) (fun _ _ => by rw [eA 13 (by decide) (by decide)]) (fun j h1 h2 => nq j (by omega) (by omega) (by omega))
  · exact h.le.same c5 (hK 5 (by decide)) hk (Nat.le_of_eq (hK 2 (by decide)).symm) (fun _ _ => by rw [eA 15 (by decide) (by decide)]) (fun j h1 h2 => nq j (by omega) (by omega) (by omega))
  · exact h.de.same c6 c0 (hK 6 (by decide)) hk (Nat.le_of_eq (hK 8 (by decide)).symm) (fun _ _ => by rw [eA 17 (by decide) (by decide)]) (fun j h1 h2 => nq j (by omega) (by omega) (by omega)) ht
  · exact h.pr.same c7 (hK 7 (by decide)) (Nat.le_of_eq (hK 2 (by decide)).symm) (hK 8 (by decide)) (fun _ _ => by rw [eA 19 (by decide) (by decide)]) (fun j h1 h2 => nq j (by omega) (by omega) (by omega))
  · exact h.gu.same (fun _ _ => by rw [eA 21 (by decide) (by decide)]) (fun j h1 h2 => nq j (by omega) (by omega) (by omega))
  · exact h.wt.same c11 (hK 11 (by decide)) (fun _ _ => by rw [eA 23 (by decide) (by decide)]) (fun j h1 h2 => nq j (by omega) (by omega) (by omega))
  · exact h.ta.same c10 (hK 10 (by decide)) (fun _ _ => by rw [eA 25 (by decide) (by decide)]) (fun j h1 h2 => nq j (by omega) (by omega) (by omega))
  · exact h.se.same c2 (hK 2 (by decide)) hk (fun p hp => nq _ (by omega) (by omega) (by omega))
  · exact h.st.same c2 (hK 2 (by decide)) (fun p hp => by rw [eA 7 (by decide) (by decide)]) (fun p hp => ⟨nq _ (by omega) (by omega) (by omega), nq _ (by omega) (by omega) (by omega)⟩)
  · exact h.ps.same c7 (hK 7 (by decide)) (Nat.le_of_eq (hK 2 (by decide)).symm) (hK 8 (by decide)) (fun _ _ => by rw [eA 19 (by decide) (by decide)]) (fun j h1 h2 => nq j (by omega) (by omega) (by omega)) (fun p hp => nq _ (by omega) (by omega) (by omega))
theorem RelR.onR_1 {K K' : Nat → Nat} {S S' : FS} {n n' : Nat → Int32} (h : RelR K S n) (cq : CQ [5] 101 S S') (nq : NQ 50 110 1 n n') (hK : ∀ i : Nat, i ≠ 1 → K' i = K i) (hk : K 1 ≤ K' 1) (hc : S'.1 103 = n' 9) (hct : ∀ q ∈ ctT, q.1 = 101 ∨ q.2.1 = 1 → S'.1 q.1 = nI (K' q.2.1) ∧ n' q.2.1 = nI (K' q.2.1) ∧ K' q.2.1 ≤ q.2.2) (hwy : WQ1 (S'.2 5) n' (K' 1) (K' 0)) : RelR K' S' n' := by
  have c0 := (h.ct 2 0 10 (by decide)).2.2
  have c1 := (h.ct 101 1 20 (by decide)).2.2
  have c2 := (h.ct 6 2 20 (by decide)).2.2
  have c3 := (h.ct 8 3 20 (by decide)).2.2
  have c4 := (h.ct 10 4 12 (by decide)).2.2
  have c5 := (h.ct 14 5 40 (by decide)).2.2
  have c6 := (h.ct 16 6 6 (by decide)).2.2
  have c7 := (h.ct 18 7 30 (by decide)).2.2
  have c10 := (h.ct 24 10 60 (by decide)).2.2
  have c11 := (h.ct 22 11 20 (by decide)).2.2
  have eA := fun q hq h3 => cq.2.2 q hq h3
  refine ⟨RCt.cq h cq nq (by decide) hK hc hct, ?_, hwy, ?_, ?_, ?_, ?_, ?_, ?_, ?_, ?_, ?_, ?_, ?_, ?_⟩
  · exact h.tw.same c0 (hK 0 (by decide)) (Nat.le_of_eq (hK 2 (by decide)).symm) (fun _ _ => by rw [eA 3 (by decide) (by decide)]) (fun j h1 h2 => nq j (by omega) (by omega) (by omega))
  · exact h.pe.same c2 (Nat.le_of_eq (hK 0 (by decide)).symm) (hK 2 (by decide)) (hK 8 (by decide)) (fun _ _ => by rw [eA 7 (by decide) (by decide)]) (fun j h1 h2 => nq j (by omega) (by omega) (by omega))
  · exact h.pw.same c3 c2 (hK 3 (by decide)) (Nat.le_of_eq (hK 2 (by decide)).symm) (fun _ _ => by rw [eA 9 (by decide) (by decide)]) (fun j h1 h2 => nq j (by omega) (by omega) (by omega)) (fun x hx => hx.same c2 (Nat.le_of_eq (hK 2 (by decide)).symm) (fun j h1 h2 => nq j (by omega) (by omega) (by omega)))
  · exact h.la.same c4 (hK 4 (by decide)) (Nat.le_of_eq (hK 8 (by decide)).symm) (fun _ _ => by rw [eA 11 (by decide) (by decide)]) (fun _ _ => by rw [eA 13 (by decide) (by decide)]) (fun j h1 h2 => nq j (by omega) (by omega) (by omega))
  · exact h.le.same c5 (hK 5 (by decide)) (Nat.le_of_eq (hK 0 (by decide)).symm) (Nat.le_of_eq (hK 2 (by decide)).symm) (fun _ _ => by rw [eA 15 (by decide) (by decide)]) (fun j h1 h2 => nq j (by omega) (by omega) (by omega))
  · exact h.de.same c6 c0 (hK 6 (by decide)) (Nat.le_of_eq (hK 0 (by decide)).symm) (Nat.le_of_eq (hK 8 (by decide)).symm) (fun _ _ => by rw [eA 17 (by decide) (by decide)]) (fun j h1 h2 => nq j (by omega) (by omega) (by omega)) (fun t ht e => by rw [nq _ (by omega) (by omega) (by omega)]; exact e)
  · exact h.pr.same c7 (hK 7 (by decide)) (Nat.le_of_eq (hK 2 (by decide)).symm) (hK 8 (by decide)) (fun _ _ => by rw [eA 19 (by decide) (by decide)]) (fun j h1 h2 => nq j (by omega) (by omega) (by omega))
  · exact h.gu.same (fun _ _ => by rw [eA 21 (by decide) (by decide)]) (fun j h1 h2 => nq j (by omega) (by omega) (by omega))
  · exact h.wt.same c11 (hK 11 (by decide)) (fun _ _ => by rw [eA 23 (by decide) (by decide)]) (fun j h1 h2 => nq j (by omega) (by omega) (by omega))
  · exact h.ta.same c10 (hK 10 (by decide)) (fun _ _ => by rw [eA 25 (by decide) (by decide)]) (fun j h1 h2 => nq j (by omega) (by omega) (by omega))
  · exact h.se.same c2 (hK 2 (by decide)) (Nat.le_of_eq (hK 0 (by decide)).symm) (fun p hp => nq _ (by omega) (by omega) (by omega))
  · exact h.st.same c2 (hK 2 (by decide)) (fun p hp => by rw [eA 7 (by decide) (by decide)]) (fun p hp => ⟨nq _ (by omega) (by omega) (by omega), nq _ (by omega) (by omega) (by omega)⟩)
  · exact h.ps.same c7 (hK 7 (by decide)) (Nat.le_of_eq (hK 2 (by decide)).symm) (hK 8 (by decide)) (fun _ _ => by rw [eA 19 (by decide) (by decide)]) (fun j h1 h2 => nq j (by omega) (by omega) (by omega)) (fun p hp => nq _ (by omega) (by omega) (by omega))
theorem RelR.onP_2 {K K' : Nat → Nat} {S S' : FS} {n n' : Nat → Int32} (h : RelR K S n) (cq : CQ [7] 6 S S') (nq : NQ 110 390 2 n n') (hK : ∀ i : Nat, i ≠ 2 → K' i = K i) (hk : K 2 ≤ K' 2) (hc : S'.1 103 = n' 9) (hct : ∀ q ∈ ctT, q.1 = 6 ∨ q.2.1 = 2 → S'.1 q.1 = nI (K' q.2.1) ∧ n' q.2.1 = nI (K' q.2.1) ∧ K' q.2.1 ≤ q.2.2) (hpe : RPe K' (S'.2 7) n') (hse : RSe K' n') (hst : RSt K' (S'.2 7) n') (hv : ∀ x : Int32, vL (K 2) n x → vL (K' 2) n' x) (hsq : ∀ p : Nat, p < K 2 → n' (14 * p + 121) = n (14 * p + 121)) : RelR K' S' n' := by
  have c0 := (h.ct 2 0 10 (by decide)).2.2
  have c1 := (h.ct 101 1 20 (by decide)).2.2
  have c2 := (h.ct 6 2 20 (by decide)).2.2
  have c3 := (h.ct 8 3 20 (by decide)).2.2
  have c4 := (h.ct 10 4 12 (by decide)).2.2
  have c5 := (h.ct 14 5 40 (by decide)).2.2
  have c6 := (h.ct 16 6 6 (by decide)).2.2
  have c7 := (h.ct 18 7 30 (by decide)).2.2
  have c10 := (h.ct 24 10 60 (by decide)).2.2
  have c11 := (h.ct 22 11 20 (by decide)).2.2
  have eA := fun q hq h3 => cq.2.2 q hq h3
  refine ⟨RCt.cq h cq nq (by decide) hK hc hct, ?_, ?_, hpe, ?_, ?_, ?_, ?_, ?_, ?_, ?_, ?_, hse, hst, ?_⟩
  · exact h.tw.same c0 (hK 0 (by decide)) hk (fun _ _ => by rw [eA 3 (by decide) (by decide)]) (fun j h1 h2 => nq j (by omega) (by omega) (by omega))
  · exact h.wy.no (hK 1 (by decide)) c1 (Nat.le_of_eq (hK 0 (by decide)).symm) (eA 5 (by decide) (by decide)) (fun j h1 h2 => nq j (by omega) (by omega) (by omega))
  · exact h.pw.same c3 c2 (hK 3 (by decide)) hk (fun _ _ => by rw [eA 9 (by decide) (by decide)]) (fun j h1 h2 => nq j (by omega) (by omega) (by omega)) hv
  · exact h.la.same c4 (hK 4 (by decide)) (Nat.le_of_eq (hK 8 (by decide)).symm) (fun _ _ => by rw [eA 11 (by decide) (by decide)]) (fun _ _ => by rw [eA 13 (by decide) (by decide)]) (fun j h1 h2 => nq j (by omega) (by omega) (by omega))
  · exact h.le.same c5 (hK 5 (by decide)) (Nat.le_of_eq (hK 0 (by decide)).symm) hk (fun _ _ => by rw [eA 15 (by decide) (by decide)]) (fun j h1 h2 => nq j (by omega) (by omega) (by omega))
  · exact h.de.same c6 c0 (hK 6 (by decide)) (Nat.le_of_eq (hK 0 (by decide)).symm) (Nat.le_of_eq (hK 8 (by decide)).symm) (fun _ _ => by rw [eA 17 (by decide) (by decide)]) (fun j h1 h2 => nq j (by omega) (by omega) (by omega)) (fun t ht e => by rw [nq _ (by omega) (by omega) (by omega)]; exact e)
  · exact h.pr.same c7 (hK 7 (by decide)) hk (hK 8 (by decide)) (fun _ _ => by rw [eA 19 (by decide) (by decide)]) (fun j h1 h2 => nq j (by omega) (by omega) (by omega))
  · exact h.gu.same (fun _ _ => by rw [eA 21 (by decide) (by decide)]) (fun j h1 h2 => nq j (by omega) (by omega) (by omega))
  · exact h.wt.same c11 (hK 11 (by decide)) (fun _ _ => by rw [eA 23 (by decide) (by decide)]) (fun j h1 h2 => nq j (by omega) (by omega) (by omega))
  · exact h.ta.same c10 (hK 10 (by decide)) (fun _ _ => by rw [eA 25 (by decide) (by decide)]) (fun j h1 h2 => nq j (by omega) (by omega) (by omega))
  · exact h.ps.same c7 (hK 7 (by decide)) hk (hK 8 (by decide)) (fun _ _ => by rw [eA 19 (by decide) (by decide)]) (fun j h1 h2 => nq j (by omega) (by omega) (by omega)) hsq
theorem RelR.onW_3 {K K' : Nat → Nat} {S S' : FS} {n n' : Nat → Int32} (h : RelR K S n) (cq : CQ [9] 8 S S') (nq : NQ 390 510 3 n n') (hK : ∀ i : Nat, i ≠ 3 → K' i = K i) (hk : K 3 ≤ K' 3) (hc : S'.1 103 = n' 9) (hct : ∀ q ∈ ctT, q.1 = 8 ∨ q.2.1 = 3 → S'.1 q.1 = nI (K' q.2.1) ∧ n' q.2.1 = nI (K' q.2.1) ∧ K' q.2.1 ≤ q.2.2) (hpw : RPw K' (S'.2 9) n') : RelR K' S' n' := by
  have c0 := (h.ct 2 0 10 (by decide)).2.2
  have c1 := (h.ct 101 1 20 (by decide)).2.2
  have c2 := (h.ct 6 2 20 (by decide)).2.2
  have c3 := (h.ct 8 3 20 (by decide)).2.2
  have c4 := (h.ct 10 4 12 (by decide)).2.2
  have c5 := (h.ct 14 5 40 (by decide)).2.2
  have c6 := (h.ct 16 6 6 (by decide)).2.2
  have c7 := (h.ct 18 7 30 (by decide)).2.2
  have c10 := (h.ct 24 10 60 (by decide)).2.2
  have c11 := (h.ct 22 11 20 (by decide)).2.2
  have eA := fun q hq h3 => cq.2.2 q hq h3
  refine ⟨RCt.cq h cq nq (by decide) hK hc hct, ?_, ?_, ?_, hpw, ?_, ?_, ?_, ?_, ?_, ?_, ?_, ?_, ?_, ?_⟩
  · exact h.tw.same c0 (hK 0 (by decide)) (Nat.le_of_eq (hK 2 (by decide)).symm) (fun _ _ => by rw [eA 3 (by decide) (by decide)]) (fun j h1 h2 => nq j (by omega) (by omega) (by omega))
  · exact h.wy.no (hK 1 (by decide)) c1 (Nat.le_of_eq (hK 0 (by decide)).symm) (eA 5 (by decide) (by decide)) (fun j h1 h2 => nq j (by omega) (by omega) (by omega))
  · exact h.pe.same c2 (Nat.le_of_eq (hK 0 (by decide)).symm) (hK 2 (by decide)) (hK 8 (by decide)) (fun _ _ => by rw [eA 7 (by decide) (by decide)]) (fun j h1 h2 => nq j (by omega) (by omega) (by omega))
  · exact h.la.same c4 (hK 4 (by decide)) (Nat.le_of_eq (hK 8 (by decide)).symm) (fun _ _ => by rw [eA 11 (by decide) (by decide)]) (fun _ _ => by rw [eA 13 (by decide) (by decide)]) (fun j h1 h2 => nq j (by omega) (by omega) (by omega))
  · exact h.le.same c5 (hK 5 (by decide)) (Nat.le_of_eq (hK 0 (by decide)).symm) (Nat.le_of_eq (hK 2 (by decide)).symm) (fun _ _ => by rw [eA 15 (by decide) (by decide)]) (fun j h1 h2 => nq j (by omega) (by omega) (by omega))
  · exact h.de.same c6 c0 (hK 6 (by decide)) (Nat.le_of_eq (hK 0 (by decide)).symm) (Nat.le_of_eq (hK 8 (by decide)).symm) (fun _ _ => by rw [eA 17 (by decide) (by decide)]) (fun j h1 h2 => nq j (by omega) (by omega) (by omega)) (fun t ht e => by rw [nq _ (by omega) (by omega) (by omega)]; exact e)
  · exact h.pr.same c7 (hK 7 (by decide)) (Nat.le_of_eq (hK 2 (by decide)).symm) (hK 8 (by decide)) (fun _ _ => by rw [eA 19 (by decide) (by decide)]) (fun j h1 h2 => nq j (by omega) (by omega) (by omega))
  · exact h.gu.same (fun _ _ => by rw [eA 21 (by decide) (by decide)]) (fun j h1 h2 => nq j (by omega) (by omega) (by omega))
  · exact h.wt.same c11 (hK 11 (by decide)) (fun _ _ => by rw [eA 23 (by decide) (by decide)]) (fun j h1 h2 => nq j (by omega) (by omega) (by omega))
  · exact h.ta.same c10 (hK 10 (by decide)) (fun _ _ => by rw [eA 25 (by decide) (by decide)]) (fun j h1 h2 => nq j (by omega) (by omega) (by omega))
  · exact h.se.same c2 (hK 2 (by decide)) (Nat.le_of_eq (hK 0 (by decide)).symm) (fun p hp => nq _ (by omega) (by omega) (by omega))
  · exact h.st.same c2 (hK 2 (by decide)) (fun p hp => by rw [eA 7 (by decide) (by decide)]) (fun p hp => ⟨nq _ (by omega) (by omega) (by omega), nq _ (by omega) (by omega) (by omega)⟩)
  · exact h.ps.same c7 (hK 7 (by decide)) (Nat.le_of_eq (hK 2 (by decide)).symm) (hK 8 (by decide)) (fun _ _ => by rw [eA 19 (by decide) (by decide)]) (fun j h1 h2 => nq j (by omega) (by omega) (by omega)) (fun p hp => nq _ (by omega) (by omega) (by omega))
theorem RelR.onL_4 {K K' : Nat → Nat} {S S' : FS} {n n' : Nat → Int32} (h : RelR K S n) (cq : CQ [11, 13] 10 S S') (nq : NQ 510 1290 4 n n') (hK : ∀ i : Nat, i ≠ 4 → K' i = K i) (hk : K 4 ≤ K' 4) (hc : S'.1 103 = n' 9) (hct : ∀ q ∈ ctT, q.1 = 10 ∨ q.2.1 = 4 → S'.1 q.1 = nI (K' q.2.1) ∧ n' q.2.1 = nI (K' q.2.1) ∧ K' q.2.1 ≤ q.2.2) (hla : RLa K' (S'.2 11) (S'.2 13) n') : RelR K' S' n' := by
  have c0 := (h.ct 2 0 10 (by decide)).2.2
  have c1 := (h.ct 101 1 20 (by decide)).2.2
  have c2 := (h.ct 6 2 20 (by decide)).2.2
  have c3 := (h.ct 8 3 20 (by decide)).2.2
  have c4 := (h.ct 10 4 12 (by decide)).2.2
  have c5 := (h.ct 14 5 40 (by decide)).2.2
  have c6 := (h.ct 16 6 6 (by decide)).2.2
  have c7 := (h.ct 18 7 30 (by decide)).2.2
  have c10 := (h.ct 24 10 60 (by decide)).2.2
  have c11 := (h.ct 22 11 20 (by decide)).2.2
  have eA := fun q hq h3 => cq.2.2 q hq h3
  refine ⟨RCt.cq h cq nq (by decide) hK hc hct, ?_, ?_, ?_, ?_, hla, ?_, ?_, ?_, ?_, ?_, ?_, ?_, ?_, ?_⟩
  · exact h.tw.same c0 (hK 0 (by decide)) (Nat.le_of_eq (hK 2 (by decide)).symm) (fun _ _ => by rw [eA 3 (by decide) (by decide)]) (fun j h1 h2 => nq j (by omega) (by omega) (by omega))
  · exact h.wy.no (hK 1 (by decide)) c1 (Nat.le_of_eq (hK 0 (by decide)).symm) (eA 5 (by decide) (by decide)) (fun j h1 h2 => nq j (by omega) (by omega) (by omega))
  · exact h.pe.same c2 (Nat.le_of_eq (hK 0 (by decide)).symm) (hK 2 (by decide)) (hK 8 (by decide)) (fun _ _ => by rw [eA 7 (by decide) (by decide)]) (fun j h1 h2 => nq j (by omega) (by omega) (by omega))
  · exact h.pw.same c3 c2 (hK 3 (by decide)) (Nat.le_of_eq (hK 2 (by decide)).symm) (fun _ _ => by rw [eA 9 (by decide) (by decide)]) (fun j h1 h2 => nq j (by omega) (by omega) (by omega)) (fun x hx => hx.same c2 (Nat.le_of_eq (hK 2 (by decide)).symm) (fun j h1 h2 => nq j (by omega) (by omega) (by omega)))
  · exact h.le.same c5 (hK 5 (by decide)) (Nat.le_of_eq (hK 0 (by decide)).symm) (Nat.le_of_eq (hK 2 (by decide)).symm) (fun _ _ => by rw [eA 15 (by decide) (by decide)]) (fun j h1 h2 => nq j (by omega) (by omega) (by omega))
  · exact h.de.same c6 c0 (hK 6 (by decide)) (Nat.le_of_eq (hK 0 (by decide)).symm) (Nat.le_of_eq (hK 8 (by decide)).symm) (fun _ _ => by rw [eA 17 (by decide) (by decide)]) (fun j h1 h2 => nq j (by omega) (by omega) (by omega)) (fun t ht e => by rw [nq _ (by omega) (by omega) (by omega)]; exact e)
  · exact h.pr.same c7 (hK 7 (by decide)) (Nat.le_of_eq (hK 2 (by decide)).symm) (hK 8 (by decide)) (fun _ _ => by rw [eA 19 (by decide) (by decide)]) (fun j h1 h2 => nq j (by omega) (by omega) (by omega))
  · exact h.gu.same (fun _ _ => by rw [eA 21 (by decide) (by decide)]) (fun j h1 h2 => nq j (by omega) (by omega) (by omega))
  · exact h.wt.same c11 (hK 11 (by decide)) (fun _ _ => by rw [eA 23 (by decide) (by decide)]) (fun j h1 h2 => nq j (by omega) (by omega) (by omega))
  · exact h.ta.same c10 (hK 10 (by decide)) (fun _ _ => by rw [eA 25 (by decide) (by decide)]) (fun j h1 h2 => nq j (by omega) (by omega) (by omega))
  · exact h.se.same c2 (hK 2 (by decide)) (Nat.le_of_eq (hK 0 (by decide)).symm) (fun p hp => nq _ (by omega) (by omega) (by omega))
  · exact h.st.same c2 (hK 2 (by decide)) (fun p hp => by rw [eA 7 (by decide) (by decide)]) (fun p hp => ⟨nq _ (by omega) (by omega) (by omega), nq _ (by omega) (by omega) (by omega)⟩)
  · exact h.ps.same c7 (hK 7 (by decide)) (Nat.le_of_eq (hK 2 (by decide)).symm) (hK 8 (by decide)) (fun _ _ => by rw [eA 19 (by decide) (by decide)]) (fun j h1 h2 => nq j (by omega) (by omega) (by omega)) (fun p hp => nq _ (by omega) (by omega) (by omega))
theorem RelR.onE_5 {K K' : Nat → Nat} {S S' : FS} {n n' : Nat → Int32} (h : RelR K S n) (cq : CQ [15] 14 S S') (nq : NQ 1290 1770 5 n n') (hK : ∀ i : Nat, i ≠ 5 → K' i = K i) (hk : K 5 ≤ K' 5) (hc : S'.1 103 = n' 9) (hct : ∀ q ∈ ctT, q.1 = 14 ∨ q.2.1 = 5 → S'.1 q.1 = nI (K' q.2.1) ∧ n' q.2.1 = nI (K' q.2.1) ∧ K' q.2.1 ≤ q.2.2) (hle : RLe K' (S'.2 15) n') : RelR K' S' n' := by
  have c0 := (h.ct 2 0 10 (by decide)).2.2
  have c1 := (h.ct 101 1 20 (by decide)).2.2
  have c2 := (h.ct 6 2 20 (by decide)).2.2
  have c3 := (h.ct 8 3 20 (by decide)).2.2
  have c4 := (h.ct 10 4 12 (by decide)).2.2
  have c5 := (h.ct 14 5 40 (by decide)).2.2
  have c6 := (h.ct 16 6 6 (by decide)).2.2
  have c7 := (h.ct 18 7 30 (by decide)).2.2
  have c10 := (h.ct 24 10 60 (by decide)).2.2
  have c11 := (h.ct 22 11 20 (by decide)).2.2
  have eA := fun q hq h3 => cq.2.2 q hq h3
  refine ⟨RCt.cq h cq nq (by decide) hK hc hct, ?_, ?_, ?_, ?_, ?_, hle, ?_, ?_, ?_, ?_, ?_, ?_, ?_, ?_⟩
  · exact h.tw.same c0 (hK 0 (by decide)) (Nat.le_of_eq (hK 2 (by decide)).symm) (fun _ _ => by rw [eA 3 (by decide) (by decide)]) (fun j h1 h2 => nq j (by omega) (by omega) (by omega))
  · exact h.wy.no (hK 1 (by decide)) c1 (Nat.le_of_eq (hK 0 (by decide)).symm) (eA 5 (by decide) (by decide)) (fun j h1 h2 => nq j (by omega) (by omega) (by omega))
  · exact h.pe.same c2 (Nat.le_of_eq (hK 0 (by decide)).symm) (hK 2 (by decide)) (hK 8 (by decide)) (fun _ _ => by rw [eA 7 (by decide) (by decide)]) (fun j h1 h2 => nq j (by omega) (by omega) (by omega))
  · exact h.pw.same c3 c2 (hK 3 (by decide)) (Nat.le_of_eq (hK 2 (by decide)).symm) (fun _ _ => by rw [eA 9 (by decide) (by decide)]) (fun j h1 h2 => nq j (by omega) (by omega) (by omega)) (fun x hx => hx.same c2 (Nat.le_of_eq (hK 2 (by decide)).symm) (fun j h1 h2 => nq j (by omega) (by omega) (by omega)))
  · exact h.la.same c4 (hK 4 (by decide)) (Nat.le_of_eq (hK 8 (by decide)).symm) (fun _ _ => by rw [eA 11 (by decide) (by decide)]) (fun _ _ => by rw [eA 13 (by decide) (by decide)]) (fun j h1 h2 => nq j (by omega) (by omega) (by omega))
  · exact h.de.same c6 c0 (hK 6 (by decide)) (Nat.le_of_eq (hK 0 (by decide)).symm) (Nat.le_of_eq (hK 8 (by decide)).symm) (fun _ _ => by rw [eA 17 (by decide) (by decide)]) (fun j h1 h2 => nq j (by omega) (by omega) (by omega)) (fun t ht e => by rw [nq _ (by omega) (by omega) (by omega)]; exact e)
  · exact h.pr.same c7 (hK 7 (by decide)) (Nat.le_of_eq (hK 2 (by decide)).symm) (hK 8 (by decide)) (fun _ _ => by rw [eA 19 (by decide) (by decide)]) (fun j h1 h2 => nq j (by omega) (by omega) (by omega))
  · exact h.gu.same (fun _ _ => by rw [eA 21 (by decide) (by decide)]) (fun j h1 h2 => nq j (by omega) (by omega) (by omega))
  · exact h.wt.same c11 (hK 11 (by decide)) (fun _ _ => by rw [eA 23 (by decide) (by decide)]) (fun j h1 h2 => nq j (by omega) (by omega) (by omega))
  · exact h.ta.same c10 (hK 10 (by decide)) (fun _ _ => by rw [eA 25 (by decide) (by decide)]) (fun j h1 h2 => nq j (by omega) (by omega) (by omega))
  · exact h.se.same c2 (hK 2 (by decide)) (Nat.le_of_eq (hK 0 (by decide)).symm) (fun p hp => nq _ (by omega) (by omega) (by omega))
  · exact h.st.same c2 (hK 2 (by decide)) (fun p hp => by rw [eA 7 (by decide) (by decide)]) (fun p hp => ⟨nq _ (by omega) (by omega) (by omega), nq _ (by omega) (by omega) (by omega)⟩)
  · exact h.ps.same c7 (hK 7 (by decide)) (Nat.le_of_eq (hK 2 (by decide)).symm) (hK 8 (by decide)) (fun _ _ => by rw [eA 19 (by decide) (by decide)]) (fun j h1 h2 => nq j (by omega) (by omega) (by omega)) (fun p hp => nq _ (by omega) (by omega) (by omega))
theorem RelR.onD_6 {K K' : Nat → Nat} {S S' : FS} {n n' : Nat → Int32} (h : RelR K S n) (cq : CQ [17] 16 S S') (nq : NQ 1770 1806 6 n n') (hK : ∀ i : Nat, i ≠ 6 → K' i = K i) (hk : K 6 ≤ K' 6) (hc : S'.1 103 = n' 9) (hct : ∀ q ∈ ctT, q.1 = 16 ∨ q.2.1 = 6 → S'.1 q.1 = nI (K' q.2.1) ∧ n' q.2.1 = nI (K' q.2.1) ∧ K' q.2.1 ≤ q.2.2) (hde : RDe K' (S'.2 17) n') : RelR K' S' n' := by
  have c0 := (h.ct 2 0 10 (by decide)).2.2
  have c1 := (h.ct 101 1 20 (by decide)).2.2
  have c2 := (h.ct 6 2 20 (by decide)).2.2
  have c3 := (h.ct 8 3 20 (by decide)).2.2
  have c4 := (h.ct 10 4 12 (by decide)).2.2
  have c5 := (h.ct 14 5 40 (by decide)).2.2
  have c6 := (h.ct 16 6 6 (by decide)).2.2
  have c7 := (h.ct 18 7 30 (by decide)).2.2
  have c10 := (h.ct 24 10 60 (by decide)).2.2
  have c11 := (h.ct 22 11 20 (by decide)).2.2
  have eA := fun q hq h3 => cq.2.2 q hq h3
  refine ⟨RCt.cq h cq nq (by decide) hK hc hct, ?_, ?_, ?_, ?_, ?_, ?_, hde, ?_, ?_, ?_, ?_, ?_, ?_, ?_⟩
  · exact h.tw.same c0 (hK 0 (by decide)) (Nat.le_of_eq (hK 2 (by decide)).symm) (fun _ _ => by rw [eA 3 (by decide) (by decide)]) (fun j h1 h2 => nq j (by omega) (by omega) (by omega))
  · exact h.wy.no (hK 1 (by decide)) c1 (Nat.le_of_eq (hK 0 (by decide)).symm) (eA 5 (by decide) (by decide)) (fun j h1 h2 => nq j (by omega) (by omega) (by omega))
  · exact h.pe.same c2 (Nat.le_of_eq (hK 0 (by decide)).symm) (hK 2 (by decide)) (hK 8 (by decide)) (fun _ _ => by rw [eA 7 (by decide) (by decide)]) (fun j h1 h2 => nq j (by omega) (by omega) (by omega))
  · exact h.pw.same c3 c2 (hK 3 (by decide)) (Nat.le_of_eq (hK 2 (by decide)).symm) (fun _ _ => by rw [eA 9 (by decide) (by decide)]) (fun j h1 h2 => nq j (by omega) (by omega) (by omega)) (fun x hx => hx.same c2 (Nat.le_of_eq (hK 2 (by decide)).symm) (fun j h1 h2 => nq j (by omega) (by omega) (by omega)))
  · exact h.la.same c4 (hK 4 (by decide)) (Nat.le_of_eq (hK 8 (by decide)).symm) (fun _ _ => by rw [eA 11 (by decide) (by decide)]) (fun _ _ => by rw [eA 13 (by decide) (by decide)]) (fun j h1 h2 => nq j (by omega) (by omega) (by omega))
  · exact h.le.same c5 (hK 5 (by decide)) (Nat.le_of_eq (hK 0 (by decide)).symm) (Nat.le_of_eq (hK 2 (by decide)).symm) (fun _ _ => by rw [eA 15 (by decide) (by decide)]) (fun j h1 h2 => nq j (by omega) (by omega) (by omega))
  · exact h.pr.same c7 (hK 7 (by decide)) (Nat.le_of_eq (hK 2 (by decide)).symm) (hK 8 (by decide)) (fun _ _ => by rw [eA 19 (by decide) (by decide)]) (fun j h1 h2 => nq j (by omega) (by omega) (by omega))
  · exact h.gu.same (fun _ _ => by rw [eA 21 (by decide) (by decide)]) (fun j h1 h2 => nq j (by omega) (by omega) (by omega))
  · exact h.wt.same c11 (hK 11 (by decide)) (fun _ _ => by rw [eA 23 (by decide) (by decide)]) (fun j h1 h2 => nq j (by omega) (by omega) (by omega))
  · exact h.ta.same c10 (hK 10 (by decide)) (fun _ _ => by rw [eA 25 (by decide) (by decide)]) (fun j h1 h2 => nq j (by omega) (by omega) (by omega))
  · exact h.se.same c2 (hK 2 (by decide)) (Nat.le_of_eq (hK 0 (by decide)).symm) (fun p hp => nq _ (by omega) (by omega) (by omega))
  · exact h.st.same c2 (hK 2 (by decide)) (fun p hp => by rw [eA 7 (by decide) (by decide)]) (fun p hp => ⟨nq _ (by omega) (by omega) (by omega), nq _ (by omega) (by omega) (by omega)⟩)
  · exact h.ps.same c7 (hK 7 (by decide)) (Nat.le_of_eq (hK 2 (by decide)).symm) (hK 8 (by decide)) (fun _ _ => by rw [eA 19 (by decide) (by decide)]) (fun j h1 h2 => nq j (by omega) (by omega) (by omega)) (fun p hp => nq _ (by omega) (by omega) (by omega))
theorem RelR.onQ_7 {K K' : Nat → Nat} {S S' : FS} {n n' : Nat → Int32} (h : RelR K S n) (cq : CQ [19] 18 S S') (nq : NQ 1806 1986 7 n n') (hK : ∀ i : Nat, i ≠ 7 → K' i = K i) (hk : K 7 ≤ K' 7) (hc : S'.1 103 = n' 9) (hct : ∀ q ∈ ctT, q.1 = 18 ∨ q.2.1 = 7 → S'.1 q.1 = nI (K' q.2.1) ∧ n' q.2.1 = nI (K' q.2.1) ∧ K' q.2.1 ≤ q.2.2) (hpr : RPr K' (S'.2 19) n') (hps : RPs K' (S'.2 19) n') : RelR K' S' n' := by
  have c0 := (h.ct 2 0 10 (by decide)).2.2
  have c1 := (h.ct 101 1 20 (by decide)).2.2
  have c2 := (h.ct 6 2 20 (by decide)).2.2
  have c3 := (h.ct 8 3 20 (by decide)).2.2
  have c4 := (h.ct 10 4 12 (by decide)).2.2
  have c5 := (h.ct 14 5 40 (by decide)).2.2
  have c6 := (h.ct 16 6 6 (by decide)).2.2
  have c7 := (h.ct 18 7 30 (by decide)).2.2
  have c10 := (h.ct 24 10 60 (by decide)).2.2
  have c11 := (h.ct 22 11 20 (by decide)).2.2
  have eA := fun q hq h3 => cq.2.2 q hq h3
  refine ⟨RCt.cq h cq nq (by decide) hK hc hct, ?_, ?_, ?_, ?_, ?_, ?_, ?_, hpr, ?_, ?_, ?_, ?_, ?_, hps⟩
  · exact h.tw.same c0 (hK 0 (by decide)) (Nat.le_of_eq (hK 2 (by decide)).symm) (fun _ _ => by rw [eA 3 (by decide) (by decide)]) (fun j h1 h2 => nq j (by omega) (by omega) (by omega))
  · exact h.wy.no (hK 1 (by decide)) c1 (Nat.le_of_eq (hK 0 (by decide)).symm) (eA 5 (by decide) (by decide)) (fun j h1 h2 => nq j (by omega) (by omega) (by omega))
  · exact h.pe.same c2 (Nat.le_of_eq (hK 0 (by decide)).symm) (hK 2 (by decide)) (hK 8 (by decide)) (fun _ _ => by rw [eA 7 (by decide) (by decide)]) (fun j h1 h2 => nq j (by omega) (by omega) (by omega))
  · exact h.pw.same c3 c2 (hK 3 (by decide)) (Nat.le_of_eq (hK 2 (by decide)).symm) (fun _ _ => by rw [eA 9 (by decide) (by decide)]) (fun j h1 h2 => nq j (by omega) (by omega) (by omega)) (fun x hx => hx.same c2 (Nat.le_of_eq (hK 2 (by decide)).symm) (fun j h1 h2 => nq j (by omega) (by omega) (by omega)))
  · exact h.la.same c4 (hK 4 (by decide)) (Nat.le_of_eq (hK 8 (by decide)).symm) (fun _ _ => by rw [eA 11 (by decide) (by decide)]) (fun _ _ => by rw [eA 13 (by decide) (by decide)]) (fun j h1 h2 => nq j (by omega) (by omega) (by omega))
  · exact h.le.same c5 (hK 5 (by decide)) (Nat.le_of_eq (hK 0 (by decide)).symm) (Nat.le_of_eq (hK 2 (by decide)).symm) (fun _ _ => by rw [eA 15 (by decide) (by decide)]) (fun j h1 h2 => nq j (by omega) (by omega) (by omega))
  · exact h.de.same c6 c0 (hK 6 (by decide)) (Nat.le_of_eq (hK 0 (by decide)).symm) (Nat.le_of_eq (hK 8 (by decide)).symm) (fun _ _ => by rw [eA 17 (by decide) (by decide)]) (fun j h1 h2 => nq j (by omega) (by omega) (by omega)) (fun t ht e => by rw [nq _ (by omega) (by omega) (by omega)]; exact e)
  · exact h.gu.same (fun _ _ => by rw [eA 21 (by decide) (by decide)]) (fun j h1 h2 => nq j (by omega) (by omega) (by omega))
  · exact h.wt.same c11 (hK 11 (by decide)) (fun _ _ => by rw [eA 23 (by decide) (by decide)]) (fun j h1 h2 => nq j (by omega) (by omega) (by omega))
  · exact h.ta.same c10 (hK 10 (by decide)) (fun _ _ => by rw [eA 25 (by decide) (by decide)]) (fun j h1 h2 => nq j (by omega) (by omega) (by omega))
  · exact h.se.same c2 (hK 2 (by decide)) (Nat.le_of_eq (hK 0 (by decide)).symm) (fun p hp => nq _ (by omega) (by omega) (by omega))
  · exact h.st.same c2 (hK 2 (by decide)) (fun p hp => by rw [eA 7 (by decide) (by decide)]) (fun p hp => ⟨nq _ (by omega) (by omega) (by omega), nq _ (by omega) (by omega) (by omega)⟩)
theorem RelR.onA_10 {K K' : Nat → Nat} {S S' : FS} {n n' : Nat → Int32} (h : RelR K S n) (cq : CQ [25] 24 S S') (nq : NQ 1991 2051 10 n n') (hK : ∀ i : Nat, i ≠ 10 → K' i = K i) (hk : K 10 ≤ K' 10) (hc : S'.1 103 = n' 9) (hct : ∀ q ∈ ctT, q.1 = 24 ∨ q.2.1 = 10 → S'.1 q.1 = nI (K' q.2.1) ∧ n' q.2.1 = nI (K' q.2.1) ∧ K' q.2.1 ≤ q.2.2) (hta : RTa K' (S'.2 25) n') : RelR K' S' n' := by
  have c0 := (h.ct 2 0 10 (by decide)).2.2
  have c1 := (h.ct 101 1 20 (by decide)).2.2
  have c2 := (h.ct 6 2 20 (by decide)).2.2
  have c3 := (h.ct 8 3 20 (by decide)).2.2
  have c4 := (h.ct 10 4 12 (by decide)).2.2
  have c5 := (h.ct 14 5 40 (by decide)).2.2
  have c6 := (h.ct 16 6 6 (by decide)).2.2
  have c7 := (h.ct 18 7 30 (by decide)).2.2
  have c10 := (h.ct 24 10 60 (by decide)).2.2
  have c11 := (h.ct 22 11 20 (by decide)).2.2
  have eA := fun q hq h3 => cq.2.2 q hq h3
  refine ⟨RCt.cq h cq nq (by decide) hK hc hct, ?_, ?_, ?_, ?_, ?_, ?_, ?_, ?_, ?_, ?_, hta, ?_, ?_, ?_⟩
  · exact h.tw.same c0 (hK 0 (by decide)) (Nat.le_of_eq (hK 2 (by decide)).symm) (fun _ _ => by rw [eA 3 (by decide) (by decide)]) (fun j h1 h2 => nq j (by omega) (by omega) (by omega))
  · exact h.wy.no (hK 1 (by decide)) c1 (Nat.le_of_eq (hK 0 (by decide)).symm) (eA 5 (by decide) (by decide)) (fun j h1 h2 => nq j (by omega) (by omega) (by omega))
  · exact h.pe.same c2 (Nat.le_of_eq (hK 0 (by decide)).symm) (hK 2 (by decide)) (hK 8 (by decide)) (fun _ _ => by rw [eA 7 (by decide) (by decide)]) (fun j h1 h2 => nq j (by omega) (by omega) (by omega))
  · exact h.pw.same c3 c2 (hK 3 (by decide)) (Nat.le_of_eq (hK 2 (by decide)).symm) (fun _ _ => by rw [eA 9 (by decide) (by decide)]) (fun j h1 h2 => nq j (by omega) (by omega) (by omega)) (fun x hx => hx.same c2 (Nat.le_of_eq (hK 2 (by decide)).symm) (fun j h1 h2 => nq j (by omega) (by omega) (by omega)))
  · exact h.la.same c4 (hK 4 (by decide)) (Nat.le_of_eq (hK 8 (by decide)).symm) (fun _ _ => by rw [eA 11 (by decide) (by decide)]) (fun _ _ => by rw [eA 13 (by decide) (by decide)]) (fun j h1 h2 => nq j (by omega) (by omega) (by omega))
  · exact h.le.same c5 (hK 5 (by decide)) (Nat.le_of_eq (hK 0 (by decide)).symm) (Nat.le_of_eq (hK 2 (by decide)).symm) (fun _ _ => by rw [eA 15 (by decide) (by decide)]) (fun j h1 h2 => nq j (by omega) (by omega) (by omega))
  · exact h.de.same c6 c0 (hK 6 (by decide)) (Nat.le_of_eq (hK 0 (by decide)).symm) (Nat.le_of_eq (hK 8 (by decide)).symm) (fun _ _ => by rw [eA 17 (by decide) (by decide)]) (fun j h1 h2 => nq j (by omega) (by omega) (by omega)) (fun t ht e => by rw [nq _ (by omega) (by omega) (by omega)]; exact e)
  · exact h.pr.same c7 (hK 7 (by decide)) (Nat.le_of_eq (hK 2 (by decide)).symm) (hK 8 (by decide)) (fun _ _ => by rw [eA 19 (by decide) (by decide)]) (fun j h1 h2 => nq j (by omega) (by omega) (by omega))
  · exact h.gu.same (fun _ _ => by rw [eA 21 (by decide) (by decide)]) (fun j h1 h2 => nq j (by omega) (by omega) (by omega))
  · exact h.wt.same c11 (hK 11 (by decide)) (fun _ _ => by rw [eA 23 (by decide) (by decide)]) (fun j h1 h2 => nq j (by omega) (by omega) (by omega))
  · exact h.se.same c2 (hK 2 (by decide)) (Nat.le_of_eq (hK 0 (by decide)).symm) (fun p hp => nq _ (by omega) (by omega) (by omega))
  · exact h.st.same c2 (hK 2 (by decide)) (fun p hp => by rw [eA 7 (by decide) (by decide)]) (fun p hp => ⟨nq _ (by omega) (by omega) (by omega), nq _ (by omega) (by omega) (by omega)⟩)
  · exact h.ps.same c7 (hK 7 (by decide)) (Nat.le_of_eq (hK 2 (by decide)).symm) (hK 8 (by decide)) (fun _ _ => by rw [eA 19 (by decide) (by decide)]) (fun j h1 h2 => nq j (by omega) (by omega) (by omega)) (fun p hp => nq _ (by omega) (by omega) (by omega))
theorem RelR.onX_11 {K K' : Nat → Nat} {S S' : FS} {n n' : Nat → Int32} (h : RelR K S n) (cq : CQ [23] 22 S S') (nq : NQ 2051 2071 11 n n') (hK : ∀ i : Nat, i ≠ 11 → K' i = K i) (hk : K 11 ≤ K' 11) (hc : S'.1 103 = n' 9) (hct : ∀ q ∈ ctT, q.1 = 22 ∨ q.2.1 = 11 → S'.1 q.1 = nI (K' q.2.1) ∧ n' q.2.1 = nI (K' q.2.1) ∧ K' q.2.1 ≤ q.2.2) (hwt : RWt K' (S'.2 23) n') : RelR K' S' n' := by
  have c0 := (h.ct 2 0 10 (by decide)).2.2
  have c1 := (h.ct 101 1 20 (by decide)).2.2
  have c2 := (h.ct 6 2 20 (by decide)).2.2
  have c3 := (h.ct 8 3 20 (by decide)).2.2
  have c4 := (h.ct 10 4 12 (by decide)).2.2
  have c5 := (h.ct 14 5 40 (by decide)).2.2
  have c6 := (h.ct 16 6 6 (by decide)).2.2
  have c7 := (h.ct 18 7 30 (by decide)).2.2
  have c10 := (h.ct 24 10 60 (by decide)).2.2
  have c11 := (h.ct 22 11 20 (by decide)).2.2
  have eA := fun q hq h3 => cq.2.2 q hq h3
  refine ⟨RCt.cq h cq nq (by decide) hK hc hct, ?_, ?_, ?_, ?_, ?_, ?_, ?_, ?_, ?_, hwt, ?_, ?_, ?_, ?_⟩
  · exact h.tw.same c0 (hK 0 (by decide)) (Nat.le_of_eq (hK 2 (by decide)).symm) (fun _ _ => by rw [eA 3 (by decide) (by decide)]) (fun j h1 h2 => nq j (by omega) (by omega) (by omega))
  · exact h.wy.no (hK 1 (by decide)) c1 (Nat.le_of_eq (hK 0 (by decide)).symm) (eA 5 (by decide) (by decide)) (fun j h1 h2 => nq j (by omega) (by omega) (by omega))
  · exact h.pe.same c2 (Nat.le_of_eq (hK 0 (by decide)).symm) (hK 2 (by decide)) (hK 8 (by decide)) (fun _ _ => by rw [eA 7 (by decide) (by decide)]) (fun j h1 h2 => nq j (by omega) (by omega) (by omega))
  · exact h.pw.same c3 c2 (hK 3 (by decide)) (Nat.le_of_eq (hK 2 (by decide)).symm) (fun _ _ => by rw [eA 9 (by decide) (by decide)]) (fun j h1 h2 => nq j (by omega) (by omega) (by omega)) (fun x hx => hx.same c2 (Nat.le_of_eq (hK 2 (by decide)).symm) (fun j h1 h2 => nq j (by omega) (by omega) (by omega)))
  · exact h.la.same c4 (hK 4 (by decide)) (Nat.le_of_eq (hK 8 (by decide)).symm) (fun _ _ => by rw [eA 11 (by decide) (by decide)]) (fun _ _ => by rw [eA 13 (by decide) (by decide)]) (fun j h1 h2 => nq j (by omega) (by omega) (by omega))
  · exact h.le.same c5 (hK 5 (by decide)) (Nat.le_of_eq (hK 0 (by decide)).symm) (Nat.le_of_eq (hK 2 (by decide)).symm) (fun _ _ => by rw [eA 15 (by decide) (by decide)]) (fun j h1 h2 => nq j (by omega) (by omega) (by omega))
  · exact h.de.same c6 c0 (hK 6 (by decide)) (Nat.le_of_eq (hK 0 (by decide)).symm) (Nat.le_of_eq (hK 8 (by decide)).symm) (fun _ _ => by rw [eA 17 (by decide) (by decide)]) (fun j h1 h2 => nq j (by omega) (by omega) (by omega)) (fun t ht e => by rw [nq _ (by omega) (by omega) (by omega)]; exact e)
  · exact h.pr.same c7 (hK 7 (by decide)) (Nat.le_of_eq (hK 2 (by decide)).symm) (hK 8 (by decide)) (fun _ _ => by rw [eA 19 (by decide) (by decide)]) (fun j h1 h2 => nq j (by omega) (by omega) (by omega))
  · exact h.gu.same (fun _ _ => by rw [eA 21 (by decide) (by decide)]) (fun j h1 h2 => nq j (by omega) (by omega) (by omega))
  · exact h.ta.same c10 (hK 10 (by decide)) (fun _ _ => by rw [eA 25 (by decide) (by decide)]) (fun j h1 h2 => nq j (by omega) (by omega) (by omega))
  · exact h.se.same c2 (hK 2 (by decide)) (Nat.le_of_eq (hK 0 (by decide)).symm) (fun p hp => nq _ (by omega) (by omega) (by omega))
  · exact h.st.same c2 (hK 2 (by decide)) (fun p hp => by rw [eA 7 (by decide) (by decide)]) (fun p hp => ⟨nq _ (by omega) (by omega) (by omega), nq _ (by omega) (by omega) (by omega)⟩)
  · exact h.ps.same c7 (hK 7 (by decide)) (Nat.le_of_eq (hK 2 (by decide)).symm) (hK 8 (by decide)) (fun _ _ => by rw [eA 19 (by decide) (by decide)]) (fun j h1 h2 => nq j (by omega) (by omega) (by omega)) (fun p hp => nq _ (by omega) (by omega) (by omega))
theorem RelR.onA_10z {K K' : Nat → Nat} {S S' : FS} {n n' : Nat → Int32} (h : RelR K S n) (cq : CQ [25] 24 S S') (nq : NQ 1991 2051 10 n n') (hK : ∀ i : Nat, i ≠ 10 → K' i = K i) (hc : S'.1 103 = n' 9) (hct : ∀ q ∈ ctT, q.1 = 24 ∨ q.2.1 = 10 → S'.1 q.1 = nI (K' q.2.1) ∧ n' q.2.1 = nI (K' q.2.1) ∧ K' q.2.1 ≤ q.2.2) (hta : RTa K' (S'.2 25) n') : RelR K' S' n' := by
  have c0 := (h.ct 2 0 10 (by decide)).2.2
  have c1 := (h.ct 101 1 20 (by decide)).2.2
  have c2 := (h.ct 6 2 20 (by decide)).2.2
  have c3 := (h.ct 8 3 20 (by decide)).2.2
  have c4 := (h.ct 10 4 12 (by decide)).2.2
  have c5 := (h.ct 14 5 40 (by decide)).2.2
  have c6 := (h.ct 16 6 6 (by decide)).2.2
  have c7 := (h.ct 18 7 30 (by decide)).2.2
  have c10 := (h.ct 24 10 60 (by decide)).2.2
  have c11 := (h.ct 22 11 20 (by decide)).2.2
  have eA := fun q hq h3 => cq.2.2 q hq h3
  refine ⟨RCt.cq h cq nq (by decide) hK hc hct, ?_, ?_, ?_, ?_, ?_, ?_, ?_, ?_, ?_, ?_, hta, ?_, ?_, ?_⟩
  · exact h.tw.same c0 (hK 0 (by decide)) (Nat.le_of_eq (hK 2 (by decide)).symm) (fun _ _ => by rw [eA 3 (by decide) (by decide)]) (fun j h1 h2 => nq j (by omega) (by omega) (by omega))
  · exact h.wy.no (hK 1 (by decide)) c1 (Nat.le_of_eq (hK 0 (by decide)).symm) (eA 5 (by decide) (by decide)) (fun j h1 h2 => nq j (by omega) (by omega) (by omega))
  · exact h.pe.same c2 (Nat.le_of_eq (hK 0 (by decide)).symm) (hK 2 (by decide)) (hK 8 (by decide)) (fun _ _ => by rw [eA 7 (by decide) (by decide)]) (fun j h1 h2 => nq j (by omega) (by omega) (by omega))
  · exact h.pw.same c3 c2 (hK 3 (by decide)) (Nat.le_of_eq (hK 2 (by decide)).symm) (fun _ _ => by rw [eA 9 (by decide) (by decide)]) (fun j h1 h2 => nq j (by omega) (by omega) (by omega)) (fun x hx => hx.same c2 (Nat.le_of_eq (hK 2 (by decide)).symm) (fun j h1 h2 => nq j (by omega) (by omega) (by omega)))
  · exact h.la.same c4 (hK 4 (by decide)) (Nat.le_of_eq (hK 8 (by decide)).symm) (fun _ _ => by rw [eA 11 (by decide) (by decide)]) (fun _ _ => by rw [eA 13 (by decide) (by decide)]) (fun j h1 h2 => nq j (by omega) (by omega) (by omega))
  · exact h.le.same c5 (hK 5 (by decide)) (Nat.le_of_eq (hK 0 (by decide)).symm) (Nat.le_of_eq (hK 2 (by decide)).symm) (fun _ _ => by rw [eA 15 (by decide) (by decide)]) (fun j h1 h2 => nq j (by omega) (by omega) (by omega))
  · exact h.de.same c6 c0 (hK 6 (by decide)) (Nat.le_of_eq (hK 0 (by decide)).symm) (Nat.le_of_eq (hK 8 (by decide)).symm) (fun _ _ => by rw [eA 17 (by decide) (by decide)]) (fun j h1 h2 => nq j (by omega) (by omega) (by omega)) (fun t ht e => by rw [nq _ (by omega) (by omega) (by omega)]; exact e)
  · exact h.pr.same c7 (hK 7 (by decide)) (Nat.le_of_eq (hK 2 (by decide)).symm) (hK 8 (by decide)) (fun _ _ => by rw [eA 19 (by decide) (by decide)]) (fun j h1 h2 => nq j (by omega) (by omega) (by omega))
  · exact h.gu.same (fun _ _ => by rw [eA 21 (by decide) (by decide)]) (fun j h1 h2 => nq j (by omega) (by omega) (by omega))
  · exact h.wt.same c11 (hK 11 (by decide)) (fun _ _ => by rw [eA 23 (by decide) (by decide)]) (fun j h1 h2 => nq j (by omega) (by omega) (by omega))
  · exact h.se.same c2 (hK 2 (by decide)) (Nat.le_of_eq (hK 0 (by decide)).symm) (fun p hp => nq _ (by omega) (by omega) (by omega))
  · exact h.st.same c2 (hK 2 (by decide)) (fun p hp => by rw [eA 7 (by decide) (by decide)]) (fun p hp => ⟨nq _ (by omega) (by omega) (by omega), nq _ (by omega) (by omega) (by omega)⟩)
  · exact h.ps.same c7 (hK 7 (by decide)) (Nat.le_of_eq (hK 2 (by decide)).symm) (hK 8 (by decide)) (fun _ _ => by rw [eA 19 (by decide) (by decide)]) (fun j h1 h2 => nq j (by omega) (by omega) (by omega)) (fun p hp => nq _ (by omega) (by omega) (by omega))
theorem RelR.onX_11z {K K' : Nat → Nat} {S S' : FS} {n n' : Nat → Int32} (h : RelR K S n) (cq : CQ [23] 22 S S') (nq : NQ 2051 2071 11 n n') (hK : ∀ i : Nat, i ≠ 11 → K' i = K i) (hc : S'.1 103 = n' 9) (hct : ∀ q ∈ ctT, q.1 = 22 ∨ q.2.1 = 11 → S'.1 q.1 = nI (K' q.2.1) ∧ n' q.2.1 = nI (K' q.2.1) ∧ K' q.2.1 ≤ q.2.2) (hwt : RWt K' (S'.2 23) n') : RelR K' S' n' := by
  have c0 := (h.ct 2 0 10 (by decide)).2.2
  have c1 := (h.ct 101 1 20 (by decide)).2.2
  have c2 := (h.ct 6 2 20 (by decide)).2.2
  have c3 := (h.ct 8 3 20 (by decide)).2.2
  have c4 := (h.ct 10 4 12 (by decide)).2.2
  have c5 := (h.ct 14 5 40 (by decide)).2.2
  have c6 := (h.ct 16 6 6 (by decide)).2.2
  have c7 := (h.ct 18 7 30 (by decide)).2.2
  have c10 := (h.ct 24 10 60 (by decide)).2.2
  have c11 := (h.ct 22 11 20 (by decide)).2.2
  have eA := fun q hq h3 => cq.2.2 q hq h3
  refine ⟨RCt.cq h cq nq (by decide) hK hc hct, ?_, ?_, ?_, ?_, ?_, ?_, ?_, ?_, ?_, hwt, ?_, ?_, ?_, ?_⟩
  · exact h.tw.same c0 (hK 0 (by decide)) (Nat.le_of_eq (hK 2 (by decide)).symm) (fun _ _ => by rw [eA 3 (by decide) (by decide)]) (fun j h1 h2 => nq j (by omega) (by omega) (by omega))
  · exact h.wy.no (hK 1 (by decide)) c1 (Nat.le_of_eq (hK 0 (by decide)).symm) (eA 5 (by decide) (by decide)) (fun j h1 h2 => nq j (by omega) (by omega) (by omega))
  · exact h.pe.same c2 (Nat.le_of_eq (hK 0 (by decide)).symm) (hK 2 (by decide)) (hK 8 (by decide)) (fun _ _ => by rw [eA 7 (by decide) (by decide)]) (fun j h1 h2 => nq j (by omega) (by omega) (by omega))
  · exact h.pw.same c3 c2 (hK 3 (by decide)) (Nat.le_of_eq (hK 2 (by decide)).symm) (fun _ _ => by rw [eA 9 (by decide) (by decide)]) (fun j h1 h2 => nq j (by omega) (by omega) (by omega)) (fun x hx => hx.same c2 (Nat.le_of_eq (hK 2 (by decide)).symm) (fun j h1 h2 => nq j (by omega) (by omega) (by omega)))
  · exact h.la.same c4 (hK 4 (by decide)) (Nat.le_of_eq (hK 8 (by decide)).symm) (fun _ _ => by rw [eA 11 (by decide) (by decide)]) (fun _ _ => by rw [eA 13 (by decide) (by decide)]) (fun j h1 h2 => nq j (by omega) (by omega) (by omega))
  · exact h.le.same c5 (hK 5 (by decide)) (Nat.le_of_eq (hK 0 (by decide)).symm) (Nat.le_of_eq (hK 2 (by decide)).symm) (fun _ _ => by rw [eA 15 (by decide) (by decide)]) (fun j h1 h2 => nq j (by omega) (by omega) (by omega))
  · exact h.de.same c6 c0 (hK 6 (by decide)) (Nat.le_of_eq (hK 0 (by decide)).symm) (Nat.le_of_eq (hK 8 (by decide)).symm) (fun _ _ => by rw [eA 17 (by decide) (by decide)]) (fun j h1 h2 => nq j (by omega) (by omega) (by omega)) (fun t ht e => by rw [nq _ (by omega) (by omega) (by omega)]; exact e)
  · exact h.pr.same c7 (hK 7 (by decide)) (Nat.le_of_eq (hK 2 (by decide)).symm) (hK 8 (by decide)) (fun _ _ => by rw [eA 19 (by decide) (by decide)]) (fun j h1 h2 => nq j (by omega) (by omega) (by omega))
  · exact h.gu.same (fun _ _ => by rw [eA 21 (by decide) (by decide)]) (fun j h1 h2 => nq j (by omega) (by omega) (by omega))
  · exact h.ta.same c10 (hK 10 (by decide)) (fun _ _ => by rw [eA 25 (by decide) (by decide)]) (fun j h1 h2 => nq j (by omega) (by omega) (by omega))
  · exact h.se.same c2 (hK 2 (by decide)) (Nat.le_of_eq (hK 0 (by decide)).symm) (fun p hp => nq _ (by omega) (by omega) (by omega))
  · exact h.st.same c2 (hK 2 (by decide)) (fun p hp => by rw [eA 7 (by decide) (by decide)]) (fun p hp => ⟨nq _ (by omega) (by omega) (by omega), nq _ (by omega) (by omega) (by omega)⟩)
  · exact h.ps.same c7 (hK 7 (by decide)) (Nat.le_of_eq (hK 2 (by decide)).symm) (hK 8 (by decide)) (fun _ _ => by rw [eA 19 (by decide) (by decide)]) (fun j h1 h2 => nq j (by omega) (by omega) (by omega)) (fun p hp => nq _ (by omega) (by omega) (by omega))
/-! several parts -/
theorem RCt.cr {K K' : Nat → Nat} {S S' : FS} {n n' : Nat → Int32} {as : List Nat} {s c : Nat} (h : RelR K S n) (cq : CQ as s S S') (nq : ∀ j : Nat, j < 12 → j ≠ 9 → j ≠ c → n' j = n j) (hK : ∀ i : Nat, i ≠ c → K' i = K i) (hc : S'.1 103 = n' 9)
    (hs : ∀ q ∈ ctT, q.1 = s ∨ q.2.1 = c → S'.1 q.1 = nI (K' q.2.1) ∧ n' q.2.1 = nI (K' q.2.1) ∧ K' q.2.1 ≤ q.2.2) : RCt K' S'.1 n' := by
  refine ⟨fun q hq => ?_, hc⟩
  have h9 : ∀ q ∈ ctT, q.1 ∈ ctI ∧ q.1 ≠ 103 ∧ q.2.1 < 12 ∧ q.2.1 ≠ 9 := by decide
  obtain ⟨a1, a2, a3, a4⟩ := h9 q hq
  by_cases e : q.1 = s ∨ q.2.1 = c
  · exact hs q hq e
  · have e1 : q.1 ≠ s := fun z => e (Or.inl z)
    have e2 : q.2.1 ≠ c := fun z => e (Or.inr z)
    rw [cq.2.1 q.1 a1 a2 e1, nq _ a3 a4 e2, hK _ e2]; exact h.1.1 q hq
def NQ2 (l1 h1 l2 h2 c : Nat) (n n' : Nat → Int32) : Prop := ∀ j : Nat, ¬ (l1 ≤ j ∧ j < h1) → ¬ (l2 ≤ j ∧ j < h2) → j ≠ 9 → j ≠ c → n' j = n j
def NQ3 (l1 h1 l2 h2 l3 h3 c : Nat) (n n' : Nat → Int32) : Prop := ∀ j : Nat, ¬ (l1 ≤ j ∧ j < h1) → ¬ (l2 ≤ j ∧ j < h2) → ¬ (l3 ≤ j ∧ j < h3) → j ≠ 9 → j ≠ c → n' j = n j
theorem RelR.onPE {K : Nat → Nat} {S S' : FS} {n n' : Nat → Int32} (h : RelR K S n) (cq : CQ [7, 15] 103 S S') (nq : NQ2 110 390 1290 1770 9 n n') (hc : S'.1 103 = n' 9) (hpe : RPe K (S'.2 7) n') (hse : RSe K n') (hst : RSt K (S'.2 7) n') (hle : RLe K (S'.2 15) n') (hpw : RPw K (S'.2 9) n') (hsq : ∀ p : Nat, p < K 2 → n' (14 * p + 121) = n (14 * p + 121)) : RelR K S' n' := by
  have hK : ∀ i : Nat, i ≠ 9 → K i = K i := fun _ _ => rfl
  have hct := noct (K' := K) (S' := S') (n' := n')
  have c0 := (h.ct 2 0 10 (by decide)).2.2
  have c1 := (h.ct 101 1 20 (by decide)).2.2
  have c2 := (h.ct 6 2 20 (by decide)).2.2
  have c3 := (h.ct 8 3 20 (by decide)).2.2
  have c4 := (h.ct 10 4 12 (by decide)).2.2
  have c5 := (h.ct 14 5 40 (by decide)).2.2
  have c6 := (h.ct 16 6 6 (by decide)).2.2
  have c7 := (h.ct 18 7 30 (by decide)).2.2
  have c10 := (h.ct 24 10 60 (by decide)).2.2
  have c11 := (h.ct 22 11 20 (by decide)).2.2
  have eA := fun q hq h3 => cq.2.2 q hq h3
  refine ⟨RCt.cr h cq (fun j h1 h2 h3 => nq j (by omega) (by omega) h2 h3) hK hc hct, ?_, ?_, hpe, hpw, ?_, hle, ?_, ?_, ?_, ?_, ?_, hse, hst, ?_⟩
  · exact h.tw.same c0 (hK 0 (by decide)) (Nat.le_of_eq (hK 2 (by decide)).symm) (fun _ _ => by rw [eA 3 (by decide) (by decide)]) (fun j h1 h2 => nq j (by omega) (by omega) (by omega) (by omega))
  · exact h.wy.no (hK 1 (by decide)) c1 (Nat.le_of_eq (hK 0 (by decide)).symm) (eA 5 (by decide) (by decide)) (fun j h1 h2 => nq j (by omega) (by omega) (by omega) (by omega))
  · exact h.la.same c4 (hK 4 (by decide)) (Nat.le_of_eq (hK 8 (by decide)).symm) (fun _ _ => by rw [eA 11 (by decide) (by decide)]) (fun _ _ => by rw [eA 13 (by decide) (by decide)]) (fun j h1 h2 => nq j (by omega) (by omega) (by omega) (by omega))
  · exact h.de.same c6 c0 (hK 6 (by decide)) (Nat.le_of_eq (hK 0 (by decide)).symm) (Nat.le_of_eq (hK 8 (by decide)).symm) (fun _ _ => by rw [eA 17 (by decide) (by decide)]) (fun j h1 h2 => nq j (by omega) (by omega) (by omega) (by omega)) (fun t ht e => by rw [nq _ (by omega) (by omega) (by omega) (by omega)]; exact e)
  · exact h.pr.same c7 (hK 7 (by decide)) (Nat.le_of_eq (hK 2 (by decide)).symm) (hK 8 (by decide)) (fun _ _ => by rw [eA 19 (by decide) (by decide)]) (fun j h1 h2 => nq j (by omega) (by omega) (by omega) (by omega))
  · exact h.gu.same (fun _ _ => by rw [eA 21 (by decide) (by decide)]) (fun j h1 h2 => nq j (by omega) (by omega) (by omega) (by omega))
  · exact h.wt.same c11 (hK 11 (by decide)) (fun _ _ => by rw [eA 23 (by decide) (by decide)]) (fun j h1 h2 => nq j (by omega) (by omega) (by omega) (by omega))
  · exact h.ta.same c10 (hK 10 (by decide)) (fun _ _ => by rw [eA 25 (by decide) (by decide)]) (fun j h1 h2 => nq j (by omega) (by omega) (by omega) (by omega))
  · exact h.ps.same c7 (hK 7 (by decide)) (Nat.le_of_eq (hK 2 (by decide)).symm) (hK 8 (by decide)) (fun _ _ => by rw [eA 19 (by decide) (by decide)]) (fun j h1 h2 => nq j (by omega) (by omega) (by omega) (by omega)) hsq
theorem RelR.onWE {K : Nat → Nat} {S S' : FS} {n n' : Nat → Int32} (h : RelR K S n) (cq : CQ [9, 15] 103 S S') (nq : NQ2 390 510 1290 1770 9 n n') (hc : S'.1 103 = n' 9) (hpw : RPw K (S'.2 9) n') (hle : RLe K (S'.2 15) n') : RelR K S' n' := by
  have hK : ∀ i : Nat, i ≠ 9 → K i = K i := fun _ _ => rfl
  have hct := noct (K' := K) (S' := S') (n' := n')
  have c0 := (h.ct 2 0 10 (by decide)).2.2
  have c1 := (h.ct 101 1 20 (by decide)).2.2
  have c2 := (h.ct 6 2 20 (by decide)).2.2
  have c3 := (h.ct 8 3 20 (by decide)).2.2
  have c4 := (h.ct 10 4 12 (by decide)).2.2
  have c5 := (h.ct 14 5 40 (by decide)).2.2
  have c6 := (h.ct 16 6 6 (by decide)).2.2
  have c7 := (h.ct 18 7 30 (by decide)).2.2
  have c10 := (h.ct 24 10 60 (by decide)).2.2
  have c11 := (h.ct 22 11 20 (by decide)).2.2
  have eA := fun q hq h3 => cq.2.2 q hq h3
  refine ⟨RCt.cr h cq (fun j h1 h2 h3 => nq j (by omega) (by omega) h2 h3) hK hc hct, ?_, ?_, ?_, hpw, ?_, hle, ?_, ?_, ?_, ?_, ?_, ?_, ?_, ?_⟩
  · exact h.tw.same c0 (hK 0 (by decide)) (Nat.le_of_eq (hK 2 (by decide)).symm) (fun _ _ => by rw [eA 3 (by decide) (by decide)]) (fun j h1 h2 => nq j (by omega) (by omega) (by omega) (by omega))
  · exact h.wy.no (hK 1 (by decide)) c1 (Nat.le_of_eq (hK 0 (by decide)).symm) (eA 5 (by decide) (by decide)) (fun j h1 h2 => nq j (by omega) (by omega) (by omega) (by omega))
  · exact h.pe.same c2 (Nat.le_of_eq (hK 0 (by decide)).symm) (hK 2 (by decide)) (hK 8 (by decide)) (fun _ _ => by rw [eA 7 (by decide) (by decide)]) (fun j h1 h2 => nq j (by omega) (by omega) (by omega) (by omega))
  · exact h.la.same c4 (hK 4 (by decide)) (Nat.le_of_eq (hK 8 (by decide)).symm) (fun _ _ => by rw [eA 11 (by decide) (by decide)]) (fun _ _ => by rw [eA 13 (by decide) (by decide)]) (fun j h1 h2 => nq j (by omega) (by omega) (by omega) (by omega))
  · exact h.de.same c6 c0 (hK 6 (by decide)) (Nat.le_of_eq (hK 0 (by decide)).symm) (Nat.le_of_eq (hK 8 (by decide)).symm) (fun _ _ => by rw [eA 17 (by decide) (by decide)]) (fun j h1 h2 => nq j (by omega) (by omega) (by omega) (by omega)) (fun t ht e => by rw [nq _ (by omega) (by omega) (by omega) (by omega)]; exact e)
  · exact h.pr.same c7 (hK 7 (by decide)) (Nat.le_of_eq (hK 2 (by decide)).symm) (hK 8 (by decide)) (fun _ _ => by rw [eA 19 (by decide) (by decide)]) (fun j h1 h2 => nq j (by omega) (by omega) (by omega) (by omega))
  · exact h.gu.same (fun _ _ => by rw [eA 21 (by decide) (by decide)]) (fun j h1 h2 => nq j (by omega) (by omega) (by omega) (by omega))
  · exact h.wt.same c11 (hK 11 (by decide)) (fun _ _ => by rw [eA 23 (by decide) (by decide)]) (fun j h1 h2 => nq j (by omega) (by omega) (by omega) (by omega))
  · exact h.ta.same c10 (hK 10 (by decide)) (fun _ _ => by rw [eA 25 (by decide) (by decide)]) (fun j h1 h2 => nq j (by omega) (by omega) (by omega) (by omega))
  · exact h.se.same c2 (hK 2 (by decide)) (Nat.le_of_eq (hK 0 (by decide)).symm) (fun p hp => nq _ (by omega) (by omega) (by omega) (by omega))
  · exact h.st.same c2 (hK 2 (by decide)) (fun p hp => by rw [eA 7 (by decide) (by decide)]) (fun p hp => ⟨nq _ (by omega) (by omega) (by omega) (by omega), nq _ (by omega) (by omega) (by omega) (by omega)⟩)
  · exact h.ps.same c7 (hK 7 (by decide)) (Nat.le_of_eq (hK 2 (by decide)).symm) (hK 8 (by decide)) (fun _ _ => by rw [eA 19 (by decide) (by decide)]) (fun j h1 h2 => nq j (by omega) (by omega) (by omega) (by omega)) (fun p hp => nq _ (by omega) (by omega) (by omega) (by omega))
theorem RelR.onLE {K : Nat → Nat} {S S' : FS} {n n' : Nat → Int32} (h : RelR K S n) (cq : CQ [11, 13, 15] 103 S S') (nq : NQ2 510 1290 1290 1770 9 n n') (hc : S'.1 103 = n' 9) (hla : RLa K (S'.2 11) (S'.2 13) n') (hle : RLe K (S'.2 15) n') : RelR K S' n' := by
  have hK : ∀ i : Nat, i ≠ 9 → K i = K i := fun _ _ => rfl
  have hct := noct (K' := K) (S' := S') (n' := n')
  have c0 := (h.ct 2 0 10 (by decide)).2.2
  have c1 := (h.ct 101 1 20 (by decide)).2.2
  have c2 := (h.ct 6 2 20 (by decide)).2.2
  have c3 := (h.ct 8 3 20 (by decide)).2.2
  have c4 := (h.ct 10 4 12 (by decide)).2.2
  have c5 := (h.ct 14 5 40 (by decide)).2.2
  have c6 := (h.ct 16 6 6 (by decide)).2.2
  have c7 := (h.ct 18 7 30 (by decide)).2.2
  have c10 := (h.ct 24 10 60 (by decide)).2.2
  have c11 := (h.ct 22 11 20 (by decide)).2.2
  have eA := fun q hq h3 => cq.2.2 q hq h3
  refine ⟨RCt.cr h cq (fun j h1 h2 h3 => nq j (by omega) (by omega) h2 h3) hK hc hct, ?_, ?_, ?_, ?_, hla, hle, ?_, ?_, ?_, ?_, ?_, ?_, ?_, ?_⟩
  · exact h.tw.same c0 (hK 0 (by decide)) (Nat.le_of_eq (hK 2 (by decide)).symm) (fun _ _ => by rw [eA 3 (by decide) (by decide)]) (fun j h1 h2 => nq j (by omega) (by omega) (by omega) (by omega))
  · exact h.wy.no (hK 1 (by decide)) c1 (Nat.le_of_eq (hK 0 (by decide)).symm) (eA 5 (by decide) (by decide)) (fun j h1 h2 => nq j (by omega) (by omega) (by omega) (by omega))
  · exact h.pe.same c2 (Nat.le_of_eq (hK 0 (by decide)).symm) (hK 2 (by decide)) (hK 8 (by decide)) (fun _ _ => by rw [eA 7 (by decide) (by decide)]) (fun j h1 h2 => nq j (by omega) (by omega) (by omega) (by omega))
  · exact h.pw.same c3 c2 (hK 3 (by decide)) (Nat.le_of_eq (hK 2 (by decide)).symm) (fun _ _ => by rw [eA 9 (by decide) (by decide)]) (fun j h1 h2 => nq j (by omega) (by omega) (by omega) (by omega)) (fun x hx => hx.same c2 (Nat.le_of_eq (hK 2 (by decide)).symm) (fun j h1 h2 => nq j (by omega) (by omega) (by omega) (by omega)))
  · exact h.de.same c6 c0 (hK 6 (by decide)) (Nat.le_of_eq (hK 0 (by decide)).symm) (Nat.le_of_eq (hK 8 (by decide)).symm) (fun _ _ => by rw [eA 17 (by decide) (by decide)]) (fun j h1 h2 => nq j (by omega) (by omega) (by omega) (by omega)) (fun t ht e => by rw [nq _ (by omega) (by omega) (by omega) (by omega)]; exact e)
  · exact h.pr.same c7 (hK 7 (by decide)) (Nat.le_of_eq (hK 2 (by decide)).symm) (hK 8 (by decide)) (fun _ _ => by rw [eA 19 (by decide) (by decide)]) (fun j h1 h2 => nq j (by omega) (by omega) (by omega) (by omega))
  · exact h.gu.same (fun _ _ => by rw [eA 21 (by decide) (by decide)]) (fun j h1 h2 => nq j (by omega) (by omega) (by omega) (by omega))
  · exact h.wt.same c11 (hK 11 (by decide)) (fun _ _ => by rw [eA 23 (by decide) (by decide)]) (fun j h1 h2 => nq j (by omega) (by omega) (by omega) (by omega))
  · exact h.ta.same c10 (hK 10 (by decide)) (fun _ _ => by rw [eA 25 (by decide) (by decide)]) (fun j h1 h2 => nq j (by omega) (by omega) (by omega) (by omega))
  · exact h.se.same c2 (hK 2 (by decide)) (Nat.le_of_eq (hK 0 (by decide)).symm) (fun p hp => nq _ (by omega) (by omega) (by omega) (by omega))
  · exact h.st.same c2 (hK 2 (by decide)) (fun p hp => by rw [eA 7 (by decide) (by decide)]) (fun p hp => ⟨nq _ (by omega) (by omega) (by omega) (by omega), nq _ (by omega) (by omega) (by omega) (by omega)⟩)
  · exact h.ps.same c7 (hK 7 (by decide)) (Nat.le_of_eq (hK 2 (by decide)).symm) (hK 8 (by decide)) (fun _ _ => by rw [eA 19 (by decide) (by decide)]) (fun j h1 h2 => nq j (by omega) (by omega) (by omega) (by omega)) (fun p hp => nq _ (by omega) (by omega) (by omega) (by omega))
theorem RelR.onQE {K : Nat → Nat} {S S' : FS} {n n' : Nat → Int32} (h : RelR K S n) (cq : CQ [15, 19] 103 S S') (nq : NQ2 1806 1986 1290 1770 9 n n') (hc : S'.1 103 = n' 9) (hpr : RPr K (S'.2 19) n') (hps : RPs K (S'.2 19) n') (hle : RLe K (S'.2 15) n') : RelR K S' n' := by
  have hK : ∀ i : Nat, i ≠ 9 → K i = K i := fun _ _ => rfl
  have hct := noct (K' := K) (S' := S') (n' := n')
  have c0 := (h.ct 2 0 10 (by decide)).2.2
  have c1 := (h.ct 101 1 20 (by decide)).2.2
  have c2 := (h.ct 6 2 20 (by decide)).2.2
  have c3 := (h.ct 8 3 20 (by decide)).2.2
  have c4 := (h.ct 10 4 12 (by decide)).2.2
  have c5 := (h.ct 14 5 40 (by decide)).2.2
  have c6 := (h.ct 16 6 6 (by decide)).2.2
  have c7 := (h.ct 18 7 30 (by decide)).2.2
  have c10 := (h.ct 24 10 60 (by decide)).2.2
  have c11 := (h.ct 22 11 20 (by decide)).2.2
  have eA := fun q hq h3 => cq.2.2 q hq h3
  refine ⟨RCt.cr h cq (fun j h1 h2 h3 => nq j (by omega) (by omega) h2 h3) hK hc hct, ?_, ?_, ?_, ?_, ?_, hle, ?_, hpr, ?_, ?_, ?_, ?_, ?_, hps⟩
  · exact h.tw.same c0 (hK 0 (by decide)) (Nat.le_of_eq (hK 2 (by decide)).symm) (fun _ _ => by rw [eA 3 (by decide) (by decide)]) (fun j h1 h2 => nq j (by omega) (by omega) (by omega) (by omega))
  · exact h.wy.no (hK 1 (by decide)) c1 (Nat.le_of_eq (hK 0 (by decide)).symm) (eA 5 (by decide) (by decide)) (fun j h1 h2 => nq j (by omega) (by omega) (by omega) (by omega))
  · exact h.pe.same c2 (Nat.le_of_eq (hK 0 (by decide)).symm) (hK 2 (by decide)) (hK 8 (by decide)) (fun _ _ => by rw [eA 7 (by decide) (by decide)]) (fun j h1 h2 => nq j (by omega) (by omega) (by omega) (by omega))
  · exact h.pw.same c3 c2 (hK 3 (by decide)) (Nat.le_of_eq (hK 2 (by decide)).symm) (fun _ _ => by rw [eA 9 (by decide) (by decide)]) (fun j h1 h2 => nq j (by omega) (by omega) (by omega) (by omega)) (fun x hx => hx.same c2 (Nat.le_of_eq (hK 2 (by decide)).symm) (fun j h1 h2 => nq j (by omega) (by omega) (by omega) (by omega)))
  · exact h.la.same c4 (hK 4 (by decide)) (Nat.le_of_eq (hK 8 (by decide)).symm) (fun _ _ => by rw [eA 11 (by decide) (by decide)]) (fun _ _ => by rw [eA 13 (by decide) (by decide)]) (fun j h1 h2 => nq j (by omega) (by omega) (by omega) (by omega))
  · exact h.de.same c6 c0 (hK 6 (by decide)) (Nat.le_of_eq (hK 0 (by decide)).symm) (Nat.le_of_eq (hK 8 (by decide)).symm) (fun _ _ => by rw [eA 17 (by decide) (by decide)]) (fun j h1 h2 => nq j (by omega) (by omega) (by omega) (by omega)) (fun t ht e => by rw [nq _ (by omega) (by omega) (by omega) (by omega)]; exact e)
  · exact h.gu.same (fun _ _ => by rw [eA 21 (by decide) (by decide)]) (fun j h1 h2 => nq j (by omega) (by omega) (by omega) (by omega))
  · exact h.wt.same c11 (hK 11 (by decide)) (fun _ _ => by rw [eA 23 (by decide) (by decide)]) (fun j h1 h2 => nq j (by omega) (by omega) (by omega) (by omega))
  · exact h.ta.same c10 (hK 10 (by decide)) (fun _ _ => by rw [eA 25 (by decide) (by decide)]) (fun j h1 h2 => nq j (by omega) (by omega) (by omega) (by omega))
  · exact h.se.same c2 (hK 2 (by decide)) (Nat.le_of_eq (hK 0 (by decide)).symm) (fun p hp => nq _ (by omega) (by omega) (by omega) (by omega))
  · exact h.st.same c2 (hK 2 (by decide)) (fun p hp => by rw [eA 7 (by decide) (by decide)]) (fun p hp => ⟨nq _ (by omega) (by omega) (by omega) (by omega), nq _ (by omega) (by omega) (by omega) (by omega)⟩)
theorem RelR.onPQ {K : Nat → Nat} {S S' : FS} {n n' : Nat → Int32} (h : RelR K S n) (cq : CQ [7, 19] 103 S S') (nq : NQ2 110 390 1806 1986 9 n n') (hc : S'.1 103 = n' 9) (hpe : RPe K (S'.2 7) n') (hse : RSe K n') (hst : RSt K (S'.2 7) n') (hpr : RPr K (S'.2 19) n') (hps : RPs K (S'.2 19) n') (hpw : RPw K (S'.2 9) n') : RelR K S' n' := by
  have hK : ∀ i : Nat, i ≠ 9 → K i = K i := fun _ _ => rfl
  have hct := noct (K' := K) (S' := S') (n' := n')
  have c0 := (h.ct 2 0 10 (by decide)).2.2
  have c1 := (h.ct 101 1 20 (by decide)).2.2
  have c2 := (h.ct 6 2 20 (by decide)).2.2
  have c3 := (h.ct 8 3 20 (by decide)).2.2
  have c4 := (h.ct 10 4 12 (by decide)).2.2
  have c5 := (h.ct 14 5 40 (by decide)).2.2
  have c6 := (h.ct 16 6 6 (by decide)).2.2
  have c7 := (h.ct 18 7 30 (by decide)).2.2
  have c10 := (h.ct 24 10 60 (by decide)).2.2
  have c11 := (h.ct 22 11 20 (by decide)).2.2
  have eA := fun q hq h3 => cq.2.2 q hq h3
  refine ⟨RCt.cr h cq (fun j h1 h2 h3 => nq j (by omega) (by omega) h2 h3) hK hc hct, ?_, ?_, hpe, hpw, ?_, ?_, ?_, hpr, ?_, ?_, ?_, hse, hst, hps⟩
  · exact h.tw.same c0 (hK 0 (by decide)) (Nat.le_of_eq (hK 2 (by decide)).symm) (fun _ _ => by rw [eA 3 (by decide) (by decide)]) (fun j h1 h2 => nq j (by omega) (by omega) (by omega) (by omega))
  · exact h.wy.no (hK 1 (by decide)) c1 (Nat.le_of_eq (hK 0 (by decide)).symm) (eA 5 (by decide) (by decide)) (fun j h1 h2 => nq j (by omega) (by omega) (by omega) (by omega))
  · exact h.la.same c4 (hK 4 (by decide)) (Nat.le_of_eq (hK 8 (by decide)).symm) (fun _ _ => by rw [eA 11 (by decide) (by decide)]) (fun _ _ => by rw [eA 13 (by decide) (by decide)]) (fun j h1 h2 => nq j (by omega) (by omega) (by omega) (by omega))
  · exact h.le.same c5 (hK 5 (by decide)) (Nat.le_of_eq (hK 0 (by decide)).symm) (Nat.le_of_eq (hK 2 (by decide)).symm) (fun _ _ => by rw [eA 15 (by decide) (by decide)]) (fun j h1 h2 => nq j (by omega) (by omega) (by omega) (by omega))
  · exact h.de.same c6 c0 (hK 6 (by decide)) (Nat.le_of_eq (hK 0 (by decide)).symm) (Nat.le_of_eq (hK 8 (by decide)).symm) (fun _ _ => by rw [eA 17 (by decide) (by decide)]) (fun j h1 h2 => nq j (by omega) (by omega) (by omega) (by omega)) (fun t ht e => by rw [nq _ (by omega) (by omega) (by omega) (by omega)]; exact e)
  · exact h.gu.same (fun _ _ => by rw [eA 21 (by decide) (by decide)]) (fun j h1 h2 => nq j (by omega) (by omega) (by omega) (by omega))
  · exact h.wt.same c11 (hK 11 (by decide)) (fun _ _ => by rw [eA 23 (by decide) (by decide)]) (fun j h1 h2 => nq j (by omega) (by omega) (by omega) (by omega))
  · exact h.ta.same c10 (hK 10 (by decide)) (fun _ _ => by rw [eA 25 (by decide) (by decide)]) (fun j h1 h2 => nq j (by omega) (by omega) (by omega) (by omega))
theorem RelR.onPWQ {K : Nat → Nat} {S S' : FS} {n n' : Nat → Int32} (h : RelR K S n) (cq : CQ [7, 9, 19] 103 S S') (nq : NQ3 110 390 390 510 1806 1986 9 n n') (hc : S'.1 103 = n' 9) (hpe : RPe K (S'.2 7) n') (hse : RSe K n') (hst : RSt K (S'.2 7) n') (hpw : RPw K (S'.2 9) n') (hpr : RPr K (S'.2 19) n') (hps : RPs K (S'.2 19) n') : RelR K S' n' := by
  have hK : ∀ i : Nat, i ≠ 9 → K i = K i := fun _ _ => rfl
  have hct := noct (K' := K) (S' := S') (n' := n')
  have c0 := (h.ct 2 0 10 (by decide)).2.2
  have c1 := (h.ct 101 1 20 (by decide)).2.2
  have c2 := (h.ct 6 2 20 (by decide)).2.2
  have c3 := (h.ct 8 3 20 (by decide)).2.2
  have c4 := (h.ct 10 4 12 (by decide)).2.2
  have c5 := (h.ct 14 5 40 (by decide)).2.2
  have c6 := (h.ct 16 6 6 (by decide)).2.2
  have c7 := (h.ct 18 7 30 (by decide)).2.2
  have c10 := (h.ct 24 10 60 (by decide)).2.2
  have c11 := (h.ct 22 11 20 (by decide)).2.2
  have eA := fun q hq h3 => cq.2.2 q hq h3
  refine ⟨RCt.cr h cq (fun j h1 h2 h3 => nq j (by omega) (by omega) (by omega) h2 h3) hK hc hct, ?_, ?_, hpe, hpw, ?_, ?_, ?_, hpr, ?_, ?_, ?_, hse, hst, hps⟩
  · exact h.tw.same c0 (hK 0 (by decide)) (Nat.le_of_eq (hK 2 (by decide)).symm) (fun _ _ => by rw [eA 3 (by decide) (by decide)]) (fun j h1 h2 => nq j (by omega) (by omega) (by omega) (by omega) (by omega))
  · exact h.wy.no (hK 1 (by decide)) c1 (Nat.le_of_eq (hK 0 (by decide)).symm) (eA 5 (by decide) (by decide)) (fun j h1 h2 => nq j (by omega) (by omega) (by omega) (by omega) (by omega))
  · exact h.la.same c4 (hK 4 (by decide)) (Nat.le_of_eq (hK 8 (by decide)).symm) (fun _ _ => by rw [eA 11 (by decide) (by decide)]) (fun _ _ => by rw [eA 13 (by decide) (by decide)]) (fun j h1 h2 => nq j (by omega) (by omega) (by omega) (by omega) (by omega))
  · exact h.le.same c5 (hK 5 (by decide)) (Nat.le_of_eq (hK 0 (by decide)).symm) (Nat.le_of_eq (hK 2 (by decide)).symm) (fun _ _ => by rw [eA 15 (by decide) (by decide)]) (fun j h1 h2 => nq j (by omega) (by omega) (by omega) (by omega) (by omega))
  · exact h.de.same c6 c0 (hK 6 (by decide)) (Nat.le_of_eq (hK 0 (by decide)).symm) (Nat.le_of_eq (hK 8 (by decide)).symm) (fun _ _ => by rw [eA 17 (by decide) (by decide)]) (fun j h1 h2 => nq j (by omega) (by omega) (by omega) (by omega) (by omega)) (fun t ht e => by rw [nq _ (by omega) (by omega) (by omega) (by omega) (by omega)]; exact e)
  · exact h.gu.same (fun _ _ => by rw [eA 21 (by decide) (by decide)]) (fun j h1 h2 => nq j (by omega) (by omega) (by omega) (by omega) (by omega))
  · exact h.wt.same c11 (hK 11 (by decide)) (fun _ _ => by rw [eA 23 (by decide) (by decide)]) (fun j h1 h2 => nq j (by omega) (by omega) (by omega) (by omega) (by omega))
  · exact h.ta.same c10 (hK 10 (by decide)) (fun _ _ => by rw [eA 25 (by decide) (by decide)]) (fun j h1 h2 => nq j (by omega) (by omega) (by omega) (by omega) (by omega))
end
section
section UPD
variable {K : Nat → Nat} {S S' : FS} {n n' : Nat → Int32}
/-- coin, men, what is known: columns of persons that both have -/
theorem RPe.w {f : Nat → Int32} {p c : Nat} {x : Int32} (h : RPe K f n) (b : K 2 ≤ 20) (hp : p < K 2) (hc : c = 7 ∨ c = 8 ∨ c = 10) : RPe K (upd f (14 * p + c) x) (upd n (14 * p + (110 + c)) x) := by
  intro q hq
  have h1 := h q hq
  unfold PLv at h1 ⊢
  by_cases e : q = p
  · subst e
    rcases hc with rfl | rfl | rfl
    · simp (disch := omega) only [pk_us, pk_un]
      exact ⟨h1.1, ⟨trivial, h1.2.1.2⟩, h1.2.2⟩
    · simp (disch := omega) only [pk_us, pk_un]
      exact ⟨h1.1, ⟨h1.2.1.1, trivial, h1.2.1.2.2⟩, h1.2.2⟩
    · simp (disch := omega) only [pk_us, pk_un]
      exact ⟨h1.1, ⟨h1.2.1.1, h1.2.1.2.1, trivial, h1.2.1.2.2.2⟩, h1.2.2⟩
  · rcases hc with rfl | rfl | rfl <;> (simp (disch := omega) only [pk_un]; exact h1)
theorem vL.w {P p c : Nat} {x v : Int32} (h : vL P n x) (hc : c < 14 ∧ c ≠ 9) : vL P (upd n (14 * p + (110 + c)) v) x := by
  rcases h with h | ⟨q, h1, h2, h3⟩
  · exact Or.inl h
  · exact Or.inr ⟨q, h1, h2, by rw [pk_un (by omega)]; exact h3⟩
theorem RSe.w {p c : Nat} {v : Int32} (h : RSe K n) (hc : c < 14 ∧ c ≠ 11) : RSe K (upd n (14 * p + (110 + c)) v) := by
  refine ⟨?_, h.2⟩
  rw [pm_cnt_congr (q := fun p => n (14 * p + 121) == 1) (fun j hj => by rw [pk_un (by omega)])]; exact h.1
theorem RSt.w {f : Nat → Int32} {p c d : Nat} {u v : Int32} (h : RSt K f n) (b : K 2 ≤ 20) (hc : c < 14 ∧ c ≠ 2 ∧ c ≠ 3) (hd : d < 14 ∧ d ≠ 11) : RSt K (upd f (14 * p + d) u) (upd n (14 * p + (110 + c)) v) :=
  h.same b rfl (fun q hq => pk_un (by omega)) (fun q hq => ⟨pk_un (by omega), pk_un (by omega)⟩)
theorem RPe.n9 {f : Nat → Int32} {v : Int32} (h : RPe K f n) (b : K 2 ≤ 20) : RPe K f (upd n 9 v) := h.same b (Nat.le_refl _) rfl rfl (fun _ _ => rfl) (fun j h1 h2 => pk_un (by omega))
theorem vL.n9 {P : Nat} {x v : Int32} (h : vL P n x) : vL P (upd n 9 v) x := by
  rcases h with h | ⟨q, h1, h2, h3⟩
  · exact Or.inl h
  · exact Or.inr ⟨q, h1, h2, by rw [pk_un (by omega)]; exact h3⟩
theorem RSe.n9 {v : Int32} (h : RSe K n) : RSe K (upd n 9 v) := by
  refine ⟨?_, h.2⟩
  rw [pm_cnt_congr (q := fun p => n (14 * p + 121) == 1) (fun j hj => by rw [pk_un (by omega)])]; exact h.1
theorem RSt.n9 {f : Nat → Int32} {v : Int32} (h : RSt K f n) (b : K 2 ≤ 20) : RSt K f (upd n 9 v) := h.same b rfl (fun _ _ => rfl) (fun q hq => ⟨pk_un (by omega), pk_un (by omega)⟩)
end UPD
end
section
/-! ===== pure: more tools ===== -/
theorem out_n {x A B : Int32} (a b : Nat) (hA : A = nI a) (hB : B = nI b) (ha : a < 2 ^ 31) (hb : b < 2 ^ 31) (h : fOut x A B = 0) : ∃ k : Nat, (a ≤ k ∧ k ≤ b) ∧ x = nI k := by
  subst hA hB
  have h2 : ¬ (x < nI a ∨ nI b < x) := by
    intro q; unfold fOut at h; rw [if_pos q] at h; exact absurd h (by decide)
  exact in_nat ha hb (fun q => h2 (Or.inl q)) (fun q => h2 (Or.inr q))
theorem apf_o {W u j : Nat} {x : Int32} {f : Nat → Int32} (h : j < W * u) : pm_apf W u x f j = f j := by
  unfold pm_apf
  rw [Nat.mul_comm] at h
  rw [if_neg (by omega)]
theorem apf_0 {W u j : Nat} {x : Int32} {f : Nat → Int32} (h : j = W * u) (hW : 1 ≤ W) : pm_apf W u x f j = x := by
  unfold pm_apf
  rw [Nat.mul_comm] at h
  rw [if_pos (by omega), if_pos h]
theorem apf_c {W u j : Nat} {x : Int32} {f : Nat → Int32} (h1 : W * u < j) (h2 : j < W * u + W) : pm_apf W u x f j = 0 := by
  unfold pm_apf
  rw [Nat.mul_comm] at h1 h2
  rw [if_pos (by omega), if_neg (by omega)]
theorem vL.o {P e : Nat} {n : Nat → Int32} {x v : Int32} (h : vL P n x) (hP : P ≤ 20) (he : e < 110 ∨ 390 ≤ e) : vL P (upd n e v) x := by
  rcases h with h | ⟨q, h1, h2, h3⟩
  · exact Or.inl h
  · exact Or.inr ⟨q, h1, h2, by rw [pk_un (by omega)]; exact h3⟩
section PWR
variable {K : Nat → Nat} {S T : FS} {f n : Nat → Int32}
theorem RelR.lon (h : RelR K S (T.2 55)) (x : Int32) : (x = -1 ∧ p_X7_isLivingOrNobody S x = 1) ∨ (x ≠ -1 ∧ p_X12_isPerson T x = 0 ∧ p_X7_isLivingOrNobody S x = 0) ∨ (x ≠ -1 ∧ p_X12_isPerson T x = 1 ∧ q_X12_lives T x = some 0 ∧ p_X7_isLivingOrNobody S x = 0) ∨ (x ≠ -1 ∧ (∃ p : Nat, p < K 2 ∧ x = nI p ∧ T.2 55 (14 * p + 119) = -1) ∧ p_X12_isPerson T x = 1 ∧ q_X12_lives T x = some 1 ∧ p_X7_isLivingOrNobody S x = 1) := by
  unfold p_X7_isLivingOrNobody
  by_cases c : x = -1
  · left; exact ⟨c, if_pos c⟩
  · right
    rw [if_neg c]
    rcases h.per x with ⟨c1, m1⟩ | ⟨p, hp, rfl, c1, m1⟩
    · left
      refine ⟨c, m1, ?_⟩
      have : p_X7_isLiving S x = 0 := by unfold p_X7_isLiving; rw [if_pos c1]
      rw [if_pos this]
    · right
      rcases h.liv hp with ⟨l1, l2, l3⟩ | ⟨l1, l2, -, l3, l4⟩
      · right
        exact ⟨c, ⟨p, hp, rfl, l1⟩, m1, l3, by rw [l2]; rfl⟩
      · left
        exact ⟨c, m1, l4, by rw [l3]; rfl⟩
theorem kind_all : ∀ (k z : Fin 6), l_X7_isOfKind_13 (nI z.val) (fun _ _ => some 0) FU (nI k.val) 0 = some (p_X12_isUnder (fun _ => 0, fun _ _ => 0) (nI k.val) (nI z.val)) := by decide +kernel
theorem RelR.kind (h : RelR K S (T.2 55)) {w z : Nat} (hw : w < K 3) (hz : z < 6) : q_X7_isOfKind S (nI w) (nI z) = some (p_X12_isUnder T (T.2 55 (6 * w + 390)) (nI z)) := by
  have c3 := (h.ct 8 3 20 (by decide)).2.2
  obtain ⟨⟨h1, -⟩, -, -, ⟨k, hk, e⟩, -⟩ := h.pw w hw
  unfold q_X7_isOfKind
  rw [fv_s, g8_0 (by omega), h1, e]
  exact kind_all ⟨k, by omega⟩ ⟨z, hz⟩
theorem under2 {T : FS} {x : Int32} : p_X12_isUnder T x 2 = if x = 2 then 1 else 0 := by
  unfold p_X12_isUnder
  by_cases c : x = 2
  · subst c; rfl
  · rw [if_neg (by decide), if_neg c, if_neg (by decide), if_neg (by decide), if_neg c]
/-- a column of powers that both have: holder, lent, till -/
theorem RPw.hold {w : Nat} {x : Int32} (h : RPw K f n) (b : K 3 ≤ 20) (b2 : K 2 ≤ 20) (hw : w < K 3) (hx : vL (K 2) n x) : RPw K (upd f (6 * w + 2) x) (upd n (6 * w + 391) x) := by
  intro q hq
  have h1 := h q hq
  by_cases e : q = w
  · subst e
    simp (disch := omega) only [pk_us, pk_un]
    exact ⟨⟨h1.1.1, h1.1.2.1, trivial, h1.1.2.2.2⟩, h1.2.1, h1.2.2.1, h1.2.2.2.1, hx.o b2 (by omega), h1.2.2.2.2.2.1.o b2 (by omega), h1.2.2.2.2.2.2⟩
  · simp (disch := omega) only [pk_un]
    exact ⟨h1.1, h1.2.1, h1.2.2.1, h1.2.2.2.1, h1.2.2.2.2.1.o b2 (by omega), h1.2.2.2.2.2.1.o b2 (by omega), h1.2.2.2.2.2.2⟩
/-- lent and till, together -/
theorem RPw.lent {w : Nat} {x y : Int32} (h : RPw K f n) (b : K 3 ≤ 20) (b2 : K 2 ≤ 20) (hw : w < K 3) (hx : vL (K 2) n x) (hy : x = -1 → y = -1) : RPw K (upd (upd f (6 * w + 3) x) (6 * w + 4) y) (upd (upd n (6 * w + 392) x) (6 * w + 393) y) := by
  intro q hq
  have h1 := h q hq
  have o2 : ∀ z : Int32, vL (K 2) n z → vL (K 2) (upd (upd n (6 * w + 392) x) (6 * w + 393) y) z := fun z hz => (hz.o b2 (by omega)).o b2 (by omega)
  by_cases e : q = w
  · subst e
    simp (disch := omega) only [pk_us, pk_un]
    exact ⟨⟨h1.1.1, h1.1.2.1, h1.1.2.2.1, trivial, trivial⟩, h1.2.1, h1.2.2.1, h1.2.2.2.1, o2 _ h1.2.2.2.2.1, o2 _ hx, h1.2.2.2.2.2.2.1, hy⟩
  · simp (disch := omega) only [pk_un]
    exact ⟨h1.1, h1.2.1, h1.2.2.1, h1.2.2.2.1, o2 _ h1.2.2.2.2.1, o2 _ h1.2.2.2.2.2.1, h1.2.2.2.2.2.2⟩
theorem upd_id {f : Nat → Int32} {k : Nat} {x : Int32} (h : f k = x) : upd f k x = f := by
  funext j
  by_cases c : j = k
  · subst c; rw [pk_us, h]
  · rw [pk_un c]
theorem vP.lt {P : Nat} {x : Int32} (h : vP P x) (hP : P < 2 ^ 31) : x < 0 ↔ x = -1 := by
  rcases h with rfl | ⟨p, h1, rfl⟩
  · exact ⟨fun _ => rfl, fun _ => by decide⟩
  · exact ⟨fun q => absurd q (nI_pos (by omega)), fun q => absurd q (nI_m1 (by omega))⟩
theorem vL.vP {P : Nat} {x : Int32} (h : vL P n x) : vP P x := by
  rcases h with h | ⟨p, h1, h2, -⟩
  · exact Or.inl h
  · exact Or.inr ⟨p, h1, h2⟩
theorem nB.m1 {m : Nat} {x : Int32} (h : nB m x) (hm : m < 2 ^ 31) : x ≠ -1 ∧ ¬ x < 0 := by
  obtain ⟨k, h1, rfl⟩ := h
  exact ⟨nI_m1 (by omega), nI_pos (by omega)⟩
end PWR
end
section
/-! ===== pure: pay, men ===== -/
theorem op_pay {K : Nat → Nat} {S T : FS} {za zb : Int32} (h : RelR K S (T.2 55)) : OK2 S T (f_X11_pay S za zb) (f_X12_pay T za zb) := by
  unfold f_X11_pay f_X12_pay
  simp only [fb_id]
  rcases h.per za with ⟨c1, m1⟩ | ⟨p, hp, rfl, c1, m1⟩
  · simp only [c1, m1, eq_self, ↓reduceIte]; exact ok_1 h
  · rcases out_c zb 1 9999 with ⟨c2, m2⟩ | ⟨c2, m2⟩
    · have c20 := (h.ct 6 2 20 (by decide)).2.2
      have ch : S.1 103 = T.2 55 9 := h.1.2
      rcases h.liv hp with ⟨l1, l2, l3⟩ | ⟨l1, l2, -, l3, l4⟩
      · simp only [c1, m1, c2, m2, l2, l3, i10, eq_self, fb_s, ↓reduceIte, f_X7_payFromChest, ch]
        by_cases c : T.2 55 9 < zb
        · simp only [c, ↓reduceIte, fb_s]; exact okf h CX.rf MX.rf (finds_2 T)
        · simp only [c, ↓reduceIte, fl_s, fb_s]
          rw [g6_7 (by omega), s6_7 (by omega), man_7 (by omega), fb_s, sets_7 (by omega), fb_s]
          have ec : S.2 7 (14 * p + 7) = T.2 55 (14 * p + 117) := (h.pe p hp).2.1.1
          have em : (wA T 55 9 (T.2 55 9 - zb)).2 55 (14 * p + 117) = T.2 55 (14 * p + 117) := by rw [wA_e, pk_un (by omega)]
          have e9 : (wA (wA T 55 9 (T.2 55 9 - zb)) 55 (14 * p + 117) (T.2 55 (14 * p + 117) + zb)).2 55 = upd (upd (T.2 55) 9 (T.2 55 9 - zb)) (14 * p + 117) (T.2 55 (14 * p + 117) + zb) := by rw [wA_e, wA_e]
          rw [em, wI_2, ec, wA_1, wI_e]
          have e2 : (wA (wA T 55 9 (T.2 55 9 - zb)) 55 (14 * p + 117) (T.2 55 (14 * p + 117) + zb)).2 55 9 = T.2 55 9 - zb := by rw [e9, pk_un (by omega), pk_us]
          rw [e2]
          refine okt (K := K) ?_ ⟨⟨rfl, rfl, rfl, rfl⟩, rfl, rfl⟩ ⟨⟨rfl, rfl, rfl, rfl, rfl⟩, rfl, rfl⟩
          rw [e9]
          refine h.onP ((CQ.rf.wI (Or.inl rfl) (by decide) (by decide)).wA (by decide) (by decide)) ((NQ.rf.w (Or.inr (Or.inl rfl))).w (Or.inl (by omega))) ?_ ?_ (h.se.n9.w (c := 7) (by decide)) ?_ (fun x hx => hx.n9.w (c := 7) (by decide)) (fun q hq => by simp (disch := omega) only [pk_un])
          · rw [wA_1, wI_e, pk_un (by omega), pk_us]
          · rw [wA_e, wI_2]; exact (h.pe.n9 c20).w c20 hp (Or.inl rfl)
          · rw [wA_e, wI_2]; exact (h.st.n9 c20).w c20 (c := 7) (by decide) (by decide)
      · simp only [c1, m1, c2, m2, l3, l4, i10, eq_self, fb_s, ↓reduceIte]; exact ok_3 h
    · simp only [c1, m1, c2, m2, i10, eq_self, ↓reduceIte]; exact ok_1 h
end
section
/-! ===== pure: men, price, guard ===== -/
section OP1
variable {K : Nat → Nat} {S T : FS} {za zb zc zd : Int32}
theorem op_men (h : RelR K S (T.2 55)) : OK2 S T (f_X11_men S za zb) (f_X12_men T za zb) := by
  unfold f_X11_men f_X12_men
  simp only [fb_id]
  rcases h.per za with ⟨c1, m1⟩ | ⟨p, hp, rfl, c1, m1⟩
  · simp only [c1, m1, eq_self, ↓reduceIte]; exact ok_1 h
  · rcases out_c zb (-99) 99 with ⟨c2, m2⟩ | ⟨c2, m2⟩
    · have c20 := (h.ct 6 2 20 (by decide)).2.2
      have ec : S.2 7 (14 * p + 8) = T.2 55 (14 * p + 118) := (h.pe p hp).2.1.2.1
      rcases h.liv hp with ⟨l1, l2, l3⟩ | ⟨l1, l2, -, l3, l4⟩
      · simp only [c1, m1, c2, m2, l2, l3, i10, eq_self, fb_s, fv_s, ↓reduceIte]
        rw [g6_8 (by omega), s6_8 (by omega), man_8 (by omega), ec]
        rcases out_c (T.2 55 (14 * p + 118) + zb) 0 999 with ⟨c3, m3⟩ | ⟨c3, m3⟩
        · simp only [fb_s, c3, m3, i10, ↓reduceIte, fl_s]
          rw [sets_8 (by omega)]
          simp only [fb_s]
          rw [man_8 (by omega)]
          simp only [fb_s]
          have e9 : (wA T 55 (14 * p + 118) (T.2 55 (14 * p + 118) + zb)).2 55 = upd (T.2 55) (14 * p + 118) (T.2 55 (14 * p + 118) + zb) := wA_e
          rw [e9, pk_us]
          refine ok0 (K := K) ?_ ⟨⟨rfl, rfl, rfl, rfl⟩, rfl, rfl⟩ ⟨⟨rfl, rfl, rfl, rfl, rfl⟩, rfl, rfl⟩
          rw [e9]
          refine h.onP (CQ.rf.wA (by decide) (by decide)) (NQ.rf.w (Or.inl (by omega))) ?_ ?_ (h.se.w (c := 8) (by decide)) ?_ (fun x hx => hx.w (c := 8) (by decide)) (fun q hq => pk_un (by omega))
          · rw [wA_1, pk_un (by omega)]; exact h.1.2
          · rw [wA_e]; exact h.pe.w c20 hp (Or.inr (Or.inl rfl))
          · rw [wA_e]; exact h.st.w c20 (c := 8) (by decide) (by decide)
        · simp only [fb_s, c3, m3, i10, eq_self, ↓reduceIte]; exact ok_1 h
      · simp only [c1, m1, c2, m2, l3, l4, i10, eq_self, fb_s, ↓reduceIte]; exact ok_3 h
    · simp only [c1, m1, c2, m2, i10, eq_self, ↓reduceIte]; exact ok_1 h
theorem RPe.pri {f n : Nat → Int32} {p : Nat} {x : Int32} (h : RPe K f n) (b : K 2 ≤ 20) (hp : p < K 2) (hx : nB 999 x) : RPe K (upd f (14 * p + 12) x) (upd n (14 * p + 122) x) := by
  intro q hq
  have h1 := h q hq
  unfold PLv at h1 ⊢
  by_cases e : q = p
  · subst e
    simp (disch := omega) only [pk_us, pk_un]
    exact ⟨h1.1, ⟨h1.2.1.1, h1.2.1.2.1, h1.2.1.2.2.1, trivial, h1.2.1.2.2.2.2⟩, h1.2.2.1, h1.2.2.2.1, h1.2.2.2.2.1, h1.2.2.2.2.2.1, h1.2.2.2.2.2.2.1, hx, h1.2.2.2.2.2.2.2.2⟩
  · simp (disch := omega) only [pk_un]; exact h1
theorem op_price (h : RelR K S (T.2 55)) : OK2 S T (f_X11_price S za zb) (f_X12_price T za zb) := by
  unfold f_X11_price f_X12_price
  simp only [fb_id]
  rcases h.per za with ⟨c1, m1⟩ | ⟨p, hp, rfl, c1, m1⟩
  · simp only [c1, m1, eq_self, ↓reduceIte]; exact ok_1 h
  · rcases out_c zb 1 999 with ⟨c2, m2⟩ | ⟨c2, m2⟩
    · have c20 := (h.ct 6 2 20 (by decide)).2.2
      have ec : S.2 7 (14 * p + 12) = T.2 55 (14 * p + 122) := (h.pe p hp).2.1.2.2.2.1
      simp only [c1, m1, c2, m2, i10, eq_self, fb_s, fl_s, ↓reduceIte]
      rw [g6_12 (by omega), s6_12 (by omega), man_12 (by omega), sets_12 (by omega), ec]
      simp only [fb_s]
      have e9 : (wA T 55 (14 * p + 122) zb).2 55 = upd (T.2 55) (14 * p + 122) zb := wA_e
      refine ok0 (K := K) ?_ ⟨⟨rfl, rfl, rfl, rfl⟩, rfl, rfl⟩ ⟨⟨rfl, rfl, rfl, rfl, rfl⟩, rfl, rfl⟩
      rw [e9]
      obtain ⟨k, hk, e⟩ := out_n 1 999 rfl rfl (by decide) (by decide) c2
      refine h.onP (CQ.rf.wA (by decide) (by decide)) (NQ.rf.w (Or.inl (by omega))) ?_ ?_ (h.se.w (c := 12) (by decide)) ?_ (fun x hx => hx.w (c := 12) (by decide)) (fun q hq => pk_un (by omega))
      · rw [wA_1, pk_un (by omega)]; exact h.1.2
      · rw [wA_e]; exact h.pe.pri c20 hp ⟨k, by omega, e⟩
      · rw [wA_e]; exact h.st.w c20 (c := 12) (by decide) (by decide)
    · simp only [c1, m1, c2, m2, i10, eq_self, ↓reduceIte]; exact ok_1 h
theorem op_guard (h : RelR K S (T.2 55)) : OK2 S T (f_X11_guard S za zb) (f_X12_guard T za zb) := by
  unfold f_X11_guard f_X12_guard
  simp only [fb_id]
  rcases out_c za 0 4 with ⟨c1, m1⟩ | ⟨c1, m1⟩
  · rcases out_c zb 0 6 with ⟨c2, m2⟩ | ⟨c2, m2⟩
    · obtain ⟨g, hg, rfl⟩ := out_n 0 4 rfl rfl (by decide) (by decide) c1
      obtain ⟨k, hk, e⟩ := out_n 0 6 rfl rfl (by decide) (by decide) c2
      have ec := (h.gu g (by omega)).1
      simp only [c1, m1, c2, m2, i10, eq_self, fb_s, fl_s, fv_s, ↓reduceIte]
      rw [g20_0 (by omega), s20_0 (by omega), show ix 2071 ((1986 : Int32) + nI g) = some (g + 1986) from by rw [show (1986 : Int32) + nI g = nI (g + 1986) from (nI_add 1986 g).trans (congrArg nI (by omega))]; exact ix_nI (by omega) (by decide), ec]
      simp only [fb_s]
      have e9 : (wA T 55 (g + 1986) zb).2 55 = upd (T.2 55) (g + 1986) zb := wA_e
      refine ok0 (K := K) ?_ ⟨⟨rfl, rfl, rfl, rfl⟩, rfl, rfl⟩ ⟨⟨rfl, rfl, rfl, rfl, rfl⟩, rfl, rfl⟩
      rw [e9]
      refine h.onG (CQ.rf.wA (by decide) (by decide)) (NQ.rf.w (Or.inl (by omega))) ?_ ?_
      · rw [wA_1, pk_un (by omega)]; exact h.1.2
      · rw [wA_e]
        intro j hj
        by_cases q : j = g
        · subst q; rw [pk_us, pk_us]; exact ⟨rfl, k, by omega, e⟩
        · rw [pk_un q, pk_un (by omega)]; exact h.gu j hj
    · simp only [c1, m1, c2, m2, i10, eq_self, ↓reduceIte]; exact ok_1 h
  · simp only [c1, m1, i10, eq_self, ↓reduceIte]; exact ok_1 h
end OP1
end
section
/-! ===== pure: powers ===== -/
section OP2
variable {K : Nat → Nat} {S T : FS} {za zb zc zd : Int32}
theorem RelR.pwc (h : RelR K S (T.2 55)) {w : Nat} (hw : w < K 3) : w < 20 ∧ (S.2 9 (6 * w) = T.2 55 (6 * w + 390) ∧ S.2 9 (6 * w + 1) = T.2 55 (6 * w + 394) ∧ S.2 9 (6 * w + 2) = T.2 55 (6 * w + 391) ∧ S.2 9 (6 * w + 3) = T.2 55 (6 * w + 392) ∧ S.2 9 (6 * w + 4) = T.2 55 (6 * w + 393)) ∧ (T.2 55 (6 * w + 391) < 0 ↔ T.2 55 (6 * w + 391) = -1) ∧ (T.2 55 (6 * w + 392) < 0 ↔ T.2 55 (6 * w + 392) = -1) := by
  have c3 := (h.ct 8 3 20 (by decide)).2.2
  have c2 := (h.ct 6 2 20 (by decide)).2.2
  obtain ⟨h1, -, -, -, h5, h6, -⟩ := h.pw w hw
  exact ⟨by omega, h1, h5.vP.lt (by omega), h6.vP.lt (by omega)⟩
theorem op_as (h : RelR K S (T.2 55)) : OK2 S T (f_X11_as S za zb) (f_X12_as T za zb) := by
  unfold f_X11_as f_X12_as
  simp only [fb_id]
  rcases h.pow za with ⟨c1, m1⟩ | ⟨w, hw, rfl, c1, m1⟩
  · simp only [c1, m1, eq_self, ↓reduceIte]; exact ok_1 h
  · rcases out_c zb 0 5 with ⟨c2, m2⟩ | ⟨c2, m2⟩
    · obtain ⟨z, hz, rfl⟩ := out_n 0 5 rfl rfl (by decide) (by decide) c2
      obtain ⟨w20, ⟨e0, e1, e2, e3, e4⟩, -⟩ := h.pwc hw
      simp only [c1, m1, c2, m2, i10, eq_self, fb_s, ↓reduceIte, h.kind hw (show z < 6 by omega)]
      rw [its_0 w20, its_4 w20, g8_1 w20, e1]
      simp only [fb_s]
      by_cases c : p_X12_isUnder T (T.2 55 (6 * w + 390)) (nI z) = 0
      · simp only [c, ↓reduceIte]; exact ok_5 h
      · simp only [c, ↓reduceIte]; exact okt h CX.rf MX.rf
    · simp only [c1, m1, c2, m2, i10, eq_self, ↓reduceIte]; exact ok_1 h
theorem RelR.has (h : RelR K S (T.2 55)) {w : Nat} (hw : w < K 3) : q_X12_whoHas T (nI w) = some (p_X7_whoHas S (nI w)) ∧ vL (K 2) (T.2 55) (p_X7_whoHas S (nI w)) := by
  obtain ⟨w20, ⟨e0, e1, e2, e3, e4⟩, a1, a2⟩ := h.pwc hw
  obtain ⟨-, -, -, -, h5, h6, -⟩ := h.pw w hw
  unfold q_X12_whoHas p_X7_whoHas p_X7_isLent
  rw [its_2 w20, its_1 w20, g8_3 w20, g8_2 w20, e2, e3]
  simp only [fb_s]
  by_cases c : T.2 55 (6 * w + 392) = -1
  · simp only [c, a2.mpr c, ↓reduceIte]
    exact ⟨by rw [if_pos (by decide)], h5⟩
  · simp only [c, ↓reduceIte, fun q => c (a2.mp q), i10]
    rw [if_neg (fun q => c (a2.mp q))]
    exact ⟨rfl, h6⟩
theorem op_held (h : RelR K S (T.2 55)) : OK2 S T (f_X11_held S za zb) (f_X12_held T za zb) := by
  unfold f_X11_held f_X12_held
  simp only [fb_id]
  rcases h.pow za with ⟨c1, m1⟩ | ⟨w, hw, rfl, c1, m1⟩
  · simp only [c1, m1, eq_self, ↓reduceIte]; exact ok_1 h
  · obtain ⟨w20, ⟨e0, e1, e2, e3, e4⟩, a1, a2⟩ := h.pwc hw
    obtain ⟨-, k1, k2, -⟩ := h.pw w hw
    simp only [c1, m1, i10, ↓reduceIte, (h.has hw).1, its_0 w20, its_1 w20, its_5 w20, its_3 w20, g8_0 w20, g8_2 w20, g8_5 w20, g8_4 w20, e0, e2, e4, fb_s]
    by_cases b0 : zb = 0
    · simp only [b0, ↓reduceIte]; exact ok0 h CX.rf MX.rf
    · by_cases b1 : zb = 1
      · simp only [b0, b1, ↓reduceIte]; exact ok0 h CX.rf MX.rf
      · by_cases b2 : zb = 2
        · simp only [b0, b1, b2, ↓reduceIte]; exact ok0 h CX.rf MX.rf
        · by_cases b3 : zb = 3
          · simp only [b0, b1, b2, b3, ↓reduceIte]
            by_cases c : T.2 55 (6 * w + 390) = 2
            · simp only [c, ↓reduceIte, k1 c]; exact ok0 h CX.rf MX.rf
            · simp only [c, ↓reduceIte, k2 c]; exact ok0 h CX.rf MX.rf
          · by_cases b4 : zb = 4
            · simp only [b0, b1, b2, b3, b4, ↓reduceIte]; exact ok0 h CX.rf MX.rf
            · simp only [b0, b1, b2, b3, b4, ↓reduceIte]; exact ok_1 h
theorem op_give (h : RelR K S (T.2 55)) : OK2 S T (f_X11_give S za zb) (f_X12_give T za zb) := by
  unfold f_X11_give f_X12_give
  simp only [fb_id]
  rcases h.pow za with ⟨c1, m1⟩ | ⟨w, hw, rfl, c1, m1⟩
  · simp only [c1, m1, eq_self, ↓reduceIte]; exact ok_1 h
  · obtain ⟨w20, ⟨e0, e1, e2, e3, e4⟩, a1, a2⟩ := h.pwc hw
    have c3 := (h.ct 8 3 20 (by decide)).2.2
    have c2 := (h.ct 6 2 20 (by decide)).2.2
    obtain ⟨h1, k1, k2, k3, k4, k5, k6⟩ := h.pw w hw
    have fin : vL (K 2) (T.2 55) zb → T.2 55 (6 * w + 392) = -1 → OK2 S T (fb (f_X7_handOver S (nI w) zb) fun r7 => f_X11_told r7.2 r7.1) (fb (f_X12_makes T (nI w) 1 zb) fun r => some (T.2 55 (6 * w + 391), r.2)) := by
      intro hv e
      unfold f_X7_handOver f_X7_setLent
      rw [makes_1 w20]
      simp only [fb_s, fl_s]
      rw [s8_3 w20, s8_4 w20, s8_2 w20, g8_2 w20]
      have q2 : (wA (wA S 9 (6 * w + 3) (-1)) 9 (6 * w + 4) (-1)).2 9 (6 * w + 2) = T.2 55 (6 * w + 391) := by
        rw [wA_e, wA_e, pk_un (by omega), pk_un (by omega)]; exact e2
      rw [q2]
      refine okt (K := K) ?_ ⟨⟨rfl, rfl, rfl, rfl⟩, rfl, rfl⟩ ⟨⟨rfl, rfl, rfl, rfl, rfl⟩, rfl, rfl⟩
      have e9 : (wA T 55 (6 * w + 391) zb).2 55 = upd (T.2 55) (6 * w + 391) zb := wA_e
      rw [e9]
      refine h.onW (((CQ.rf.wA (by decide) (by decide)).wA (by decide) (by decide)).wA (by decide) (by decide)) (NQ.rf.w (Or.inl (by omega))) ?_ ?_
      · rw [wA_1, wA_1, wA_1, pk_un (by omega)]; exact h.1.2
      · rw [wA_e, wA_e, wA_e]
        have z3 : upd (S.2 9) (6 * w + 3) (-1) = S.2 9 := upd_id (e3.trans e)
        have z4 : upd (S.2 9) (6 * w + 4) (-1) = S.2 9 := upd_id (e4.trans (k6.2 e))
        rw [z3, z4]
        exact h.pw.hold c3 c2 hw hv
    have go : vL (K 2) (T.2 55) zb → OK2 S T (if p_X7_isLent S (nI w) = 0 then fb (f_X7_handOver S (nI w) zb) fun r7 => f_X11_told r7.2 r7.1 else f_X11_told S (-1000003)) (if T.2 55 (6 * w + 392) < 0 then fb (f_X12_makes T (nI w) 1 zb) fun r => some (T.2 55 (6 * w + 391), r.2) else f_X12_finds T 3) := by
      intro hv
      unfold p_X7_isLent
      rw [g8_3 w20, e3]
      by_cases c : T.2 55 (6 * w + 392) = -1
      · rw [if_pos c, if_pos rfl, if_pos (a2.mpr c)]; exact fin hv c
      · rw [if_neg c, if_neg (by decide), if_neg (fun q => c (a2.mp q))]; exact ok_3 h
    simp only [its_2 w20, its_1 w20, fb_s]
    rcases h.lon zb with ⟨b1, b2⟩ | ⟨b1, b2, b3⟩ | ⟨b1, b2, b3, b4⟩ | ⟨b1, ⟨p, b5, b6, b7⟩, b2, b3, b4⟩
    · subst b1
      simp only [c1, m1, b2, i10, ↓reduceIte]
      exact go (Or.inl rfl)
    · simp only [c1, m1, b1, b2, b3, i10, ↓reduceIte]; exact ok_1 h
    · simp only [c1, m1, b1, b2, b3, b4, i10, fb_s, ↓reduceIte]; exact ok_1 h
    · simp only [c1, m1, b1, b2, b3, b4, i10, fb_s, ↓reduceIte]; exact go (Or.inr ⟨p, b5, b6, b7⟩)
theorem op_lend (h : RelR K S (T.2 55)) : OK2 S T (f_X11_lend S za zb zc) (f_X12_lend T za zb zc) := by
  unfold f_X11_lend f_X12_lend
  simp only [fb_id]
  rcases h.pow za with ⟨c1, m1⟩ | ⟨w, hw, rfl, c1, m1⟩
  · simp only [c1, m1, eq_self, ↓reduceIte]; exact ok_1 h
  · obtain ⟨w20, ⟨e0, e1, e2, e3, e4⟩, a1, a2⟩ := h.pwc hw
    have c3 := (h.ct 8 3 20 (by decide)).2.2
    have c2 := (h.ct 6 2 20 (by decide)).2.2
    obtain ⟨d1, d2, d3⟩ := h.ct 102 8 2000 (by decide)
    have k2 : q_X7_isOfKind S (nI w) 2 = some (p_X12_isUnder T (T.2 55 (6 * w + 390)) 2) := h.kind hw (z := 2) (by decide)
    simp only [c1, m1, i10, ↓reduceIte, k2, under2, its_0 w20, its_1 w20, its_2 w20, fb_s, fv_s, g8_2 w20, e2, d1, d2]
    rcases h.per zb with ⟨b1, b2⟩ | ⟨p, hp, rfl, b1, b2⟩
    · have : p_X7_isLiving S zb = 0 := by unfold p_X7_isLiving; rw [if_pos b1]
      simp only [b2, this, ↓reduceIte]; exact ok_1 h
    · rcases h.liv hp with ⟨l1, l2, l3⟩ | ⟨l1, l2, -, l3, l4⟩
      · simp only [b2, l2, l3, i10, fb_s, ↓reduceIte]
        rcases out_c zc (nI (K 8)) 2000 with ⟨o1, o2⟩ | ⟨o1, o2⟩
        · simp only [o1, o2, i10, ↓reduceIte]
          by_cases c : T.2 55 (6 * w + 390) = 2
          · simp only [c, i10, ↓reduceIte]
            by_cases x1 : T.2 55 (6 * w + 391) = -1
            · simp only [x1, ↓reduceIte]
              rw [if_pos (show (-1 : Int32) < 0 by decide)]; exact ok_3 h
            · rw [if_neg x1, if_neg (fun q => x1 (a1.mp q))]
              unfold p_X7_isLent f_X7_setLent
              rw [g8_3 w20, e3]
              by_cases x3 : T.2 55 (6 * w + 392) = -1
              · rw [if_pos x3, if_pos (a2.mpr x3)]
                by_cases x2 : T.2 55 (6 * w + 391) = nI p
                · rw [if_pos x2, if_pos x2]; exact ok_3 h
                · rw [if_neg x2, if_neg x2, if_pos rfl, makes_2 w20]
                  simp only [fb_s, fl_s]
                  rw [s8_3 w20, s8_4 w20, makes_3 w20]
                  simp only [fb_s]
                  refine ok0 (K := K) ?_ ⟨⟨rfl, rfl, rfl, rfl⟩, rfl, rfl⟩ ⟨⟨rfl, rfl, rfl, rfl, rfl⟩, rfl, rfl⟩
                  rw [wA_e, wA_e]
                  refine h.onW ((CQ.rf.wA (by decide) (by decide)).wA (by decide) (by decide)) ((NQ.rf.w (Or.inl (by omega))).w (Or.inl (by omega))) ?_ ?_
                  · rw [wA_1, wA_1, pk_un (by omega), pk_un (by omega)]; exact h.1.2
                  · rw [wA_e, wA_e]
                    exact h.pw.lent c3 c2 hw (Or.inr ⟨p, hp, rfl, l1⟩) (fun q => absurd q (nI_m1 (by omega)))
              · rw [if_neg x3, if_neg (fun q => x3 (a2.mp q)), if_neg (show ¬ (1 : Int32) = 0 by decide)]
                by_cases x2 : T.2 55 (6 * w + 391) = nI p
                · rw [if_pos x2]; exact ok_3 h
                · rw [if_neg x2]; exact ok_3 h
          · simp only [c, ↓reduceIte]; exact ok_5 h
        · simp only [o1, o2, i10, ↓reduceIte]; exact ok_1 h
      · simp only [b2, l3, l4, i10, fb_s, ↓reduceIte]; exact ok_1 h
end OP2
end
section
/-! ===== pure: power, copy, town, rent, own, debt, owed, strike, letter ===== -/
section OP3
variable {K : Nat → Nat} {S T : FS} {za zb zc zd : Int32}
def kU (K : Nat → Nat) (c v : Nat) : Nat → Nat := fun j => if j = c then v else K j
theorem kU_e {c v : Nat} : kU K c v c = v := if_pos rfl
theorem kU_n {c v j : Nat} (h : j ≠ c) : kU K c v j = K j := if_neg h
/-- a power that comes -/
theorem RPw.new {f n : Nat → Int32} {k y z m m' : Int32} {n1 : Int32} (h : RPw K f n) (b : K 3 < 20) (b2 : K 2 ≤ 20) (hk : nB 5 k) (hy : vL (K 2) n y) (hm : k = 2 → m = m') (hm2 : k ≠ 2 → m = -1) (hm3 : nB 19 m') :
    RPw (kU K 3 (K 3 + 1)) (upd (upd (upd (upd (upd (pm_apf 6 (K 3) k f) (6 * K 3 + 1) z) (6 * K 3 + 2) y) (6 * K 3 + 5) m) (6 * K 3 + 3) (-1)) (6 * K 3 + 4) (-1)) (upd (upd (upd (upd (upd (upd (upd n 3 n1) (6 * K 3 + 390) k) (6 * K 3 + 391) y) (6 * K 3 + 394) z) (6 * K 3 + 395) m') (6 * K 3 + 392) (-1)) (6 * K 3 + 393) (-1)) := by
  intro q hq
  rw [kU_e] at hq
  rw [kU_n (show (2 : Nat) ≠ 3 by decide)]
  have o2 : ∀ z' : Int32, vL (K 2) n z' → vL (K 2) (upd (upd (upd (upd (upd (upd (upd n 3 n1) (6 * K 3 + 390) k) (6 * K 3 + 391) y) (6 * K 3 + 394) z) (6 * K 3 + 395) m') (6 * K 3 + 392) (-1)) (6 * K 3 + 393) (-1)) z' := fun z' hz => ((((((hz.o b2 (by omega)).o b2 (by omega)).o b2 (by omega)).o b2 (by omega)).o b2 (by omega)).o b2 (by omega)).o b2 (by omega)
  by_cases e : q = K 3
  · subst e
    simp (disch := omega) only [pk_us, pk_un, apf_0]
    exact ⟨⟨trivial, trivial, trivial, trivial, trivial⟩, hm, hm2, hk, o2 _ hy, Or.inl rfl, hm3, fun _ => trivial⟩
  · have h1 := h q (by omega)
    simp (disch := omega) only [pk_un, apf_o]
    exact ⟨h1.1, h1.2.1, h1.2.2.1, h1.2.2.2.1, o2 _ h1.2.2.2.2.1, o2 _ h1.2.2.2.2.2.1, h1.2.2.2.2.2.2⟩
theorem op_power (h : RelR K S (T.2 55)) : OK2 S T (f_X11_power S za zb zc) (f_X12_power T za zb zc) := by
  unfold f_X11_power f_X12_power
  simp only [fb_id]
  obtain ⟨k1, k2, c3⟩ := h.ct 8 3 20 (by decide)
  have c2 := (h.ct 6 2 20 (by decide)).2.2
  rcases out_c za 0 5 with ⟨c1, m1⟩ | ⟨c1, m1⟩
  · obtain ⟨k, hk, ek⟩ := out_n 0 5 rfl rfl (by decide) (by decide) c1
    have go : vL (K 2) (T.2 55) zb → OK2 S T (if fOut zc 0 99 = 0 then if fFull 8 20 S = 0 then fb (f_X7_addPower S za zb zc) fun r10 => f_X11_told r10.2 r10.1 else f_X11_told S (-1000004) else f_X11_told S (-1000001)) (if p_X12_in T zc 0 99 = 0 then f_X12_finds T 1 else if T.2 55 3 = 20 then f_X12_finds T 4 else f_X12_newPower T za zb zc (-1)) := by
      intro hv
      rcases out_c zc 0 99 with ⟨o1, o2⟩ | ⟨o1, o2⟩
      · simp only [o1, o2, i10, ↓reduceIte]
        by_cases c : K 3 = 20
        · rw [fFull_t k1 (by omega) (by omega), k2, if_neg (by decide), if_pos (by rw [c]; rfl)]; exact ok_4 h
        · rw [fFull_f k1 (by omega) (by decide), if_pos rfl, k2, if_neg (fun q => c (nI_inj (by omega) (by decide) (q.trans (show (20 : Int32) = nI 20 from rfl))))]
          have w20 : K 3 < 20 := by omega
          unfold f_X7_addPower f_X12_newPower f_X7_setLent f_X12_comesBack
          rw [fApp_f k1 w20 (by decide)]
          simp only [fb_s, fl_s, fv_s, k2, nI_1]
          rw [s8_1 w20, s8_2 w20, makes_0 w20]
          simp only [fb_s]
          rw [makes_1 w20]
          simp only [fb_s]
          rw [makes_4 w20]
          simp only [fb_s]
          rw [if_pos (show (-1 : Int32) < 0 by decide), makes_5 w20]
          simp only [fb_s]
          rw [makes_2 w20]
          simp only [fb_s]
          rw [makes_3 w20]
          simp only [fb_s]
          have mk : ∀ (S1 : FS) (m : Int32), S1 = wA (wA (wA (wA (wA (ui S.1 8 (nI (K 3 + 1)), ua S.2 9 (pm_apf 6 (K 3) za (S.2 9))) 9 (6 * K 3 + 1) zc) 9 (6 * K 3 + 2) zb) 9 (6 * K 3 + 5) m) 9 (6 * K 3 + 3) (-1)) 9 (6 * K 3 + 4) (-1) → (za = 2 → m = nI (K 3)) → (za ≠ 2 → m = -1) → OK2 S T (f_X11_told S1 (nI (K 3))) (some (nI (K 3), wA (wA (wA (wA (wA (wA (wA T 55 3 (nI (K 3 + 1))) 55 (6 * K 3 + 390) za) 55 (6 * K 3 + 391) zb) 55 (6 * K 3 + 394) zc) 55 (6 * K 3 + 395) (nI (K 3))) 55 (6 * K 3 + 392) (-1)) 55 (6 * K 3 + 393) (-1))) := by
            intro S1 m e1 hm hm2
            subst e1
            refine okt (K := kU K 3 (K 3 + 1)) ?_ ⟨⟨rfl, rfl, rfl, rfl⟩, rfl, rfl⟩ ⟨⟨rfl, rfl, rfl, rfl, rfl⟩, rfl, rfl⟩
            simp only [wA_e]
            refine h.onW_3 ((((((CQ.rf.app (by decide) (by decide) (by decide) (by decide)).wA (by decide) (by decide)).wA (by decide) (by decide)).wA (by decide) (by decide)).wA (by decide) (by decide)).wA (by decide) (by decide)) (((((((NQ.rf.w (Or.inr (Or.inr rfl))).w (Or.inl (by omega))).w (Or.inl (by omega))).w (Or.inl (by omega))).w (Or.inl (by omega))).w (Or.inl (by omega))).w (Or.inl (by omega))) (fun i hi => kU_n hi) (by rw [kU_e]; omega) ?_ (onct 8 3 20 (by decide) ?_ ?_ (by rw [kU_e]; omega)) ?_
            · simp (disch := omega) only [pk_un]; exact h.1.2
            · rw [kU_e]; rfl
            · rw [kU_e]; simp (disch := omega) only [pk_un, pk_us]
            · simp only [wA_e, ua_eq]
              exact h.pw.new w20 c2 ⟨k, by omega, ek⟩ hv hm hm2 ⟨K 3, by omega, rfl⟩
          by_cases c2' : za = 2
          · rw [if_pos c2', s8_5 w20, s8_3 w20, s8_4 w20]; simp only [fb_s]
            exact mk _ _ rfl (fun _ => rfl) (fun q => absurd c2' q)
          · rw [if_neg c2', s8_5 w20, s8_3 w20, s8_4 w20]; simp only [fb_s]
            exact mk _ _ rfl (fun q => absurd q c2') (fun _ => rfl)
      · simp only [o1, o2, i10, ↓reduceIte]; exact ok_1 h
    rcases h.lon zb with ⟨b1, b2⟩ | ⟨b1, b2, b3⟩ | ⟨b1, b2, b3, b4⟩ | ⟨b1, ⟨p, b5, b6, b7⟩, b2, b3, b4⟩
    · subst b1
      simp only [c1, m1, b2, i10, ↓reduceIte]; exact go (Or.inl rfl)
    · simp only [c1, m1, b1, b2, b3, i10, ↓reduceIte]; exact ok_1 h
    · simp only [c1, m1, b1, b2, b3, b4, i10, fb_s, ↓reduceIte]; exact ok_1 h
    · simp only [c1, m1, b1, b2, b3, b4, i10, fb_s, ↓reduceIte]; exact go (Or.inr ⟨p, b5, b6, b7⟩)
  · simp only [c1, m1, i10, ↓reduceIte]; exact ok_1 h
theorem op_rent (h : RelR K S (T.2 55)) : OK2 S T (f_X11_rent S za zb) (f_X12_rent T za zb) := by
  unfold f_X11_rent f_X12_rent
  simp only [fb_id]
  have c0 := (h.ct 2 0 10 (by decide)).2.2
  rcases h.twn za with ⟨c1, m1⟩ | ⟨t, ht, rfl, c1, m1⟩
  · simp only [c1, m1, eq_self, ↓reduceIte]; exact ok_1 h
  · rcases out_c zb 0 999 with ⟨c2, m2⟩ | ⟨c2, m2⟩
    · obtain ⟨k, hk, ek⟩ := out_n 0 999 rfl rfl (by decide) (by decide) c2
      have t10 : t < 10 := by omega
      have ec : S.2 3 (3 * t) = T.2 55 (3 * t + 20) := (h.tw t ht).1.1
      simp only [c1, m1, c2, m2, i10, fb_s, fl_s, fv_s, ↓reduceIte, ixT_0 t10, g2_0 t10, s2_0 t10, ec]
      refine ok0 (K := K) ?_ ⟨⟨rfl, rfl, rfl, rfl⟩, rfl, rfl⟩ ⟨⟨rfl, rfl, rfl, rfl, rfl⟩, rfl, rfl⟩
      rw [wA_e]
      refine h.onT (CQ.rf.wA (by decide) (by decide)) (NQ.rf.w (Or.inl (by omega))) ?_ ?_ (fun u hu e => by rw [pk_un (by omega)]; exact e)
      · rw [wA_1, pk_un (by omega)]; exact h.1.2
      · rw [wA_e]
        intro u hu
        have h1 := h.tw u hu
        by_cases e : u = t
        · subst e
          simp (disch := omega) only [pk_us, pk_un]
          exact ⟨⟨trivial, h1.1.2⟩, ⟨k, by omega, ek⟩, h1.2.2⟩
        · simp (disch := omega) only [pk_un]; exact h1
    · simp only [c1, m1, c2, m2, i10, ↓reduceIte]; exact ok_1 h
theorem op_own (h : RelR K S (T.2 55)) : OK2 S T (f_X11_own S za zb) (f_X12_own T za zb) := by
  unfold f_X11_own f_X12_own
  simp only [fb_id]
  have c0 := (h.ct 2 0 10 (by decide)).2.2
  rcases h.twn za with ⟨c1, m1⟩ | ⟨t, ht, rfl, c1, m1⟩
  · simp only [c1, m1, eq_self, ↓reduceIte]; exact ok_1 h
  · have t10 : t < 10 := by omega
    obtain ⟨⟨e0, e1, e2⟩, f1, f2, ⟨v, hv, ev⟩⟩ := h.tw t ht
    have go : vP (K 2) zb → OK2 S T (if fG 2 10 3 S (nI t) 2 = 0 then fl (fP 2 10 3 S (nI t) 1 zb) fun S6 => some (fG 2 10 3 S (nI t) 1, S6) else f_X11_told S (-1000003)) (if T.2 55 (3 * t + 22) = 1 then f_X12_finds T 3 else some (T.2 55 (3 * t + 21), wA T 55 (3 * t + 21) zb)) := by
      intro hx
      rw [g2_2 t10, g2_1 t10, s2_1 t10, e2, e1, ev]
      rcases (show v = 0 ∨ v = 1 by omega) with rfl | rfl
      · rw [if_pos (show nI 0 = 0 from rfl), if_neg (by decide), fl_s]
        refine ok0 (K := K) ?_ ⟨⟨rfl, rfl, rfl, rfl⟩, rfl, rfl⟩ ⟨⟨rfl, rfl, rfl, rfl, rfl⟩, rfl, rfl⟩
        rw [wA_e]
        refine h.onT (CQ.rf.wA (by decide) (by decide)) (NQ.rf.w (Or.inl (by omega))) ?_ ?_ (fun u hu e => by rw [pk_un (by omega)]; exact e)
        · rw [wA_1, pk_un (by omega)]; exact h.1.2
        · rw [wA_e]
          intro u hu
          have h1 := h.tw u hu
          by_cases e : u = t
          · subst e
            simp (disch := omega) only [pk_us, pk_un]
            exact ⟨⟨h1.1.1, trivial, h1.1.2.2⟩, h1.2.1, hx, h1.2.2.2⟩
          · simp (disch := omega) only [pk_un]; exact h1
      · rw [if_neg (by decide), if_pos (show nI 1 = 1 from rfl)]; exact ok_3 h
    simp only [ixT_2 t10, ixT_1 t10, fb_s, fv_s]
    rcases h.lon zb with ⟨b1, b2⟩ | ⟨b1, b2, b3⟩ | ⟨b1, b2, b3, b4⟩ | ⟨b1, ⟨p, b5, b6, b7⟩, b2, b3, b4⟩
    · subst b1
      simp only [c1, m1, b2, i10, ↓reduceIte]; exact go (Or.inl rfl)
    · simp only [c1, m1, b1, b2, b3, i10, ↓reduceIte]; exact ok_1 h
    · simp only [c1, m1, b1, b2, b3, b4, i10, fb_s, ↓reduceIte]; exact ok_1 h
    · simp only [c1, m1, b1, b2, b3, b4, i10, fb_s, ↓reduceIte]; exact go (Or.inr ⟨p, b5, b6⟩)
theorem op_town (h : RelR K S (T.2 55)) : OK2 S T (f_X11_town S) (f_X12_town T) := by
  unfold f_X11_town f_X12_town
  simp only [fb_id, fv_s]
  obtain ⟨k1, k2, c0⟩ := h.ct 2 0 10 (by decide)
  by_cases c : K 0 = 10
  · rw [fFull_t k1 (by omega) (by omega), k2, if_neg (by decide), if_pos (by rw [c]; rfl)]; exact ok_4 h
  · rw [fFull_f k1 (by omega) (by decide), if_pos rfl, k2, if_neg (fun q => c (nI_inj (by omega) (by decide) (q.trans (show (10 : Int32) = nI 10 from rfl))))]
    have t10 : K 0 < 10 := by omega
    unfold f_X7_addTown
    rw [fApp_f k1 t10 (by decide)]
    simp only [fb_s, fl_s, nI_1, ixT_0 t10, ixT_1 t10, ixT_2 t10, s2_1 t10]
    refine okt (K := kU K 0 (K 0 + 1)) ?_ ⟨⟨rfl, rfl, rfl, rfl⟩, rfl, rfl⟩ ⟨⟨rfl, rfl, rfl, rfl, rfl⟩, rfl, rfl⟩
    simp only [wA_e]
    refine h.onT_0 ((CQ.rf.app (by decide) (by decide) (by decide) (by decide)).wA (by decide) (by decide)) ((((NQ.rf.w (Or.inr (Or.inr rfl))).w (Or.inl (by omega))).w (Or.inl (by omega))).w (Or.inl (by omega))) (fun i hi => kU_n hi) (by rw [kU_e]; omega) ?_ (onct 2 0 10 (by decide) ?_ ?_ (by rw [kU_e]; omega)) ?_ (fun u hu e => by simp (disch := omega) only [pk_un]; exact e)
    · simp (disch := omega) only [pk_un]; exact h.1.2
    · rw [kU_e]; rfl
    · rw [kU_e]; simp (disch := omega) only [pk_un, pk_us]
    · simp only [wA_e, ua_eq]
      intro u hu
      rw [kU_e] at hu
      rw [kU_n (show (2 : Nat) ≠ 0 by decide)]
      by_cases e : u = K 0
      · subst e
        simp (disch := omega) only [pk_us, pk_un, apf_0, apf_c]
        exact ⟨⟨trivial, trivial, trivial⟩, ⟨0, by decide, rfl⟩, Or.inl rfl, ⟨0, by decide, rfl⟩⟩
      · have h1 := h.tw u (by omega)
        simp (disch := omega) only [pk_un, apf_o]; exact h1
theorem op_strike (h : RelR K S (T.2 55)) : OK2 S T (f_X11_strike S za) (f_X12_strike T za) := by
  unfold f_X11_strike f_X12_strike p_X2_isStruck f_X2_strikeOut
  simp only [fb_id]
  obtain ⟨k1, k2, c4⟩ := h.ct 10 4 12 (by decide)
  obtain ⟨d1, d2, d3⟩ := h.ct 102 8 2000 (by decide)
  rcases h.law za with ⟨c1, m1⟩ | ⟨l, hl, rfl, c1, m1⟩
  · simp only [c1, m1, eq_self, ↓reduceIte]; exact ok_1 h
  · have l12 : l < 12 := by omega
    obtain ⟨⟨e0, e1, e2, e3⟩, -⟩ := h.la l hl
    simp only [c1, m1, i10, ↓reduceIte, g10_3 l12, s10_3 l12, e3, fb_s, fl_s, ixL_3 l12, d1, d2]
    by_cases c : T.2 55 (65 * l + 513) < 0
    · rw [if_pos c, if_pos c, if_pos rfl]
      refine ok0 (K := K) ?_ ⟨⟨rfl, rfl, rfl, rfl⟩, rfl, rfl⟩ ⟨⟨rfl, rfl, rfl, rfl, rfl⟩, rfl, rfl⟩
      simp only [wA_e]
      refine h.onL (CQ.rf.wA (by decide) (by decide)) (NQ.rf.w (Or.inl (by omega))) ?_ ?_
      · rw [wA_1, pk_un (by omega)]; exact h.1.2
      · rw [wA_e, wA_n (by decide)]
        intro m hm
        obtain ⟨g1, ⟨d, g2, g3, g4⟩, g5, e, g6, g7, g8, g9, g10⟩ := h.la m hm
        have q4 : ∀ l' : Nat, l' < m → ∃ d' : Nat, d' ≤ d ∧ upd (T.2 55) (65 * l + 513) (nI (K 8)) (65 * l' + 512) = nI d' := fun l' hl' => by
          rw [pk_un (by omega)]; exact g4 l' hl'
        have q9 : ∀ i : Nat, i < e → cdM (S.2 13 (60 * m + i)) (upd (T.2 55) (65 * l + 513) (nI (K 8)) (65 * m + (515 + i))) := fun i hi => by
          rw [pk_un (by omega)]; exact g9 i hi
        by_cases q : m = l
        · subst q
          simp (disch := omega) only [pk_us, pk_un] at q4 q9 ⊢
          exact ⟨⟨g1.1, g1.2.1, g1.2.2.1, trivial⟩, ⟨d, g2, g3, q4⟩, Or.inr ⟨K 8, d3, rfl⟩, e, g6, g7, g8, q9, g10⟩
        · simp (disch := omega) only [pk_un]
          exact ⟨g1, ⟨d, g2, g3, g4⟩, g5, e, g6, g7, g8, q9, g10⟩
    · rw [if_neg c, if_neg c, if_neg (by decide)]; exact ok_3 h
theorem op_letter (h : RelR K S (T.2 55)) : OK2 S T (f_X11_letter S za zb) (f_X12_letter T za zb) := by
  unfold f_X11_letter f_X12_letter
  simp only [fb_id]
  have c5 := (h.ct 14 5 40 (by decide)).2.2
  rcases h.let' za with ⟨c1, m1⟩ | ⟨l, hl, rfl, c1, m1⟩
  · simp only [c1, m1, eq_self, ↓reduceIte]; exact ok_1 h
  · have l40 : l < 40 := by omega
    obtain ⟨⟨e0, e1, e2, e4, e6⟩, ⟨e8, e9, e10, e11, e5⟩, -⟩ := h.le l hl
    simp only [c1, m1, i10, ↓reduceIte, g14_0 l40, g14_1 l40, g14_2 l40, g14_4 l40, g14_6 l40, g14_8 l40, g14_9 l40, g14_10 l40, g14_11 l40, g14_5 l40, e0, e1, e2, e4, e6, e8, e9, e10, e11, e5]
    rcases out_c zb 0 9 with ⟨c2, m2⟩ | ⟨c2, m2⟩
    · obtain ⟨k, hk, rfl⟩ := out_n 0 9 rfl rfl (by decide) (by decide) c2
      simp only [m2, i10, ↓reduceIte]
      rcases (show k = 0 ∨ k = 1 ∨ k = 2 ∨ k = 3 ∨ k = 4 ∨ k = 5 ∨ k = 6 ∨ k = 7 ∨ k = 8 ∨ k = 9 by omega) with rfl | rfl | rfl | rfl | rfl | rfl | rfl | rfl | rfl | rfl
      · rw [show q_X12_of T (nI l) (nI 0) = _ from of_0 l40]; exact ok0 h CX.rf MX.rf
      · rw [show q_X12_of T (nI l) (nI 1) = _ from of_1 l40]; exact ok0 h CX.rf MX.rf
      · rw [show q_X12_of T (nI l) (nI 2) = _ from of_2 l40]; exact ok0 h CX.rf MX.rf
      · rw [show q_X12_of T (nI l) (nI 3) = _ from of_3 l40]; exact ok0 h CX.rf MX.rf
      · rw [show q_X12_of T (nI l) (nI 4) = _ from of_4 l40]; exact ok0 h CX.rf MX.rf
      · rw [show q_X12_of T (nI l) (nI 5) = _ from of_5 l40]; exact ok0 h CX.rf MX.rf
      · rw [show q_X12_of T (nI l) (nI 6) = _ from of_6 l40]; exact ok0 h CX.rf MX.rf
      · rw [show q_X12_of T (nI l) (nI 7) = _ from of_7 l40]; exact ok0 h CX.rf MX.rf
      · rw [show q_X12_of T (nI l) (nI 8) = _ from of_8 l40]; exact ok0 h CX.rf MX.rf
      · rw [show q_X12_of T (nI l) (nI 9) = _ from of_9 l40]; exact ok0 h CX.rf MX.rf
    · have b : ∀ k : Nat, k ≤ 9 → zb ≠ nI k := by
        intro k hk e
        subst e
        have : fOut (nI k) 0 9 = 0 := by
          unfold fOut
          rw [if_neg]
          rintro (q | q)
          · exact nI_pos (by omega) q
          · exact nI_nlt (a := 9) (b := k) hk (by decide) q
        rw [this] at c2; exact absurd c2 (by decide)
      simp only [m2, show ¬ zb = 0 from b 0 (by decide), show ¬ zb = 1 from b 1 (by decide), show ¬ zb = 2 from b 2 (by decide), show ¬ zb = 3 from b 3 (by decide), show ¬ zb = 4 from b 4 (by decide), show ¬ zb = 5 from b 5 (by decide), show ¬ zb = 6 from b 6 (by decide), show ¬ zb = 7 from b 7 (by decide), show ¬ zb = 8 from b 8 (by decide), show ¬ zb = 9 from b 9 (by decide), ↓reduceIte]
      exact ok_1 h
end OP3
end
section
/-! ===== pure: copy, debt, owed, tell, breaks ===== -/
section OP4
variable {K : Nat → Nat} {S T : FS} {za zb zc zd : Int32}
theorem op_copy (h : RelR K S (T.2 55)) : OK2 S T (f_X11_copy S za) (f_X12_copy T za) := by
  unfold f_X11_copy f_X12_copy
  simp only [fb_id]
  obtain ⟨k1, k2, c3⟩ := h.ct 8 3 20 (by decide)
  have c2 := (h.ct 6 2 20 (by decide)).2.2
  rcases h.pow za with ⟨c1, m1⟩ | ⟨w, hw, rfl, c1, m1⟩
  · simp only [c1, m1, eq_self, ↓reduceIte]; exact ok_1 h
  · obtain ⟨w20, ⟨e0, e1, e2, e3, e4⟩, a1, a2⟩ := h.pwc hw
    obtain ⟨-, q1, q2, -, -, -, q3, -⟩ := h.pw w hw
    obtain ⟨hh, hv⟩ := h.has hw
    have kk : q_X7_isOfKind S (nI w) 2 = some (p_X12_isUnder T (T.2 55 (6 * w + 390)) 2) := h.kind hw (z := 2) (by decide)
    simp only [c1, m1, i10, ↓reduceIte, kk, under2, its_0 w20, its_5 w20, fb_s, hh]
    by_cases c : T.2 55 (6 * w + 390) = 2
    · simp only [c, i10, ↓reduceIte]
      by_cases n1 : p_X7_whoHas S (nI w) = -1
      · rw [if_pos n1, if_pos ((hv.vP.lt (by omega)).mpr n1)]; exact ok_3 h
      · rw [if_neg n1, if_neg (fun q => n1 ((hv.vP.lt (by omega)).mp q))]
        by_cases c' : K 3 = 20
        · rw [fFull_t k1 (by omega) (by omega), k2, if_neg (by decide), if_pos (by rw [c']; rfl)]; exact ok_4 h
        · rw [fFull_f k1 (by omega) (by decide), if_pos rfl, k2, if_neg (fun q => c' (nI_inj (by omega) (by decide) (q.trans (show (20 : Int32) = nI 20 from rfl))))]
          have x20 : K 3 < 20 := by omega
          unfold f_X7_addCopy f_X7_addPower f_X12_newPower f_X7_setLent f_X12_comesBack
          generalize p_X7_whoHas S (nI w) = y at hv n1 ⊢
          rw [fApp_f k1 x20 (by decide)]
          simp only [eq_self, ↓reduceIte, (q3.m1 (by decide)).2, fb_s, fl_s, fv_s, k2, nI_1, s8_1 x20, s8_2 x20, s8_3 x20, s8_4 x20, s8_5 x20, makes_0 x20, makes_1 x20, makes_4 x20, makes_5 x20, makes_2 x20, makes_3 x20, g8_5 w20]
          refine okt (K := kU K 3 (K 3 + 1)) ?_ ⟨⟨rfl, rfl, rfl, rfl⟩, rfl, rfl⟩ ⟨⟨rfl, rfl, rfl, rfl, rfl⟩, rfl, rfl⟩
          simp only [wA_e]
          refine h.onW_3 (((((((CQ.rf.app (by decide) (by decide) (by decide) (by decide)).wA (by decide) (by decide)).wA (by decide) (by decide)).wA (by decide) (by decide)).wA (by decide) (by decide)).wA (by decide) (by decide)).wA (by decide) (by decide)) (((((((NQ.rf.w (Or.inr (Or.inr rfl))).w (Or.inl (by omega))).w (Or.inl (by omega))).w (Or.inl (by omega))).w (Or.inl (by omega))).w (Or.inl (by omega))).w (Or.inl (by omega))) (fun i hi => kU_n hi) (by rw [kU_e]; omega) ?_ (onct 8 3 20 (by decide) ?_ ?_ (by rw [kU_e]; omega)) ?_
          · simp (disch := omega) only [pk_un]; exact h.1.2
          · rw [kU_e]; rfl
          · rw [kU_e]; simp (disch := omega) only [pk_un, pk_us]
          · simp only [wA_e, ua_eq]
            have hz := h.pw.new (n1 := nI (K 3 + 1)) (k := 2) (z := 0) (m := T.2 55 (6 * w + 395)) (m' := T.2 55 (6 * w + 395)) x20 c2 ⟨2, by decide, rfl⟩ hv (fun _ => rfl) (fun q => absurd rfl q) q3
            have ez : upd (upd (upd (upd (upd (upd (pm_apf 6 (K 3) 2 (S.2 9)) (6 * K 3 + 1) 0) (6 * K 3 + 2) y) (6 * K 3 + 5) (nI (K 3))) (6 * K 3 + 3) (-1)) (6 * K 3 + 4) (-1)) (6 * K 3 + 5) (upd (upd (upd (upd (upd (pm_apf 6 (K 3) 2 (S.2 9)) (6 * K 3 + 1) 0) (6 * K 3 + 2) y) (6 * K 3 + 5) (nI (K 3))) (6 * K 3 + 3) (-1)) (6 * K 3 + 4) (-1) (6 * w + 5)) = upd (upd (upd (upd (upd (pm_apf 6 (K 3) 2 (S.2 9)) (6 * K 3 + 1) 0) (6 * K 3 + 2) y) (6 * K 3 + 5) (T.2 55 (6 * w + 395))) (6 * K 3 + 3) (-1)) (6 * K 3 + 4) (-1) := by
              have e5 : upd (upd (upd (upd (upd (pm_apf 6 (K 3) 2 (S.2 9)) (6 * K 3 + 1) 0) (6 * K 3 + 2) y) (6 * K 3 + 5) (nI (K 3))) (6 * K 3 + 3) (-1)) (6 * K 3 + 4) (-1) (6 * w + 5) = T.2 55 (6 * w + 395) := by
                simp (disch := omega) only [pk_un, apf_o]; exact q1 c
              rw [e5]
              funext j
              by_cases j5 : j = 6 * K 3 + 5
              · subst j5; simp (disch := omega) only [pk_us, pk_un]
              · rw [pk_un j5]
                by_cases j4 : j = 6 * K 3 + 4
                · subst j4; simp only [pk_us]
                · rw [pk_un j4, pk_un j4]
                  by_cases j3 : j = 6 * K 3 + 3
                  · subst j3; simp only [pk_us]
                  · rw [pk_un j3, pk_un j3, pk_un j5, pk_un j5]
            rw [ez]; exact hz
    · simp only [c, ↓reduceIte]; exact ok_5 h
theorem op_tell (h : RelR K S (T.2 55)) : OK2 S T (f_X11_tell S za) (f_X12_tell T za) := by
  unfold f_X11_tell f_X12_tell
  simp only [fb_id]
  obtain ⟨k1, k2, c0⟩ := h.ct 22 11 20 (by decide)
  by_cases c : K 11 = 20
  · rw [fFull_t k1 (by omega) (by omega), k2, if_neg (by decide), if_pos (by rw [c]; rfl)]; exact ok_4 h
  · rw [fFull_f k1 (by omega) (by decide), if_pos rfl, k2, if_neg (fun q => c (nI_inj (by omega) (by decide) (q.trans (show (20 : Int32) = nI 20 from rfl))))]
    have t20 : K 11 < 20 := by omega
    have ei : ix 2071 ((2051 : Int32) + nI (K 11)) = some (K 11 + 2051) := by
      rw [show (2051 : Int32) + nI (K 11) = nI (K 11 + 2051) from (nI_add 2051 (K 11)).trans (congrArg nI (by omega))]; exact ix_nI (by omega) (by decide)
    rw [fApp_f k1 t20 (by decide)]
    simp only [fb_s, fl_s, ei, wA_e]
    have e1 : upd (T.2 55) (K 11 + 2051) za 11 = nI (K 11) := by rw [pk_un (by omega)]; exact k2
    rw [e1, pk_us, nI_1, ui_eq]
    refine ok0 (K := kU K 11 (K 11 + 1)) ?_ ⟨⟨rfl, rfl, rfl, rfl⟩, rfl, rfl⟩ ⟨⟨rfl, rfl, rfl, rfl, rfl⟩, rfl, rfl⟩
    simp only [wA_e]
    refine h.onX_11 (CQ.rf.app (by decide) (by decide) (by decide) (by decide)) ((NQ.rf.w (Or.inl (by omega))).w (Or.inr (Or.inr rfl))) (fun i hi => kU_n hi) (by rw [kU_e]; omega) ?_ (onct 22 11 20 (by decide) ?_ ?_ (by rw [kU_e]; omega)) ?_
    · simp (disch := omega) only [pk_un]; exact h.1.2
    · rw [kU_e]; rfl
    · rw [kU_e, pk_us]
    · simp only [ua_eq]
      intro j hj
      rw [kU_e] at hj
      by_cases e : j = K 11
      · subst e
        rw [apf_0 (by omega) (by decide), pk_un (by omega), pk_us]
      · rw [apf_o (by omega), pk_un (by omega), pk_un (by omega)]; exact h.wt j (by omega)
theorem RelR.stn (h : RelR K S (T.2 55)) {k : Nat} (hk : k < K 7) : k < 30 ∧ ((p_X0_stands S (nI k) = 1 ∧ q_X12_stands T (nI k) = some 1 ∧ S.2 19 (5 * k + 4) = 0 ∧ T.2 55 (6 * k + 1810) = 0 ∧ T.2 55 (6 * k + 1811) = 0 ∧ ¬ T.2 55 (6 * k + 1808) < nI (K 8)) ∨ (p_X0_stands S (nI k) = 0 ∧ q_X12_stands T (nI k) = some 0 ∧ (T.2 55 (6 * k + 1808) < nI (K 8) ∨ S.2 19 (5 * k + 4) ≠ 0))) := by
  have c7 := (h.ct 18 7 30 (by decide)).2.2
  obtain ⟨d1, d2, d3⟩ := h.ct 102 8 2000 (by decide)
  obtain ⟨⟨e0, e1, e2, e3⟩, f1, f2, -⟩ := h.pr k hk
  have k30 : k < 30 := by omega
  refine ⟨k30, ?_⟩
  unfold p_X0_stands q_X12_stands
  simp only [g18_4 k30, g18_2 k30, promised_4 k30, promised_5 k30, promised_2 k30, fb_s, d1, d2, e2]
  by_cases t : T.2 55 (6 * k + 1808) < nI (K 8)
  · right
    refine ⟨?_, ?_, Or.inl t⟩
    · split <;> simp only [t, ↓reduceIte]
    · split
      · split <;> simp only [t, ↓reduceIte]
      · rfl
  · have f3 := f2 t
    by_cases a : S.2 19 (5 * k + 4) = 0
    · left
      obtain ⟨b1, b2⟩ := f3.mp a
      simp only [a, b1, b2, t, ↓reduceIte]; exact ⟨trivial, trivial, trivial, trivial, trivial, fun q => q⟩
    · right
      refine ⟨by rw [if_neg a], ?_, Or.inr a⟩
      split
      · next b1 =>
        split
        · next b2 => exact absurd (f3.mpr ⟨b1, b2⟩) a
        · rfl
      · rfl
theorem op_breaks (h : RelR K S (T.2 55)) : OK2 S T (f_X11_breaks S za) (f_X12_breaks T za) := by
  unfold f_X11_breaks f_X12_breaks
  simp only [fb_id]
  rcases h.pro za with ⟨c1, m1⟩ | ⟨k, hk, rfl, c1, m1⟩
  · simp only [c1, m1, eq_self, ↓reduceIte]; exact ok_1 h
  · obtain ⟨k30, hs⟩ := h.stn hk
    rcases hs with ⟨s1, s2, s3, s4, s5, s6⟩ | ⟨s1, s2, -⟩
    · simp only [c1, m1, s1, s2, i10, fb_s, fl_s, ↓reduceIte, ixQ_4 k30, s18_4 k30]
      refine ok0 (K := K) ?_ ⟨⟨rfl, rfl, rfl, rfl⟩, rfl, rfl⟩ ⟨⟨rfl, rfl, rfl, rfl, rfl⟩, rfl, rfl⟩
      rw [wA_e]
      refine h.onQ (CQ.rf.wA (by decide) (by decide)) (NQ.rf.w (Or.inl (by omega))) ?_ ?_ ?_
      · rw [wA_1, pk_un (by omega)]; exact h.1.2
      · rw [wA_e]
        intro q hq
        have h1 := h.pr q hq
        by_cases e : q = k
        · subst e
          simp (disch := omega) only [pk_us, pk_un]
          refine ⟨h1.1, trivial, fun _ => ⟨fun q => absurd q (by decide), fun q => absurd q.1 (by decide)⟩, h1.2.2.2.1, h1.2.2.2.2.1, h1.2.2.2.2.2.1, ⟨2, by decide, rfl⟩, ⟨1, by decide, rfl⟩⟩
        · simp (disch := omega) only [pk_un]; exact h1
      · rw [wA_e]
        refine ⟨?_, h.ps.2.mono (h.ct 18 7 30 (by decide)).2.2 rfl (fun q hq => ⟨pk_un (by omega), pk_un (by omega)⟩) (fun q hq z => by rw [pk_un (by omega)]; exact z)⟩
        intro q hq
        by_cases e : q = k
        · subst e; rw [pk_us]; exact fun z => absurd z (by decide)
        · simp (disch := omega) only [pk_un]
          intro z1 z2
          obtain ⟨p, z3, z4, z5⟩ := h.ps.1 q hq z1 z2
          exact ⟨p, z3, z4, z5⟩
    · simp only [c1, m1, s1, s2, i10, fb_s, ↓reduceIte]; exact ok_3 h
end OP4
end
section
/-! ===== pure: promises ===== -/
section OP5
variable {K : Nat → Nat} {S T : FS} {za zb zc zd : Int32}
theorem FU_lt {k : Nat} (h : k < 5000) : k < FU := h
/-- promises alone -/
def PQ (K : Nat → Nat) (S T : FS) : Prop := K 7 ≤ 30 ∧ K 8 ≤ 2000 ∧ S.1 18 = nI (K 7) ∧ S.1 102 = nI (K 8) ∧ T.2 55 7 = nI (K 7) ∧ T.2 55 8 = nI (K 8) ∧ RPr K (S.2 19) (T.2 55)
theorem PQ.of (h : RelR K S (T.2 55)) : PQ K S T := by
  obtain ⟨k1, k2, k3⟩ := h.ct 18 7 30 (by decide)
  obtain ⟨d1, d2, d3⟩ := h.ct 102 8 2000 (by decide)
  exact ⟨k3, d3, k1, d1, k2, d2, h.pr⟩
theorem PQ.stn (h : PQ K S T) {k : Nat} (hk : k < K 7) : k < 30 ∧ ((p_X0_stands S (nI k) = 1 ∧ q_X12_stands T (nI k) = some 1 ∧ S.2 19 (5 * k + 4) = 0 ∧ T.2 55 (6 * k + 1810) = 0 ∧ T.2 55 (6 * k + 1811) = 0 ∧ ¬ T.2 55 (6 * k + 1808) < nI (K 8)) ∨ (p_X0_stands S (nI k) = 0 ∧ q_X12_stands T (nI k) = some 0 ∧ (T.2 55 (6 * k + 1808) < nI (K 8) ∨ S.2 19 (5 * k + 4) ≠ 0))) := by
  obtain ⟨c7, -, -, d1, -, d2, hr⟩ := h
  obtain ⟨⟨e0, e1, e2, e3⟩, f1, f2, -⟩ := hr k hk
  have k30 : k < 30 := by omega
  refine ⟨k30, ?_⟩
  unfold p_X0_stands q_X12_stands
  simp only [g18_4 k30, g18_2 k30, promised_4 k30, promised_5 k30, promised_2 k30, fb_s, d1, d2, e2]
  by_cases t : T.2 55 (6 * k + 1808) < nI (K 8)
  · right
    refine ⟨?_, ?_, Or.inl t⟩
    · split <;> simp only [t, ↓reduceIte]
    · split
      · split <;> simp only [t, ↓reduceIte]
      · rfl
  · have f3 := f2 t
    by_cases a : S.2 19 (5 * k + 4) = 0
    · left
      obtain ⟨b1, b2⟩ := f3.mp a
      simp only [a, b1, b2, t, ↓reduceIte]; exact ⟨trivial, trivial, trivial, trivial, trivial, fun q => q⟩
    · right
      refine ⟨by rw [if_neg a], ?_, Or.inr a⟩
      split
      · next b1 =>
        split
        · next b2 => exact absurd (f3.mpr ⟨b1, b2⟩) a
        · rfl
      · rfl
/-- one that stood ends on both sides: class e, model's columns -/
theorem PQ.lap {k : Nat} (h : PQ K S T) (hk : k < K 7) (s4 : T.2 55 (6 * k + 1810) = 0) : PQ K (wA S 19 (5 * k + 4) 1) (wA T 55 (6 * k + 1811) 1) := by
  obtain ⟨c7, c8, a1, a2, a3, a4, hr⟩ := h
  refine ⟨c7, c8, a1, a2, ?_, ?_, ?_⟩
  · rw [wA_e, pk_un (by omega)]; exact a3
  · rw [wA_e, pk_un (by omega)]; exact a4
  · rw [wA_e, wA_e]
    intro q hq
    have h1 := hr q hq
    by_cases e : q = k
    · subst e
      simp (disch := omega) only [pk_us, pk_un]
      refine ⟨h1.1, ⟨fun z => absurd z (by decide), fun z => by rw [s4] at z; exact absurd z (by decide)⟩, fun _ => ⟨fun z => absurd z (by decide), fun z => absurd z.2 (by decide)⟩, h1.2.2.2.1, h1.2.2.2.2.1, h1.2.2.2.2.2.1, ⟨1, by decide, rfl⟩, h1.2.2.2.2.2.2.2⟩
    · simp (disch := omega) only [pk_un]; exact h1
theorem PQ.lap2 {k : Nat} (h : PQ K S T) (hk : k < K 7) (hs : T.2 55 (6 * k + 1808) < nI (K 8) ∨ S.2 19 (5 * k + 4) ≠ 0) : PQ K S (wA T 55 (6 * k + 1811) 1) := by
  obtain ⟨c7, c8, a1, a2, a3, a4, hr⟩ := h
  refine ⟨c7, c8, a1, a2, ?_, ?_, ?_⟩
  · rw [wA_e, pk_un (by omega)]; exact a3
  · rw [wA_e, pk_un (by omega)]; exact a4
  · rw [wA_e]
    intro q hq
    have h1 := hr q hq
    by_cases e : q = k
    · subst e
      simp (disch := omega) only [pk_us, pk_un]
      refine ⟨h1.1, h1.2.1, fun z => ⟨fun y => ?_, fun y => absurd y.2 (by decide)⟩, h1.2.2.2⟩
      rcases hs with hs | hs
      · exact absurd hs z
      · exact absurd y hs
    · simp (disch := omega) only [pk_un]; exact h1
theorem PQ.brk {k : Nat} (h : PQ K S T) (hk : k < K 7) : PQ K (wA S 19 (5 * k + 4) 2) (wA T 55 (6 * k + 1810) 1) := by
  obtain ⟨c7, c8, a1, a2, a3, a4, hr⟩ := h
  refine ⟨c7, c8, a1, a2, ?_, ?_, ?_⟩
  · rw [wA_e, pk_un (by omega)]; exact a3
  · rw [wA_e, pk_un (by omega)]; exact a4
  · rw [wA_e, wA_e]
    intro q hq
    have h1 := hr q hq
    by_cases e : q = k
    · subst e
      simp (disch := omega) only [pk_us, pk_un]
      refine ⟨h1.1, trivial, fun _ => ⟨fun z => absurd z (by decide), fun z => absurd z.1 (by decide)⟩, h1.2.2.2.1, h1.2.2.2.2.1, h1.2.2.2.2.2.1, ⟨2, by decide, rfl⟩, ⟨1, by decide, rfl⟩⟩
    · simp (disch := omega) only [pk_un]; exact h1
/-- what stands behind a loop over promises: it stood before, and is of another person (or cause) -/
def PKp (K : Nat → Nat) (S T S' T' : FS) : Prop := ∀ k : Nat, k < K 7 → S'.2 19 (5 * k + 4) = 0 → S.2 19 (5 * k + 4) = 0
def FR (T T' : FS) : Prop := NQ 1806 1986 9 (T.2 55) (T'.2 55) ∧ MX T T' ∧ (∀ k : Nat, k < 30 → T'.2 55 (6 * k + 1806) = T.2 55 (6 * k + 1806) ∧ T'.2 55 (6 * k + 1807) = T.2 55 (6 * k + 1807) ∧ T'.2 55 (6 * k + 1808) = T.2 55 (6 * k + 1808)) ∧ T'.2 55 9 = T.2 55 9 ∧ ∀ k : Nat, k < 30 → T.2 55 (6 * k + 1811) = 1 → T'.2 55 (6 * k + 1811) = 1
theorem FR.rf : FR T T := ⟨NQ.rf, MX.rf, fun _ _ => ⟨rfl, rfl, rfl⟩, rfl, fun _ _ q => q⟩
theorem FR.w {T T' : FS} {k c : Nat} (h : FR T T') (hk : k < 30) (hc : c = 1810 ∨ c = 1811) : FR T (wA T' 55 (6 * k + c) 1) := by
  refine ⟨?_, h.2.1.tr ⟨⟨rfl, rfl, rfl, rfl, rfl⟩, rfl, rfl⟩, fun j hj => ?_, ?_, fun j hj z => ?_⟩
  · rw [wA_e]; exact h.1.w (Or.inl (by omega))
  · rw [wA_e, pk_un (by omega), pk_un (by omega), pk_un (by omega)]; exact h.2.2.1 j hj
  · rw [wA_e, pk_un (by omega)]; exact h.2.2.2.1
  · rw [wA_e]
    by_cases e : 6 * j + 1811 = 6 * k + c
    · rw [e, pk_us]
    · rw [pk_un e]; exact h.2.2.2.2 j hj z
def FC (S S' : FS) : Prop := CQ [19] 103 S S' ∧ S'.1 = S.1
theorem FC.w {S S' : FS} {j : Nat} {v : Int32} (h : FC S S') : FC S (wA S' 19 j v) := ⟨h.1.wA (by decide) (by decide), h.2⟩
theorem leave_loop {p : Nat} (hp : p < 20) : ∀ (m i : Nat) (S0 T0 S T : FS) (c : Int32), i ≤ K 7 → K 7 - i < m → PQ K S T → FC S0 S → FR T0 T → (∀ k : Nat, k < i → S.2 19 (5 * k + 4) = 0 → ¬ T.2 55 (6 * k + 1808) < nI (K 8) → T.2 55 (6 * k + 1806) ≠ nI p) →
    ∃ (S' T' : FS) (c' : Int32), PQ K S' T' ∧ FC S0 S' ∧ FR T0 T' ∧ (∀ k : Nat, k < K 7 → S'.2 19 (5 * k + 4) = 0 → S.2 19 (5 * k + 4) = 0 ∧ (¬ T'.2 55 (6 * k + 1808) < nI (K 8) → T'.2 55 (6 * k + 1806) ≠ nI p)) ∧ (∀ k, l_X0_endAllOf_14 (nI p) 1 (nI (K 7)) k m S c (nI i) = k S' c' (nI (K 7))) ∧ ∀ k, l_X12_leaves_10 (nI p) k m T (nI i) = k T' (nI (K 7)) := by
  intro m
  induction m with
  | zero => intro i S0 T0 S T c hi hm; exact absurd hm (Nat.not_lt_zero _)
  | succ m ih =>
    intro i S0 T0 S T c hi hm hq fc fr hd
    obtain ⟨c7, c8, a1, a2, a3, a4, hr⟩ := id hq
    by_cases ci : i < K 7
    · obtain ⟨i30, hs⟩ := hq.stn ci
      have e0 : S.2 19 (5 * i) = T.2 55 (6 * i + 1806) := (hr i ci).1.1
      by_cases cp : T.2 55 (6 * i + 1806) = nI p
      · rcases hs with ⟨s1, s2, s3, s4, s5, s6⟩ | ⟨s1, s2, s3⟩
        · obtain ⟨S', T', c', r1, r2, r3, r4, r5, r6⟩ := ih (i + 1) S0 T0 _ _ (c + 1) (by omega) (by omega) (hq.lap ci s4) fc.w (fr.w i30 (Or.inr rfl)) (by
            intro k hk
            rw [wA_e, wA_e]
            by_cases e : k = i
            · subst e; rw [pk_us]; exact fun z => absurd z (by decide)
            · simp (disch := omega) only [pk_un]; exact hd k (by omega))
          refine ⟨S', T', c', r1, r2, r3, fun k hk z => ?_, fun k => ?_, fun k => ?_⟩
          · obtain ⟨y1, y2⟩ := r4 k hk z
            refine ⟨?_, y2⟩
            rw [wA_e] at y1
            by_cases e : k = i
            · subst e; rw [pk_us] at y1; exact absurd y1 (by decide)
            · rw [pk_un (by omega)] at y1; exact y1
          · rw [l_X0_endAllOf_14, if_pos (nI_lt ci (by omega)), s1, if_neg (by decide), g18_0 i30, e0, if_pos cp, fl_s, s18_4 i30, nI_1]; exact r5 k
          · rw [l_X12_leaves_10, a3, if_pos (nI_lt ci (by omega)), promised_0 i30, fb_s, if_pos cp, ixQ_5 i30, fb_s, fl_s, nI_1]; exact r6 k
        · obtain ⟨S', T', c', r1, r2, r3, r4, r5, r6⟩ := ih (i + 1) S0 T0 _ _ c (by omega) (by omega) (hq.lap2 ci s3) fc (fr.w i30 (Or.inr rfl)) (by
            intro k hk
            rw [wA_e]
            by_cases e : k = i
            · subst e
              simp (disch := omega) only [pk_un]
              intro z1 z2
              rcases s3 with s3 | s3
              · exact absurd s3 z2
              · exact absurd z1 s3
            · simp (disch := omega) only [pk_un]; exact hd k (by omega))
          refine ⟨S', T', c', r1, r2, r3, r4, fun k => ?_, fun k => ?_⟩
          · rw [l_X0_endAllOf_14, if_pos (nI_lt ci (by omega)), s1, if_pos rfl, nI_1]; exact r5 k
          · rw [l_X12_leaves_10, a3, if_pos (nI_lt ci (by omega)), promised_0 i30, fb_s, if_pos cp, ixQ_5 i30, fb_s, fl_s, nI_1]; exact r6 k
      · obtain ⟨S', T', c', r1, r2, r3, r4, r5, r6⟩ := ih (i + 1) S0 T0 _ _ c (by omega) (by omega) hq fc fr (by
          intro k hk z1 z2
          by_cases e : k = i
          · subst e; exact cp
          · exact hd k (by omega) z1 z2)
        refine ⟨S', T', c', r1, r2, r3, r4, fun k => ?_, fun k => ?_⟩
        · rw [l_X0_endAllOf_14, if_pos (nI_lt ci (by omega)), g18_0 i30, e0, if_neg cp, nI_1]
          rcases hs with ⟨s1, -⟩ | ⟨s1, -⟩ <;> rw [s1]
          · rw [if_neg (by decide)]; exact r5 k
          · rw [if_pos rfl]; exact r5 k
        · rw [l_X12_leaves_10, a3, if_pos (nI_lt ci (by omega)), promised_0 i30, fb_s, if_neg cp, nI_1]; exact r6 k
    · have ei : i = K 7 := by omega
      subst ei
      refine ⟨S, T, c, hq, fc, fr, fun k hk z => ⟨z, fun y => hd k hk z y⟩, fun k => ?_, fun k => ?_⟩
      · rw [l_X0_endAllOf_14, if_neg (nI_nlt (Nat.le_refl _) (by omega))]
      · rw [l_X12_leaves_10, a3, if_neg (nI_nlt (Nat.le_refl _) (by omega))]
end OP5
end
section
/-! ===== pure: seat ===== -/
section OP6
variable {K : Nat → Nat} {S T : FS} {za zb zc zd : Int32}
def sc (n : Nat → Int32) (P : Nat) : Nat := pm_cnt (fun p => n (14 * p + 121) == 1) P
theorem pm_cnt_flip {p q : Nat → Bool} {i : Nat} (h : ∀ j : Nat, j ≠ i → p j = q j) (h1 : p i = true) (h2 : q i = false) : ∀ m : Nat, i < m → pm_cnt p m = pm_cnt q m + 1
  | 0, hm => absurd hm (Nat.not_lt_zero _)
  | m + 1, hm => by
    unfold pm_cnt
    by_cases e : i = m
    · subst e
      rw [pm_cnt_congr (q := q) (fun j hj => h j (by omega)), h1, h2]; simp
    · rw [pm_cnt_flip h h1 h2 m (by omega), h m (fun z => e z.symm)]; omega
theorem sc_1 {n : Nat → Int32} {p P : Nat} (hp : p < P) (h0 : n (14 * p + 121) = 0) : sc (upd n (14 * p + 121) 1) P = sc n P + 1 :=
  pm_cnt_flip (i := p) (fun j hj => by show ((upd n (14 * p + 121) 1) (14 * j + 121) == 1) = _; rw [pk_un (by omega)]) (by show ((upd n (14 * p + 121) 1) (14 * p + 121) == 1) = true; rw [pk_us]; rfl) (by show (n (14 * p + 121) == 1) = false; rw [h0]; rfl) P hp
theorem sc_0 {n : Nat → Int32} {p P : Nat} (hp : p < P) (h0 : n (14 * p + 121) = 1) : sc n P = sc (upd n (14 * p + 121) 0) P + 1 :=
  pm_cnt_flip (i := p) (fun j hj => by show (n (14 * j + 121) == 1) = ((upd n (14 * p + 121) 0) (14 * j + 121) == 1); rw [pk_un (by omega)]) (by show (n (14 * p + 121) == 1) = true; rw [h0]; rfl) (by show ((upd n (14 * p + 121) 0) (14 * p + 121) == 1) = false; rw [pk_us]; rfl) P hp
theorem rows_e (h : RelR K S (T.2 55)) : qRows 6 20 14 S 13 1 = some (nI (sc (T.2 55) (K 2))) := by
  obtain ⟨k1, k2, k3⟩ := h.ct 6 2 20 (by decide)
  rw [qRows_e k1 k3 (by decide)]
  refine congrArg some (congrArg nI (pm_cnt_congr (fun j hj => ?_)))
  have e := (h.pe j hj).2.1.2.2.2.2
  show (S.2 7 (j * 14 + 13) == 1) = (T.2 55 (14 * j + 121) == 1)
  rw [show j * 14 + 13 = 14 * j + 13 by omega, e]
theorem many_l {k : Int32 → Int32 → Option Int32} (h : RelR K S (T.2 55)) : ∀ (m i : Nat), i ≤ K 2 → K 2 - i < m → l_X12_seatedMany_4 T k m (nI (sc (T.2 55) i)) (nI i) = k (nI (sc (T.2 55) (K 2))) (nI (K 2)) := by
  obtain ⟨k1, k2, k3⟩ := h.ct 6 2 20 (by decide)
  intro m
  induction m with
  | zero => intro i _ hm; exact absurd hm (Nat.not_lt_zero _)
  | succ m ih =>
    intro i hi hm
    rw [l_X12_seatedMany_4, k2]
    by_cases c : i < K 2
    · rw [if_pos (nI_lt c (by omega)), man_11 (by omega), fb_s, fv_s, nI_1]
      have e : nI (sc (T.2 55) i) + T.2 55 (14 * i + 121) = nI (sc (T.2 55) (i + 1)) := by
        obtain ⟨v, hv, ev⟩ := (h.pe i c).2.2.2.2.2.2.1
        have e1 : sc (T.2 55) (i + 1) = sc (T.2 55) i + v := by
          show pm_cnt _ (i + 1) = _
          unfold pm_cnt
          rcases (show v = 0 ∨ v = 1 by omega) with rfl | rfl
          · simp only [ev]; rfl
          · simp only [ev]; rfl
        rw [ev, nI_add, e1]
      rw [e]; exact ih (i + 1) (by omega) (by omega)
    · have ei : i = K 2 := by omega
      subst ei
      rw [if_neg (nI_nlt (Nat.le_refl _) (by omega))]
theorem many_e (h : RelR K S (T.2 55)) : q_X12_seatedMany T = some (nI (sc (T.2 55) (K 2))) := by
  obtain ⟨k1, k2, k3⟩ := h.ct 6 2 20 (by decide)
  unfold q_X12_seatedMany
  exact many_l h FU 0 (Nat.zero_le _) (FU_lt (by omega))
theorem RPe.sit {f n : Nat → Int32} {p v : Nat} (h : RPe K f n) (b : K 2 ≤ 20) (hp : p < K 2) (hv : v ≤ 1) (hl : n (14 * p + 119) = -1 ∨ v = 0) : RPe K (upd f (14 * p + 13) (nI v)) (upd n (14 * p + 121) (nI v)) := by
  intro q hq
  have h1 := h q hq
  unfold PLv at h1 ⊢
  by_cases e : q = p
  · subst e
    simp (disch := omega) only [pk_us, pk_un]
    refine ⟨h1.1, ⟨h1.2.1.1, h1.2.1.2.1, h1.2.1.2.2.1, h1.2.1.2.2.2.1, trivial⟩, ?_, h1.2.2.2.1, h1.2.2.2.2.1, h1.2.2.2.2.2.1, ⟨v, hv, rfl⟩, h1.2.2.2.2.2.2.2⟩
    rcases h1.2.2.1 with a | ⟨a1, a2, a3⟩
    · exact Or.inl a
    · refine Or.inr ⟨a1, a2, ?_⟩
      rcases hl with hl | rfl
      · rw [hl] at a2; exact absurd rfl (a2.m1 (by decide)).1
      · rfl
  · simp (disch := omega) only [pk_un]; exact h1
theorem RPw.pn {f n n' : Nat → Int32} (h : RPw K f n) (b : K 3 ≤ 20) (b2 : K 2 ≤ 20) (hn : ∀ j : Nat, 390 ≤ j → j < 510 → n' j = n j) (hd : ∀ p : Nat, p < K 2 → n' (14 * p + 119) = n (14 * p + 119)) : RPw K f n' :=
  h.same b b2 rfl (Nat.le_refl _) (fun _ _ => rfl) hn (fun x hx => by
    rcases hx with hx | ⟨p, p1, p2, p3⟩
    · exact Or.inl hx
    · exact Or.inr ⟨p, p1, p2, by rw [hd p p1]; exact p3⟩)
/-- one is seated: no promise is touched -/
theorem RelR.sit {p : Nat} (h : RelR K S (T.2 55)) (hp : p < K 2) (hl : T.2 55 (14 * p + 119) = -1) (h0 : T.2 55 (14 * p + 121) = 0) (h9 : sc (T.2 55) (K 2) < 9) : RelR K (wA S 7 (14 * p + 13) 1) ((wA T 55 (14 * p + 121) 1).2 55) := by
  have c20 := (h.ct 6 2 20 (by decide)).2.2
  have c3 := (h.ct 8 3 20 (by decide)).2.2
  have c7 := (h.ct 18 7 30 (by decide)).2.2
  rw [wA_e]
  refine h.onPQ (CQ.rf.wA (by decide) (by decide)) (fun j j1 j2 j3 j4 => pk_un (by omega)) ?_ ?_ ?_ ?_ ?_ ?_ ?_
  · rw [wA_1, pk_un (by omega)]; exact h.1.2
  · rw [wA_e]; exact h.pe.sit c20 hp (Nat.le_refl 1) (Or.inl hl)
  · refine ⟨?_, h.se.2⟩
    show sc (upd (T.2 55) (14 * p + 121) 1) (K 2) ≤ 9
    rw [sc_1 hp h0]; omega
  · rw [wA_e]; exact h.st.same c20 rfl (fun q hq => pk_un (by omega)) (fun q hq => ⟨pk_un (by omega), pk_un (by omega)⟩)
  · rw [wA_n (by decide)]; exact h.pr.same c7 rfl (Nat.le_refl _) rfl (fun _ _ => rfl) (fun j j1 j2 => pk_un (by omega))
  · rw [wA_n (by decide)]
    refine ⟨?_, h.ps.2.same c7 rfl (fun j j1 j2 => pk_un (by omega))⟩
    intro k hk
    simp (disch := omega) only [pk_un]
    intro z1 z2
    obtain ⟨q, y1, y2, y3⟩ := h.ps.1 k hk z1 z2
    refine ⟨q, y1, y2, ?_⟩
    by_cases e : q = p
    · subst e; rw [pk_us]
    · rw [pk_un (by omega)]; exact y3
  · rw [wA_n (by decide)]; exact h.pw.pn c3 c20 (fun j j1 j2 => pk_un (by omega)) (fun q hq => pk_un (by omega))
/-- one leaves the council: class unseat, model leaves -/
theorem RelR.unsit {p : Nat} (h : RelR K S (T.2 55)) (hp : p < K 2) : ∃ (S' T' : FS), f_X0_unseat S (nI p) = some (0, S') ∧ f_X12_leaves T (nI p) = some (0, T') ∧ RelR K S' (T'.2 55) ∧ CX S S' ∧ MX T T' ∧ CQ [7, 19] 103 S S' ∧ S'.1 = S.1 ∧ S'.2 7 = upd (S.2 7) (14 * p + 13) 0 ∧ NQ 1806 1986 9 (upd (T.2 55) (14 * p + 121) 0) (T'.2 55) ∧ T'.2 55 9 = T.2 55 9 := by
  have c20 := (h.ct 6 2 20 (by decide)).2.2
  have c3 := (h.ct 8 3 20 (by decide)).2.2
  obtain ⟨k1, k2, c7⟩ := h.ct 18 7 30 (by decide)
  have p20 : p < 20 := by omega
  unfold f_X0_unseat f_X12_leaves f_X0_endAllOf
  rw [s6_13 p20, sets_11 p20]
  simp only [fl_s, fb_s, fv_s]
  have e18 : (wA S 7 (14 * p + 13) 0).1 18 = nI (K 7) := k1
  have hq : PQ K (wA S 7 (14 * p + 13) 0) (wA T 55 (14 * p + 121) 0) := by
    obtain ⟨c7, c8, a1, a2, a3, a4, hr⟩ := PQ.of h
    refine ⟨c7, c8, a1, a2, ?_, ?_, ?_⟩
    · rw [wA_e, pk_un (by omega)]; exact a3
    · rw [wA_e, pk_un (by omega)]; exact a4
    · rw [wA_e, wA_n (by decide)]; exact hr.same c7 rfl (Nat.le_refl _) rfl (fun _ _ => rfl) (fun j j1 j2 => pk_un (by omega))
  obtain ⟨S', T', c', r1, r2, r3, r4, r5, r6⟩ := leave_loop (K := K) p20 FU 0 _ _ _ _ 0 (Nat.zero_le _) (FU_lt (by omega)) hq ⟨CQ.rf, rfl⟩ FR.rf (fun k hk => absurd hk (Nat.not_lt_zero _))
  have r5' := r5 (fun S7 x7_3 x7_5 => some (x7_3, S7))
  have r6' := r6 (fun S10 x10_2 => some (0, S10))
  rw [e18]
  refine ⟨S', T', ?_, r6', ?_⟩
  · rw [show l_X0_endAllOf_14 (nI p) 1 (nI (K 7)) (fun S7 x7_3 x7_5 => some (x7_3, S7)) FU (wA S 7 (14 * p + 13) 0) 0 0 = some (c', S') from r5']; rfl
  obtain ⟨n1, n2, n3, n4, n5⟩ := r3
  rw [wA_e] at n1 n3 n4 n5
  have f7 : S'.2 7 = upd (S.2 7) (14 * p + 13) 0 := by
    rw [r2.1.2.2 7 (by decide) (by decide), wA_e]
  have nj : ∀ j : Nat, ¬ (1806 ≤ j ∧ j < 1986) → j ≠ 9 → T'.2 55 j = upd (T.2 55) (14 * p + 121) 0 j := fun j j1 j2 => n1 j j1 j2 j2
  have cq : CQ [7, 19] 103 S S' := by
    refine CQ.tr (CQ.rf.wA (a := 7) (j := 14 * p + 13) (v := 0) (by decide) (by decide)) ⟨r2.1.1, r2.1.2.1, fun q q1 q2 => r2.1.2.2 q q1 (fun z => q2 ?_)⟩
    rw [List.mem_singleton] at z; rw [z]; decide
  have n9 : T'.2 55 9 = T.2 55 9 := by rw [n4, pk_un (by omega)]
  refine ⟨?_, cq.1, MX.tr ⟨⟨rfl, rfl, rfl, rfl, rfl⟩, rfl, rfl⟩ n2, cq, r2.2, f7, n1, n9⟩
  refine h.onPQ cq (fun j j1 j2 j3 j4 => by rw [nj j j2 j3, pk_un (by omega)]) ?_ ?_ ?_ ?_ ?_ ?_ ?_
  · rw [r2.2, n9]; exact h.1.2
  · rw [f7]
    refine (h.pe.sit c20 hp (Nat.zero_le 1) (Or.inr rfl)).same c20 (Nat.le_refl _) rfl rfl (fun _ _ => rfl) (fun j j1 j2 => nj j (by omega) (by omega))
  · refine ⟨?_, h.se.2⟩
    have e1 : pm_cnt (fun q => T'.2 55 (14 * q + 121) == 1) (K 2) = sc (upd (T.2 55) (14 * p + 121) 0) (K 2) := pm_cnt_congr (fun j hj => by rw [nj _ (by omega) (by omega)])
    rw [e1]
    have h9 : sc (T.2 55) (K 2) ≤ 9 := h.se.1
    obtain ⟨v, hv, ev⟩ := (h.pe p hp).2.2.2.2.2.2.1
    rcases (show v = 0 ∨ v = 1 by omega) with rfl | rfl
    · rw [upd_id (show T.2 55 (14 * p + 121) = 0 from ev)]; exact h9
    · have := sc_0 hp ev; omega
  · rw [f7]; exact h.st.same c20 rfl (fun q hq => pk_un (by omega)) (fun q hq => ⟨by rw [nj _ (by omega) (by omega), pk_un (by omega)], by rw [nj _ (by omega) (by omega), pk_un (by omega)]⟩)
  · exact r1.2.2.2.2.2.2
  · refine ⟨?_, h.ps.2.mono c7 rfl (fun k hk => ⟨by rw [(n3 k hk).1, pk_un (by omega)], by rw [(n3 k hk).2.1, pk_un (by omega)]⟩) (fun k hk z => n5 k hk (by rw [pk_un (by omega)]; exact z))⟩
    intro k hk z1 z2
    obtain ⟨y1, y2⟩ := r4 k hk z1
    have y3 := y2 z2
    obtain ⟨t1, t2, t3⟩ := n3 k (by omega)
    rw [wA_n (by decide)] at y1
    rw [t3, pk_un (by omega)] at z2
    rw [t1, pk_un (by omega)] at y3 ⊢
    obtain ⟨q, x1, x2, x3⟩ := h.ps.1 k hk y1 z2
    refine ⟨q, x1, x2, ?_⟩
    have hqp : q ≠ p := fun e => y3 (by rw [x2, e])
    rw [nj _ (by omega) (by omega), pk_un (by omega)]; exact x3
  · rw [cq.2.2 9 (by decide) (by decide)]
    exact h.pw.pn c3 c20 (fun j j1 j2 => by rw [nj j (by omega) (by omega), pk_un (by omega)]) (fun q hq => by rw [nj _ (by omega) (by omega), pk_un (by omega)])
theorem op_seat (h : RelR K S (T.2 55)) (hz : zb = 0 ∨ zb = 1) : OK2 S T (f_X11_seat S za zb) (f_X12_seat T za zb) := by
  unfold f_X11_seat f_X12_seat
  simp only [fb_id]
  have c20 := (h.ct 6 2 20 (by decide)).2.2
  rcases h.per za with ⟨c1, m1⟩ | ⟨p, hp, rfl, c1, m1⟩
  · simp only [c1, m1, eq_self, ↓reduceIte]; exact ok_1 h
  · have p20 : p < 20 := by omega
    have e13 : S.2 7 (14 * p + 13) = T.2 55 (14 * p + 121) := (h.pe p hp).2.1.2.2.2.2
    obtain ⟨v, hv, ev⟩ := (h.pe p hp).2.2.2.2.2.2.1
    have i01 : ((0 : Int32) = 1) = False := eq_false (by decide)
    have h9 : sc (T.2 55) (K 2) ≤ 9 := h.se.1
    simp only [c1, m1, i10, ↓reduceIte, g6_13 p20, e13, man_11 p20, fb_s, ev, rows_e h, many_e h]
    rcases h.liv hp with ⟨l1, l2, l3⟩ | ⟨l1, l2, -, l3, l4⟩
    · simp only [l2, l3, i10, ↓reduceIte, fb_s]
      rcases (show v = 0 ∨ v = 1 by omega) with rfl | rfl
      · rcases hz with rfl | rfl
        · simp only [show nI 0 = 0 from rfl, i01, ↓reduceIte]; exact ok_3 h
        · simp only [show nI 0 = 0 from rfl, i01, ↓reduceIte]
          by_cases c9 : sc (T.2 55) (K 2) = 9
          · rw [c9, if_neg (show ¬ nI 9 < 9 by decide), if_pos (show nI 9 = 9 from rfl)]; exact ok_4 h
          · rw [if_pos (show nI (sc (T.2 55) (K 2)) < 9 from nI_lt (b := 9) (by omega) (by decide)), if_neg (fun q => c9 (nI_inj (by omega) (by decide) (q.trans (show (9 : Int32) = nI 9 from rfl)))), sets_11 p20]
            simp only [fb_s, fl_s]
            rw [s6_13 p20]
            have h' := h.sit hp l1 ev (by omega)
            rw [rows_e h', many_e h']
            simp only [fb_s]
            exact ok0 h' ⟨⟨rfl, rfl, rfl, rfl⟩, rfl, rfl⟩ ⟨⟨rfl, rfl, rfl, rfl, rfl⟩, rfl, rfl⟩
      · rcases hz with rfl | rfl
        · simp only [show nI 1 = 1 from rfl, i10, ↓reduceIte]
          obtain ⟨S', T', q1, q2, q3, q4, q5, -⟩ := h.unsit hp
          rw [q1, q2]
          simp only [fb_s]
          rw [rows_e q3, many_e q3]
          simp only [fb_s]
          exact ok0 q3 q4 q5
        · simp only [show nI 1 = 1 from rfl, i10, ↓reduceIte]; exact ok_3 h
    · simp only [l3, l4, ↓reduceIte, fb_s]
      split
      · exact ok_3 h
      · exact ok_3 h
end OP6
end
section
/-! ===== pure: debt, owed, check, count, trace ===== -/
section OP7
variable {K : Nat → Nat} {S T : FS} {za zb zc zd : Int32}
/-- sheets and voices -/
def RX (S T : FS) : Prop := (∀ s : Nat, s < 4 → (S.2 49 s = T.2 70 s ∧ S.2 50 s = T.2 71 s) ∧ nB 24 (T.2 71 s) ∧ (T.2 70 s = 0 ∨ T.2 70 s = 8 ∨ T.2 70 s = 16 ∨ T.2 70 s = 32)) ∧ (∀ j : Nat, j < 96 → S.2 52 j = T.2 72 j) ∧ S.1 115 = T.1 22 ∧ nB 40 (T.1 22) ∧ ∀ j : Nat, j < 40 → S.2 47 j = T.2 69 j
theorem RX.mono {S' T' : FS} (h : RX S T) (c : CX S S') (m : MX T T') : RX S' T' := by
  unfold RX
  rw [c.1.1, c.1.2.1, c.1.2.2.1, c.1.2.2.2, c.2.1, m.1.2.1, m.1.2.2.1, m.1.2.2.2.1, m.1.2.2.2.2, m.2.1]; exact h
theorem op_trace (h : RelR K S (T.2 55)) (hx : RX S T) : OK2 S T (f_X11_trace S za) (f_X12_trace T za) := by
  unfold f_X11_trace f_X12_trace q_X10_bodyAt
  simp only [fb_id]
  obtain ⟨-, -, e1, ⟨k, hk, e2⟩, e3⟩ := hx
  rw [e1, e2]
  rcases cnt_c za (k := k) (by omega) with ⟨a, b⟩ | ⟨j, hj, rfl, b⟩
  · rw [if_pos (b T)]
    rcases a with a | a
    · rw [if_pos a]; exact ok_2 h
    · by_cases c : za < 0
      · rw [if_pos c]; exact ok_2 h
      · rw [if_neg c, if_neg (Int32.not_lt.mpr a)]; exact ok_2 h
  · simp only [b T, i10, nI_pos (show j < 2 ^ 31 by omega), nI_lt hj (show k < 2 ^ 31 by omega), show nI j < 40 from nI_lt (b := 40) (by omega) (by decide), ix_nI (show j < 40 by omega) (by decide), ↓reduceIte, fb_s]
    rw [e3 j (by omega)]; exact okt h CX.rf MX.rf
theorem op_debt (h : RelR K S (T.2 55)) : OK2 S T (f_X11_debt S za zb zc) (f_X12_debt T za zb zc) := by
  unfold f_X11_debt f_X12_debt
  simp only [fb_id, fv_s]
  obtain ⟨k1, k2, c6⟩ := h.ct 16 6 6 (by decide)
  have c0 := (h.ct 2 0 10 (by decide)).2.2
  have c8 := (h.ct 102 8 2000 (by decide)).2.2
  rcases out_c za 0 99999 with ⟨c1, m1⟩ | ⟨c1, m1⟩
  · simp only [c1, m1, i10, ↓reduceIte]
    by_cases n0 : zb < 0
    · -- below 0 the class refuses too
      rw [if_pos n0]
      rcases out_c (zb / 10000) 0 99 with ⟨c2, m2⟩ | ⟨c2, m2⟩
      · simp only [c2, ↓reduceIte]
        have : zb - zb / 10000 * 10000 < 1 := by
          obtain ⟨q, hq, eq⟩ := out_n 0 99 rfl rfl (by decide) (by decide) c2
          rw [Int32.lt_iff_toInt_lt] at n0 ⊢
          have z0 : (0 : Int32).toInt = 0 := by decide
          have z1 : (1 : Int32).toInt = 1 := by decide
          rw [z0] at n0
          have h1 : (zb / 10000 * 10000 : Int32).toInt = (q : Int) * 10000 := by
            rw [eq, Int32.toInt_mul, nI_toInt (by omega), show (10000 : Int32).toInt = 10000 by decide]
            exact Int.bmod_eq_of_le (by omega) (by omega)
          have h2 := Int32.le_toInt zb
          have h3 : (zb / 10000 : Int32).toInt = -((-zb.toInt) / 10000) := by
            have e3 := Int.neg_tdiv (-zb.toInt) 10000
            rw [Int.neg_neg] at e3
            rw [Int32.toInt_div, show (10000 : Int32).toInt = 10000 by decide, e3, Int.tdiv_eq_ediv_of_nonneg (by omega)]
            exact Int.bmod_eq_of_le (by omega) (by omega)
          have h4 : q = 0 := by
            rw [eq, nI_toInt (by omega)] at h3
            omega
          subst h4
          rw [Int32.toInt_sub, h1, z1]
          rw [Int.bmod_eq_of_le (by omega) (by omega)]
          omega
        rw [if_pos this]; exact ok_1 h
      · simp only [c2, i10, ↓reduceIte]; exact ok_1 h
    · rw [if_neg n0]
      rcases out_c (zb / 10000) 0 99 with ⟨c2, m2⟩ | ⟨c2, m2⟩
      · simp only [c2, m2, i10, ↓reduceIte]
        obtain ⟨z, hz, ez⟩ := nI_of n0
        have e1 : zb / 10000 = nI (z / 10000) := by rw [ez]; exact pk_div (d := 10000) hz (by decide) (by decide)
        have e2 : zb - zb / 10000 * 10000 = nI (z % 10000) := by rw [ez]; exact pk_rem (d := 10000) hz (by decide) (by decide)
        rw [e2, e1]
        by_cases n1 : nI (z % 10000) < 1
        · rw [if_pos n1]
          have : p_X12_in T (nI (z % 10000)) 1 9999 = 0 := by unfold p_X12_in; rw [if_pos n1]
          rw [if_pos this]; exact ok_1 h
        · rw [if_neg n1]
          have : p_X12_in T (nI (z % 10000)) 1 9999 = 1 := by
            unfold p_X12_in
            rw [if_neg n1, if_neg]
            exact nI_nlt (a := 9999) (b := z % 10000) (by omega) (by decide)
          simp only [this, i10, ↓reduceIte]
          rcases h.twn zc with ⟨t1, t2⟩ | ⟨t, ht, rfl, t1, t2⟩
          · simp only [t1, t2, ↓reduceIte]; exact ok_1 h
          · simp only [t1, t2, i10, ↓reduceIte]
            by_cases c : K 6 = 6
            · rw [fFull_t k1 (by omega) (by omega), k2, if_neg (by decide), if_pos (by rw [c]; rfl)]; exact ok_4 h
            · rw [fFull_f k1 (by omega) (by decide), if_pos rfl, k2, if_neg (fun q => c (nI_inj (by omega) (by decide) (q.trans (show (6 : Int32) = nI 6 from rfl))))]
              have d6 : K 6 < 6 := by omega
              unfold f_X7_addDebt
              rw [fApp_f k1 d6 (by decide)]
              simp only [fb_s, fl_s, nI_1, ixD_0 d6, ixD_1 d6, ixD_2 d6, ixD_3 d6, ixD_4 d6, s16_1 d6, s16_2 d6, s16_3 d6, wA_1, wA_e]
              have e9 : upd (upd (upd (upd (upd (upd (T.2 55) 6 (nI (K 6 + 1))) (6 * K 6 + 1770) za) (6 * K 6 + 1771) (nI (z / 10000))) (6 * K 6 + 1772) (nI (z % 10000))) (6 * K 6 + 1773) 0) (6 * K 6 + 1774) (nI t) 9 = S.1 103 := by
                simp (disch := omega) only [pk_un]; exact h.1.2.symm
              have e93 : ui S.1 16 (nI (K 6 + 1)) 103 = S.1 103 := rfl
              rw [e9, e93]
              refine okt (K := kU K 6 (K 6 + 1)) ?_ ⟨⟨rfl, rfl, rfl, rfl⟩, rfl, rfl⟩ ⟨⟨rfl, rfl, rfl, rfl, rfl⟩, rfl, rfl⟩
              simp only [wA_e]
              refine h.onD_6 (((((CQ.rf.app (by decide) (by decide) (by decide) (by decide)).wA (by decide) (by decide)).wA (by decide) (by decide)).wA (by decide) (by decide)).wI (Or.inl rfl) (by decide) (by decide)) (((((((NQ.rf.w (Or.inr (Or.inr rfl))).w (Or.inl (by omega))).w (Or.inl (by omega))).w (Or.inl (by omega))).w (Or.inl (by omega))).w (Or.inl (by omega))).w (Or.inr (Or.inl rfl))) (fun i hi => kU_n hi) (by rw [kU_e]; omega) ?_ (onct 16 6 6 (by decide) ?_ ?_ (by rw [kU_e]; omega)) ?_
              · rw [wI_e, pk_us]
              · rw [kU_e]; rfl
              · rw [kU_e]; simp (disch := omega) only [pk_un, pk_us]
              · rw [wI_2]
                simp only [wA_e, ua_eq]
                intro d hd
                rw [kU_e] at hd
                rw [kU_n (show (0 : Nat) ≠ 6 by decide), kU_n (show (8 : Nat) ≠ 6 by decide)]
                by_cases e : d = K 6
                · subst e
                  simp (disch := omega) only [pk_us, pk_un, apf_0, apf_c]
                  exact ⟨⟨trivial, trivial, trivial, trivial, trivial⟩, t, 0, ht, rfl, Nat.zero_le _, rfl, fun q => absurd q (by decide)⟩
                · obtain ⟨g1, t', m, g2, g3, g4, g5, g6⟩ := h.de d (by omega)
                  simp (disch := omega) only [pk_un, apf_o]
                  refine ⟨g1, t', m, g2, g3, g4, g5, fun q => ?_⟩
                  simp (disch := omega) only [pk_un]; exact g6 q
      · simp only [c2, m2, i10, ↓reduceIte]; exact ok_1 h
  · simp only [c1, m1, i10, ↓reduceIte]; exact ok_1 h
theorem owed_l {k : FS → Int32 → Int32 → Option (Int32 × FS)} (h : RelR K S (T.2 55)) (x : Int32) : ∀ (m i : Nat), i ≤ K 6 → K 6 - i < m → l_X12_owed_122 x k m T (nI (pm_cnt (fun r => T.2 55 (6 * r + 1774) == x) i)) (nI i) = k T (nI (pm_cnt (fun r => T.2 55 (6 * r + 1774) == x) (K 6))) (nI (K 6)) := by
  obtain ⟨k1, k2, k3⟩ := h.ct 16 6 6 (by decide)
  intro m
  induction m with
  | zero => intro i _ hm; exact absurd hm (Nat.not_lt_zero _)
  | succ m ih =>
    intro i hi hm
    rw [l_X12_owed_122, k2]
    by_cases c : i < K 6
    · rw [if_pos (nI_lt c (by omega)), ixD_4 (by omega), fb_s]
      have e := ih (i + 1) (by omega) (by omega)
      rw [show pm_cnt (fun r => T.2 55 (6 * r + 1774) == x) (i + 1) = pm_cnt (fun r => T.2 55 (6 * r + 1774) == x) i + (if (T.2 55 (6 * i + 1774) == x) = true then 1 else 0) from rfl] at e
      by_cases c2 : T.2 55 (6 * i + 1774) = x
      · rw [if_pos c2, fv_s, nI_1, nI_1]
        rw [if_pos (by rw [c2]; exact beq_self_eq_true x)] at e; exact e
      · rw [if_neg c2, fv_s, nI_1, Int32.add_zero]
        rw [if_neg (by rw [beq_iff_eq]; exact c2), Nat.add_zero] at e; exact e
    · have ei : i = K 6 := by omega
      subst ei
      rw [if_neg (nI_nlt (Nat.le_refl _) (by omega))]
theorem op_owed (h : RelR K S (T.2 55)) : OK2 S T (f_X11_owed S za zb) (f_X12_owed T za zb) := by
  unfold f_X11_owed f_X12_owed
  simp only [fb_id]
  obtain ⟨k1, k2, c6⟩ := h.ct 16 6 6 (by decide)
  have c0 := (h.ct 2 0 10 (by decide)).2.2
  rcases h.deb za with ⟨c1, m1⟩ | ⟨d, hd, rfl, c1, m1⟩
  · simp only [c1, m1, eq_self, ↓reduceIte]; exact ok_1 h
  · have d6 : d < 6 := by omega
    obtain ⟨⟨e0, e1, e2, e3, e4⟩, t, m, t1, t2, -⟩ := h.de d hd
    have t10 : t < 10 := by omega
    have ef := (h.tw t t1).1.2.2
    simp only [c1, m1, i10, ↓reduceIte, ixD_4 d6, fb_s, fv_s, g16_3 d6, g16_0 d6, g16_4 d6, ixD_0 d6, ixD_3 d6, e3, e0, e4, t2, g2_2 t10, ixT_2 t10, ef]
    by_cases b0 : zb = 0
    · simp only [b0, ↓reduceIte]; exact ok0 h CX.rf MX.rf
    · by_cases b1 : zb = 1
      · simp only [b0, b1, ↓reduceIte]; exact ok0 h CX.rf MX.rf
      · by_cases b2 : zb = 2
        · simp only [b0, b1, b2, ↓reduceIte]; exact ok0 h CX.rf MX.rf
        · by_cases b3 : zb = 3
          · simp only [b0, b1, b2, b3, ↓reduceIte]
            have hl := owed_l (k := fun S17 x17_4 x17_5 => some (x17_4, S17)) h (nI t) FU 0 (Nat.zero_le _) (FU_lt (by omega))
            rw [show l_X12_owed_122 (nI t) (fun S17 x17_4 x17_5 => some (x17_4, S17)) FU T 0 0 = _ from hl, qRows_e k1 c6 (by decide), fb_s]
            have ec : pm_cnt (fun r => S.2 17 (r * 5 + 3) == nI t) (K 6) = pm_cnt (fun r => T.2 55 (6 * r + 1774) == nI t) (K 6) := pm_cnt_congr (fun j hj => by
              have := (h.de j hj).1.2.2.2.1
              show (S.2 17 (j * 5 + 3) == nI t) = (T.2 55 (6 * j + 1774) == nI t)
              rw [show j * 5 + 3 = 5 * j + 3 by omega, this])
            rw [show pm_cnt (fun r => S.2 (16 + 1) (r * 5 + 3) == nI t) (K 6) = _ from ec]
            exact ok0 h CX.rf MX.rf
          · simp only [b0, b1, b2, b3, ↓reduceIte]; exact ok_1 h
end OP7
end
section
/-! ===== pure: ways ===== -/
/-! ===== findDays ===== -/
def dW (v : Int32) : Nat := if v = -1 then 100 else v.toNatClampNeg
def dMu (f : Nat → Int32) : Nat → Nat
  | 0 => 0
  | k + 1 => dMu f k + dW (f k)
def dU (f : Nat → Int32) : Nat → Nat
  | 0 => 0
  | k + 1 => dU f k + if f k = -1 then 1 else 0
theorem dMu_out {f : Nat → Int32} {b : Nat} {v : Int32} : ∀ k : Nat, k ≤ b → dMu (upd f b v) k = dMu f k
  | 0, _ => rfl
  | k + 1, h => by unfold dMu; rw [dMu_out k (by omega), pk_un (by omega)]
theorem dU_out {f : Nat → Int32} {b : Nat} {v : Int32} : ∀ k : Nat, k ≤ b → dU (upd f b v) k = dU f k
  | 0, _ => rfl
  | k + 1, h => by unfold dU; rw [dU_out k (by omega), pk_un (by omega)]
theorem dMu_upd {f : Nat → Int32} {b : Nat} {v : Int32} : ∀ k : Nat, b < k → dMu (upd f b v) k + dW (f b) = dMu f k + dW v
  | 0, h => absurd h (Nat.not_lt_zero _)
  | k + 1, h => by
    unfold dMu
    by_cases e : b = k
    · subst e; rw [dMu_out b (Nat.le_refl _), pk_us]; omega
    · have ih := dMu_upd (f := f) (b := b) (v := v) k (by omega)
      rw [pk_un (by omega)]; omega
theorem dU_upd {f : Nat → Int32} {b : Nat} {v : Int32} : ∀ k : Nat, b < k → dU (upd f b v) k + (if f b = -1 then 1 else 0) = dU f k + if v = -1 then 1 else 0
  | 0, h => absurd h (Nat.not_lt_zero _)
  | k + 1, h => by
    unfold dU
    by_cases e : b = k
    · subst e; rw [dU_out b (Nat.le_refl _), pk_us]; omega
    · have ih := dU_upd (f := f) (b := b) (v := v) k (by omega)
      rw [pk_un (by omega)]; omega
def dOK (f : Nat → Int32) : Prop := ∀ t : Nat, t < 10 → f t = -1 ∨ ∃ q : Nat, f t = nI q ∧ q + 9 * dU f 10 ≤ 81
theorem dOK.one {f : Nat → Int32} {b a d : Nat} (h : dOK f) (hb : b < 10) (e : f b = -1) (hd : d ≤ a + 9) (ha : a + 9 * dU f 10 ≤ 81) : dOK (upd f b (nI d)) ∧ dMu (upd f b (nI d)) 10 < dMu f 10 := by
  have hu := dU_upd (f := f) (v := nI d) 10 hb
  have hm := dMu_upd (f := f) (v := nI d) 10 hb
  have hn : ¬ nI d = -1 := nI_m1 (by omega)
  rw [if_pos e, if_neg hn] at hu
  have w1 : dW (f b) = 100 := by unfold dW; rw [if_pos e]
  have w2 : dW (nI d) = d := by unfold dW; rw [if_neg hn, nI_clamp (by omega)]
  refine ⟨fun t ht => ?_, by omega⟩
  by_cases et : t = b
  · subst et; right; rw [pk_us]; exact ⟨d, rfl, by omega⟩
  · rw [pk_un et]
    rcases h t ht with q | ⟨q, q1, q2⟩
    · exact Or.inl q
    · exact Or.inr ⟨q, q1, by omega⟩
theorem dOK.two {f : Nat → Int32} {b c d : Nat} (h : dOK f) (hb : b < 10) (e : f b = nI c) (hc : c + 9 * dU f 10 ≤ 81) (hd : d < c) : dOK (upd f b (nI d)) ∧ dMu (upd f b (nI d)) 10 < dMu f 10 := by
  have hu := dU_upd (f := f) (v := nI d) 10 hb
  have hm := dMu_upd (f := f) (v := nI d) 10 hb
  have hn : ¬ nI d = -1 := nI_m1 (by omega)
  have hn2 : ¬ f b = -1 := by rw [e]; exact nI_m1 (by omega)
  rw [if_neg hn2, if_neg hn] at hu
  have w1 : dW (f b) = c := by unfold dW; rw [if_neg hn2, e, nI_clamp (by omega)]
  have w2 : dW (nI d) = d := by unfold dW; rw [if_neg hn, nI_clamp (by omega)]
  refine ⟨fun t ht => ?_, by omega⟩
  by_cases et : t = b
  · subst et; right; rw [pk_us]; exact ⟨d, rfl, by omega⟩
  · rw [pk_un et]
    rcases h t ht with q | ⟨q, q1, q2⟩
    · exact Or.inl q
    · exact Or.inr ⟨q, q1, by omega⟩
/-- at the start: one 0 at most -/
def dInit (f : Nat → Int32) (x : Int32) (i : Nat) : Prop := ∀ t : Nat, t < i → f t = if nI t = x then nI 0 else -1
theorem dInit.nil {f : Nat → Int32} {x : Int32} : dInit f x 0 := fun _ h => absurd h (Nat.not_lt_zero _)
theorem dInit.step {f g : Nat → Int32} {x v : Int32} {i : Nat} (h : dInit f x i) (e : g = upd f i v) (hv : v = if nI i = x then nI 0 else -1) : dInit g x (i + 1) := by
  intro t ht
  rw [e]
  by_cases et : t = i
  · subst et; rw [pk_us]; exact hv
  · rw [pk_un et]; exact h t (by omega)
theorem dU_ge {f : Nat → Int32} {x : Int32} : ∀ k : Nat, k < 2 ^ 31 → dInit f x k → k ≤ dU f k + 1 ∧ ((∀ t : Nat, t < k → ¬ nI t = x) → k ≤ dU f k)
  | 0, _, _ => ⟨by omega, fun _ => Nat.le_refl _⟩
  | k + 1, hk, h => by
    have ih := dU_ge (f := f) (x := x) k (by omega) (fun t ht => h t (by omega))
    have hl := h k (by omega)
    unfold dU
    by_cases e : nI k = x
    · rw [if_pos e] at hl
      have h0 : ∀ t : Nat, t < k → ¬ nI t = x := fun t ht q => by
        have := nI_inj (a := t) (b := k) (by omega) (by omega) (q.trans e.symm); omega
      have := ih.2 h0
      refine ⟨by omega, fun q => absurd e (q k (by omega))⟩
    · rw [if_neg e] at hl
      rw [if_pos hl]
      refine ⟨by omega, fun q => ?_⟩
      have := ih.2 (fun t ht => q t (by omega)); omega
theorem dU_le {f : Nat → Int32} : ∀ k : Nat, dU f k ≤ k
  | 0 => Nat.le_refl _
  | k + 1 => by
    have := dU_le (f := f) k
    unfold dU; split <;> omega
theorem dU_lt {f : Nat → Int32} {t : Nat} (ht : t < 10) (h : ¬ f t = -1) : dU f 10 ≤ 9 := by
  have h1 : ∀ k : Nat, t < k → dU f k + 1 ≤ k := by
    intro k hk
    induction hk with
    | refl => unfold dU; rw [if_neg h]; have := dU_le (f := f) t; omega
    | step _ ih => unfold dU; split <;> omega
  have := h1 10 ht
  omega
theorem dInit.ok {f : Nat → Int32} {x : Int32} (h : dInit f x 10) : dOK f := by
  intro t ht
  have h1 := h t ht
  by_cases e : nI t = x
  · rw [if_pos e] at h1
    exact Or.inr ⟨0, h1, by
      have := dU_lt (f := f) ht (by rw [h1]; exact nI_m1 (by decide))
      omega⟩
  · rw [if_neg e] at h1; exact Or.inl h1
/-- a road's side is settled -/
def SS (f n : Nat → Int32) (r s : Nat) : Prop := ∀ q : Nat, q ≤ 81 → f (nv n (3 * r + 50 + s)) = nI q → ∃ p : Nat, p ≤ q + nv n (3 * r + 52) ∧ p ≤ 81 ∧ f (nv n (3 * r + 51 - s)) = nI p
theorem SS.a {f n : Nat → Int32} {r s e k : Nat} (ea : n e = nI k) (he : e = 3 * r + 50 + s) (hk : k < 10) (ef : f k = -1) : SS f n r s := by
  intro q hq h
  rw [← he, nv_of ea (by omega), ef] at h
  exact absurd h.symm (nI_m1 (by omega))
theorem SS.b {f n : Nat → Int32} {r s e e' k k' w a b : Nat} (ea : n e = nI k) (he : e = 3 * r + 50 + s) (hk : k < 10) (eb : n e' = nI k') (he' : e' = 3 * r + 51 - s) (hk' : k' < 10) (ew : n (3 * r + 52) = nI w) (hw : w < 10) (efa : f k = nI a) (efb : f k' = nI b) (ha : a ≤ 81) (hb : b ≤ 81) (h : b ≤ a + w) : SS f n r s := by
  intro q hq h2
  rw [← he, nv_of ea (by omega), efa] at h2
  have e1 := nI_inj (by omega) (by omega) h2
  refine ⟨b, ?_, hb, ?_⟩
  · rw [nv_of ew (by omega)]; omega
  · rw [← he', nv_of eb (by omega)]; exact efb
theorem dOK.le {f : Nat → Int32} {t d : Nat} (h : dOK f) (ht : t < 10) (e : f t = nI d) (hd : d < 2 ^ 31) : d ≤ 81 := by
  rcases h t ht with q | ⟨q, q1, q2⟩
  · exact absurd (e.symm.trans q) (nI_m1 hd)
  · have := nI_inj hd (by omega) (e.symm.trans q1)
    omega
def DP (f n : Nat → Int32) (m c : Nat) : Prop := ∀ P : Nat → Nat, P c = 0 → FE n m P → ∀ t q : Nat, t < 10 → q ≤ 81 → f t = nI q → P t ≤ q
theorem DP.ini {f n : Nat → Int32} {m c : Nat} (h : dInit f (nI c) 10) (hc : c < 10) : DP f n m c := by
  intro P h0 _ t q ht hq e
  have h1 := h t ht
  by_cases z : nI t = nI c
  · rw [nI_inj (by omega) (by omega) z, h0]; omega
  · rw [if_neg z, e] at h1
    exact absurd h1 (nI_m1 (by omega))
theorem dInit.c0 {f : Nat → Int32} {c : Nat} (h : dInit f (nI c) 10) (hc : c < 10) : f c = nI 0 := by
  have h1 := h c hc
  rw [if_pos rfl] at h1; exact h1
theorem DP.w {f f' n : Nat → Int32} {m c r s e e' k k' w a d : Nat} (h : DP f n m c) (ef' : f' = upd f k' (nI d)) (hr : r < m) (hs : s < 2) (ea : n e = nI k) (he : e = 3 * r + 50 + s) (hk : k < 10) (eb : n e' = nI k') (he' : e' = 3 * r + 51 - s) (hk' : k' < 10) (ew : n (3 * r + 52) = nI w) (hw : w < 10) (efa : f k = nI a) (ha : a ≤ 81) (hd : d = a + w) (hd2 : d ≤ 81) : DP f' n m c := by
  intro P h0 hF t q ht hq e1
  rw [ef'] at e1
  by_cases z : t = k'
  · subst z
    rw [pk_us] at e1
    have e2 := nI_inj (by omega) (by omega) e1
    have h2 := h P h0 hF k a hk ha efa
    have h3 := hF r hr
    have x0 := nv_of ew (show w < 2 ^ 31 by omega)
    rcases (show s = 0 ∨ s = 1 by omega) with rfl | rfl
    · rw [show e = 3 * r + 50 by omega] at ea
      rw [show e' = 3 * r + 51 by omega] at eb
      rw [nv_of ea (by omega), nv_of eb (by omega), x0] at h3
      omega
    · rw [show e = 3 * r + 51 by omega] at ea
      rw [show e' = 3 * r + 50 by omega] at eb
      rw [nv_of ea (by omega), nv_of eb (by omega), x0] at h3
      omega
  · rw [pk_un z] at e1; exact h P h0 hF t q ht hq e1
theorem c0_n {f f' : Nat → Int32} {c k d : Nat} (h : f c = nI 0) (ef' : f' = upd f k (nI d)) (e : f k = -1) : f' c = nI 0 := by
  rw [ef', pk_un]; exact h
  intro z; subst z
  exact absurd (h.symm.trans e) (nI_m1 (by omega))
theorem c0_y {f f' : Nat → Int32} {c k d b : Nat} (h : f c = nI 0) (ef' : f' = upd f k (nI d)) (e : f k = nI b) (hb : b < 2 ^ 31) (hd : d < b) : f' c = nI 0 := by
  rw [ef', pk_un]; exact h
  intro z; subst z
  have := nI_inj (by omega) hb (h.symm.trans e)
  omega
theorem FX.of {f n : Nat → Int32} {m c : Nat} (h1 : dOK f) (h2 : f c = nI 0) (h3 : ∀ r : Nat, r < m → SS f n r 0 ∧ SS f n r 1) (h4 : DP f n m c) : FX f n m c := by
  refine ⟨fun t ht => ?_, h2, fun r hr q hq => ⟨fun e => ?_, fun e => ?_⟩, h4⟩
  · rcases h1 t ht with e | ⟨q, e, hq⟩
    · exact Or.inl e
    · exact Or.inr ⟨q, by omega, e⟩
  · exact (h3 r hr).1 q hq e
  · exact (h3 r hr).2 q hq e
/-! ===== a new road, step by step ===== -/
def JI (T C : Nat → Int32) (u a b d i j : Nat) : Prop := WV C ∧ (∀ p q : Nat, p < 10 → q < 10 → ¬ (p < u ∧ q < u) → tv C p q = tv T p q) ∧ (∀ p q : Nat, p < u → q < u → tv C p q ≤ tv T p q ∧ ((p < i ∨ (p = i ∧ q < j)) → tv C p q ≤ tv T p a + d + tv T b q ∧ tv C p q ≤ tv T p b + d + tv T a q)) ∧ ∀ N : Nat → Nat → Nat, (∀ p q : Nat, p < u → q < u → N p q ≤ tv T p q) → (∀ p q : Nat, p < u → q < u → N p q ≤ N p a + d + N b q ∧ N p q ≤ N p b + d + N a q) → ∀ p q : Nat, p < u → q < u → N p q ≤ tv C p q
theorem JI.nil {T : Nat → Int32} {u a b d : Nat} (h : WV T) : JI T T u a b d 0 0 := ⟨h, fun _ _ _ _ _ => rfl, fun _ _ _ _ => ⟨Nat.le_refl _, fun q => by omega⟩, fun _ h1 _ => h1⟩
theorem JI.row {T C : Nat → Int32} {u a b d i : Nat} (h : JI T C u a b d i u) : JI T C u a b d (i + 1) 0 := by
  obtain ⟨h1, h2, h3, h4⟩ := h
  exact ⟨h1, h2, fun p q hp hq => ⟨(h3 p q hp hq).1, fun c => (h3 p q hp hq).2 (by omega)⟩, h4⟩
theorem JI.fin {T C : Nat → Int32} {u a b d : Nat} (h : JI T C u a b d u 0) : JP T C u a b d := by
  obtain ⟨h1, h2, h3, h4⟩ := h
  exact ⟨h1, h2, fun p q hp hq => ⟨(h3 p q hp hq).1, (h3 p q hp hq).2 (Or.inl hp)⟩, h4⟩
def mC (C : Nat → Int32) (a b d i j : Nat) : Nat := min (tv C i j) (min (tv C i a + d + tv C b j) (tv C i b + d + tv C a j))
theorem tv_u {C : Nat → Int32} {i j p q v : Nat} (hj : j < 10) (hq : q < 10) (hv : v ≤ 1000) : tv (upd C (i * 10 + j) (nI v)) p q = if p = i ∧ q = j then v else tv C p q := by
  unfold tv
  by_cases c : p = i ∧ q = j
  · rw [if_pos c, c.1, c.2, pk_us]; exact nI_clamp (by omega)
  · rw [if_neg c, pk_un (by omega)]
theorem JI.step {T C : Nat → Int32} {u a b d i j : Nat} (h : JI T C u a b d i j) (hu : u ≤ 10) (ha : a < u) (hb : b < u) (hi : i < u) (hj : j < u) : JI T (upd C (i * 10 + j) (nI (mC C a b d i j))) u a b d i (j + 1) := by
  obtain ⟨h1, h2, h3, h4⟩ := h
  have hle := (h1.at (i := i) (j := j) (by omega) (by omega)).2
  have hm : mC C a b d i j ≤ tv C i j ∧ mC C a b d i j ≤ tv C i a + d + tv C b j ∧ mC C a b d i j ≤ tv C i b + d + tv C a j ∧ (mC C a b d i j = tv C i j ∨ mC C a b d i j = tv C i a + d + tv C b j ∨ mC C a b d i j = tv C i b + d + tv C a j) := by
    unfold mC; omega
  have e : ∀ p q : Nat, q < 10 → tv (upd C (i * 10 + j) (nI (mC C a b d i j))) p q = if p = i ∧ q = j then mC C a b d i j else tv C p q := fun p q hq => tv_u (by omega) hq (by omega)
  refine ⟨fun k hk => ?_, fun p q hp hq c => ?_, fun p q hp hq => ?_, fun N n1 n2 p q hp hq => ?_⟩
  · by_cases c : k = i * 10 + j
    · subst c; rw [pk_us]; exact ⟨_, by omega, rfl⟩
    · rw [pk_un c]; exact h1 k hk
  · rw [e p q hq, if_neg (by omega)]; exact h2 p q hp hq c
  · rw [e p q (by omega)]
    have y := h3 p q hp hq
    by_cases c : p = i ∧ q = j
    · rw [if_pos c, c.1, c.2]
      have z1 := (h3 i a hi ha).1
      have z2 := (h3 b j hb hj).1
      have z3 := (h3 i b hi hb).1
      have z4 := (h3 a j ha hj).1
      have z5 := (h3 i j hi hj).1
      exact ⟨by omega, fun _ => ⟨by omega, by omega⟩⟩
    · rw [if_neg c]
      exact ⟨y.1, fun c2 => y.2 (by omega)⟩
  · rw [e p q (by omega)]
    by_cases c : p = i ∧ q = j
    · rw [if_pos c, c.1, c.2]
      have y := h4 N n1 n2
      have z0 := n2 i j hi hj
      have z1 := y i a hi ha
      have z2 := y b j hb hj
      have z3 := y i b hi hb
      have z4 := y a j ha hj
      have z5 := y i j hi hj
      omega
    · rw [if_neg c]; exact h4 N n1 n2 p q hp hq
theorem mmN {A B : Nat} (hA : A < 2 ^ 31) (hB : B < 2 ^ 31) : (if nI B < nI A then nI B else nI A) = nI (min A B) := by
  by_cases c : B < A
  · rw [if_pos ((nI_ltI hB hA).mpr c)]; exact congrArg nI (by omega)
  · rw [if_neg (fun q => c ((nI_ltI hB hA).mp q))]; exact congrArg nI (by omega)

section WAY
variable {K : Nat → Nat} {S T : FS} {za zb zc zd : Int32}
def E58 (T T' : FS) : Prop := T'.1 = T.1 ∧ ∀ a : Nat, a ≠ 58 → T'.2 a = T.2 a
theorem E58.rf : E58 T T := ⟨rfl, fun _ _ => rfl⟩
theorem E58.tr {A B C : FS} (h : E58 A B) (g : E58 B C) : E58 A C := ⟨g.1.trans h.1, fun a ha => (g.2 a ha).trans (h.2 a ha)⟩
theorem E58.w {j : Nat} {v : Int32} : E58 T (wA T 58 j v) := ⟨rfl, fun _ ha => wA_n ha⟩
theorem E58.me {T' : FS} (h : E58 T T') : ME T T' := ⟨⟨⟨h.2 _ (by decide), h.2 _ (by decide), h.2 _ (by decide), h.2 _ (by decide), h.2 _ (by decide)⟩, by rw [h.1], by rw [h.1]⟩, h.2 _ (by decide)⟩
def DI (n : Nat → Int32) (m c : Nat) (f : Nat → Int32) : Prop := dOK f ∧ f c = nI 0 ∧ DP f n m c
theorem dOK.at {f : Nat → Int32} (h : dOK f) {t : Nat} (ht : t < 10) : f t = -1 ∨ ∃ q : Nat, f t = nI q ∧ q + 9 * dU f 10 ≤ 81 := h t ht
/-- one side of one road -/
theorem fd_side {n : Nat → Int32} {m c r s : Nat} (hn : T.2 55 = n) (hb : RB n m) (hm : m ≤ 20) (hr : r < m) (hs : s < 2) (hd : DI n m c (T.2 58)) (x : Int32) :
    ∃ (T' : FS) (x' : Int32), E58 T T' ∧ DI n m c (T'.2 58) ∧ ((T' = T ∧ x' = x ∧ SS (T.2 58) n r s) ∨ (x' = 1 ∧ dMu (T'.2 58) 10 < dMu (T.2 58) 10)) ∧ ∀ k g, l_X12_findDays_53 (nI r) k (g + 1) T x (nI s) = l_X12_findDays_53 (nI r) k g T' x' (nI (s + 1)) := by
  obtain ⟨h1, h2, h3⟩ := hd
  obtain ⟨⟨b1, b2⟩, b3, b4, b5, b6⟩ := hb r hr
  have x1 : ix 2071 ((50 + 3 * nI r) + nI s) = some (3 * r + 50 + s) := ix_lin (b := 50) (s := 3) (by omega) (by omega) (by decide)
  have x2 : ix 2071 (((50 + 3 * nI r) + 1) - nI s) = some (3 * r + 51 - s) := by
    rw [show ((50 : Int32) + 3 * nI r) + 1 = nI (3 * r + 51) by
      rw [show (3 : Int32) = nI 3 from rfl, show (50 : Int32) = nI 50 from rfl, pk_mul, nI_add, nI_1]; exact congrArg nI (by omega), pk_sub (by omega)]
    exact ix_nI (by omega) (by decide)
  have x3 : ix 2071 ((50 + 3 * nI r) + 2) = some (3 * r + 52) := ix_lin (b := 50) (s := 3) (c := 2) (by omega) (by omega) (by decide)
  -- the two ends
  obtain ⟨A, B, hA, hB, eA, eB⟩ : ∃ A B : Nat, A < 10 ∧ B < 10 ∧ n (3 * r + 50 + s) = nI A ∧ n (3 * r + 51 - s) = nI B := by
    rcases (show s = 0 ∨ s = 1 by omega) with rfl | rfl
    · exact ⟨_, _, b1, b2, b4, b5⟩
    · exact ⟨_, _, b2, b1, b5, b4⟩
  generalize hw : nv n (3 * r + 52) = w at b3 b6
  have go : ∀ k g, l_X12_findDays_53 (nI r) k (g + 1) T x (nI s) = (if T.2 58 A < 0 then l_X12_findDays_53 (nI r) k g T x (nI (s + 1)) else if T.2 58 B < 0 then l_X12_findDays_53 (nI r) k g (wA T 58 B (T.2 58 A + nI w)) 1 (nI (s + 1)) else if T.2 58 A + nI w < T.2 58 B then l_X12_findDays_53 (nI r) k g (wA T 58 B (T.2 58 A + nI w)) 1 (nI (s + 1)) else l_X12_findDays_53 (nI r) k g T x (nI (s + 1))) := by
    intro k g
    rw [l_X12_findDays_53, if_pos (show nI s < 2 from nI_lt hs (by decide)), x1]
    simp only [fb_s, fv_s, x2, x3, hn, eA, eB, b6, ix_nI hA (by decide), ix_nI hB (by decide), fl_s, nI_1]
  rcases h1.at hA with ea | ⟨a, ea, ha⟩
  · refine ⟨T, x, E58.rf, ⟨h1, h2, h3⟩, Or.inl ⟨rfl, rfl, SS.a eA rfl hA ea⟩, fun k g => ?_⟩
    rw [go, ea, if_pos (by decide)]
  · have na : ¬ nI a < 0 := nI_pos (by omega)
    have su : nI a + nI w = nI (a + w) := nI_add a w
    rcases h1.at hB with eb | ⟨b, eb, hb'⟩
    · have o := h1.one (d := a + w) hB eb (by omega) ha
      have hu : dU (T.2 58) 10 ≥ 1 := by
        have := dU_upd (f := T.2 58) (v := nI (a + w)) 10 hB
        rw [if_pos eb, if_neg (nI_m1 (by omega))] at this
        omega
      refine ⟨wA T 58 B (nI (a + w)), 1, E58.w, ?_, Or.inr ⟨rfl, ?_⟩, fun k g => ?_⟩
      · rw [wA_e]
        exact ⟨o.1, c0_n h2 rfl eb, h3.w rfl hr hs eA rfl hA eB rfl hB b6 b3 ea (by omega) rfl (by omega)⟩
      · rw [wA_e]; exact o.2
      · rw [go, ea, if_neg na, eb, if_pos (by decide), su]
    · by_cases c1 : a + w < b
      · have o := h1.two (d := a + w) hB eb hb' c1
        refine ⟨wA T 58 B (nI (a + w)), 1, E58.w, ?_, Or.inr ⟨rfl, ?_⟩, fun k g => ?_⟩
        · rw [wA_e]
          exact ⟨o.1, c0_y h2 rfl eb (by omega) c1, h3.w rfl hr hs eA rfl hA eB rfl hB b6 b3 ea (by omega) rfl (by omega)⟩
        · rw [wA_e]; exact o.2
        · rw [go, ea, if_neg na, eb, if_neg (nI_pos (by omega)), su, if_pos (nI_lt c1 (by omega))]
      · refine ⟨T, x, E58.rf, ⟨h1, h2, h3⟩, Or.inl ⟨rfl, rfl, SS.b eA rfl hA eB rfl hB b6 b3 ea eb (by omega) (by omega) (by omega)⟩, fun k g => ?_⟩
        rw [go, ea, if_neg na, eb, if_neg (nI_pos (by omega)), su, if_neg (nI_nlt (by omega) (by omega))]
theorem fd_road {n : Nat → Int32} {m c r : Nat} (hn : T.2 55 = n) (hb : RB n m) (hm : m ≤ 20) (hr : r < m) (hd : DI n m c (T.2 58)) (x : Int32) :
    ∃ (T' : FS) (x' : Int32), E58 T T' ∧ DI n m c (T'.2 58) ∧ ((T' = T ∧ x' = x ∧ SS (T.2 58) n r 0 ∧ SS (T.2 58) n r 1) ∨ (x' = 1 ∧ dMu (T'.2 58) 10 < dMu (T.2 58) 10)) ∧ ∀ k, l_X12_findDays_53 (nI r) k FU T x 0 = k T' x' 2 := by
  obtain ⟨T1, x1, e1, d1, o1, g1⟩ := fd_side (s := 0) hn hb hm hr (by decide) hd x
  obtain ⟨T2, x2, e2, d2, o2, g2⟩ := fd_side (T := T1) (s := 1) ((e1.2 55 (by decide)).trans hn) hb hm hr (by decide) d1 x1
  refine ⟨T2, x2, e1.tr e2, d2, ?_, fun k => ?_⟩
  · rcases o1 with ⟨rfl, rfl, s1⟩ | ⟨f1, m1⟩
    · rcases o2 with ⟨rfl, rfl, s2⟩ | o2
      · exact Or.inl ⟨rfl, rfl, s1, s2⟩
      · exact Or.inr o2
    · rcases o2 with ⟨rfl, rfl, s2⟩ | ⟨f2, m2⟩
      · exact Or.inr ⟨f1, m1⟩
      · exact Or.inr ⟨f2, by omega⟩
  · rw [show l_X12_findDays_53 (nI r) k FU T x 0 = l_X12_findDays_53 (nI r) k (4999 + 1) T x (nI 0) from rfl, g1 k 4999, show (4999 : Nat) = 4998 + 1 from rfl, g2 k 4998, show (4998 : Nat) = 4997 + 1 from rfl, l_X12_findDays_53, if_neg (by decide)]; rfl
theorem fd_roads {n : Nat → Int32} {m c : Nat} (hb : RB n m) (hm : m ≤ 20) (h1 : n 1 = nI m) : ∀ (g i : Nat) (T : FS) (x : Int32), i ≤ m → m - i < g → T.2 55 = n → DI n m c (T.2 58) →
    ∃ (T' : FS) (x' : Int32), E58 T T' ∧ DI n m c (T'.2 58) ∧ ((T' = T ∧ x' = x ∧ ∀ r : Nat, i ≤ r → r < m → SS (T.2 58) n r 0 ∧ SS (T.2 58) n r 1) ∨ (x' = 1 ∧ dMu (T'.2 58) 10 < dMu (T.2 58) 10)) ∧ ∀ k, l_X12_findDays_40 k g T x (nI i) = k T' x' (nI m) := by
  intro g
  induction g with
  | zero => intro i T x _ h; exact absurd h (Nat.not_lt_zero _)
  | succ g ih =>
    intro i T x hi hg hn hd
    by_cases ci : i < m
    · obtain ⟨T1, x1, e1, d1, o1, g1⟩ := fd_road hn hb hm ci hd x
      obtain ⟨T2, x2, e2, d2, o2, g2⟩ := ih (i + 1) T1 x1 (by omega) (by omega) ((e1.2 55 (by decide)).trans hn) d1
      refine ⟨T2, x2, e1.tr e2, d2, ?_, fun k => ?_⟩
      · rcases o1 with ⟨rfl, rfl, s1⟩ | ⟨f1, m1⟩
        · rcases o2 with ⟨rfl, rfl, s2⟩ | o2
          · refine Or.inl ⟨rfl, rfl, fun r q1 q2 => ?_⟩
            by_cases e : r = i
            · subst e; exact s1
            · exact s2 r (by omega) q2
          · exact Or.inr o2
        · rcases o2 with ⟨rfl, rfl, s2⟩ | ⟨f2, m2⟩
          · exact Or.inr ⟨f1, m1⟩
          · exact Or.inr ⟨f2, by omega⟩
      · rw [l_X12_findDays_40, hn, h1, if_pos (nI_lt ci (by omega)), g1, nI_1]; exact g2 k
    · have ei : i = m := by omega
      subst ei
      refine ⟨T, x, E58.rf, hd, Or.inl ⟨rfl, rfl, fun r q1 q2 => by omega⟩, fun k => ?_⟩
      rw [l_X12_findDays_40, hn, h1, if_neg (nI_nlt (Nat.le_refl _) (by omega))]
theorem fd_while {n : Nat → Int32} {m c : Nat} (hb : RB n m) (hm : m ≤ 20) (h1 : n 1 = nI m) : ∀ (g : Nat) (T : FS) (x : Int32), dMu (T.2 58) 10 + 1 < g → x ≠ 0 → T.2 55 = n → DI n m c (T.2 58) →
    ∃ T' : FS, E58 T T' ∧ FX (T'.2 58) n m c ∧ ∀ k, l_X12_findDays_32 k g T x = k T' 0 := by
  intro g
  induction g with
  | zero => intro T x h; exact absurd h (Nat.not_lt_zero _)
  | succ g ih =>
    intro T x hg hx hn hd
    obtain ⟨T1, x1, e1, d1, o1, g1⟩ := fd_roads (c := c) hb hm h1 FU 0 T 0 (Nat.zero_le _) (FU_lt (by omega)) hn hd
    rcases o1 with ⟨rfl, rfl, s1⟩ | ⟨rfl, m1⟩
    · refine ⟨T1, E58.rf, FX.of d1.1 d1.2.1 (fun r hr => s1 r (Nat.zero_le _) hr) d1.2.2, fun k => ?_⟩
      obtain ⟨g', rfl⟩ : ∃ g' : Nat, g = g' + 1 := ⟨g - 1, by omega⟩
      rw [l_X12_findDays_32, if_neg hx, show l_X12_findDays_40 (fun S29 x29_2 x29_3 => l_X12_findDays_32 k (g' + 1) S29 x29_2) FU T1 0 0 = _ from g1 _, l_X12_findDays_32, if_pos rfl]
    · obtain ⟨T2, e2, f2, g2⟩ := ih T1 1 (by omega) (by decide) ((e1.2 55 (by decide)).trans hn) d1
      refine ⟨T2, e1.tr e2, f2, fun k => ?_⟩
      rw [l_X12_findDays_32, if_neg hx, show l_X12_findDays_40 (fun S29 x29_2 x29_3 => l_X12_findDays_32 k g S29 x29_2) FU T 0 0 = _ from g1 _]; exact g2 k
theorem fd_init {c : Nat} (hc : c < 10) : ∀ (g i : Nat) (T : FS), i ≤ 10 → 10 - i < g → dInit (T.2 58) (nI c) i → ∃ T' : FS, E58 T T' ∧ dInit (T'.2 58) (nI c) 10 ∧ ∀ k, l_X12_findDays_2 (nI c) k g T (nI i) = k T' (nI 10) := by
  intro g
  induction g with
  | zero => intro i T _ h; exact absurd h (Nat.not_lt_zero _)
  | succ g ih =>
    intro i T hi hg hd
    by_cases ci : i < 10
    · by_cases e : nI i = nI c
      · obtain ⟨T1, e1, d1, g1⟩ := ih (i + 1) (wA T 58 i (nI 0)) (by omega) (by omega) (by rw [wA_e]; exact hd.step rfl (by rw [if_pos e]))
        refine ⟨T1, E58.w.tr e1, d1, fun k => ?_⟩
        rw [l_X12_findDays_2, if_pos (show nI i < 10 from nI_lt ci (by decide)), if_pos e, ix_nI ci (by decide), fb_s, fl_s, nI_1]; exact g1 k
      · obtain ⟨T1, e1, d1, g1⟩ := ih (i + 1) (wA T 58 i (-1)) (by omega) (by omega) (by rw [wA_e]; exact hd.step rfl (by rw [if_neg e]))
        refine ⟨T1, E58.w.tr e1, d1, fun k => ?_⟩
        rw [l_X12_findDays_2, if_pos (show nI i < 10 from nI_lt ci (by decide)), if_neg e, ix_nI ci (by decide), fb_s, fl_s, nI_1]; exact g1 k
    · have ei : i = 10 := by omega
      subst ei
      refine ⟨T, E58.rf, hd, fun k => ?_⟩
      rw [l_X12_findDays_2, if_neg (by decide)]
theorem dMu_le {f : Nat → Int32} (h : dOK f) : ∀ k : Nat, k ≤ 10 → dMu f k ≤ 100 * k
  | 0, _ => Nat.le_refl _
  | k + 1, hk => by
    have ih := dMu_le h k (by omega)
    have : dW (f k) ≤ 100 := by
      unfold dW
      split
      · exact Nat.le_refl _
      · rcases h k (by omega) with e | ⟨q, e, hq⟩
        · rw [e]; decide
        · rw [e, nI_clamp (by omega)]; omega
    unfold dMu; omega
/-- the model finds the days from town c on -/
theorem RelR.findDays (h : RelR K S (T.2 55)) {c : Nat} (hc : c < 10) : ∃ T' : FS, E58 T T' ∧ FX (T'.2 58) (T.2 55) (K 1) c ∧ f_X12_findDays T (nI c) = some (0, T') := by
  obtain ⟨-, k1, k2⟩ := h.ct 101 1 20 (by decide)
  obtain ⟨T1, e1, d1, g1⟩ := fd_init hc FU 0 T (Nat.zero_le _) (FU_lt (by omega)) dInit.nil
  have hd : DI (T.2 55) (K 1) c (T1.2 58) := ⟨d1.ok, d1.c0 hc, DP.ini d1 hc⟩
  have hl := dMu_le d1.ok 10 (Nat.le_refl _)
  obtain ⟨T2, e2, d2, g2⟩ := fd_while (c := c) h.wy.2.1 k2 k1 FU T1 1 (FU_lt (by omega)) (by decide) (e1.2 55 (by decide)) hd
  refine ⟨T2, e1.tr e2, d2, ?_⟩
  unfold f_X12_findDays
  rw [show ∀ k, l_X12_findDays_2 (nI c) k FU T 0 = k T1 (nI 10) from g1, g2]
/-- how far: the class's ways and the model's days -/
theorem RelR.farOf (h : RelR K S (T.2 55)) {c t : Nat} (hc : c < K 0) (ht : t < K 0) : ∃ (T' : FS) (x : Int32), E58 T T' ∧ f_X12_farOf T (nI c) (nI t) = some (x, T') ∧ ((x < 0 ∧ p_X7_wayBetween S (nI c) (nI t) = -1000002) ∨ ∃ d : Nat, d ≤ 81 ∧ x = nI d ∧ p_X7_wayBetween S (nI c) (nI t) = nI d) := by
  have c0 := (h.ct 2 0 10 (by decide)).2.2
  obtain ⟨T1, e1, f1, g1⟩ := h.findDays (c := c) (by omega)
  have hf := FX.far h.wy f1 (show c < 10 by omega) (show t < 10 by omega)
  refine ⟨T1, T1.2 58 t, e1, ?_, ?_⟩
  · unfold f_X12_farOf
    rw [g1, fb_s, ix_nI (by omega) (by decide), fb_s]
  · have hw := h.wy.1.at (i := c) (j := t) (by omega) (by omega)
    unfold p_X7_wayBetween
    rw [g4 (by omega) (by omega), show 10 * c + t = c * 10 + t by omega, hw.1, fv_s]
    unfold vWy vFr at hf
    rcases f1.1 t (by omega) with e | ⟨q, hq, e⟩
    · left
      rw [e, show (if (-1 : Int32) < 0 then (-1000002 : Int32) else -1) = -1000002 from rfl] at hf
      rw [e]
      refine ⟨by decide, ?_⟩
      by_cases z : 1000 ≤ tv (S.2 5) c t
      · rw [if_neg (show ¬ nI _ < 1000 from nI_nlt (b := 1000) z (by omega))]
      · rw [if_neg z] at hf
        exact absurd hf (fun q => nI_pos (n := tv (S.2 5) c t) (by omega) (by rw [q]; decide))
    · right
      rw [e, if_neg (nI_pos (by omega))] at hf
      refine ⟨q, hq, e, ?_⟩
      by_cases z : 1000 ≤ tv (S.2 5) c t
      · rw [if_pos z] at hf
        exact absurd hf.symm (fun z => nI_pos (n := q) (by omega) (by rw [z]; decide))
      · rw [if_neg z] at hf
        rw [if_pos (show nI _ < 1000 from nI_lt (b := 1000) (by omega) (by decide))]; exact hf
theorem op_far (h : RelR K S (T.2 55)) : OK2 S T (f_X11_far S za zb) (f_X12_far T za zb) := by
  unfold f_X11_far f_X12_far
  simp only [fb_id]
  rcases h.twn za with ⟨c1, m1⟩ | ⟨p, hp, rfl, c1, m1⟩
  · simp only [c1, m1, ↓reduceIte]; exact ok_1 h
  · rcases h.twn zb with ⟨c2, m2⟩ | ⟨q, hq, rfl, c2, m2⟩
    · simp only [c1, m1, c2, m2, i10, ↓reduceIte]; exact ok_1 h
    · simp only [c1, m1, c2, m2, i10, ↓reduceIte]
      obtain ⟨T1, x, e1, g1, o1⟩ := h.farOf hp hq
      rw [g1, fb_s]
      have h1 : RelR K S (T1.2 55) := by rw [e1.2 55 (by decide)]; exact h
      rcases o1 with ⟨a, b⟩ | ⟨d, hd, rfl, b⟩
      · rw [if_pos a, b]; exact okf h1 CX.rf e1.me.1 (finds_2 T1)
      · rw [if_neg (nI_pos (by omega)), b]; exact okt h1 CX.rf e1.me.1
end WAY
end
section
/-! ===== pure: road, go, send ===== -/
section OPH
variable {K : Nat → Nat} {S T : FS} {za zb zc zd : Int32}
theorem RelR.farG (h : RelR K S (T.2 55)) {c t : Nat} (hc : c < K 0) (ht : t < K 0) : ∃ (T' : FS) (x : Int32), E58 T T' ∧ f_X12_farOf T (nI c) (nI t) = some (x, T') ∧ ((x < 0 ∧ ¬ fG 4 10 10 S (nI c) (nI t) < 1000) ∨ ∃ d : Nat, d ≤ 81 ∧ x = nI d ∧ fG 4 10 10 S (nI c) (nI t) = nI d) := by
  obtain ⟨T1, x, e1, g1, o1⟩ := h.farOf hc ht
  refine ⟨T1, x, e1, g1, ?_⟩
  have c0 := (h.ct 2 0 10 (by decide)).2.2
  have hw := h.wy.1.at (i := c) (j := t) (by omega) (by omega)
  unfold p_X7_wayBetween at o1
  rw [fv_s] at o1
  rw [g4 (by omega) (by omega), show 10 * c + t = c * 10 + t by omega, hw.1] at o1 ⊢
  rcases o1 with ⟨a, b⟩ | ⟨d, hd, a, b⟩
  · refine Or.inl ⟨a, fun z => ?_⟩
    rw [if_pos z] at b
    exact nI_pos (n := tv (S.2 5) c t) (by omega) (by rw [b]; decide)
  · refine Or.inr ⟨d, hd, a, ?_⟩
    split at b
    · exact b
    · exact absurd b.symm (fun z => nI_pos (n := d) (by omega) (by rw [z]; decide))
/-- what somebody knows of -/
theorem RelR.knw (h : RelR K S (T.2 55)) {p : Nat} (hp : p < K 2) : ∃ T' : FS, E58 T T' ∧ f_X12_knownTo T (nI p) = some (p_X7_knownTo S (nI p), T') := by
  obtain ⟨c1, c2, c3⟩ := h.ct 6 2 20 (by decide)
  obtain ⟨d1, d2, d3⟩ := h.ct 102 8 2000 (by decide)
  have c0 := (h.ct 2 0 10 (by decide)).2.2
  have p20 : p < 20 := by omega
  obtain ⟨-, ⟨-, -, e10, -⟩, pl, -, -, hv, -⟩ := h.pe p hp
  unfold f_X12_knownTo p_X7_knownTo
  simp only [man_4 p20, man_10 p20, g6_10 p20, g6_4 p20, g6_9 p20, fb_s, fv_s, e10]
  rcases pl with ⟨a1, a2, a3, -⟩ | ⟨a1, ⟨dd, a2, a3⟩, -⟩
  · have hl : q_X12_lives T (nI p) = some 1 := by
      unfold q_X12_lives
      rw [man_9 p20, fb_s, a2]; rfl
    rw [a3]
    rcases hv with e | ⟨t, ht, e⟩
    · rw [e]; exact ⟨T, E58.rf, rfl⟩
    · rw [e, if_neg (nI_pos (by omega)), if_neg (nI_pos (by omega)), hl, fb_s, if_neg (by decide), a1, if_pos rfl]
      obtain ⟨T1, x, e1, g1, o1⟩ := h.farG (c := 0) (t := t) (by omega) ht
      rw [show f_X12_farOf T 0 (nI t) = _ from g1, fb_s]
      have en := e1.2 55 (by decide)
      have em : q_X12_man T1 (nI p) 10 = some (T.2 55 (14 * p + 120)) := by rw [man_10 p20, en]
      simp only [em, fb_s, en, d2, d1]
      refine ⟨T1, e1, ?_⟩
      rcases o1 with ⟨o1, o2⟩ | ⟨d, o1, rfl, o2⟩
      · rw [if_pos o1, show fG 4 10 10 S 0 (nI t) = fG 4 10 10 S (nI 0) (nI t) from rfl, if_neg o2]
      · rw [if_neg (nI_pos (by omega)), show fG 4 10 10 S 0 (nI t) = nI d from o2, if_pos (show nI d < 1000 from nI_lt (b := 1000) (by omega) (by decide))]
        unfold imax
        by_cases z : nI (K 8) - nI d < T.2 55 (14 * p + 120)
        · rw [if_pos z, if_neg (fun q => Int32.lt_irrefl (Int32.lt_trans z q))]
        · rw [if_neg z]
          by_cases z2 : T.2 55 (14 * p + 120) < nI (K 8) - nI d
          · rw [if_pos z2]
          · rw [if_neg z2]
            rw [Int32.le_antisymm (Int32.not_lt.mp z2) (Int32.not_lt.mp z)]
  · have hl : q_X12_lives T (nI p) = some 0 := by
      unfold q_X12_lives
      rw [man_9 p20, fb_s, a3, if_neg (nI_pos (by omega))]
    rw [hl, a1]
    refine ⟨T, E58.rf, ?_⟩
    simp only [fb_s, i10, ↓reduceIte]
    split <;> split <;> rfl
/-- somebody sets out, on both sides -/
theorem RelR.goes (h : RelR K S (T.2 55)) {p c t : Nat} (hp : p < K 2) (hl : T.2 55 (14 * p + 119) = -1) (hc : T.2 55 (14 * p + 114) = nI c) (hcK : c < K 0) (ht : t < K 0) :
    ∃ (T' S' : FS) (x v : Int32), f_X12_goes T (nI p) (nI t) = some (x, T') ∧ f_X7_setOut S (nI p) (nI t) = some (v, S') ∧ RelR K S' (T'.2 55) ∧ CX S S' ∧ MX T T' ∧ ((x < 0 ∧ v = -1000002) ∨ (∃ d : Nat, d ≤ 3000 ∧ x = nI d ∧ v = nI d)) ∧ (∀ j : Nat, j < 110 ∨ 390 ≤ j → T'.2 55 j = T.2 55 j) ∧ CQ [7] 103 S S' ∧ S'.1 = S.1 := by
  obtain ⟨c1, c2, c3⟩ := h.ct 6 2 20 (by decide)
  obtain ⟨d1, d2, d3⟩ := h.ct 102 8 2000 (by decide)
  have c0 := (h.ct 2 0 10 (by decide)).2.2
  have p20 : p < 20 := by omega
  have pe := h.pe p hp
  obtain ⟨-, -, pl, -, -, hv, -⟩ := id pe
  have hf4 : S.2 7 (14 * p + 4) = nI c ∧ S.2 7 (14 * p + 9) = 0 := by
    rcases pl with ⟨a1, a2, a3, -⟩ | ⟨a1, ⟨dd, a2, a3⟩, -⟩
    · exact ⟨a3.trans hc, a1⟩
    · rw [hl] at a3; exact absurd a3.symm (nI_m1 (by omega))
  obtain ⟨T1, x, e1, g1, o1⟩ := h.farOf hcK ht
  have en := e1.2 55 (by decide)
  have h1 : RelR K S (T1.2 55) := by rw [en]; exact h
  unfold f_X12_goes f_X7_setOut
  simp only [man_4 p20, hc, fb_s, g1, g6_4 p20, hf4.1]
  rcases o1 with ⟨o1, o2⟩ | ⟨d, o1, rfl, o2⟩
  · simp only [o2, fv_s, ltm2, o1, ↓reduceIte]
    exact ⟨T1, S, -1, -1000002, rfl, rfl, h1, CX.rf, e1.me.1, Or.inl ⟨by decide, rfl⟩, fun j _ => by rw [en], CQ.rf, rfl⟩
  · rw [o2, fv_s, if_neg (nI_pos (by omega)), if_neg (nI_pos (by omega))]
    by_cases z : d = 0
    · subst z
      rw [if_neg (by decide), if_neg (by decide), en, d1, d2]
      exact ⟨T1, S, _, _, rfl, rfl, h1, CX.rf, e1.me.1, Or.inr ⟨K 8, by omega, by rw [nI_0, Int32.add_zero], by rw [nI_0, Int32.add_zero]⟩, fun j _ => by rw [en], CQ.rf, rfl⟩
    · have z0 : (0 : Int32) < nI d := nI_lt (a := 0) (by omega) (by omega)
      rw [if_pos z0, if_pos z0]
      obtain ⟨T2, e2, g2⟩ := h1.knw hp
      have en2 := e2.2 55 (by decide)
      rw [en] at en2
      rw [g2]
      simp only [fb_s, fl_s, sets_10 p20, sets_4 p20, sets_5 p20, sets_6 p20, s6_10 p20, s6_4 p20, s6_5 p20, s6_6 p20, wA_1, wA_e, d1]
      generalize p_X7_knownTo S (nI p) = kv
      have e8 : ∀ v1 v2 v3 : Int32, upd (upd (upd (T2.2 55) (14 * p + 120) v1) (14 * p + 114) v2) (14 * p + 115) v3 8 = nI (K 8) := fun v1 v2 v3 => by
        simp (disch := omega) only [pk_un]; rw [en2, d2]
      have e8' : ∀ v1 v2 v3 v4 : Int32, upd (upd (upd (upd (T2.2 55) (14 * p + 120) v1) (14 * p + 114) v2) (14 * p + 115) v3) (14 * p + 116) v4 8 = nI (K 8) := fun v1 v2 v3 v4 => by
        simp (disch := omega) only [pk_un]; rw [en2, d2]
      rw [e8, e8', nI_add]
      refine ⟨_, _, _, _, rfl, rfl, ?_, ⟨⟨rfl, rfl, rfl, rfl⟩, rfl, rfl⟩, (e1.me.1.tr e2.me.1).tr ⟨⟨rfl, rfl, rfl, rfl, rfl⟩, rfl, rfl⟩, Or.inr ⟨K 8 + d, by omega, rfl, rfl⟩, fun j hj => ?_, (((CQ.rf.wA (by decide) (by decide)).wA (by decide) (by decide)).wA (by decide) (by decide)).wA (by decide) (by decide), rfl⟩
      · simp only [wA_e]
        rw [en2]
        refine h.onP ((((CQ.rf.wA (by decide) (by decide)).wA (by decide) (by decide)).wA (by decide) (by decide)).wA (by decide) (by decide)) ((((NQ.rf.w (Or.inl (by omega))).w (Or.inl (by omega))).w (Or.inl (by omega))).w (Or.inl (by omega))) ?_ ?_ ?_ ?_ ?_ ?_
        · simp (disch := omega) only [pk_un, wA_1]; exact h.1.2
        · simp only [wA_e]
          intro q hq
          have hh := h.pe q hq
          unfold PLv at hh ⊢
          by_cases e : q = p
          · subst e
            simp (disch := omega) only [pk_us, pk_un]
            refine ⟨hh.1, ⟨hh.2.1.1, hh.2.1.2.1, trivial, hh.2.1.2.2.2⟩, Or.inl ⟨hf4.2, hl, trivial, fun _ => ⟨⟨trivial, trivial⟩, ⟨t, ht, rfl⟩, K 8 + d, ⟨by omega, by omega⟩, rfl⟩⟩, hh.2.2.2.1, hh.2.2.2.2.1, Or.inl rfl, hh.2.2.2.2.2.2⟩
          · simp (disch := omega) only [pk_un]; exact hh
        · exact (((h.se.w (p := p) (c := 10) (by omega)).w (p := p) (c := 4) (by omega)).w (p := p) (c := 5) (by omega)).w (p := p) (c := 6) (by omega)
        · simp only [wA_e]
          exact (((h.st.w (p := p) (c := 10) (d := 10) c3 (by omega) (by omega)).w (p := p) (c := 4) (d := 4) c3 (by omega) (by omega)).w (p := p) (c := 5) (d := 5) c3 (by omega) (by omega)).w (p := p) (c := 6) (d := 6) c3 (by omega) (by omega)
        · exact fun x hx => (((hx.w (p := p) (c := 10) (by omega)).w (p := p) (c := 4) (by omega)).w (p := p) (c := 5) (by omega)).w (p := p) (c := 6) (by omega)
        · intro q hq
          simp (disch := omega) only [pk_un]
      · simp only [wA_e]
        simp (disch := omega) only [pk_un]
        rw [en2]
theorem RelR.town_of (h : RelR K S (T.2 55)) {p : Nat} (hp : p < K 2) (hl : T.2 55 (14 * p + 119) = -1) : (T.2 55 (14 * p + 114) = -1 ∧ p_X7_isInTown S (nI p) = 0) ∨ ∃ c : Nat, c < K 0 ∧ T.2 55 (14 * p + 114) = nI c ∧ S.2 7 (14 * p + 4) = nI c ∧ p_X7_isInTown S (nI p) = 1 := by
  obtain ⟨c1, c2, c3⟩ := h.ct 6 2 20 (by decide)
  have c0 := (h.ct 2 0 10 (by decide)).2.2
  have p20 : p < 20 := by omega
  obtain ⟨-, -, pl, -, -, hv, -⟩ := h.pe p hp
  unfold p_X7_isInTown
  rcases h.liv hp with ⟨l1, l2, l3⟩ | ⟨l1, -⟩
  · rw [l2, if_neg (by decide), g6_4 p20]
    rcases pl with ⟨a1, a2, a3, -⟩ | ⟨a1, ⟨dd, a2, a3⟩, -⟩
    · rw [a3]
      rcases hv with e | ⟨q, hq, e⟩
      · left; rw [e]; exact ⟨rfl, rfl⟩
      · right; rw [e]; exact ⟨q, hq, rfl, rfl, if_neg (nI_pos (by omega))⟩
    · rw [hl] at a3; exact absurd a3.symm (nI_m1 (by omega))
  · exact absurd hl l1
theorem op_go (h : RelR K S (T.2 55)) : OK2 S T (f_X11_go S za zb) (f_X12_go T za zb) := by
  unfold f_X11_go f_X12_go
  simp only [fb_id]
  obtain ⟨c1, c2, c3⟩ := h.ct 6 2 20 (by decide)
  rcases h.per za with ⟨c1, m1⟩ | ⟨p, hp, rfl, c1, m1⟩
  · simp only [c1, m1, ↓reduceIte]; exact ok_1 h
  · have p20 : p < 20 := by omega
    rcases h.twn zb with ⟨c2, m2⟩ | ⟨q, hq, rfl, c2, m2⟩
    · simp only [c1, m1, c2, m2, i10, ↓reduceIte]; exact ok_1 h
    · simp only [c1, m1, c2, m2, i10, ↓reduceIte]
      rcases h.liv hp with ⟨l1, l2, l3⟩ | ⟨l1, l2, l5, l3, l4⟩
      · rcases h.town_of hp l1 with ⟨t1, t2⟩ | ⟨c, hc, t1, t3, t2⟩
        · simp only [l3, fb_s, i10, man_4 p20, t2, t1, ltm1, ↓reduceIte]; exact ok_3 h
        · have c0 := (h.ct 2 0 10 (by decide)).2.2
          simp only [l3, fb_s, i10, man_4 p20, t2, t1, nI_pos (show c < 2 ^ 31 by omega), ↓reduceIte]
          obtain ⟨T1, S1, x, v, g1, g2, r1, cx, mx, o1, -⟩ := h.goes hp l1 t1 hc hq
          rw [g1, g2, fb_s, fb_s]
          rcases o1 with ⟨a, b⟩ | ⟨d, a1, a2, a3⟩
          · rw [if_pos a]; subst b; exact okf r1 cx mx (finds_2 T1)
          · rw [a2, a3, if_neg (nI_pos (by omega))]; exact okt r1 cx mx
      · unfold p_X7_isInTown
        simp only [l4, l3, fb_s, ↓reduceIte]; exact ok_3 h
theorem op_send (h : RelR K S (T.2 55)) : OK2 S T (f_X11_send S za zb) (f_X12_send T za zb) := by
  unfold f_X11_send f_X12_send f_X3_dispatch
  simp only [fb_id]
  have c5 := (h.ct 14 5 40 (by decide)).2.2
  have c2 := (h.ct 6 2 20 (by decide)).2.2
  have c0 := (h.ct 2 0 10 (by decide)).2.2
  obtain ⟨d1, d2, d3⟩ := h.ct 102 8 2000 (by decide)
  rcases h.let' za with ⟨a1, m1⟩ | ⟨e, he, rfl, a1, m1⟩
  · simp only [a1, m1, ↓reduceIte]; exact ok_1 h
  · have e40 : e < 40 := by omega
    rcases h.per zb with ⟨a2, m2⟩ | ⟨p, hp, rfl, a2, m2⟩
    · simp only [a1, m1, a2, m2, i10, ↓reduceIte]; exact ok_1 h
    · have p20 : p < 20 := by omega
      simp only [a1, m1, a2, m2, i10, ↓reduceIte, of_4 e40, fb_s]
      have hl := h.le e he
      obtain ⟨⟨k0, k1, k2, k3, k4⟩, k5, k6, k7, ⟨k8, ⟨w, hw, k9⟩, k10⟩, k11⟩ := id hl
      unfold p_X3_isSent
      rw [g14_6 e40, k4]
      by_cases z : T.2 55 (12 * e + 1294) = -1
      · rcases h.liv hp with ⟨l1, l2, l3⟩ | ⟨l1, l2, l5, l3, l4⟩
        · rcases h.town_of hp l1 with ⟨t1, t2⟩ | ⟨c, hc, t1, t3, t2⟩
          · simp only [z, ltm1, l3, fb_s, i10, man_4 p20, t2, t1, ↓reduceIte]; exact ok_3 h
          · simp only [z, ltm1, l3, fb_s, i10, man_4 p20, t2, t1, nI_pos (show c < 2 ^ 31 by omega), of_10 e40, g6_4 p20, t3, g14_3 e40, k6 z, k9, fv_s, ↓reduceIte]
            obtain ⟨T1, x, e1, g1, o1⟩ := h.farOf hw hc
            have en := e1.2 55 (by decide)
            rw [g1, fb_s]
            rcases o1 with ⟨o1, o2⟩ | ⟨d, o1, rfl, o2⟩
            · simp only [o2, ltm2, o1, fb_s, ↓reduceIte]
              exact okf (by rw [en]; exact h) CX.rf e1.me.1 (finds_2 T1)
            · rw [o2, if_neg (nI_pos (by omega)), if_neg (nI_pos (by omega))]
              simp only [fb_s, fl_s, writes_4 e40, writes_5 e40, writes_10 e40, man_4 p20, s14_6 e40, s14_7 e40, s14_8 e40, wA_1, wA_e, d1]
              have e4 : ∀ v1 v2 : Int32, upd (upd (T1.2 55) (12 * e + 1294) v1) (12 * e + 1295) v2 (14 * p + 114) = nI c := fun v1 v2 => by
                simp (disch := omega) only [pk_un]; rw [en, t1]
              have e8 : ∀ v1 : Int32, upd (T1.2 55) (12 * e + 1294) v1 8 = nI (K 8) := fun v1 => by
                simp (disch := omega) only [pk_un]; rw [en, d2]
              have e8' : ∀ v1 v2 v3 : Int32, upd (upd (upd (T1.2 55) (12 * e + 1294) v1) (12 * e + 1295) v2) (12 * e + 1300) v3 8 = nI (K 8) := fun v1 v2 v3 => by
                simp (disch := omega) only [pk_un]; rw [en, d2]
              rw [e4, e8, e8', nI_add]
              refine okt (K := K) ?_ ⟨⟨rfl, rfl, rfl, rfl⟩, rfl, rfl⟩ (e1.me.1.tr ⟨⟨rfl, rfl, rfl, rfl, rfl⟩, rfl, rfl⟩)
              simp only [wA_e]
              rw [en]
              refine h.onE (((CQ.rf.wA (by decide) (by decide)).wA (by decide) (by decide)).wA (by decide) (by decide)) (((NQ.rf.w (Or.inl (by omega))).w (Or.inl (by omega))).w (Or.inl (by omega))) ?_ ?_
              · simp (disch := omega) only [pk_un, wA_1]; exact h.1.2
              · simp only [wA_e]
                intro q hq
                have hh := h.le q hq
                by_cases eq : q = e
                · subst eq
                  simp (disch := omega) only [pk_us, pk_un]
                  exact ⟨⟨k0, k1, k2, k3, trivial⟩, ⟨trivial, k5.2⟩, fun y => absurd y (nI_m1 (by omega)), fun _ => trivial, ⟨Or.inr ⟨p, hp, rfl⟩, ⟨c, hc, rfl⟩, k10⟩, fun _ => nI_m1 (by omega)⟩
                · simp (disch := omega) only [pk_un]; exact hh
        · unfold p_X7_isInTown
          simp only [z, ltm1, l4, l3, fb_s, ↓reduceIte]; exact ok_3 h
      · simp only [z, i10, show ¬ T.2 55 (12 * e + 1294) < 0 from fun q => z ((k8.lt (by omega)).mp q), fb_s, ↓reduceIte]; exact ok_3 h
end OPH
end
section
/-! ===== pure: road ===== -/
section OPR
variable {K : Nat → Nat} {S T : FS} {za zb zc zd : Int32}
def E5 (T T' : FS) : Prop := T'.1 = T.1 ∧ ∀ a : Nat, a ≠ 5 → T'.2 a = T.2 a
theorem E5.rf : E5 T T := ⟨rfl, fun _ _ => rfl⟩
theorem E5.tr {A B C : FS} (h : E5 A B) (g : E5 B C) : E5 A C := ⟨g.1.trans h.1, fun a ha => (g.2 a ha).trans (h.2 a ha)⟩
theorem E5.w {j : Nat} {v : Int32} : E5 T (wA T 5 j v) := ⟨rfl, fun _ ha => wA_n ha⟩
theorem imin_n {A B : Nat} (hA : A < 2 ^ 31) (hB : B < 2 ^ 31) : imin (nI A) (nI B) = nI (min A B) := mmN hA hB
theorem join_in {W : Nat → Int32} {u a b d i : Nat} (hu : u ≤ 10) (ha : a < u) (hb : b < u) (hi : i < u) (hd : d < 10) : ∀ (g j : Nat) (S : FS), j ≤ u → u - j < g → JI W (S.2 5) u a b d i j →
    ∃ S' : FS, E5 S S' ∧ JI W (S'.2 5) u a b d i u ∧ ∀ k, l_X7_join_22 (nI a) (nI b) (nI d) (nI u) (nI i) k g S (nI j) = k S' (nI u) := by
  intro g
  induction g with
  | zero => intro j S _ h; exact absurd h (Nat.not_lt_zero _)
  | succ g ih =>
    intro j S hj hg h
    by_cases c : j < u
    · have v1 := h.1.at (i := i) (j := a) (by omega) (by omega)
      have v2 := h.1.at (i := b) (j := j) (by omega) (by omega)
      have v3 := h.1.at (i := i) (j := b) (by omega) (by omega)
      have v4 := h.1.at (i := a) (j := j) (by omega) (by omega)
      have v5 := h.1.at (i := i) (j := j) (by omega) (by omega)
      obtain ⟨S1, e1, j1, g1⟩ := ih (j + 1) (wA S 5 (i * 10 + j) (nI (mC (S.2 5) a b d i j))) (by omega) (by omega) (by rw [wA_e]; exact h.step hu ha hb hi c)
      refine ⟨S1, E5.w.tr e1, j1, fun k => ?_⟩
      rw [l_X7_join_22, if_pos (nI_lt c (by omega))]
      simp only [g4 (show i < 10 by omega) (show a < 10 by omega), g4 (show b < 10 by omega) (show j < 10 by omega), g4 (show i < 10 by omega) (show b < 10 by omega), g4 (show a < 10 by omega) (show j < 10 by omega), g4 (show i < 10 by omega) (show j < 10 by omega), s4 (show i < 10 by omega) (show j < 10 by omega), Nat.mul_comm 10, v1.1, v2.1, v3.1, v4.1, v5.1, nI_add, fv_s, fl_s, nI_1]
      rw [imin_n (by omega) (by omega), imin_n (by omega) (by omega)]
      exact g1 k
    · have ej : j = u := by omega
      subst ej
      refine ⟨S, E5.rf, h, fun k => ?_⟩
      rw [l_X7_join_22, if_neg (nI_nlt (Nat.le_refl _) (by omega))]
theorem join_out {W : Nat → Int32} {u a b d : Nat} (hu : u ≤ 10) (ha : a < u) (hb : b < u) (hd : d < 10) : ∀ (g i : Nat) (S : FS), i ≤ u → u - i < g → JI W (S.2 5) u a b d i 0 →
    ∃ S' : FS, E5 S S' ∧ JI W (S'.2 5) u a b d u 0 ∧ ∀ k, l_X7_join_12 (nI a) (nI b) (nI d) (nI u) k g S (nI i) = k S' (nI u) := by
  intro g
  induction g with
  | zero => intro i S _ h; exact absurd h (Nat.not_lt_zero _)
  | succ g ih =>
    intro i S hi hg h
    by_cases c : i < u
    · obtain ⟨S1, e1, j1, g1⟩ := join_in hu ha hb c hd FU 0 S (Nat.zero_le _) (FU_lt (by omega)) h
      obtain ⟨S2, e2, j2, g2⟩ := ih (i + 1) S1 (by omega) (by omega) j1.row
      refine ⟨S2, e1.tr e2, j2, fun k => ?_⟩
      rw [l_X7_join_12, if_pos (nI_lt c (by omega)), nI_1, show ∀ k, l_X7_join_22 (nI a) (nI b) (nI d) (nI u) (nI i) k FU S 0 = k S1 (nI u) from g1]; exact g2 k
    · have ei : i = u := by omega
      subst ei
      refine ⟨S, E5.rf, h, fun k => ?_⟩
      rw [l_X7_join_12, if_neg (nI_nlt (Nat.le_refl _) (by omega))]
theorem op_road (h : RelR K S (T.2 55)) : OK2 S T (f_X11_road S za zb zc) (f_X12_road T za zb zc) := by
  unfold f_X11_road f_X12_road
  simp only [fb_id]
  obtain ⟨k1, k2, c1⟩ := h.ct 101 1 20 (by decide)
  obtain ⟨t1, t2, c0⟩ := h.ct 2 0 10 (by decide)
  rcases h.twn za with ⟨a1, m1⟩ | ⟨a, ha, rfl, a1, m1⟩
  · simp only [a1, m1, ↓reduceIte]; exact ok_1 h
  · rcases h.twn zb with ⟨a2, m2⟩ | ⟨b, hb, rfl, a2, m2⟩
    · simp only [a1, m1, a2, m2, i10, ↓reduceIte]; exact ok_1 h
    · simp only [a1, m1, a2, m2, i10, ↓reduceIte]
      by_cases z : nI a = nI b
      · simp only [z, ↓reduceIte]; exact ok_1 h
      · simp only [z, ↓reduceIte]
        have hab : a ≠ b := fun q => z (by rw [q])
        rcases out_c zc 1 9 with ⟨o1, o2⟩ | ⟨o1, o2⟩
        · simp only [o1, o2, i10, ↓reduceIte, k1, k2, fv_s]
          by_cases c : K 1 = 20
          · rw [if_neg (show ¬ nI (K 1) < 20 from nI_nlt (b := 20) (by omega) (by omega)), if_pos (by rw [c]; rfl)]; exact ok_4 h
          · rw [if_pos (show nI (K 1) < 20 from nI_lt (b := 20) (by omega) (by decide)), if_neg (fun q => c (nI_inj (by omega) (by decide) (q.trans (show (20 : Int32) = nI 20 from rfl))))]
            have r20 : K 1 < 20 := by omega
            obtain ⟨d, ⟨hd1, hd2⟩, rfl⟩ := out_n 1 9 rfl rfl (by decide) (by decide) o1
            obtain ⟨S1, e1, j1, g1⟩ := join_out (W := S.2 5) c0 ha hb (show d < 10 by omega) FU 0 S (Nat.zero_le _) (FU_lt (by omega)) (JI.nil h.wy.1)
            unfold f_X7_join
            simp only [fv_s, t1]
            rw [show ∀ k, l_X7_join_12 (nI a) (nI b) (nI d) (nI (K 0)) k FU S 0 = k S1 (nI (K 0)) from g1]
            simp only [fl_s, fb_s, wI_e, e1.1, k1, nI_1, ixR_0 r20, ixR_1 r20, ixR_2 r20]
            refine okt (K := kU K 1 (K 1 + 1)) ?_ ?_ ⟨⟨rfl, rfl, rfl, rfl, rfl⟩, rfl, rfl⟩
            · simp only [wA_e]
              have cq : CQ [5] 101 S S1 := ⟨⟨⟨e1.2 _ (by decide), e1.2 _ (by decide), e1.2 _ (by decide), e1.2 _ (by decide)⟩, by rw [e1.1], by rw [e1.1]⟩, fun _ _ _ _ => by rw [e1.1], fun q hq h3 => e1.2 q (fun z => h3 (by rw [z]; decide))⟩
              refine h.onR_1 (cq.wI (Or.inr rfl) (by decide) (by decide)) ((((NQ.rf.w (Or.inr (Or.inr rfl))).w (Or.inl (by omega))).w (Or.inl (by omega))).w (Or.inl (by omega))) (fun i hi => kU_n hi) (by rw [kU_e]; omega) ?_ (onct 101 1 20 (by decide) ?_ ?_ (by rw [kU_e]; omega)) ?_
              · rw [wI_n (by decide), e1.1]
                simp (disch := omega) only [pk_un]; exact h.1.2
              · rw [kU_e, wI_e]
              · rw [kU_e]; simp (disch := omega) only [pk_un, pk_us]
              · rw [kU_e, kU_n (by decide), wI_2]
                refine h.wy.join j1.fin c0 ha hb hab (fun j q1 q2 => ?_) ?_ ?_ ?_ (by omega)
                · simp (disch := omega) only [pk_un]
                · simp (disch := omega) only [pk_un, pk_us]
                · simp (disch := omega) only [pk_un, pk_us]
                · simp (disch := omega) only [pk_un, pk_us]
            · exact ⟨⟨e1.2 _ (by decide), e1.2 _ (by decide), e1.2 _ (by decide), e1.2 _ (by decide)⟩, by rw [wI_n (by decide), e1.1], by rw [wI_n (by decide), e1.1]⟩
        · simp only [o1, o2, i10, ↓reduceIte]; exact ok_1 h
end OPR
end
section
/-! ===== pure: steps to THE CHILD ===== -/
theorem cnt_s {p : Nat → Bool} {m : Nat} : pm_cnt p (m + 1) = pm_cnt p m + if p m = true then 1 else 0 := rfl
theorem cnt_mono {p q : Nat → Bool} : ∀ (m : Nat), (∀ j : Nat, j < m → p j = true → q j = true) → pm_cnt p m ≤ pm_cnt q m
  | 0, _ => Nat.le_refl _
  | m + 1, h => by
    have ih := cnt_mono m (fun j hj => h j (by omega))
    have hm := h m (by omega)
    rw [cnt_s, cnt_s]
    by_cases c : p m = true
    · rw [if_pos c, if_pos (hm c)]; omega
    · rw [if_neg c]; omega
theorem cnt_lt {p q : Nat → Bool} {x : Nat} (hq : q x = true) (hp : ¬ p x = true) : ∀ (m : Nat), x < m → (∀ j : Nat, j < m → p j = true → q j = true) → pm_cnt p m + 1 ≤ pm_cnt q m
  | 0, h, _ => absurd h (Nat.not_lt_zero _)
  | m + 1, hx, h => by
    rw [cnt_s, cnt_s]
    by_cases e : x = m
    · subst e
      have := cnt_mono x (fun j hj => h j (by omega))
      rw [if_pos hq, if_neg hp]; omega
    · have ih := cnt_lt hq hp m (by omega) (fun j hj => h j (by omega))
      have hm := h m (by omega)
      by_cases c : p m = true
      · rw [if_pos c, if_pos (hm c)]; omega
      · rw [if_neg c]; omega
theorem cnt_all {p : Nat → Bool} {m x : Nat} (hx : x < m) (h : m ≤ pm_cnt p m) : p x = true := by
  apply Decidable.byContradiction
  intro c
  have h1 := cnt_lt (p := p) (q := fun _ => true) rfl c m hx (fun _ _ _ => rfl)
  have h2 := pm_cnt_le (fun _ => true) m
  omega
/-- parent and child, either way round -/
def EG (n : Nat → Int32) (P p q : Nat) : Prop := (p < P ∧ q < P) ∧ ((n (14 * p + 112) = nI q ∨ n (14 * p + 113) = nI q) ∨ (n (14 * q + 112) = nI p ∨ n (14 * q + 113) = nI p))
theorem EG.symm {n : Nat → Int32} {P p q : Nat} (h : EG n P p q) : EG n P q p := ⟨⟨h.1.2, h.1.1⟩, h.2.symm⟩
theorem SF.of {n : Nat → Int32} {P : Nat} {D : Nat → Nat} (h : ∀ p q : Nat, EG n P p q → D q ≤ D p + 1) : SF n P D := by
  intro p hp c hc q e hq
  have h1 : EG n P p q := ⟨⟨hp, hq⟩, Or.inl (by rcases hc with rfl | rfl; exact Or.inl e; exact Or.inr e)⟩
  exact ⟨h q p h1.symm, h p q h1⟩
theorem SF.eg {n : Nat → Int32} {P : Nat} {D : Nat → Nat} (h : SF n P D) {p q : Nat} (e : EG n P p q) : D q ≤ D p + 1 := by
  obtain ⟨⟨hp, hq⟩, (e | e) | (e | e)⟩ := e
  · exact (h p hp 112 (Or.inl rfl) q e hq).2
  · exact (h p hp 113 (Or.inr rfl) q e hq).2
  · exact (h q hq 112 (Or.inl rfl) p e hp).1
  · exact (h q hq 113 (Or.inr rfl) p e hp).1
def BI (n : Nat → Int32) (P k : Nat) (d : Nat → Nat) : Prop := (∀ p : Nat, p < P → d p ≤ 99) ∧ d 0 = 0 ∧ (∀ p q : Nat, EG n P p q → d p < k → d q ≤ d p + 1) ∧ (∀ p : Nat, p < P → p ≠ 0 → d p < 99 → ∃ q : Nat, EG n P p q ∧ d q + 1 ≤ d p) ∧ ∀ D : Nat → Nat, D 0 = 0 → SF n P D → ∀ p : Nat, p < P → d p < 99 → D p ≤ d p
def Dn (k : Nat) (d : Nat → Nat) (p q : Nat) : Prop := d p ≤ k → d q ≤ d p + 1
def nU (d : Nat → Nat) (k v : Nat) : Nat → Nat := fun j => if j = k then v else d j
theorem nU_e {d : Nat → Nat} {k v : Nat} : nU d k v k = v := if_pos rfl
theorem nU_n {d : Nat → Nat} {k v j : Nat} (h : j ≠ k) : nU d k v j = d j := if_neg h
theorem BI.next {n : Nat → Int32} {P k : Nat} {d : Nat → Nat} (h : BI n P k d) (hd : ∀ p q : Nat, EG n P p q → Dn k d p q) : BI n P (k + 1) d := ⟨h.1, h.2.1, fun p q e hk => hd p q e (by omega), h.2.2.2⟩
/-- q is brought nearer by p -/
theorem BI.rlx {n : Nat → Int32} {P k : Nat} {d : Nat → Nat} (h : BI n P k d) {p q : Nat} (e : EG n P p q) (hl : d p + 1 < d q) : BI n P k (nU d q (d p + 1)) ∧ Dn k (nU d q (d p + 1)) p q ∧ ∀ x y : Nat, Dn k d x y → Dn k (nU d q (d p + 1)) x y := by
  obtain ⟨h1, h2, h3, h4, h5⟩ := h
  obtain ⟨⟨hp, hq⟩, -⟩ := id e
  have hk : k ≤ d p := Nat.le_of_not_lt (fun z => by have := h3 p q e z; omega)
  have hpq : p ≠ q := fun z => by subst z; omega
  have hq99 := h1 q hq
  have le : ∀ x : Nat, nU d q (d p + 1) x ≤ d x := fun x => by
    by_cases z : x = q
    · subst z; rw [nU_e]; omega
    · rw [nU_n z]; exact Nat.le_refl _
  refine ⟨⟨fun x hx => Nat.le_trans (le x) (h1 x hx), ?_, fun x y exy hx => ?_, fun x hx x0 hx9 => ?_, fun D d0 dF x hx hx9 => ?_⟩, fun _ => ?_, fun x y dn hx => ?_⟩
  · have := le 0; omega
  · by_cases z : x = q
    · subst z; rw [nU_e] at hx; omega
    · rw [nU_n z] at hx ⊢
      exact Nat.le_trans (le y) (h3 x y exy hx)
  · by_cases z : x = q
    · subst z
      refine ⟨p, e.symm, ?_⟩
      rw [nU_e, nU_n hpq]; exact Nat.le_refl _
    · rw [nU_n z] at hx9 ⊢
      obtain ⟨y, ey, hy⟩ := h4 x hx x0 hx9
      exact ⟨y, ey, Nat.le_trans (Nat.add_le_add_right (le y) 1) hy⟩
  · by_cases z : x = q
    · subst z
      rw [nU_e] at hx9 ⊢
      have a := h5 D d0 dF p hp (by omega)
      have b := dF.eg e
      omega
    · rw [nU_n z] at hx9 ⊢; exact h5 D d0 dF x hx hx9
  · rw [nU_e, nU_n hpq]; exact Nat.le_refl _
  · by_cases z : x = q
    · subst z; rw [nU_e] at hx; omega
    · rw [nU_n z] at hx ⊢
      exact Nat.le_trans (le y) (dn hx)
theorem BI.lvl {n : Nat → Int32} {P k : Nat} {d : Nat → Nat} (h : BI n P k d) (hP : 1 ≤ P) : ∀ (v : Nat) (x : Nat), x < P → d x = v → k ≤ v → v < 99 → ∃ y : Nat, y < P ∧ d y = k := by
  intro v
  induction v using Nat.strongRecOn with
  | _ v ih =>
    intro x hx ev hk hv
    by_cases e : v = k
    · exact ⟨x, hx, by omega⟩
    · have x0 : x ≠ 0 := fun z => by subst z; have := h.2.1; omega
      obtain ⟨y, ey, hy⟩ := h.2.2.2.1 x hx x0 (by omega)
      by_cases c : k ≤ d y
      · exact ih (d y) (by omega) y ey.1.2 rfl c (by omega)
      · have := h.2.2.1 y x ey.symm (by omega)
        omega
/-- levels below one that somebody has -/
theorem BI.dwn {n : Nat → Int32} {P k : Nat} {d : Nat → Nat} (h : BI n P k d) : ∀ (v x : Nat), x < P → d x = v → v ≤ k → v < 99 → v ≤ pm_cnt (fun p => decide (d p < v)) P := by
  intro v
  induction v with
  | zero => intro x _ _ _ _; exact Nat.zero_le _
  | succ v ih =>
    intro x hx ev hk hv
    have x0 : x ≠ 0 := fun z => by subst z; have := h.2.1; omega
    obtain ⟨y, ey, hy⟩ := h.2.2.2.1 x hx x0 (by omega)
    have h1 := h.2.2.1 y x ey.symm (by omega)
    have h2 := ih y ey.1.2 (by omega) (by omega) (by omega)
    have h3 := cnt_lt (p := fun p => decide (d p < v)) (q := fun p => decide (d p < v + 1)) (x := y) (decide_eq_true (by omega)) (by rw [decide_eq_true_eq]; omega) P ey.1.2 (fun j _ hj => by rw [decide_eq_true_eq] at hj; exact decide_eq_true (by omega))
    omega
theorem BI.fin {n : Nat → Int32} {P R : Nat} {d : Nat → Nat} (h : BI n P R d) (hR : P ≤ R + 1) (hR9 : R < 99) (hP : 1 ≤ P) : SF n P d ∧ ∀ p : Nat, p < P → d p + 1 ≤ P ∨ d p = 99 := by
  have key : ∀ x : Nat, x < P → R ≤ d x → d x < 99 → ∀ y : Nat, y < P → d y ≤ R := by
    intro x hx h1 h2 y hy
    obtain ⟨z, hz, ez⟩ := h.lvl hP (d x) x hx rfl h1 h2
    have h3 := h.dwn R z hz ez (Nat.le_refl _) hR9
    have h4 := cnt_lt (p := fun p => decide (d p < R)) (q := fun p => decide (d p < R + 1)) (x := z) (decide_eq_true (by omega)) (by rw [decide_eq_true_eq]; omega) P hz (fun j _ hj => by rw [decide_eq_true_eq] at hj; exact decide_eq_true (by omega))
    have h5 := cnt_all (p := fun p => decide (d p < R + 1)) hy (by omega)
    rw [decide_eq_true_eq] at h5
    omega
  refine ⟨SF.of (fun p q e => ?_), fun p hp => ?_⟩
  · by_cases c : d p < R
    · exact h.2.2.1 p q e c
    · have := h.1 p e.1.1
      have h9 := h.1 q e.1.2
      by_cases c2 : d p < 99
      · have := key p e.1.1 (by omega) c2 q e.1.2; omega
      · omega
  · have h9 := h.1 p hp
    by_cases c2 : d p < 99
    · left
      have hle : d p ≤ R := by
        by_cases c : R ≤ d p
        · exact key p hp c c2 p hp
        · omega
      have h3 := h.dwn (d p) p hp rfl hle c2
      have h4 := cnt_lt (p := fun x => decide (d x < d p)) (q := fun x => decide (d x < d p + 1)) (x := p) (decide_eq_true (by omega)) (by rw [decide_eq_true_eq]; omega) P hp (fun j _ hj => by rw [decide_eq_true_eq] at hj; exact decide_eq_true (by omega))
      have h5 := pm_cnt_le (fun x => decide (d x < d p + 1)) P
      omega
    · exact Or.inr (by omega)
/-- from what stands already -/
theorem RSt.bi {K : Nat → Nat} {n : Nat → Int32} {s : Nat → Nat} (hP : 1 ≤ K 2) (h1 : ∀ p : Nat, p < K 2 → s p ≤ 19 ∨ s p = 99) (h2 : 1 ≤ K 2 → s 0 = 0) (h3 : SF n (K 2) s) (h4 : ∀ D : Nat → Nat, D 0 = 0 → SF n (K 2) D → ∀ p : Nat, p < K 2 → s p < 99 → D p ≤ s p) : BI n (K 2) 0 s := by
  refine ⟨fun p hp => ?_, h2 hP, fun p q _ z => absurd z (Nat.not_lt_zero _), fun p hp p0 hp9 => ?_, h4⟩
  · have := h1 p hp; omega
  · apply Classical.byContradiction
    intro c
    have c' : ∀ q : Nat, EG n (K 2) p q → s p ≤ s q := fun q e => Nat.le_of_not_lt (fun z => c ⟨q, e, by omega⟩)
    have := h4 (nU s p (s p + 1)) (by rw [nU_n (fun z => p0 z.symm)]; exact h2 hP) (SF.of (fun x y e => by
      have hxy := h3.eg e
      by_cases ex : x = p
      · subst ex
        by_cases ey : y = x
        · subst ey; omega
        · rw [nU_e, nU_n ey]; omega
      · rw [nU_n ex]
        by_cases ey : y = p
        · subst ey
          rw [nU_e]
          have := c' x e.symm
          omega
        · rw [nU_n ey]; exact hxy)) p hp hp9
    rw [nU_e] at this
    omega
end
section
/-! ===== pure: steps, the model's and the class's ===== -/
section STP
variable {K : Nat → Nat} {S T : FS} {za zb zc zd : Int32}
def E59 (T T' : FS) : Prop := T'.1 = T.1 ∧ ∀ a : Nat, a ≠ 59 → T'.2 a = T.2 a
theorem E59.rf : E59 T T := ⟨rfl, fun _ _ => rfl⟩
theorem E59.tr {A B C : FS} (h : E59 A B) (g : E59 B C) : E59 A C := ⟨g.1.trans h.1, fun a ha => (g.2 a ha).trans (h.2 a ha)⟩
theorem E59.w {j : Nat} {v : Int32} : E59 T (wA T 59 j v) := ⟨rfl, fun _ ha => wA_n ha⟩
theorem E59.me {T' : FS} (h : E59 T T') : ME T T' := ⟨⟨⟨h.2 _ (by decide), h.2 _ (by decide), h.2 _ (by decide), h.2 _ (by decide), h.2 _ (by decide)⟩, by rw [h.1], by rw [h.1]⟩, h.2 _ (by decide)⟩
theorem man_c {p c : Nat} (h : p < 20) (hc : c = 2 ∨ c = 3) : q_X12_man T (nI p) (nI c) = some (T.2 55 (14 * p + (110 + c))) := by
  rcases hc with rfl | rfl
  · exact man_2 h
  · exact man_3 h
theorem m59_w {P q v : Nat} {d : Nat → Nat} (hm : ∀ x : Nat, x < P → T.2 59 x = nI (d x)) : ∀ x : Nat, x < P → (wA T 59 q (nI v)).2 59 x = nI (nU d q v x) := by
  intro x hx
  rw [wA_e]
  by_cases z : x = q
  · subst z; rw [pk_us, nU_e]
  · rw [pk_un z, nU_n z]; exact hm x hx
theorem st_col {n : Nat → Int32} {P k p c : Nat} {d : Nat → Nat} (hn : T.2 55 = n) (hP : P ≤ 20) (hp : p < P) (hc : c = 2 ∨ c = 3) (hk : k < 19) (hb : BI n P k d) (hm : ∀ x : Nat, x < P → T.2 59 x = nI (d x)) (hv : vP P (n (14 * p + (110 + c)))) :
    ∃ (T' : FS) (d' : Nat → Nat), E59 T T' ∧ BI n P k d' ∧ (∀ x : Nat, x < P → T'.2 59 x = nI (d' x)) ∧ (∀ x y : Nat, Dn k d x y → Dn k d' x y) ∧ (∀ q : Nat, q < P → n (14 * p + (110 + c)) = nI q → Dn k d' p q ∧ Dn k d' q p) ∧ ∀ kk g, l_X12_stepsOf_53 (nI (k + 1)) (nI p) kk (g + 1) T (nI c) = l_X12_stepsOf_53 (nI (k + 1)) (nI p) kk g T' (nI (c + 1)) := by
  have hc3 : ¬ (3 : Int32) < nI c := by rcases hc with rfl | rfl <;> decide
  have km1 : nI (k + 1) - 1 = nI k := nI_pred k
  rcases hv with e | ⟨q, hq, e⟩
  · refine ⟨T, d, E59.rf, hb, hm, fun _ _ z => z, fun q hq z => ?_, fun kk g => ?_⟩
    · rw [e] at z; exact absurd z.symm (nI_m1 (by omega))
    · rw [l_X12_stepsOf_53, if_neg hc3, man_c (by omega) hc, fb_s, hn, e, if_pos (by decide), nI_1]
  · have eg : EG n P p q := ⟨⟨hp, hq⟩, Or.inl (by rcases hc with rfl | rfl; exact Or.inl e; exact Or.inr e)⟩
    have d9p := hb.1 p hp
    have d9q := hb.1 q hq
    have ipq := hb.2.2.1 p q eg
    have iqp := hb.2.2.1 q p eg.symm
    have inj : ∀ q' : Nat, q' < P → n (14 * p + (110 + c)) = nI q' → q' = q := fun q' hq' z => nI_inj (by omega) (by omega) (z.symm.trans e)
    have mp := hm p hp
    have mq := hm q hq
    have ixp : ix 20 (nI p) = some p := ix_nI (by omega) (by decide)
    have ixq : ix 20 (nI q) = some q := ix_nI (by omega) (by decide)
    have npq : ¬ nI q < 0 := nI_pos (by omega)
    by_cases c1 : d q = k
    · by_cases c2 : k + 1 < d p
      · have r := hb.rlx eg.symm (by omega)
        rw [c1] at r
        have hpq : q ≠ p := fun z => by subst z; omega
        refine ⟨wA T 59 p (nI (k + 1)), nU d p (k + 1), E59.w, r.1, m59_w hm, r.2.2, fun q' hq' z => ?_, fun kk g => ?_⟩
        · rw [inj q' hq' z]
          exact ⟨fun z => by rw [nU_e] at z; omega, r.2.1⟩
        · rw [l_X12_stepsOf_53]
          have f1 : (nI (k + 1) = nI k) = False := eq_false (fun z => by have := nI_inj (by omega) (by omega) z; omega)
          simp only [hc3, man_c (show p < 20 by omega) hc, fb_s, hn, e, npq, ixq, mq, km1, c1, ixp, mp, nI_lt c2 (show d p < 2 ^ 31 by omega), fl_s, wA_e, pk_us, f1, nI_1, ↓reduceIte]
      · refine ⟨T, d, E59.rf, hb, hm, fun _ _ z => z, fun q' hq' z => ?_, fun kk g => ?_⟩
        · rw [inj q' hq' z]
          exact ⟨fun z => by omega, fun z => by omega⟩
        · rw [l_X12_stepsOf_53]
          simp only [hc3, man_c (show p < 20 by omega) hc, fb_s, hn, e, npq, ixq, mq, km1, c1, ixp, mp, nI_nlt (show d p ≤ k + 1 by omega) (show k + 1 < 2 ^ 31 by omega), nI_nlt (show k ≤ k + 1 by omega) (show k + 1 < 2 ^ 31 by omega), fl_s, nI_1, ↓reduceIte, ite_self]
    · have f1 : (nI (d q) = nI k) = False := eq_false (fun z => c1 (nI_inj (by omega) (by omega) z))
      by_cases c2 : d p = k
      · by_cases c3 : k + 1 < d q
        · have r := hb.rlx eg (by omega)
          rw [c2] at r
          refine ⟨wA T 59 q (nI (k + 1)), nU d q (k + 1), E59.w, r.1, m59_w hm, r.2.2, fun q' hq' z => ?_, fun kk g => ?_⟩
          · rw [inj q' hq' z]
            exact ⟨r.2.1, fun z => by rw [nU_e] at z; omega⟩
          · rw [l_X12_stepsOf_53]
            simp only [hc3, man_c (show p < 20 by omega) hc, fb_s, hn, e, npq, ixq, mq, km1, f1, ixp, mp, c2, nI_lt c3 (show d q < 2 ^ 31 by omega), fl_s, nI_1, ↓reduceIte]
        · refine ⟨T, d, E59.rf, hb, hm, fun _ _ z => z, fun q' hq' z => ?_, fun kk g => ?_⟩
          · rw [inj q' hq' z]
            exact ⟨fun z => by omega, fun z => iqp (by omega)⟩
          · rw [l_X12_stepsOf_53]
            simp only [hc3, man_c (show p < 20 by omega) hc, fb_s, hn, e, npq, ixq, mq, km1, f1, ixp, mp, c2, nI_nlt (show d q ≤ k + 1 by omega) (show k + 1 < 2 ^ 31 by omega), fl_s, nI_1, ↓reduceIte]
      · have f2 : (nI (d p) = nI k) = False := eq_false (fun z => c2 (nI_inj (by omega) (by omega) z))
        refine ⟨T, d, E59.rf, hb, hm, fun _ _ z => z, fun q' hq' z => ?_, fun kk g => ?_⟩
        · rw [inj q' hq' z]
          exact ⟨fun z => ipq (by omega), fun z => iqp (by omega)⟩
        · rw [l_X12_stepsOf_53]
          simp only [hc3, man_c (show p < 20 by omega) hc, fb_s, hn, e, npq, ixq, mq, km1, f1, ixp, mp, f2, fl_s, nI_1, ↓reduceIte]
theorem st_per {n : Nat → Int32} {P k p : Nat} {d : Nat → Nat} (hn : T.2 55 = n) (hP : P ≤ 20) (hp : p < P) (hk : k < 19) (hb : BI n P k d) (hm : ∀ x : Nat, x < P → T.2 59 x = nI (d x)) (hv : vP P (n (14 * p + 112))) (hv3 : vP P (n (14 * p + 113))) :
    ∃ (T' : FS) (d' : Nat → Nat), E59 T T' ∧ BI n P k d' ∧ (∀ x : Nat, x < P → T'.2 59 x = nI (d' x)) ∧ (∀ x y : Nat, Dn k d x y → Dn k d' x y) ∧ (∀ q : Nat, q < P → n (14 * p + 112) = nI q ∨ n (14 * p + 113) = nI q → Dn k d' p q ∧ Dn k d' q p) ∧ ∀ kk, l_X12_stepsOf_53 (nI (k + 1)) (nI p) kk FU T 2 = kk T' 4 := by
  obtain ⟨T1, d1, e1, b1, m1, x1, y1, g1⟩ := st_col (c := 2) hn hP hp (Or.inl rfl) hk hb hm hv
  obtain ⟨T2, d2, e2, b2, m2, x2, y2, g2⟩ := st_col (T := T1) (c := 3) ((e1.2 55 (by decide)).trans hn) hP hp (Or.inr rfl) hk b1 m1 hv3
  refine ⟨T2, d2, e1.tr e2, b2, m2, fun x y z => x2 x y (x1 x y z), fun q hq z => ?_, fun kk => ?_⟩
  · rcases z with z | z
    · exact ⟨x2 _ _ (y1 q hq z).1, x2 _ _ (y1 q hq z).2⟩
    · exact y2 q hq z
  · rw [show l_X12_stepsOf_53 (nI (k + 1)) (nI p) kk FU T 2 = l_X12_stepsOf_53 (nI (k + 1)) (nI p) kk (4999 + 1) T (nI 2) from rfl, g1 kk 4999, show (4999 : Nat) = 4998 + 1 from rfl, g2 kk 4998, show (4998 : Nat) = 4997 + 1 from rfl, l_X12_stepsOf_53, if_pos (by decide)]; rfl
theorem st_rnd {n : Nat → Int32} {P k : Nat} (hP : P ≤ 20) (h2 : n 2 = nI P) (hk : k < 19) (hv : ∀ p : Nat, p < P → vP P (n (14 * p + 112)) ∧ vP P (n (14 * p + 113))) : ∀ (g i : Nat) (T : FS) (d : Nat → Nat), i ≤ P → P - i < g → T.2 55 = n → BI n P k d → (∀ x : Nat, x < P → T.2 59 x = nI (d x)) → (∀ p q : Nat, p < i → q < P → n (14 * p + 112) = nI q ∨ n (14 * p + 113) = nI q → Dn k d p q ∧ Dn k d q p) →
    ∃ (T' : FS) (d' : Nat → Nat), E59 T T' ∧ BI n P (k + 1) d' ∧ (∀ x : Nat, x < P → T'.2 59 x = nI (d' x)) ∧ ∀ kk, l_X12_stepsOf_40 (nI (k + 1)) kk g T (nI i) = kk T' (nI P) := by
  intro g
  induction g with
  | zero => intro i T d _ h; exact absurd h (Nat.not_lt_zero _)
  | succ g ih =>
    intro i T d hi hg hn hb hm hd
    by_cases c : i < P
    · obtain ⟨T1, d1, e1, b1, m1, x1, y1, g1⟩ := st_per hn hP c hk hb hm (hv i c).1 (hv i c).2
      obtain ⟨T2, d2, e2, b2, m2, g2⟩ := ih (i + 1) T1 d1 (by omega) (by omega) ((e1.2 55 (by decide)).trans hn) b1 m1 (fun p q hp hq z => by
        by_cases e : p = i
        · subst e; exact y1 q hq z
        · have := hd p q (by omega) hq z
          exact ⟨x1 _ _ this.1, x1 _ _ this.2⟩)
      refine ⟨T2, d2, e1.tr e2, b2, m2, fun kk => ?_⟩
      rw [l_X12_stepsOf_40, hn, h2, if_pos (nI_lt c (by omega)), g1, nI_1]; exact g2 kk
    · have ei : i = P := by omega
      subst ei
      refine ⟨T, d, E59.rf, hb.next (fun p q e => ?_), hm, fun kk => ?_⟩
      · obtain ⟨⟨hp, hq⟩, e | e⟩ := e
        · exact (hd p q hp hq e).1
        · exact (hd q p hq hp e).2
      · rw [l_X12_stepsOf_40, hn, h2, if_neg (nI_nlt (Nat.le_refl _) (by omega))]
theorem st_all {n : Nat → Int32} {P : Nat} (hP : P ≤ 20) (h2 : n 2 = nI P) (hv : ∀ p : Nat, p < P → vP P (n (14 * p + 112)) ∧ vP P (n (14 * p + 113))) : ∀ (g k : Nat) (T : FS) (d : Nat → Nat), k ≤ 19 → 19 - k < g → T.2 55 = n → BI n P k d → (∀ x : Nat, x < P → T.2 59 x = nI (d x)) →
    ∃ (T' : FS) (d' : Nat → Nat), E59 T T' ∧ BI n P 19 d' ∧ (∀ x : Nat, x < P → T'.2 59 x = nI (d' x)) ∧ ∀ kk, l_X12_stepsOf_32 kk g T (nI (k + 1)) = kk T' (nI 20) := by
  intro g
  induction g with
  | zero => intro k T d _ h; exact absurd h (Nat.not_lt_zero _)
  | succ g ih =>
    intro k T d hi hg hn hb hm
    by_cases c : k < 19
    · obtain ⟨T1, d1, e1, b1, m1, g1⟩ := st_rnd hP h2 c hv FU 0 T d (Nat.zero_le _) (FU_lt (by omega)) hn hb hm (fun p q z => absurd z (Nat.not_lt_zero _))
      obtain ⟨T2, d2, e2, b2, m2, g2⟩ := ih (k + 1) T1 d1 (by omega) (by omega) ((e1.2 55 (by decide)).trans hn) b1 m1
      refine ⟨T2, d2, e1.tr e2, b2, m2, fun kk => ?_⟩
      rw [l_X12_stepsOf_32, if_pos (show nI (k + 1) < 20 from nI_lt (b := 20) (by omega) (by decide)), show ∀ kk, l_X12_stepsOf_40 (nI (k + 1)) kk FU T 0 = kk T1 (nI P) from g1, nI_1]; exact g2 kk
    · have ei : k = 19 := by omega
      subst ei
      refine ⟨T, d, E59.rf, hb, hm, fun kk => ?_⟩
      rw [l_X12_stepsOf_32, if_neg (by decide)]
theorem st_ini : ∀ (g i : Nat) (T : FS), i ≤ 20 → 20 - i < g → (∀ x : Nat, x < i → T.2 59 x = nI (if x = 0 then 0 else 99)) → ∃ T' : FS, E59 T T' ∧ (∀ x : Nat, x < 20 → T'.2 59 x = nI (if x = 0 then 0 else 99)) ∧ ∀ kk, l_X12_stepsOf_2 kk g T (nI i) = kk T' (nI 20) := by
  intro g
  induction g with
  | zero => intro i T _ h; exact absurd h (Nat.not_lt_zero _)
  | succ g ih =>
    intro i T hi hg hm
    by_cases c : i < 20
    · have i20 : nI i < 20 := nI_lt (b := 20) c (by decide)
      obtain ⟨T1, e1, m1, g1⟩ := ih (i + 1) (wA T 59 i (nI (if i = 0 then 0 else 99))) (by omega) (by omega) (fun x hx => by
        rw [wA_e]
        by_cases z : x = i
        · subst z; rw [pk_us]
        · rw [pk_un z]; exact hm x (by omega))
      refine ⟨T1, E59.w.tr e1, m1, fun kk => ?_⟩
      rw [l_X12_stepsOf_2, if_pos i20, ix_nI c (by decide)]
      by_cases z : i = 0
      · subst z
        rw [show nI 0 = 0 from nI_0, if_pos rfl, fb_s, fl_s]; exact g1 kk
      · rw [if_neg (nI_ne0 (by omega) (by omega)), fb_s, fl_s, nI_1]
        rw [if_neg z] at g1; exact g1 kk
    · have ei : i = 20 := by omega
      subst ei
      refine ⟨T, E59.rf, hm, fun kk => ?_⟩
      rw [l_X12_stepsOf_2, if_neg (by decide)]
/-- the model's steps are the class's -/
theorem RelR.steps (h : RelR K S (T.2 55)) {p : Nat} (hp : p < K 2) : ∃ T' : FS, E59 T T' ∧ f_X12_stepsOf T (nI p) = some (S.2 7 (14 * p + 11), T') := by
  obtain ⟨k1, k2, c2⟩ := h.ct 6 2 20 (by decide)
  obtain ⟨s, s1, s2, s3, s4⟩ := h.st
  have hv : ∀ p : Nat, p < K 2 → vP (K 2) (T.2 55 (14 * p + 112)) ∧ vP (K 2) (T.2 55 (14 * p + 113)) := fun p hp => ⟨(h.pe p hp).2.2.2.1, (h.pe p hp).2.2.2.2.1⟩
  obtain ⟨T1, e1, m1, g1⟩ := st_ini FU 0 T (Nat.zero_le _) (FU_lt (by omega)) (fun x hx => absurd hx (Nat.not_lt_zero _))
  have b0 : BI (T.2 55) (K 2) 0 (fun x => if x = 0 then 0 else 99) := by
    refine ⟨fun p _ => by show (if p = 0 then 0 else 99) ≤ 99; split <;> omega, if_pos rfl, fun p q _ z => absurd z (Nat.not_lt_zero _), fun p _ p0 z => ?_, fun D d0 _ p _ z => ?_⟩
    · rw [show (fun x => if x = 0 then 0 else 99) p = 99 from if_neg p0] at z; omega
    · by_cases p0 : p = 0
      · subst p0; rw [d0]; exact Nat.zero_le _
      · rw [show (fun x => if x = 0 then 0 else 99) p = 99 from if_neg p0] at z; omega
  obtain ⟨T2, d2, e2, b2, m2, g2⟩ := st_all c2 k2 hv FU 0 T1 _ (by omega) (FU_lt (by omega)) (e1.2 55 (by decide)) b0 (fun x hx => m1 x (by omega))
  refine ⟨T2, e1.tr e2, ?_⟩
  unfold f_X12_stepsOf
  rw [show ∀ kk, l_X12_stepsOf_2 kk FU T 0 = kk T1 (nI 20) from g1, show ∀ kk, l_X12_stepsOf_32 kk FU T1 1 = kk T2 (nI 20) from g2, ix_nI (by omega) (by decide), fb_s, m2 p hp, (s1 p hp).1]
  have f2 := b2.fin (by omega) (by decide) (by omega)
  have a1 := s4 d2 b2.2.1 f2.1 p hp
  have a2 := b2.2.2.2.2 s (s2 (by omega)) s3 p hp
  have a3 := (s1 p hp).2
  have a4 := f2.2 p hp
  have : d2 p = s p := by omega
  rw [this]
end STP
end
section
/-! ===== pure: steps, the class's; about ===== -/
section STC
variable {K : Nat → Nat} {S T : FS} {za zb zc zd : Int32}
def E11 (S S' : FS) : Prop := S'.1 = S.1 ∧ (∀ a : Nat, a ≠ 7 → S'.2 a = S.2 a) ∧ ∀ j : Nat, j % 14 ≠ 11 → S'.2 7 j = S.2 7 j
theorem E11.rf : E11 S S := ⟨rfl, fun _ _ => rfl, fun _ _ => rfl⟩
theorem E11.tr {A B C : FS} (h : E11 A B) (g : E11 B C) : E11 A C := ⟨g.1.trans h.1, fun a ha => (g.2.1 a ha).trans (h.2.1 a ha), fun j hj => (g.2.2 j hj).trans (h.2.2 j hj)⟩
theorem E11.w {p : Nat} {v : Int32} : E11 S (wA S 7 (14 * p + 11) v) := ⟨rfl, fun _ ha => wA_n ha, fun j hj => by rw [wA_e, pk_un (by omega)]⟩
theorem m7_w {P q v : Nat} {d : Nat → Nat} (hm : ∀ x : Nat, x < P → S.2 7 (14 * x + 11) = nI (d x)) : ∀ x : Nat, x < P → (wA S 7 (14 * q + 11) (nI v)).2 7 (14 * x + 11) = nI (nU d q v x) := by
  intro x hx
  rw [wA_e]
  by_cases z : x = q
  · subst z; rw [pk_us, nU_e]
  · rw [pk_un (by omega), nU_n z]; exact hm x hx
theorem bn_one {n : Nat → Int32} {P k p c : Nat} {d : Nat → Nat} (hP : P ≤ 20) (hp : p < P) (hc : c = 112 ∨ c = 113) (hb : BI n P k d) (hm : ∀ x : Nat, x < P → S.2 7 (14 * x + 11) = nI (d x)) (hv : vP P (n (14 * p + c))) :
    ∃ (S' : FS) (d' : Nat → Nat), E11 S S' ∧ BI n P k d' ∧ (∀ x : Nat, x < P → S'.2 7 (14 * x + 11) = nI (d' x)) ∧ (∀ x y : Nat, Dn k d x y → Dn k d' x y) ∧ (∀ q : Nat, q < P → n (14 * p + c) = nI q → Dn k d' p q ∧ Dn k d' q p) ∧ f_X7_bringNearer S (nI p) (n (14 * p + c)) = some (0, S') := by
  unfold f_X7_bringNearer
  rcases hv with e | ⟨q, hq, e⟩
  · refine ⟨S, d, E11.rf, hb, hm, fun _ _ z => z, fun q hq z => ?_, by rw [if_pos e]⟩
    rw [e] at z; exact absurd z.symm (nI_m1 (by omega))
  · have eg : EG n P p q := ⟨⟨hp, hq⟩, Or.inl (by rcases hc with rfl | rfl; exact Or.inl e; exact Or.inr e)⟩
    have d9p := hb.1 p hp
    have d9q := hb.1 q hq
    have inj : ∀ q' : Nat, q' < P → nI q = nI q' → q' = q := fun q' hq' z => (nI_inj (by omega) (by omega) z).symm
    have p20 : p < 20 := by omega
    have q20 : q < 20 := by omega
    rw [if_neg (by rw [e]; exact nI_m1 (by omega)), e]
    simp only [g6_11 p20, g6_11 q20, fv_s, fl_s, s6_11 p20, s6_11 q20, hm p hp, hm q hq, nI_1, imin_n (show d p < 2 ^ 31 by omega) (show d q + 1 < 2 ^ 31 by omega), imin_n (show d q < 2 ^ 31 by omega) (show d p + 1 < 2 ^ 31 by omega)]
    by_cases c1 : d q + 1 < d p
    · have r := hb.rlx eg.symm c1
      have hpq : q ≠ p := fun z => by subst z; omega
      rw [show min (d p) (d q + 1) = d q + 1 by omega, show min (d q) (d p + 1) = d q by omega]
      refine ⟨_, nU d p (d q + 1), E11.w.tr E11.w, r.1, fun x hx => ?_, r.2.2, fun q' hq' z => ?_, rfl⟩
      · have := m7_w (q := q) (v := d q) (m7_w (q := p) (v := d q + 1) hm) x hx
        rw [this]
        by_cases z : x = q
        · subst z; rw [nU_e, nU_n hpq]
        · rw [nU_n z]
      · rw [inj q' hq' z]
        exact ⟨fun z => by rw [nU_e, nU_n hpq]; omega, r.2.1⟩
    · by_cases c2 : d p + 1 < d q
      · have r := hb.rlx eg c2
        have hpq : p ≠ q := fun z => by subst z; omega
        rw [show min (d p) (d q + 1) = d p by omega, show min (d q) (d p + 1) = d p + 1 by omega]
        refine ⟨_, nU d q (d p + 1), E11.w.tr E11.w, r.1, fun x hx => ?_, r.2.2, fun q' hq' z => ?_, rfl⟩
        · have := m7_w (q := q) (v := d p + 1) (m7_w (q := p) (v := d p) hm) x hx
          rw [this]
          by_cases z : x = q
          · subst z; rw [nU_e, nU_e]
          · rw [nU_n z, nU_n z]
            by_cases y : x = p
            · subst y; rw [nU_e]
            · rw [nU_n y]
        · rw [inj q' hq' z]
          exact ⟨r.2.1, fun z => by rw [nU_e, nU_n hpq]; omega⟩
      · rw [show min (d p) (d q + 1) = d p by omega, show min (d q) (d p + 1) = d q by omega]
        refine ⟨_, d, E11.w.tr E11.w, hb, fun x hx => ?_, fun _ _ z => z, fun q' hq' z => ?_, rfl⟩
        · have := m7_w (q := q) (v := d q) (m7_w (q := p) (v := d p) hm) x hx
          rw [this]
          by_cases z : x = q
          · subst z; rw [nU_e]
          · rw [nU_n z]
            by_cases y : x = p
            · subst y; rw [nU_e]
            · rw [nU_n y]
        · rw [inj q' hq' z]
          exact ⟨fun z => by omega, fun z => by omega⟩
theorem bn_rnd {n : Nat → Int32} {P k : Nat} (hP : P ≤ 20) (hv : ∀ p : Nat, p < P → vP P (n (14 * p + 112)) ∧ vP P (n (14 * p + 113))) : ∀ (g i : Nat) (S : FS) (d : Nat → Nat), i ≤ P → P - i < g → (∀ p : Nat, p < P → S.2 7 (14 * p + 2) = n (14 * p + 112) ∧ S.2 7 (14 * p + 3) = n (14 * p + 113)) → BI n P k d → (∀ x : Nat, x < P → S.2 7 (14 * x + 11) = nI (d x)) → (∀ p q : Nat, p < i → q < P → n (14 * p + 112) = nI q ∨ n (14 * p + 113) = nI q → Dn k d p q ∧ Dn k d q p) →
    ∃ (S' : FS) (d' : Nat → Nat), E11 S S' ∧ BI n P (k + 1) d' ∧ (∀ x : Nat, x < P → S'.2 7 (14 * x + 11) = nI (d' x)) ∧ ∀ kk, l_X7_findSteps_17 (nI P) kk g S (nI i) = kk S' (nI P) := by
  intro g
  induction g with
  | zero => intro i S d _ h; exact absurd h (Nat.not_lt_zero _)
  | succ g ih =>
    intro i S d hi hg hn hb hm hd
    by_cases c : i < P
    · obtain ⟨S1, d1, e1, b1, m1, x1, y1, g1⟩ := bn_one hP c (Or.inl rfl) hb hm (hv i c).1
      obtain ⟨S2, d2, e2, b2, m2, x2, y2, g2⟩ := bn_one hP c (Or.inr rfl) b1 m1 (hv i c).2
      have e12 := e1.tr e2
      obtain ⟨S3, d3, e3, b3, m3, g3⟩ := ih (i + 1) S2 d2 (by omega) (by omega) (fun p hp => by rw [e12.2.2 _ (by omega), e12.2.2 _ (by omega)]; exact hn p hp) b2 m2 (fun p q hp hq z => by
        by_cases e : p = i
        · subst e
          rcases z with z | z
          · exact ⟨x2 _ _ (y1 q hq z).1, x2 _ _ (y1 q hq z).2⟩
          · exact y2 q hq z
        · have := hd p q (by omega) hq z
          exact ⟨x2 _ _ (x1 _ _ this.1), x2 _ _ (x1 _ _ this.2)⟩)
      refine ⟨S3, d3, e12.tr e3, b3, m3, fun kk => ?_⟩
      rw [l_X7_findSteps_17, if_pos (nI_lt c (by omega)), g6_2 (by omega), (hn i c).1, g1, fb_s, g6_3 (by omega), e1.2.2 _ (by omega), (hn i c).2, g2, fb_s, nI_1]; exact g3 kk
    · have ei : i = P := by omega
      subst ei
      refine ⟨S, d, E11.rf, hb.next (fun p q e => ?_), hm, fun kk => ?_⟩
      · obtain ⟨⟨hp, hq⟩, e | e⟩ := e
        · exact (hd p q hp hq e).1
        · exact (hd q p hq hp e).2
      · rw [l_X7_findSteps_17, if_neg (nI_nlt (Nat.le_refl _) (by omega))]
theorem bn_all {n : Nat → Int32} {P : Nat} (hP : P ≤ 20) (hv : ∀ p : Nat, p < P → vP P (n (14 * p + 112)) ∧ vP P (n (14 * p + 113))) : ∀ (g k : Nat) (S : FS) (d : Nat → Nat), k ≤ P → P - k < g → (∀ p : Nat, p < P → S.2 7 (14 * p + 2) = n (14 * p + 112) ∧ S.2 7 (14 * p + 3) = n (14 * p + 113)) → BI n P k d → (∀ x : Nat, x < P → S.2 7 (14 * x + 11) = nI (d x)) →
    ∃ (S' : FS) (d' : Nat → Nat), E11 S S' ∧ BI n P P d' ∧ (∀ x : Nat, x < P → S'.2 7 (14 * x + 11) = nI (d' x)) ∧ ∀ kk, l_X7_findSteps_10 (nI P) kk g S (nI k) = kk S' (nI P) := by
  intro g
  induction g with
  | zero => intro k S d _ h; exact absurd h (Nat.not_lt_zero _)
  | succ g ih =>
    intro k S d hi hg hn hb hm
    by_cases c : k < P
    · obtain ⟨S1, d1, e1, b1, m1, g1⟩ := bn_rnd hP hv FU 0 S d (Nat.zero_le _) (FU_lt (by omega)) hn hb hm (fun p q z => absurd z (Nat.not_lt_zero _))
      obtain ⟨S2, d2, e2, b2, m2, g2⟩ := ih (k + 1) S1 d1 (by omega) (by omega) (fun p hp => by rw [e1.2.2 _ (by omega), e1.2.2 _ (by omega)]; exact hn p hp) b1 m1
      refine ⟨S2, d2, e1.tr e2, b2, m2, fun kk => ?_⟩
      rw [l_X7_findSteps_10, if_pos (nI_lt c (by omega)), show ∀ kk, l_X7_findSteps_17 (nI P) kk FU S 0 = kk S1 (nI P) from g1, nI_1]; exact g2 kk
    · have ei : k = P := by omega
      subst ei
      refine ⟨S, d, E11.rf, hb, hm, fun kk => ?_⟩
      rw [l_X7_findSteps_10, if_neg (nI_nlt (Nat.le_refl _) (by omega))]
/-- the class finds the steps anew -/
theorem findSteps_e {n : Nat → Int32} {d : Nat → Nat} (hP : K 2 ≤ 20) (hP1 : 1 ≤ K 2) (h6 : S.1 6 = nI (K 2)) (hv : ∀ p : Nat, p < K 2 → vP (K 2) (n (14 * p + 112)) ∧ vP (K 2) (n (14 * p + 113))) (hn : ∀ p : Nat, p < K 2 → S.2 7 (14 * p + 2) = n (14 * p + 112) ∧ S.2 7 (14 * p + 3) = n (14 * p + 113)) (hb : BI n (K 2) 0 d) (hm : ∀ x : Nat, x < K 2 → S.2 7 (14 * x + 11) = nI (d x)) :
    ∃ S' : FS, E11 S S' ∧ RSt K (S'.2 7) n ∧ f_X7_findSteps S = some (0, S') := by
  obtain ⟨S1, d1, e1, b1, m1, g1⟩ := bn_all hP hv FU 0 S d (Nat.zero_le _) (FU_lt (by omega)) hn hb hm
  have f := b1.fin (by omega) (by omega) hP1
  refine ⟨S1, e1, ⟨d1, fun p hp => ⟨m1 p hp, ?_⟩, fun _ => b1.2.1, f.1, b1.2.2.2.2⟩, ?_⟩
  · have := f.2 p hp; omega
  · unfold f_X7_findSteps
    rw [fv_s, h6, show ∀ kk, l_X7_findSteps_10 (nI (K 2)) kk FU S 0 = kk S1 (nI (K 2)) from g1]
end STC
end
section
/-! ===== pure: about, person ===== -/
section OPI
variable {K : Nat → Nat} {S T : FS} {za zb zc zd : Int32}
theorem holds_l (h : RelR K S (T.2 55)) (x : Int32) {k : Int32 → Int32 → Option Int32} : ∀ (m i : Nat), i ≤ K 3 → K 3 - i < m → l_X12_holdsMany_4 x T k m (nI (pm_cnt (fun r => T.2 55 (6 * r + 391) == x) i)) (nI i) = k (nI (pm_cnt (fun r => T.2 55 (6 * r + 391) == x) (K 3))) (nI (K 3)) := by
  obtain ⟨k1, k2, k3⟩ := h.ct 8 3 20 (by decide)
  intro m
  induction m with
  | zero => intro i _ hm; exact absurd hm (Nat.not_lt_zero _)
  | succ m ih =>
    intro i hi hm
    rw [l_X12_holdsMany_4, k2]
    by_cases c : i < K 3
    · have e := ih (i + 1) (by omega) (by omega)
      rw [cnt_s] at e
      by_cases c2 : T.2 55 (6 * i + 391) = x
      · rw [if_pos (by rw [c2]; exact beq_self_eq_true x)] at e
        simp only [nI_lt c (show K 3 < 2 ^ 31 by omega), its_1 (show i < 20 by omega), fb_s, c2, fv_s, nI_1, ↓reduceIte]; exact e
      · rw [if_neg (by rw [beq_iff_eq]; exact c2), Nat.add_zero] at e
        simp only [nI_lt c (show K 3 < 2 ^ 31 by omega), its_1 (show i < 20 by omega), fb_s, c2, fv_s, nI_1, Int32.add_zero, ↓reduceIte]; exact e
    · have ei : i = K 3 := by omega
      subst ei
      rw [if_neg (nI_nlt (Nat.le_refl _) (by omega))]
theorem RelR.holds (h : RelR K S (T.2 55)) (x : Int32) : ∃ v : Int32, q_X12_holdsMany T x = some v ∧ qRows 8 20 6 S 2 x = some v := by
  obtain ⟨k1, k2, k3⟩ := h.ct 8 3 20 (by decide)
  refine ⟨_, holds_l h x FU 0 (Nat.zero_le _) (FU_lt (by omega)), ?_⟩
  rw [qRows_e k1 k3 (by decide)]
  have ec : pm_cnt (fun r => S.2 9 (r * 6 + 2) == x) (K 3) = pm_cnt (fun r => T.2 55 (6 * r + 391) == x) (K 3) := pm_cnt_congr (fun j hj => by
    have := (h.pw j hj).1.2.2.1
    show (S.2 9 (j * 6 + 2) == x) = _
    rw [show j * 6 + 2 = 6 * j + 2 by omega, this])
  rw [show pm_cnt (fun r => S.2 (8 + 1) (r * 6 + 2) == x) (K 3) = _ from ec]
theorem op_about2 (h : RelR K S (T.2 55)) (hz : zb = 0 → ∀ p : Nat, p < K 2 → za = nI p → S.2 7 (14 * p + 4) = T.2 55 (14 * p + 114)) : OK2 S T (f_X11_about S za zb) (f_X12_about T za zb) := by
  unfold f_X11_about f_X12_about p_X11_yearsBetween
  simp only [fb_id]
  have c2 := (h.ct 6 2 20 (by decide)).2.2
  obtain ⟨d1, d2, d3⟩ := h.ct 102 8 2000 (by decide)
  rcases h.per za with ⟨c1, m1⟩ | ⟨p, hp, rfl, c1, m1⟩
  · simp only [c1, m1, ↓reduceIte]; exact ok_1 h
  · have p20 : p < 20 := by omega
    obtain ⟨⟨e0, e1, e2, e3⟩, ⟨e7, e8, e10, e12, e13⟩, -⟩ := h.pe p hp
    simp only [c1, m1, i10, ↓reduceIte, g6_4 p20, g6_7 p20, g6_8 p20, g6_1 p20, g6_9 p20, g6_13 p20, g6_11 p20, g6_12 p20, man_4 p20, man_7 p20, man_8 p20, man_1 p20, man_11 p20, man_12 p20, fb_s, e7, e8, e1, e13, e12, d1, d2]
    by_cases z0 : zb = 0
    · rw [if_pos z0, if_pos z0]
      rw [hz z0 p hp rfl]; exact ok0 h CX.rf MX.rf
    · rw [if_neg z0, if_neg z0]
      by_cases z1 : zb = 1
      · rw [if_pos z1, if_pos z1]
        exact ok0 h CX.rf MX.rf
      · rw [if_neg z1, if_neg z1]
        by_cases z2 : zb = 2
        · rw [if_pos z2, if_pos z2]
          exact ok0 h CX.rf MX.rf
        · rw [if_neg z2, if_neg z2]
          by_cases z3 : zb = 3
          · rw [if_pos z3, if_pos z3]
            exact ok0 h CX.rf MX.rf
          · rw [if_neg z3, if_neg z3]
            by_cases z4 : zb = 4
            · rw [if_pos z4, if_pos z4]
              obtain ⟨T1, g1, g2⟩ := h.knw hp
              rw [g2]
              exact ok0 (by rw [g1.2 55 (by decide)]; exact h) CX.rf g1.me.1
            · rw [if_neg z4, if_neg z4]
              by_cases z5 : zb = 5
              · rw [if_pos z5, if_pos z5]
                obtain ⟨v, v1, v2⟩ := h.holds (nI p)
                rw [v1, v2, fb_s, fb_s]; exact ok0 h CX.rf MX.rf
              · rw [if_neg z5, if_neg z5]
                by_cases z6 : zb = 6
                · rw [if_pos z6, if_pos z6]
                  rcases h.liv hp with ⟨l1, l2, l3⟩ | ⟨l1, l2, l5, l3, l4⟩
                  · have : S.2 7 (14 * p + 9) = 0 := by
                      rcases (h.pe p hp).2.2.1 with ⟨a1, -⟩ | ⟨-, ⟨d, a1, a2⟩, -⟩
                      · exact a1
                      · rw [l1] at a2; exact absurd a2.symm (nI_m1 (by omega))
                    rw [l3, fb_s, if_neg (by decide), this]; exact ok0 h CX.rf MX.rf
                  · rw [l4, fb_s, if_pos rfl, l5]; exact ok0 h CX.rf MX.rf
                · rw [if_neg z6, if_neg z6]
                  by_cases z7 : zb = 7
                  · rw [if_pos z7, if_pos z7]
                    exact ok0 h CX.rf MX.rf
                  · rw [if_neg z7, if_neg z7]
                    by_cases z8 : zb = 8
                    · rw [if_pos z8, if_pos z8]
                      obtain ⟨T1, g1, g2⟩ := h.steps hp
                      rw [g2]
                      exact ok0 (by rw [g1.2 55 (by decide)]; exact h) CX.rf g1.me.1
                    · rw [if_neg z8, if_neg z8]
                      by_cases z9 : zb = 9
                      · rw [if_pos z9, if_pos z9]
                        exact ok0 h CX.rf MX.rf
                      · rw [if_neg z9, if_neg z9]
                        exact ok_1 h
theorem op_about (h : RelR K S (T.2 55)) : OK1 S T (f_X11_about S za zb) (f_X12_about T za zb) := by
  by_cases z : zb = 0
  · subst z
    unfold f_X11_about f_X12_about
    simp only [fb_id]
    have c2 := (h.ct 6 2 20 (by decide)).2.2
    rcases h.per za with ⟨c1, m1⟩ | ⟨p, hp, rfl, c1, m1⟩
    · simp only [c1, m1, ↓reduceIte]; exact (ok_1 h).one
    · have p20 : p < 20 := by omega
      simp only [c1, m1, i10, ↓reduceIte, man_4 p20, fb_s]
      exact ⟨_, _, S, T, rfl, rfl, ⟨K, h⟩, CX.rf, MX.rf⟩
  · exact (op_about2 h (fun q => absurd q z)).one
theorem RelR.par (h : RelR K S (T.2 55)) (x y z : Int32) : (q_X12_isParent T x y z = some 0 ∧ p_X7_mayBeParent S x y z = 0) ∨ (q_X12_isParent T x y z = some 1 ∧ p_X7_mayBeParent S x y z = 1 ∧ vP (K 2) x) := by
  unfold q_X12_isParent p_X7_mayBeParent
  have c2 := (h.ct 6 2 20 (by decide)).2.2
  by_cases c : x = -1
  · rw [if_pos c, if_pos c]; exact Or.inr ⟨rfl, rfl, Or.inl c⟩
  · rw [if_neg c, if_neg c]
    rcases h.per x with ⟨c1, m1⟩ | ⟨p, hp, rfl, c1, m1⟩
    · rw [c1, m1]; exact Or.inl ⟨rfl, rfl⟩
    · have p20 : p < 20 := by omega
      obtain ⟨⟨e0, e1, -⟩, -⟩ := h.pe p hp
      simp only [c1, m1, i10, ↓reduceIte, man_0 p20, man_1 p20, g6_0 p20, g6_1 p20, e0, e1, fb_s]
      split
      · split
        · exact Or.inr ⟨rfl, rfl, Or.inr ⟨p, hp, rfl⟩⟩
        · exact Or.inl ⟨rfl, rfl⟩
      · exact Or.inl ⟨rfl, rfl⟩
end OPI
end
section
/-! ===== pure: person ===== -/
section OPP
variable {K : Nat → Nat} {S T : FS} {za zb zc zd : Int32}
theorem sets_g {p c : Nat} {x : Int32} (h : p < 20) (hc : c < 14) : f_X12_sets T (nI p) (nI c) x = some (0, wA T 55 (14 * p + (110 + c)) x) := by
  unfold f_X12_sets
  rw [show ix 2071 (((110 : Int32) + (14 : Int32) * nI p) + nI c) = some (14 * p + (110 + c)) from ix_lin (b := 110) (s := 14) (by omega) (by omega) (by decide)]; rfl
theorem pers_l {P : Nat} (hP : P < 20) : ∀ (g i : Nat) (T : FS), i ≤ 14 → 14 - i < g → (∀ c : Nat, c < i → T.2 55 (14 * P + (110 + c)) = 0) →
    ∃ T' : FS, (T'.1 = T.1 ∧ (∀ a : Nat, a ≠ 55 → T'.2 a = T.2 a) ∧ ∀ j : Nat, ¬ (14 * P + 110 ≤ j ∧ j < 14 * P + 124) → T'.2 55 j = T.2 55 j) ∧ (∀ c : Nat, c < 14 → T'.2 55 (14 * P + (110 + c)) = 0) ∧ ∀ kk, l_X12_person_121 (nI P) kk g T (nI i) = kk T' (nI 14) := by
  intro g
  induction g with
  | zero => intro i T _ h; exact absurd h (Nat.not_lt_zero _)
  | succ g ih =>
    intro i T hi hg hm
    by_cases c : i < 14
    · obtain ⟨T1, ⟨e1, e2, e3⟩, m1, g1⟩ := ih (i + 1) (wA T 55 (14 * P + (110 + i)) 0) (by omega) (by omega) (fun x hx => by
        rw [wA_e]
        by_cases z : x = i
        · subst z; rw [pk_us]
        · rw [pk_un (by omega)]; exact hm x (by omega))
      refine ⟨T1, ⟨e1, fun a ha => (e2 a ha).trans (wA_n ha), fun j hj => (e3 j hj).trans (by rw [wA_e, pk_un (by omega)])⟩, m1, fun kk => ?_⟩
      rw [l_X12_person_121, if_pos (show nI i < 14 from nI_lt (b := 14) c (by decide)), sets_g hP c, fb_s, nI_1]; exact g1 kk
    · have ei : i = 14 := by omega
      subst ei
      refine ⟨T, ⟨rfl, fun _ _ => rfl, fun _ _ => rfl⟩, hm, fun kk => ?_⟩
      rw [l_X12_person_121, if_neg (by decide)]
theorem BI.ext {n n' : Nat → Int32} {P : Nat} {s : Nat → Nat} (hP : 1 ≤ P) (h : BI n P 0 s) (e : ∀ p : Nat, p < P → n' (14 * p + 112) = n (14 * p + 112) ∧ n' (14 * p + 113) = n (14 * p + 113)) : BI n' (P + 1) 0 (nU s P 99) := by
  have eg : ∀ p q : Nat, EG n P p q → EG n' (P + 1) p q := fun p q ⟨⟨a, b⟩, c⟩ => ⟨⟨by omega, by omega⟩, by rw [(e p a).1, (e p a).2, (e q b).1, (e q b).2]; exact c⟩
  refine ⟨fun p hp => ?_, ?_, fun p q _ z => absurd z (Nat.not_lt_zero _), fun p hp p0 z => ?_, fun D d0 dF p hp z => ?_⟩
  · by_cases c : p = P
    · subst c; rw [nU_e]; exact Nat.le_refl _
    · rw [nU_n c]; exact h.1 p (by omega)
  · rw [nU_n (by omega)]; exact h.2.1
  · by_cases c : p = P
    · subst c; rw [nU_e] at z; omega
    · rw [nU_n c] at z ⊢
      obtain ⟨q, a, b⟩ := h.2.2.2.1 p (by omega) p0 z
      refine ⟨q, eg p q a, ?_⟩
      have := a.1.2
      rw [nU_n (by omega)]; exact b
  · by_cases c : p = P
    · subst c; rw [nU_e] at z; omega
    · rw [nU_n c] at z ⊢
      exact h.2.2.2.2 D d0 (SF.of (fun x y xy => dF.eg (eg x y xy))) p (by omega) z
theorem op_person (h : RelR K S (T.2 55)) : OK2 S T (f_X11_person S za zb zc zd) (f_X12_person T za zb zc zd) := by
  unfold f_X11_person f_X12_person
  simp only [fb_id, fv_s]
  obtain ⟨k1, k2, c2⟩ := h.ct 6 2 20 (by decide)
  obtain ⟨t1, t2, c0⟩ := h.ct 2 0 10 (by decide)
  obtain ⟨d1, d2, d3⟩ := h.ct 102 8 2000 (by decide)
  rcases out_c za 0 1 with ⟨a1, a2⟩ | ⟨a1, a2⟩
  · rcases out_c zb (-20000) (nI (K 8)) with ⟨b1, b2⟩ | ⟨b1, b2⟩
    · have bzb : bB zb := by
        have q : ¬ (zb < -20000 ∨ nI (K 8) < zb) := by
          intro q; unfold fOut at b1; rw [if_pos q] at b1; exact absurd b1 (by decide)
        exact ⟨fun z => q (Or.inl z), fun z => q (Or.inr (Int32.lt_of_le_of_lt (nI_le (b := 2000) d3 (by decide)) z))⟩
      by_cases z : zc < 0
      · simp only [a1, a2, d1, d2, b1, b2, z, i10, ↓reduceIte]; exact ok_1 h
      · rcases h.twn zd with ⟨g1, g2⟩ | ⟨t, ht, rfl, g1, g2⟩
        · -- no such town: both find 1
          simp only [a1, a2, d1, d2, b1, b2, z, g1, g2, i10, ↓reduceIte]
          rcases h.par (zc / 100 - 1) 1 zb with ⟨q1, q2⟩ | ⟨q1, q2, q3⟩
          · simp only [q1, q2, fb_s, ↓reduceIte]; exact ok_1 h
          · rcases h.par (zc - zc / 100 * 100 - 1) 0 zb with ⟨r1, r2⟩ | ⟨r1, r2, r3⟩
            · simp only [q1, q2, r1, r2, fb_s, i10, ↓reduceIte]; exact ok_1 h
            · simp only [q1, q2, r1, r2, fb_s, i10, ↓reduceIte]; exact ok_1 h
        · simp only [a1, a2, d1, d2, b1, b2, z, g1, g2, i10, ↓reduceIte]
          rcases h.par (zc / 100 - 1) 1 zb with ⟨q1, q2⟩ | ⟨q1, q2, q3⟩
          · simp only [q1, q2, fb_s, ↓reduceIte]; exact ok_1 h
          · rcases h.par (zc - zc / 100 * 100 - 1) 0 zb with ⟨r1, r2⟩ | ⟨r1, r2, r3⟩
            · simp only [q1, q2, r1, r2, fb_s, i10, ↓reduceIte]; exact ok_1 h
            · simp only [q1, q2, r1, r2, fb_s, i10, ↓reduceIte]
              generalize zc / 100 - 1 = xf at q1 q2 q3 ⊢
              generalize zc - zc / 100 * 100 - 1 = xm at r1 r2 r3 ⊢
              by_cases c : K 2 = 20
              · rw [fFull_t k1 (by omega) (by omega), k2, if_neg (by decide), if_pos (by rw [c]; rfl)]; exact ok_4 h
              · rw [fFull_f k1 (by omega) (by decide), if_pos rfl, k2, if_neg (fun q => c (nI_inj (by omega) (by decide) (q.trans (show (20 : Int32) = nI 20 from rfl))))]
                have p20 : K 2 < 20 := by omega
                unfold f_X7_addPerson
                rw [fApp_f k1 p20 (by decide)]
                generalize hS0 : (ui S.1 6 (nI (K 2 + 1)), ua S.2 (6 + 1) (pm_apf 14 (K 2) za (S.2 (6 + 1)))) = S0
                have s0a : S0.1 = ui S.1 6 (nI (K 2 + 1)) := by rw [← hS0]
                have s0b : S0.2 7 = pm_apf 14 (K 2) za (S.2 7) := by
                  rw [← hS0]
                  show ua S.2 7 (pm_apf 14 (K 2) za (S.2 7)) 7 = _
                  rw [ua_eq]
                have cq0 : CQ [7] 6 S S0 := by rw [← hS0]; exact CQ.rf.app (by decide) (by decide) (by decide) (by decide)
                -- the class's row, and its steps
                obtain ⟨S7, eS7, hS7⟩ : ∃ S7 : FS, S7 = wA (wA (wA (wA (wA (wA (wA S0 7 (14 * K 2 + 1) zb) 7 (14 * K 2 + 2) xf) 7 (14 * K 2 + 3) xm) 7 (14 * K 2 + 4) (nI t)) 7 (14 * K 2 + 10) (-1)) 7 (14 * K 2 + 11) (if K 2 = 0 then 0 else 99)) 7 (14 * K 2 + 12) 1 ∧ ∀ kk, (fb (some (nI (K 2), S0)) (fun r2 => fl (fP 6 20 14 r2.2 r2.1 1 zb) (fun S3 => fl (fP 6 20 14 S3 r2.1 2 xf) (fun S4 => fl (fP 6 20 14 S4 r2.1 3 xm) (fun S5 => fl (fP 6 20 14 S5 r2.1 4 (nI t)) (fun S6 => fl (fP 6 20 14 S6 r2.1 10 (-1)) (fun S7 => if r2.1 = 0 then (fl (fP 6 20 14 S7 r2.1 11 0) (fun S13 => fl (fP 6 20 14 S13 r2.1 12 1) (fun S14 => fb (f_X7_findSteps S14) (fun r16 => some (r2.1, r16.2))))) else (fl (fP 6 20 14 S7 r2.1 11 99) (fun S9 => fl (fP 6 20 14 S9 r2.1 12 1) (fun S10 => fb (f_X7_findSteps S10) (fun r12 => some (r2.1, r12.2))))))))))) = kk) → fb (f_X7_findSteps S7) (fun r => some (nI (K 2), r.2)) = kk := by
                  refine ⟨_, rfl, fun kk hk => ?_⟩
                  rw [← hk]
                  simp only [fb_s, fl_s, s6_1 p20, s6_2 p20, s6_3 p20, s6_4 p20, s6_10 p20, s6_11 p20, s6_12 p20]
                  by_cases z0 : K 2 = 0
                  · rw [if_pos z0, if_pos (by rw [z0]; rfl)]
                  · rw [if_neg z0, if_neg (nI_ne0 (by omega) (by omega))]
                rw [← hS7 _ rfl]
                obtain ⟨T1, ⟨f1, f2, f3⟩, f4, f5⟩ := pers_l p20 FU 0 (wA T 55 2 (nI (K 2) + 1)) (Nat.zero_le _) (FU_lt (by omega)) (fun _ z => absurd z (Nat.not_lt_zero _))
                simp only [fl_s]
                rw [show ∀ kk, l_X12_person_121 (nI (K 2)) kk FU (wA T 55 2 (nI (K 2) + 1)) 0 = kk T1 (nI 14) from f5]
                simp only [fb_s, sets_0 p20, sets_1 p20, sets_2 p20, sets_3 p20, sets_4 p20, sets_9 p20, sets_10 p20, sets_12 p20]
                generalize hn' : upd (upd (upd (upd (upd (upd (upd (upd (T1.2 55) (14 * K 2 + 110) za) (14 * K 2 + 111) zb) (14 * K 2 + 112) xf) (14 * K 2 + 113) xm) (14 * K 2 + 114) (nI t)) (14 * K 2 + 119) (-1)) (14 * K 2 + 120) (-1)) (14 * K 2 + 122) 1 = n'
                have no : ∀ j : Nat, ¬ (14 * K 2 + 110 ≤ j ∧ j < 14 * K 2 + 124) → j ≠ 2 → n' j = T.2 55 j := fun j hj j2 => by
                  rw [← hn']
                  simp (disch := omega) only [pk_un]
                  rw [f3 j hj, wA_e, pk_un j2]
                have n2 : n' 2 = nI (K 2 + 1) := by
                  rw [← hn']
                  simp (disch := omega) only [pk_un]
                  rw [f3 2 (by omega), wA_e, pk_us, nI_1]
                have nw : (n' (14 * K 2 + 110) = za ∧ n' (14 * K 2 + 111) = zb ∧ n' (14 * K 2 + 112) = xf ∧ n' (14 * K 2 + 113) = xm) ∧ (n' (14 * K 2 + 114) = nI t ∧ n' (14 * K 2 + 117) = 0 ∧ n' (14 * K 2 + 118) = 0 ∧ n' (14 * K 2 + 119) = -1) ∧ n' (14 * K 2 + 120) = -1 ∧ n' (14 * K 2 + 121) = 0 ∧ n' (14 * K 2 + 122) = 1 := by
                  rw [← hn']
                  simp (disch := omega) only [pk_un, pk_us]
                  exact ⟨⟨trivial, trivial, trivial, trivial⟩, ⟨trivial, f4 7 (by decide), f4 8 (by decide), trivial⟩, trivial, f4 11 (by decide), trivial⟩
                obtain ⟨⟨w0, w1, w2, w3⟩, ⟨w4, w7, w8, w9⟩, w10, w11, w12⟩ := nw
                have s7a : S7.1 = ui S.1 6 (nI (K 2 + 1)) := by rw [eS7]; exact s0a
                have s7o : ∀ j : Nat, j < 14 * K 2 → S7.2 7 j = S.2 7 j := fun j hj => by
                  rw [eS7]
                  simp only [wA_e]
                  simp (disch := omega) only [pk_un]
                  rw [s0b, apf_o hj]
                have s7w : (S7.2 7 (14 * K 2) = za ∧ S7.2 7 (14 * K 2 + 1) = zb ∧ S7.2 7 (14 * K 2 + 2) = xf ∧ S7.2 7 (14 * K 2 + 3) = xm) ∧ (S7.2 7 (14 * K 2 + 4) = nI t ∧ S7.2 7 (14 * K 2 + 7) = 0 ∧ S7.2 7 (14 * K 2 + 8) = 0 ∧ S7.2 7 (14 * K 2 + 9) = 0) ∧ S7.2 7 (14 * K 2 + 10) = -1 ∧ S7.2 7 (14 * K 2 + 11) = (if K 2 = 0 then 0 else 99) ∧ S7.2 7 (14 * K 2 + 12) = 1 ∧ S7.2 7 (14 * K 2 + 13) = 0 := by
                  rw [eS7]
                  simp only [wA_e]
                  simp (disch := omega) only [pk_un, pk_us, s0b, apf_0, apf_c]
                  exact ⟨⟨trivial, trivial, trivial, trivial⟩, ⟨trivial, trivial, trivial, trivial⟩, trivial, trivial, trivial, trivial⟩
                obtain ⟨⟨v0, v1, v2, v3⟩, ⟨v4, v7, v8, v9⟩, v10, v11, v12, v13⟩ := s7w
                have cq7 : CQ [7] 6 S S7 := by
                  rw [eS7]
                  exact ((((((cq0.wA (by decide) (by decide)).wA (by decide) (by decide)).wA (by decide) (by decide)).wA (by decide) (by decide)).wA (by decide) (by decide)).wA (by decide) (by decide)).wA (by decide) (by decide)
                have oldp : ∀ p c : Nat, p < K 2 → c < 14 → n' (14 * p + (110 + c)) = T.2 55 (14 * p + (110 + c)) := fun p c hp hc => no _ (by omega) (by omega)
                have hb : ∃ d : Nat → Nat, BI n' (K 2 + 1) 0 d ∧ ∀ x : Nat, x < K 2 + 1 → S7.2 7 (14 * x + 11) = nI (d x) := by
                  obtain ⟨s, s1, s2, s3, s4⟩ := h.st
                  by_cases z0 : K 2 = 0
                  · refine ⟨fun _ => 0, ⟨fun _ _ => Nat.zero_le _, rfl, fun p q _ z => absurd z (Nat.not_lt_zero _), fun p hp p0 _ => absurd (show p = 0 by omega) p0, fun D d0 _ p hp _ => ?_⟩, fun x hx => ?_⟩
                    · rw [show p = 0 by omega, d0]; exact Nat.le_refl _
                    · rw [show 14 * x + 11 = 14 * K 2 + 11 by omega, v11, if_pos z0]; rfl
                  · refine ⟨nU s (K 2) 99, BI.ext (by omega) (RSt.bi (by omega) (fun p hp => (s1 p hp).2) s2 s3 s4) (fun p hp => ⟨oldp p 2 hp (by decide), oldp p 3 hp (by decide)⟩), fun x hx => ?_⟩
                    by_cases e : x = K 2
                    · subst e; rw [nU_e, v11, if_neg z0]; rfl
                    · rw [nU_n e, s7o _ (by omega)]; exact (s1 x (by omega)).1
                obtain ⟨d, hb1, hb2⟩ := hb
                have par : ∀ p : Nat, p < K 2 + 1 → (S7.2 7 (14 * p + 2) = n' (14 * p + 112) ∧ S7.2 7 (14 * p + 3) = n' (14 * p + 113)) ∧ vP (K 2 + 1) (n' (14 * p + 112)) ∧ vP (K 2 + 1) (n' (14 * p + 113)) := fun p hp => by
                  by_cases e : p = K 2
                  · subst e; rw [v2, v3, w2, w3]; exact ⟨⟨rfl, rfl⟩, q3.mono (by omega), r3.mono (by omega)⟩
                  · obtain ⟨⟨-, -, e2, e3⟩, -, -, g1, g2, -⟩ := h.pe p (by omega)
                    rw [s7o _ (by omega), s7o _ (by omega), show n' (14 * p + 112) = _ from oldp p 2 (by omega) (by decide), show n' (14 * p + 113) = _ from oldp p 3 (by omega) (by decide)]
                    exact ⟨⟨e2, e3⟩, g1.mono (by omega), g2.mono (by omega)⟩
                obtain ⟨S8, e8, st8, g8⟩ := findSteps_e (K := kU K 2 (K 2 + 1)) (S := S7) (n := n') (d := d) (by rw [kU_e]; omega) (by rw [kU_e]; omega) (by rw [kU_e, s7a]; rfl) (by rw [kU_e]; exact fun p hp => (par p hp).2) (by rw [kU_e]; exact fun p hp => (par p hp).1) (by rw [kU_e]; exact hb1) (by rw [kU_e]; exact hb2)
                rw [g8, fb_s, fb_s]
                have cq8 : CQ [7] 6 S S8 := cq7.tr ⟨⟨⟨e8.2.1 _ (by decide), e8.2.1 _ (by decide), e8.2.1 _ (by decide), e8.2.1 _ (by decide)⟩, by rw [e8.1], by rw [e8.1]⟩, fun _ _ _ _ => by rw [e8.1], fun q hq h3 => e8.2.1 q (fun z => h3 (by rw [z]; decide))⟩
                refine okt (K := kU K 2 (K 2 + 1)) ?_ cq8.1 ⟨⟨f2 56 (by decide), f2 69 (by decide), f2 70 (by decide), f2 71 (by decide), f2 72 (by decide)⟩, by show T1.1 22 = _; rw [f1]; rfl, by show T1.1 3 = _; rw [f1]; rfl⟩
                simp only [wA_e]
                rw [hn']
                refine h.onP_2 cq8 (fun j h1 h2 h3 => no j (by omega) h3) (fun i hi => kU_n hi) (by rw [kU_e]; omega) ?_ (onct 6 2 20 (by decide) ?_ ?_ (by rw [kU_e]; omega)) ?_ ?_ st8 ?_ ?_
                · rw [e8.1, s7a, no 9 (by omega) (by decide)]; exact h.1.2
                · rw [kU_e, e8.1, s7a]; rfl
                · rw [kU_e, n2]
                · intro q hq
                  rw [kU_e] at hq
                  unfold PLv
                  rw [kU_e, kU_n (show (0 : Nat) ≠ 2 by decide), kU_n (show (8 : Nat) ≠ 2 by decide)]
                  have e8r : ∀ c : Nat, c < 14 → c ≠ 11 → S8.2 7 (14 * q + c) = S7.2 7 (14 * q + c) := fun c hc hc2 => e8.2.2 _ (by omega)
                  rw [e8r 1 (by decide) (by decide), e8r 2 (by decide) (by decide), e8r 3 (by decide) (by decide), e8r 4 (by decide) (by decide), e8r 5 (by decide) (by decide), e8r 6 (by decide) (by decide), e8r 7 (by decide) (by decide), e8r 8 (by decide) (by decide), e8r 9 (by decide) (by decide), e8r 10 (by decide) (by decide), e8r 12 (by decide) (by decide), e8r 13 (by decide) (by decide), show S8.2 7 (14 * q) = S7.2 7 (14 * q) from e8r 0 (by decide) (by decide)]
                  by_cases e : q = K 2
                  · subst e
                    rw [v0, v1, v2, v3, v4, v7, v8, v9, v10, v12, v13, w0, w1, w2, w3, w4, w7, w8, w9, w10, w11, w12]
                    exact ⟨⟨rfl, rfl, rfl, rfl⟩, ⟨rfl, rfl, rfl, rfl, rfl⟩, Or.inl ⟨rfl, rfl, rfl, fun z => absurd z (nI_m1 (by omega))⟩, q3.mono (by omega), r3.mono (by omega), Or.inr ⟨t, ht, rfl⟩, ⟨0, by decide, rfl⟩, ⟨1, by decide, rfl⟩, bzb⟩
                  · have hh := h.pe q (by omega)
                    unfold PLv at hh
                    have o := fun c hc => oldp q c (show q < K 2 by omega) hc
                    rw [show n' (14 * q + 110) = _ from o 0 (by decide), show n' (14 * q + 111) = _ from o 1 (by decide), show n' (14 * q + 112) = _ from o 2 (by decide), show n' (14 * q + 113) = _ from o 3 (by decide), show n' (14 * q + 114) = _ from o 4 (by decide), show n' (14 * q + 115) = _ from o 5 (by decide), show n' (14 * q + 116) = _ from o 6 (by decide), show n' (14 * q + 117) = _ from o 7 (by decide), show n' (14 * q + 118) = _ from o 8 (by decide), show n' (14 * q + 119) = _ from o 9 (by decide), show n' (14 * q + 120) = _ from o 10 (by decide), show n' (14 * q + 121) = _ from o 11 (by decide), show n' (14 * q + 122) = _ from o 12 (by decide)]
                    simp (disch := omega) only [s7o]
                    exact ⟨hh.1, hh.2.1, hh.2.2.1, hh.2.2.2.1.mono (by omega), hh.2.2.2.2.1.mono (by omega), hh.2.2.2.2.2⟩
                · refine ⟨?_, fun _ => by rw [kU_n (by decide)]; omega⟩
                  rw [kU_e, cnt_s, pm_cnt_congr (q := fun p => T.2 55 (14 * p + 121) == 1) (fun j hj => by rw [show n' (14 * j + 121) = _ from oldp j 11 hj (by decide)])]
                  rw [show (n' (14 * K 2 + 121) == 1) = false by rw [w11]; decide, if_neg (by decide)]
                  exact h.se.1
                · intro x hx
                  rw [kU_e]
                  rcases hx with hx | ⟨q, q1, q2, q3⟩
                  · exact Or.inl hx
                  · exact Or.inr ⟨q, by omega, q2, by rw [show n' (14 * q + 119) = _ from oldp q 9 q1 (by decide)]; exact q3⟩
                · exact fun p hp => oldp p 11 hp (by decide)
    · simp only [a1, a2, d1, d2, b1, b2, i10, ↓reduceIte]; exact ok_1 h
  · simp only [a1, a2, i10, ↓reduceIte]; exact ok_1 h
end OPP
end
section
/-! ===== pure: die ===== -/
section OPD
variable {K : Nat → Nat} {S T : FS} {za zb zc zd : Int32}
theorem upd_cm {f : Nat → Int32} {a b : Nat} {x y : Int32} (h : a ≠ b) : upd (upd f a x) b y = upd (upd f b y) a x := by
  funext j
  by_cases c : j = a
  · subst c; rw [pk_un h, pk_us, pk_us]
  · by_cases c2 : j = b
    · subst c2; rw [pk_us, pk_un c, pk_us]
    · rw [pk_un c2, pk_un c, pk_un c, pk_un c2]
/-- nothing of p stands: nothing ends -/
theorem endAll_no (h : PQ K S T) {p : Nat} (hs : ∀ k : Nat, k < K 7 → S.2 19 (5 * k + 4) = 0 → ¬ T.2 55 (6 * k + 1808) < nI (K 8) → T.2 55 (6 * k + 1806) ≠ nI p) : ∀ (m i : Nat) (c : Int32), i ≤ K 7 → K 7 - i < m → ∀ k, l_X0_endAllOf_14 (nI p) 1 (nI (K 7)) k m S c (nI i) = k S c (nI (K 7)) := by
  intro m
  induction m with
  | zero => intro i c _ hm; exact absurd hm (Nat.not_lt_zero _)
  | succ m ih =>
    intro i c hi hm k
    have c7 := h.1
    by_cases ci : i < K 7
    · obtain ⟨i30, st⟩ := h.stn ci
      have e0 : S.2 19 (5 * i) = T.2 55 (6 * i + 1806) := (h.2.2.2.2.2.2 i ci).1.1
      rw [l_X0_endAllOf_14, if_pos (nI_lt ci (by omega)), nI_1]
      rcases st with ⟨s1, s2, s3, s4, s5, s6⟩ | ⟨s1, s2, s3⟩
      · rw [s1, if_neg (by decide), g18_0 i30, e0, if_neg (hs i ci s3 s6)]; exact ih (i + 1) c (by omega) (by omega) k
      · rw [s1, if_pos rfl]; exact ih (i + 1) c (by omega) (by omega) k
    · have ei : i = K 7 := by omega
      subst ei
      rw [l_X0_endAllOf_14, if_neg (nI_nlt (Nat.le_refl _) (by omega))]
/-- the powers of one who died -/
theorem die_l {p : Nat} (hp : p < 20) (c3 : K 3 ≤ 20) (c2 : K 2 ≤ 20) : ∀ (m i : Nat) (S T : FS), i ≤ K 3 → K 3 - i < m → T.2 55 3 = nI (K 3) → RPw K (S.2 9) (upd (T.2 55) (14 * p + 119) (-1)) → (∀ w : Nat, w < i → T.2 55 (6 * w + 391) ≠ nI p ∧ T.2 55 (6 * w + 392) ≠ nI p) →
    ∃ S' T' : FS, (S'.1 = S.1 ∧ CQ [9] 103 S S') ∧ (MX T T' ∧ ∀ j : Nat, ¬ (390 ≤ j ∧ j < 510) → T'.2 55 j = T.2 55 j) ∧ RPw K (S'.2 9) (upd (T'.2 55) (14 * p + 119) (-1)) ∧ (∀ w : Nat, w < K 3 → T'.2 55 (6 * w + 391) ≠ nI p ∧ T'.2 55 (6 * w + 392) ≠ nI p) ∧ (∀ k, l_X7_bury_70 (nI p) (nI (K 3)) k m S (nI i) = k S' (nI (K 3))) ∧ ∀ k, l_X12_die_107 (nI p) k m T (nI i) = k T' (nI (K 3)) := by
  intro m
  induction m with
  | zero => intro i S T _ h; exact absurd h (Nat.not_lt_zero _)
  | succ m ih =>
    intro i S T hi hm h3 hr hd
    by_cases ci : i < K 3
    · have i20 : i < 20 := by omega
      have hri := (hr i ci).1
      have ei1 : S.2 9 (6 * i + 2) = T.2 55 (6 * i + 391) := hri.2.2.1.trans (pk_un (by omega))
      have ei2 : S.2 9 (6 * i + 3) = T.2 55 (6 * i + 392) := hri.2.2.2.1.trans (pk_un (by omega))
      by_cases z1 : T.2 55 (6 * i + 391) = nI p
      · obtain ⟨S1, T1, ⟨a1, a2⟩, ⟨b1, b2⟩, r1, d1, g1, g2⟩ := ih (i + 1) (wA (wA (wA S 9 (6 * i + 3) (-1)) 9 (6 * i + 4) (-1)) 9 (6 * i + 2) (-1)) (wA (wA (wA T 55 (6 * i + 391) (-1)) 55 (6 * i + 392) (-1)) 55 (6 * i + 393) (-1)) (by omega) (by omega) (by simp only [wA_e]; simp (disch := omega) only [pk_un]; exact h3) (by
            simp only [wA_e]
            have := (hr.lent (w := i) (x := -1) (y := -1) c3 c2 ci (Or.inl rfl) (fun _ => rfl)).hold (w := i) (x := -1) c3 c2 ci (Or.inl rfl)
            rw [show upd (upd (upd (upd (T.2 55) (6 * i + 391) (-1)) (6 * i + 392) (-1)) (6 * i + 393) (-1)) (14 * p + 119) (-1) = upd (upd (upd (upd (T.2 55) (14 * p + 119) (-1)) (6 * i + 392) (-1)) (6 * i + 393) (-1)) (6 * i + 391) (-1) by
              rw [upd_cm (a := 6 * i + 393) (by omega), upd_cm (a := 6 * i + 392) (b := 14 * p + 119) (by omega), upd_cm (a := 6 * i + 391) (b := 14 * p + 119) (by omega), upd_cm (a := 6 * i + 391) (b := 6 * i + 392) (by omega), upd_cm (a := 6 * i + 391) (b := 6 * i + 393) (by omega)]]
            exact this) (fun w hw => by
            simp only [wA_e]
            by_cases e : w = i
            · subst e
              simp (disch := omega) only [pk_us, pk_un]
              exact ⟨fun z => nI_m1 (a := p) (by omega) z.symm, fun z => nI_m1 (a := p) (by omega) z.symm⟩
            · simp (disch := omega) only [pk_un]; exact hd w (by omega))
        refine ⟨S1, T1, ⟨a1, (((CQ.rf.wA (by decide) (by decide)).wA (by decide) (by decide)).wA (by decide) (by decide)).tr a2⟩, ⟨MX.tr ⟨⟨rfl, rfl, rfl, rfl, rfl⟩, rfl, rfl⟩ b1, fun j hj => (b2 j hj).trans (by simp only [wA_e]; simp (disch := omega) only [pk_un])⟩, r1, d1, fun k => ?_, fun k => ?_⟩
        · rw [l_X7_bury_70, if_pos (nI_lt ci (by omega)), g8_2 i20, ei1, if_pos z1]
          unfold f_X7_handOver f_X7_setLent
          simp only [fb_s, fl_s, s8_3 i20, s8_4 i20, s8_2 i20, nI_1]; exact g1 k
        · rw [l_X12_die_107, h3, if_pos (nI_lt ci (by omega)), its_1 i20, fb_s, if_pos z1]
          unfold f_X12_comesBack
          simp only [fb_s, makes_1 i20, makes_2 i20, makes_3 i20, nI_1]; exact g2 k
      · by_cases z2 : T.2 55 (6 * i + 392) = nI p
        · obtain ⟨S1, T1, ⟨a1, a2⟩, ⟨b1, b2⟩, r1, d1, g1, g2⟩ := ih (i + 1) (wA (wA S 9 (6 * i + 3) (-1)) 9 (6 * i + 4) (-1)) (wA (wA T 55 (6 * i + 392) (-1)) 55 (6 * i + 393) (-1)) (by omega) (by omega) (by simp only [wA_e]; simp (disch := omega) only [pk_un]; exact h3) (by
            simp only [wA_e]
            have := hr.lent (w := i) (x := -1) (y := -1) c3 c2 ci (Or.inl rfl) (fun _ => rfl)
            rw [show upd (upd (upd (T.2 55) (6 * i + 392) (-1)) (6 * i + 393) (-1)) (14 * p + 119) (-1) = upd (upd (upd (T.2 55) (14 * p + 119) (-1)) (6 * i + 392) (-1)) (6 * i + 393) (-1) by
              rw [upd_cm (a := 6 * i + 393) (by omega), upd_cm (a := 6 * i + 392) (b := 14 * p + 119) (by omega)]]
            exact this) (fun w hw => by
            simp only [wA_e]
            by_cases e : w = i
            · subst e
              simp (disch := omega) only [pk_us, pk_un]
              exact ⟨z1, fun z => nI_m1 (a := p) (by omega) z.symm⟩
            · simp (disch := omega) only [pk_un]; exact hd w (by omega))
          refine ⟨S1, T1, ⟨a1, ((CQ.rf.wA (by decide) (by decide)).wA (by decide) (by decide)).tr a2⟩, ⟨MX.tr ⟨⟨rfl, rfl, rfl, rfl, rfl⟩, rfl, rfl⟩ b1, fun j hj => (b2 j hj).trans (by simp only [wA_e]; simp (disch := omega) only [pk_un])⟩, r1, d1, fun k => ?_, fun k => ?_⟩
          · rw [l_X7_bury_70, if_pos (nI_lt ci (by omega)), g8_2 i20, ei1, if_neg z1, g8_3 i20, ei2, if_pos z2]
            unfold f_X7_setLent
            simp only [fb_s, fl_s, s8_3 i20, s8_4 i20, nI_1]; exact g1 k
          · rw [l_X12_die_107, h3, if_pos (nI_lt ci (by omega)), its_1 i20, fb_s, if_neg z1, its_2 i20, fb_s, if_pos z2]
            unfold f_X12_comesBack
            simp only [fb_s, makes_2 i20, makes_3 i20, nI_1]; exact g2 k
        · obtain ⟨S1, T1, ⟨a1, a2⟩, ⟨b1, b2⟩, r1, d1, g1, g2⟩ := ih (i + 1) S T (by omega) (by omega) h3 hr (fun w hw => by
            by_cases e : w = i
            · subst e; exact ⟨z1, z2⟩
            · exact hd w (by omega))
          refine ⟨S1, T1, ⟨a1, a2⟩, ⟨b1, b2⟩, r1, d1, fun k => ?_, fun k => ?_⟩
          · rw [l_X7_bury_70, if_pos (nI_lt ci (by omega)), g8_2 i20, ei1, if_neg z1, g8_3 i20, ei2, if_neg z2, nI_1]; exact g1 k
          · rw [l_X12_die_107, h3, if_pos (nI_lt ci (by omega)), its_1 i20, fb_s, if_neg z1, its_2 i20, fb_s, if_neg z2, nI_1]; exact g2 k
    · have ei : i = K 3 := by omega
      subst ei
      refine ⟨S, T, ⟨rfl, CQ.rf⟩, ⟨MX.rf, fun _ _ => rfl⟩, hr, hd, fun k => ?_, fun k => ?_⟩
      · rw [l_X7_bury_70, if_neg (nI_nlt (Nat.le_refl _) (by omega))]
      · rw [l_X12_die_107, h3, if_neg (nI_nlt (Nat.le_refl _) (by omega))]
/-- the promises of one who died: class ends them always, the model where one was seated -/
theorem die_q {p : Nat} (h : RelR K S (T.2 55)) (hp : p < K 2) (T1 : FS) (hq : ∀ j : Nat, 1806 ≤ j → j < 1986 → T1.2 55 j = T.2 55 j) (h7 : T1.2 55 7 = T.2 55 7) (h8 : T1.2 55 8 = T.2 55 8) (h11 : T1.2 55 (14 * p + 121) = T.2 55 (14 * p + 121)) :
    ∃ S' T' : FS, f_X0_unseat S (nI p) = some (0, S') ∧ ((T1.2 55 (14 * p + 121) = 1 ∧ f_X12_leaves T1 (nI p) = some (0, T')) ∨ (T1.2 55 (14 * p + 121) ≠ 1 ∧ T' = T1)) ∧ (S'.1 = S.1 ∧ CQ [7, 19] 103 S S' ∧ S'.2 7 = upd (S.2 7) (14 * p + 13) 0) ∧ (MX T1 T' ∧ NQ 1806 1986 9 (upd (T1.2 55) (14 * p + 121) 0) (T'.2 55) ∧ T'.2 55 9 = T1.2 55 9) ∧ RPr K (S'.2 19) (T'.2 55) ∧ RPu K (T'.2 55) ∧ ∀ k : Nat, k < K 7 → S'.2 19 (5 * k + 4) = 0 → ¬ T'.2 55 (6 * k + 1808) < nI (K 8) → ∃ q : Nat, q < K 2 ∧ q ≠ p ∧ T'.2 55 (6 * k + 1806) = nI q ∧ T.2 55 (14 * q + 121) = 1 := by
  have c20 := (h.ct 6 2 20 (by decide)).2.2
  obtain ⟨k1, k2, c7⟩ := h.ct 18 7 30 (by decide)
  have p20 : p < 20 := by omega
  obtain ⟨v, hv, ev⟩ := (h.pe p hp).2.2.2.2.2.2.1
  have e18 : (wA S 7 (14 * p + 13) 0).1 18 = nI (K 7) := k1
  have hq0 : ∀ x : Int32, PQ K (wA S 7 (14 * p + 13) 0) (wA T1 55 (14 * p + 121) x) := fun x => by
    obtain ⟨c7, c8, a1, a2, a3, a4, hr⟩ := PQ.of h
    refine ⟨c7, c8, a1, a2, ?_, ?_, ?_⟩
    · rw [wA_e, pk_un (by omega), h7]; exact a3
    · rw [wA_e, pk_un (by omega), h8]; exact a4
    · rw [wA_e, wA_n (by decide)]; exact hr.same c7 rfl (Nat.le_refl _) rfl (fun _ _ => rfl) (fun j j1 j2 => by rw [pk_un (by omega), hq j j1 j2])
  by_cases s1 : T.2 55 (14 * p + 121) = 1
  · obtain ⟨S', T', c', r1, r2, r3, r4, r5, r6⟩ := leave_loop (K := K) p20 FU 0 _ _ _ _ 0 (Nat.zero_le _) (FU_lt (by omega)) (hq0 0) ⟨CQ.rf, rfl⟩ FR.rf (fun k hk => absurd hk (Nat.not_lt_zero _))
    have r5' := r5 (fun S7 x7_3 x7_5 => some (x7_3, S7))
    have r6' := r6 (fun S10 x10_2 => some (0, S10))
    obtain ⟨n1, n2, n3, n4, n5⟩ := r3
    rw [wA_e] at n1 n3 n4 n5
    refine ⟨S', T', ?_, Or.inl ⟨h11.trans s1, ?_⟩, ⟨r2.2, ?_, ?_⟩, ⟨MX.tr ⟨⟨rfl, rfl, rfl, rfl, rfl⟩, rfl, rfl⟩ n2, n1, by rw [n4, pk_un (by omega)]⟩, r1.2.2.2.2.2.2, h.ps.2.mono c7 rfl (fun k hk => ⟨by rw [(n3 k hk).1, pk_un (by omega), hq _ (by omega) (by omega)], by rw [(n3 k hk).2.1, pk_un (by omega), hq _ (by omega) (by omega)]⟩) (fun k hk z => n5 k hk (by rw [pk_un (by omega), hq _ (by omega) (by omega)]; exact z)), fun k hk z1 z2 => ?_⟩
    · unfold f_X0_unseat f_X0_endAllOf
      rw [s6_13 p20]
      simp only [fl_s, fv_s, e18]
      rw [show l_X0_endAllOf_14 (nI p) 1 (nI (K 7)) (fun S7 x7_3 x7_5 => some (x7_3, S7)) FU (wA S 7 (14 * p + 13) 0) 0 0 = some (c', S') from r5']; rfl
    · unfold f_X12_leaves
      rw [sets_11 p20, fb_s]; exact r6'
    · refine CQ.tr (CQ.rf.wA (a := 7) (j := 14 * p + 13) (v := 0) (by decide) (by decide)) ⟨r2.1.1, r2.1.2.1, fun q q1 q2 => r2.1.2.2 q q1 (fun z => q2 ?_)⟩
      rw [List.mem_singleton] at z; rw [z]; decide
    · rw [r2.1.2.2 7 (by decide) (by decide), wA_e]
    · obtain ⟨y1, y2⟩ := r4 k hk z1
      have y3 := y2 z2
      obtain ⟨t1, t2, t3⟩ := n3 k (by omega)
      rw [wA_n (by decide)] at y1
      rw [t3, pk_un (by omega), hq _ (by omega) (by omega)] at z2
      rw [t1, pk_un (by omega), hq _ (by omega) (by omega)] at y3 ⊢
      obtain ⟨q, x1, x2, x3⟩ := h.ps.1 k hk y1 z2
      exact ⟨q, x1, fun e => y3 (by rw [x2, e]), x2, x3⟩
  · have v0 : T.2 55 (14 * p + 121) = 0 := by
      rcases (show v = 0 ∨ v = 1 by omega) with rfl | rfl
      · exact ev
      · exact absurd ev s1
    have eT : wA T1 55 (14 * p + 121) 0 = T1 := by
      have : upd (T1.2 55) (14 * p + 121) 0 = T1.2 55 := upd_id (h11.trans v0)
      refine Prod.ext rfl (funext fun a => ?_)
      by_cases ea : a = 55
      · subst ea; rw [wA_e, this]
      · exact wA_n ea
    have hqq := hq0 0
    rw [eT] at hqq
    have none_p : ∀ k : Nat, k < K 7 → S.2 19 (5 * k + 4) = 0 → ¬ T.2 55 (6 * k + 1808) < nI (K 8) → T.2 55 (6 * k + 1806) ≠ nI p := fun k hk z1 z2 e => by
      obtain ⟨q, x1, x2, x3⟩ := h.ps.1 k hk z1 z2
      have : q = p := nI_inj (by omega) (by omega) (x2.symm.trans e)
      subst this
      exact s1 x3
    have el := endAll_no hqq (p := p) (fun k hk z1 z2 => by
      rw [wA_n (by decide)] at z1
      rw [hq _ (by omega) (by omega)] at z2 ⊢
      exact none_p k hk z1 z2) FU 0 0 (Nat.zero_le _) (FU_lt (by omega)) (fun S7 x7_3 x7_5 => some (x7_3, S7))
    refine ⟨wA S 7 (14 * p + 13) 0, T1, ?_, Or.inr ⟨by rw [h11]; exact s1, rfl⟩, ⟨rfl, CQ.rf.wA (by decide) (by decide), wA_e⟩, ⟨MX.rf, ?_, rfl⟩, hqq.2.2.2.2.2.2, h.ps.2.same c7 rfl hq, fun k hk z1 z2 => ?_⟩
    · unfold f_X0_unseat f_X0_endAllOf
      rw [s6_13 p20]
      simp only [fl_s, fv_s, e18]
      rw [show l_X0_endAllOf_14 (nI p) 1 (nI (K 7)) (fun S7 x7_3 x7_5 => some (x7_3, S7)) FU (wA S 7 (14 * p + 13) 0) 0 0 = _ from el]; rfl
    · rw [upd_id (h11.trans v0)]; exact NQ.rf
    · rw [wA_n (by decide)] at z1
      rw [hq _ (by omega) (by omega)] at z2 ⊢
      obtain ⟨q, x1, x2, x3⟩ := h.ps.1 k hk z1 z2
      exact ⟨q, x1, fun e => none_p k hk z1 z2 (by rw [x2, e]), x2, x3⟩
end OPD
end
section
section OPD2
variable {K : Nat → Nat} {S T : FS} {za zb zc zd : Int32}
/-- what one knows lies in these cells -/
theorem known_c {S' : FS} {x : Int32} (h1 : ∀ c : Int32, c = 10 ∨ c = 4 ∨ c = 9 → fG 6 20 14 S' x c = fG 6 20 14 S x c) (h2 : S'.2 5 = S.2 5) (h3 : S'.1 102 = S.1 102) : p_X7_knownTo S' x = p_X7_knownTo S x := by
  unfold p_X7_knownTo
  have e : ∀ y : Int32, fG 4 10 10 S' 0 y = fG 4 10 10 S 0 y := fun y => by unfold fG; rw [show S'.2 (4 + 1) = S.2 (4 + 1) from h2]
  simp only [h1 10 (Or.inl rfl), h1 4 (Or.inr (Or.inl rfl)), h1 9 (Or.inr (Or.inr rfl)), h3, e]
theorem op_die (h : RelR K S (T.2 55)) : OK2 S T (f_X11_die S za) (f_X12_die T za) := by
  unfold f_X11_die f_X12_die
  simp only [fb_id]
  obtain ⟨k1, k2, c2⟩ := h.ct 6 2 20 (by decide)
  obtain ⟨w1, w2, c3⟩ := h.ct 8 3 20 (by decide)
  obtain ⟨d1, d2, d3⟩ := h.ct 102 8 2000 (by decide)
  have c7 := (h.ct 18 7 30 (by decide)).2.2
  rcases h.per za with ⟨a1, m1⟩ | ⟨p, hp, rfl, a1, m1⟩
  · simp only [a1, m1, ↓reduceIte]; exact ok_1 h
  · have p20 : p < 20 := by omega
    rcases h.liv hp with ⟨l1, l2, l3⟩ | ⟨l1, l2, l5, l3, l4⟩
    · obtain ⟨T1, e1, g1⟩ := h.knw hp
      have en := e1.2 55 (by decide)
      obtain ⟨⟨x0, x1, x2, x3⟩, ⟨x7, x8, x10, x12, x13⟩, pl, y2, y3, y4, y11, y12⟩ := h.pe p hp
      have f9 : S.2 7 (14 * p + 9) = 0 := by
        rcases pl with ⟨b1, -⟩ | ⟨-, ⟨d, b1, b2⟩, -⟩
        · exact b1
        · rw [l1] at b2; exact absurd b2.symm (nI_m1 (by omega))
      simp only [a1, m1, l2, l3, fb_s, i10, ↓reduceIte, man_7 p20, g1, sets_10 p20, sets_9 p20, sets_7 p20, sets_8 p20, wA_e, fl_s]
      generalize hkv : p_X7_knownTo S (nI p) = kv
      have e8 : upd (T1.2 55) (14 * p + 120) kv 8 = nI (K 8) := by rw [pk_un (by omega), en, d2]
      have e9 : ∀ v1 v2 v3 v4 : Int32, upd (upd (upd (upd (T1.2 55) (14 * p + 120) v1) (14 * p + 119) v2) (14 * p + 117) v3) (14 * p + 118) v4 9 = T.2 55 9 := fun v1 v2 v3 v4 => by
        simp (disch := omega) only [pk_un]; rw [en]
      rw [e8, e9]
      generalize hT2 : wA (wA (wA (wA (wA T1 55 (14 * p + 120) kv) 55 (14 * p + 119) (nI (K 8))) 55 (14 * p + 117) 0) 55 (14 * p + 118) 0) 55 9 (T.2 55 9 + T.2 55 (14 * p + 117)) = T2
      have n2 : T2.2 55 = upd (upd (upd (upd (upd (T.2 55) (14 * p + 120) kv) (14 * p + 119) (nI (K 8))) (14 * p + 117) 0) (14 * p + 118) 0) 9 (T.2 55 9 + T.2 55 (14 * p + 117)) := by
        rw [← hT2]; simp only [wA_e, en]
      have mx2 : MX T T2 := by rw [← hT2]; exact e1.me.1.tr ⟨⟨rfl, rfl, rfl, rfl, rfl⟩, rfl, rfl⟩
      obtain ⟨S3, T3, u1, u2, ⟨u3, u4, u5⟩, ⟨u6, u7, u8⟩, u9, uu, u10⟩ := die_q h hp T2 (fun j q1 q2 => by rw [n2]; simp (disch := omega) only [pk_un]) (by rw [n2]; simp (disch := omega) only [pk_un]) (by rw [n2]; simp (disch := omega) only [pk_un]) (by rw [n2]; simp (disch := omega) only [pk_un])
      have em : (fb (q_X12_man T2 (nI p) 11) (fun x35 => if x35 = 1 then (fb (f_X12_leaves T2 (nI p)) (fun r38 => j_X12_die_105 (nI p) (T.2 55 (14 * p + 117)) r38.2)) else (j_X12_die_105 (nI p) (T.2 55 (14 * p + 117)) T2))) = j_X12_die_105 (nI p) (T.2 55 (14 * p + 117)) T3 := by
        rw [man_11 p20, fb_s]
        rcases u2 with ⟨z, z2⟩ | ⟨z, z2⟩
        · rw [if_pos z, z2, fb_s]
        · rw [if_neg z, z2]
      rw [em, u1, fb_s]
      -- the model's cells behind all of this
      have n3 : ∀ j : Nat, ¬ (1806 ≤ j ∧ j < 1986) → T3.2 55 j = upd (T2.2 55) (14 * p + 121) 0 j := fun j hj => by
        by_cases z : j = 9
        · subst z; rw [u8, pk_un (by omega)]
        · exact u7 j hj z z
      unfold f_X7_bury j_X12_die_105
      simp only [fv_s, fl_s, s6_7 p20, s6_8 p20, s6_10 p20, s6_9 p20, g6_7 p20]
      have f7 : S3.2 7 (14 * p + 7) = T.2 55 (14 * p + 117) := by rw [u5, pk_un (by omega)]; exact x7
      rw [f7]
      generalize hcn : T.2 55 (14 * p + 117) = cn
      have kn : p_X7_knownTo (wA (wI (wA S3 7 (14 * p + 7) 0) 103 ((wA S3 7 (14 * p + 7) 0).1 103 + cn)) 7 (14 * p + 8) 0) (nI p) = kv := by
        rw [← hkv]
        refine known_c (fun c hc => ?_) ?_ ?_
        · rcases hc with rfl | rfl | rfl
          · rw [g6_10 p20, g6_10 p20]; simp only [wA_e, wI_2, u5]; simp (disch := omega) only [pk_un]
          · rw [g6_4 p20, g6_4 p20]; simp only [wA_e, wI_2, u5]; simp (disch := omega) only [pk_un]
          · rw [g6_9 p20, g6_9 p20]; simp only [wA_e, wI_2, u5]; simp (disch := omega) only [pk_un]
        · exact u4.2.2 5 (by decide) (by decide)
        · show S3.1 102 = S.1 102; rw [u3]
      rw [kn]
      generalize hS4 : wA (wA (wA (wI (wA S3 7 (14 * p + 7) 0) 103 ((wA S3 7 (14 * p + 7) 0).1 103 + cn)) 7 (14 * p + 8) 0) 7 (14 * p + 10) kv) 7 (14 * p + 9) 1 = S4
      have s4a : S4.1 = ui S.1 103 (S.1 103 + cn) := by
        rw [← hS4]; show ui S3.1 103 (S3.1 103 + cn) = _; rw [u3]
      have s4b : S4.2 7 = upd (upd (upd (upd (upd (S.2 7) (14 * p + 13) 0) (14 * p + 7) 0) (14 * p + 8) 0) (14 * p + 10) kv) (14 * p + 9) 1 := by
        rw [← hS4]; simp only [wA_e, wI_2, u5]
      have s4c : ∀ a : Nat, a ≠ 7 → S4.2 a = S3.2 a := fun a ha => by
        rw [← hS4]; simp only [wA_n ha, wI_2]
      have cq4 : CQ [7, 9, 19] 103 S S4 := by
        rw [← hS4]
        refine CQ.wA (CQ.wA (CQ.wA (CQ.wI (CQ.wA (S' := S3) ⟨u4.1, u4.2.1, fun q q1 q2 => u4.2.2 q q1 (fun z => q2 ?_)⟩ ?_ ?_) (Or.inl rfl) ?_ ?_) ?_ ?_) ?_ ?_) ?_ ?_
        · simp only [List.mem_cons, List.not_mem_nil, or_false] at z ⊢; omega
        all_goals decide
      have h3 : T3.2 55 3 = nI (K 3) := by rw [n3 3 (by omega), n2]; simp (disch := omega) only [pk_un]; exact w2
      have hpw : RPw K (S4.2 9) (upd (T3.2 55) (14 * p + 119) (-1)) := by
        rw [s4c 9 (by decide), u4.2.2 9 (by decide) (by decide)]
        refine h.pw.pn c3 c2 (fun j j1 j2 => ?_) (fun q hq => ?_)
        · rw [pk_un (by omega), n3 j (by omega), n2]; simp (disch := omega) only [pk_un]
        · by_cases e : q = p
          · subst e; rw [pk_us, l1]
          · rw [pk_un (by omega), n3 _ (by omega), n2]; simp (disch := omega) only [pk_un]
      have e48 : S4.1 8 = nI (K 3) := by rw [s4a]; exact w1
      obtain ⟨S5, T5, ⟨v1, v2⟩, ⟨v3, v4⟩, v5, v6, v7, v8⟩ := die_l (K := K) p20 c3 c2 FU 0 S4 T3 (Nat.zero_le _) (FU_lt (by omega)) h3 hpw (fun w hw => absurd hw (Nat.not_lt_zero _))
      rw [e48, show ∀ k, l_X7_bury_70 (nI p) (nI (K 3)) k FU S4 0 = k S5 (nI (K 3)) from v7, show ∀ k, l_X12_die_107 (nI p) k FU T3 0 = k T5 (nI (K 3)) from v8, fb_s]
      have n5 : ∀ j : Nat, ¬ (1806 ≤ j ∧ j < 1986) → ¬ (390 ≤ j ∧ j < 510) → T5.2 55 j = upd (upd (upd (upd (upd (upd (T.2 55) (14 * p + 120) kv) (14 * p + 119) (nI (K 8))) (14 * p + 117) 0) (14 * p + 118) 0) 9 (T.2 55 9 + cn)) (14 * p + 121) 0 j := fun j q1 q2 => by
        rw [v4 j q2, n3 j q1, n2, hcn]
      have s5 : ∀ a : Nat, a ∈ ctA → a ≠ 9 → S5.2 a = S4.2 a := fun a ha h9 => v2.2.2 a ha (by simp only [List.mem_singleton]; exact h9)
      refine okt (K := K) ?_ (cq4.1.tr v2.1) ((mx2.tr u6).tr v3)
      refine h.onPWQ (cq4.tr ⟨v2.1, v2.2.1, fun q q1 q2 => v2.2.2 q q1 (fun z => q2 ?_)⟩) (fun j j1 j2 j3 j4 _ => ?_) ?_ ?_ ?_ ?_ ?_ ?_ ?_
      · rw [List.mem_singleton] at z; rw [z]; decide
      · rw [n5 j j3 j2]; simp (disch := omega) only [pk_un]
      · rw [v1, s4a, n5 9 (by omega) (by omega)]
        simp (disch := omega) only [pk_un, pk_us]
        rw [← h.1.2]; rfl
      · rw [s5 7 (by decide) (by decide), s4b]
        intro q hq
        have hh := h.pe q hq
        unfold PLv at hh ⊢
        have o := fun (c : Nat) (_ : c < 14) => n5 (14 * q + (110 + c)) (by omega) (by omega)
        rw [show T5.2 55 (14 * q + 110) = _ from o 0 (by decide), show T5.2 55 (14 * q + 111) = _ from o 1 (by decide), show T5.2 55 (14 * q + 112) = _ from o 2 (by decide), show T5.2 55 (14 * q + 113) = _ from o 3 (by decide), show T5.2 55 (14 * q + 114) = _ from o 4 (by decide), show T5.2 55 (14 * q + 115) = _ from o 5 (by decide), show T5.2 55 (14 * q + 116) = _ from o 6 (by decide), show T5.2 55 (14 * q + 117) = _ from o 7 (by decide), show T5.2 55 (14 * q + 118) = _ from o 8 (by decide), show T5.2 55 (14 * q + 119) = _ from o 9 (by decide), show T5.2 55 (14 * q + 120) = _ from o 10 (by decide), show T5.2 55 (14 * q + 121) = _ from o 11 (by decide), show T5.2 55 (14 * q + 122) = _ from o 12 (by decide)]
        by_cases e : q = p
        · subst e
          simp (disch := omega) only [pk_un, pk_us]
          exact ⟨hh.1, ⟨trivial, trivial, trivial, x12, trivial⟩, Or.inr ⟨trivial, ⟨K 8, by omega, rfl⟩, trivial⟩, y2, y3, y4, ⟨0, by decide, rfl⟩, y12⟩
        · simp (disch := omega) only [pk_un]; exact hh
      · refine ⟨?_, h.se.2⟩
        have e1 : pm_cnt (fun q => T5.2 55 (14 * q + 121) == 1) (K 2) = sc (upd (T.2 55) (14 * p + 121) 0) (K 2) := pm_cnt_congr (fun j hj => by
          rw [n5 _ (by omega) (by omega)]
          show (_ == (1 : Int32)) = (upd (T.2 55) (14 * p + 121) 0 (14 * j + 121) == 1)
          by_cases e : j = p
          · subst e; rw [pk_us, pk_us]
          · simp (disch := omega) only [pk_un])
        rw [e1]
        have h9 : sc (T.2 55) (K 2) ≤ 9 := h.se.1
        obtain ⟨v, hv, ev⟩ := y11
        rcases (show v = 0 ∨ v = 1 by omega) with rfl | rfl
        · rw [upd_id (show T.2 55 (14 * p + 121) = 0 from ev)]; exact h9
        · have := sc_0 hp ev; omega
      · rw [s5 7 (by decide) (by decide), s4b]
        refine h.st.same c2 rfl (fun q hq => by simp (disch := omega) only [pk_un]) (fun q hq => ⟨?_, ?_⟩)
        · rw [n5 _ (by omega) (by omega)]; simp (disch := omega) only [pk_un]
        · rw [n5 _ (by omega) (by omega)]; simp (disch := omega) only [pk_un]
      · intro w hw
        have hh := v5 w hw
        simp (disch := omega) only [pk_un] at hh
        obtain ⟨b1, b2⟩ := v6 w hw
        have lv : ∀ x : Int32, x ≠ nI p → vL (K 2) (upd (T5.2 55) (14 * p + 119) (-1)) x → vL (K 2) (T5.2 55) x := fun x hx z => by
          rcases z with z | ⟨q, z1, z2, z3⟩
          · exact Or.inl z
          · refine Or.inr ⟨q, z1, z2, ?_⟩
            rw [pk_un (fun e => hx (by rw [z2, show q = p by omega]))] at z3; exact z3
        exact ⟨hh.1, hh.2.1, hh.2.2.1, hh.2.2.2.1, lv _ b1 hh.2.2.2.2.1, lv _ b2 hh.2.2.2.2.2.1, hh.2.2.2.2.2.2⟩
      · rw [s5 19 (by decide) (by decide), s4c 19 (by decide)]
        exact u9.same c7 rfl (Nat.le_refl _) rfl (fun _ _ => rfl) (fun j j1 j2 => v4 j (by omega))
      · rw [s5 19 (by decide) (by decide), s4c 19 (by decide)]
        refine ⟨?_, uu.same c7 rfl (fun j j1 j2 => v4 j (by omega))⟩
        intro k hk z1 z2
        rw [v4 _ (by omega)] at z2
        obtain ⟨q, q1, q2, q3, q4⟩ := u10 k hk z1 z2
        refine ⟨q, q1, by rw [v4 _ (by omega)]; exact q3, ?_⟩
        rw [n5 _ (by omega) (by omega)]
        simp (disch := omega) only [pk_un]; exact q4
    · simp only [a1, m1, l3, l4, fb_s, i10, ↓reduceIte]; exact ok_3 h
end OPD2
end
