/-! ===== pure: what both sides read and write ===== -/
theorem fb_s {α β : Type} {r : α} {k : α → Option β} : fb (some r) k = k r := Eq.trans rfl rfl
theorem fl_s {β : Type} {x : FS} {k : FS → β} : fl x k = k x := Eq.trans rfl rfl
theorem fv_s {β : Type} {x : Int32} {k : Int32 → β} : fv x k = k x := Eq.trans rfl rfl
theorem fw_s {β : Type} {x : Nat → Int32} {k : (Nat → Int32) → β} : fw x k = k x := Eq.trans rfl rfl
theorem nI_m1 {a : Nat} (h : a < 2 ^ 31) : ¬ nI a = -1 := fun q => nI_pos h (by rw [q]; decide)
theorem nI_inj {a b : Nat} (ha : a < 2 ^ 31) (hb : b < 2 ^ 31) (h : nI a = nI b) : a = b := (nI_eq ha hb).mp h
theorem fG_nI {a R W : Nat} {S : FS} {r c : Nat} (hR : R < 2 ^ 31) (hW : W < 2 ^ 31) (hn : R * W < 2 ^ 31) (hr : r < R) (hc : c < W) : fG a R W S (nI r) (nI c) = S.2 (a + 1) (r * W + c) := pm_tg_in hR hW hn hr hc
theorem fP_nI {a R W : Nat} {S : FS} {r c : Nat} {x : Int32} (hR : R < 2 ^ 31) (hW : W < 2 ^ 31) (hn : R * W < 2 ^ 31) (hr : r < R) (hc : c < W) : fP a R W S (nI r) (nI c) x = wA S (a + 1) (r * W + c) x := by
  unfold fP wA; rw [pm_ts_in hR hW hn hr hc]
theorem fHas_t {a k r : Nat} {S : FS} (h : S.1 a = nI k) (hr : r < k) (hk : k < 2 ^ 31) : fHas a S (nI r) = 1 := by
  unfold fHas
  rw [h, if_neg]
  rintro (q | q)
  · exact nI_pos (by omega) q
  · exact nI_ge hr hk q
theorem fHas_f {a k : Nat} {S : FS} {x : Int32} (h : S.1 a = nI k) (hx : x < 0 ∨ nI k ≤ x) : fHas a S x = 0 := by
  unfold fHas
  rw [h, if_pos hx]
theorem fFull_t {a R k : Nat} {S : FS} (h : S.1 a = nI k) (hk : R ≤ k) (hk2 : k < 2 ^ 31) : fFull a R S = 1 := by
  unfold fFull
  rw [h, if_neg (nI_nlt hk hk2)]
theorem fFull_f {a R k : Nat} {S : FS} (h : S.1 a = nI k) (hk : k < R) (hR : R < 2 ^ 31) : fFull a R S = 0 := by
  unfold fFull
  rw [h, if_pos (nI_lt hk hR)]
theorem fApp_f {a R W k : Nat} {S : FS} {x : Int32} (h : S.1 a = nI k) (hk : k < R) (hR : R < 2 ^ 31) : fApp a R W S x = some (nI k, (ui S.1 a (nI (k + 1)), ua S.2 (a + 1) (pm_apf W k x (S.2 (a + 1))))) := by
  unfold fApp
  rw [h, iN_nI hR (by omega), fb_s, if_neg (by omega)]
theorem qRows_e {a R W k c : Nat} {S : FS} {x : Int32} (h : S.1 a = nI k) (hk : k ≤ R) (hR : R < 2 ^ 31) : qRows a R W S c x = some (nI (pm_cnt (fun r => S.2 (a + 1) (r * W + c) == x) k)) := by
  unfold qRows
  rw [h, iN_nI hR hk]; rfl
theorem qSum_e {a R W k c : Nat} {S : FS} (h : S.1 a = nI k) (hk : k ≤ R) (hR : R < 2 ^ 31) : qSum a R W S c = some (pm_sum (S.2 (a + 1)) W c k) := by
  unfold qSum
  rw [h, iN_nI hR hk]; rfl
theorem wA_1 {S : FS} {a j : Nat} {v : Int32} : (wA S a j v).1 = S.1 := rfl
theorem wI_2 {S : FS} {k : Nat} {v : Int32} : (wI S k v).2 = S.2 := rfl
theorem wA_e {S : FS} {a j : Nat} {v : Int32} : (wA S a j v).2 a = upd (S.2 a) j v := if_pos rfl
theorem wA_n {S : FS} {a b j : Nat} {v : Int32} (h : b ≠ a) : (wA S a j v).2 b = S.2 b := if_neg h
theorem wI_e {S : FS} {k : Nat} {v : Int32} : (wI S k v).1 k = v := if_pos rfl
theorem wI_n {S : FS} {k j : Nat} {v : Int32} (h : j ≠ k) : (wI S k v).1 j = S.1 j := if_neg h
theorem g2_0 {S : FS} {p : Nat} (h : p < 10) : fG 2 10 3 S (nI p) 0 = S.2 3 (3 * p) := by
  refine (fG_nI (c := 0) (by decide) (by decide) (by decide) h (by decide)).trans (congrArg (S.2 3) (by omega))
theorem s2_0 {S : FS} {p : Nat} {x : Int32} (h : p < 10) : fP 2 10 3 S (nI p) 0 x = wA S 3 (3 * p) x := by
  refine (fP_nI (c := 0) (by decide) (by decide) (by decide) h (by decide)).trans (congrArg (fun q => wA S 3 q x) (by omega))
theorem g2_1 {S : FS} {p : Nat} (h : p < 10) : fG 2 10 3 S (nI p) 1 = S.2 3 (3 * p + 1) := by
  refine (fG_nI (c := 1) (by decide) (by decide) (by decide) h (by decide)).trans (congrArg (S.2 3) (by omega))
theorem s2_1 {S : FS} {p : Nat} {x : Int32} (h : p < 10) : fP 2 10 3 S (nI p) 1 x = wA S 3 (3 * p + 1) x := by
  refine (fP_nI (c := 1) (by decide) (by decide) (by decide) h (by decide)).trans (congrArg (fun q => wA S 3 q x) (by omega))
theorem g2_2 {S : FS} {p : Nat} (h : p < 10) : fG 2 10 3 S (nI p) 2 = S.2 3 (3 * p + 2) := by
  refine (fG_nI (c := 2) (by decide) (by decide) (by decide) h (by decide)).trans (congrArg (S.2 3) (by omega))
theorem s2_2 {S : FS} {p : Nat} {x : Int32} (h : p < 10) : fP 2 10 3 S (nI p) 2 x = wA S 3 (3 * p + 2) x := by
  refine (fP_nI (c := 2) (by decide) (by decide) (by decide) h (by decide)).trans (congrArg (fun q => wA S 3 q x) (by omega))
theorem g6_0 {S : FS} {p : Nat} (h : p < 20) : fG 6 20 14 S (nI p) 0 = S.2 7 (14 * p) := by
  refine (fG_nI (c := 0) (by decide) (by decide) (by decide) h (by decide)).trans (congrArg (S.2 7) (by omega))
theorem s6_0 {S : FS} {p : Nat} {x : Int32} (h : p < 20) : fP 6 20 14 S (nI p) 0 x = wA S 7 (14 * p) x := by
  refine (fP_nI (c := 0) (by decide) (by decide) (by decide) h (by decide)).trans (congrArg (fun q => wA S 7 q x) (by omega))
theorem g6_1 {S : FS} {p : Nat} (h : p < 20) : fG 6 20 14 S (nI p) 1 = S.2 7 (14 * p + 1) := by
  refine (fG_nI (c := 1) (by decide) (by decide) (by decide) h (by decide)).trans (congrArg (S.2 7) (by omega))
theorem s6_1 {S : FS} {p : Nat} {x : Int32} (h : p < 20) : fP 6 20 14 S (nI p) 1 x = wA S 7 (14 * p + 1) x := by
  refine (fP_nI (c := 1) (by decide) (by decide) (by decide) h (by decide)).trans (congrArg (fun q => wA S 7 q x) (by omega))
theorem g6_2 {S : FS} {p : Nat} (h : p < 20) : fG 6 20 14 S (nI p) 2 = S.2 7 (14 * p + 2) := by
  refine (fG_nI (c := 2) (by decide) (by decide) (by decide) h (by decide)).trans (congrArg (S.2 7) (by omega))
theorem s6_2 {S : FS} {p : Nat} {x : Int32} (h : p < 20) : fP 6 20 14 S (nI p) 2 x = wA S 7 (14 * p + 2) x := by
  refine (fP_nI (c := 2) (by decide) (by decide) (by decide) h (by decide)).trans (congrArg (fun q => wA S 7 q x) (by omega))
theorem g6_3 {S : FS} {p : Nat} (h : p < 20) : fG 6 20 14 S (nI p) 3 = S.2 7 (14 * p + 3) := by
  refine (fG_nI (c := 3) (by decide) (by decide) (by decide) h (by decide)).trans (congrArg (S.2 7) (by omega))
theorem s6_3 {S : FS} {p : Nat} {x : Int32} (h : p < 20) : fP 6 20 14 S (nI p) 3 x = wA S 7 (14 * p + 3) x := by
  refine (fP_nI (c := 3) (by decide) (by decide) (by decide) h (by decide)).trans (congrArg (fun q => wA S 7 q x) (by omega))
theorem g6_4 {S : FS} {p : Nat} (h : p < 20) : fG 6 20 14 S (nI p) 4 = S.2 7 (14 * p + 4) := by
  refine (fG_nI (c := 4) (by decide) (by decide) (by decide) h (by decide)).trans (congrArg (S.2 7) (by omega))
theorem s6_4 {S : FS} {p : Nat} {x : Int32} (h : p < 20) : fP 6 20 14 S (nI p) 4 x = wA S 7 (14 * p + 4) x := by
  refine (fP_nI (c := 4) (by decide) (by decide) (by decide) h (by decide)).trans (congrArg (fun q => wA S 7 q x) (by omega))
theorem g6_5 {S : FS} {p : Nat} (h : p < 20) : fG 6 20 14 S (nI p) 5 = S.2 7 (14 * p + 5) := by
  refine (fG_nI (c := 5) (by decide) (by decide) (by decide) h (by decide)).trans (congrArg (S.2 7) (by omega))
theorem s6_5 {S : FS} {p : Nat} {x : Int32} (h : p < 20) : fP 6 20 14 S (nI p) 5 x = wA S 7 (14 * p + 5) x := by
  refine (fP_nI (c := 5) (by decide) (by decide) (by decide) h (by decide)).trans (congrArg (fun q => wA S 7 q x) (by omega))
theorem g6_6 {S : FS} {p : Nat} (h : p < 20) : fG 6 20 14 S (nI p) 6 = S.2 7 (14 * p + 6) := by
  refine (fG_nI (c := 6) (by decide) (by decide) (by decide) h (by decide)).trans (congrArg (S.2 7) (by omega))
theorem s6_6 {S : FS} {p : Nat} {x : Int32} (h : p < 20) : fP 6 20 14 S (nI p) 6 x = wA S 7 (14 * p + 6) x := by
  refine (fP_nI (c := 6) (by decide) (by decide) (by decide) h (by decide)).trans (congrArg (fun q => wA S 7 q x) (by omega))
theorem g6_7 {S : FS} {p : Nat} (h : p < 20) : fG 6 20 14 S (nI p) 7 = S.2 7 (14 * p + 7) := by
  refine (fG_nI (c := 7) (by decide) (by decide) (by decide) h (by decide)).trans (congrArg (S.2 7) (by omega))
theorem s6_7 {S : FS} {p : Nat} {x : Int32} (h : p < 20) : fP 6 20 14 S (nI p) 7 x = wA S 7 (14 * p + 7) x := by
  refine (fP_nI (c := 7) (by decide) (by decide) (by decide) h (by decide)).trans (congrArg (fun q => wA S 7 q x) (by omega))
theorem g6_8 {S : FS} {p : Nat} (h : p < 20) : fG 6 20 14 S (nI p) 8 = S.2 7 (14 * p + 8) := by
  refine (fG_nI (c := 8) (by decide) (by decide) (by decide) h (by decide)).trans (congrArg (S.2 7) (by omega))
theorem s6_8 {S : FS} {p : Nat} {x : Int32} (h : p < 20) : fP 6 20 14 S (nI p) 8 x = wA S 7 (14 * p + 8) x := by
  refine (fP_nI (c := 8) (by decide) (by decide) (by decide) h (by decide)).trans (congrArg (fun q => wA S 7 q x) (by omega))
theorem g6_9 {S : FS} {p : Nat} (h : p < 20) : fG 6 20 14 S (nI p) 9 = S.2 7 (14 * p + 9) := by
  refine (fG_nI (c := 9) (by decide) (by decide) (by decide) h (by decide)).trans (congrArg (S.2 7) (by omega))
theorem s6_9 {S : FS} {p : Nat} {x : Int32} (h : p < 20) : fP 6 20 14 S (nI p) 9 x = wA S 7 (14 * p + 9) x := by
  refine (fP_nI (c := 9) (by decide) (by decide) (by decide) h (by decide)).trans (congrArg (fun q => wA S 7 q x) (by omega))
theorem g6_10 {S : FS} {p : Nat} (h : p < 20) : fG 6 20 14 S (nI p) 10 = S.2 7 (14 * p + 10) := by
  refine (fG_nI (c := 10) (by decide) (by decide) (by decide) h (by decide)).trans (congrArg (S.2 7) (by omega))
theorem s6_10 {S : FS} {p : Nat} {x : Int32} (h : p < 20) : fP 6 20 14 S (nI p) 10 x = wA S 7 (14 * p + 10) x := by
  refine (fP_nI (c := 10) (by decide) (by decide) (by decide) h (by decide)).trans (congrArg (fun q => wA S 7 q x) (by omega))
theorem g6_11 {S : FS} {p : Nat} (h : p < 20) : fG 6 20 14 S (nI p) 11 = S.2 7 (14 * p + 11) := by
  refine (fG_nI (c := 11) (by decide) (by decide) (by decide) h (by decide)).trans (congrArg (S.2 7) (by omega))
theorem s6_11 {S : FS} {p : Nat} {x : Int32} (h : p < 20) : fP 6 20 14 S (nI p) 11 x = wA S 7 (14 * p + 11) x := by
  refine (fP_nI (c := 11) (by decide) (by decide) (by decide) h (by decide)).trans (congrArg (fun q => wA S 7 q x) (by omega))
theorem g6_12 {S : FS} {p : Nat} (h : p < 20) : fG 6 20 14 S (nI p) 12 = S.2 7 (14 * p + 12) := by
  refine (fG_nI (c := 12) (by decide) (by decide) (by decide) h (by decide)).trans (congrArg (S.2 7) (by omega))
theorem s6_12 {S : FS} {p : Nat} {x : Int32} (h : p < 20) : fP 6 20 14 S (nI p) 12 x = wA S 7 (14 * p + 12) x := by
  refine (fP_nI (c := 12) (by decide) (by decide) (by decide) h (by decide)).trans (congrArg (fun q => wA S 7 q x) (by omega))
theorem g6_13 {S : FS} {p : Nat} (h : p < 20) : fG 6 20 14 S (nI p) 13 = S.2 7 (14 * p + 13) := by
  refine (fG_nI (c := 13) (by decide) (by decide) (by decide) h (by decide)).trans (congrArg (S.2 7) (by omega))
theorem s6_13 {S : FS} {p : Nat} {x : Int32} (h : p < 20) : fP 6 20 14 S (nI p) 13 x = wA S 7 (14 * p + 13) x := by
  refine (fP_nI (c := 13) (by decide) (by decide) (by decide) h (by decide)).trans (congrArg (fun q => wA S 7 q x) (by omega))
theorem g8_0 {S : FS} {p : Nat} (h : p < 20) : fG 8 20 6 S (nI p) 0 = S.2 9 (6 * p) := by
  refine (fG_nI (c := 0) (by decide) (by decide) (by decide) h (by decide)).trans (congrArg (S.2 9) (by omega))
theorem s8_0 {S : FS} {p : Nat} {x : Int32} (h : p < 20) : fP 8 20 6 S (nI p) 0 x = wA S 9 (6 * p) x := by
  refine (fP_nI (c := 0) (by decide) (by decide) (by decide) h (by decide)).trans (congrArg (fun q => wA S 9 q x) (by omega))
theorem g8_1 {S : FS} {p : Nat} (h : p < 20) : fG 8 20 6 S (nI p) 1 = S.2 9 (6 * p + 1) := by
  refine (fG_nI (c := 1) (by decide) (by decide) (by decide) h (by decide)).trans (congrArg (S.2 9) (by omega))
theorem s8_1 {S : FS} {p : Nat} {x : Int32} (h : p < 20) : fP 8 20 6 S (nI p) 1 x = wA S 9 (6 * p + 1) x := by
  refine (fP_nI (c := 1) (by decide) (by decide) (by decide) h (by decide)).trans (congrArg (fun q => wA S 9 q x) (by omega))
theorem g8_2 {S : FS} {p : Nat} (h : p < 20) : fG 8 20 6 S (nI p) 2 = S.2 9 (6 * p + 2) := by
  refine (fG_nI (c := 2) (by decide) (by decide) (by decide) h (by decide)).trans (congrArg (S.2 9) (by omega))
theorem s8_2 {S : FS} {p : Nat} {x : Int32} (h : p < 20) : fP 8 20 6 S (nI p) 2 x = wA S 9 (6 * p + 2) x := by
  refine (fP_nI (c := 2) (by decide) (by decide) (by decide) h (by decide)).trans (congrArg (fun q => wA S 9 q x) (by omega))
theorem g8_3 {S : FS} {p : Nat} (h : p < 20) : fG 8 20 6 S (nI p) 3 = S.2 9 (6 * p + 3) := by
  refine (fG_nI (c := 3) (by decide) (by decide) (by decide) h (by decide)).trans (congrArg (S.2 9) (by omega))
theorem s8_3 {S : FS} {p : Nat} {x : Int32} (h : p < 20) : fP 8 20 6 S (nI p) 3 x = wA S 9 (6 * p + 3) x := by
  refine (fP_nI (c := 3) (by decide) (by decide) (by decide) h (by decide)).trans (congrArg (fun q => wA S 9 q x) (by omega))
theorem g8_4 {S : FS} {p : Nat} (h : p < 20) : fG 8 20 6 S (nI p) 4 = S.2 9 (6 * p + 4) := by
  refine (fG_nI (c := 4) (by decide) (by decide) (by decide) h (by decide)).trans (congrArg (S.2 9) (by omega))
theorem s8_4 {S : FS} {p : Nat} {x : Int32} (h : p < 20) : fP 8 20 6 S (nI p) 4 x = wA S 9 (6 * p + 4) x := by
  refine (fP_nI (c := 4) (by decide) (by decide) (by decide) h (by decide)).trans (congrArg (fun q => wA S 9 q x) (by omega))
theorem g8_5 {S : FS} {p : Nat} (h : p < 20) : fG 8 20 6 S (nI p) 5 = S.2 9 (6 * p + 5) := by
  refine (fG_nI (c := 5) (by decide) (by decide) (by decide) h (by decide)).trans (congrArg (S.2 9) (by omega))
theorem s8_5 {S : FS} {p : Nat} {x : Int32} (h : p < 20) : fP 8 20 6 S (nI p) 5 x = wA S 9 (6 * p + 5) x := by
  refine (fP_nI (c := 5) (by decide) (by decide) (by decide) h (by decide)).trans (congrArg (fun q => wA S 9 q x) (by omega))
theorem g10_0 {S : FS} {p : Nat} (h : p < 12) : fG 10 12 6 S (nI p) 0 = S.2 11 (6 * p) := by
  refine (fG_nI (c := 0) (by decide) (by decide) (by decide) h (by decide)).trans (congrArg (S.2 11) (by omega))
theorem s10_0 {S : FS} {p : Nat} {x : Int32} (h : p < 12) : fP 10 12 6 S (nI p) 0 x = wA S 11 (6 * p) x := by
  refine (fP_nI (c := 0) (by decide) (by decide) (by decide) h (by decide)).trans (congrArg (fun q => wA S 11 q x) (by omega))
theorem g10_1 {S : FS} {p : Nat} (h : p < 12) : fG 10 12 6 S (nI p) 1 = S.2 11 (6 * p + 1) := by
  refine (fG_nI (c := 1) (by decide) (by decide) (by decide) h (by decide)).trans (congrArg (S.2 11) (by omega))
theorem s10_1 {S : FS} {p : Nat} {x : Int32} (h : p < 12) : fP 10 12 6 S (nI p) 1 x = wA S 11 (6 * p + 1) x := by
  refine (fP_nI (c := 1) (by decide) (by decide) (by decide) h (by decide)).trans (congrArg (fun q => wA S 11 q x) (by omega))
theorem g10_2 {S : FS} {p : Nat} (h : p < 12) : fG 10 12 6 S (nI p) 2 = S.2 11 (6 * p + 2) := by
  refine (fG_nI (c := 2) (by decide) (by decide) (by decide) h (by decide)).trans (congrArg (S.2 11) (by omega))
theorem s10_2 {S : FS} {p : Nat} {x : Int32} (h : p < 12) : fP 10 12 6 S (nI p) 2 x = wA S 11 (6 * p + 2) x := by
  refine (fP_nI (c := 2) (by decide) (by decide) (by decide) h (by decide)).trans (congrArg (fun q => wA S 11 q x) (by omega))
theorem g10_3 {S : FS} {p : Nat} (h : p < 12) : fG 10 12 6 S (nI p) 3 = S.2 11 (6 * p + 3) := by
  refine (fG_nI (c := 3) (by decide) (by decide) (by decide) h (by decide)).trans (congrArg (S.2 11) (by omega))
theorem s10_3 {S : FS} {p : Nat} {x : Int32} (h : p < 12) : fP 10 12 6 S (nI p) 3 x = wA S 11 (6 * p + 3) x := by
  refine (fP_nI (c := 3) (by decide) (by decide) (by decide) h (by decide)).trans (congrArg (fun q => wA S 11 q x) (by omega))
theorem g10_4 {S : FS} {p : Nat} (h : p < 12) : fG 10 12 6 S (nI p) 4 = S.2 11 (6 * p + 4) := by
  refine (fG_nI (c := 4) (by decide) (by decide) (by decide) h (by decide)).trans (congrArg (S.2 11) (by omega))
theorem s10_4 {S : FS} {p : Nat} {x : Int32} (h : p < 12) : fP 10 12 6 S (nI p) 4 x = wA S 11 (6 * p + 4) x := by
  refine (fP_nI (c := 4) (by decide) (by decide) (by decide) h (by decide)).trans (congrArg (fun q => wA S 11 q x) (by omega))
theorem g10_5 {S : FS} {p : Nat} (h : p < 12) : fG 10 12 6 S (nI p) 5 = S.2 11 (6 * p + 5) := by
  refine (fG_nI (c := 5) (by decide) (by decide) (by decide) h (by decide)).trans (congrArg (S.2 11) (by omega))
theorem s10_5 {S : FS} {p : Nat} {x : Int32} (h : p < 12) : fP 10 12 6 S (nI p) 5 x = wA S 11 (6 * p + 5) x := by
  refine (fP_nI (c := 5) (by decide) (by decide) (by decide) h (by decide)).trans (congrArg (fun q => wA S 11 q x) (by omega))
theorem g14_0 {S : FS} {p : Nat} (h : p < 40) : fG 14 40 12 S (nI p) 0 = S.2 15 (12 * p) := by
  refine (fG_nI (c := 0) (by decide) (by decide) (by decide) h (by decide)).trans (congrArg (S.2 15) (by omega))
theorem s14_0 {S : FS} {p : Nat} {x : Int32} (h : p < 40) : fP 14 40 12 S (nI p) 0 x = wA S 15 (12 * p) x := by
  refine (fP_nI (c := 0) (by decide) (by decide) (by decide) h (by decide)).trans (congrArg (fun q => wA S 15 q x) (by omega))
theorem g14_1 {S : FS} {p : Nat} (h : p < 40) : fG 14 40 12 S (nI p) 1 = S.2 15 (12 * p + 1) := by
  refine (fG_nI (c := 1) (by decide) (by decide) (by decide) h (by decide)).trans (congrArg (S.2 15) (by omega))
theorem s14_1 {S : FS} {p : Nat} {x : Int32} (h : p < 40) : fP 14 40 12 S (nI p) 1 x = wA S 15 (12 * p + 1) x := by
  refine (fP_nI (c := 1) (by decide) (by decide) (by decide) h (by decide)).trans (congrArg (fun q => wA S 15 q x) (by omega))
theorem g14_2 {S : FS} {p : Nat} (h : p < 40) : fG 14 40 12 S (nI p) 2 = S.2 15 (12 * p + 2) := by
  refine (fG_nI (c := 2) (by decide) (by decide) (by decide) h (by decide)).trans (congrArg (S.2 15) (by omega))
theorem s14_2 {S : FS} {p : Nat} {x : Int32} (h : p < 40) : fP 14 40 12 S (nI p) 2 x = wA S 15 (12 * p + 2) x := by
  refine (fP_nI (c := 2) (by decide) (by decide) (by decide) h (by decide)).trans (congrArg (fun q => wA S 15 q x) (by omega))
theorem g14_3 {S : FS} {p : Nat} (h : p < 40) : fG 14 40 12 S (nI p) 3 = S.2 15 (12 * p + 3) := by
  refine (fG_nI (c := 3) (by decide) (by decide) (by decide) h (by decide)).trans (congrArg (S.2 15) (by omega))
theorem s14_3 {S : FS} {p : Nat} {x : Int32} (h : p < 40) : fP 14 40 12 S (nI p) 3 x = wA S 15 (12 * p + 3) x := by
  refine (fP_nI (c := 3) (by decide) (by decide) (by decide) h (by decide)).trans (congrArg (fun q => wA S 15 q x) (by omega))
theorem g14_4 {S : FS} {p : Nat} (h : p < 40) : fG 14 40 12 S (nI p) 4 = S.2 15 (12 * p + 4) := by
  refine (fG_nI (c := 4) (by decide) (by decide) (by decide) h (by decide)).trans (congrArg (S.2 15) (by omega))
theorem s14_4 {S : FS} {p : Nat} {x : Int32} (h : p < 40) : fP 14 40 12 S (nI p) 4 x = wA S 15 (12 * p + 4) x := by
  refine (fP_nI (c := 4) (by decide) (by decide) (by decide) h (by decide)).trans (congrArg (fun q => wA S 15 q x) (by omega))
theorem g14_5 {S : FS} {p : Nat} (h : p < 40) : fG 14 40 12 S (nI p) 5 = S.2 15 (12 * p + 5) := by
  refine (fG_nI (c := 5) (by decide) (by decide) (by decide) h (by decide)).trans (congrArg (S.2 15) (by omega))
theorem s14_5 {S : FS} {p : Nat} {x : Int32} (h : p < 40) : fP 14 40 12 S (nI p) 5 x = wA S 15 (12 * p + 5) x := by
  refine (fP_nI (c := 5) (by decide) (by decide) (by decide) h (by decide)).trans (congrArg (fun q => wA S 15 q x) (by omega))
theorem g14_6 {S : FS} {p : Nat} (h : p < 40) : fG 14 40 12 S (nI p) 6 = S.2 15 (12 * p + 6) := by
  refine (fG_nI (c := 6) (by decide) (by decide) (by decide) h (by decide)).trans (congrArg (S.2 15) (by omega))
theorem s14_6 {S : FS} {p : Nat} {x : Int32} (h : p < 40) : fP 14 40 12 S (nI p) 6 x = wA S 15 (12 * p + 6) x := by
  refine (fP_nI (c := 6) (by decide) (by decide) (by decide) h (by decide)).trans (congrArg (fun q => wA S 15 q x) (by omega))
theorem g14_7 {S : FS} {p : Nat} (h : p < 40) : fG 14 40 12 S (nI p) 7 = S.2 15 (12 * p + 7) := by
  refine (fG_nI (c := 7) (by decide) (by decide) (by decide) h (by decide)).trans (congrArg (S.2 15) (by omega))
theorem s14_7 {S : FS} {p : Nat} {x : Int32} (h : p < 40) : fP 14 40 12 S (nI p) 7 x = wA S 15 (12 * p + 7) x := by
  refine (fP_nI (c := 7) (by decide) (by decide) (by decide) h (by decide)).trans (congrArg (fun q => wA S 15 q x) (by omega))
theorem g14_8 {S : FS} {p : Nat} (h : p < 40) : fG 14 40 12 S (nI p) 8 = S.2 15 (12 * p + 8) := by
  refine (fG_nI (c := 8) (by decide) (by decide) (by decide) h (by decide)).trans (congrArg (S.2 15) (by omega))
theorem s14_8 {S : FS} {p : Nat} {x : Int32} (h : p < 40) : fP 14 40 12 S (nI p) 8 x = wA S 15 (12 * p + 8) x := by
  refine (fP_nI (c := 8) (by decide) (by decide) (by decide) h (by decide)).trans (congrArg (fun q => wA S 15 q x) (by omega))
theorem g14_9 {S : FS} {p : Nat} (h : p < 40) : fG 14 40 12 S (nI p) 9 = S.2 15 (12 * p + 9) := by
  refine (fG_nI (c := 9) (by decide) (by decide) (by decide) h (by decide)).trans (congrArg (S.2 15) (by omega))
theorem s14_9 {S : FS} {p : Nat} {x : Int32} (h : p < 40) : fP 14 40 12 S (nI p) 9 x = wA S 15 (12 * p + 9) x := by
  refine (fP_nI (c := 9) (by decide) (by decide) (by decide) h (by decide)).trans (congrArg (fun q => wA S 15 q x) (by omega))
theorem g14_10 {S : FS} {p : Nat} (h : p < 40) : fG 14 40 12 S (nI p) 10 = S.2 15 (12 * p + 10) := by
  refine (fG_nI (c := 10) (by decide) (by decide) (by decide) h (by decide)).trans (congrArg (S.2 15) (by omega))
theorem s14_10 {S : FS} {p : Nat} {x : Int32} (h : p < 40) : fP 14 40 12 S (nI p) 10 x = wA S 15 (12 * p + 10) x := by
  refine (fP_nI (c := 10) (by decide) (by decide) (by decide) h (by decide)).trans (congrArg (fun q => wA S 15 q x) (by omega))
theorem g14_11 {S : FS} {p : Nat} (h : p < 40) : fG 14 40 12 S (nI p) 11 = S.2 15 (12 * p + 11) := by
  refine (fG_nI (c := 11) (by decide) (by decide) (by decide) h (by decide)).trans (congrArg (S.2 15) (by omega))
theorem s14_11 {S : FS} {p : Nat} {x : Int32} (h : p < 40) : fP 14 40 12 S (nI p) 11 x = wA S 15 (12 * p + 11) x := by
  refine (fP_nI (c := 11) (by decide) (by decide) (by decide) h (by decide)).trans (congrArg (fun q => wA S 15 q x) (by omega))
theorem g16_0 {S : FS} {p : Nat} (h : p < 6) : fG 16 6 5 S (nI p) 0 = S.2 17 (5 * p) := by
  refine (fG_nI (c := 0) (by decide) (by decide) (by decide) h (by decide)).trans (congrArg (S.2 17) (by omega))
theorem s16_0 {S : FS} {p : Nat} {x : Int32} (h : p < 6) : fP 16 6 5 S (nI p) 0 x = wA S 17 (5 * p) x := by
  refine (fP_nI (c := 0) (by decide) (by decide) (by decide) h (by decide)).trans (congrArg (fun q => wA S 17 q x) (by omega))
theorem g16_1 {S : FS} {p : Nat} (h : p < 6) : fG 16 6 5 S (nI p) 1 = S.2 17 (5 * p + 1) := by
  refine (fG_nI (c := 1) (by decide) (by decide) (by decide) h (by decide)).trans (congrArg (S.2 17) (by omega))
theorem s16_1 {S : FS} {p : Nat} {x : Int32} (h : p < 6) : fP 16 6 5 S (nI p) 1 x = wA S 17 (5 * p + 1) x := by
  refine (fP_nI (c := 1) (by decide) (by decide) (by decide) h (by decide)).trans (congrArg (fun q => wA S 17 q x) (by omega))
theorem g16_2 {S : FS} {p : Nat} (h : p < 6) : fG 16 6 5 S (nI p) 2 = S.2 17 (5 * p + 2) := by
  refine (fG_nI (c := 2) (by decide) (by decide) (by decide) h (by decide)).trans (congrArg (S.2 17) (by omega))
theorem s16_2 {S : FS} {p : Nat} {x : Int32} (h : p < 6) : fP 16 6 5 S (nI p) 2 x = wA S 17 (5 * p + 2) x := by
  refine (fP_nI (c := 2) (by decide) (by decide) (by decide) h (by decide)).trans (congrArg (fun q => wA S 17 q x) (by omega))
theorem g16_3 {S : FS} {p : Nat} (h : p < 6) : fG 16 6 5 S (nI p) 3 = S.2 17 (5 * p + 3) := by
  refine (fG_nI (c := 3) (by decide) (by decide) (by decide) h (by decide)).trans (congrArg (S.2 17) (by omega))
theorem s16_3 {S : FS} {p : Nat} {x : Int32} (h : p < 6) : fP 16 6 5 S (nI p) 3 x = wA S 17 (5 * p + 3) x := by
  refine (fP_nI (c := 3) (by decide) (by decide) (by decide) h (by decide)).trans (congrArg (fun q => wA S 17 q x) (by omega))
theorem g16_4 {S : FS} {p : Nat} (h : p < 6) : fG 16 6 5 S (nI p) 4 = S.2 17 (5 * p + 4) := by
  refine (fG_nI (c := 4) (by decide) (by decide) (by decide) h (by decide)).trans (congrArg (S.2 17) (by omega))
theorem s16_4 {S : FS} {p : Nat} {x : Int32} (h : p < 6) : fP 16 6 5 S (nI p) 4 x = wA S 17 (5 * p + 4) x := by
  refine (fP_nI (c := 4) (by decide) (by decide) (by decide) h (by decide)).trans (congrArg (fun q => wA S 17 q x) (by omega))
theorem g18_0 {S : FS} {p : Nat} (h : p < 30) : fG 18 30 5 S (nI p) 0 = S.2 19 (5 * p) := by
  refine (fG_nI (c := 0) (by decide) (by decide) (by decide) h (by decide)).trans (congrArg (S.2 19) (by omega))
theorem s18_0 {S : FS} {p : Nat} {x : Int32} (h : p < 30) : fP 18 30 5 S (nI p) 0 x = wA S 19 (5 * p) x := by
  refine (fP_nI (c := 0) (by decide) (by decide) (by decide) h (by decide)).trans (congrArg (fun q => wA S 19 q x) (by omega))
theorem g18_1 {S : FS} {p : Nat} (h : p < 30) : fG 18 30 5 S (nI p) 1 = S.2 19 (5 * p + 1) := by
  refine (fG_nI (c := 1) (by decide) (by decide) (by decide) h (by decide)).trans (congrArg (S.2 19) (by omega))
theorem s18_1 {S : FS} {p : Nat} {x : Int32} (h : p < 30) : fP 18 30 5 S (nI p) 1 x = wA S 19 (5 * p + 1) x := by
  refine (fP_nI (c := 1) (by decide) (by decide) (by decide) h (by decide)).trans (congrArg (fun q => wA S 19 q x) (by omega))
theorem g18_2 {S : FS} {p : Nat} (h : p < 30) : fG 18 30 5 S (nI p) 2 = S.2 19 (5 * p + 2) := by
  refine (fG_nI (c := 2) (by decide) (by decide) (by decide) h (by decide)).trans (congrArg (S.2 19) (by omega))
theorem s18_2 {S : FS} {p : Nat} {x : Int32} (h : p < 30) : fP 18 30 5 S (nI p) 2 x = wA S 19 (5 * p + 2) x := by
  refine (fP_nI (c := 2) (by decide) (by decide) (by decide) h (by decide)).trans (congrArg (fun q => wA S 19 q x) (by omega))
theorem g18_3 {S : FS} {p : Nat} (h : p < 30) : fG 18 30 5 S (nI p) 3 = S.2 19 (5 * p + 3) := by
  refine (fG_nI (c := 3) (by decide) (by decide) (by decide) h (by decide)).trans (congrArg (S.2 19) (by omega))
theorem s18_3 {S : FS} {p : Nat} {x : Int32} (h : p < 30) : fP 18 30 5 S (nI p) 3 x = wA S 19 (5 * p + 3) x := by
  refine (fP_nI (c := 3) (by decide) (by decide) (by decide) h (by decide)).trans (congrArg (fun q => wA S 19 q x) (by omega))
theorem g18_4 {S : FS} {p : Nat} (h : p < 30) : fG 18 30 5 S (nI p) 4 = S.2 19 (5 * p + 4) := by
  refine (fG_nI (c := 4) (by decide) (by decide) (by decide) h (by decide)).trans (congrArg (S.2 19) (by omega))
theorem s18_4 {S : FS} {p : Nat} {x : Int32} (h : p < 30) : fP 18 30 5 S (nI p) 4 x = wA S 19 (5 * p + 4) x := by
  refine (fP_nI (c := 4) (by decide) (by decide) (by decide) h (by decide)).trans (congrArg (fun q => wA S 19 q x) (by omega))
theorem g20_0 {S : FS} {p : Nat} (h : p < 5) : fG 20 5 1 S (nI p) 0 = S.2 21 (p) := by
  refine (fG_nI (c := 0) (by decide) (by decide) (by decide) h (by decide)).trans (congrArg (S.2 21) (by omega))
theorem s20_0 {S : FS} {p : Nat} {x : Int32} (h : p < 5) : fP 20 5 1 S (nI p) 0 x = wA S 21 (p) x := by
  refine (fP_nI (c := 0) (by decide) (by decide) (by decide) h (by decide)).trans (congrArg (fun q => wA S 21 q x) (by omega))
theorem g22_0 {S : FS} {p : Nat} (h : p < 20) : fG 22 20 1 S (nI p) 0 = S.2 23 (p) := by
  refine (fG_nI (c := 0) (by decide) (by decide) (by decide) h (by decide)).trans (congrArg (S.2 23) (by omega))
theorem s22_0 {S : FS} {p : Nat} {x : Int32} (h : p < 20) : fP 22 20 1 S (nI p) 0 x = wA S 23 (p) x := by
  refine (fP_nI (c := 0) (by decide) (by decide) (by decide) h (by decide)).trans (congrArg (fun q => wA S 23 q x) (by omega))
theorem g24_0 {S : FS} {p : Nat} (h : p < 60) : fG 24 60 1 S (nI p) 0 = S.2 25 (p) := by
  refine (fG_nI (c := 0) (by decide) (by decide) (by decide) h (by decide)).trans (congrArg (S.2 25) (by omega))
theorem s24_0 {S : FS} {p : Nat} {x : Int32} (h : p < 60) : fP 24 60 1 S (nI p) 0 x = wA S 25 (p) x := by
  refine (fP_nI (c := 0) (by decide) (by decide) (by decide) h (by decide)).trans (congrArg (fun q => wA S 25 q x) (by omega))
theorem g28_0 {S : FS} {p : Nat} (h : p < 60) : fG 28 60 1 S (nI p) 0 = S.2 29 (p) := by
  refine (fG_nI (c := 0) (by decide) (by decide) (by decide) h (by decide)).trans (congrArg (S.2 29) (by omega))
theorem s28_0 {S : FS} {p : Nat} {x : Int32} (h : p < 60) : fP 28 60 1 S (nI p) 0 x = wA S 29 (p) x := by
  refine (fP_nI (c := 0) (by decide) (by decide) (by decide) h (by decide)).trans (congrArg (fun q => wA S 29 q x) (by omega))
theorem g32_0 {S : FS} {p : Nat} (h : p < 20) : fG 32 20 1 S (nI p) 0 = S.2 33 (p) := by
  refine (fG_nI (c := 0) (by decide) (by decide) (by decide) h (by decide)).trans (congrArg (S.2 33) (by omega))
theorem s32_0 {S : FS} {p : Nat} {x : Int32} (h : p < 20) : fP 32 20 1 S (nI p) 0 x = wA S 33 (p) x := by
  refine (fP_nI (c := 0) (by decide) (by decide) (by decide) h (by decide)).trans (congrArg (fun q => wA S 33 q x) (by omega))
theorem g34_0 {S : FS} {p : Nat} (h : p < 9) : fG 34 9 1 S (nI p) 0 = S.2 35 (p) := by
  refine (fG_nI (c := 0) (by decide) (by decide) (by decide) h (by decide)).trans (congrArg (S.2 35) (by omega))
theorem s34_0 {S : FS} {p : Nat} {x : Int32} (h : p < 9) : fP 34 9 1 S (nI p) 0 x = wA S 35 (p) x := by
  refine (fP_nI (c := 0) (by decide) (by decide) (by decide) h (by decide)).trans (congrArg (fun q => wA S 35 q x) (by omega))
theorem g38_0 {S : FS} {p : Nat} (h : p < 20) : fG 38 20 1 S (nI p) 0 = S.2 39 (p) := by
  refine (fG_nI (c := 0) (by decide) (by decide) (by decide) h (by decide)).trans (congrArg (S.2 39) (by omega))
theorem s38_0 {S : FS} {p : Nat} {x : Int32} (h : p < 20) : fP 38 20 1 S (nI p) 0 x = wA S 39 (p) x := by
  refine (fP_nI (c := 0) (by decide) (by decide) (by decide) h (by decide)).trans (congrArg (fun q => wA S 39 q x) (by omega))
theorem g4 {S : FS} {p c : Nat} (h : p < 10) (hc : c < 10) : fG 4 10 10 S (nI p) (nI c) = S.2 5 (10 * p + c) := (fG_nI (by decide) (by decide) (by decide) h hc).trans (congrArg (S.2 5) (by omega))
theorem s4 {S : FS} {p c : Nat} {x : Int32} (h : p < 10) (hc : c < 10) : fP 4 10 10 S (nI p) (nI c) x = wA S 5 (10 * p + c) x := (fP_nI (by decide) (by decide) (by decide) h hc).trans (congrArg (fun q => wA S 5 q x) (by omega))
theorem g12 {S : FS} {p c : Nat} (h : p < 12) (hc : c < 60) : fG 12 12 60 S (nI p) (nI c) = S.2 13 (60 * p + c) := (fG_nI (by decide) (by decide) (by decide) h hc).trans (congrArg (S.2 13) (by omega))
theorem s12 {S : FS} {p c : Nat} {x : Int32} (h : p < 12) (hc : c < 60) : fP 12 12 60 S (nI p) (nI c) x = wA S 13 (60 * p + c) x := (fP_nI (by decide) (by decide) (by decide) h hc).trans (congrArg (fun q => wA S 13 q x) (by omega))
theorem g51 {S : FS} {p c : Nat} (h : p < 4) (hc : c < 24) : fG 51 4 24 S (nI p) (nI c) = S.2 52 (24 * p + c) := (fG_nI (by decide) (by decide) (by decide) h hc).trans (congrArg (S.2 52) (by omega))
theorem s51 {S : FS} {p c : Nat} {x : Int32} (h : p < 4) (hc : c < 24) : fP 51 4 24 S (nI p) (nI c) x = wA S 52 (24 * p + c) x := (fP_nI (by decide) (by decide) (by decide) h hc).trans (congrArg (fun q => wA S 52 q x) (by omega))
