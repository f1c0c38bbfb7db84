/-! ===== pure: texts; the class's levels ===== -/
theorem nB_nn {x : Int32} (h : nB 255 x) : ¬ x < 0 := by
  obtain ⟨c, hc, rfl⟩ := h
  exact nI_pos (by omega)
theorem rn_4 {x : Int32} (h : rn x = 4) : x = 43 ∨ x = 45 := by
  unfold rn at h
  repeat' split at h
  all_goals first | (exact Or.inl (by assumption)) | (exact Or.inr (by assumption)) | (exact absurd h (by decide))
theorem rn_3 {x : Int32} (h : rn x = 3) : x = 60 ∨ x = 61 ∨ x = 62 := by
  unfold rn at h
  repeat' split at h
  all_goals first | (exact Or.inl (by assumption)) | (exact Or.inr (Or.inl (by assumption))) | (exact Or.inr (Or.inr (by assumption))) | (exact absurd h (by decide))
theorem rn_2 {x : Int32} (h : rn x = 2) : x = 38 := by
  unfold rn at h
  repeat' split at h
  all_goals first | (exact absurd h (by decide)) | assumption
theorem rn_1 {x : Int32} (h : rn x = 1) : x = 124 := by
  unfold rn at h
  repeat' split at h
  all_goals first | (exact absurd h (by decide)) | assumption
theorem cdM_124 : cdM (-2) (-100 - 124) := Or.inr (Or.inr (Or.inr (Or.inl ⟨rfl, by decide⟩)))
theorem cdM_38 : cdM (-3) (-100 - 38) := Or.inr (Or.inr (Or.inr (Or.inr (Or.inl ⟨rfl, by decide⟩))))
theorem cdM_60 : cdM (-4) (-100 - 60) := Or.inr (Or.inr (Or.inr (Or.inr (Or.inr (Or.inl ⟨rfl, by decide⟩)))))
theorem cdM_61 : cdM (-5) (-100 - 61) := Or.inr (Or.inr (Or.inr (Or.inr (Or.inr (Or.inr (Or.inl ⟨rfl, by decide⟩))))))
theorem cdM_62 : cdM (-6) (-100 - 62) := Or.inr (Or.inr (Or.inr (Or.inr (Or.inr (Or.inr (Or.inr (Or.inl ⟨rfl, by decide⟩)))))))
theorem cdM_43 : cdM (-7) (-100 - 43) := Or.inr (Or.inr (Or.inr (Or.inr (Or.inr (Or.inr (Or.inr (Or.inr (Or.inl ⟨rfl, by decide⟩))))))))
theorem cdM_45 : cdM (-8) (-100 - 45) := Or.inr (Or.inr (Or.inr (Or.inr (Or.inr (Or.inr (Or.inr (Or.inr (Or.inr (⟨rfl, by decide⟩)))))))))
theorem pa_5 : PA f_X6_readPart_k5 := by
  refine ⟨fun S x h hc hd h33 h40 => ?_, fun S x h hB hd => ?_, fun S x h hB hd hn => ?_⟩
  · unfold f_X6_readPart_k5
    rw [h, fv_s]
    rcases hc with rfl | ⟨hB, hn⟩
    · rw [if_pos (by decide), dg6_n hd, if_pos rfl, if_neg h33, if_neg h40]
    · rw [if_neg (nB_nn hB), fidx_b hB, fb_s, dg6_n hd, if_pos rfl, if_pos hn, if_neg h33, if_neg h40]
  · unfold f_X6_readPart_k5
    rw [h, fv_s, if_neg (nB_nn hB), fidx_b hB, fb_s, if_neg (dg6_y hd)]
  · unfold f_X6_readPart_k5
    rw [h, fv_s, if_neg (nB_nn hB), fidx_b hB, fb_s, dg6_n hd, if_pos rfl, if_neg hn, fl_s]
theorem pf_5 (S : FS) (h : p_X6_next S = 33 ∨ p_X6_next S = 40) : f_X6_readPart_k5 S = fb (f_X6_fail S) (fun r => some (0, r.2)) := by
  unfold f_X6_readPart_k5
  rcases h with h | h
  · rw [h, fv_s, if_neg (by decide), fidx_b (x := 33) ⟨33, by decide, rfl⟩, fb_s, dg6_n (fun q => q.1 (by decide)), if_pos rfl, if_pos (by decide), if_pos rfl, if_neg (by decide)]
  · rw [h, fv_s, if_neg (by decide), fidx_b (x := 40) ⟨40, by decide, rfl⟩, fb_s, dg6_n (fun q => q.1 (by decide)), if_pos rfl, if_pos (by decide), if_neg (by decide), if_pos rfl]
theorem l1_X6_readSum_k5 (m i : Nat) (S : FS) (kk : FS → Int32 → Option (Int32 × FS)) (hi : i < 60) (hn : rn (p_X6_next S) ≠ 4) : l_X6_readSum_k5_7 kk (m + 1) S (nI i) = kk S (nI i) := by
  rw [l_X6_readSum_k5_7, if_pos (show nI i < 60 from nI_lt (b := 60) hi (by decide)), if_neg (fun e => hn (by rw [e]; decide)), if_neg (fun e => hn (by rw [e]; decide))]
theorem l2_X6_readSum_k5 (m i : Nat) (S : FS) (kk : FS → Int32 → Option (Int32 × FS)) (hi : i < 60) (hn : rn (p_X6_next S) = 4) : ∃ c : Int32, cdM c (-100 - p_X6_next S) ∧ (-20 < c ∧ c < 0) ∧ c ≠ -1 ∧ ∀ (S1 S2 : FS) (v : Int32), f_X6_readPart_k5 (wI S 105 (S.1 105 + 1)) = some (0, S1) → fApp 28 60 1 S1 c = some (v, S2) → l_X6_readSum_k5_7 kk (m + 1) S (nI i) = l_X6_readSum_k5_7 kk m S2 (nI (i + 1)) := by
  rcases rn_4 hn with e | e
  · refine ⟨-7, by rw [e]; exact cdM_43, by decide, by decide, fun S1 S2 v h1 h2 => ?_⟩
    rw [l_X6_readSum_k5_7, if_pos (show nI i < 60 from nI_lt (b := 60) hi (by decide)), if_pos e, fl_s, h1, fb_s]
    show fb (fApp 28 60 1 S1 (-7)) _ = _
    rw [h2, fb_s, nI_1]
  · refine ⟨-8, by rw [e]; exact cdM_45, by decide, by decide, fun S1 S2 v h1 h2 => ?_⟩
    rw [l_X6_readSum_k5_7, if_pos (show nI i < 60 from nI_lt (b := 60) hi (by decide)), if_neg (by rw [e]; decide), if_pos e, fl_s, h1, fb_s]
    show fb (fApp 28 60 1 S1 (-8)) _ = _
    rw [h2, fb_s, nI_1]
theorem l1_X6_readConjunction_k5 (m i : Nat) (S : FS) (kk : FS → Int32 → Option (Int32 × FS)) (hi : i < 60) (hn : rn (p_X6_next S) ≠ 2) : l_X6_readConjunction_k5_7 kk (m + 1) S (nI i) = kk S (nI i) := by
  rw [l_X6_readConjunction_k5_7, if_pos (show nI i < 60 from nI_lt (b := 60) hi (by decide)), if_neg (fun e => hn (by rw [e]; decide))]
theorem l2_X6_readConjunction_k5 (m i : Nat) (S : FS) (kk : FS → Int32 → Option (Int32 × FS)) (hi : i < 60) (hn : rn (p_X6_next S) = 2) : ∃ c : Int32, cdM c (-100 - p_X6_next S) ∧ (-20 < c ∧ c < 0) ∧ c ≠ -1 ∧ ∀ (S1 S2 : FS) (v : Int32), f_X6_readComparison_k5 (wI S 105 (S.1 105 + 1)) = some (0, S1) → fApp 28 60 1 S1 c = some (v, S2) → l_X6_readConjunction_k5_7 kk (m + 1) S (nI i) = l_X6_readConjunction_k5_7 kk m S2 (nI (i + 1)) := by
  have e := rn_2 hn
  refine ⟨-3, by rw [e]; exact cdM_38, by decide, by decide, fun S1 S2 v h1 h2 => ?_⟩
  rw [l_X6_readConjunction_k5_7, if_pos (show nI i < 60 from nI_lt (b := 60) hi (by decide)), if_pos e, fl_s, h1, fb_s]
  show fb (fApp 28 60 1 S1 (-3)) _ = _
  rw [h2, fb_s, nI_1]
theorem l1_X6_readText_k5 (m i : Nat) (S : FS) (kk : FS → Int32 → Option (Int32 × FS)) (hi : i < 60) (hn : rn (p_X6_next S) ≠ 1) : l_X6_readText_k5_7 kk (m + 1) S (nI i) = kk S (nI i) := by
  rw [l_X6_readText_k5_7, if_pos (show nI i < 60 from nI_lt (b := 60) hi (by decide)), if_neg (fun e => hn (by rw [e]; decide))]
theorem l2_X6_readText_k5 (m i : Nat) (S : FS) (kk : FS → Int32 → Option (Int32 × FS)) (hi : i < 60) (hn : rn (p_X6_next S) = 1) : ∃ c : Int32, cdM c (-100 - p_X6_next S) ∧ (-20 < c ∧ c < 0) ∧ c ≠ -1 ∧ ∀ (S1 S2 : FS) (v : Int32), f_X6_readConjunction_k5 (wI S 105 (S.1 105 + 1)) = some (0, S1) → fApp 28 60 1 S1 c = some (v, S2) → l_X6_readText_k5_7 kk (m + 1) S (nI i) = l_X6_readText_k5_7 kk m S2 (nI (i + 1)) := by
  have e := rn_1 hn
  refine ⟨-2, by rw [e]; exact cdM_124, by decide, by decide, fun S1 S2 v h1 h2 => ?_⟩
  rw [l_X6_readText_k5_7, if_pos (show nI i < 60 from nI_lt (b := 60) hi (by decide)), if_pos e, fl_s, h1, fb_s]
  show fb (fApp 28 60 1 S1 (-2)) _ = _
  rw [h2, fb_s, nI_1]
theorem c1_5 (S S1 : FS) (h : f_X6_readSum_k5 S = some (0, S1)) (hn : rn (p_X6_next S1) ≠ 3) : f_X6_readComparison_k5 S = some (0, S1) := by
  unfold f_X6_readComparison_k5
  rw [h, fb_s]
  show fv (p_X6_next S1) _ = _
  rw [fv_s, if_neg (fun e => hn (by rw [e]; decide)), if_neg (fun e => hn (by rw [e]; decide)), if_neg (fun e => hn (by rw [e]; decide))]
theorem c2_5 (S S1 : FS) (h : f_X6_readSum_k5 S = some (0, S1)) (hn : rn (p_X6_next S1) = 3) : ∃ c : Int32, cdM c (-100 - p_X6_next S1) ∧ (-20 < c ∧ c < 0) ∧ c ≠ -1 ∧ ∀ (S2 S3 : FS) (v : Int32), f_X6_readSum_k5 (wI S1 105 (S1.1 105 + 1)) = some (0, S2) → fApp 28 60 1 S2 c = some (v, S3) → f_X6_readComparison_k5 S = some (0, S3) := by
  rcases rn_3 hn with e | e | e
  · refine ⟨-4, by rw [e]; exact cdM_60, by decide, by decide, fun S2 S3 v h1 h2 => ?_⟩
    unfold f_X6_readComparison_k5
    rw [h, fb_s]
    show fv (p_X6_next S1) _ = _
    rw [fv_s, if_pos e, fl_s]
    show fb (f_X6_readSum_k5 (wI S1 105 (S1.1 105 + 1))) _ = _
    rw [h1, fb_s]
    show fb (fApp 28 60 1 S2 (-4)) _ = _
    rw [h2, fb_s]
  · refine ⟨-5, by rw [e]; exact cdM_61, by decide, by decide, fun S2 S3 v h1 h2 => ?_⟩
    unfold f_X6_readComparison_k5
    rw [h, fb_s]
    show fv (p_X6_next S1) _ = _
    rw [fv_s, if_neg (by rw [e]; decide), if_pos e, fl_s]
    show fb (f_X6_readSum_k5 (wI S1 105 (S1.1 105 + 1))) _ = _
    rw [h1, fb_s]
    show fb (fApp 28 60 1 S2 (-5)) _ = _
    rw [h2, fb_s]
  · refine ⟨-6, by rw [e]; exact cdM_62, by decide, by decide, fun S2 S3 v h1 h2 => ?_⟩
    unfold f_X6_readComparison_k5
    rw [h, fb_s]
    show fv (p_X6_next S1) _ = _
    rw [fv_s, if_neg (by rw [e]; decide), if_neg (by rw [e]; decide), if_pos e, fl_s]
    show fb (f_X6_readSum_k5 (wI S1 105 (S1.1 105 + 1))) _ = _
    rw [h1, fb_s]
    show fb (fApp 28 60 1 S2 (-6)) _ = _
    rw [h2, fb_s]
theorem lev_5 {b : Nat → Int32} {L : Nat} {S0 T0 : FS} (ht : TP b L S0 T0) : PO b L S0 T0 5 f_X6_readPart_k5 ∧ LV b L S0 T0 1 5 f_X6_readText_k5 := by
  have p : PO b L S0 T0 5 f_X6_readPart_k5 := part_5 ht pa_5 pf_5
  have s : LV b L S0 T0 4 5 f_X6_readSum_k5 := lv_loop (l := l_X6_readSum_k5_7) ht (lv_part p) (by decide) (by decide) (by decide) l1_X6_readSum_k5 l2_X6_readSum_k5 (fun _ => rfl)
  have c : LV b L S0 T0 3 5 f_X6_readComparison_k5 := lv_cmp ht s c1_5 c2_5
  have j : LV b L S0 T0 2 5 f_X6_readConjunction_k5 := lv_loop (l := l_X6_readConjunction_k5_7) ht c (by decide) (by decide) (by decide) l1_X6_readConjunction_k5 l2_X6_readConjunction_k5 (fun _ => rfl)
  exact ⟨p, lv_loop (l := l_X6_readText_k5_7) ht j (by decide) (by decide) (by decide) l1_X6_readText_k5 l2_X6_readText_k5 (fun _ => rfl)⟩
theorem pa_4 : PA f_X6_readPart_k4 := by
  refine ⟨fun S x h hc hd h33 h40 => ?_, fun S x h hB hd => ?_, fun S x h hB hd hn => ?_⟩
  · unfold f_X6_readPart_k4
    rw [h, fv_s]
    rcases hc with rfl | ⟨hB, hn⟩
    · rw [if_pos (by decide), dg6_n hd, if_pos rfl, if_neg h33, if_neg h40]
    · rw [if_neg (nB_nn hB), fidx_b hB, fb_s, dg6_n hd, if_pos rfl, if_pos hn, if_neg h33, if_neg h40]
  · unfold f_X6_readPart_k4
    rw [h, fv_s, if_neg (nB_nn hB), fidx_b hB, fb_s, if_neg (dg6_y hd)]
  · unfold f_X6_readPart_k4
    rw [h, fv_s, if_neg (nB_nn hB), fidx_b hB, fb_s, dg6_n hd, if_pos rfl, if_neg hn, fl_s]
theorem px_4 (S : FS) (h : p_X6_next S = 33) : f_X6_readPart_k4 S = fb (f_X6_readPart_k5 (wI S 105 (S.1 105 + 1))) (fun r => fb (fApp 28 60 1 r.2 (-1)) (fun r => some (0, r.2))) := by
  unfold f_X6_readPart_k4
  rw [h, fv_s, if_neg (by decide), fidx_b (x := 33) ⟨33, by decide, rfl⟩, fb_s, dg6_n (fun q => q.1 (by decide)), if_pos rfl, if_pos (by decide), if_pos rfl, fl_s]
theorem py_4 (S : FS) (h : p_X6_next S = 40) : f_X6_readPart_k4 S = fb (f_X6_readText_k5 (wI S 105 (S.1 105 + 1))) (fun r => fb (f_X6_readClosing r.2) (fun r => some (0, r.2))) := by
  unfold f_X6_readPart_k4
  rw [h, fv_s, if_neg (by decide), fidx_b (x := 40) ⟨40, by decide, rfl⟩, fb_s, dg6_n (fun q => q.1 (by decide)), if_pos rfl, if_pos (by decide), if_neg (by decide), if_pos rfl, fl_s]
theorem l1_X6_readSum_k4 (m i : Nat) (S : FS) (kk : FS → Int32 → Option (Int32 × FS)) (hi : i < 60) (hn : rn (p_X6_next S) ≠ 4) : l_X6_readSum_k4_7 kk (m + 1) S (nI i) = kk S (nI i) := by
  rw [l_X6_readSum_k4_7, if_pos (show nI i < 60 from nI_lt (b := 60) hi (by decide)), if_neg (fun e => hn (by rw [e]; decide)), if_neg (fun e => hn (by rw [e]; decide))]
theorem l2_X6_readSum_k4 (m i : Nat) (S : FS) (kk : FS → Int32 → Option (Int32 × FS)) (hi : i < 60) (hn : rn (p_X6_next S) = 4) : ∃ c : Int32, cdM c (-100 - p_X6_next S) ∧ (-20 < c ∧ c < 0) ∧ c ≠ -1 ∧ ∀ (S1 S2 : FS) (v : Int32), f_X6_readPart_k4 (wI S 105 (S.1 105 + 1)) = some (0, S1) → fApp 28 60 1 S1 c = some (v, S2) → l_X6_readSum_k4_7 kk (m + 1) S (nI i) = l_X6_readSum_k4_7 kk m S2 (nI (i + 1)) := by
  rcases rn_4 hn with e | e
  · refine ⟨-7, by rw [e]; exact cdM_43, by decide, by decide, fun S1 S2 v h1 h2 => ?_⟩
    rw [l_X6_readSum_k4_7, if_pos (show nI i < 60 from nI_lt (b := 60) hi (by decide)), if_pos e, fl_s, h1, fb_s]
    show fb (fApp 28 60 1 S1 (-7)) _ = _
    rw [h2, fb_s, nI_1]
  · refine ⟨-8, by rw [e]; exact cdM_45, by decide, by decide, fun S1 S2 v h1 h2 => ?_⟩
    rw [l_X6_readSum_k4_7, if_pos (show nI i < 60 from nI_lt (b := 60) hi (by decide)), if_neg (by rw [e]; decide), if_pos e, fl_s, h1, fb_s]
    show fb (fApp 28 60 1 S1 (-8)) _ = _
    rw [h2, fb_s, nI_1]
theorem l1_X6_readConjunction_k4 (m i : Nat) (S : FS) (kk : FS → Int32 → Option (Int32 × FS)) (hi : i < 60) (hn : rn (p_X6_next S) ≠ 2) : l_X6_readConjunction_k4_7 kk (m + 1) S (nI i) = kk S (nI i) := by
  rw [l_X6_readConjunction_k4_7, if_pos (show nI i < 60 from nI_lt (b := 60) hi (by decide)), if_neg (fun e => hn (by rw [e]; decide))]
theorem l2_X6_readConjunction_k4 (m i : Nat) (S : FS) (kk : FS → Int32 → Option (Int32 × FS)) (hi : i < 60) (hn : rn (p_X6_next S) = 2) : ∃ c : Int32, cdM c (-100 - p_X6_next S) ∧ (-20 < c ∧ c < 0) ∧ c ≠ -1 ∧ ∀ (S1 S2 : FS) (v : Int32), f_X6_readComparison_k4 (wI S 105 (S.1 105 + 1)) = some (0, S1) → fApp 28 60 1 S1 c = some (v, S2) → l_X6_readConjunction_k4_7 kk (m + 1) S (nI i) = l_X6_readConjunction_k4_7 kk m S2 (nI (i + 1)) := by
  have e := rn_2 hn
  refine ⟨-3, by rw [e]; exact cdM_38, by decide, by decide, fun S1 S2 v h1 h2 => ?_⟩
  rw [l_X6_readConjunction_k4_7, if_pos (show nI i < 60 from nI_lt (b := 60) hi (by decide)), if_pos e, fl_s, h1, fb_s]
  show fb (fApp 28 60 1 S1 (-3)) _ = _
  rw [h2, fb_s, nI_1]
theorem l1_X6_readText_k4 (m i : Nat) (S : FS) (kk : FS → Int32 → Option (Int32 × FS)) (hi : i < 60) (hn : rn (p_X6_next S) ≠ 1) : l_X6_readText_k4_7 kk (m + 1) S (nI i) = kk S (nI i) := by
  rw [l_X6_readText_k4_7, if_pos (show nI i < 60 from nI_lt (b := 60) hi (by decide)), if_neg (fun e => hn (by rw [e]; decide))]
theorem l2_X6_readText_k4 (m i : Nat) (S : FS) (kk : FS → Int32 → Option (Int32 × FS)) (hi : i < 60) (hn : rn (p_X6_next S) = 1) : ∃ c : Int32, cdM c (-100 - p_X6_next S) ∧ (-20 < c ∧ c < 0) ∧ c ≠ -1 ∧ ∀ (S1 S2 : FS) (v : Int32), f_X6_readConjunction_k4 (wI S 105 (S.1 105 + 1)) = some (0, S1) → fApp 28 60 1 S1 c = some (v, S2) → l_X6_readText_k4_7 kk (m + 1) S (nI i) = l_X6_readText_k4_7 kk m S2 (nI (i + 1)) := by
  have e := rn_1 hn
  refine ⟨-2, by rw [e]; exact cdM_124, by decide, by decide, fun S1 S2 v h1 h2 => ?_⟩
  rw [l_X6_readText_k4_7, if_pos (show nI i < 60 from nI_lt (b := 60) hi (by decide)), if_pos e, fl_s, h1, fb_s]
  show fb (fApp 28 60 1 S1 (-2)) _ = _
  rw [h2, fb_s, nI_1]
theorem c1_4 (S S1 : FS) (h : f_X6_readSum_k4 S = some (0, S1)) (hn : rn (p_X6_next S1) ≠ 3) : f_X6_readComparison_k4 S = some (0, S1) := by
  unfold f_X6_readComparison_k4
  rw [h, fb_s]
  show fv (p_X6_next S1) _ = _
  rw [fv_s, if_neg (fun e => hn (by rw [e]; decide)), if_neg (fun e => hn (by rw [e]; decide)), if_neg (fun e => hn (by rw [e]; decide))]
theorem c2_4 (S S1 : FS) (h : f_X6_readSum_k4 S = some (0, S1)) (hn : rn (p_X6_next S1) = 3) : ∃ c : Int32, cdM c (-100 - p_X6_next S1) ∧ (-20 < c ∧ c < 0) ∧ c ≠ -1 ∧ ∀ (S2 S3 : FS) (v : Int32), f_X6_readSum_k4 (wI S1 105 (S1.1 105 + 1)) = some (0, S2) → fApp 28 60 1 S2 c = some (v, S3) → f_X6_readComparison_k4 S = some (0, S3) := by
  rcases rn_3 hn with e | e | e
  · refine ⟨-4, by rw [e]; exact cdM_60, by decide, by decide, fun S2 S3 v h1 h2 => ?_⟩
    unfold f_X6_readComparison_k4
    rw [h, fb_s]
    show fv (p_X6_next S1) _ = _
    rw [fv_s, if_pos e, fl_s]
    show fb (f_X6_readSum_k4 (wI S1 105 (S1.1 105 + 1))) _ = _
    rw [h1, fb_s]
    show fb (fApp 28 60 1 S2 (-4)) _ = _
    rw [h2, fb_s]
  · refine ⟨-5, by rw [e]; exact cdM_61, by decide, by decide, fun S2 S3 v h1 h2 => ?_⟩
    unfold f_X6_readComparison_k4
    rw [h, fb_s]
    show fv (p_X6_next S1) _ = _
    rw [fv_s, if_neg (by rw [e]; decide), if_pos e, fl_s]
    show fb (f_X6_readSum_k4 (wI S1 105 (S1.1 105 + 1))) _ = _
    rw [h1, fb_s]
    show fb (fApp 28 60 1 S2 (-5)) _ = _
    rw [h2, fb_s]
  · refine ⟨-6, by rw [e]; exact cdM_62, by decide, by decide, fun S2 S3 v h1 h2 => ?_⟩
    unfold f_X6_readComparison_k4
    rw [h, fb_s]
    show fv (p_X6_next S1) _ = _
    rw [fv_s, if_neg (by rw [e]; decide), if_neg (by rw [e]; decide), if_pos e, fl_s]
    show fb (f_X6_readSum_k4 (wI S1 105 (S1.1 105 + 1))) _ = _
    rw [h1, fb_s]
    show fb (fApp 28 60 1 S2 (-6)) _ = _
    rw [h2, fb_s]
theorem lev_4 {b : Nat → Int32} {L : Nat} {S0 T0 : FS} (ht : TP b L S0 T0) : PO b L S0 T0 4 f_X6_readPart_k4 ∧ LV b L S0 T0 1 4 f_X6_readText_k4 := by
  have p : PO b L S0 T0 4 f_X6_readPart_k4 := part_k ht (by decide) pa_4 (lev_5 ht).1 (lev_5 ht).2 px_4 py_4
  have s : LV b L S0 T0 4 4 f_X6_readSum_k4 := lv_loop (l := l_X6_readSum_k4_7) ht (lv_part p) (by decide) (by decide) (by decide) l1_X6_readSum_k4 l2_X6_readSum_k4 (fun _ => rfl)
  have c : LV b L S0 T0 3 4 f_X6_readComparison_k4 := lv_cmp ht s c1_4 c2_4
  have j : LV b L S0 T0 2 4 f_X6_readConjunction_k4 := lv_loop (l := l_X6_readConjunction_k4_7) ht c (by decide) (by decide) (by decide) l1_X6_readConjunction_k4 l2_X6_readConjunction_k4 (fun _ => rfl)
  exact ⟨p, lv_loop (l := l_X6_readText_k4_7) ht j (by decide) (by decide) (by decide) l1_X6_readText_k4 l2_X6_readText_k4 (fun _ => rfl)⟩
theorem pa_3 : PA f_X6_readPart_k3 := by
  refine ⟨fun S x h hc hd h33 h40 => ?_, fun S x h hB hd => ?_, fun S x h hB hd hn => ?_⟩
  · unfold f_X6_readPart_k3
    rw [h, fv_s]
    rcases hc with rfl | ⟨hB, hn⟩
    · rw [if_pos (by decide), dg6_n hd, if_pos rfl, if_neg h33, if_neg h40]
    · rw [if_neg (nB_nn hB), fidx_b hB, fb_s, dg6_n hd, if_pos rfl, if_pos hn, if_neg h33, if_neg h40]
  · unfold f_X6_readPart_k3
    rw [h, fv_s, if_neg (nB_nn hB), fidx_b hB, fb_s, if_neg (dg6_y hd)]
  · unfold f_X6_readPart_k3
    rw [h, fv_s, if_neg (nB_nn hB), fidx_b hB, fb_s, dg6_n hd, if_pos rfl, if_neg hn, fl_s]
theorem px_3 (S : FS) (h : p_X6_next S = 33) : f_X6_readPart_k3 S = fb (f_X6_readPart_k4 (wI S 105 (S.1 105 + 1))) (fun r => fb (fApp 28 60 1 r.2 (-1)) (fun r => some (0, r.2))) := by
  unfold f_X6_readPart_k3
  rw [h, fv_s, if_neg (by decide), fidx_b (x := 33) ⟨33, by decide, rfl⟩, fb_s, dg6_n (fun q => q.1 (by decide)), if_pos rfl, if_pos (by decide), if_pos rfl, fl_s]
theorem py_3 (S : FS) (h : p_X6_next S = 40) : f_X6_readPart_k3 S = fb (f_X6_readText_k4 (wI S 105 (S.1 105 + 1))) (fun r => fb (f_X6_readClosing r.2) (fun r => some (0, r.2))) := by
  unfold f_X6_readPart_k3
  rw [h, fv_s, if_neg (by decide), fidx_b (x := 40) ⟨40, by decide, rfl⟩, fb_s, dg6_n (fun q => q.1 (by decide)), if_pos rfl, if_pos (by decide), if_neg (by decide), if_pos rfl, fl_s]
theorem l1_X6_readSum_k3 (m i : Nat) (S : FS) (kk : FS → Int32 → Option (Int32 × FS)) (hi : i < 60) (hn : rn (p_X6_next S) ≠ 4) : l_X6_readSum_k3_7 kk (m + 1) S (nI i) = kk S (nI i) := by
  rw [l_X6_readSum_k3_7, if_pos (show nI i < 60 from nI_lt (b := 60) hi (by decide)), if_neg (fun e => hn (by rw [e]; decide)), if_neg (fun e => hn (by rw [e]; decide))]
theorem l2_X6_readSum_k3 (m i : Nat) (S : FS) (kk : FS → Int32 → Option (Int32 × FS)) (hi : i < 60) (hn : rn (p_X6_next S) = 4) : ∃ c : Int32, cdM c (-100 - p_X6_next S) ∧ (-20 < c ∧ c < 0) ∧ c ≠ -1 ∧ ∀ (S1 S2 : FS) (v : Int32), f_X6_readPart_k3 (wI S 105 (S.1 105 + 1)) = some (0, S1) → fApp 28 60 1 S1 c = some (v, S2) → l_X6_readSum_k3_7 kk (m + 1) S (nI i) = l_X6_readSum_k3_7 kk m S2 (nI (i + 1)) := by
  rcases rn_4 hn with e | e
  · refine ⟨-7, by rw [e]; exact cdM_43, by decide, by decide, fun S1 S2 v h1 h2 => ?_⟩
    rw [l_X6_readSum_k3_7, if_pos (show nI i < 60 from nI_lt (b := 60) hi (by decide)), if_pos e, fl_s, h1, fb_s]
    show fb (fApp 28 60 1 S1 (-7)) _ = _
    rw [h2, fb_s, nI_1]
  · refine ⟨-8, by rw [e]; exact cdM_45, by decide, by decide, fun S1 S2 v h1 h2 => ?_⟩
    rw [l_X6_readSum_k3_7, if_pos (show nI i < 60 from nI_lt (b := 60) hi (by decide)), if_neg (by rw [e]; decide), if_pos e, fl_s, h1, fb_s]
    show fb (fApp 28 60 1 S1 (-8)) _ = _
    rw [h2, fb_s, nI_1]
theorem l1_X6_readConjunction_k3 (m i : Nat) (S : FS) (kk : FS → Int32 → Option (Int32 × FS)) (hi : i < 60) (hn : rn (p_X6_next S) ≠ 2) : l_X6_readConjunction_k3_7 kk (m + 1) S (nI i) = kk S (nI i) := by
  rw [l_X6_readConjunction_k3_7, if_pos (show nI i < 60 from nI_lt (b := 60) hi (by decide)), if_neg (fun e => hn (by rw [e]; decide))]
theorem l2_X6_readConjunction_k3 (m i : Nat) (S : FS) (kk : FS → Int32 → Option (Int32 × FS)) (hi : i < 60) (hn : rn (p_X6_next S) = 2) : ∃ c : Int32, cdM c (-100 - p_X6_next S) ∧ (-20 < c ∧ c < 0) ∧ c ≠ -1 ∧ ∀ (S1 S2 : FS) (v : Int32), f_X6_readComparison_k3 (wI S 105 (S.1 105 + 1)) = some (0, S1) → fApp 28 60 1 S1 c = some (v, S2) → l_X6_readConjunction_k3_7 kk (m + 1) S (nI i) = l_X6_readConjunction_k3_7 kk m S2 (nI (i + 1)) := by
  have e := rn_2 hn
  refine ⟨-3, by rw [e]; exact cdM_38, by decide, by decide, fun S1 S2 v h1 h2 => ?_⟩
  rw [l_X6_readConjunction_k3_7, if_pos (show nI i < 60 from nI_lt (b := 60) hi (by decide)), if_pos e, fl_s, h1, fb_s]
  show fb (fApp 28 60 1 S1 (-3)) _ = _
  rw [h2, fb_s, nI_1]
theorem l1_X6_readText_k3 (m i : Nat) (S : FS) (kk : FS → Int32 → Option (Int32 × FS)) (hi : i < 60) (hn : rn (p_X6_next S) ≠ 1) : l_X6_readText_k3_7 kk (m + 1) S (nI i) = kk S (nI i) := by
  rw [l_X6_readText_k3_7, if_pos (show nI i < 60 from nI_lt (b := 60) hi (by decide)), if_neg (fun e => hn (by rw [e]; decide))]
theorem l2_X6_readText_k3 (m i : Nat) (S : FS) (kk : FS → Int32 → Option (Int32 × FS)) (hi : i < 60) (hn : rn (p_X6_next S) = 1) : ∃ c : Int32, cdM c (-100 - p_X6_next S) ∧ (-20 < c ∧ c < 0) ∧ c ≠ -1 ∧ ∀ (S1 S2 : FS) (v : Int32), f_X6_readConjunction_k3 (wI S 105 (S.1 105 + 1)) = some (0, S1) → fApp 28 60 1 S1 c = some (v, S2) → l_X6_readText_k3_7 kk (m + 1) S (nI i) = l_X6_readText_k3_7 kk m S2 (nI (i + 1)) := by
  have e := rn_1 hn
  refine ⟨-2, by rw [e]; exact cdM_124, by decide, by decide, fun S1 S2 v h1 h2 => ?_⟩
  rw [l_X6_readText_k3_7, if_pos (show nI i < 60 from nI_lt (b := 60) hi (by decide)), if_pos e, fl_s, h1, fb_s]
  show fb (fApp 28 60 1 S1 (-2)) _ = _
  rw [h2, fb_s, nI_1]
theorem c1_3 (S S1 : FS) (h : f_X6_readSum_k3 S = some (0, S1)) (hn : rn (p_X6_next S1) ≠ 3) : f_X6_readComparison_k3 S = some (0, S1) := by
  unfold f_X6_readComparison_k3
  rw [h, fb_s]
  show fv (p_X6_next S1) _ = _
  rw [fv_s, if_neg (fun e => hn (by rw [e]; decide)), if_neg (fun e => hn (by rw [e]; decide)), if_neg (fun e => hn (by rw [e]; decide))]
theorem c2_3 (S S1 : FS) (h : f_X6_readSum_k3 S = some (0, S1)) (hn : rn (p_X6_next S1) = 3) : ∃ c : Int32, cdM c (-100 - p_X6_next S1) ∧ (-20 < c ∧ c < 0) ∧ c ≠ -1 ∧ ∀ (S2 S3 : FS) (v : Int32), f_X6_readSum_k3 (wI S1 105 (S1.1 105 + 1)) = some (0, S2) → fApp 28 60 1 S2 c = some (v, S3) → f_X6_readComparison_k3 S = some (0, S3) := by
  rcases rn_3 hn with e | e | e
  · refine ⟨-4, by rw [e]; exact cdM_60, by decide, by decide, fun S2 S3 v h1 h2 => ?_⟩
    unfold f_X6_readComparison_k3
    rw [h, fb_s]
    show fv (p_X6_next S1) _ = _
    rw [fv_s, if_pos e, fl_s]
    show fb (f_X6_readSum_k3 (wI S1 105 (S1.1 105 + 1))) _ = _
    rw [h1, fb_s]
    show fb (fApp 28 60 1 S2 (-4)) _ = _
    rw [h2, fb_s]
  · refine ⟨-5, by rw [e]; exact cdM_61, by decide, by decide, fun S2 S3 v h1 h2 => ?_⟩
    unfold f_X6_readComparison_k3
    rw [h, fb_s]
    show fv (p_X6_next S1) _ = _
    rw [fv_s, if_neg (by rw [e]; decide), if_pos e, fl_s]
    show fb (f_X6_readSum_k3 (wI S1 105 (S1.1 105 + 1))) _ = _
    rw [h1, fb_s]
    show fb (fApp 28 60 1 S2 (-5)) _ = _
    rw [h2, fb_s]
  · refine ⟨-6, by rw [e]; exact cdM_62, by decide, by decide, fun S2 S3 v h1 h2 => ?_⟩
    unfold f_X6_readComparison_k3
    rw [h, fb_s]
    show fv (p_X6_next S1) _ = _
    rw [fv_s, if_neg (by rw [e]; decide), if_neg (by rw [e]; decide), if_pos e, fl_s]
    show fb (f_X6_readSum_k3 (wI S1 105 (S1.1 105 + 1))) _ = _
    rw [h1, fb_s]
    show fb (fApp 28 60 1 S2 (-6)) _ = _
    rw [h2, fb_s]
theorem lev_3 {b : Nat → Int32} {L : Nat} {S0 T0 : FS} (ht : TP b L S0 T0) : PO b L S0 T0 3 f_X6_readPart_k3 ∧ LV b L S0 T0 1 3 f_X6_readText_k3 := by
  have p : PO b L S0 T0 3 f_X6_readPart_k3 := part_k ht (by decide) pa_3 (lev_4 ht).1 (lev_4 ht).2 px_3 py_3
  have s : LV b L S0 T0 4 3 f_X6_readSum_k3 := lv_loop (l := l_X6_readSum_k3_7) ht (lv_part p) (by decide) (by decide) (by decide) l1_X6_readSum_k3 l2_X6_readSum_k3 (fun _ => rfl)
  have c : LV b L S0 T0 3 3 f_X6_readComparison_k3 := lv_cmp ht s c1_3 c2_3
  have j : LV b L S0 T0 2 3 f_X6_readConjunction_k3 := lv_loop (l := l_X6_readConjunction_k3_7) ht c (by decide) (by decide) (by decide) l1_X6_readConjunction_k3 l2_X6_readConjunction_k3 (fun _ => rfl)
  exact ⟨p, lv_loop (l := l_X6_readText_k3_7) ht j (by decide) (by decide) (by decide) l1_X6_readText_k3 l2_X6_readText_k3 (fun _ => rfl)⟩
theorem pa_2 : PA f_X6_readPart_k2 := by
  refine ⟨fun S x h hc hd h33 h40 => ?_, fun S x h hB hd => ?_, fun S x h hB hd hn => ?_⟩
  · unfold f_X6_readPart_k2
    rw [h, fv_s]
    rcases hc with rfl | ⟨hB, hn⟩
    · rw [if_pos (by decide), dg6_n hd, if_pos rfl, if_neg h33, if_neg h40]
    · rw [if_neg (nB_nn hB), fidx_b hB, fb_s, dg6_n hd, if_pos rfl, if_pos hn, if_neg h33, if_neg h40]
  · unfold f_X6_readPart_k2
    rw [h, fv_s, if_neg (nB_nn hB), fidx_b hB, fb_s, if_neg (dg6_y hd)]
  · unfold f_X6_readPart_k2
    rw [h, fv_s, if_neg (nB_nn hB), fidx_b hB, fb_s, dg6_n hd, if_pos rfl, if_neg hn, fl_s]
theorem px_2 (S : FS) (h : p_X6_next S = 33) : f_X6_readPart_k2 S = fb (f_X6_readPart_k3 (wI S 105 (S.1 105 + 1))) (fun r => fb (fApp 28 60 1 r.2 (-1)) (fun r => some (0, r.2))) := by
  unfold f_X6_readPart_k2
  rw [h, fv_s, if_neg (by decide), fidx_b (x := 33) ⟨33, by decide, rfl⟩, fb_s, dg6_n (fun q => q.1 (by decide)), if_pos rfl, if_pos (by decide), if_pos rfl, fl_s]
theorem py_2 (S : FS) (h : p_X6_next S = 40) : f_X6_readPart_k2 S = fb (f_X6_readText_k3 (wI S 105 (S.1 105 + 1))) (fun r => fb (f_X6_readClosing r.2) (fun r => some (0, r.2))) := by
  unfold f_X6_readPart_k2
  rw [h, fv_s, if_neg (by decide), fidx_b (x := 40) ⟨40, by decide, rfl⟩, fb_s, dg6_n (fun q => q.1 (by decide)), if_pos rfl, if_pos (by decide), if_neg (by decide), if_pos rfl, fl_s]
theorem l1_X6_readSum_k2 (m i : Nat) (S : FS) (kk : FS → Int32 → Option (Int32 × FS)) (hi : i < 60) (hn : rn (p_X6_next S) ≠ 4) : l_X6_readSum_k2_7 kk (m + 1) S (nI i) = kk S (nI i) := by
  rw [l_X6_readSum_k2_7, if_pos (show nI i < 60 from nI_lt (b := 60) hi (by decide)), if_neg (fun e => hn (by rw [e]; decide)), if_neg (fun e => hn (by rw [e]; decide))]
theorem l2_X6_readSum_k2 (m i : Nat) (S : FS) (kk : FS → Int32 → Option (Int32 × FS)) (hi : i < 60) (hn : rn (p_X6_next S) = 4) : ∃ c : Int32, cdM c (-100 - p_X6_next S) ∧ (-20 < c ∧ c < 0) ∧ c ≠ -1 ∧ ∀ (S1 S2 : FS) (v : Int32), f_X6_readPart_k2 (wI S 105 (S.1 105 + 1)) = some (0, S1) → fApp 28 60 1 S1 c = some (v, S2) → l_X6_readSum_k2_7 kk (m + 1) S (nI i) = l_X6_readSum_k2_7 kk m S2 (nI (i + 1)) := by
  rcases rn_4 hn with e | e
  · refine ⟨-7, by rw [e]; exact cdM_43, by decide, by decide, fun S1 S2 v h1 h2 => ?_⟩
    rw [l_X6_readSum_k2_7, if_pos (show nI i < 60 from nI_lt (b := 60) hi (by decide)), if_pos e, fl_s, h1, fb_s]
    show fb (fApp 28 60 1 S1 (-7)) _ = _
    rw [h2, fb_s, nI_1]
  · refine ⟨-8, by rw [e]; exact cdM_45, by decide, by decide, fun S1 S2 v h1 h2 => ?_⟩
    rw [l_X6_readSum_k2_7, if_pos (show nI i < 60 from nI_lt (b := 60) hi (by decide)), if_neg (by rw [e]; decide), if_pos e, fl_s, h1, fb_s]
    show fb (fApp 28 60 1 S1 (-8)) _ = _
    rw [h2, fb_s, nI_1]
theorem l1_X6_readConjunction_k2 (m i : Nat) (S : FS) (kk : FS → Int32 → Option (Int32 × FS)) (hi : i < 60) (hn : rn (p_X6_next S) ≠ 2) : l_X6_readConjunction_k2_7 kk (m + 1) S (nI i) = kk S (nI i) := by
  rw [l_X6_readConjunction_k2_7, if_pos (show nI i < 60 from nI_lt (b := 60) hi (by decide)), if_neg (fun e => hn (by rw [e]; decide))]
theorem l2_X6_readConjunction_k2 (m i : Nat) (S : FS) (kk : FS → Int32 → Option (Int32 × FS)) (hi : i < 60) (hn : rn (p_X6_next S) = 2) : ∃ c : Int32, cdM c (-100 - p_X6_next S) ∧ (-20 < c ∧ c < 0) ∧ c ≠ -1 ∧ ∀ (S1 S2 : FS) (v : Int32), f_X6_readComparison_k2 (wI S 105 (S.1 105 + 1)) = some (0, S1) → fApp 28 60 1 S1 c = some (v, S2) → l_X6_readConjunction_k2_7 kk (m + 1) S (nI i) = l_X6_readConjunction_k2_7 kk m S2 (nI (i + 1)) := by
  have e := rn_2 hn
  refine ⟨-3, by rw [e]; exact cdM_38, by decide, by decide, fun S1 S2 v h1 h2 => ?_⟩
  rw [l_X6_readConjunction_k2_7, if_pos (show nI i < 60 from nI_lt (b := 60) hi (by decide)), if_pos e, fl_s, h1, fb_s]
  show fb (fApp 28 60 1 S1 (-3)) _ = _
  rw [h2, fb_s, nI_1]
theorem l1_X6_readText_k2 (m i : Nat) (S : FS) (kk : FS → Int32 → Option (Int32 × FS)) (hi : i < 60) (hn : rn (p_X6_next S) ≠ 1) : l_X6_readText_k2_7 kk (m + 1) S (nI i) = kk S (nI i) := by
  rw [l_X6_readText_k2_7, if_pos (show nI i < 60 from nI_lt (b := 60) hi (by decide)), if_neg (fun e => hn (by rw [e]; decide))]
theorem l2_X6_readText_k2 (m i : Nat) (S : FS) (kk : FS → Int32 → Option (Int32 × FS)) (hi : i < 60) (hn : rn (p_X6_next S) = 1) : ∃ c : Int32, cdM c (-100 - p_X6_next S) ∧ (-20 < c ∧ c < 0) ∧ c ≠ -1 ∧ ∀ (S1 S2 : FS) (v : Int32), f_X6_readConjunction_k2 (wI S 105 (S.1 105 + 1)) = some (0, S1) → fApp 28 60 1 S1 c = some (v, S2) → l_X6_readText_k2_7 kk (m + 1) S (nI i) = l_X6_readText_k2_7 kk m S2 (nI (i + 1)) := by
  have e := rn_1 hn
  refine ⟨-2, by rw [e]; exact cdM_124, by decide, by decide, fun S1 S2 v h1 h2 => ?_⟩
  rw [l_X6_readText_k2_7, if_pos (show nI i < 60 from nI_lt (b := 60) hi (by decide)), if_pos e, fl_s, h1, fb_s]
  show fb (fApp 28 60 1 S1 (-2)) _ = _
  rw [h2, fb_s, nI_1]
theorem c1_2 (S S1 : FS) (h : f_X6_readSum_k2 S = some (0, S1)) (hn : rn (p_X6_next S1) ≠ 3) : f_X6_readComparison_k2 S = some (0, S1) := by
  unfold f_X6_readComparison_k2
  rw [h, fb_s]
  show fv (p_X6_next S1) _ = _
  rw [fv_s, if_neg (fun e => hn (by rw [e]; decide)), if_neg (fun e => hn (by rw [e]; decide)), if_neg (fun e => hn (by rw [e]; decide))]
theorem c2_2 (S S1 : FS) (h : f_X6_readSum_k2 S = some (0, S1)) (hn : rn (p_X6_next S1) = 3) : ∃ c : Int32, cdM c (-100 - p_X6_next S1) ∧ (-20 < c ∧ c < 0) ∧ c ≠ -1 ∧ ∀ (S2 S3 : FS) (v : Int32), f_X6_readSum_k2 (wI S1 105 (S1.1 105 + 1)) = some (0, S2) → fApp 28 60 1 S2 c = some (v, S3) → f_X6_readComparison_k2 S = some (0, S3) := by
  rcases rn_3 hn with e | e | e
  · refine ⟨-4, by rw [e]; exact cdM_60, by decide, by decide, fun S2 S3 v h1 h2 => ?_⟩
    unfold f_X6_readComparison_k2
    rw [h, fb_s]
    show fv (p_X6_next S1) _ = _
    rw [fv_s, if_pos e, fl_s]
    show fb (f_X6_readSum_k2 (wI S1 105 (S1.1 105 + 1))) _ = _
    rw [h1, fb_s]
    show fb (fApp 28 60 1 S2 (-4)) _ = _
    rw [h2, fb_s]
  · refine ⟨-5, by rw [e]; exact cdM_61, by decide, by decide, fun S2 S3 v h1 h2 => ?_⟩
    unfold f_X6_readComparison_k2
    rw [h, fb_s]
    show fv (p_X6_next S1) _ = _
    rw [fv_s, if_neg (by rw [e]; decide), if_pos e, fl_s]
    show fb (f_X6_readSum_k2 (wI S1 105 (S1.1 105 + 1))) _ = _
    rw [h1, fb_s]
    show fb (fApp 28 60 1 S2 (-5)) _ = _
    rw [h2, fb_s]
  · refine ⟨-6, by rw [e]; exact cdM_62, by decide, by decide, fun S2 S3 v h1 h2 => ?_⟩
    unfold f_X6_readComparison_k2
    rw [h, fb_s]
    show fv (p_X6_next S1) _ = _
    rw [fv_s, if_neg (by rw [e]; decide), if_neg (by rw [e]; decide), if_pos e, fl_s]
    show fb (f_X6_readSum_k2 (wI S1 105 (S1.1 105 + 1))) _ = _
    rw [h1, fb_s]
    show fb (fApp 28 60 1 S2 (-6)) _ = _
    rw [h2, fb_s]
theorem lev_2 {b : Nat → Int32} {L : Nat} {S0 T0 : FS} (ht : TP b L S0 T0) : PO b L S0 T0 2 f_X6_readPart_k2 ∧ LV b L S0 T0 1 2 f_X6_readText_k2 := by
  have p : PO b L S0 T0 2 f_X6_readPart_k2 := part_k ht (by decide) pa_2 (lev_3 ht).1 (lev_3 ht).2 px_2 py_2
  have s : LV b L S0 T0 4 2 f_X6_readSum_k2 := lv_loop (l := l_X6_readSum_k2_7) ht (lv_part p) (by decide) (by decide) (by decide) l1_X6_readSum_k2 l2_X6_readSum_k2 (fun _ => rfl)
  have c : LV b L S0 T0 3 2 f_X6_readComparison_k2 := lv_cmp ht s c1_2 c2_2
  have j : LV b L S0 T0 2 2 f_X6_readConjunction_k2 := lv_loop (l := l_X6_readConjunction_k2_7) ht c (by decide) (by decide) (by decide) l1_X6_readConjunction_k2 l2_X6_readConjunction_k2 (fun _ => rfl)
  exact ⟨p, lv_loop (l := l_X6_readText_k2_7) ht j (by decide) (by decide) (by decide) l1_X6_readText_k2 l2_X6_readText_k2 (fun _ => rfl)⟩
theorem pa_1 : PA f_X6_readPart_k1 := by
  refine ⟨fun S x h hc hd h33 h40 => ?_, fun S x h hB hd => ?_, fun S x h hB hd hn => ?_⟩
  · unfold f_X6_readPart_k1
    rw [h, fv_s]
    rcases hc with rfl | ⟨hB, hn⟩
    · rw [if_pos (by decide), dg6_n hd, if_pos rfl, if_neg h33, if_neg h40]
    · rw [if_neg (nB_nn hB), fidx_b hB, fb_s, dg6_n hd, if_pos rfl, if_pos hn, if_neg h33, if_neg h40]
  · unfold f_X6_readPart_k1
    rw [h, fv_s, if_neg (nB_nn hB), fidx_b hB, fb_s, if_neg (dg6_y hd)]
  · unfold f_X6_readPart_k1
    rw [h, fv_s, if_neg (nB_nn hB), fidx_b hB, fb_s, dg6_n hd, if_pos rfl, if_neg hn, fl_s]
theorem px_1 (S : FS) (h : p_X6_next S = 33) : f_X6_readPart_k1 S = fb (f_X6_readPart_k2 (wI S 105 (S.1 105 + 1))) (fun r => fb (fApp 28 60 1 r.2 (-1)) (fun r => some (0, r.2))) := by
  unfold f_X6_readPart_k1
  rw [h, fv_s, if_neg (by decide), fidx_b (x := 33) ⟨33, by decide, rfl⟩, fb_s, dg6_n (fun q => q.1 (by decide)), if_pos rfl, if_pos (by decide), if_pos rfl, fl_s]
theorem py_1 (S : FS) (h : p_X6_next S = 40) : f_X6_readPart_k1 S = fb (f_X6_readText_k2 (wI S 105 (S.1 105 + 1))) (fun r => fb (f_X6_readClosing r.2) (fun r => some (0, r.2))) := by
  unfold f_X6_readPart_k1
  rw [h, fv_s, if_neg (by decide), fidx_b (x := 40) ⟨40, by decide, rfl⟩, fb_s, dg6_n (fun q => q.1 (by decide)), if_pos rfl, if_pos (by decide), if_neg (by decide), if_pos rfl, fl_s]
theorem l1_X6_readSum_k1 (m i : Nat) (S : FS) (kk : FS → Int32 → Option (Int32 × FS)) (hi : i < 60) (hn : rn (p_X6_next S) ≠ 4) : l_X6_readSum_k1_7 kk (m + 1) S (nI i) = kk S (nI i) := by
  rw [l_X6_readSum_k1_7, if_pos (show nI i < 60 from nI_lt (b := 60) hi (by decide)), if_neg (fun e => hn (by rw [e]; decide)), if_neg (fun e => hn (by rw [e]; decide))]
theorem l2_X6_readSum_k1 (m i : Nat) (S : FS) (kk : FS → Int32 → Option (Int32 × FS)) (hi : i < 60) (hn : rn (p_X6_next S) = 4) : ∃ c : Int32, cdM c (-100 - p_X6_next S) ∧ (-20 < c ∧ c < 0) ∧ c ≠ -1 ∧ ∀ (S1 S2 : FS) (v : Int32), f_X6_readPart_k1 (wI S 105 (S.1 105 + 1)) = some (0, S1) → fApp 28 60 1 S1 c = some (v, S2) → l_X6_readSum_k1_7 kk (m + 1) S (nI i) = l_X6_readSum_k1_7 kk m S2 (nI (i + 1)) := by
  rcases rn_4 hn with e | e
  · refine ⟨-7, by rw [e]; exact cdM_43, by decide, by decide, fun S1 S2 v h1 h2 => ?_⟩
    rw [l_X6_readSum_k1_7, if_pos (show nI i < 60 from nI_lt (b := 60) hi (by decide)), if_pos e, fl_s, h1, fb_s]
    show fb (fApp 28 60 1 S1 (-7)) _ = _
    rw [h2, fb_s, nI_1]
  · refine ⟨-8, by rw [e]; exact cdM_45, by decide, by decide, fun S1 S2 v h1 h2 => ?_⟩
    rw [l_X6_readSum_k1_7, if_pos (show nI i < 60 from nI_lt (b := 60) hi (by decide)), if_neg (by rw [e]; decide), if_pos e, fl_s, h1, fb_s]
    show fb (fApp 28 60 1 S1 (-8)) _ = _
    rw [h2, fb_s, nI_1]
theorem l1_X6_readConjunction_k1 (m i : Nat) (S : FS) (kk : FS → Int32 → Option (Int32 × FS)) (hi : i < 60) (hn : rn (p_X6_next S) ≠ 2) : l_X6_readConjunction_k1_7 kk (m + 1) S (nI i) = kk S (nI i) := by
  rw [l_X6_readConjunction_k1_7, if_pos (show nI i < 60 from nI_lt (b := 60) hi (by decide)), if_neg (fun e => hn (by rw [e]; decide))]
theorem l2_X6_readConjunction_k1 (m i : Nat) (S : FS) (kk : FS → Int32 → Option (Int32 × FS)) (hi : i < 60) (hn : rn (p_X6_next S) = 2) : ∃ c : Int32, cdM c (-100 - p_X6_next S) ∧ (-20 < c ∧ c < 0) ∧ c ≠ -1 ∧ ∀ (S1 S2 : FS) (v : Int32), f_X6_readComparison_k1 (wI S 105 (S.1 105 + 1)) = some (0, S1) → fApp 28 60 1 S1 c = some (v, S2) → l_X6_readConjunction_k1_7 kk (m + 1) S (nI i) = l_X6_readConjunction_k1_7 kk m S2 (nI (i + 1)) := by
  have e := rn_2 hn
  refine ⟨-3, by rw [e]; exact cdM_38, by decide, by decide, fun S1 S2 v h1 h2 => ?_⟩
  rw [l_X6_readConjunction_k1_7, if_pos (show nI i < 60 from nI_lt (b := 60) hi (by decide)), if_pos e, fl_s, h1, fb_s]
  show fb (fApp 28 60 1 S1 (-3)) _ = _
  rw [h2, fb_s, nI_1]
theorem l1_X6_readText_k1 (m i : Nat) (S : FS) (kk : FS → Int32 → Option (Int32 × FS)) (hi : i < 60) (hn : rn (p_X6_next S) ≠ 1) : l_X6_readText_k1_7 kk (m + 1) S (nI i) = kk S (nI i) := by
  rw [l_X6_readText_k1_7, if_pos (show nI i < 60 from nI_lt (b := 60) hi (by decide)), if_neg (fun e => hn (by rw [e]; decide))]
theorem l2_X6_readText_k1 (m i : Nat) (S : FS) (kk : FS → Int32 → Option (Int32 × FS)) (hi : i < 60) (hn : rn (p_X6_next S) = 1) : ∃ c : Int32, cdM c (-100 - p_X6_next S) ∧ (-20 < c ∧ c < 0) ∧ c ≠ -1 ∧ ∀ (S1 S2 : FS) (v : Int32), f_X6_readConjunction_k1 (wI S 105 (S.1 105 + 1)) = some (0, S1) → fApp 28 60 1 S1 c = some (v, S2) → l_X6_readText_k1_7 kk (m + 1) S (nI i) = l_X6_readText_k1_7 kk m S2 (nI (i + 1)) := by
  have e := rn_1 hn
  refine ⟨-2, by rw [e]; exact cdM_124, by decide, by decide, fun S1 S2 v h1 h2 => ?_⟩
  rw [l_X6_readText_k1_7, if_pos (show nI i < 60 from nI_lt (b := 60) hi (by decide)), if_pos e, fl_s, h1, fb_s]
  show fb (fApp 28 60 1 S1 (-2)) _ = _
  rw [h2, fb_s, nI_1]
theorem c1_1 (S S1 : FS) (h : f_X6_readSum_k1 S = some (0, S1)) (hn : rn (p_X6_next S1) ≠ 3) : f_X6_readComparison_k1 S = some (0, S1) := by
  unfold f_X6_readComparison_k1
  rw [h, fb_s]
  show fv (p_X6_next S1) _ = _
  rw [fv_s, if_neg (fun e => hn (by rw [e]; decide)), if_neg (fun e => hn (by rw [e]; decide)), if_neg (fun e => hn (by rw [e]; decide))]
theorem c2_1 (S S1 : FS) (h : f_X6_readSum_k1 S = some (0, S1)) (hn : rn (p_X6_next S1) = 3) : ∃ c : Int32, cdM c (-100 - p_X6_next S1) ∧ (-20 < c ∧ c < 0) ∧ c ≠ -1 ∧ ∀ (S2 S3 : FS) (v : Int32), f_X6_readSum_k1 (wI S1 105 (S1.1 105 + 1)) = some (0, S2) → fApp 28 60 1 S2 c = some (v, S3) → f_X6_readComparison_k1 S = some (0, S3) := by
  rcases rn_3 hn with e | e | e
  · refine ⟨-4, by rw [e]; exact cdM_60, by decide, by decide, fun S2 S3 v h1 h2 => ?_⟩
    unfold f_X6_readComparison_k1
    rw [h, fb_s]
    show fv (p_X6_next S1) _ = _
    rw [fv_s, if_pos e, fl_s]
    show fb (f_X6_readSum_k1 (wI S1 105 (S1.1 105 + 1))) _ = _
    rw [h1, fb_s]
    show fb (fApp 28 60 1 S2 (-4)) _ = _
    rw [h2, fb_s]
  · refine ⟨-5, by rw [e]; exact cdM_61, by decide, by decide, fun S2 S3 v h1 h2 => ?_⟩
    unfold f_X6_readComparison_k1
    rw [h, fb_s]
    show fv (p_X6_next S1) _ = _
    rw [fv_s, if_neg (by rw [e]; decide), if_pos e, fl_s]
    show fb (f_X6_readSum_k1 (wI S1 105 (S1.1 105 + 1))) _ = _
    rw [h1, fb_s]
    show fb (fApp 28 60 1 S2 (-5)) _ = _
    rw [h2, fb_s]
  · refine ⟨-6, by rw [e]; exact cdM_62, by decide, by decide, fun S2 S3 v h1 h2 => ?_⟩
    unfold f_X6_readComparison_k1
    rw [h, fb_s]
    show fv (p_X6_next S1) _ = _
    rw [fv_s, if_neg (by rw [e]; decide), if_neg (by rw [e]; decide), if_pos e, fl_s]
    show fb (f_X6_readSum_k1 (wI S1 105 (S1.1 105 + 1))) _ = _
    rw [h1, fb_s]
    show fb (fApp 28 60 1 S2 (-6)) _ = _
    rw [h2, fb_s]
theorem lev_1 {b : Nat → Int32} {L : Nat} {S0 T0 : FS} (ht : TP b L S0 T0) : PO b L S0 T0 1 f_X6_readPart_k1 ∧ LV b L S0 T0 1 1 f_X6_readText_k1 := by
  have p : PO b L S0 T0 1 f_X6_readPart_k1 := part_k ht (by decide) pa_1 (lev_2 ht).1 (lev_2 ht).2 px_1 py_1
  have s : LV b L S0 T0 4 1 f_X6_readSum_k1 := lv_loop (l := l_X6_readSum_k1_7) ht (lv_part p) (by decide) (by decide) (by decide) l1_X6_readSum_k1 l2_X6_readSum_k1 (fun _ => rfl)
  have c : LV b L S0 T0 3 1 f_X6_readComparison_k1 := lv_cmp ht s c1_1 c2_1
  have j : LV b L S0 T0 2 1 f_X6_readConjunction_k1 := lv_loop (l := l_X6_readConjunction_k1_7) ht c (by decide) (by decide) (by decide) l1_X6_readConjunction_k1 l2_X6_readConjunction_k1 (fun _ => rfl)
  exact ⟨p, lv_loop (l := l_X6_readText_k1_7) ht j (by decide) (by decide) (by decide) l1_X6_readText_k1 l2_X6_readText_k1 (fun _ => rfl)⟩
theorem pa_0 : PA f_X6_readPart_k0 := by
  refine ⟨fun S x h hc hd h33 h40 => ?_, fun S x h hB hd => ?_, fun S x h hB hd hn => ?_⟩
  · unfold f_X6_readPart_k0
    rw [h, fv_s]
    rcases hc with rfl | ⟨hB, hn⟩
    · rw [if_pos (by decide), dg6_n hd, if_pos rfl, if_neg h33, if_neg h40]
    · rw [if_neg (nB_nn hB), fidx_b hB, fb_s, dg6_n hd, if_pos rfl, if_pos hn, if_neg h33, if_neg h40]
  · unfold f_X6_readPart_k0
    rw [h, fv_s, if_neg (nB_nn hB), fidx_b hB, fb_s, if_neg (dg6_y hd)]
  · unfold f_X6_readPart_k0
    rw [h, fv_s, if_neg (nB_nn hB), fidx_b hB, fb_s, dg6_n hd, if_pos rfl, if_neg hn, fl_s]
theorem px_0 (S : FS) (h : p_X6_next S = 33) : f_X6_readPart_k0 S = fb (f_X6_readPart_k1 (wI S 105 (S.1 105 + 1))) (fun r => fb (fApp 28 60 1 r.2 (-1)) (fun r => some (0, r.2))) := by
  unfold f_X6_readPart_k0
  rw [h, fv_s, if_neg (by decide), fidx_b (x := 33) ⟨33, by decide, rfl⟩, fb_s, dg6_n (fun q => q.1 (by decide)), if_pos rfl, if_pos (by decide), if_pos rfl, fl_s]
theorem py_0 (S : FS) (h : p_X6_next S = 40) : f_X6_readPart_k0 S = fb (f_X6_readText_k1 (wI S 105 (S.1 105 + 1))) (fun r => fb (f_X6_readClosing r.2) (fun r => some (0, r.2))) := by
  unfold f_X6_readPart_k0
  rw [h, fv_s, if_neg (by decide), fidx_b (x := 40) ⟨40, by decide, rfl⟩, fb_s, dg6_n (fun q => q.1 (by decide)), if_pos rfl, if_pos (by decide), if_neg (by decide), if_pos rfl, fl_s]
theorem l1_X6_readSum_k0 (m i : Nat) (S : FS) (kk : FS → Int32 → Option (Int32 × FS)) (hi : i < 60) (hn : rn (p_X6_next S) ≠ 4) : l_X6_readSum_k0_7 kk (m + 1) S (nI i) = kk S (nI i) := by
  rw [l_X6_readSum_k0_7, if_pos (show nI i < 60 from nI_lt (b := 60) hi (by decide)), if_neg (fun e => hn (by rw [e]; decide)), if_neg (fun e => hn (by rw [e]; decide))]
theorem l2_X6_readSum_k0 (m i : Nat) (S : FS) (kk : FS → Int32 → Option (Int32 × FS)) (hi : i < 60) (hn : rn (p_X6_next S) = 4) : ∃ c : Int32, cdM c (-100 - p_X6_next S) ∧ (-20 < c ∧ c < 0) ∧ c ≠ -1 ∧ ∀ (S1 S2 : FS) (v : Int32), f_X6_readPart_k0 (wI S 105 (S.1 105 + 1)) = some (0, S1) → fApp 28 60 1 S1 c = some (v, S2) → l_X6_readSum_k0_7 kk (m + 1) S (nI i) = l_X6_readSum_k0_7 kk m S2 (nI (i + 1)) := by
  rcases rn_4 hn with e | e
  · refine ⟨-7, by rw [e]; exact cdM_43, by decide, by decide, fun S1 S2 v h1 h2 => ?_⟩
    rw [l_X6_readSum_k0_7, if_pos (show nI i < 60 from nI_lt (b := 60) hi (by decide)), if_pos e, fl_s, h1, fb_s]
    show fb (fApp 28 60 1 S1 (-7)) _ = _
    rw [h2, fb_s, nI_1]
  · refine ⟨-8, by rw [e]; exact cdM_45, by decide, by decide, fun S1 S2 v h1 h2 => ?_⟩
    rw [l_X6_readSum_k0_7, if_pos (show nI i < 60 from nI_lt (b := 60) hi (by decide)), if_neg (by rw [e]; decide), if_pos e, fl_s, h1, fb_s]
    show fb (fApp 28 60 1 S1 (-8)) _ = _
    rw [h2, fb_s, nI_1]
theorem l1_X6_readConjunction_k0 (m i : Nat) (S : FS) (kk : FS → Int32 → Option (Int32 × FS)) (hi : i < 60) (hn : rn (p_X6_next S) ≠ 2) : l_X6_readConjunction_k0_7 kk (m + 1) S (nI i) = kk S (nI i) := by
  rw [l_X6_readConjunction_k0_7, if_pos (show nI i < 60 from nI_lt (b := 60) hi (by decide)), if_neg (fun e => hn (by rw [e]; decide))]
theorem l2_X6_readConjunction_k0 (m i : Nat) (S : FS) (kk : FS → Int32 → Option (Int32 × FS)) (hi : i < 60) (hn : rn (p_X6_next S) = 2) : ∃ c : Int32, cdM c (-100 - p_X6_next S) ∧ (-20 < c ∧ c < 0) ∧ c ≠ -1 ∧ ∀ (S1 S2 : FS) (v : Int32), f_X6_readComparison_k0 (wI S 105 (S.1 105 + 1)) = some (0, S1) → fApp 28 60 1 S1 c = some (v, S2) → l_X6_readConjunction_k0_7 kk (m + 1) S (nI i) = l_X6_readConjunction_k0_7 kk m S2 (nI (i + 1)) := by
  have e := rn_2 hn
  refine ⟨-3, by rw [e]; exact cdM_38, by decide, by decide, fun S1 S2 v h1 h2 => ?_⟩
  rw [l_X6_readConjunction_k0_7, if_pos (show nI i < 60 from nI_lt (b := 60) hi (by decide)), if_pos e, fl_s, h1, fb_s]
  show fb (fApp 28 60 1 S1 (-3)) _ = _
  rw [h2, fb_s, nI_1]
theorem l1_X6_readText_k0 (m i : Nat) (S : FS) (kk : FS → Int32 → Option (Int32 × FS)) (hi : i < 60) (hn : rn (p_X6_next S) ≠ 1) : l_X6_readText_k0_7 kk (m + 1) S (nI i) = kk S (nI i) := by
  rw [l_X6_readText_k0_7, if_pos (show nI i < 60 from nI_lt (b := 60) hi (by decide)), if_neg (fun e => hn (by rw [e]; decide))]
theorem l2_X6_readText_k0 (m i : Nat) (S : FS) (kk : FS → Int32 → Option (Int32 × FS)) (hi : i < 60) (hn : rn (p_X6_next S) = 1) : ∃ c : Int32, cdM c (-100 - p_X6_next S) ∧ (-20 < c ∧ c < 0) ∧ c ≠ -1 ∧ ∀ (S1 S2 : FS) (v : Int32), f_X6_readConjunction_k0 (wI S 105 (S.1 105 + 1)) = some (0, S1) → fApp 28 60 1 S1 c = some (v, S2) → l_X6_readText_k0_7 kk (m + 1) S (nI i) = l_X6_readText_k0_7 kk m S2 (nI (i + 1)) := by
  have e := rn_1 hn
  refine ⟨-2, by rw [e]; exact cdM_124, by decide, by decide, fun S1 S2 v h1 h2 => ?_⟩
  rw [l_X6_readText_k0_7, if_pos (show nI i < 60 from nI_lt (b := 60) hi (by decide)), if_pos e, fl_s, h1, fb_s]
  show fb (fApp 28 60 1 S1 (-2)) _ = _
  rw [h2, fb_s, nI_1]
theorem c1_0 (S S1 : FS) (h : f_X6_readSum_k0 S = some (0, S1)) (hn : rn (p_X6_next S1) ≠ 3) : f_X6_readComparison_k0 S = some (0, S1) := by
  unfold f_X6_readComparison_k0
  rw [h, fb_s]
  show fv (p_X6_next S1) _ = _
  rw [fv_s, if_neg (fun e => hn (by rw [e]; decide)), if_neg (fun e => hn (by rw [e]; decide)), if_neg (fun e => hn (by rw [e]; decide))]
theorem c2_0 (S S1 : FS) (h : f_X6_readSum_k0 S = some (0, S1)) (hn : rn (p_X6_next S1) = 3) : ∃ c : Int32, cdM c (-100 - p_X6_next S1) ∧ (-20 < c ∧ c < 0) ∧ c ≠ -1 ∧ ∀ (S2 S3 : FS) (v : Int32), f_X6_readSum_k0 (wI S1 105 (S1.1 105 + 1)) = some (0, S2) → fApp 28 60 1 S2 c = some (v, S3) → f_X6_readComparison_k0 S = some (0, S3) := by
  rcases rn_3 hn with e | e | e
  · refine ⟨-4, by rw [e]; exact cdM_60, by decide, by decide, fun S2 S3 v h1 h2 => ?_⟩
    unfold f_X6_readComparison_k0
    rw [h, fb_s]
    show fv (p_X6_next S1) _ = _
    rw [fv_s, if_pos e, fl_s]
    show fb (f_X6_readSum_k0 (wI S1 105 (S1.1 105 + 1))) _ = _
    rw [h1, fb_s]
    show fb (fApp 28 60 1 S2 (-4)) _ = _
    rw [h2, fb_s]
  · refine ⟨-5, by rw [e]; exact cdM_61, by decide, by decide, fun S2 S3 v h1 h2 => ?_⟩
    unfold f_X6_readComparison_k0
    rw [h, fb_s]
    show fv (p_X6_next S1) _ = _
    rw [fv_s, if_neg (by rw [e]; decide), if_pos e, fl_s]
    show fb (f_X6_readSum_k0 (wI S1 105 (S1.1 105 + 1))) _ = _
    rw [h1, fb_s]
    show fb (fApp 28 60 1 S2 (-5)) _ = _
    rw [h2, fb_s]
  · refine ⟨-6, by rw [e]; exact cdM_62, by decide, by decide, fun S2 S3 v h1 h2 => ?_⟩
    unfold f_X6_readComparison_k0
    rw [h, fb_s]
    show fv (p_X6_next S1) _ = _
    rw [fv_s, if_neg (by rw [e]; decide), if_neg (by rw [e]; decide), if_pos e, fl_s]
    show fb (f_X6_readSum_k0 (wI S1 105 (S1.1 105 + 1))) _ = _
    rw [h1, fb_s]
    show fb (fApp 28 60 1 S2 (-6)) _ = _
    rw [h2, fb_s]
theorem lev_0 {b : Nat → Int32} {L : Nat} {S0 T0 : FS} (ht : TP b L S0 T0) : PO b L S0 T0 0 f_X6_readPart_k0 ∧ LV b L S0 T0 1 0 f_X6_readText_k0 := by
  have p : PO b L S0 T0 0 f_X6_readPart_k0 := part_k ht (by decide) pa_0 (lev_1 ht).1 (lev_1 ht).2 px_0 py_0
  have s : LV b L S0 T0 4 0 f_X6_readSum_k0 := lv_loop (l := l_X6_readSum_k0_7) ht (lv_part p) (by decide) (by decide) (by decide) l1_X6_readSum_k0 l2_X6_readSum_k0 (fun _ => rfl)
  have c : LV b L S0 T0 3 0 f_X6_readComparison_k0 := lv_cmp ht s c1_0 c2_0
  have j : LV b L S0 T0 2 0 f_X6_readConjunction_k0 := lv_loop (l := l_X6_readConjunction_k0_7) ht c (by decide) (by decide) (by decide) l1_X6_readConjunction_k0 l2_X6_readConjunction_k0 (fun _ => rfl)
  exact ⟨p, lv_loop (l := l_X6_readText_k0_7) ht j (by decide) (by decide) (by decide) l1_X6_readText_k0 l2_X6_readText_k0 (fun _ => rfl)⟩
