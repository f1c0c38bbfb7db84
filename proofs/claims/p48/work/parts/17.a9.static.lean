theorem acX9_49 (M : pm_M) (h : M.1.cls = RX9) : Cond.methodLink M.1.cls 49 arraycopyName ∈ pm_tbl := by rw [h]; exact (pm_it6 106 (by decide +kernel) (by decide +kernel))
theorem mmX7_106 (M : pm_M) (h : M.1.cls = RX7) : Cond.methodLink M.1.cls 106 Lib.Math.max.name ∈ pm_tbl := by rw [h]; exact (pm_it3 34 (by decide +kernel) (by decide +kernel))
theorem fsX7_134 (M : pm_M) (h : M.1.cls = RX7) : Cond.fieldLinkNest M.1.cls 134 "SealCouncil" "ABOVE" "[I" "SealCouncil" ∈ pm_nest := by rw [h]; exact (pm_in3 107 (by decide +kernel) (by decide +kernel))
theorem mmX2_74 (M : pm_M) (h : M.1.cls = RX2) : Cond.methodLink M.1.cls 74 Lib.Math.min.name ∈ pm_tbl := by rw [h]; exact (pm_it5 223 (by decide +kernel) (by decide +kernel))
theorem mmX7_87 (M : pm_M) (h : M.1.cls = RX7) : Cond.methodLink M.1.cls 87 Lib.Math.min.name ∈ pm_tbl := by rw [h]; exact (pm_it2 206 (by decide +kernel) (by decide +kernel))
theorem rg_1_3 {x : Int32} (h1 : ¬ x < 1) (h2 : ¬ 3 < x) : x = 1 ∨ x = 2 ∨ x = 3 := by
  have a1 : (1 : Int32).toInt = 1 := by decide
  have a2 : (3 : Int32).toInt = 3 := by decide
  simp only [Int32.lt_iff_toInt_lt, a1, a2] at h1 h2
  rcases (show x.toInt = 1 ∨ x.toInt = 2 ∨ x.toInt = 3 by omega) with h | h | h
  · exact Or.inl (Int32.toInt_inj.mp (h.trans (show 1 = (1 : Int32).toInt by decide)))
  · exact Or.inr (Or.inl (Int32.toInt_inj.mp (h.trans (show 2 = (2 : Int32).toInt by decide))))
  · exact Or.inr (Or.inr ((Int32.toInt_inj.mp (h.trans (show 3 = (3 : Int32).toInt by decide)))))
theorem mmX1_47 (M : pm_M) (h : M.1.cls = RX1) : Cond.methodLink M.1.cls 47 Lib.Math.max.name ∈ pm_tbl := by rw [h]; exact (pm_it5 170 (by decide +kernel) (by decide +kernel))
theorem mmX5_65 (M : pm_M) (h : M.1.cls = RX5) : Cond.methodLink M.1.cls 65 Lib.Math.max.name ∈ pm_tbl := by rw [h]; exact (pm_it6 24 (by decide +kernel) (by decide +kernel))
