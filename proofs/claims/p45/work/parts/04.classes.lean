/-! ===== the classes' words ===== -/
theorem iX0 : ∀ w ∈ u_ws RX0 TX0 9, w ∈ pm_tbl := by decide +kernel
theorem iX1 : ∀ w ∈ u_ws RX1 TX1 3, w ∈ pm_tbl := by decide +kernel
theorem iX2 : ∀ w ∈ u_ws RX2 TX2 4, w ∈ pm_tbl := by decide +kernel
theorem iX3 : ∀ w ∈ u_ws RX3 TX3 4, w ∈ pm_tbl := by decide +kernel
theorem iX4 : ∀ w ∈ u_ws RX4 TX4 3, w ∈ pm_tbl := by decide +kernel
theorem iX5 : ∀ w ∈ u_ws RX5 TX5 7, w ∈ pm_tbl := by decide +kernel
theorem iX6 : ∀ w ∈ u_ws RX6 TX6 4, w ∈ pm_tbl := by decide +kernel
theorem iX7 : ∀ w ∈ u_ws RX7 TX7 15, w ∈ pm_tbl := by decide +kernel
theorem iX8 : ∀ w ∈ u_ws RX8 TX8 3, w ∈ pm_tbl := by decide +kernel
theorem iX9 : ∀ w ∈ u_ws RX9 TX9 4, w ∈ pm_tbl := by decide +kernel
theorem iX10 : ∀ w ∈ u_ws RX10 TX10 5, w ∈ pm_tbl := by decide +kernel
theorem iX11 : ∀ w ∈ u_ws RX11 TX11 12, w ∈ pm_tbl := by decide +kernel
theorem iX12 : ∀ w ∈ u_ws RX12 TX12 27, w ∈ pm_tbl := by decide +kernel
theorem pm_inA : Cond.arrayClass .int ∈ pm_tbl := by decide +kernel
theorem pm_oi : Cond.instanceMethod Lib.objectInit ∈ pm_tbl ∧ Cond.code Lib.objectInit ⟨#[0xb1]⟩ 1 none ∈ pm_tbl := by decide +kernel
theorem pm_clok (ci : Nat) (C : String) (T : u_T) (N : Nat) (h : pm_cl[ci]? = some (C, T, N)) : (∀ w ∈ u_ws C T N, w ∈ pm_tbl) ∧ (∃ ty0 : Nat → FieldType, ∀ k, k < N → parseFieldDescriptor (T k).2.2.1 = some (ty0 k)) ∧ ∀ a, a < N → ∀ b, b < N → a ≠ b → (T a).2.1 ≠ (T b).2.1 := by
  match ci, h with
  | 0, h => cases h; exact ⟨iX0, ⟨tyX0, tyX0_ok⟩, nmX0⟩
  | 1, h => cases h; exact ⟨iX1, ⟨tyX1, tyX1_ok⟩, nmX1⟩
  | 2, h => cases h; exact ⟨iX2, ⟨tyX2, tyX2_ok⟩, nmX2⟩
  | 3, h => cases h; exact ⟨iX3, ⟨tyX3, tyX3_ok⟩, nmX3⟩
  | 4, h => cases h; exact ⟨iX4, ⟨tyX4, tyX4_ok⟩, nmX4⟩
  | 5, h => cases h; exact ⟨iX5, ⟨tyX5, tyX5_ok⟩, nmX5⟩
  | 6, h => cases h; exact ⟨iX6, ⟨tyX6, tyX6_ok⟩, nmX6⟩
  | 7, h => cases h; exact ⟨iX7, ⟨tyX7, tyX7_ok⟩, nmX7⟩
  | 8, h => cases h; exact ⟨iX8, ⟨tyX8, tyX8_ok⟩, nmX8⟩
  | 9, h => cases h; exact ⟨iX9, ⟨tyX9, tyX9_ok⟩, nmX9⟩
  | 10, h => cases h; exact ⟨iX10, ⟨tyX10, tyX10_ok⟩, nmX10⟩
  | 11, h => cases h; exact ⟨iX11, ⟨tyX11, tyX11_ok⟩, nmX11⟩
  | 12, h => cases h; exact ⟨iX12, ⟨tyX12, tyX12_ok⟩, nmX12⟩
  | k + 13, h => simp [pm_cl] at h
theorem pm_im1 {w : Cond} (i : Nat) (h : tables_1_1[i]? = some w) : w ∈ lw_tbl := by
  have h1 : w ∈ tables_1 := by unfold tables_1; exact (List.mem_append.mpr (Or.inl (List.mem_of_getElem? h)))
  unfold lw_tbl; exact List.mem_append.mpr (Or.inr h1)
theorem pm_it1 {w : Cond} (i : Nat) (h : tables_1_1[i]? = some w) (hg : goodWord w = true) : w ∈ pm_tbl := List.mem_filter.mpr ⟨pm_im1 i h, hg⟩
theorem pm_in1 {w : Cond} (i : Nat) (h : tables_1_1[i]? = some w) (hg : pm_isNest w = true) : w ∈ pm_nest := List.mem_filter.mpr ⟨pm_im1 i h, hg⟩
theorem pm_im2 {w : Cond} (i : Nat) (h : tables_1_2[i]? = some w) : w ∈ lw_tbl := by
  have h1 : w ∈ tables_1 := by unfold tables_1; exact (List.mem_append.mpr (Or.inr (List.mem_append.mpr (Or.inl (List.mem_of_getElem? h)))))
  unfold lw_tbl; exact List.mem_append.mpr (Or.inr h1)
theorem pm_it2 {w : Cond} (i : Nat) (h : tables_1_2[i]? = some w) (hg : goodWord w = true) : w ∈ pm_tbl := List.mem_filter.mpr ⟨pm_im2 i h, hg⟩
theorem pm_in2 {w : Cond} (i : Nat) (h : tables_1_2[i]? = some w) (hg : pm_isNest w = true) : w ∈ pm_nest := List.mem_filter.mpr ⟨pm_im2 i h, hg⟩
theorem pm_im3 {w : Cond} (i : Nat) (h : tables_1_3[i]? = some w) : w ∈ lw_tbl := by
  have h1 : w ∈ tables_1 := by unfold tables_1; exact (List.mem_append.mpr (Or.inr (List.mem_append.mpr (Or.inr (List.mem_append.mpr (Or.inl (List.mem_of_getElem? h)))))))
  unfold lw_tbl; exact List.mem_append.mpr (Or.inr h1)
theorem pm_it3 {w : Cond} (i : Nat) (h : tables_1_3[i]? = some w) (hg : goodWord w = true) : w ∈ pm_tbl := List.mem_filter.mpr ⟨pm_im3 i h, hg⟩
theorem pm_in3 {w : Cond} (i : Nat) (h : tables_1_3[i]? = some w) (hg : pm_isNest w = true) : w ∈ pm_nest := List.mem_filter.mpr ⟨pm_im3 i h, hg⟩
theorem pm_im4 {w : Cond} (i : Nat) (h : tables_1_4[i]? = some w) : w ∈ lw_tbl := by
  have h1 : w ∈ tables_1 := by unfold tables_1; exact (List.mem_append.mpr (Or.inr (List.mem_append.mpr (Or.inr (List.mem_append.mpr (Or.inr (List.mem_append.mpr (Or.inl (List.mem_of_getElem? h)))))))))
  unfold lw_tbl; exact List.mem_append.mpr (Or.inr h1)
theorem pm_it4 {w : Cond} (i : Nat) (h : tables_1_4[i]? = some w) (hg : goodWord w = true) : w ∈ pm_tbl := List.mem_filter.mpr ⟨pm_im4 i h, hg⟩
theorem pm_in4 {w : Cond} (i : Nat) (h : tables_1_4[i]? = some w) (hg : pm_isNest w = true) : w ∈ pm_nest := List.mem_filter.mpr ⟨pm_im4 i h, hg⟩
theorem pm_im5 {w : Cond} (i : Nat) (h : tables_1_5[i]? = some w) : w ∈ lw_tbl := by
  have h1 : w ∈ tables_1 := by unfold tables_1; exact (List.mem_append.mpr (Or.inr (List.mem_append.mpr (Or.inr (List.mem_append.mpr (Or.inr (List.mem_append.mpr (Or.inr (List.mem_append.mpr (Or.inl (List.mem_of_getElem? h)))))))))))
  unfold lw_tbl; exact List.mem_append.mpr (Or.inr h1)
theorem pm_it5 {w : Cond} (i : Nat) (h : tables_1_5[i]? = some w) (hg : goodWord w = true) : w ∈ pm_tbl := List.mem_filter.mpr ⟨pm_im5 i h, hg⟩
theorem pm_in5 {w : Cond} (i : Nat) (h : tables_1_5[i]? = some w) (hg : pm_isNest w = true) : w ∈ pm_nest := List.mem_filter.mpr ⟨pm_im5 i h, hg⟩
theorem pm_im6 {w : Cond} (i : Nat) (h : tables_1_6[i]? = some w) : w ∈ lw_tbl := by
  have h1 : w ∈ tables_1 := by unfold tables_1; exact (List.mem_append.mpr (Or.inr (List.mem_append.mpr (Or.inr (List.mem_append.mpr (Or.inr (List.mem_append.mpr (Or.inr (List.mem_append.mpr (Or.inr (List.mem_append.mpr (Or.inl (List.mem_of_getElem? h)))))))))))))
  unfold lw_tbl; exact List.mem_append.mpr (Or.inr h1)
theorem pm_it6 {w : Cond} (i : Nat) (h : tables_1_6[i]? = some w) (hg : goodWord w = true) : w ∈ pm_tbl := List.mem_filter.mpr ⟨pm_im6 i h, hg⟩
theorem pm_in6 {w : Cond} (i : Nat) (h : tables_1_6[i]? = some w) (hg : pm_isNest w = true) : w ∈ pm_nest := List.mem_filter.mpr ⟨pm_im6 i h, hg⟩
theorem pm_im7 {w : Cond} (i : Nat) (h : tables_1_7[i]? = some w) : w ∈ lw_tbl := by
  have h1 : w ∈ tables_1 := by unfold tables_1; exact (List.mem_append.mpr (Or.inr (List.mem_append.mpr (Or.inr (List.mem_append.mpr (Or.inr (List.mem_append.mpr (Or.inr (List.mem_append.mpr (Or.inr (List.mem_append.mpr (Or.inr (List.mem_append.mpr (Or.inl (List.mem_of_getElem? h)))))))))))))))
  unfold lw_tbl; exact List.mem_append.mpr (Or.inr h1)
theorem pm_it7 {w : Cond} (i : Nat) (h : tables_1_7[i]? = some w) (hg : goodWord w = true) : w ∈ pm_tbl := List.mem_filter.mpr ⟨pm_im7 i h, hg⟩
theorem pm_in7 {w : Cond} (i : Nat) (h : tables_1_7[i]? = some w) (hg : pm_isNest w = true) : w ∈ pm_nest := List.mem_filter.mpr ⟨pm_im7 i h, hg⟩
theorem pm_im8 {w : Cond} (i : Nat) (h : tables_1_8[i]? = some w) : w ∈ lw_tbl := by
  have h1 : w ∈ tables_1 := by unfold tables_1; exact (List.mem_append.mpr (Or.inr (List.mem_append.mpr (Or.inr (List.mem_append.mpr (Or.inr (List.mem_append.mpr (Or.inr (List.mem_append.mpr (Or.inr (List.mem_append.mpr (Or.inr (List.mem_append.mpr (Or.inr (List.mem_append.mpr (Or.inl (List.mem_of_getElem? h)))))))))))))))))
  unfold lw_tbl; exact List.mem_append.mpr (Or.inr h1)
theorem pm_it8 {w : Cond} (i : Nat) (h : tables_1_8[i]? = some w) (hg : goodWord w = true) : w ∈ pm_tbl := List.mem_filter.mpr ⟨pm_im8 i h, hg⟩
theorem pm_in8 {w : Cond} (i : Nat) (h : tables_1_8[i]? = some w) (hg : pm_isNest w = true) : w ∈ pm_nest := List.mem_filter.mpr ⟨pm_im8 i h, hg⟩
theorem pm_im9 {w : Cond} (i : Nat) (h : tables_1_9[i]? = some w) : w ∈ lw_tbl := by
  have h1 : w ∈ tables_1 := by unfold tables_1; exact (List.mem_append.mpr (Or.inr (List.mem_append.mpr (Or.inr (List.mem_append.mpr (Or.inr (List.mem_append.mpr (Or.inr (List.mem_append.mpr (Or.inr (List.mem_append.mpr (Or.inr (List.mem_append.mpr (Or.inr (List.mem_append.mpr (Or.inr (List.mem_of_getElem? h)))))))))))))))))
  unfold lw_tbl; exact List.mem_append.mpr (Or.inr h1)
theorem pm_it9 {w : Cond} (i : Nat) (h : tables_1_9[i]? = some w) (hg : goodWord w = true) : w ∈ pm_tbl := List.mem_filter.mpr ⟨pm_im9 i h, hg⟩
theorem pm_in9 {w : Cond} (i : Nat) (h : tables_1_9[i]? = some w) (hg : pm_isNest w = true) : w ∈ pm_nest := List.mem_filter.mpr ⟨pm_im9 i h, hg⟩
