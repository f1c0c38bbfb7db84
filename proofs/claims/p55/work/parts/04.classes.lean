/-! ===== the classes' words ===== -/
theorem pm_im1 {w : Cond} (i : Nat) (h : tables_1_1[i]? = some w) : w ∈ lw_tbl := by
  have h1 : w ∈ tables_1 := by unfold tables_1; exact (List.mem_append.mpr (Or.inl (List.mem_of_getElem? h)))
  unfold lw_tbl; exact List.mem_append.mpr (Or.inr h1)
theorem pm_it1 {w : Cond} (i : Nat) (h : tables_1_1[i]? = some w) (hg : goodWord w = true) : w ∈ pm_tbl := List.mem_filter.mpr ⟨pm_im1 i h, hg⟩
theorem pm_in1 {w : Cond} (i : Nat) (h : tables_1_1[i]? = some w) (hg : pm_isNest w = true) : w ∈ pm_nest := List.mem_filter.mpr ⟨pm_im1 i h, hg⟩
theorem pm_im2 {w : Cond} (i : Nat) (h : tables_1_2[i]? = some w) : w ∈ lw_tbl := by
  have h1 : w ∈ tables_1 := by unfold tables_1; exact (List.mem_append.mpr (Or.inr (List.mem_append.mpr (Or.inl (List.mem_of_getElem? h)))))
  unfold lw_tbl; exact List.mem_append.mpr (Or.inr h1)
theorem pm_it2 {w : Cond} (i : Nat) (h : tables_1_2[i]? = some w) (hg : goodWord w = true) : w ∈ pm_tbl := List.mem_filter.mpr ⟨pm_im2 i h, hg⟩
theorem pm_in2 {w : Cond} (i : Nat) (h : tables_1_2[i]? = some w) (hg : pm_isNest w = true) : w ∈ pm_nest := List.mem_filter.mpr ⟨pm_im2 i h, hg⟩
theorem pm_im3 {w : Cond} (i : Nat) (h : tables_1_3[i]? = some w) : w ∈ lw_tbl := by
  have h1 : w ∈ tables_1 := by unfold tables_1; exact (List.mem_append.mpr (Or.inr (List.mem_append.mpr (Or.inr (List.mem_append.mpr (Or.inl (List.mem_of_getElem? h)))))))
  unfold lw_tbl; exact List.mem_append.mpr (Or.inr h1)
theorem pm_it3 {w : Cond} (i : Nat) (h : tables_1_3[i]? = some w) (hg : goodWord w = true) : w ∈ pm_tbl := List.mem_filter.mpr ⟨pm_im3 i h, hg⟩
theorem pm_in3 {w : Cond} (i : Nat) (h : tables_1_3[i]? = some w) (hg : pm_isNest w = true) : w ∈ pm_nest := List.mem_filter.mpr ⟨pm_im3 i h, hg⟩
theorem pm_im4 {w : Cond} (i : Nat) (h : tables_1_4[i]? = some w) : w ∈ lw_tbl := by
  have h1 : w ∈ tables_1 := by unfold tables_1; exact (List.mem_append.mpr (Or.inr (List.mem_append.mpr (Or.inr (List.mem_append.mpr (Or.inr (List.mem_append.mpr (Or.inl (List.mem_of_getElem? h)))))))))
  unfold lw_tbl; exact List.mem_append.mpr (Or.inr h1)
theorem pm_it4 {w : Cond} (i : Nat) (h : tables_1_4[i]? = some w) (hg : goodWord w = true) : w ∈ pm_tbl := List.mem_filter.mpr ⟨pm_im4 i h, hg⟩
theorem pm_in4 {w : Cond} (i : Nat) (h : tables_1_4[i]? = some w) (hg : pm_isNest w = true) : w ∈ pm_nest := List.mem_filter.mpr ⟨pm_im4 i h, hg⟩
theorem pm_im5 {w : Cond} (i : Nat) (h : tables_1_5[i]? = some w) : w ∈ lw_tbl := by
  have h1 : w ∈ tables_1 := by unfold tables_1; exact (List.mem_append.mpr (Or.inr (List.mem_append.mpr (Or.inr (List.mem_append.mpr (Or.inr (List.mem_append.mpr (Or.inr (List.mem_append.mpr (Or.inl (List.mem_of_getElem? h)))))))))))
  unfold lw_tbl; exact List.mem_append.mpr (Or.inr h1)
theorem pm_it5 {w : Cond} (i : Nat) (h : tables_1_5[i]? = some w) (hg : goodWord w = true) : w ∈ pm_tbl := List.mem_filter.mpr ⟨pm_im5 i h, hg⟩
theorem pm_in5 {w : Cond} (i : Nat) (h : tables_1_5[i]? = some w) (hg : pm_isNest w = true) : w ∈ pm_nest := List.mem_filter.mpr ⟨pm_im5 i h, hg⟩
theorem pm_im6 {w : Cond} (i : Nat) (h : tables_1_6[i]? = some w) : w ∈ lw_tbl := by
  have h1 : w ∈ tables_1 := by unfold tables_1; exact (List.mem_append.mpr (Or.inr (List.mem_append.mpr (Or.inr (List.mem_append.mpr (Or.inr (List.mem_append.mpr (Or.inr (List.mem_append.mpr (Or.inr (List.mem_append.mpr (Or.inl (List.mem_of_getElem? h)))))))))))))
  unfold lw_tbl; exact List.mem_append.mpr (Or.inr h1)
theorem pm_it6 {w : Cond} (i : Nat) (h : tables_1_6[i]? = some w) (hg : goodWord w = true) : w ∈ pm_tbl := List.mem_filter.mpr ⟨pm_im6 i h, hg⟩
theorem pm_in6 {w : Cond} (i : Nat) (h : tables_1_6[i]? = some w) (hg : pm_isNest w = true) : w ∈ pm_nest := List.mem_filter.mpr ⟨pm_im6 i h, hg⟩
theorem pm_im7 {w : Cond} (i : Nat) (h : tables_1_7[i]? = some w) : w ∈ lw_tbl := by
  have h1 : w ∈ tables_1 := by unfold tables_1; exact (List.mem_append.mpr (Or.inr (List.mem_append.mpr (Or.inr (List.mem_append.mpr (Or.inr (List.mem_append.mpr (Or.inr (List.mem_append.mpr (Or.inr (List.mem_append.mpr (Or.inr (List.mem_append.mpr (Or.inl (List.mem_of_getElem? h)))))))))))))))
  unfold lw_tbl; exact List.mem_append.mpr (Or.inr h1)
theorem pm_it7 {w : Cond} (i : Nat) (h : tables_1_7[i]? = some w) (hg : goodWord w = true) : w ∈ pm_tbl := List.mem_filter.mpr ⟨pm_im7 i h, hg⟩
theorem pm_in7 {w : Cond} (i : Nat) (h : tables_1_7[i]? = some w) (hg : pm_isNest w = true) : w ∈ pm_nest := List.mem_filter.mpr ⟨pm_im7 i h, hg⟩
theorem pm_im8 {w : Cond} (i : Nat) (h : tables_1_8[i]? = some w) : w ∈ lw_tbl := by
  have h1 : w ∈ tables_1 := by unfold tables_1; exact (List.mem_append.mpr (Or.inr (List.mem_append.mpr (Or.inr (List.mem_append.mpr (Or.inr (List.mem_append.mpr (Or.inr (List.mem_append.mpr (Or.inr (List.mem_append.mpr (Or.inr (List.mem_append.mpr (Or.inr (List.mem_append.mpr (Or.inl (List.mem_of_getElem? h)))))))))))))))))
  unfold lw_tbl; exact List.mem_append.mpr (Or.inr h1)
theorem pm_it8 {w : Cond} (i : Nat) (h : tables_1_8[i]? = some w) (hg : goodWord w = true) : w ∈ pm_tbl := List.mem_filter.mpr ⟨pm_im8 i h, hg⟩
theorem pm_in8 {w : Cond} (i : Nat) (h : tables_1_8[i]? = some w) (hg : pm_isNest w = true) : w ∈ pm_nest := List.mem_filter.mpr ⟨pm_im8 i h, hg⟩
theorem pm_im9 {w : Cond} (i : Nat) (h : tables_1_9[i]? = some w) : w ∈ lw_tbl := by
  have h1 : w ∈ tables_1 := by unfold tables_1; exact (List.mem_append.mpr (Or.inr (List.mem_append.mpr (Or.inr (List.mem_append.mpr (Or.inr (List.mem_append.mpr (Or.inr (List.mem_append.mpr (Or.inr (List.mem_append.mpr (Or.inr (List.mem_append.mpr (Or.inr (List.mem_append.mpr (Or.inr (List.mem_of_getElem? h)))))))))))))))))
  unfold lw_tbl; exact List.mem_append.mpr (Or.inr h1)
theorem pm_it9 {w : Cond} (i : Nat) (h : tables_1_9[i]? = some w) (hg : goodWord w = true) : w ∈ pm_tbl := List.mem_filter.mpr ⟨pm_im9 i h, hg⟩
theorem pm_in9 {w : Cond} (i : Nat) (h : tables_1_9[i]? = some w) (hg : pm_isNest w = true) : w ∈ pm_nest := List.mem_filter.mpr ⟨pm_im9 i h, hg⟩
theorem iX0 : ∀ w ∈ u_ws RX0 TX0 9, w ∈ pm_tbl := by
  show ∀ w ∈ [u_lay RX0 TX0 0, u_lay RX0 TX0 1, u_lay RX0 TX0 2, u_lay RX0 TX0 3, u_lay RX0 TX0 4, u_lay RX0 TX0 5, u_lay RX0 TX0 6, u_lay RX0 TX0 7, u_lay RX0 TX0 8], w ∈ pm_tbl
  exact List.forall_mem_cons.mpr ⟨pm_it1 218 rfl rfl, List.forall_mem_cons.mpr ⟨pm_it1 220 rfl rfl, List.forall_mem_cons.mpr ⟨pm_it1 222 rfl rfl, List.forall_mem_cons.mpr ⟨pm_it1 224 rfl rfl, List.forall_mem_cons.mpr ⟨pm_it1 226 rfl rfl, List.forall_mem_cons.mpr ⟨pm_it1 228 rfl rfl, List.forall_mem_cons.mpr ⟨pm_it1 230 rfl rfl, List.forall_mem_cons.mpr ⟨pm_it1 232 rfl rfl, List.forall_mem_cons.mpr ⟨pm_it1 234 rfl rfl, fun _ h => nomatch h⟩⟩⟩⟩⟩⟩⟩⟩⟩
theorem iX1 : ∀ w ∈ u_ws RX1 TX1 3, w ∈ pm_tbl := by
  show ∀ w ∈ [u_lay RX1 TX1 0, u_lay RX1 TX1 1, u_lay RX1 TX1 2], w ∈ pm_tbl
  exact List.forall_mem_cons.mpr ⟨pm_it2 43 rfl rfl, List.forall_mem_cons.mpr ⟨pm_it2 45 rfl rfl, List.forall_mem_cons.mpr ⟨pm_it2 47 rfl rfl, fun _ h => nomatch h⟩⟩⟩
theorem iX2 : ∀ w ∈ u_ws RX2 TX2 4, w ∈ pm_tbl := by
  show ∀ w ∈ [u_lay RX2 TX2 0, u_lay RX2 TX2 1, u_lay RX2 TX2 2, u_lay RX2 TX2 3], w ∈ pm_tbl
  exact List.forall_mem_cons.mpr ⟨pm_it1 188 rfl rfl, List.forall_mem_cons.mpr ⟨pm_it1 190 rfl rfl, List.forall_mem_cons.mpr ⟨pm_it1 192 rfl rfl, List.forall_mem_cons.mpr ⟨pm_it1 194 rfl rfl, fun _ h => nomatch h⟩⟩⟩⟩
theorem iX3 : ∀ w ∈ u_ws RX3 TX3 4, w ∈ pm_tbl := by
  show ∀ w ∈ [u_lay RX3 TX3 0, u_lay RX3 TX3 1, u_lay RX3 TX3 2, u_lay RX3 TX3 3], w ∈ pm_tbl
  exact List.forall_mem_cons.mpr ⟨pm_it2 7 rfl rfl, List.forall_mem_cons.mpr ⟨pm_it2 9 rfl rfl, List.forall_mem_cons.mpr ⟨pm_it2 11 rfl rfl, List.forall_mem_cons.mpr ⟨pm_it2 13 rfl rfl, fun _ h => nomatch h⟩⟩⟩⟩
theorem iX4 : ∀ w ∈ u_ws RX4 TX4 3, w ∈ pm_tbl := by
  show ∀ w ∈ [u_lay RX4 TX4 0, u_lay RX4 TX4 1, u_lay RX4 TX4 2], w ∈ pm_tbl
  exact List.forall_mem_cons.mpr ⟨pm_it2 27 rfl rfl, List.forall_mem_cons.mpr ⟨pm_it2 29 rfl rfl, List.forall_mem_cons.mpr ⟨pm_it2 31 rfl rfl, fun _ h => nomatch h⟩⟩⟩
theorem iX5 : ∀ w ∈ u_ws RX5 TX5 7, w ∈ pm_tbl := by
  show ∀ w ∈ [u_lay RX5 TX5 0, u_lay RX5 TX5 1, u_lay RX5 TX5 2, u_lay RX5 TX5 3, u_lay RX5 TX5 4, u_lay RX5 TX5 5, u_lay RX5 TX5 6], w ∈ pm_tbl
  exact List.forall_mem_cons.mpr ⟨pm_it2 64 rfl rfl, List.forall_mem_cons.mpr ⟨pm_it2 66 rfl rfl, List.forall_mem_cons.mpr ⟨pm_it2 68 rfl rfl, List.forall_mem_cons.mpr ⟨pm_it2 70 rfl rfl, List.forall_mem_cons.mpr ⟨pm_it2 72 rfl rfl, List.forall_mem_cons.mpr ⟨pm_it2 74 rfl rfl, List.forall_mem_cons.mpr ⟨pm_it2 76 rfl rfl, fun _ h => nomatch h⟩⟩⟩⟩⟩⟩⟩
theorem iX6 : ∀ w ∈ u_ws RX6 TX6 4, w ∈ pm_tbl := by
  show ∀ w ∈ [u_lay RX6 TX6 0, u_lay RX6 TX6 1, u_lay RX6 TX6 2, u_lay RX6 TX6 3], w ∈ pm_tbl
  exact List.forall_mem_cons.mpr ⟨pm_it1 175 rfl rfl, List.forall_mem_cons.mpr ⟨pm_it1 177 rfl rfl, List.forall_mem_cons.mpr ⟨pm_it1 179 rfl rfl, List.forall_mem_cons.mpr ⟨pm_it1 181 rfl rfl, fun _ h => nomatch h⟩⟩⟩⟩
theorem iX7 : ∀ w ∈ u_ws RX7 TX7 15, w ∈ pm_tbl := by
  show ∀ w ∈ [u_lay RX7 TX7 0, u_lay RX7 TX7 1, u_lay RX7 TX7 2, u_lay RX7 TX7 3, u_lay RX7 TX7 4, u_lay RX7 TX7 5, u_lay RX7 TX7 6, u_lay RX7 TX7 7, u_lay RX7 TX7 8, u_lay RX7 TX7 9, u_lay RX7 TX7 10, u_lay RX7 TX7 11, u_lay RX7 TX7 12, u_lay RX7 TX7 13, u_lay RX7 TX7 14], w ∈ pm_tbl
  exact List.forall_mem_cons.mpr ⟨pm_it1 125 rfl rfl, List.forall_mem_cons.mpr ⟨pm_it1 127 rfl rfl, List.forall_mem_cons.mpr ⟨pm_it1 129 rfl rfl, List.forall_mem_cons.mpr ⟨pm_it1 131 rfl rfl, List.forall_mem_cons.mpr ⟨pm_it1 133 rfl rfl, List.forall_mem_cons.mpr ⟨pm_it1 135 rfl rfl, List.forall_mem_cons.mpr ⟨pm_it1 137 rfl rfl, List.forall_mem_cons.mpr ⟨pm_it1 139 rfl rfl, List.forall_mem_cons.mpr ⟨pm_it1 141 rfl rfl, List.forall_mem_cons.mpr ⟨pm_it1 143 rfl rfl, List.forall_mem_cons.mpr ⟨pm_it1 145 rfl rfl, List.forall_mem_cons.mpr ⟨pm_it1 147 rfl rfl, List.forall_mem_cons.mpr ⟨pm_it1 149 rfl rfl, List.forall_mem_cons.mpr ⟨pm_it1 151 rfl rfl, List.forall_mem_cons.mpr ⟨pm_it1 153 rfl rfl, fun _ h => nomatch h⟩⟩⟩⟩⟩⟩⟩⟩⟩⟩⟩⟩⟩⟩⟩
theorem iX8 : ∀ w ∈ u_ws RX8 TX8 3, w ∈ pm_tbl := by
  show ∀ w ∈ [u_lay RX8 TX8 0, u_lay RX8 TX8 1, u_lay RX8 TX8 2], w ∈ pm_tbl
  exact List.forall_mem_cons.mpr ⟨pm_it2 113 rfl rfl, List.forall_mem_cons.mpr ⟨pm_it2 115 rfl rfl, List.forall_mem_cons.mpr ⟨pm_it2 117 rfl rfl, fun _ h => nomatch h⟩⟩⟩
theorem iX9 : ∀ w ∈ u_ws RX9 TX9 4, w ∈ pm_tbl := by
  show ∀ w ∈ [u_lay RX9 TX9 0, u_lay RX9 TX9 1, u_lay RX9 TX9 2, u_lay RX9 TX9 3], w ∈ pm_tbl
  exact List.forall_mem_cons.mpr ⟨pm_it1 53 rfl rfl, List.forall_mem_cons.mpr ⟨pm_it1 55 rfl rfl, List.forall_mem_cons.mpr ⟨pm_it1 57 rfl rfl, List.forall_mem_cons.mpr ⟨pm_it1 59 rfl rfl, fun _ h => nomatch h⟩⟩⟩⟩
theorem iX10 : ∀ w ∈ u_ws RX10 TX10 5, w ∈ pm_tbl := by
  show ∀ w ∈ [u_lay RX10 TX10 0, u_lay RX10 TX10 1, u_lay RX10 TX10 2, u_lay RX10 TX10 3, u_lay RX10 TX10 4], w ∈ pm_tbl
  exact List.forall_mem_cons.mpr ⟨pm_it2 91 rfl rfl, List.forall_mem_cons.mpr ⟨pm_it2 93 rfl rfl, List.forall_mem_cons.mpr ⟨pm_it2 95 rfl rfl, List.forall_mem_cons.mpr ⟨pm_it2 97 rfl rfl, List.forall_mem_cons.mpr ⟨pm_it2 99 rfl rfl, fun _ h => nomatch h⟩⟩⟩⟩⟩
theorem iX11 : ∀ w ∈ u_ws RX11 TX11 12, w ∈ pm_tbl := by
  show ∀ w ∈ [u_lay RX11 TX11 0, u_lay RX11 TX11 1, u_lay RX11 TX11 2, u_lay RX11 TX11 3, u_lay RX11 TX11 4, u_lay RX11 TX11 5, u_lay RX11 TX11 6, u_lay RX11 TX11 7, u_lay RX11 TX11 8, u_lay RX11 TX11 9, u_lay RX11 TX11 10, u_lay RX11 TX11 11], w ∈ pm_tbl
  exact List.forall_mem_cons.mpr ⟨pm_it2 132 rfl rfl, List.forall_mem_cons.mpr ⟨pm_it2 134 rfl rfl, List.forall_mem_cons.mpr ⟨pm_it2 136 rfl rfl, List.forall_mem_cons.mpr ⟨pm_it2 138 rfl rfl, List.forall_mem_cons.mpr ⟨pm_it2 140 rfl rfl, List.forall_mem_cons.mpr ⟨pm_it2 142 rfl rfl, List.forall_mem_cons.mpr ⟨pm_it2 144 rfl rfl, List.forall_mem_cons.mpr ⟨pm_it2 146 rfl rfl, List.forall_mem_cons.mpr ⟨pm_it2 148 rfl rfl, List.forall_mem_cons.mpr ⟨pm_it2 150 rfl rfl, List.forall_mem_cons.mpr ⟨pm_it2 152 rfl rfl, List.forall_mem_cons.mpr ⟨pm_it2 154 rfl rfl, fun _ h => nomatch h⟩⟩⟩⟩⟩⟩⟩⟩⟩⟩⟩⟩
theorem iX12 : ∀ w ∈ u_ws RX12 TX12 27, w ∈ pm_tbl := by
  show ∀ w ∈ [u_lay RX12 TX12 0, u_lay RX12 TX12 1, u_lay RX12 TX12 2, u_lay RX12 TX12 3, u_lay RX12 TX12 4, u_lay RX12 TX12 5, u_lay RX12 TX12 6, u_lay RX12 TX12 7, u_lay RX12 TX12 8, u_lay RX12 TX12 9, u_lay RX12 TX12 10, u_lay RX12 TX12 11, u_lay RX12 TX12 12, u_lay RX12 TX12 13, u_lay RX12 TX12 14, u_lay RX12 TX12 15, u_lay RX12 TX12 16, u_lay RX12 TX12 17, u_lay RX12 TX12 18, u_lay RX12 TX12 19, u_lay RX12 TX12 20, u_lay RX12 TX12 21, u_lay RX12 TX12 22, u_lay RX12 TX12 23, u_lay RX12 TX12 24, u_lay RX12 TX12 25, u_lay RX12 TX12 26], w ∈ pm_tbl
  exact List.forall_mem_cons.mpr ⟨pm_it6 187 rfl rfl, List.forall_mem_cons.mpr ⟨pm_it6 189 rfl rfl, List.forall_mem_cons.mpr ⟨pm_it6 191 rfl rfl, List.forall_mem_cons.mpr ⟨pm_it6 193 rfl rfl, List.forall_mem_cons.mpr ⟨pm_it6 195 rfl rfl, List.forall_mem_cons.mpr ⟨pm_it6 197 rfl rfl, List.forall_mem_cons.mpr ⟨pm_it6 199 rfl rfl, List.forall_mem_cons.mpr ⟨pm_it6 201 rfl rfl, List.forall_mem_cons.mpr ⟨pm_it6 203 rfl rfl, List.forall_mem_cons.mpr ⟨pm_it6 205 rfl rfl, List.forall_mem_cons.mpr ⟨pm_it6 207 rfl rfl, List.forall_mem_cons.mpr ⟨pm_it6 209 rfl rfl, List.forall_mem_cons.mpr ⟨pm_it6 211 rfl rfl, List.forall_mem_cons.mpr ⟨pm_it6 213 rfl rfl, List.forall_mem_cons.mpr ⟨pm_it6 215 rfl rfl, List.forall_mem_cons.mpr ⟨pm_it6 217 rfl rfl, List.forall_mem_cons.mpr ⟨pm_it6 219 rfl rfl, List.forall_mem_cons.mpr ⟨pm_it6 221 rfl rfl, List.forall_mem_cons.mpr ⟨pm_it6 223 rfl rfl, List.forall_mem_cons.mpr ⟨pm_it6 225 rfl rfl, List.forall_mem_cons.mpr ⟨pm_it6 227 rfl rfl, List.forall_mem_cons.mpr ⟨pm_it6 229 rfl rfl, List.forall_mem_cons.mpr ⟨pm_it6 231 rfl rfl, List.forall_mem_cons.mpr ⟨pm_it6 233 rfl rfl, List.forall_mem_cons.mpr ⟨pm_it6 235 rfl rfl, List.forall_mem_cons.mpr ⟨pm_it6 237 rfl rfl, List.forall_mem_cons.mpr ⟨pm_it6 239 rfl rfl, fun _ h => nomatch h⟩⟩⟩⟩⟩⟩⟩⟩⟩⟩⟩⟩⟩⟩⟩⟩⟩⟩⟩⟩⟩⟩⟩⟩⟩⟩⟩
theorem pm_inA : Cond.arrayClass .int ∈ pm_tbl := by decide +kernel
theorem pm_oi : Cond.instanceMethod Lib.objectInit ∈ pm_tbl ∧ Cond.code Lib.objectInit ⟨#[0xb1]⟩ 1 none ∈ pm_tbl := by decide +kernel
theorem pm_clok (ci : Nat) (C : String) (T : u_T) (N : Nat) (h : pm_cl[ci]? = some (C, T, N)) : (∀ w ∈ u_ws C T N, w ∈ pm_tbl) ∧ (∃ ty0 : Nat → FieldType, ∀ k, k < N → parseFieldDescriptor (T k).2.2.1 = some (ty0 k)) ∧ ∀ a, a < N → ∀ b, b < N → a ≠ b → (T a).2.1 ≠ (T b).2.1 := by
  match ci, h with
  | 0, h => cases h; exact ⟨iX0, ⟨tyX0, tyX0_ok⟩, nmX0⟩
  | 1, h => cases h; exact ⟨iX1, ⟨tyX1, tyX1_ok⟩, nmX1⟩
  | 2, h => cases h; exact ⟨iX2, ⟨tyX2, tyX2_ok⟩, nmX2⟩
  | 3, h => cases h; exact ⟨iX3, ⟨tyX3, tyX3_ok⟩, nmX3⟩
  | 4, h => cases h; exact ⟨iX4, ⟨tyX4, tyX4_ok⟩, nmX4⟩
  | 5, h => cases h; exact ⟨iX5, ⟨tyX5, tyX5_ok⟩, nmX5⟩
  | 6, h => cases h; exact ⟨iX6, ⟨tyX6, tyX6_ok⟩, nmX6⟩
  | 7, h => cases h; exact ⟨iX7, ⟨tyX7, tyX7_ok⟩, nmX7⟩
  | 8, h => cases h; exact ⟨iX8, ⟨tyX8, tyX8_ok⟩, nmX8⟩
  | 9, h => cases h; exact ⟨iX9, ⟨tyX9, tyX9_ok⟩, nmX9⟩
  | 10, h => cases h; exact ⟨iX10, ⟨tyX10, tyX10_ok⟩, nmX10⟩
  | 11, h => cases h; exact ⟨iX11, ⟨tyX11, tyX11_ok⟩, nmX11⟩
  | 12, h => cases h; exact ⟨iX12, ⟨tyX12, tyX12_ok⟩, nmX12⟩
  | k + 13, h => simp [pm_cl] at h
