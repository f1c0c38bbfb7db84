theorem lkL_13 (M : pm_M) (h : M.1.cls = RL) : pm_lk M 13 mX11_town := Or.inl (by rw [h]; exact (pm_it2 157 rfl (by decide +kernel)))
theorem okV_X11_town : pm_mokV mX11_town 0 := ⟨⟨⟨(pm_it2 160 rfl (by decide +kernel)), (pm_it1 1 rfl (by decide +kernel))⟩, ⟨cn_X11.1, cn_X11.2, pd___I⟩, by decide⟩, (pm_it2 158 rfl (by decide +kernel)), (pm_it2 159 rfl (by decide +kernel))⟩
theorem lkL_17 (M : pm_M) (h : M.1.cls = RL) : pm_lk M 17 mX12_town := Or.inl (by rw [h]; exact (pm_it7 2 rfl (by decide +kernel)))
theorem okV_X12_town : pm_mokV mX12_town 0 := ⟨⟨⟨(pm_it7 5 rfl (by decide +kernel)), (pm_it1 15 rfl (by decide +kernel))⟩, ⟨cn_X12.1, cn_X12.2, pd___I⟩, by decide⟩, (pm_it7 3 rfl (by decide +kernel)), (pm_it7 4 rfl (by decide +kernel))⟩
theorem lkL_18 (M : pm_M) (h : M.1.cls = RL) : pm_lk M 18 mX11_road := Or.inl (by rw [h]; exact (pm_it2 182 rfl (by decide +kernel)))
theorem okV_X11_road : pm_mokV mX11_road 3 := ⟨⟨⟨(pm_it2 185 rfl (by decide +kernel)), (pm_it1 1 rfl (by decide +kernel))⟩, ⟨cn_X11.1, cn_X11.2, pd__III_I⟩, by decide⟩, (pm_it2 183 rfl (by decide +kernel)), (pm_it2 184 rfl (by decide +kernel))⟩
theorem lkL_22 (M : pm_M) (h : M.1.cls = RL) : pm_lk M 22 mX12_road := Or.inl (by rw [h]; exact (pm_it7 11 rfl (by decide +kernel)))
theorem okV_X12_road : pm_mokV mX12_road 3 := ⟨⟨⟨(pm_it7 14 rfl (by decide +kernel)), (pm_it1 15 rfl (by decide +kernel))⟩, ⟨cn_X12.1, cn_X12.2, pd__III_I⟩, by decide⟩, (pm_it7 12 rfl (by decide +kernel)), (pm_it7 13 rfl (by decide +kernel))⟩
theorem lkL_23 (M : pm_M) (h : M.1.cls = RL) : pm_lk M 23 mX11_far := Or.inl (by rw [h]; exact (pm_it2 207 rfl (by decide +kernel)))
theorem okV_X11_far : pm_mokV mX11_far 2 := ⟨⟨⟨(pm_it2 210 rfl (by decide +kernel)), (pm_it1 1 rfl (by decide +kernel))⟩, ⟨cn_X11.1, cn_X11.2, pd__II_I⟩, by decide⟩, (pm_it2 208 rfl (by decide +kernel)), (pm_it2 209 rfl (by decide +kernel))⟩
theorem lkL_27 (M : pm_M) (h : M.1.cls = RL) : pm_lk M 27 mX12_far := Or.inl (by rw [h]; exact (pm_it7 22 rfl (by decide +kernel)))
theorem okV_X12_far : pm_mokV mX12_far 2 := ⟨⟨⟨(pm_it7 25 rfl (by decide +kernel)), (pm_it1 15 rfl (by decide +kernel))⟩, ⟨cn_X12.1, cn_X12.2, pd__II_I⟩, by decide⟩, (pm_it7 23 rfl (by decide +kernel)), (pm_it7 24 rfl (by decide +kernel))⟩
theorem lkL_28 (M : pm_M) (h : M.1.cls = RL) : pm_lk M 28 mX11_person := Or.inl (by rw [h]; exact (pm_it2 216 rfl (by decide +kernel)))
theorem okV_X11_person : pm_mokV mX11_person 4 := ⟨⟨⟨(pm_it2 219 rfl (by decide +kernel)), (pm_it1 1 rfl (by decide +kernel))⟩, ⟨cn_X11.1, cn_X11.2, pd__IIII_I⟩, by decide⟩, (pm_it2 217 rfl (by decide +kernel)), (pm_it2 218 rfl (by decide +kernel))⟩
theorem lkL_32 (M : pm_M) (h : M.1.cls = RL) : pm_lk M 32 mX12_person := Or.inl (by rw [h]; exact (pm_it7 34 rfl (by decide +kernel)))
theorem okV_X12_person : pm_mokV mX12_person 4 := ⟨⟨⟨(pm_it7 37 rfl (by decide +kernel)), (pm_it1 15 rfl (by decide +kernel))⟩, ⟨cn_X12.1, cn_X12.2, pd__IIII_I⟩, by decide⟩, (pm_it7 35 rfl (by decide +kernel)), (pm_it7 36 rfl (by decide +kernel))⟩
theorem lkL_33 (M : pm_M) (h : M.1.cls = RL) : pm_lk M 33 mX11_die := Or.inl (by rw [h]; exact (pm_it2 237 rfl (by decide +kernel)))
theorem okV_X11_die : pm_mokV mX11_die 1 := ⟨⟨⟨(pm_it3 0 rfl (by decide +kernel)), (pm_it1 1 rfl (by decide +kernel))⟩, ⟨cn_X11.1, cn_X11.2, pd__I_I⟩, by decide⟩, (pm_it2 238 rfl (by decide +kernel)), (pm_it2 239 rfl (by decide +kernel))⟩
theorem lkL_37 (M : pm_M) (h : M.1.cls = RL) : pm_lk M 37 mX12_die := Or.inl (by rw [h]; exact (pm_it7 54 rfl (by decide +kernel)))
theorem okV_X12_die : pm_mokV mX12_die 1 := ⟨⟨⟨(pm_it7 57 rfl (by decide +kernel)), (pm_it1 15 rfl (by decide +kernel))⟩, ⟨cn_X12.1, cn_X12.2, pd__I_I⟩, by decide⟩, (pm_it7 55 rfl (by decide +kernel)), (pm_it7 56 rfl (by decide +kernel))⟩
theorem lkL_38 (M : pm_M) (h : M.1.cls = RL) : pm_lk M 38 mX11_go := Or.inl (by rw [h]; exact (pm_it3 43 rfl (by decide +kernel)))
theorem okV_X11_go : pm_mokV mX11_go 2 := ⟨⟨⟨(pm_it3 46 rfl (by decide +kernel)), (pm_it1 1 rfl (by decide +kernel))⟩, ⟨cn_X11.1, cn_X11.2, pd__II_I⟩, by decide⟩, (pm_it3 44 rfl (by decide +kernel)), (pm_it3 45 rfl (by decide +kernel))⟩
theorem lkL_41 (M : pm_M) (h : M.1.cls = RL) : pm_lk M 41 mX12_go := Or.inl (by rw [h]; exact (pm_it7 86 rfl (by decide +kernel)))
theorem okV_X12_go : pm_mokV mX12_go 2 := ⟨⟨⟨(pm_it7 89 rfl (by decide +kernel)), (pm_it1 15 rfl (by decide +kernel))⟩, ⟨cn_X12.1, cn_X12.2, pd__II_I⟩, by decide⟩, (pm_it7 87 rfl (by decide +kernel)), (pm_it7 88 rfl (by decide +kernel))⟩
theorem lkL_42 (M : pm_M) (h : M.1.cls = RL) : pm_lk M 42 mX11_about := Or.inl (by rw [h]; exact (pm_it3 57 rfl (by decide +kernel)))
theorem okV_X11_about : pm_mokV mX11_about 2 := ⟨⟨⟨(pm_it3 60 rfl (by decide +kernel)), (pm_it1 1 rfl (by decide +kernel))⟩, ⟨cn_X11.1, cn_X11.2, pd__II_I⟩, by decide⟩, (pm_it3 58 rfl (by decide +kernel)), (pm_it3 59 rfl (by decide +kernel))⟩
theorem lkL_45 (M : pm_M) (h : M.1.cls = RL) : pm_lk M 45 mX12_about := Or.inl (by rw [h]; exact (pm_it7 94 rfl (by decide +kernel)))
theorem okV_X12_about : pm_mokV mX12_about 2 := ⟨⟨⟨(pm_it7 97 rfl (by decide +kernel)), (pm_it1 15 rfl (by decide +kernel))⟩, ⟨cn_X12.1, cn_X12.2, pd__II_I⟩, by decide⟩, (pm_it7 95 rfl (by decide +kernel)), (pm_it7 96 rfl (by decide +kernel))⟩
theorem lkL_46 (M : pm_M) (h : M.1.cls = RL) : pm_lk M 46 mX11_pay := Or.inl (by rw [h]; exact (pm_it3 70 rfl (by decide +kernel)))
theorem okV_X11_pay : pm_mokV mX11_pay 2 := ⟨⟨⟨(pm_it3 73 rfl (by decide +kernel)), (pm_it1 1 rfl (by decide +kernel))⟩, ⟨cn_X11.1, cn_X11.2, pd__II_I⟩, by decide⟩, (pm_it3 71 rfl (by decide +kernel)), (pm_it3 72 rfl (by decide +kernel))⟩
theorem lkL_49 (M : pm_M) (h : M.1.cls = RL) : pm_lk M 49 mX12_pay := Or.inl (by rw [h]; exact (pm_it7 106 rfl (by decide +kernel)))
theorem okV_X12_pay : pm_mokV mX12_pay 2 := ⟨⟨⟨(pm_it7 109 rfl (by decide +kernel)), (pm_it1 15 rfl (by decide +kernel))⟩, ⟨cn_X12.1, cn_X12.2, pd__II_I⟩, by decide⟩, (pm_it7 107 rfl (by decide +kernel)), (pm_it7 108 rfl (by decide +kernel))⟩
theorem lkL_50 (M : pm_M) (h : M.1.cls = RL) : pm_lk M 50 mX11_men := Or.inl (by rw [h]; exact (pm_it3 82 rfl (by decide +kernel)))
theorem okV_X11_men : pm_mokV mX11_men 2 := ⟨⟨⟨(pm_it3 85 rfl (by decide +kernel)), (pm_it1 1 rfl (by decide +kernel))⟩, ⟨cn_X11.1, cn_X11.2, pd__II_I⟩, by decide⟩, (pm_it3 83 rfl (by decide +kernel)), (pm_it3 84 rfl (by decide +kernel))⟩
theorem lkL_53 (M : pm_M) (h : M.1.cls = RL) : pm_lk M 53 mX12_men := Or.inl (by rw [h]; exact (pm_it7 110 rfl (by decide +kernel)))
theorem okV_X12_men : pm_mokV mX12_men 2 := ⟨⟨⟨(pm_it7 113 rfl (by decide +kernel)), (pm_it1 15 rfl (by decide +kernel))⟩, ⟨cn_X12.1, cn_X12.2, pd__II_I⟩, by decide⟩, (pm_it7 111 rfl (by decide +kernel)), (pm_it7 112 rfl (by decide +kernel))⟩
theorem lkL_54 (M : pm_M) (h : M.1.cls = RL) : pm_lk M 54 mX11_power := Or.inl (by rw [h]; exact (pm_it3 87 rfl (by decide +kernel)))
theorem okV_X11_power : pm_mokV mX11_power 3 := ⟨⟨⟨(pm_it3 90 rfl (by decide +kernel)), (pm_it1 1 rfl (by decide +kernel))⟩, ⟨cn_X11.1, cn_X11.2, pd__III_I⟩, by decide⟩, (pm_it3 88 rfl (by decide +kernel)), (pm_it3 89 rfl (by decide +kernel))⟩
theorem lkL_57 (M : pm_M) (h : M.1.cls = RL) : pm_lk M 57 mX12_power := Or.inl (by rw [h]; exact (pm_it7 114 rfl (by decide +kernel)))
theorem okV_X12_power : pm_mokV mX12_power 3 := ⟨⟨⟨(pm_it7 117 rfl (by decide +kernel)), (pm_it1 15 rfl (by decide +kernel))⟩, ⟨cn_X12.1, cn_X12.2, pd__III_I⟩, by decide⟩, (pm_it7 115 rfl (by decide +kernel)), (pm_it7 116 rfl (by decide +kernel))⟩
theorem lkL_58 (M : pm_M) (h : M.1.cls = RL) : pm_lk M 58 mX11_as := Or.inl (by rw [h]; exact (pm_it3 99 rfl (by decide +kernel)))
theorem okV_X11_as : pm_mokV mX11_as 2 := ⟨⟨⟨(pm_it3 102 rfl (by decide +kernel)), (pm_it1 1 rfl (by decide +kernel))⟩, ⟨cn_X11.1, cn_X11.2, pd__II_I⟩, by decide⟩, (pm_it3 100 rfl (by decide +kernel)), (pm_it3 101 rfl (by decide +kernel))⟩
theorem lkL_61 (M : pm_M) (h : M.1.cls = RL) : pm_lk M 61 mX12_as := Or.inl (by rw [h]; exact (pm_it7 122 rfl (by decide +kernel)))
theorem okV_X12_as : pm_mokV mX12_as 2 := ⟨⟨⟨(pm_it7 125 rfl (by decide +kernel)), (pm_it1 15 rfl (by decide +kernel))⟩, ⟨cn_X12.1, cn_X12.2, pd__II_I⟩, by decide⟩, (pm_it7 123 rfl (by decide +kernel)), (pm_it7 124 rfl (by decide +kernel))⟩
theorem lkL_62 (M : pm_M) (h : M.1.cls = RL) : pm_lk M 62 mX11_held := Or.inl (by rw [h]; exact (pm_it3 110 rfl (by decide +kernel)))
theorem okV_X11_held : pm_mokV mX11_held 2 := ⟨⟨⟨(pm_it3 113 rfl (by decide +kernel)), (pm_it1 1 rfl (by decide +kernel))⟩, ⟨cn_X11.1, cn_X11.2, pd__II_I⟩, by decide⟩, (pm_it3 111 rfl (by decide +kernel)), (pm_it3 112 rfl (by decide +kernel))⟩
theorem lkL_65 (M : pm_M) (h : M.1.cls = RL) : pm_lk M 65 mX12_held := Or.inl (by rw [h]; exact (pm_it7 133 rfl (by decide +kernel)))
theorem okV_X12_held : pm_mokV mX12_held 2 := ⟨⟨⟨(pm_it7 136 rfl (by decide +kernel)), (pm_it1 15 rfl (by decide +kernel))⟩, ⟨cn_X12.1, cn_X12.2, pd__II_I⟩, by decide⟩, (pm_it7 134 rfl (by decide +kernel)), (pm_it7 135 rfl (by decide +kernel))⟩
theorem lkL_66 (M : pm_M) (h : M.1.cls = RL) : pm_lk M 66 mX11_give := Or.inl (by rw [h]; exact (pm_it3 122 rfl (by decide +kernel)))
theorem okV_X11_give : pm_mokV mX11_give 2 := ⟨⟨⟨(pm_it3 125 rfl (by decide +kernel)), (pm_it1 1 rfl (by decide +kernel))⟩, ⟨cn_X11.1, cn_X11.2, pd__II_I⟩, by decide⟩, (pm_it3 123 rfl (by decide +kernel)), (pm_it3 124 rfl (by decide +kernel))⟩
theorem lkL_69 (M : pm_M) (h : M.1.cls = RL) : pm_lk M 69 mX12_give := Or.inl (by rw [h]; exact (pm_it7 141 rfl (by decide +kernel)))
theorem okV_X12_give : pm_mokV mX12_give 2 := ⟨⟨⟨(pm_it7 144 rfl (by decide +kernel)), (pm_it1 15 rfl (by decide +kernel))⟩, ⟨cn_X12.1, cn_X12.2, pd__II_I⟩, by decide⟩, (pm_it7 142 rfl (by decide +kernel)), (pm_it7 143 rfl (by decide +kernel))⟩
theorem lkL_70 (M : pm_M) (h : M.1.cls = RL) : pm_lk M 70 mX11_lend := Or.inl (by rw [h]; exact (pm_it3 128 rfl (by decide +kernel)))
theorem okV_X11_lend : pm_mokV mX11_lend 3 := ⟨⟨⟨(pm_it3 131 rfl (by decide +kernel)), (pm_it1 1 rfl (by decide +kernel))⟩, ⟨cn_X11.1, cn_X11.2, pd__III_I⟩, by decide⟩, (pm_it3 129 rfl (by decide +kernel)), (pm_it3 130 rfl (by decide +kernel))⟩
theorem lkL_73 (M : pm_M) (h : M.1.cls = RL) : pm_lk M 73 mX12_lend := Or.inl (by rw [h]; exact (pm_it7 145 rfl (by decide +kernel)))
theorem okV_X12_lend : pm_mokV mX12_lend 3 := ⟨⟨⟨(pm_it7 148 rfl (by decide +kernel)), (pm_it1 15 rfl (by decide +kernel))⟩, ⟨cn_X12.1, cn_X12.2, pd__III_I⟩, by decide⟩, (pm_it7 146 rfl (by decide +kernel)), (pm_it7 147 rfl (by decide +kernel))⟩
theorem lkL_74 (M : pm_M) (h : M.1.cls = RL) : pm_lk M 74 mX11_copy := Or.inl (by rw [h]; exact (pm_it3 133 rfl (by decide +kernel)))
theorem okV_X11_copy : pm_mokV mX11_copy 1 := ⟨⟨⟨(pm_it3 136 rfl (by decide +kernel)), (pm_it1 1 rfl (by decide +kernel))⟩, ⟨cn_X11.1, cn_X11.2, pd__I_I⟩, by decide⟩, (pm_it3 134 rfl (by decide +kernel)), (pm_it3 135 rfl (by decide +kernel))⟩
theorem lkL_77 (M : pm_M) (h : M.1.cls = RL) : pm_lk M 77 mX12_copy := Or.inl (by rw [h]; exact (pm_it7 149 rfl (by decide +kernel)))
theorem okV_X12_copy : pm_mokV mX12_copy 1 := ⟨⟨⟨(pm_it7 152 rfl (by decide +kernel)), (pm_it1 15 rfl (by decide +kernel))⟩, ⟨cn_X12.1, cn_X12.2, pd__I_I⟩, by decide⟩, (pm_it7 150 rfl (by decide +kernel)), (pm_it7 151 rfl (by decide +kernel))⟩
theorem ctL_78 (M : pm_M) (h : M.1.cls = RL) : Cond.constantLong M.1.cls 78 (4294967295) ∈ pm_tbl := by rw [h]; exact (pm_it9 16 rfl (by decide +kernel))
theorem lkL_80 (M : pm_M) (h : M.1.cls = RL) : pm_lk M 80 mX11_feed := Or.inl (by rw [h]; exact (pm_it3 143 rfl (by decide +kernel)))
theorem pd__JI_I : (parseMethodDescriptor "(JI)I").map (fun d => d.parameters.length) = some 2 := by decide +kernel
theorem okV_X11_feed : pm_mokV mX11_feed 2 := ⟨⟨⟨(pm_it3 146 rfl (by decide +kernel)), (pm_it1 1 rfl (by decide +kernel))⟩, ⟨cn_X11.1, cn_X11.2, pd__JI_I⟩, by decide⟩, (pm_it3 144 rfl (by decide +kernel)), (pm_it3 145 rfl (by decide +kernel))⟩
theorem lkL_84 (M : pm_M) (h : M.1.cls = RL) : pm_lk M 84 mX12_feed := Or.inl (by rw [h]; exact (pm_it7 153 rfl (by decide +kernel)))
theorem okV_X12_feed : pm_mokV mX12_feed 2 := ⟨⟨⟨(pm_it7 156 rfl (by decide +kernel)), (pm_it1 15 rfl (by decide +kernel))⟩, ⟨cn_X12.1, cn_X12.2, pd__JI_I⟩, by decide⟩, (pm_it7 154 rfl (by decide +kernel)), (pm_it7 155 rfl (by decide +kernel))⟩
theorem lkL_85 (M : pm_M) (h : M.1.cls = RL) : pm_lk M 85 mX11_law := Or.inl (by rw [h]; exact (pm_it3 149 rfl (by decide +kernel)))
theorem okV_X11_law : pm_mokV mX11_law 2 := ⟨⟨⟨(pm_it3 152 rfl (by decide +kernel)), (pm_it1 1 rfl (by decide +kernel))⟩, ⟨cn_X11.1, cn_X11.2, pd__II_I⟩, by decide⟩, (pm_it3 150 rfl (by decide +kernel)), (pm_it3 151 rfl (by decide +kernel))⟩
theorem lkL_88 (M : pm_M) (h : M.1.cls = RL) : pm_lk M 88 mX12_law := Or.inl (by rw [h]; exact (pm_it7 158 rfl (by decide +kernel)))
theorem okV_X12_law : pm_mokV mX12_law 2 := ⟨⟨⟨(pm_it7 161 rfl (by decide +kernel)), (pm_it1 15 rfl (by decide +kernel))⟩, ⟨cn_X12.1, cn_X12.2, pd__II_I⟩, by decide⟩, (pm_it7 159 rfl (by decide +kernel)), (pm_it7 160 rfl (by decide +kernel))⟩
theorem lkL_89 (M : pm_M) (h : M.1.cls = RL) : pm_lk M 89 mX11_strike := Or.inl (by rw [h]; exact (pm_it4 57 rfl (by decide +kernel)))
theorem okV_X11_strike : pm_mokV mX11_strike 1 := ⟨⟨⟨(pm_it4 60 rfl (by decide +kernel)), (pm_it1 1 rfl (by decide +kernel))⟩, ⟨cn_X11.1, cn_X11.2, pd__I_I⟩, by decide⟩, (pm_it4 58 rfl (by decide +kernel)), (pm_it4 59 rfl (by decide +kernel))⟩
theorem lkL_92 (M : pm_M) (h : M.1.cls = RL) : pm_lk M 92 mX12_strike := Or.inl (by rw [h]; exact (pm_it7 206 rfl (by decide +kernel)))
theorem okV_X12_strike : pm_mokV mX12_strike 1 := ⟨⟨⟨(pm_it7 209 rfl (by decide +kernel)), (pm_it1 15 rfl (by decide +kernel))⟩, ⟨cn_X12.1, cn_X12.2, pd__I_I⟩, by decide⟩, (pm_it7 207 rfl (by decide +kernel)), (pm_it7 208 rfl (by decide +kernel))⟩
theorem lkL_93 (M : pm_M) (h : M.1.cls = RL) : pm_lk M 93 mX11_force := Or.inl (by rw [h]; exact (pm_it4 69 rfl (by decide +kernel)))
theorem okV_X11_force : pm_mokV mX11_force 3 := ⟨⟨⟨(pm_it4 72 rfl (by decide +kernel)), (pm_it1 1 rfl (by decide +kernel))⟩, ⟨cn_X11.1, cn_X11.2, pd__III_I⟩, by decide⟩, (pm_it4 70 rfl (by decide +kernel)), (pm_it4 71 rfl (by decide +kernel))⟩
theorem lkL_96 (M : pm_M) (h : M.1.cls = RL) : pm_lk M 96 mX12_force := Or.inl (by rw [h]; exact (pm_it7 214 rfl (by decide +kernel)))
theorem okV_X12_force : pm_mokV mX12_force 3 := ⟨⟨⟨(pm_it7 217 rfl (by decide +kernel)), (pm_it1 15 rfl (by decide +kernel))⟩, ⟨cn_X12.1, cn_X12.2, pd__III_I⟩, by decide⟩, (pm_it7 215 rfl (by decide +kernel)), (pm_it7 216 rfl (by decide +kernel))⟩
theorem lkL_97 (M : pm_M) (h : M.1.cls = RL) : pm_lk M 97 mX11_says := Or.inl (by rw [h]; exact (pm_it4 78 rfl (by decide +kernel)))
theorem okV_X11_says : pm_mokV mX11_says 3 := ⟨⟨⟨(pm_it4 81 rfl (by decide +kernel)), (pm_it1 1 rfl (by decide +kernel))⟩, ⟨cn_X11.1, cn_X11.2, pd__III_I⟩, by decide⟩, (pm_it4 79 rfl (by decide +kernel)), (pm_it4 80 rfl (by decide +kernel))⟩
theorem lkL_100 (M : pm_M) (h : M.1.cls = RL) : pm_lk M 100 mX12_says := Or.inl (by rw [h]; exact (pm_it7 222 rfl (by decide +kernel)))
theorem okV_X12_says : pm_mokV mX12_says 3 := ⟨⟨⟨(pm_it7 225 rfl (by decide +kernel)), (pm_it1 15 rfl (by decide +kernel))⟩, ⟨cn_X12.1, cn_X12.2, pd__III_I⟩, by decide⟩, (pm_it7 223 rfl (by decide +kernel)), (pm_it7 224 rfl (by decide +kernel))⟩
theorem lkL_101 (M : pm_M) (h : M.1.cls = RL) : pm_lk M 101 mX11_draw := Or.inl (by rw [h]; exact (pm_it4 111 rfl (by decide +kernel)))
theorem okV_X11_draw : pm_mokV mX11_draw 3 := ⟨⟨⟨(pm_it4 114 rfl (by decide +kernel)), (pm_it1 1 rfl (by decide +kernel))⟩, ⟨cn_X11.1, cn_X11.2, pd__III_I⟩, by decide⟩, (pm_it4 112 rfl (by decide +kernel)), (pm_it4 113 rfl (by decide +kernel))⟩
theorem lkL_104 (M : pm_M) (h : M.1.cls = RL) : pm_lk M 104 mX12_draw := Or.inl (by rw [h]; exact (pm_it8 8 rfl (by decide +kernel)))
theorem okV_X12_draw : pm_mokV mX12_draw 3 := ⟨⟨⟨(pm_it8 11 rfl (by decide +kernel)), (pm_it1 15 rfl (by decide +kernel))⟩, ⟨cn_X12.1, cn_X12.2, pd__III_I⟩, by decide⟩, (pm_it8 9 rfl (by decide +kernel)), (pm_it8 10 rfl (by decide +kernel))⟩
theorem lkL_105 (M : pm_M) (h : M.1.cls = RL) : pm_lk M 105 mX11_press := Or.inl (by rw [h]; exact (pm_it4 126 rfl (by decide +kernel)))
theorem okV_X11_press : pm_mokV mX11_press 2 := ⟨⟨⟨(pm_it4 129 rfl (by decide +kernel)), (pm_it1 1 rfl (by decide +kernel))⟩, ⟨cn_X11.1, cn_X11.2, pd__II_I⟩, by decide⟩, (pm_it4 127 rfl (by decide +kernel)), (pm_it4 128 rfl (by decide +kernel))⟩
theorem lkL_108 (M : pm_M) (h : M.1.cls = RL) : pm_lk M 108 mX12_press := Or.inl (by rw [h]; exact (pm_it8 20 rfl (by decide +kernel)))
theorem okV_X12_press : pm_mokV mX12_press 2 := ⟨⟨⟨(pm_it8 23 rfl (by decide +kernel)), (pm_it1 15 rfl (by decide +kernel))⟩, ⟨cn_X12.1, cn_X12.2, pd__II_I⟩, by decide⟩, (pm_it8 21 rfl (by decide +kernel)), (pm_it8 22 rfl (by decide +kernel))⟩
theorem lkL_109 (M : pm_M) (h : M.1.cls = RL) : pm_lk M 109 mX11_send := Or.inl (by rw [h]; exact (pm_it4 147 rfl (by decide +kernel)))
theorem okV_X11_send : pm_mokV mX11_send 2 := ⟨⟨⟨(pm_it4 150 rfl (by decide +kernel)), (pm_it1 1 rfl (by decide +kernel))⟩, ⟨cn_X11.1, cn_X11.2, pd__II_I⟩, by decide⟩, (pm_it4 148 rfl (by decide +kernel)), (pm_it4 149 rfl (by decide +kernel))⟩
theorem lkL_112 (M : pm_M) (h : M.1.cls = RL) : pm_lk M 112 mX12_send := Or.inl (by rw [h]; exact (pm_it8 24 rfl (by decide +kernel)))
theorem okV_X12_send : pm_mokV mX12_send 2 := ⟨⟨⟨(pm_it8 27 rfl (by decide +kernel)), (pm_it1 15 rfl (by decide +kernel))⟩, ⟨cn_X12.1, cn_X12.2, pd__II_I⟩, by decide⟩, (pm_it8 25 rfl (by decide +kernel)), (pm_it8 26 rfl (by decide +kernel))⟩
theorem lkL_113 (M : pm_M) (h : M.1.cls = RL) : pm_lk M 113 mX11_open := Or.inl (by rw [h]; exact (pm_it4 157 rfl (by decide +kernel)))
theorem okV_X11_open : pm_mokV mX11_open 1 := ⟨⟨⟨(pm_it4 160 rfl (by decide +kernel)), (pm_it1 1 rfl (by decide +kernel))⟩, ⟨cn_X11.1, cn_X11.2, pd__I_I⟩, by decide⟩, (pm_it4 158 rfl (by decide +kernel)), (pm_it4 159 rfl (by decide +kernel))⟩
theorem lkL_116 (M : pm_M) (h : M.1.cls = RL) : pm_lk M 116 mX12_open := Or.inl (by rw [h]; exact (pm_it8 28 rfl (by decide +kernel)))
theorem okV_X12_open : pm_mokV mX12_open 1 := ⟨⟨⟨(pm_it8 31 rfl (by decide +kernel)), (pm_it1 15 rfl (by decide +kernel))⟩, ⟨cn_X12.1, cn_X12.2, pd__I_I⟩, by decide⟩, (pm_it8 29 rfl (by decide +kernel)), (pm_it8 30 rfl (by decide +kernel))⟩
theorem lkL_117 (M : pm_M) (h : M.1.cls = RL) : pm_lk M 117 mX11_obey := Or.inl (by rw [h]; exact (pm_it4 172 rfl (by decide +kernel)))
theorem okV_X11_obey : pm_mokV mX11_obey 1 := ⟨⟨⟨(pm_it4 175 rfl (by decide +kernel)), (pm_it1 1 rfl (by decide +kernel))⟩, ⟨cn_X11.1, cn_X11.2, pd__I_I⟩, by decide⟩, (pm_it4 173 rfl (by decide +kernel)), (pm_it4 174 rfl (by decide +kernel))⟩
theorem lkL_120 (M : pm_M) (h : M.1.cls = RL) : pm_lk M 120 mX12_obey := Or.inl (by rw [h]; exact (pm_it8 32 rfl (by decide +kernel)))
theorem okV_X12_obey : pm_mokV mX12_obey 1 := ⟨⟨⟨(pm_it8 35 rfl (by decide +kernel)), (pm_it1 15 rfl (by decide +kernel))⟩, ⟨cn_X12.1, cn_X12.2, pd__I_I⟩, by decide⟩, (pm_it8 33 rfl (by decide +kernel)), (pm_it8 34 rfl (by decide +kernel))⟩
theorem lkL_121 (M : pm_M) (h : M.1.cls = RL) : pm_lk M 121 mX11_letter := Or.inl (by rw [h]; exact (pm_it4 204 rfl (by decide +kernel)))
theorem okV_X11_letter : pm_mokV mX11_letter 2 := ⟨⟨⟨(pm_it4 207 rfl (by decide +kernel)), (pm_it1 1 rfl (by decide +kernel))⟩, ⟨cn_X11.1, cn_X11.2, pd__II_I⟩, by decide⟩, (pm_it4 205 rfl (by decide +kernel)), (pm_it4 206 rfl (by decide +kernel))⟩
theorem lkL_124 (M : pm_M) (h : M.1.cls = RL) : pm_lk M 124 mX12_letter := Or.inl (by rw [h]; exact (pm_it8 48 rfl (by decide +kernel)))
theorem okV_X12_letter : pm_mokV mX12_letter 2 := ⟨⟨⟨(pm_it8 51 rfl (by decide +kernel)), (pm_it1 15 rfl (by decide +kernel))⟩, ⟨cn_X12.1, cn_X12.2, pd__II_I⟩, by decide⟩, (pm_it8 49 rfl (by decide +kernel)), (pm_it8 50 rfl (by decide +kernel))⟩
theorem lkL_125 (M : pm_M) (h : M.1.cls = RL) : pm_lk M 125 mX11_days := Or.inl (by rw [h]; exact (pm_it4 208 rfl (by decide +kernel)))
theorem okV_X11_days : pm_mokV mX11_days 1 := ⟨⟨⟨(pm_it4 211 rfl (by decide +kernel)), (pm_it1 1 rfl (by decide +kernel))⟩, ⟨cn_X11.1, cn_X11.2, pd__I_I⟩, by decide⟩, (pm_it4 209 rfl (by decide +kernel)), (pm_it4 210 rfl (by decide +kernel))⟩
theorem lkL_128 (M : pm_M) (h : M.1.cls = RL) : pm_lk M 128 mX12_days := Or.inl (by rw [h]; exact (pm_it8 52 rfl (by decide +kernel)))
theorem okV_X12_days : pm_mokV mX12_days 1 := ⟨⟨⟨(pm_it8 55 rfl (by decide +kernel)), (pm_it1 15 rfl (by decide +kernel))⟩, ⟨cn_X12.1, cn_X12.2, pd__I_I⟩, by decide⟩, (pm_it8 53 rfl (by decide +kernel)), (pm_it8 54 rfl (by decide +kernel))⟩
theorem lkL_129 (M : pm_M) (h : M.1.cls = RL) : pm_lk M 129 mX11_rent := Or.inl (by rw [h]; exact (pm_it5 1 rfl (by decide +kernel)))
theorem okV_X11_rent : pm_mokV mX11_rent 2 := ⟨⟨⟨(pm_it5 4 rfl (by decide +kernel)), (pm_it1 1 rfl (by decide +kernel))⟩, ⟨cn_X11.1, cn_X11.2, pd__II_I⟩, by decide⟩, (pm_it5 2 rfl (by decide +kernel)), (pm_it5 3 rfl (by decide +kernel))⟩
theorem lkL_132 (M : pm_M) (h : M.1.cls = RL) : pm_lk M 132 mX12_rent := Or.inl (by rw [h]; exact (pm_it8 61 rfl (by decide +kernel)))
theorem okV_X12_rent : pm_mokV mX12_rent 2 := ⟨⟨⟨(pm_it8 64 rfl (by decide +kernel)), (pm_it1 15 rfl (by decide +kernel))⟩, ⟨cn_X12.1, cn_X12.2, pd__II_I⟩, by decide⟩, (pm_it8 62 rfl (by decide +kernel)), (pm_it8 63 rfl (by decide +kernel))⟩
theorem lkL_133 (M : pm_M) (h : M.1.cls = RL) : pm_lk M 133 mX11_own := Or.inl (by rw [h]; exact (pm_it5 6 rfl (by decide +kernel)))
theorem okV_X11_own : pm_mokV mX11_own 2 := ⟨⟨⟨(pm_it5 9 rfl (by decide +kernel)), (pm_it1 1 rfl (by decide +kernel))⟩, ⟨cn_X11.1, cn_X11.2, pd__II_I⟩, by decide⟩, (pm_it5 7 rfl (by decide +kernel)), (pm_it5 8 rfl (by decide +kernel))⟩
theorem lkL_136 (M : pm_M) (h : M.1.cls = RL) : pm_lk M 136 mX12_own := Or.inl (by rw [h]; exact (pm_it8 65 rfl (by decide +kernel)))
theorem okV_X12_own : pm_mokV mX12_own 2 := ⟨⟨⟨(pm_it8 68 rfl (by decide +kernel)), (pm_it1 15 rfl (by decide +kernel))⟩, ⟨cn_X12.1, cn_X12.2, pd__II_I⟩, by decide⟩, (pm_it8 66 rfl (by decide +kernel)), (pm_it8 67 rfl (by decide +kernel))⟩
theorem lkL_137 (M : pm_M) (h : M.1.cls = RL) : pm_lk M 137 mX11_rents := Or.inl (by rw [h]; exact (pm_it5 10 rfl (by decide +kernel)))
theorem okV_X11_rents : pm_mokV mX11_rents 2 := ⟨⟨⟨(pm_it5 13 rfl (by decide +kernel)), (pm_it1 1 rfl (by decide +kernel))⟩, ⟨cn_X11.1, cn_X11.2, pd__II_I⟩, by decide⟩, (pm_it5 11 rfl (by decide +kernel)), (pm_it5 12 rfl (by decide +kernel))⟩
theorem lkL_140 (M : pm_M) (h : M.1.cls = RL) : pm_lk M 140 mX12_rents := Or.inl (by rw [h]; exact (pm_it8 69 rfl (by decide +kernel)))
theorem okV_X12_rents : pm_mokV mX12_rents 2 := ⟨⟨⟨(pm_it8 72 rfl (by decide +kernel)), (pm_it1 15 rfl (by decide +kernel))⟩, ⟨cn_X12.1, cn_X12.2, pd__II_I⟩, by decide⟩, (pm_it8 70 rfl (by decide +kernel)), (pm_it8 71 rfl (by decide +kernel))⟩
theorem lkL_141 (M : pm_M) (h : M.1.cls = RL) : pm_lk M 141 mX11_debt := Or.inl (by rw [h]; exact (pm_it5 51 rfl (by decide +kernel)))
theorem okV_X11_debt : pm_mokV mX11_debt 3 := ⟨⟨⟨(pm_it5 54 rfl (by decide +kernel)), (pm_it1 1 rfl (by decide +kernel))⟩, ⟨cn_X11.1, cn_X11.2, pd__III_I⟩, by decide⟩, (pm_it5 52 rfl (by decide +kernel)), (pm_it5 53 rfl (by decide +kernel))⟩
theorem lkL_144 (M : pm_M) (h : M.1.cls = RL) : pm_lk M 144 mX12_debt := Or.inl (by rw [h]; exact (pm_it8 76 rfl (by decide +kernel)))
theorem okV_X12_debt : pm_mokV mX12_debt 3 := ⟨⟨⟨(pm_it8 79 rfl (by decide +kernel)), (pm_it1 15 rfl (by decide +kernel))⟩, ⟨cn_X12.1, cn_X12.2, pd__III_I⟩, by decide⟩, (pm_it8 77 rfl (by decide +kernel)), (pm_it8 78 rfl (by decide +kernel))⟩
theorem lkL_145 (M : pm_M) (h : M.1.cls = RL) : pm_lk M 145 mX11_owed := Or.inl (by rw [h]; exact (pm_it5 60 rfl (by decide +kernel)))
theorem okV_X11_owed : pm_mokV mX11_owed 2 := ⟨⟨⟨(pm_it5 63 rfl (by decide +kernel)), (pm_it1 1 rfl (by decide +kernel))⟩, ⟨cn_X11.1, cn_X11.2, pd__II_I⟩, by decide⟩, (pm_it5 61 rfl (by decide +kernel)), (pm_it5 62 rfl (by decide +kernel))⟩
theorem lkL_148 (M : pm_M) (h : M.1.cls = RL) : pm_lk M 148 mX12_owed := Or.inl (by rw [h]; exact (pm_it8 81 rfl (by decide +kernel)))
theorem okV_X12_owed : pm_mokV mX12_owed 2 := ⟨⟨⟨(pm_it8 84 rfl (by decide +kernel)), (pm_it1 15 rfl (by decide +kernel))⟩, ⟨cn_X12.1, cn_X12.2, pd__II_I⟩, by decide⟩, (pm_it8 82 rfl (by decide +kernel)), (pm_it8 83 rfl (by decide +kernel))⟩
theorem lkL_149 (M : pm_M) (h : M.1.cls = RL) : pm_lk M 149 mX11_seat := Or.inl (by rw [h]; exact (pm_it5 64 rfl (by decide +kernel)))
theorem pd__IZ_I : (parseMethodDescriptor "(IZ)I").map (fun d => d.parameters.length) = some 2 := by decide +kernel
theorem okV_X11_seat : pm_mokV mX11_seat 2 := ⟨⟨⟨(pm_it5 67 rfl (by decide +kernel)), (pm_it1 1 rfl (by decide +kernel))⟩, ⟨cn_X11.1, cn_X11.2, pd__IZ_I⟩, by decide⟩, (pm_it5 65 rfl (by decide +kernel)), (pm_it5 66 rfl (by decide +kernel))⟩
theorem lkL_153 (M : pm_M) (h : M.1.cls = RL) : pm_lk M 153 mX12_seat := Or.inl (by rw [h]; exact (pm_it8 85 rfl (by decide +kernel)))
theorem okV_X12_seat : pm_mokV mX12_seat 2 := ⟨⟨⟨(pm_it8 88 rfl (by decide +kernel)), (pm_it1 15 rfl (by decide +kernel))⟩, ⟨cn_X12.1, cn_X12.2, pd__IZ_I⟩, by decide⟩, (pm_it8 86 rfl (by decide +kernel)), (pm_it8 87 rfl (by decide +kernel))⟩
theorem lkL_154 (M : pm_M) (h : M.1.cls = RL) : pm_lk M 154 mX11_promise := Or.inl (by rw [h]; exact (pm_it5 68 rfl (by decide +kernel)))
theorem okV_X11_promise : pm_mokV mX11_promise 4 := ⟨⟨⟨(pm_it5 71 rfl (by decide +kernel)), (pm_it1 1 rfl (by decide +kernel))⟩, ⟨cn_X11.1, cn_X11.2, pd__IIIZ_I⟩, by decide⟩, (pm_it5 69 rfl (by decide +kernel)), (pm_it5 70 rfl (by decide +kernel))⟩
theorem lkL_158 (M : pm_M) (h : M.1.cls = RL) : pm_lk M 158 mX12_promise := Or.inl (by rw [h]; exact (pm_it8 93 rfl (by decide +kernel)))
theorem okV_X12_promise : pm_mokV mX12_promise 4 := ⟨⟨⟨(pm_it8 96 rfl (by decide +kernel)), (pm_it1 15 rfl (by decide +kernel))⟩, ⟨cn_X12.1, cn_X12.2, pd__IIIZ_I⟩, by decide⟩, (pm_it8 94 rfl (by decide +kernel)), (pm_it8 95 rfl (by decide +kernel))⟩
theorem lkL_159 (M : pm_M) (h : M.1.cls = RL) : pm_lk M 159 mX11_breaks := Or.inl (by rw [h]; exact (pm_it5 77 rfl (by decide +kernel)))
theorem okV_X11_breaks : pm_mokV mX11_breaks 1 := ⟨⟨⟨(pm_it5 80 rfl (by decide +kernel)), (pm_it1 1 rfl (by decide +kernel))⟩, ⟨cn_X11.1, cn_X11.2, pd__I_I⟩, by decide⟩, (pm_it5 78 rfl (by decide +kernel)), (pm_it5 79 rfl (by decide +kernel))⟩
theorem lkL_162 (M : pm_M) (h : M.1.cls = RL) : pm_lk M 162 mX12_breaks := Or.inl (by rw [h]; exact (pm_it8 97 rfl (by decide +kernel)))
theorem okV_X12_breaks : pm_mokV mX12_breaks 1 := ⟨⟨⟨(pm_it8 100 rfl (by decide +kernel)), (pm_it1 15 rfl (by decide +kernel))⟩, ⟨cn_X12.1, cn_X12.2, pd__I_I⟩, by decide⟩, (pm_it8 98 rfl (by decide +kernel)), (pm_it8 99 rfl (by decide +kernel))⟩
theorem lkL_163 (M : pm_M) (h : M.1.cls = RL) : pm_lk M 163 mX11_cause := Or.inl (by rw [h]; exact (pm_it5 82 rfl (by decide +kernel)))
theorem okV_X11_cause : pm_mokV mX11_cause 2 := ⟨⟨⟨(pm_it5 85 rfl (by decide +kernel)), (pm_it1 1 rfl (by decide +kernel))⟩, ⟨cn_X11.1, cn_X11.2, pd__II_I⟩, by decide⟩, (pm_it5 83 rfl (by decide +kernel)), (pm_it5 84 rfl (by decide +kernel))⟩
theorem lkL_166 (M : pm_M) (h : M.1.cls = RL) : pm_lk M 166 mX12_cause := Or.inl (by rw [h]; exact (pm_it8 101 rfl (by decide +kernel)))
theorem okV_X12_cause : pm_mokV mX12_cause 2 := ⟨⟨⟨(pm_it8 104 rfl (by decide +kernel)), (pm_it1 15 rfl (by decide +kernel))⟩, ⟨cn_X12.1, cn_X12.2, pd__II_I⟩, by decide⟩, (pm_it8 102 rfl (by decide +kernel)), (pm_it8 103 rfl (by decide +kernel))⟩
theorem lkL_167 (M : pm_M) (h : M.1.cls = RL) : pm_lk M 167 mX11_price := Or.inl (by rw [h]; exact (pm_it5 119 rfl (by decide +kernel)))
theorem okV_X11_price : pm_mokV mX11_price 2 := ⟨⟨⟨(pm_it5 122 rfl (by decide +kernel)), (pm_it1 1 rfl (by decide +kernel))⟩, ⟨cn_X11.1, cn_X11.2, pd__II_I⟩, by decide⟩, (pm_it5 120 rfl (by decide +kernel)), (pm_it5 121 rfl (by decide +kernel))⟩
theorem lkL_170 (M : pm_M) (h : M.1.cls = RL) : pm_lk M 170 mX12_price := Or.inl (by rw [h]; exact (pm_it8 113 rfl (by decide +kernel)))
theorem okV_X12_price : pm_mokV mX12_price 2 := ⟨⟨⟨(pm_it8 116 rfl (by decide +kernel)), (pm_it1 15 rfl (by decide +kernel))⟩, ⟨cn_X12.1, cn_X12.2, pd__II_I⟩, by decide⟩, (pm_it8 114 rfl (by decide +kernel)), (pm_it8 115 rfl (by decide +kernel))⟩
theorem lkL_171 (M : pm_M) (h : M.1.cls = RL) : pm_lk M 171 mX11_buying := Or.inl (by rw [h]; exact (pm_it5 123 rfl (by decide +kernel)))
theorem okV_X11_buying : pm_mokV mX11_buying 2 := ⟨⟨⟨(pm_it5 126 rfl (by decide +kernel)), (pm_it1 1 rfl (by decide +kernel))⟩, ⟨cn_X11.1, cn_X11.2, pd__II_I⟩, by decide⟩, (pm_it5 124 rfl (by decide +kernel)), (pm_it5 125 rfl (by decide +kernel))⟩
theorem lkL_174 (M : pm_M) (h : M.1.cls = RL) : pm_lk M 174 mX12_buying := Or.inl (by rw [h]; exact (pm_it8 117 rfl (by decide +kernel)))
theorem okV_X12_buying : pm_mokV mX12_buying 2 := ⟨⟨⟨(pm_it8 120 rfl (by decide +kernel)), (pm_it1 15 rfl (by decide +kernel))⟩, ⟨cn_X12.1, cn_X12.2, pd__II_I⟩, by decide⟩, (pm_it8 118 rfl (by decide +kernel)), (pm_it8 119 rfl (by decide +kernel))⟩
theorem lkL_175 (M : pm_M) (h : M.1.cls = RL) : pm_lk M 175 mX11_guard := Or.inl (by rw [h]; exact (pm_it5 144 rfl (by decide +kernel)))
theorem okV_X11_guard : pm_mokV mX11_guard 2 := ⟨⟨⟨(pm_it5 147 rfl (by decide +kernel)), (pm_it1 1 rfl (by decide +kernel))⟩, ⟨cn_X11.1, cn_X11.2, pd__II_I⟩, by decide⟩, (pm_it5 145 rfl (by decide +kernel)), (pm_it5 146 rfl (by decide +kernel))⟩
theorem lkL_178 (M : pm_M) (h : M.1.cls = RL) : pm_lk M 178 mX12_guard := Or.inl (by rw [h]; exact (pm_it8 121 rfl (by decide +kernel)))
theorem okV_X12_guard : pm_mokV mX12_guard 2 := ⟨⟨⟨(pm_it8 124 rfl (by decide +kernel)), (pm_it1 15 rfl (by decide +kernel))⟩, ⟨cn_X12.1, cn_X12.2, pd__II_I⟩, by decide⟩, (pm_it8 122 rfl (by decide +kernel)), (pm_it8 123 rfl (by decide +kernel))⟩
theorem lkL_179 (M : pm_M) (h : M.1.cls = RL) : pm_lk M 179 mX11_night := Or.inl (by rw [h]; exact (pm_it5 148 rfl (by decide +kernel)))
theorem okV_X11_night : pm_mokV mX11_night 4 := ⟨⟨⟨(pm_it5 151 rfl (by decide +kernel)), (pm_it1 1 rfl (by decide +kernel))⟩, ⟨cn_X11.1, cn_X11.2, pd__IIII_I⟩, by decide⟩, (pm_it5 149 rfl (by decide +kernel)), (pm_it5 150 rfl (by decide +kernel))⟩
theorem lkL_182 (M : pm_M) (h : M.1.cls = RL) : pm_lk M 182 mX12_night := Or.inl (by rw [h]; exact (pm_it8 125 rfl (by decide +kernel)))
theorem okV_X12_night : pm_mokV mX12_night 4 := ⟨⟨⟨(pm_it8 128 rfl (by decide +kernel)), (pm_it1 15 rfl (by decide +kernel))⟩, ⟨cn_X12.1, cn_X12.2, pd__IIII_I⟩, by decide⟩, (pm_it8 126 rfl (by decide +kernel)), (pm_it8 127 rfl (by decide +kernel))⟩
theorem lkL_183 (M : pm_M) (h : M.1.cls = RL) : pm_lk M 183 mX11_heir := Or.inl (by rw [h]; exact (pm_it5 181 rfl (by decide +kernel)))
theorem okV_X11_heir : pm_mokV mX11_heir 1 := ⟨⟨⟨(pm_it5 184 rfl (by decide +kernel)), (pm_it1 1 rfl (by decide +kernel))⟩, ⟨cn_X11.1, cn_X11.2, pd__I_I⟩, by decide⟩, (pm_it5 182 rfl (by decide +kernel)), (pm_it5 183 rfl (by decide +kernel))⟩
theorem lkL_186 (M : pm_M) (h : M.1.cls = RL) : pm_lk M 186 mX12_heir := Or.inl (by rw [h]; exact (pm_it8 144 rfl (by decide +kernel)))
theorem okV_X12_heir : pm_mokV mX12_heir 1 := ⟨⟨⟨(pm_it8 147 rfl (by decide +kernel)), (pm_it1 15 rfl (by decide +kernel))⟩, ⟨cn_X12.1, cn_X12.2, pd__I_I⟩, by decide⟩, (pm_it8 145 rfl (by decide +kernel)), (pm_it8 146 rfl (by decide +kernel))⟩
theorem lkL_187 (M : pm_M) (h : M.1.cls = RL) : pm_lk M 187 mX11_age := Or.inl (by rw [h]; exact (pm_it5 210 rfl (by decide +kernel)))
theorem okV_X11_age : pm_mokV mX11_age 0 := ⟨⟨⟨(pm_it5 213 rfl (by decide +kernel)), (pm_it1 1 rfl (by decide +kernel))⟩, ⟨cn_X11.1, cn_X11.2, pd___I⟩, by decide⟩, (pm_it5 211 rfl (by decide +kernel)), (pm_it5 212 rfl (by decide +kernel))⟩
theorem lkL_190 (M : pm_M) (h : M.1.cls = RL) : pm_lk M 190 mX12_age := Or.inl (by rw [h]; exact (pm_it8 148 rfl (by decide +kernel)))
theorem okV_X12_age : pm_mokV mX12_age 0 := ⟨⟨⟨(pm_it8 151 rfl (by decide +kernel)), (pm_it1 15 rfl (by decide +kernel))⟩, ⟨cn_X12.1, cn_X12.2, pd___I⟩, by decide⟩, (pm_it8 149 rfl (by decide +kernel)), (pm_it8 150 rfl (by decide +kernel))⟩
theorem lkL_191 (M : pm_M) (h : M.1.cls = RL) : pm_lk M 191 mX11_after := Or.inl (by rw [h]; exact (pm_it5 229 rfl (by decide +kernel)))
theorem okV_X11_after : pm_mokV mX11_after 1 := ⟨⟨⟨(pm_it5 232 rfl (by decide +kernel)), (pm_it1 1 rfl (by decide +kernel))⟩, ⟨cn_X11.1, cn_X11.2, pd__I_I⟩, by decide⟩, (pm_it5 230 rfl (by decide +kernel)), (pm_it5 231 rfl (by decide +kernel))⟩
theorem lkL_194 (M : pm_M) (h : M.1.cls = RL) : pm_lk M 194 mX12_after := Or.inl (by rw [h]; exact (pm_it8 156 rfl (by decide +kernel)))
theorem okV_X12_after : pm_mokV mX12_after 1 := ⟨⟨⟨(pm_it8 159 rfl (by decide +kernel)), (pm_it1 15 rfl (by decide +kernel))⟩, ⟨cn_X12.1, cn_X12.2, pd__I_I⟩, by decide⟩, (pm_it8 157 rfl (by decide +kernel)), (pm_it8 158 rfl (by decide +kernel))⟩
theorem lkL_195 (M : pm_M) (h : M.1.cls = RL) : pm_lk M 195 mX11_plan := Or.inl (by rw [h]; exact (pm_it5 238 rfl (by decide +kernel)))
theorem okV_X11_plan : pm_mokV mX11_plan 2 := ⟨⟨⟨(pm_it6 1 rfl (by decide +kernel)), (pm_it1 1 rfl (by decide +kernel))⟩, ⟨cn_X11.1, cn_X11.2, pd__II_I⟩, by decide⟩, (pm_it5 239 rfl (by decide +kernel)), (pm_it6 0 rfl (by decide +kernel))⟩
theorem lkL_198 (M : pm_M) (h : M.1.cls = RL) : pm_lk M 198 mX12_plan := Or.inl (by rw [h]; exact (pm_it8 160 rfl (by decide +kernel)))
theorem okV_X12_plan : pm_mokV mX12_plan 2 := ⟨⟨⟨(pm_it8 163 rfl (by decide +kernel)), (pm_it1 15 rfl (by decide +kernel))⟩, ⟨cn_X12.1, cn_X12.2, pd__II_I⟩, by decide⟩, (pm_it8 161 rfl (by decide +kernel)), (pm_it8 162 rfl (by decide +kernel))⟩
theorem lkL_199 (M : pm_M) (h : M.1.cls = RL) : pm_lk M 199 mX11_voice := Or.inl (by rw [h]; exact (pm_it6 33 rfl (by decide +kernel)))
theorem okV_X11_voice : pm_mokV mX11_voice 3 := ⟨⟨⟨(pm_it6 36 rfl (by decide +kernel)), (pm_it1 1 rfl (by decide +kernel))⟩, ⟨cn_X11.1, cn_X11.2, pd__III_I⟩, by decide⟩, (pm_it6 34 rfl (by decide +kernel)), (pm_it6 35 rfl (by decide +kernel))⟩
theorem lkL_202 (M : pm_M) (h : M.1.cls = RL) : pm_lk M 202 mX12_voice := Or.inl (by rw [h]; exact (pm_it8 168 rfl (by decide +kernel)))
theorem okV_X12_voice : pm_mokV mX12_voice 3 := ⟨⟨⟨(pm_it8 171 rfl (by decide +kernel)), (pm_it1 15 rfl (by decide +kernel))⟩, ⟨cn_X12.1, cn_X12.2, pd__III_I⟩, by decide⟩, (pm_it8 169 rfl (by decide +kernel)), (pm_it8 170 rfl (by decide +kernel))⟩
theorem lkL_203 (M : pm_M) (h : M.1.cls = RL) : pm_lk M 203 mX11_trace := Or.inl (by rw [h]; exact (pm_it6 65 rfl (by decide +kernel)))
theorem okV_X11_trace : pm_mokV mX11_trace 1 := ⟨⟨⟨(pm_it6 68 rfl (by decide +kernel)), (pm_it1 1 rfl (by decide +kernel))⟩, ⟨cn_X11.1, cn_X11.2, pd__I_I⟩, by decide⟩, (pm_it6 66 rfl (by decide +kernel)), (pm_it6 67 rfl (by decide +kernel))⟩
theorem lkL_206 (M : pm_M) (h : M.1.cls = RL) : pm_lk M 206 mX12_trace := Or.inl (by rw [h]; exact (pm_it8 216 rfl (by decide +kernel)))
theorem okV_X12_trace : pm_mokV mX12_trace 1 := ⟨⟨⟨(pm_it8 219 rfl (by decide +kernel)), (pm_it1 15 rfl (by decide +kernel))⟩, ⟨cn_X12.1, cn_X12.2, pd__I_I⟩, by decide⟩, (pm_it8 217 rfl (by decide +kernel)), (pm_it8 218 rfl (by decide +kernel))⟩
theorem lkL_207 (M : pm_M) (h : M.1.cls = RL) : pm_lk M 207 mX11_sheet := Or.inl (by rw [h]; exact (pm_it6 73 rfl (by decide +kernel)))
theorem okV_X11_sheet : pm_mokV mX11_sheet 3 := ⟨⟨⟨(pm_it6 76 rfl (by decide +kernel)), (pm_it1 1 rfl (by decide +kernel))⟩, ⟨cn_X11.1, cn_X11.2, pd__III_I⟩, by decide⟩, (pm_it6 74 rfl (by decide +kernel)), (pm_it6 75 rfl (by decide +kernel))⟩
theorem lkL_210 (M : pm_M) (h : M.1.cls = RL) : pm_lk M 210 mX12_sheet := Or.inl (by rw [h]; exact (pm_it8 220 rfl (by decide +kernel)))
theorem okV_X12_sheet : pm_mokV mX12_sheet 3 := ⟨⟨⟨(pm_it8 223 rfl (by decide +kernel)), (pm_it1 15 rfl (by decide +kernel))⟩, ⟨cn_X12.1, cn_X12.2, pd__III_I⟩, by decide⟩, (pm_it8 221 rfl (by decide +kernel)), (pm_it8 222 rfl (by decide +kernel))⟩
theorem lkL_211 (M : pm_M) (h : M.1.cls = RL) : pm_lk M 211 mX11_put := Or.inl (by rw [h]; exact (pm_it6 82 rfl (by decide +kernel)))
theorem okV_X11_put : pm_mokV mX11_put 3 := ⟨⟨⟨(pm_it6 85 rfl (by decide +kernel)), (pm_it1 1 rfl (by decide +kernel))⟩, ⟨cn_X11.1, cn_X11.2, pd__III_I⟩, by decide⟩, (pm_it6 83 rfl (by decide +kernel)), (pm_it6 84 rfl (by decide +kernel))⟩
theorem lkL_214 (M : pm_M) (h : M.1.cls = RL) : pm_lk M 214 mX12_put := Or.inl (by rw [h]; exact (pm_it8 224 rfl (by decide +kernel)))
theorem okV_X12_put : pm_mokV mX12_put 3 := ⟨⟨⟨(pm_it8 227 rfl (by decide +kernel)), (pm_it1 15 rfl (by decide +kernel))⟩, ⟨cn_X12.1, cn_X12.2, pd__III_I⟩, by decide⟩, (pm_it8 225 rfl (by decide +kernel)), (pm_it8 226 rfl (by decide +kernel))⟩
theorem lkL_215 (M : pm_M) (h : M.1.cls = RL) : pm_lk M 215 mX11_move := Or.inl (by rw [h]; exact (pm_it6 90 rfl (by decide +kernel)))
theorem okV_X11_move : pm_mokV mX11_move 5 := ⟨⟨⟨(pm_it6 93 rfl (by decide +kernel)), (pm_it1 1 rfl (by decide +kernel))⟩, ⟨cn_X11.1, cn_X11.2, pd__IIIII_I⟩, by decide⟩, (pm_it6 91 rfl (by decide +kernel)), (pm_it6 92 rfl (by decide +kernel))⟩
theorem lkL_219 (M : pm_M) (h : M.1.cls = RL) : pm_lk M 219 mX12_move := Or.inl (by rw [h]; exact (pm_it8 228 rfl (by decide +kernel)))
theorem okV_X12_move : pm_mokV mX12_move 5 := ⟨⟨⟨(pm_it8 231 rfl (by decide +kernel)), (pm_it1 15 rfl (by decide +kernel))⟩, ⟨cn_X12.1, cn_X12.2, pd__IIIII_I⟩, by decide⟩, (pm_it8 229 rfl (by decide +kernel)), (pm_it8 230 rfl (by decide +kernel))⟩
theorem lkL_220 (M : pm_M) (h : M.1.cls = RL) : pm_lk M 220 mX11_image := Or.inl (by rw [h]; exact (pm_it6 109 rfl (by decide +kernel)))
theorem okV_X11_image : pm_mokV mX11_image 0 := ⟨⟨⟨(pm_it6 112 rfl (by decide +kernel)), (pm_it1 1 rfl (by decide +kernel))⟩, ⟨cn_X11.1, cn_X11.2, pd___I⟩, by decide⟩, (pm_it6 110 rfl (by decide +kernel)), (pm_it6 111 rfl (by decide +kernel))⟩
theorem lkL_223 (M : pm_M) (h : M.1.cls = RL) : pm_lk M 223 mX12_image := Or.inl (by rw [h]; exact (pm_it8 232 rfl (by decide +kernel)))
theorem okV_X12_image : pm_mokV mX12_image 0 := ⟨⟨⟨(pm_it8 235 rfl (by decide +kernel)), (pm_it1 15 rfl (by decide +kernel))⟩, ⟨cn_X12.1, cn_X12.2, pd___I⟩, by decide⟩, (pm_it8 233 rfl (by decide +kernel)), (pm_it8 234 rfl (by decide +kernel))⟩
theorem lkL_224 (M : pm_M) (h : M.1.cls = RL) : pm_lk M 224 mX11_restore := Or.inl (by rw [h]; exact (pm_it6 121 rfl (by decide +kernel)))
theorem okV_X11_restore : pm_mokV mX11_restore 0 := ⟨⟨⟨(pm_it6 124 rfl (by decide +kernel)), (pm_it1 1 rfl (by decide +kernel))⟩, ⟨cn_X11.1, cn_X11.2, pd___I⟩, by decide⟩, (pm_it6 122 rfl (by decide +kernel)), (pm_it6 123 rfl (by decide +kernel))⟩
theorem lkL_227 (M : pm_M) (h : M.1.cls = RL) : pm_lk M 227 mX12_restore := Or.inl (by rw [h]; exact (pm_it8 236 rfl (by decide +kernel)))
theorem okV_X12_restore : pm_mokV mX12_restore 0 := ⟨⟨⟨(pm_it8 239 rfl (by decide +kernel)), (pm_it1 15 rfl (by decide +kernel))⟩, ⟨cn_X12.1, cn_X12.2, pd___I⟩, by decide⟩, (pm_it8 237 rfl (by decide +kernel)), (pm_it8 238 rfl (by decide +kernel))⟩
theorem lkL_228 (M : pm_M) (h : M.1.cls = RL) : pm_lk M 228 mX11_tell := Or.inl (by rw [h]; exact (pm_it6 125 rfl (by decide +kernel)))
theorem okV_X11_tell : pm_mokV mX11_tell 1 := ⟨⟨⟨(pm_it6 128 rfl (by decide +kernel)), (pm_it1 1 rfl (by decide +kernel))⟩, ⟨cn_X11.1, cn_X11.2, pd__I_I⟩, by decide⟩, (pm_it6 126 rfl (by decide +kernel)), (pm_it6 127 rfl (by decide +kernel))⟩
theorem lkL_231 (M : pm_M) (h : M.1.cls = RL) : pm_lk M 231 mX12_tell := Or.inl (by rw [h]; exact (pm_it9 0 rfl (by decide +kernel)))
theorem okV_X12_tell : pm_mokV mX12_tell 1 := ⟨⟨⟨(pm_it9 3 rfl (by decide +kernel)), (pm_it1 15 rfl (by decide +kernel))⟩, ⟨cn_X12.1, cn_X12.2, pd__I_I⟩, by decide⟩, (pm_it9 1 rfl (by decide +kernel)), (pm_it9 2 rfl (by decide +kernel))⟩
theorem lkL_232 (M : pm_M) (h : M.1.cls = RL) : pm_lk M 232 mX11_check := Or.inl (by rw [h]; exact (pm_it6 129 rfl (by decide +kernel)))
theorem okV_X11_check : pm_mokV mX11_check 0 := ⟨⟨⟨(pm_it6 132 rfl (by decide +kernel)), (pm_it1 1 rfl (by decide +kernel))⟩, ⟨cn_X11.1, cn_X11.2, pd___I⟩, by decide⟩, (pm_it6 130 rfl (by decide +kernel)), (pm_it6 131 rfl (by decide +kernel))⟩
theorem lkL_235 (M : pm_M) (h : M.1.cls = RL) : pm_lk M 235 mX12_check := Or.inl (by rw [h]; exact (pm_it9 4 rfl (by decide +kernel)))
theorem okV_X12_check : pm_mokV mX12_check 0 := ⟨⟨⟨(pm_it9 7 rfl (by decide +kernel)), (pm_it1 15 rfl (by decide +kernel))⟩, ⟨cn_X12.1, cn_X12.2, pd___I⟩, by decide⟩, (pm_it9 5 rfl (by decide +kernel)), (pm_it9 6 rfl (by decide +kernel))⟩
theorem lkL_236 (M : pm_M) (h : M.1.cls = RL) : pm_lk M 236 mX11_count := Or.inl (by rw [h]; exact (pm_it6 138 rfl (by decide +kernel)))
theorem okV_X11_count : pm_mokV mX11_count 1 := ⟨⟨⟨(pm_it6 141 rfl (by decide +kernel)), (pm_it1 1 rfl (by decide +kernel))⟩, ⟨cn_X11.1, cn_X11.2, pd__I_I⟩, by decide⟩, (pm_it6 139 rfl (by decide +kernel)), (pm_it6 140 rfl (by decide +kernel))⟩
theorem lkL_239 (M : pm_M) (h : M.1.cls = RL) : pm_lk M 239 mX12_count := Or.inl (by rw [h]; exact (pm_it9 8 rfl (by decide +kernel)))
theorem okV_X12_count : pm_mokV mX12_count 1 := ⟨⟨⟨(pm_it9 11 rfl (by decide +kernel)), (pm_it1 15 rfl (by decide +kernel))⟩, ⟨cn_X12.1, cn_X12.2, pd__I_I⟩, by decide⟩, (pm_it9 9 rfl (by decide +kernel)), (pm_it9 10 rfl (by decide +kernel))⟩
theorem lkL_240 (M : pm_M) (h : M.1.cls = RL) : pm_lk M 240 mX11_found := Or.inl (by rw [h]; exact (pm_it6 150 rfl (by decide +kernel)))
theorem okV_X11_found : pm_mokV mX11_found 1 := ⟨⟨⟨(pm_it6 153 rfl (by decide +kernel)), (pm_it1 1 rfl (by decide +kernel))⟩, ⟨cn_X11.1, cn_X11.2, pd__I_I⟩, by decide⟩, (pm_it6 151 rfl (by decide +kernel)), (pm_it6 152 rfl (by decide +kernel))⟩
theorem lkL_243 (M : pm_M) (h : M.1.cls = RL) : pm_lk M 243 mX12_found := Or.inl (by rw [h]; exact (pm_it9 12 rfl (by decide +kernel)))
theorem okV_X12_found : pm_mokV mX12_found 1 := ⟨⟨⟨(pm_it9 15 rfl (by decide +kernel)), (pm_it1 15 rfl (by decide +kernel))⟩, ⟨cn_X12.1, cn_X12.2, pd__I_I⟩, by decide⟩, (pm_it9 13 rfl (by decide +kernel)), (pm_it9 14 rfl (by decide +kernel))⟩
theorem nwL_7 (M : pm_M) (h : M.1.cls = RL) : pm_nw M 7 11 [.null, .null, .null, .null, .null, .null, .null, .null, .null, .null, .null, .int 0] := by
  refine ⟨RX11, TX11, 12, tyX11, rfl, rfl, tyX11_ok, ?_, by rw [h]; exact (pm_it1 23 rfl (by decide +kernel)), (pm_it1 24 rfl (by decide +kernel)), (pm_it1 1 rfl (by decide +kernel))⟩
  exact fun k hk => by
    match k, hk with
    | 0, _ => rfl
    | 1, _ => rfl
    | 2, _ => rfl
    | 3, _ => rfl
    | 4, _ => rfl
    | 5, _ => rfl
    | 6, _ => rfl
    | 7, _ => rfl
    | 8, _ => rfl
    | 9, _ => rfl
    | 10, _ => rfl
    | 11, _ => rfl
    | k + 12, hk => omega
theorem nwL_10 (M : pm_M) (h : M.1.cls = RL) : pm_nw M 10 12 [.null, .null, .null, .int 0, .null, .null, .null, .null, .null, .null, .int 0, .int 0, .int 0, .null, .null, .null, .null, .null, .int 0, .int 0, .int 0, .null, .int 0, .null, .null, .null, .null] := by
  refine ⟨RX12, TX12, 27, tyX12, rfl, rfl, tyX12_ok, ?_, by rw [h]; exact (pm_it6 154 rfl (by decide +kernel)), (pm_it6 155 rfl (by decide +kernel)), (pm_it1 15 rfl (by decide +kernel))⟩
  exact fun k hk => by
    match k, hk with
    | 0, _ => rfl
    | 1, _ => rfl
    | 2, _ => rfl
    | 3, _ => rfl
    | 4, _ => rfl
    | 5, _ => rfl
    | 6, _ => rfl
    | 7, _ => rfl
    | 8, _ => rfl
    | 9, _ => rfl
    | 10, _ => rfl
    | 11, _ => rfl
    | 12, _ => rfl
    | 13, _ => rfl
    | 14, _ => rfl
    | 15, _ => rfl
    | 16, _ => rfl
    | 17, _ => rfl
    | 18, _ => rfl
    | 19, _ => rfl
    | 20, _ => rfl
    | 21, _ => rfl
    | 22, _ => rfl
    | 23, _ => rfl
    | 24, _ => rfl
    | 25, _ => rfl
    | 26, _ => rfl
    | k + 27, hk => omega
theorem lkL_9 (M : pm_M) (h : M.1.cls = RL) : pm_lk M 9 mX11_init := Or.inl (by rw [h]; exact (pm_it1 25 rfl (by decide +kernel)))
theorem lkL_12 (M : pm_M) (h : M.1.cls = RL) : pm_lk M 12 mX12_init := Or.inl (by rw [h]; exact (pm_it6 156 rfl (by decide +kernel)))
theorem okI_X11_init : pm_mokI mX11_init 0 := ⟨⟨⟨(pm_it1 27 rfl (by decide +kernel)), (pm_it1 1 rfl (by decide +kernel))⟩, ⟨cn_X11.1, cn_X11.2, pd___V⟩, by decide⟩, rfl, (pm_it1 26 rfl (by decide +kernel)), rfl⟩
theorem okI_X12_init : pm_mokI mX12_init 0 := ⟨⟨⟨(pm_it6 158 rfl (by decide +kernel)), (pm_it1 15 rfl (by decide +kernel))⟩, ⟨cn_X12.1, cn_X12.2, pd___V⟩, by decide⟩, rfl, (pm_it6 157 rfl (by decide +kernel)), rfl⟩
