def dt_X9_has_0 : Nat := 0xac030400a7040700a21d00b42a1b0f009b1b
theorem dk_X9_has_0 : dCh (mX9_has.2.1) 0 18 dt_X9_has_0 := by decide +kernel
theorem dX9_has_0 : pm_dec mX9_has 0 (.iload_n 1, 1) 1 := ⟨dn_27 dk_X9_has_0 0 rfl rfl, rfl⟩
theorem dX9_has_1 : pm_dec mX9_has 1 (.ifCond .lt 15, 3) 4 := ⟨dn_155 dk_X9_has_0 1 rfl rfl rfl, rfl⟩
theorem dX9_has_4 : pm_dec mX9_has 4 (.iload_n 1, 1) 5 := ⟨dn_27 dk_X9_has_0 4 rfl rfl, rfl⟩
theorem dX9_has_5 : pm_dec mX9_has 5 (.aload_n 0, 1) 6 := ⟨dn_42 dk_X9_has_0 5 rfl rfl, rfl⟩
theorem dX9_has_6 : pm_dec mX9_has 6 (.getfield 29, 3) 9 := ⟨dn_180 dk_X9_has_0 6 rfl rfl rfl, rfl⟩
theorem dX9_has_9 : pm_dec mX9_has 9 (.if_icmp .ge 7, 3) 12 := ⟨dn_162 dk_X9_has_0 9 rfl rfl rfl, rfl⟩
theorem dX9_has_12 : pm_dec mX9_has 12 (.iconst 1, 1) 13 := ⟨dn_4 dk_X9_has_0 12 rfl rfl, rfl⟩
theorem dX9_has_13 : pm_dec mX9_has 13 (.goto 4, 3) 16 := ⟨dn_167 dk_X9_has_0 13 rfl rfl rfl, rfl⟩
theorem dX9_has_16 : pm_dec mX9_has 16 (.iconst 0, 1) 17 := ⟨dn_3 dk_X9_has_0 16 rfl rfl, rfl⟩
theorem dX9_has_17 : pm_dec mX9_has 17 (.ireturn, 1) 18 := ⟨dn_172 dk_X9_has_0 17 rfl rfl, rfl⟩
def dt_X9_used_0 : Nat := 0xac1d00b42a
theorem dk_X9_used_0 : dCh (mX9_used.2.1) 0 5 dt_X9_used_0 := by decide +kernel
theorem dX9_used_0 : pm_dec mX9_used 0 (.aload_n 0, 1) 1 := ⟨dn_42 dk_X9_used_0 0 rfl rfl, rfl⟩
theorem dX9_used_1 : pm_dec mX9_used 1 (.getfield 29, 3) 4 := ⟨dn_180 dk_X9_used_0 1 rfl rfl rfl, rfl⟩
theorem dX9_used_4 : pm_dec mX9_used 4 (.ireturn, 1) 5 := ⟨dn_172 dk_X9_used_0 4 rfl rfl, rfl⟩
def dt_X9_isFull_0 : Nat := 0xac030400a7040700a11000b42a1d00b42a
theorem dk_X9_isFull_0 : dCh (mX9_isFull.2.1) 0 17 dt_X9_isFull_0 := by decide +kernel
theorem dX9_isFull_0 : pm_dec mX9_isFull 0 (.aload_n 0, 1) 1 := ⟨dn_42 dk_X9_isFull_0 0 rfl rfl, rfl⟩
theorem dX9_isFull_1 : pm_dec mX9_isFull 1 (.getfield 29, 3) 4 := ⟨dn_180 dk_X9_isFull_0 1 rfl rfl rfl, rfl⟩
theorem dX9_isFull_4 : pm_dec mX9_isFull 4 (.aload_n 0, 1) 5 := ⟨dn_42 dk_X9_isFull_0 4 rfl rfl, rfl⟩
theorem dX9_isFull_5 : pm_dec mX9_isFull 5 (.getfield 16, 3) 8 := ⟨dn_180 dk_X9_isFull_0 5 rfl rfl rfl, rfl⟩
theorem dX9_isFull_8 : pm_dec mX9_isFull 8 (.if_icmp .lt 7, 3) 11 := ⟨dn_161 dk_X9_isFull_0 8 rfl rfl rfl, rfl⟩
theorem dX9_isFull_11 : pm_dec mX9_isFull 11 (.iconst 1, 1) 12 := ⟨dn_4 dk_X9_isFull_0 11 rfl rfl, rfl⟩
theorem dX9_isFull_12 : pm_dec mX9_isFull 12 (.goto 4, 3) 15 := ⟨dn_167 dk_X9_isFull_0 12 rfl rfl rfl, rfl⟩
theorem dX9_isFull_15 : pm_dec mX9_isFull 15 (.iconst 0, 1) 16 := ⟨dn_3 dk_X9_isFull_0 15 rfl rfl, rfl⟩
theorem dX9_isFull_16 : pm_dec mX9_isFull 16 (.ireturn, 1) 17 := ⟨dn_172 dk_X9_isFull_0 16 rfl rfl, rfl⟩
def dt_X9_get_0 : Nat := 0xac2e601c681600b42a1b1900b42aac030500a11600b42a1c0b009b1c0f00a21000b42a1b17009b1b
theorem dk_X9_get_0 : dCh (mX9_get.2.1) 0 40 dt_X9_get_0 := by decide +kernel
theorem dX9_get_0 : pm_dec mX9_get 0 (.iload_n 1, 1) 1 := ⟨dn_27 dk_X9_get_0 0 rfl rfl, rfl⟩
theorem dX9_get_1 : pm_dec mX9_get 1 (.ifCond .lt 23, 3) 4 := ⟨dn_155 dk_X9_get_0 1 rfl rfl rfl, rfl⟩
theorem dX9_get_4 : pm_dec mX9_get 4 (.iload_n 1, 1) 5 := ⟨dn_27 dk_X9_get_0 4 rfl rfl, rfl⟩
theorem dX9_get_5 : pm_dec mX9_get 5 (.aload_n 0, 1) 6 := ⟨dn_42 dk_X9_get_0 5 rfl rfl, rfl⟩
theorem dX9_get_6 : pm_dec mX9_get 6 (.getfield 16, 3) 9 := ⟨dn_180 dk_X9_get_0 6 rfl rfl rfl, rfl⟩
theorem dX9_get_9 : pm_dec mX9_get 9 (.if_icmp .ge 15, 3) 12 := ⟨dn_162 dk_X9_get_0 9 rfl rfl rfl, rfl⟩
theorem dX9_get_12 : pm_dec mX9_get 12 (.iload_n 2, 1) 13 := ⟨dn_28 dk_X9_get_0 12 rfl rfl, rfl⟩
theorem dX9_get_13 : pm_dec mX9_get 13 (.ifCond .lt 11, 3) 16 := ⟨dn_155 dk_X9_get_0 13 rfl rfl rfl, rfl⟩
theorem dX9_get_16 : pm_dec mX9_get 16 (.iload_n 2, 1) 17 := ⟨dn_28 dk_X9_get_0 16 rfl rfl, rfl⟩
theorem dX9_get_17 : pm_dec mX9_get 17 (.aload_n 0, 1) 18 := ⟨dn_42 dk_X9_get_0 17 rfl rfl, rfl⟩
theorem dX9_get_18 : pm_dec mX9_get 18 (.getfield 22, 3) 21 := ⟨dn_180 dk_X9_get_0 18 rfl rfl rfl, rfl⟩
theorem dX9_get_21 : pm_dec mX9_get 21 (.if_icmp .lt 5, 3) 24 := ⟨dn_161 dk_X9_get_0 21 rfl rfl rfl, rfl⟩
theorem dX9_get_24 : pm_dec mX9_get 24 (.iconst 0, 1) 25 := ⟨dn_3 dk_X9_get_0 24 rfl rfl, rfl⟩
theorem dX9_get_25 : pm_dec mX9_get 25 (.ireturn, 1) 26 := ⟨dn_172 dk_X9_get_0 25 rfl rfl, rfl⟩
theorem dX9_get_26 : pm_dec mX9_get 26 (.aload_n 0, 1) 27 := ⟨dn_42 dk_X9_get_0 26 rfl rfl, rfl⟩
theorem dX9_get_27 : pm_dec mX9_get 27 (.getfield 25, 3) 30 := ⟨dn_180 dk_X9_get_0 27 rfl rfl rfl, rfl⟩
theorem dX9_get_30 : pm_dec mX9_get 30 (.iload_n 1, 1) 31 := ⟨dn_27 dk_X9_get_0 30 rfl rfl, rfl⟩
theorem dX9_get_31 : pm_dec mX9_get 31 (.aload_n 0, 1) 32 := ⟨dn_42 dk_X9_get_0 31 rfl rfl, rfl⟩
theorem dX9_get_32 : pm_dec mX9_get 32 (.getfield 22, 3) 35 := ⟨dn_180 dk_X9_get_0 32 rfl rfl rfl, rfl⟩
theorem dX9_get_35 : pm_dec mX9_get 35 (.imul, 1) 36 := ⟨dn_104 dk_X9_get_0 35 rfl rfl, rfl⟩
theorem dX9_get_36 : pm_dec mX9_get 36 (.iload_n 2, 1) 37 := ⟨dn_28 dk_X9_get_0 36 rfl rfl, rfl⟩
theorem dX9_get_37 : pm_dec mX9_get 37 (.iadd, 1) 38 := ⟨dn_96 dk_X9_get_0 37 rfl rfl, rfl⟩
theorem dX9_get_38 : pm_dec mX9_get 38 (.iaload, 1) 39 := ⟨dn_46 dk_X9_get_0 38 rfl rfl, rfl⟩
theorem dX9_get_39 : pm_dec mX9_get 39 (.ireturn, 1) 40 := ⟨dn_172 dk_X9_get_0 39 rfl rfl, rfl⟩
def dt_X9_set_0 : Nat := 0xb14f1d601c681600b42a1b1900b42a1100a21600b42a1c19009b1c1d00a21000b42a1b25009b1b
theorem dk_X9_set_0 : dCh (mX9_set.2.1) 0 39 dt_X9_set_0 := by decide +kernel
theorem dX9_set_0 : pm_dec mX9_set 0 (.iload_n 1, 1) 1 := ⟨dn_27 dk_X9_set_0 0 rfl rfl, rfl⟩
theorem dX9_set_1 : pm_dec mX9_set 1 (.ifCond .lt 37, 3) 4 := ⟨dn_155 dk_X9_set_0 1 rfl rfl rfl, rfl⟩
theorem dX9_set_4 : pm_dec mX9_set 4 (.iload_n 1, 1) 5 := ⟨dn_27 dk_X9_set_0 4 rfl rfl, rfl⟩
theorem dX9_set_5 : pm_dec mX9_set 5 (.aload_n 0, 1) 6 := ⟨dn_42 dk_X9_set_0 5 rfl rfl, rfl⟩
theorem dX9_set_6 : pm_dec mX9_set 6 (.getfield 16, 3) 9 := ⟨dn_180 dk_X9_set_0 6 rfl rfl rfl, rfl⟩
theorem dX9_set_9 : pm_dec mX9_set 9 (.if_icmp .ge 29, 3) 12 := ⟨dn_162 dk_X9_set_0 9 rfl rfl rfl, rfl⟩
theorem dX9_set_12 : pm_dec mX9_set 12 (.iload_n 2, 1) 13 := ⟨dn_28 dk_X9_set_0 12 rfl rfl, rfl⟩
theorem dX9_set_13 : pm_dec mX9_set 13 (.ifCond .lt 25, 3) 16 := ⟨dn_155 dk_X9_set_0 13 rfl rfl rfl, rfl⟩
theorem dX9_set_16 : pm_dec mX9_set 16 (.iload_n 2, 1) 17 := ⟨dn_28 dk_X9_set_0 16 rfl rfl, rfl⟩
theorem dX9_set_17 : pm_dec mX9_set 17 (.aload_n 0, 1) 18 := ⟨dn_42 dk_X9_set_0 17 rfl rfl, rfl⟩
theorem dX9_set_18 : pm_dec mX9_set 18 (.getfield 22, 3) 21 := ⟨dn_180 dk_X9_set_0 18 rfl rfl rfl, rfl⟩
theorem dX9_set_21 : pm_dec mX9_set 21 (.if_icmp .ge 17, 3) 24 := ⟨dn_162 dk_X9_set_0 21 rfl rfl rfl, rfl⟩
theorem dX9_set_24 : pm_dec mX9_set 24 (.aload_n 0, 1) 25 := ⟨dn_42 dk_X9_set_0 24 rfl rfl, rfl⟩
theorem dX9_set_25 : pm_dec mX9_set 25 (.getfield 25, 3) 28 := ⟨dn_180 dk_X9_set_0 25 rfl rfl rfl, rfl⟩
theorem dX9_set_28 : pm_dec mX9_set 28 (.iload_n 1, 1) 29 := ⟨dn_27 dk_X9_set_0 28 rfl rfl, rfl⟩
theorem dX9_set_29 : pm_dec mX9_set 29 (.aload_n 0, 1) 30 := ⟨dn_42 dk_X9_set_0 29 rfl rfl, rfl⟩
theorem dX9_set_30 : pm_dec mX9_set 30 (.getfield 22, 3) 33 := ⟨dn_180 dk_X9_set_0 30 rfl rfl rfl, rfl⟩
theorem dX9_set_33 : pm_dec mX9_set 33 (.imul, 1) 34 := ⟨dn_104 dk_X9_set_0 33 rfl rfl, rfl⟩
theorem dX9_set_34 : pm_dec mX9_set 34 (.iload_n 2, 1) 35 := ⟨dn_28 dk_X9_set_0 34 rfl rfl, rfl⟩
theorem dX9_set_35 : pm_dec mX9_set 35 (.iadd, 1) 36 := ⟨dn_96 dk_X9_set_0 35 rfl rfl, rfl⟩
theorem dX9_set_36 : pm_dec mX9_set 36 (.iload_n 3, 1) 37 := ⟨dn_29 dk_X9_set_0 36 rfl rfl, rfl⟩
theorem dX9_set_37 : pm_dec mX9_set 37 (.iastore, 1) 38 := ⟨dn_79 dk_X9_set_0 37 rfl rfl, rfl⟩
theorem dX9_set_38 : pm_dec mX9_set 38 (.return_, 1) 39 := ⟨dn_177 dk_X9_set_0 38 rfl rfl, rfl⟩
def dt_X11_isOutside_0 : Nat := 0xac030400a7040700a41c1a0800a11b1a
theorem dk_X11_isOutside_0 : dCh (mX11_isOutside.2.1) 0 16 dt_X11_isOutside_0 := by decide +kernel
theorem dX11_isOutside_0 : pm_dec mX11_isOutside 0 (.iload_n 0, 1) 1 := ⟨dn_26 dk_X11_isOutside_0 0 rfl rfl, rfl⟩
theorem dX11_isOutside_1 : pm_dec mX11_isOutside 1 (.iload_n 1, 1) 2 := ⟨dn_27 dk_X11_isOutside_0 1 rfl rfl, rfl⟩
theorem dX11_isOutside_2 : pm_dec mX11_isOutside 2 (.if_icmp .lt 8, 3) 5 := ⟨dn_161 dk_X11_isOutside_0 2 rfl rfl rfl, rfl⟩
theorem dX11_isOutside_5 : pm_dec mX11_isOutside 5 (.iload_n 0, 1) 6 := ⟨dn_26 dk_X11_isOutside_0 5 rfl rfl, rfl⟩
theorem dX11_isOutside_6 : pm_dec mX11_isOutside 6 (.iload_n 2, 1) 7 := ⟨dn_28 dk_X11_isOutside_0 6 rfl rfl, rfl⟩
theorem dX11_isOutside_7 : pm_dec mX11_isOutside 7 (.if_icmp .le 7, 3) 10 := ⟨dn_164 dk_X11_isOutside_0 7 rfl rfl rfl, rfl⟩
theorem dX11_isOutside_10 : pm_dec mX11_isOutside 10 (.iconst 1, 1) 11 := ⟨dn_4 dk_X11_isOutside_0 10 rfl rfl, rfl⟩
theorem dX11_isOutside_11 : pm_dec mX11_isOutside 11 (.goto 4, 3) 14 := ⟨dn_167 dk_X11_isOutside_0 11 rfl rfl rfl, rfl⟩
theorem dX11_isOutside_14 : pm_dec mX11_isOutside 14 (.iconst 0, 1) 15 := ⟨dn_3 dk_X11_isOutside_0 14 rfl rfl, rfl⟩
theorem dX11_isOutside_15 : pm_dec mX11_isOutside 15 (.ireturn, 1) 16 := ⟨dn_172 dk_X11_isOutside_0 15 rfl rfl, rfl⟩
def dt_X9_init_0 : Nat := 0xb11900b50abc681600b42a1000b42a2a1600b50d00b80700b864101c042a1000b50d00b80700b864101b032a0100b72a
theorem dk_X9_init_0 : dCh (mX9_init.2.1) 0 48 dt_X9_init_0 := by decide +kernel
theorem dX9_init_0 : pm_dec mX9_init 0 (.aload_n 0, 1) 1 := ⟨dn_42 dk_X9_init_0 0 rfl rfl, rfl⟩
theorem dX9_init_1 : pm_dec mX9_init 1 (.invokespecial 1, 3) 4 := ⟨dn_183 dk_X9_init_0 1 rfl rfl rfl, rfl⟩
theorem dX9_init_4 : pm_dec mX9_init 4 (.aload_n 0, 1) 5 := ⟨dn_42 dk_X9_init_0 4 rfl rfl, rfl⟩
theorem dX9_init_5 : pm_dec mX9_init 5 (.iconst 0, 1) 6 := ⟨dn_3 dk_X9_init_0 5 rfl rfl, rfl⟩
theorem dX9_init_6 : pm_dec mX9_init 6 (.iload_n 1, 1) 7 := ⟨dn_27 dk_X9_init_0 6 rfl rfl, rfl⟩
theorem dX9_init_7 : pm_dec mX9_init 7 (.bipush 100, 2) 9 := ⟨dn_16 dk_X9_init_0 7 rfl rfl rfl, rfl⟩
theorem dX9_init_9 : pm_dec mX9_init 9 (.invokestatic 7, 3) 12 := ⟨dn_184 dk_X9_init_0 9 rfl rfl rfl, rfl⟩
theorem dX9_init_12 : pm_dec mX9_init 12 (.invokestatic 13, 3) 15 := ⟨dn_184 dk_X9_init_0 12 rfl rfl rfl, rfl⟩
theorem dX9_init_15 : pm_dec mX9_init 15 (.putfield 16, 3) 18 := ⟨dn_181 dk_X9_init_0 15 rfl rfl rfl, rfl⟩
theorem dX9_init_18 : pm_dec mX9_init 18 (.aload_n 0, 1) 19 := ⟨dn_42 dk_X9_init_0 18 rfl rfl, rfl⟩
theorem dX9_init_19 : pm_dec mX9_init 19 (.iconst 1, 1) 20 := ⟨dn_4 dk_X9_init_0 19 rfl rfl, rfl⟩
theorem dX9_init_20 : pm_dec mX9_init 20 (.iload_n 2, 1) 21 := ⟨dn_28 dk_X9_init_0 20 rfl rfl, rfl⟩
theorem dX9_init_21 : pm_dec mX9_init 21 (.bipush 100, 2) 23 := ⟨dn_16 dk_X9_init_0 21 rfl rfl rfl, rfl⟩
theorem dX9_init_23 : pm_dec mX9_init 23 (.invokestatic 7, 3) 26 := ⟨dn_184 dk_X9_init_0 23 rfl rfl rfl, rfl⟩
theorem dX9_init_26 : pm_dec mX9_init 26 (.invokestatic 13, 3) 29 := ⟨dn_184 dk_X9_init_0 26 rfl rfl rfl, rfl⟩
theorem dX9_init_29 : pm_dec mX9_init 29 (.putfield 22, 3) 32 := ⟨dn_181 dk_X9_init_0 29 rfl rfl rfl, rfl⟩
theorem dX9_init_32 : pm_dec mX9_init 32 (.aload_n 0, 1) 33 := ⟨dn_42 dk_X9_init_0 32 rfl rfl, rfl⟩
theorem dX9_init_33 : pm_dec mX9_init 33 (.aload_n 0, 1) 34 := ⟨dn_42 dk_X9_init_0 33 rfl rfl, rfl⟩
theorem dX9_init_34 : pm_dec mX9_init 34 (.getfield 16, 3) 37 := ⟨dn_180 dk_X9_init_0 34 rfl rfl rfl, rfl⟩
theorem dX9_init_37 : pm_dec mX9_init 37 (.aload_n 0, 1) 38 := ⟨dn_42 dk_X9_init_0 37 rfl rfl, rfl⟩
theorem dX9_init_38 : pm_dec mX9_init 38 (.getfield 22, 3) 41 := ⟨dn_180 dk_X9_init_0 38 rfl rfl rfl, rfl⟩
theorem dX9_init_41 : pm_dec mX9_init 41 (.imul, 1) 42 := ⟨dn_104 dk_X9_init_0 41 rfl rfl, rfl⟩
theorem dX9_init_42 : pm_dec mX9_init 42 (.newarray .int, 2) 44 := ⟨dn_188 dk_X9_init_0 42 rfl rfl rfl, rfl⟩
theorem dX9_init_44 : pm_dec mX9_init 44 (.putfield 25, 3) 47 := ⟨dn_181 dk_X9_init_0 44 rfl rfl rfl, rfl⟩
theorem dX9_init_47 : pm_dec mX9_init 47 (.return_, 1) 48 := ⟨dn_177 dk_X9_init_0 47 rfl rfl, rfl⟩
def dt_J7_fill_53178_0 : Nat := 0xb1f4ffa70102844f1b1c2a0d00a21d1c3ebe2a3d03
theorem dk_J7_fill_53178_0 : dCh (mJ7_fill_53178.2.1) 0 21 dt_J7_fill_53178_0 := by decide +kernel
theorem dJ7_fill_53178_0 : pm_dec mJ7_fill_53178 0 (.iconst 0, 1) 1 := ⟨dn_3 dk_J7_fill_53178_0 0 rfl rfl, rfl⟩
theorem dJ7_fill_53178_1 : pm_dec mJ7_fill_53178 1 (.istore_n 2, 1) 2 := ⟨dn_61 dk_J7_fill_53178_0 1 rfl rfl, rfl⟩
theorem dJ7_fill_53178_2 : pm_dec mJ7_fill_53178 2 (.aload_n 0, 1) 3 := ⟨dn_42 dk_J7_fill_53178_0 2 rfl rfl, rfl⟩
theorem dJ7_fill_53178_3 : pm_dec mJ7_fill_53178 3 (.arraylength, 1) 4 := ⟨dn_190 dk_J7_fill_53178_0 3 rfl rfl, rfl⟩
theorem dJ7_fill_53178_4 : pm_dec mJ7_fill_53178 4 (.istore_n 3, 1) 5 := ⟨dn_62 dk_J7_fill_53178_0 4 rfl rfl, rfl⟩
theorem dJ7_fill_53178_5 : pm_dec mJ7_fill_53178 5 (.iload_n 2, 1) 6 := ⟨dn_28 dk_J7_fill_53178_0 5 rfl rfl, rfl⟩
theorem dJ7_fill_53178_6 : pm_dec mJ7_fill_53178 6 (.iload_n 3, 1) 7 := ⟨dn_29 dk_J7_fill_53178_0 6 rfl rfl, rfl⟩
theorem dJ7_fill_53178_7 : pm_dec mJ7_fill_53178 7 (.if_icmp .ge 13, 3) 10 := ⟨dn_162 dk_J7_fill_53178_0 7 rfl rfl rfl, rfl⟩
theorem dJ7_fill_53178_10 : pm_dec mJ7_fill_53178 10 (.aload_n 0, 1) 11 := ⟨dn_42 dk_J7_fill_53178_0 10 rfl rfl, rfl⟩
theorem dJ7_fill_53178_11 : pm_dec mJ7_fill_53178 11 (.iload_n 2, 1) 12 := ⟨dn_28 dk_J7_fill_53178_0 11 rfl rfl, rfl⟩
theorem dJ7_fill_53178_12 : pm_dec mJ7_fill_53178 12 (.iload_n 1, 1) 13 := ⟨dn_27 dk_J7_fill_53178_0 12 rfl rfl, rfl⟩
theorem dJ7_fill_53178_13 : pm_dec mJ7_fill_53178 13 (.iastore, 1) 14 := ⟨dn_79 dk_J7_fill_53178_0 13 rfl rfl, rfl⟩
theorem dJ7_fill_53178_14 : pm_dec mJ7_fill_53178 14 (.iinc 2 1, 3) 17 := ⟨dn_132 dk_J7_fill_53178_0 14 rfl rfl rfl rfl, rfl⟩
theorem dJ7_fill_53178_17 : pm_dec mJ7_fill_53178 17 (.goto (-12), 3) 20 := ⟨dn_167 dk_J7_fill_53178_0 17 rfl rfl rfl, rfl⟩
theorem dJ7_fill_53178_20 : pm_dec mJ7_fill_53178 20 (.return_, 1) 21 := ⟨dn_177 dk_J7_fill_53178_0 20 rfl rfl, rfl⟩
def dt_X9_fill_0 : Nat := 0xb12b00b81b1900b42a
theorem dk_X9_fill_0 : dCh (mX9_fill.2.1) 0 9 dt_X9_fill_0 := by decide +kernel
theorem dX9_fill_0 : pm_dec mX9_fill 0 (.aload_n 0, 1) 1 := ⟨dn_42 dk_X9_fill_0 0 rfl rfl, rfl⟩
theorem dX9_fill_1 : pm_dec mX9_fill 1 (.getfield 25, 3) 4 := ⟨dn_180 dk_X9_fill_0 1 rfl rfl rfl, rfl⟩
theorem dX9_fill_4 : pm_dec mX9_fill 4 (.iload_n 1, 1) 5 := ⟨dn_27 dk_X9_fill_0 4 rfl rfl, rfl⟩
theorem dX9_fill_5 : pm_dec mX9_fill 5 (.invokestatic 43, 3) 8 := ⟨dn_184 dk_X9_fill_0 5 rfl rfl rfl, rfl⟩
theorem dX9_fill_8 : pm_dec mX9_fill 8 (.return_, 1) 9 := ⟨dn_177 dk_X9_fill_0 8 rfl rfl, rfl⟩
def dt_X7_init_0 : Nat := 0x1700b50b00b70e101410590900bb2a1400b50b00b70a100a10590900bb2a0e00b50b00b7060a10590900bb2a0300b72a
theorem dk_X7_init_0 : dCh (mX7_init.2.1) 0 48 dt_X7_init_0 := by decide +kernel
theorem dX7_init_0 : pm_dec mX7_init 0 (.aload_n 0, 1) 1 := ⟨dn_42 dk_X7_init_0 0 rfl rfl, rfl⟩
theorem dX7_init_1 : pm_dec mX7_init 1 (.invokespecial 3, 3) 4 := ⟨dn_183 dk_X7_init_0 1 rfl rfl rfl, rfl⟩
theorem dX7_init_4 : pm_dec mX7_init 4 (.aload_n 0, 1) 5 := ⟨dn_42 dk_X7_init_0 4 rfl rfl, rfl⟩
theorem dX7_init_5 : pm_dec mX7_init 5 (.new 9, 3) 8 := ⟨dn_187 dk_X7_init_0 5 rfl rfl rfl, rfl⟩
theorem dX7_init_8 : pm_dec mX7_init 8 (.dup, 1) 9 := ⟨dn_89 dk_X7_init_0 8 rfl rfl, rfl⟩
theorem dX7_init_9 : pm_dec mX7_init 9 (.bipush 10, 2) 11 := ⟨dn_16 dk_X7_init_0 9 rfl rfl rfl, rfl⟩
theorem dX7_init_11 : pm_dec mX7_init 11 (.iconst 3, 1) 12 := ⟨dn_6 dk_X7_init_0 11 rfl rfl, rfl⟩
theorem dX7_init_12 : pm_dec mX7_init 12 (.invokespecial 11, 3) 15 := ⟨dn_183 dk_X7_init_0 12 rfl rfl rfl, rfl⟩
theorem dX7_init_15 : pm_dec mX7_init 15 (.putfield 14, 3) 18 := ⟨dn_181 dk_X7_init_0 15 rfl rfl rfl, rfl⟩
theorem dX7_init_18 : pm_dec mX7_init 18 (.aload_n 0, 1) 19 := ⟨dn_42 dk_X7_init_0 18 rfl rfl, rfl⟩
theorem dX7_init_19 : pm_dec mX7_init 19 (.new 9, 3) 22 := ⟨dn_187 dk_X7_init_0 19 rfl rfl rfl, rfl⟩
theorem dX7_init_22 : pm_dec mX7_init 22 (.dup, 1) 23 := ⟨dn_89 dk_X7_init_0 22 rfl rfl, rfl⟩
theorem dX7_init_23 : pm_dec mX7_init 23 (.bipush 10, 2) 25 := ⟨dn_16 dk_X7_init_0 23 rfl rfl rfl, rfl⟩
theorem dX7_init_25 : pm_dec mX7_init 25 (.bipush 10, 2) 27 := ⟨dn_16 dk_X7_init_0 25 rfl rfl rfl, rfl⟩
theorem dX7_init_27 : pm_dec mX7_init 27 (.invokespecial 11, 3) 30 := ⟨dn_183 dk_X7_init_0 27 rfl rfl rfl, rfl⟩
theorem dX7_init_30 : pm_dec mX7_init 30 (.putfield 20, 3) 33 := ⟨dn_181 dk_X7_init_0 30 rfl rfl rfl, rfl⟩
theorem dX7_init_33 : pm_dec mX7_init 33 (.aload_n 0, 1) 34 := ⟨dn_42 dk_X7_init_0 33 rfl rfl, rfl⟩
theorem dX7_init_34 : pm_dec mX7_init 34 (.new 9, 3) 37 := ⟨dn_187 dk_X7_init_0 34 rfl rfl rfl, rfl⟩
theorem dX7_init_37 : pm_dec mX7_init 37 (.dup, 1) 38 := ⟨dn_89 dk_X7_init_0 37 rfl rfl, rfl⟩
theorem dX7_init_38 : pm_dec mX7_init 38 (.bipush 20, 2) 40 := ⟨dn_16 dk_X7_init_0 38 rfl rfl rfl, rfl⟩
theorem dX7_init_40 : pm_dec mX7_init 40 (.bipush 14, 2) 42 := ⟨dn_16 dk_X7_init_0 40 rfl rfl rfl, rfl⟩
theorem dX7_init_42 : pm_dec mX7_init 42 (.invokespecial 11, 3) 45 := ⟨dn_183 dk_X7_init_0 42 rfl rfl rfl, rfl⟩
theorem dX7_init_45 : pm_dec mX7_init 45 (.putfield 23, 3) 48 := ⟨dn_181 dk_X7_init_0 45 rfl rfl rfl, rfl⟩
def dt_X7_init_48 : Nat := 0x900bb2a2000b50b00b73c100c10590900bb2a1d00b50b00b706100c10590900bb2a1a00b50b00b706101410590900bb2a
theorem dk_X7_init_48 : dCh (mX7_init.2.1) 48 49 dt_X7_init_48 := by decide +kernel
theorem dX7_init_48 : pm_dec mX7_init 48 (.aload_n 0, 1) 49 := ⟨dn_42 dk_X7_init_48 0 rfl rfl, rfl⟩
theorem dX7_init_49 : pm_dec mX7_init 49 (.new 9, 3) 52 := ⟨dn_187 dk_X7_init_48 1 rfl rfl rfl, rfl⟩
theorem dX7_init_52 : pm_dec mX7_init 52 (.dup, 1) 53 := ⟨dn_89 dk_X7_init_48 4 rfl rfl, rfl⟩
theorem dX7_init_53 : pm_dec mX7_init 53 (.bipush 20, 2) 55 := ⟨dn_16 dk_X7_init_48 5 rfl rfl rfl, rfl⟩
theorem dX7_init_55 : pm_dec mX7_init 55 (.bipush 6, 2) 57 := ⟨dn_16 dk_X7_init_48 7 rfl rfl rfl, rfl⟩
theorem dX7_init_57 : pm_dec mX7_init 57 (.invokespecial 11, 3) 60 := ⟨dn_183 dk_X7_init_48 9 rfl rfl rfl, rfl⟩
theorem dX7_init_60 : pm_dec mX7_init 60 (.putfield 26, 3) 63 := ⟨dn_181 dk_X7_init_48 12 rfl rfl rfl, rfl⟩
theorem dX7_init_63 : pm_dec mX7_init 63 (.aload_n 0, 1) 64 := ⟨dn_42 dk_X7_init_48 15 rfl rfl, rfl⟩
theorem dX7_init_64 : pm_dec mX7_init 64 (.new 9, 3) 67 := ⟨dn_187 dk_X7_init_48 16 rfl rfl rfl, rfl⟩
theorem dX7_init_67 : pm_dec mX7_init 67 (.dup, 1) 68 := ⟨dn_89 dk_X7_init_48 19 rfl rfl, rfl⟩
theorem dX7_init_68 : pm_dec mX7_init 68 (.bipush 12, 2) 70 := ⟨dn_16 dk_X7_init_48 20 rfl rfl rfl, rfl⟩
theorem dX7_init_70 : pm_dec mX7_init 70 (.bipush 6, 2) 72 := ⟨dn_16 dk_X7_init_48 22 rfl rfl rfl, rfl⟩
theorem dX7_init_72 : pm_dec mX7_init 72 (.invokespecial 11, 3) 75 := ⟨dn_183 dk_X7_init_48 24 rfl rfl rfl, rfl⟩
theorem dX7_init_75 : pm_dec mX7_init 75 (.putfield 29, 3) 78 := ⟨dn_181 dk_X7_init_48 27 rfl rfl rfl, rfl⟩
theorem dX7_init_78 : pm_dec mX7_init 78 (.aload_n 0, 1) 79 := ⟨dn_42 dk_X7_init_48 30 rfl rfl, rfl⟩
theorem dX7_init_79 : pm_dec mX7_init 79 (.new 9, 3) 82 := ⟨dn_187 dk_X7_init_48 31 rfl rfl rfl, rfl⟩
theorem dX7_init_82 : pm_dec mX7_init 82 (.dup, 1) 83 := ⟨dn_89 dk_X7_init_48 34 rfl rfl, rfl⟩
theorem dX7_init_83 : pm_dec mX7_init 83 (.bipush 12, 2) 85 := ⟨dn_16 dk_X7_init_48 35 rfl rfl rfl, rfl⟩
theorem dX7_init_85 : pm_dec mX7_init 85 (.bipush 60, 2) 87 := ⟨dn_16 dk_X7_init_48 37 rfl rfl rfl, rfl⟩
theorem dX7_init_87 : pm_dec mX7_init 87 (.invokespecial 11, 3) 90 := ⟨dn_183 dk_X7_init_48 39 rfl rfl rfl, rfl⟩
theorem dX7_init_90 : pm_dec mX7_init 90 (.putfield 32, 3) 93 := ⟨dn_181 dk_X7_init_48 42 rfl rfl rfl, rfl⟩
theorem dX7_init_93 : pm_dec mX7_init 93 (.aload_n 0, 1) 94 := ⟨dn_42 dk_X7_init_48 45 rfl rfl, rfl⟩
theorem dX7_init_94 : pm_dec mX7_init 94 (.new 9, 3) 97 := ⟨dn_187 dk_X7_init_48 46 rfl rfl rfl, rfl⟩
def dt_X7_init_97 : Nat := 0xb00b70408590900bb2a2900b50b00b7081e10590900bb2a2600b50b00b7080610590900bb2a2300b50b00b70c10281059
theorem dk_X7_init_97 : dCh (mX7_init.2.1) 97 49 dt_X7_init_97 := by decide +kernel
theorem dX7_init_97 : pm_dec mX7_init 97 (.dup, 1) 98 := ⟨dn_89 dk_X7_init_97 0 rfl rfl, rfl⟩
theorem dX7_init_98 : pm_dec mX7_init 98 (.bipush 40, 2) 100 := ⟨dn_16 dk_X7_init_97 1 rfl rfl rfl, rfl⟩
theorem dX7_init_100 : pm_dec mX7_init 100 (.bipush 12, 2) 102 := ⟨dn_16 dk_X7_init_97 3 rfl rfl rfl, rfl⟩
theorem dX7_init_102 : pm_dec mX7_init 102 (.invokespecial 11, 3) 105 := ⟨dn_183 dk_X7_init_97 5 rfl rfl rfl, rfl⟩
theorem dX7_init_105 : pm_dec mX7_init 105 (.putfield 35, 3) 108 := ⟨dn_181 dk_X7_init_97 8 rfl rfl rfl, rfl⟩
theorem dX7_init_108 : pm_dec mX7_init 108 (.aload_n 0, 1) 109 := ⟨dn_42 dk_X7_init_97 11 rfl rfl, rfl⟩
theorem dX7_init_109 : pm_dec mX7_init 109 (.new 9, 3) 112 := ⟨dn_187 dk_X7_init_97 12 rfl rfl rfl, rfl⟩
theorem dX7_init_112 : pm_dec mX7_init 112 (.dup, 1) 113 := ⟨dn_89 dk_X7_init_97 15 rfl rfl, rfl⟩
theorem dX7_init_113 : pm_dec mX7_init 113 (.bipush 6, 2) 115 := ⟨dn_16 dk_X7_init_97 16 rfl rfl rfl, rfl⟩
theorem dX7_init_115 : pm_dec mX7_init 115 (.iconst 5, 1) 116 := ⟨dn_8 dk_X7_init_97 18 rfl rfl, rfl⟩
theorem dX7_init_116 : pm_dec mX7_init 116 (.invokespecial 11, 3) 119 := ⟨dn_183 dk_X7_init_97 19 rfl rfl rfl, rfl⟩
theorem dX7_init_119 : pm_dec mX7_init 119 (.putfield 38, 3) 122 := ⟨dn_181 dk_X7_init_97 22 rfl rfl rfl, rfl⟩
theorem dX7_init_122 : pm_dec mX7_init 122 (.aload_n 0, 1) 123 := ⟨dn_42 dk_X7_init_97 25 rfl rfl, rfl⟩
theorem dX7_init_123 : pm_dec mX7_init 123 (.new 9, 3) 126 := ⟨dn_187 dk_X7_init_97 26 rfl rfl rfl, rfl⟩
theorem dX7_init_126 : pm_dec mX7_init 126 (.dup, 1) 127 := ⟨dn_89 dk_X7_init_97 29 rfl rfl, rfl⟩
theorem dX7_init_127 : pm_dec mX7_init 127 (.bipush 30, 2) 129 := ⟨dn_16 dk_X7_init_97 30 rfl rfl rfl, rfl⟩
theorem dX7_init_129 : pm_dec mX7_init 129 (.iconst 5, 1) 130 := ⟨dn_8 dk_X7_init_97 32 rfl rfl, rfl⟩
theorem dX7_init_130 : pm_dec mX7_init 130 (.invokespecial 11, 3) 133 := ⟨dn_183 dk_X7_init_97 33 rfl rfl rfl, rfl⟩
theorem dX7_init_133 : pm_dec mX7_init 133 (.putfield 41, 3) 136 := ⟨dn_181 dk_X7_init_97 36 rfl rfl rfl, rfl⟩
theorem dX7_init_136 : pm_dec mX7_init 136 (.aload_n 0, 1) 137 := ⟨dn_42 dk_X7_init_97 39 rfl rfl, rfl⟩
theorem dX7_init_137 : pm_dec mX7_init 137 (.new 9, 3) 140 := ⟨dn_187 dk_X7_init_97 40 rfl rfl rfl, rfl⟩
theorem dX7_init_140 : pm_dec mX7_init 140 (.dup, 1) 141 := ⟨dn_89 dk_X7_init_97 43 rfl rfl, rfl⟩
theorem dX7_init_141 : pm_dec mX7_init 141 (.iconst 5, 1) 142 := ⟨dn_8 dk_X7_init_97 44 rfl rfl, rfl⟩
theorem dX7_init_142 : pm_dec mX7_init 142 (.iconst 1, 1) 143 := ⟨dn_4 dk_X7_init_97 45 rfl rfl, rfl⟩
theorem dX7_init_143 : pm_dec mX7_init 143 (.invokespecial 11, 3) 146 := ⟨dn_183 dk_X7_init_97 46 rfl rfl rfl, rfl⟩
def dt_X7_init_146 : Nat := 0x3900b6e803111400b42a3500b5e803112a3200b50b00b7043c10590900bb2a2f00b50b00b7041410590900bb2a2c00b5
theorem dk_X7_init_146 : dCh (mX7_init.2.1) 146 48 dt_X7_init_146 := by decide +kernel
theorem dX7_init_146 : pm_dec mX7_init 146 (.putfield 44, 3) 149 := ⟨dn_181 dk_X7_init_146 0 rfl rfl rfl, rfl⟩
theorem dX7_init_149 : pm_dec mX7_init 149 (.aload_n 0, 1) 150 := ⟨dn_42 dk_X7_init_146 3 rfl rfl, rfl⟩
theorem dX7_init_150 : pm_dec mX7_init 150 (.new 9, 3) 153 := ⟨dn_187 dk_X7_init_146 4 rfl rfl rfl, rfl⟩
theorem dX7_init_153 : pm_dec mX7_init 153 (.dup, 1) 154 := ⟨dn_89 dk_X7_init_146 7 rfl rfl, rfl⟩
theorem dX7_init_154 : pm_dec mX7_init 154 (.bipush 20, 2) 156 := ⟨dn_16 dk_X7_init_146 8 rfl rfl rfl, rfl⟩
theorem dX7_init_156 : pm_dec mX7_init 156 (.iconst 1, 1) 157 := ⟨dn_4 dk_X7_init_146 10 rfl rfl, rfl⟩
theorem dX7_init_157 : pm_dec mX7_init 157 (.invokespecial 11, 3) 160 := ⟨dn_183 dk_X7_init_146 11 rfl rfl rfl, rfl⟩
theorem dX7_init_160 : pm_dec mX7_init 160 (.putfield 47, 3) 163 := ⟨dn_181 dk_X7_init_146 14 rfl rfl rfl, rfl⟩
theorem dX7_init_163 : pm_dec mX7_init 163 (.aload_n 0, 1) 164 := ⟨dn_42 dk_X7_init_146 17 rfl rfl, rfl⟩
theorem dX7_init_164 : pm_dec mX7_init 164 (.new 9, 3) 167 := ⟨dn_187 dk_X7_init_146 18 rfl rfl rfl, rfl⟩
theorem dX7_init_167 : pm_dec mX7_init 167 (.dup, 1) 168 := ⟨dn_89 dk_X7_init_146 21 rfl rfl, rfl⟩
theorem dX7_init_168 : pm_dec mX7_init 168 (.bipush 60, 2) 170 := ⟨dn_16 dk_X7_init_146 22 rfl rfl rfl, rfl⟩
theorem dX7_init_170 : pm_dec mX7_init 170 (.iconst 1, 1) 171 := ⟨dn_4 dk_X7_init_146 24 rfl rfl, rfl⟩
theorem dX7_init_171 : pm_dec mX7_init 171 (.invokespecial 11, 3) 174 := ⟨dn_183 dk_X7_init_146 25 rfl rfl rfl, rfl⟩
theorem dX7_init_174 : pm_dec mX7_init 174 (.putfield 50, 3) 177 := ⟨dn_181 dk_X7_init_146 28 rfl rfl rfl, rfl⟩
theorem dX7_init_177 : pm_dec mX7_init 177 (.aload_n 0, 1) 178 := ⟨dn_42 dk_X7_init_146 31 rfl rfl, rfl⟩
theorem dX7_init_178 : pm_dec mX7_init 178 (.sipush 1000, 3) 181 := ⟨dn_17 dk_X7_init_146 32 rfl rfl rfl, rfl⟩
theorem dX7_init_181 : pm_dec mX7_init 181 (.putfield 53, 3) 184 := ⟨dn_181 dk_X7_init_146 35 rfl rfl rfl, rfl⟩
theorem dX7_init_184 : pm_dec mX7_init 184 (.aload_n 0, 1) 185 := ⟨dn_42 dk_X7_init_146 38 rfl rfl, rfl⟩
theorem dX7_init_185 : pm_dec mX7_init 185 (.getfield 20, 3) 188 := ⟨dn_180 dk_X7_init_146 39 rfl rfl rfl, rfl⟩
theorem dX7_init_188 : pm_dec mX7_init 188 (.sipush 1000, 3) 191 := ⟨dn_17 dk_X7_init_146 42 rfl rfl rfl, rfl⟩
theorem dX7_init_191 : pm_dec mX7_init 191 (.invokevirtual 57, 3) 194 := ⟨dn_182 dk_X7_init_146 45 rfl rfl rfl, rfl⟩
def dt_X7_init_194 : Nat := 0xb1edffa70101843d00b6031b1b1400b42a1300a20a101b3c03
theorem dk_X7_init_194 : dCh (mX7_init.2.1) 194 25 dt_X7_init_194 := by decide +kernel
theorem dX7_init_194 : pm_dec mX7_init 194 (.iconst 0, 1) 195 := ⟨dn_3 dk_X7_init_194 0 rfl rfl, rfl⟩
theorem dX7_init_195 : pm_dec mX7_init 195 (.istore_n 1, 1) 196 := ⟨dn_60 dk_X7_init_194 1 rfl rfl, rfl⟩
theorem dX7_init_196 : pm_dec mX7_init 196 (.iload_n 1, 1) 197 := ⟨dn_27 dk_X7_init_194 2 rfl rfl, rfl⟩
theorem dX7_init_197 : pm_dec mX7_init 197 (.bipush 10, 2) 199 := ⟨dn_16 dk_X7_init_194 3 rfl rfl rfl, rfl⟩
theorem dX7_init_199 : pm_dec mX7_init 199 (.if_icmp .ge 19, 3) 202 := ⟨dn_162 dk_X7_init_194 5 rfl rfl rfl, rfl⟩
theorem dX7_init_202 : pm_dec mX7_init 202 (.aload_n 0, 1) 203 := ⟨dn_42 dk_X7_init_194 8 rfl rfl, rfl⟩
theorem dX7_init_203 : pm_dec mX7_init 203 (.getfield 20, 3) 206 := ⟨dn_180 dk_X7_init_194 9 rfl rfl rfl, rfl⟩
theorem dX7_init_206 : pm_dec mX7_init 206 (.iload_n 1, 1) 207 := ⟨dn_27 dk_X7_init_194 12 rfl rfl, rfl⟩
theorem dX7_init_207 : pm_dec mX7_init 207 (.iload_n 1, 1) 208 := ⟨dn_27 dk_X7_init_194 13 rfl rfl, rfl⟩
theorem dX7_init_208 : pm_dec mX7_init 208 (.iconst 0, 1) 209 := ⟨dn_3 dk_X7_init_194 14 rfl rfl, rfl⟩
theorem dX7_init_209 : pm_dec mX7_init 209 (.invokevirtual 61, 3) 212 := ⟨dn_182 dk_X7_init_194 15 rfl rfl rfl, rfl⟩
theorem dX7_init_212 : pm_dec mX7_init 212 (.iinc 1 1, 3) 215 := ⟨dn_132 dk_X7_init_194 18 rfl rfl rfl rfl, rfl⟩
theorem dX7_init_215 : pm_dec mX7_init 215 (.goto (-19), 3) 218 := ⟨dn_167 dk_X7_init_194 21 rfl rfl rfl, rfl⟩
theorem dX7_init_218 : pm_dec mX7_init 218 (.return_, 1) 219 := ⟨dn_177 dk_X7_init_194 24 rfl rfl, rfl⟩
def dt_X6_init_0 : Nat := 0xb11400b51100b7043c10590f00bb2a0900b52b2a0300b72a
theorem dk_X6_init_0 : dCh (mX6_init.2.1) 0 24 dt_X6_init_0 := by decide +kernel
theorem dX6_init_0 : pm_dec mX6_init 0 (.aload_n 0, 1) 1 := ⟨dn_42 dk_X6_init_0 0 rfl rfl, rfl⟩
theorem dX6_init_1 : pm_dec mX6_init 1 (.invokespecial 3, 3) 4 := ⟨dn_183 dk_X6_init_0 1 rfl rfl rfl, rfl⟩
theorem dX6_init_4 : pm_dec mX6_init 4 (.aload_n 0, 1) 5 := ⟨dn_42 dk_X6_init_0 4 rfl rfl, rfl⟩
theorem dX6_init_5 : pm_dec mX6_init 5 (.aload_n 1, 1) 6 := ⟨dn_43 dk_X6_init_0 5 rfl rfl, rfl⟩
theorem dX6_init_6 : pm_dec mX6_init 6 (.putfield 9, 3) 9 := ⟨dn_181 dk_X6_init_0 6 rfl rfl rfl, rfl⟩
theorem dX6_init_9 : pm_dec mX6_init 9 (.aload_n 0, 1) 10 := ⟨dn_42 dk_X6_init_0 9 rfl rfl, rfl⟩
theorem dX6_init_10 : pm_dec mX6_init 10 (.new 15, 3) 13 := ⟨dn_187 dk_X6_init_0 10 rfl rfl rfl, rfl⟩
theorem dX6_init_13 : pm_dec mX6_init 13 (.dup, 1) 14 := ⟨dn_89 dk_X6_init_0 13 rfl rfl, rfl⟩
theorem dX6_init_14 : pm_dec mX6_init 14 (.bipush 60, 2) 16 := ⟨dn_16 dk_X6_init_0 14 rfl rfl rfl, rfl⟩
theorem dX6_init_16 : pm_dec mX6_init 16 (.iconst 1, 1) 17 := ⟨dn_4 dk_X6_init_0 16 rfl rfl, rfl⟩
theorem dX6_init_17 : pm_dec mX6_init 17 (.invokespecial 17, 3) 20 := ⟨dn_183 dk_X6_init_0 17 rfl rfl rfl, rfl⟩
theorem dX6_init_20 : pm_dec mX6_init 20 (.putfield 20, 3) 23 := ⟨dn_181 dk_X6_init_0 20 rfl rfl rfl, rfl⟩
theorem dX6_init_23 : pm_dec mX6_init 23 (.return_, 1) 24 := ⟨dn_177 dk_X6_init_0 23 rfl rfl, rfl⟩
def dt_X2_init_0 : Nat := 0xb11e00b50abc3c102a1a00b51700b71100b42b590f00bb2a0900b52b2a0300b72a
theorem dk_X2_init_0 : dCh (mX2_init.2.1) 0 33 dt_X2_init_0 := by decide +kernel
theorem dX2_init_0 : pm_dec mX2_init 0 (.aload_n 0, 1) 1 := ⟨dn_42 dk_X2_init_0 0 rfl rfl, rfl⟩
theorem dX2_init_1 : pm_dec mX2_init 1 (.invokespecial 3, 3) 4 := ⟨dn_183 dk_X2_init_0 1 rfl rfl rfl, rfl⟩
theorem dX2_init_4 : pm_dec mX2_init 4 (.aload_n 0, 1) 5 := ⟨dn_42 dk_X2_init_0 4 rfl rfl, rfl⟩
theorem dX2_init_5 : pm_dec mX2_init 5 (.aload_n 1, 1) 6 := ⟨dn_43 dk_X2_init_0 5 rfl rfl, rfl⟩
theorem dX2_init_6 : pm_dec mX2_init 6 (.putfield 9, 3) 9 := ⟨dn_181 dk_X2_init_0 6 rfl rfl rfl, rfl⟩
theorem dX2_init_9 : pm_dec mX2_init 9 (.aload_n 0, 1) 10 := ⟨dn_42 dk_X2_init_0 9 rfl rfl, rfl⟩
theorem dX2_init_10 : pm_dec mX2_init 10 (.new 15, 3) 13 := ⟨dn_187 dk_X2_init_0 10 rfl rfl rfl, rfl⟩
theorem dX2_init_13 : pm_dec mX2_init 13 (.dup, 1) 14 := ⟨dn_89 dk_X2_init_0 13 rfl rfl, rfl⟩
theorem dX2_init_14 : pm_dec mX2_init 14 (.aload_n 1, 1) 15 := ⟨dn_43 dk_X2_init_0 14 rfl rfl, rfl⟩
theorem dX2_init_15 : pm_dec mX2_init 15 (.getfield 17, 3) 18 := ⟨dn_180 dk_X2_init_0 15 rfl rfl rfl, rfl⟩
theorem dX2_init_18 : pm_dec mX2_init 18 (.invokespecial 23, 3) 21 := ⟨dn_183 dk_X2_init_0 18 rfl rfl rfl, rfl⟩
theorem dX2_init_21 : pm_dec mX2_init 21 (.putfield 26, 3) 24 := ⟨dn_181 dk_X2_init_0 21 rfl rfl rfl, rfl⟩
theorem dX2_init_24 : pm_dec mX2_init 24 (.aload_n 0, 1) 25 := ⟨dn_42 dk_X2_init_0 24 rfl rfl, rfl⟩
theorem dX2_init_25 : pm_dec mX2_init 25 (.bipush 60, 2) 27 := ⟨dn_16 dk_X2_init_0 25 rfl rfl rfl, rfl⟩
theorem dX2_init_27 : pm_dec mX2_init 27 (.newarray .int, 2) 29 := ⟨dn_188 dk_X2_init_0 27 rfl rfl rfl, rfl⟩
theorem dX2_init_29 : pm_dec mX2_init 29 (.putfield 30, 3) 32 := ⟨dn_181 dk_X2_init_0 29 rfl rfl rfl, rfl⟩
theorem dX2_init_32 : pm_dec mX2_init 32 (.return_, 1) 33 := ⟨dn_177 dk_X2_init_0 32 rfl rfl, rfl⟩
def dt_X0_init_0 : Nat := 0x2400b51e00b7040910591c00bb2a2100b51e00b7041410591c00bb2a1900b51300b42b2a0f00b52c2a0900b52b2a0300b72a
theorem dk_X0_init_0 : dCh (mX0_init.2.1) 0 50 dt_X0_init_0 := by decide +kernel
theorem dX0_init_0 : pm_dec mX0_init 0 (.aload_n 0, 1) 1 := ⟨dn_42 dk_X0_init_0 0 rfl rfl, rfl⟩
theorem dX0_init_1 : pm_dec mX0_init 1 (.invokespecial 3, 3) 4 := ⟨dn_183 dk_X0_init_0 1 rfl rfl rfl, rfl⟩
theorem dX0_init_4 : pm_dec mX0_init 4 (.aload_n 0, 1) 5 := ⟨dn_42 dk_X0_init_0 4 rfl rfl, rfl⟩
theorem dX0_init_5 : pm_dec mX0_init 5 (.aload_n 1, 1) 6 := ⟨dn_43 dk_X0_init_0 5 rfl rfl, rfl⟩
theorem dX0_init_6 : pm_dec mX0_init 6 (.putfield 9, 3) 9 := ⟨dn_181 dk_X0_init_0 6 rfl rfl rfl, rfl⟩
theorem dX0_init_9 : pm_dec mX0_init 9 (.aload_n 0, 1) 10 := ⟨dn_42 dk_X0_init_0 9 rfl rfl, rfl⟩
theorem dX0_init_10 : pm_dec mX0_init 10 (.aload_n 2, 1) 11 := ⟨dn_44 dk_X0_init_0 10 rfl rfl, rfl⟩
theorem dX0_init_11 : pm_dec mX0_init 11 (.putfield 15, 3) 14 := ⟨dn_181 dk_X0_init_0 11 rfl rfl rfl, rfl⟩
theorem dX0_init_14 : pm_dec mX0_init 14 (.aload_n 0, 1) 15 := ⟨dn_42 dk_X0_init_0 14 rfl rfl, rfl⟩
theorem dX0_init_15 : pm_dec mX0_init 15 (.aload_n 1, 1) 16 := ⟨dn_43 dk_X0_init_0 15 rfl rfl, rfl⟩
theorem dX0_init_16 : pm_dec mX0_init 16 (.getfield 19, 3) 19 := ⟨dn_180 dk_X0_init_0 16 rfl rfl rfl, rfl⟩
theorem dX0_init_19 : pm_dec mX0_init 19 (.putfield 25, 3) 22 := ⟨dn_181 dk_X0_init_0 19 rfl rfl rfl, rfl⟩
theorem dX0_init_22 : pm_dec mX0_init 22 (.aload_n 0, 1) 23 := ⟨dn_42 dk_X0_init_0 22 rfl rfl, rfl⟩
theorem dX0_init_23 : pm_dec mX0_init 23 (.new 28, 3) 26 := ⟨dn_187 dk_X0_init_0 23 rfl rfl rfl, rfl⟩
theorem dX0_init_26 : pm_dec mX0_init 26 (.dup, 1) 27 := ⟨dn_89 dk_X0_init_0 26 rfl rfl, rfl⟩
theorem dX0_init_27 : pm_dec mX0_init 27 (.bipush 20, 2) 29 := ⟨dn_16 dk_X0_init_0 27 rfl rfl rfl, rfl⟩
theorem dX0_init_29 : pm_dec mX0_init 29 (.iconst 1, 1) 30 := ⟨dn_4 dk_X0_init_0 29 rfl rfl, rfl⟩
theorem dX0_init_30 : pm_dec mX0_init 30 (.invokespecial 30, 3) 33 := ⟨dn_183 dk_X0_init_0 30 rfl rfl rfl, rfl⟩
theorem dX0_init_33 : pm_dec mX0_init 33 (.putfield 33, 3) 36 := ⟨dn_181 dk_X0_init_0 33 rfl rfl rfl, rfl⟩
theorem dX0_init_36 : pm_dec mX0_init 36 (.aload_n 0, 1) 37 := ⟨dn_42 dk_X0_init_0 36 rfl rfl, rfl⟩
theorem dX0_init_37 : pm_dec mX0_init 37 (.new 28, 3) 40 := ⟨dn_187 dk_X0_init_0 37 rfl rfl rfl, rfl⟩
theorem dX0_init_40 : pm_dec mX0_init 40 (.dup, 1) 41 := ⟨dn_89 dk_X0_init_0 40 rfl rfl, rfl⟩
theorem dX0_init_41 : pm_dec mX0_init 41 (.bipush 9, 2) 43 := ⟨dn_16 dk_X0_init_0 41 rfl rfl rfl, rfl⟩
theorem dX0_init_43 : pm_dec mX0_init 43 (.iconst 1, 1) 44 := ⟨dn_4 dk_X0_init_0 43 rfl rfl, rfl⟩
theorem dX0_init_44 : pm_dec mX0_init 44 (.invokespecial 30, 3) 47 := ⟨dn_183 dk_X0_init_0 44 rfl rfl rfl, rfl⟩
theorem dX0_init_47 : pm_dec mX0_init 47 (.putfield 36, 3) 50 := ⟨dn_181 dk_X0_init_0 47 rfl rfl rfl, rfl⟩
def dt_X0_init_50 : Nat := 0xb1
theorem dk_X0_init_50 : dCh (mX0_init.2.1) 50 1 dt_X0_init_50 := by decide +kernel
theorem dX0_init_50 : pm_dec mX0_init 50 (.return_, 1) 51 := ⟨dn_177 dk_X0_init_50 0 rfl rfl, rfl⟩
def dt_X3_init_0 : Nat := 0xb11d00b51700b42b2a1300b52d2a0f00b52c2a0900b52b2a0300b72a
theorem dk_X3_init_0 : dCh (mX3_init.2.1) 0 28 dt_X3_init_0 := by decide +kernel
theorem dX3_init_0 : pm_dec mX3_init 0 (.aload_n 0, 1) 1 := ⟨dn_42 dk_X3_init_0 0 rfl rfl, rfl⟩
theorem dX3_init_1 : pm_dec mX3_init 1 (.invokespecial 3, 3) 4 := ⟨dn_183 dk_X3_init_0 1 rfl rfl rfl, rfl⟩
theorem dX3_init_4 : pm_dec mX3_init 4 (.aload_n 0, 1) 5 := ⟨dn_42 dk_X3_init_0 4 rfl rfl, rfl⟩
theorem dX3_init_5 : pm_dec mX3_init 5 (.aload_n 1, 1) 6 := ⟨dn_43 dk_X3_init_0 5 rfl rfl, rfl⟩
theorem dX3_init_6 : pm_dec mX3_init 6 (.putfield 9, 3) 9 := ⟨dn_181 dk_X3_init_0 6 rfl rfl rfl, rfl⟩
theorem dX3_init_9 : pm_dec mX3_init 9 (.aload_n 0, 1) 10 := ⟨dn_42 dk_X3_init_0 9 rfl rfl, rfl⟩
theorem dX3_init_10 : pm_dec mX3_init 10 (.aload_n 2, 1) 11 := ⟨dn_44 dk_X3_init_0 10 rfl rfl, rfl⟩
theorem dX3_init_11 : pm_dec mX3_init 11 (.putfield 15, 3) 14 := ⟨dn_181 dk_X3_init_0 11 rfl rfl rfl, rfl⟩
theorem dX3_init_14 : pm_dec mX3_init 14 (.aload_n 0, 1) 15 := ⟨dn_42 dk_X3_init_0 14 rfl rfl, rfl⟩
theorem dX3_init_15 : pm_dec mX3_init 15 (.aload_n 3, 1) 16 := ⟨dn_45 dk_X3_init_0 15 rfl rfl, rfl⟩
theorem dX3_init_16 : pm_dec mX3_init 16 (.putfield 19, 3) 19 := ⟨dn_181 dk_X3_init_0 16 rfl rfl rfl, rfl⟩
theorem dX3_init_19 : pm_dec mX3_init 19 (.aload_n 0, 1) 20 := ⟨dn_42 dk_X3_init_0 19 rfl rfl, rfl⟩
theorem dX3_init_20 : pm_dec mX3_init 20 (.aload_n 1, 1) 21 := ⟨dn_43 dk_X3_init_0 20 rfl rfl, rfl⟩
theorem dX3_init_21 : pm_dec mX3_init 21 (.getfield 23, 3) 24 := ⟨dn_180 dk_X3_init_0 21 rfl rfl rfl, rfl⟩
theorem dX3_init_24 : pm_dec mX3_init 24 (.putfield 29, 3) 27 := ⟨dn_181 dk_X3_init_0 24 rfl rfl rfl, rfl⟩
theorem dX3_init_27 : pm_dec mX3_init 27 (.return_, 1) 28 := ⟨dn_177 dk_X3_init_0 27 rfl rfl, rfl⟩
def dt_X4_init_0 : Nat := 0xb11800b51500b7041410591300bb2a0f00b52c2a0900b52b2a0300b72a
theorem dk_X4_init_0 : dCh (mX4_init.2.1) 0 29 dt_X4_init_0 := by decide +kernel
theorem dX4_init_0 : pm_dec mX4_init 0 (.aload_n 0, 1) 1 := ⟨dn_42 dk_X4_init_0 0 rfl rfl, rfl⟩
theorem dX4_init_1 : pm_dec mX4_init 1 (.invokespecial 3, 3) 4 := ⟨dn_183 dk_X4_init_0 1 rfl rfl rfl, rfl⟩
theorem dX4_init_4 : pm_dec mX4_init 4 (.aload_n 0, 1) 5 := ⟨dn_42 dk_X4_init_0 4 rfl rfl, rfl⟩
theorem dX4_init_5 : pm_dec mX4_init 5 (.aload_n 1, 1) 6 := ⟨dn_43 dk_X4_init_0 5 rfl rfl, rfl⟩
theorem dX4_init_6 : pm_dec mX4_init 6 (.putfield 9, 3) 9 := ⟨dn_181 dk_X4_init_0 6 rfl rfl rfl, rfl⟩
theorem dX4_init_9 : pm_dec mX4_init 9 (.aload_n 0, 1) 10 := ⟨dn_42 dk_X4_init_0 9 rfl rfl, rfl⟩
theorem dX4_init_10 : pm_dec mX4_init 10 (.aload_n 2, 1) 11 := ⟨dn_44 dk_X4_init_0 10 rfl rfl, rfl⟩
theorem dX4_init_11 : pm_dec mX4_init 11 (.putfield 15, 3) 14 := ⟨dn_181 dk_X4_init_0 11 rfl rfl rfl, rfl⟩
theorem dX4_init_14 : pm_dec mX4_init 14 (.aload_n 0, 1) 15 := ⟨dn_42 dk_X4_init_0 14 rfl rfl, rfl⟩
theorem dX4_init_15 : pm_dec mX4_init 15 (.new 19, 3) 18 := ⟨dn_187 dk_X4_init_0 15 rfl rfl rfl, rfl⟩
theorem dX4_init_18 : pm_dec mX4_init 18 (.dup, 1) 19 := ⟨dn_89 dk_X4_init_0 18 rfl rfl, rfl⟩
theorem dX4_init_19 : pm_dec mX4_init 19 (.bipush 20, 2) 21 := ⟨dn_16 dk_X4_init_0 19 rfl rfl rfl, rfl⟩
theorem dX4_init_21 : pm_dec mX4_init 21 (.iconst 1, 1) 22 := ⟨dn_4 dk_X4_init_0 21 rfl rfl, rfl⟩
theorem dX4_init_22 : pm_dec mX4_init 22 (.invokespecial 21, 3) 25 := ⟨dn_183 dk_X4_init_0 22 rfl rfl rfl, rfl⟩
theorem dX4_init_25 : pm_dec mX4_init 25 (.putfield 24, 3) 28 := ⟨dn_181 dk_X4_init_0 25 rfl rfl rfl, rfl⟩
theorem dX4_init_28 : pm_dec mX4_init 28 (.return_, 1) 29 := ⟨dn_177 dk_X4_init_0 28 rfl rfl, rfl⟩
def dt_X1_init_0 : Nat := 0xb10f00b50abc082a0900b52b2a0300b72a
theorem dk_X1_init_0 : dCh (mX1_init.2.1) 0 17 dt_X1_init_0 := by decide +kernel
theorem dX1_init_0 : pm_dec mX1_init 0 (.aload_n 0, 1) 1 := ⟨dn_42 dk_X1_init_0 0 rfl rfl, rfl⟩
theorem dX1_init_1 : pm_dec mX1_init 1 (.invokespecial 3, 3) 4 := ⟨dn_183 dk_X1_init_0 1 rfl rfl rfl, rfl⟩
theorem dX1_init_4 : pm_dec mX1_init 4 (.aload_n 0, 1) 5 := ⟨dn_42 dk_X1_init_0 4 rfl rfl, rfl⟩
theorem dX1_init_5 : pm_dec mX1_init 5 (.aload_n 1, 1) 6 := ⟨dn_43 dk_X1_init_0 5 rfl rfl, rfl⟩
theorem dX1_init_6 : pm_dec mX1_init 6 (.putfield 9, 3) 9 := ⟨dn_181 dk_X1_init_0 6 rfl rfl rfl, rfl⟩
theorem dX1_init_9 : pm_dec mX1_init 9 (.aload_n 0, 1) 10 := ⟨dn_42 dk_X1_init_0 9 rfl rfl, rfl⟩
theorem dX1_init_10 : pm_dec mX1_init 10 (.iconst 5, 1) 11 := ⟨dn_8 dk_X1_init_0 10 rfl rfl, rfl⟩
theorem dX1_init_11 : pm_dec mX1_init 11 (.newarray .int, 2) 13 := ⟨dn_188 dk_X1_init_0 11 rfl rfl rfl, rfl⟩
theorem dX1_init_13 : pm_dec mX1_init 13 (.putfield 15, 3) 16 := ⟨dn_181 dk_X1_init_0 13 rfl rfl rfl, rfl⟩
theorem dX1_init_16 : pm_dec mX1_init 16 (.return_, 1) 17 := ⟨dn_177 dk_X1_init_0 16 rfl rfl, rfl⟩
def dt_X5_init_0 : Nat := 0xb11500b52b2a1200b50abc40102a0f00b50abc40102a0b00b50abc40102a0500b72a
theorem dk_X5_init_0 : dCh (mX5_init.2.1) 0 34 dt_X5_init_0 := by decide +kernel
theorem dX5_init_0 : pm_dec mX5_init 0 (.aload_n 0, 1) 1 := ⟨dn_42 dk_X5_init_0 0 rfl rfl, rfl⟩
theorem dX5_init_1 : pm_dec mX5_init 1 (.invokespecial 5, 3) 4 := ⟨dn_183 dk_X5_init_0 1 rfl rfl rfl, rfl⟩
theorem dX5_init_4 : pm_dec mX5_init 4 (.aload_n 0, 1) 5 := ⟨dn_42 dk_X5_init_0 4 rfl rfl, rfl⟩
theorem dX5_init_5 : pm_dec mX5_init 5 (.bipush 64, 2) 7 := ⟨dn_16 dk_X5_init_0 5 rfl rfl rfl, rfl⟩
theorem dX5_init_7 : pm_dec mX5_init 7 (.newarray .int, 2) 9 := ⟨dn_188 dk_X5_init_0 7 rfl rfl rfl, rfl⟩
theorem dX5_init_9 : pm_dec mX5_init 9 (.putfield 11, 3) 12 := ⟨dn_181 dk_X5_init_0 9 rfl rfl rfl, rfl⟩
theorem dX5_init_12 : pm_dec mX5_init 12 (.aload_n 0, 1) 13 := ⟨dn_42 dk_X5_init_0 12 rfl rfl, rfl⟩
theorem dX5_init_13 : pm_dec mX5_init 13 (.bipush 64, 2) 15 := ⟨dn_16 dk_X5_init_0 13 rfl rfl rfl, rfl⟩
theorem dX5_init_15 : pm_dec mX5_init 15 (.newarray .int, 2) 17 := ⟨dn_188 dk_X5_init_0 15 rfl rfl rfl, rfl⟩
theorem dX5_init_17 : pm_dec mX5_init 17 (.putfield 15, 3) 20 := ⟨dn_181 dk_X5_init_0 17 rfl rfl rfl, rfl⟩
theorem dX5_init_20 : pm_dec mX5_init 20 (.aload_n 0, 1) 21 := ⟨dn_42 dk_X5_init_0 20 rfl rfl, rfl⟩
theorem dX5_init_21 : pm_dec mX5_init 21 (.bipush 64, 2) 23 := ⟨dn_16 dk_X5_init_0 21 rfl rfl rfl, rfl⟩
theorem dX5_init_23 : pm_dec mX5_init 23 (.newarray .int, 2) 25 := ⟨dn_188 dk_X5_init_0 23 rfl rfl rfl, rfl⟩
theorem dX5_init_25 : pm_dec mX5_init 25 (.putfield 18, 3) 28 := ⟨dn_181 dk_X5_init_0 25 rfl rfl rfl, rfl⟩
theorem dX5_init_28 : pm_dec mX5_init 28 (.aload_n 0, 1) 29 := ⟨dn_42 dk_X5_init_0 28 rfl rfl, rfl⟩
theorem dX5_init_29 : pm_dec mX5_init 29 (.aload_n 1, 1) 30 := ⟨dn_43 dk_X5_init_0 29 rfl rfl, rfl⟩
theorem dX5_init_30 : pm_dec mX5_init 30 (.putfield 21, 3) 33 := ⟨dn_181 dk_X5_init_0 30 rfl rfl rfl, rfl⟩
theorem dX5_init_33 : pm_dec mX5_init 33 (.return_, 1) 34 := ⟨dn_177 dk_X5_init_0 33 rfl rfl, rfl⟩
def dt_X10_init_0 : Nat := 0xb10b00b50abc28102a0300b72a
theorem dk_X10_init_0 : dCh (mX10_init.2.1) 0 13 dt_X10_init_0 := by decide +kernel
theorem dX10_init_0 : pm_dec mX10_init 0 (.aload_n 0, 1) 1 := ⟨dn_42 dk_X10_init_0 0 rfl rfl, rfl⟩
theorem dX10_init_1 : pm_dec mX10_init 1 (.invokespecial 3, 3) 4 := ⟨dn_183 dk_X10_init_0 1 rfl rfl rfl, rfl⟩
theorem dX10_init_4 : pm_dec mX10_init 4 (.aload_n 0, 1) 5 := ⟨dn_42 dk_X10_init_0 4 rfl rfl, rfl⟩
theorem dX10_init_5 : pm_dec mX10_init 5 (.bipush 40, 2) 7 := ⟨dn_16 dk_X10_init_0 5 rfl rfl rfl, rfl⟩
theorem dX10_init_7 : pm_dec mX10_init 7 (.newarray .int, 2) 9 := ⟨dn_188 dk_X10_init_0 7 rfl rfl rfl, rfl⟩
theorem dX10_init_9 : pm_dec mX10_init 9 (.putfield 11, 3) 12 := ⟨dn_181 dk_X10_init_0 9 rfl rfl rfl, rfl⟩
theorem dX10_init_12 : pm_dec mX10_init 12 (.return_, 1) 13 := ⟨dn_177 dk_X10_init_0 12 rfl rfl, rfl⟩
def dt_X8_init_0 : Nat := 0xb11700b51400b7181007591200bb2a0f00b50abc072a0900b50abc072a0300b72a
theorem dk_X8_init_0 : dCh (mX8_init.2.1) 0 33 dt_X8_init_0 := by decide +kernel
theorem dX8_init_0 : pm_dec mX8_init 0 (.aload_n 0, 1) 1 := ⟨dn_42 dk_X8_init_0 0 rfl rfl, rfl⟩
theorem dX8_init_1 : pm_dec mX8_init 1 (.invokespecial 3, 3) 4 := ⟨dn_183 dk_X8_init_0 1 rfl rfl rfl, rfl⟩
theorem dX8_init_4 : pm_dec mX8_init 4 (.aload_n 0, 1) 5 := ⟨dn_42 dk_X8_init_0 4 rfl rfl, rfl⟩
theorem dX8_init_5 : pm_dec mX8_init 5 (.iconst 4, 1) 6 := ⟨dn_7 dk_X8_init_0 5 rfl rfl, rfl⟩
theorem dX8_init_6 : pm_dec mX8_init 6 (.newarray .int, 2) 8 := ⟨dn_188 dk_X8_init_0 6 rfl rfl rfl, rfl⟩
theorem dX8_init_8 : pm_dec mX8_init 8 (.putfield 9, 3) 11 := ⟨dn_181 dk_X8_init_0 8 rfl rfl rfl, rfl⟩
theorem dX8_init_11 : pm_dec mX8_init 11 (.aload_n 0, 1) 12 := ⟨dn_42 dk_X8_init_0 11 rfl rfl, rfl⟩
theorem dX8_init_12 : pm_dec mX8_init 12 (.iconst 4, 1) 13 := ⟨dn_7 dk_X8_init_0 12 rfl rfl, rfl⟩
theorem dX8_init_13 : pm_dec mX8_init 13 (.newarray .int, 2) 15 := ⟨dn_188 dk_X8_init_0 13 rfl rfl rfl, rfl⟩
theorem dX8_init_15 : pm_dec mX8_init 15 (.putfield 15, 3) 18 := ⟨dn_181 dk_X8_init_0 15 rfl rfl rfl, rfl⟩
theorem dX8_init_18 : pm_dec mX8_init 18 (.aload_n 0, 1) 19 := ⟨dn_42 dk_X8_init_0 18 rfl rfl, rfl⟩
theorem dX8_init_19 : pm_dec mX8_init 19 (.new 18, 3) 22 := ⟨dn_187 dk_X8_init_0 19 rfl rfl rfl, rfl⟩
theorem dX8_init_22 : pm_dec mX8_init 22 (.dup, 1) 23 := ⟨dn_89 dk_X8_init_0 22 rfl rfl, rfl⟩
theorem dX8_init_23 : pm_dec mX8_init 23 (.iconst 4, 1) 24 := ⟨dn_7 dk_X8_init_0 23 rfl rfl, rfl⟩
theorem dX8_init_24 : pm_dec mX8_init 24 (.bipush 24, 2) 26 := ⟨dn_16 dk_X8_init_0 24 rfl rfl rfl, rfl⟩
theorem dX8_init_26 : pm_dec mX8_init 26 (.invokespecial 20, 3) 29 := ⟨dn_183 dk_X8_init_0 26 rfl rfl rfl, rfl⟩
theorem dX8_init_29 : pm_dec mX8_init 29 (.putfield 23, 3) 32 := ⟨dn_181 dk_X8_init_0 29 rfl rfl rfl, rfl⟩
theorem dX8_init_32 : pm_dec mX8_init 32 (.return_, 1) 33 := ⟨dn_177 dk_X8_init_0 32 rfl rfl, rfl⟩
def dt_X11_init_0 : Nat := 0x1e00b51b00b71500b42a0c00b42a591900bb2a1500b51200b70c00b42a591000bb2a0c00b50b00b7590900bb2a0300b72a
theorem dk_X11_init_0 : dCh (mX11_init.2.1) 0 49 dt_X11_init_0 := by decide +kernel
theorem dX11_init_0 : pm_dec mX11_init 0 (.aload_n 0, 1) 1 := ⟨dn_42 dk_X11_init_0 0 rfl rfl, rfl⟩
theorem dX11_init_1 : pm_dec mX11_init 1 (.invokespecial 3, 3) 4 := ⟨dn_183 dk_X11_init_0 1 rfl rfl rfl, rfl⟩
theorem dX11_init_4 : pm_dec mX11_init 4 (.aload_n 0, 1) 5 := ⟨dn_42 dk_X11_init_0 4 rfl rfl, rfl⟩
theorem dX11_init_5 : pm_dec mX11_init 5 (.new 9, 3) 8 := ⟨dn_187 dk_X11_init_0 5 rfl rfl rfl, rfl⟩
theorem dX11_init_8 : pm_dec mX11_init 8 (.dup, 1) 9 := ⟨dn_89 dk_X11_init_0 8 rfl rfl, rfl⟩
theorem dX11_init_9 : pm_dec mX11_init 9 (.invokespecial 11, 3) 12 := ⟨dn_183 dk_X11_init_0 9 rfl rfl rfl, rfl⟩
theorem dX11_init_12 : pm_dec mX11_init 12 (.putfield 12, 3) 15 := ⟨dn_181 dk_X11_init_0 12 rfl rfl rfl, rfl⟩
theorem dX11_init_15 : pm_dec mX11_init 15 (.aload_n 0, 1) 16 := ⟨dn_42 dk_X11_init_0 15 rfl rfl, rfl⟩
theorem dX11_init_16 : pm_dec mX11_init 16 (.new 16, 3) 19 := ⟨dn_187 dk_X11_init_0 16 rfl rfl rfl, rfl⟩
theorem dX11_init_19 : pm_dec mX11_init 19 (.dup, 1) 20 := ⟨dn_89 dk_X11_init_0 19 rfl rfl, rfl⟩
theorem dX11_init_20 : pm_dec mX11_init 20 (.aload_n 0, 1) 21 := ⟨dn_42 dk_X11_init_0 20 rfl rfl, rfl⟩
theorem dX11_init_21 : pm_dec mX11_init 21 (.getfield 12, 3) 24 := ⟨dn_180 dk_X11_init_0 21 rfl rfl rfl, rfl⟩
theorem dX11_init_24 : pm_dec mX11_init 24 (.invokespecial 18, 3) 27 := ⟨dn_183 dk_X11_init_0 24 rfl rfl rfl, rfl⟩
theorem dX11_init_27 : pm_dec mX11_init 27 (.putfield 21, 3) 30 := ⟨dn_181 dk_X11_init_0 27 rfl rfl rfl, rfl⟩
theorem dX11_init_30 : pm_dec mX11_init 30 (.aload_n 0, 1) 31 := ⟨dn_42 dk_X11_init_0 30 rfl rfl, rfl⟩
theorem dX11_init_31 : pm_dec mX11_init 31 (.new 25, 3) 34 := ⟨dn_187 dk_X11_init_0 31 rfl rfl rfl, rfl⟩
theorem dX11_init_34 : pm_dec mX11_init 34 (.dup, 1) 35 := ⟨dn_89 dk_X11_init_0 34 rfl rfl, rfl⟩
theorem dX11_init_35 : pm_dec mX11_init 35 (.aload_n 0, 1) 36 := ⟨dn_42 dk_X11_init_0 35 rfl rfl, rfl⟩
theorem dX11_init_36 : pm_dec mX11_init 36 (.getfield 12, 3) 39 := ⟨dn_180 dk_X11_init_0 36 rfl rfl rfl, rfl⟩
theorem dX11_init_39 : pm_dec mX11_init 39 (.aload_n 0, 1) 40 := ⟨dn_42 dk_X11_init_0 39 rfl rfl, rfl⟩
theorem dX11_init_40 : pm_dec mX11_init 40 (.getfield 21, 3) 43 := ⟨dn_180 dk_X11_init_0 40 rfl rfl rfl, rfl⟩
theorem dX11_init_43 : pm_dec mX11_init 43 (.invokespecial 27, 3) 46 := ⟨dn_183 dk_X11_init_0 43 rfl rfl rfl, rfl⟩
theorem dX11_init_46 : pm_dec mX11_init 46 (.putfield 30, 3) 49 := ⟨dn_181 dk_X11_init_0 46 rfl rfl rfl, rfl⟩
def dt_X11_init_49 : Nat := 0x2a593200bb2a2e00b52d00b71500b42a0c00b42a592b00bb2a2700b52400b71e00b42a1500b42a0c00b42a592200bb2a
theorem dk_X11_init_49 : dCh (mX11_init.2.1) 49 48 dt_X11_init_49 := by decide +kernel
theorem dX11_init_49 : pm_dec mX11_init 49 (.aload_n 0, 1) 50 := ⟨dn_42 dk_X11_init_49 0 rfl rfl, rfl⟩
theorem dX11_init_50 : pm_dec mX11_init 50 (.new 34, 3) 53 := ⟨dn_187 dk_X11_init_49 1 rfl rfl rfl, rfl⟩
theorem dX11_init_53 : pm_dec mX11_init 53 (.dup, 1) 54 := ⟨dn_89 dk_X11_init_49 4 rfl rfl, rfl⟩
theorem dX11_init_54 : pm_dec mX11_init 54 (.aload_n 0, 1) 55 := ⟨dn_42 dk_X11_init_49 5 rfl rfl, rfl⟩
theorem dX11_init_55 : pm_dec mX11_init 55 (.getfield 12, 3) 58 := ⟨dn_180 dk_X11_init_49 6 rfl rfl rfl, rfl⟩
theorem dX11_init_58 : pm_dec mX11_init 58 (.aload_n 0, 1) 59 := ⟨dn_42 dk_X11_init_49 9 rfl rfl, rfl⟩
theorem dX11_init_59 : pm_dec mX11_init 59 (.getfield 21, 3) 62 := ⟨dn_180 dk_X11_init_49 10 rfl rfl rfl, rfl⟩
theorem dX11_init_62 : pm_dec mX11_init 62 (.aload_n 0, 1) 63 := ⟨dn_42 dk_X11_init_49 13 rfl rfl, rfl⟩
theorem dX11_init_63 : pm_dec mX11_init 63 (.getfield 30, 3) 66 := ⟨dn_180 dk_X11_init_49 14 rfl rfl rfl, rfl⟩
theorem dX11_init_66 : pm_dec mX11_init 66 (.invokespecial 36, 3) 69 := ⟨dn_183 dk_X11_init_49 17 rfl rfl rfl, rfl⟩
theorem dX11_init_69 : pm_dec mX11_init 69 (.putfield 39, 3) 72 := ⟨dn_181 dk_X11_init_49 20 rfl rfl rfl, rfl⟩
theorem dX11_init_72 : pm_dec mX11_init 72 (.aload_n 0, 1) 73 := ⟨dn_42 dk_X11_init_49 23 rfl rfl, rfl⟩
theorem dX11_init_73 : pm_dec mX11_init 73 (.new 43, 3) 76 := ⟨dn_187 dk_X11_init_49 24 rfl rfl rfl, rfl⟩
theorem dX11_init_76 : pm_dec mX11_init 76 (.dup, 1) 77 := ⟨dn_89 dk_X11_init_49 27 rfl rfl, rfl⟩
theorem dX11_init_77 : pm_dec mX11_init 77 (.aload_n 0, 1) 78 := ⟨dn_42 dk_X11_init_49 28 rfl rfl, rfl⟩
theorem dX11_init_78 : pm_dec mX11_init 78 (.getfield 12, 3) 81 := ⟨dn_180 dk_X11_init_49 29 rfl rfl rfl, rfl⟩
theorem dX11_init_81 : pm_dec mX11_init 81 (.aload_n 0, 1) 82 := ⟨dn_42 dk_X11_init_49 32 rfl rfl, rfl⟩
theorem dX11_init_82 : pm_dec mX11_init 82 (.getfield 21, 3) 85 := ⟨dn_180 dk_X11_init_49 33 rfl rfl rfl, rfl⟩
theorem dX11_init_85 : pm_dec mX11_init 85 (.invokespecial 45, 3) 88 := ⟨dn_183 dk_X11_init_49 36 rfl rfl rfl, rfl⟩
theorem dX11_init_88 : pm_dec mX11_init 88 (.putfield 46, 3) 91 := ⟨dn_181 dk_X11_init_49 39 rfl rfl rfl, rfl⟩
theorem dX11_init_91 : pm_dec mX11_init 91 (.aload_n 0, 1) 92 := ⟨dn_42 dk_X11_init_49 42 rfl rfl, rfl⟩
theorem dX11_init_92 : pm_dec mX11_init 92 (.new 50, 3) 95 := ⟨dn_187 dk_X11_init_49 43 rfl rfl rfl, rfl⟩
theorem dX11_init_95 : pm_dec mX11_init 95 (.dup, 1) 96 := ⟨dn_89 dk_X11_init_49 46 rfl rfl, rfl⟩
theorem dX11_init_96 : pm_dec mX11_init 96 (.aload_n 0, 1) 97 := ⟨dn_42 dk_X11_init_49 47 rfl rfl, rfl⟩
def dt_X11_init_97 : Nat := 0x6102a4a00b54900b7594700bb2a4300b54200b7594000bb2a3c00b53b00b70c00b42a593900bb2a3500b53400b70c00b4
theorem dk_X11_init_97 : dCh (mX11_init.2.1) 97 49 dt_X11_init_97 := by decide +kernel
theorem dX11_init_97 : pm_dec mX11_init 97 (.getfield 12, 3) 100 := ⟨dn_180 dk_X11_init_97 0 rfl rfl rfl, rfl⟩
theorem dX11_init_100 : pm_dec mX11_init 100 (.invokespecial 52, 3) 103 := ⟨dn_183 dk_X11_init_97 3 rfl rfl rfl, rfl⟩
theorem dX11_init_103 : pm_dec mX11_init 103 (.putfield 53, 3) 106 := ⟨dn_181 dk_X11_init_97 6 rfl rfl rfl, rfl⟩
theorem dX11_init_106 : pm_dec mX11_init 106 (.aload_n 0, 1) 107 := ⟨dn_42 dk_X11_init_97 9 rfl rfl, rfl⟩
theorem dX11_init_107 : pm_dec mX11_init 107 (.new 57, 3) 110 := ⟨dn_187 dk_X11_init_97 10 rfl rfl rfl, rfl⟩
theorem dX11_init_110 : pm_dec mX11_init 110 (.dup, 1) 111 := ⟨dn_89 dk_X11_init_97 13 rfl rfl, rfl⟩
theorem dX11_init_111 : pm_dec mX11_init 111 (.aload_n 0, 1) 112 := ⟨dn_42 dk_X11_init_97 14 rfl rfl, rfl⟩
theorem dX11_init_112 : pm_dec mX11_init 112 (.getfield 12, 3) 115 := ⟨dn_180 dk_X11_init_97 15 rfl rfl rfl, rfl⟩
theorem dX11_init_115 : pm_dec mX11_init 115 (.invokespecial 59, 3) 118 := ⟨dn_183 dk_X11_init_97 18 rfl rfl rfl, rfl⟩
theorem dX11_init_118 : pm_dec mX11_init 118 (.putfield 60, 3) 121 := ⟨dn_181 dk_X11_init_97 21 rfl rfl rfl, rfl⟩
theorem dX11_init_121 : pm_dec mX11_init 121 (.aload_n 0, 1) 122 := ⟨dn_42 dk_X11_init_97 24 rfl rfl, rfl⟩
theorem dX11_init_122 : pm_dec mX11_init 122 (.new 64, 3) 125 := ⟨dn_187 dk_X11_init_97 25 rfl rfl rfl, rfl⟩
theorem dX11_init_125 : pm_dec mX11_init 125 (.dup, 1) 126 := ⟨dn_89 dk_X11_init_97 28 rfl rfl, rfl⟩
theorem dX11_init_126 : pm_dec mX11_init 126 (.invokespecial 66, 3) 129 := ⟨dn_183 dk_X11_init_97 29 rfl rfl rfl, rfl⟩
theorem dX11_init_129 : pm_dec mX11_init 129 (.putfield 67, 3) 132 := ⟨dn_181 dk_X11_init_97 32 rfl rfl rfl, rfl⟩
theorem dX11_init_132 : pm_dec mX11_init 132 (.aload_n 0, 1) 133 := ⟨dn_42 dk_X11_init_97 35 rfl rfl, rfl⟩
theorem dX11_init_133 : pm_dec mX11_init 133 (.new 71, 3) 136 := ⟨dn_187 dk_X11_init_97 36 rfl rfl rfl, rfl⟩
theorem dX11_init_136 : pm_dec mX11_init 136 (.dup, 1) 137 := ⟨dn_89 dk_X11_init_97 39 rfl rfl, rfl⟩
theorem dX11_init_137 : pm_dec mX11_init 137 (.invokespecial 73, 3) 140 := ⟨dn_183 dk_X11_init_97 40 rfl rfl rfl, rfl⟩
theorem dX11_init_140 : pm_dec mX11_init 140 (.putfield 74, 3) 143 := ⟨dn_181 dk_X11_init_97 43 rfl rfl rfl, rfl⟩
theorem dX11_init_143 : pm_dec mX11_init 143 (.aload_n 0, 1) 144 := ⟨dn_42 dk_X11_init_97 46 rfl rfl, rfl⟩
theorem dX11_init_144 : pm_dec mX11_init 144 (.bipush 6, 2) 146 := ⟨dn_16 dk_X11_init_97 47 rfl rfl rfl, rfl⟩
def dt_X11_init_146 : Nat := 0xb14e00b50abc
theorem dk_X11_init_146 : dCh (mX11_init.2.1) 146 6 dt_X11_init_146 := by decide +kernel
theorem dX11_init_146 : pm_dec mX11_init 146 (.newarray .int, 2) 148 := ⟨dn_188 dk_X11_init_146 0 rfl rfl rfl, rfl⟩
theorem dX11_init_148 : pm_dec mX11_init 148 (.putfield 78, 3) 151 := ⟨dn_181 dk_X11_init_146 2 rfl rfl rfl, rfl⟩
theorem dX11_init_151 : pm_dec mX11_init 151 (.return_, 1) 152 := ⟨dn_177 dk_X11_init_146 5 rfl rfl, rfl⟩
def dt_X12_init_0 : Nat := 0x3c102a1600b50abc14102a1300b50abc0a102a1000b50abc06102a0d00b50abc1708112a0700b50abc1708112a0100b72a
theorem dk_X12_init_0 : dCh (mX12_init.2.1) 0 49 dt_X12_init_0 := by decide +kernel
theorem dX12_init_0 : pm_dec mX12_init 0 (.aload_n 0, 1) 1 := ⟨dn_42 dk_X12_init_0 0 rfl rfl, rfl⟩
theorem dX12_init_1 : pm_dec mX12_init 1 (.invokespecial 1, 3) 4 := ⟨dn_183 dk_X12_init_0 1 rfl rfl rfl, rfl⟩
theorem dX12_init_4 : pm_dec mX12_init 4 (.aload_n 0, 1) 5 := ⟨dn_42 dk_X12_init_0 4 rfl rfl, rfl⟩
theorem dX12_init_5 : pm_dec mX12_init 5 (.sipush 2071, 3) 8 := ⟨dn_17 dk_X12_init_0 5 rfl rfl rfl, rfl⟩
theorem dX12_init_8 : pm_dec mX12_init 8 (.newarray .int, 2) 10 := ⟨dn_188 dk_X12_init_0 8 rfl rfl rfl, rfl⟩
theorem dX12_init_10 : pm_dec mX12_init 10 (.putfield 7, 3) 13 := ⟨dn_181 dk_X12_init_0 10 rfl rfl rfl, rfl⟩
theorem dX12_init_13 : pm_dec mX12_init 13 (.aload_n 0, 1) 14 := ⟨dn_42 dk_X12_init_0 13 rfl rfl, rfl⟩
theorem dX12_init_14 : pm_dec mX12_init 14 (.sipush 2071, 3) 17 := ⟨dn_17 dk_X12_init_0 14 rfl rfl rfl, rfl⟩
theorem dX12_init_17 : pm_dec mX12_init 17 (.newarray .int, 2) 19 := ⟨dn_188 dk_X12_init_0 17 rfl rfl rfl, rfl⟩
theorem dX12_init_19 : pm_dec mX12_init 19 (.putfield 13, 3) 22 := ⟨dn_181 dk_X12_init_0 19 rfl rfl rfl, rfl⟩
theorem dX12_init_22 : pm_dec mX12_init 22 (.aload_n 0, 1) 23 := ⟨dn_42 dk_X12_init_0 22 rfl rfl, rfl⟩
theorem dX12_init_23 : pm_dec mX12_init 23 (.bipush 6, 2) 25 := ⟨dn_16 dk_X12_init_0 23 rfl rfl rfl, rfl⟩
theorem dX12_init_25 : pm_dec mX12_init 25 (.newarray .int, 2) 27 := ⟨dn_188 dk_X12_init_0 25 rfl rfl rfl, rfl⟩
theorem dX12_init_27 : pm_dec mX12_init 27 (.putfield 16, 3) 30 := ⟨dn_181 dk_X12_init_0 27 rfl rfl rfl, rfl⟩
theorem dX12_init_30 : pm_dec mX12_init 30 (.aload_n 0, 1) 31 := ⟨dn_42 dk_X12_init_0 30 rfl rfl, rfl⟩
theorem dX12_init_31 : pm_dec mX12_init 31 (.bipush 10, 2) 33 := ⟨dn_16 dk_X12_init_0 31 rfl rfl rfl, rfl⟩
theorem dX12_init_33 : pm_dec mX12_init 33 (.newarray .int, 2) 35 := ⟨dn_188 dk_X12_init_0 33 rfl rfl rfl, rfl⟩
theorem dX12_init_35 : pm_dec mX12_init 35 (.putfield 19, 3) 38 := ⟨dn_181 dk_X12_init_0 35 rfl rfl rfl, rfl⟩
theorem dX12_init_38 : pm_dec mX12_init 38 (.aload_n 0, 1) 39 := ⟨dn_42 dk_X12_init_0 38 rfl rfl, rfl⟩
theorem dX12_init_39 : pm_dec mX12_init 39 (.bipush 20, 2) 41 := ⟨dn_16 dk_X12_init_0 39 rfl rfl rfl, rfl⟩
theorem dX12_init_41 : pm_dec mX12_init 41 (.newarray .int, 2) 43 := ⟨dn_188 dk_X12_init_0 41 rfl rfl rfl, rfl⟩
theorem dX12_init_43 : pm_dec mX12_init 43 (.putfield 22, 3) 46 := ⟨dn_181 dk_X12_init_0 43 rfl rfl rfl, rfl⟩
theorem dX12_init_46 : pm_dec mX12_init 46 (.aload_n 0, 1) 47 := ⟨dn_42 dk_X12_init_0 46 rfl rfl, rfl⟩
theorem dX12_init_47 : pm_dec mX12_init 47 (.bipush 60, 2) 49 := ⟨dn_16 dk_X12_init_0 47 rfl rfl rfl, rfl⟩
def dt_X12_init_49 : Nat := 0xabc082a2800b50abc14102a2500b50abc14102a2200b50abc0b102a1f00b50abc3c102a1c00b50abc3c102a1900b50abc
theorem dk_X12_init_49 : dCh (mX12_init.2.1) 49 49 dt_X12_init_49 := by decide +kernel
theorem dX12_init_49 : pm_dec mX12_init 49 (.newarray .int, 2) 51 := ⟨dn_188 dk_X12_init_49 0 rfl rfl rfl, rfl⟩
theorem dX12_init_51 : pm_dec mX12_init 51 (.putfield 25, 3) 54 := ⟨dn_181 dk_X12_init_49 2 rfl rfl rfl, rfl⟩
theorem dX12_init_54 : pm_dec mX12_init 54 (.aload_n 0, 1) 55 := ⟨dn_42 dk_X12_init_49 5 rfl rfl, rfl⟩
theorem dX12_init_55 : pm_dec mX12_init 55 (.bipush 60, 2) 57 := ⟨dn_16 dk_X12_init_49 6 rfl rfl rfl, rfl⟩
theorem dX12_init_57 : pm_dec mX12_init 57 (.newarray .int, 2) 59 := ⟨dn_188 dk_X12_init_49 8 rfl rfl rfl, rfl⟩
theorem dX12_init_59 : pm_dec mX12_init 59 (.putfield 28, 3) 62 := ⟨dn_181 dk_X12_init_49 10 rfl rfl rfl, rfl⟩
theorem dX12_init_62 : pm_dec mX12_init 62 (.aload_n 0, 1) 63 := ⟨dn_42 dk_X12_init_49 13 rfl rfl, rfl⟩
theorem dX12_init_63 : pm_dec mX12_init 63 (.bipush 60, 2) 65 := ⟨dn_16 dk_X12_init_49 14 rfl rfl rfl, rfl⟩
theorem dX12_init_65 : pm_dec mX12_init 65 (.newarray .int, 2) 67 := ⟨dn_188 dk_X12_init_49 16 rfl rfl rfl, rfl⟩
theorem dX12_init_67 : pm_dec mX12_init 67 (.putfield 31, 3) 70 := ⟨dn_181 dk_X12_init_49 18 rfl rfl rfl, rfl⟩
theorem dX12_init_70 : pm_dec mX12_init 70 (.aload_n 0, 1) 71 := ⟨dn_42 dk_X12_init_49 21 rfl rfl, rfl⟩
theorem dX12_init_71 : pm_dec mX12_init 71 (.bipush 11, 2) 73 := ⟨dn_16 dk_X12_init_49 22 rfl rfl rfl, rfl⟩
theorem dX12_init_73 : pm_dec mX12_init 73 (.newarray .int, 2) 75 := ⟨dn_188 dk_X12_init_49 24 rfl rfl rfl, rfl⟩
theorem dX12_init_75 : pm_dec mX12_init 75 (.putfield 34, 3) 78 := ⟨dn_181 dk_X12_init_49 26 rfl rfl rfl, rfl⟩
theorem dX12_init_78 : pm_dec mX12_init 78 (.aload_n 0, 1) 79 := ⟨dn_42 dk_X12_init_49 29 rfl rfl, rfl⟩
theorem dX12_init_79 : pm_dec mX12_init 79 (.bipush 20, 2) 81 := ⟨dn_16 dk_X12_init_49 30 rfl rfl rfl, rfl⟩
theorem dX12_init_81 : pm_dec mX12_init 81 (.newarray .int, 2) 83 := ⟨dn_188 dk_X12_init_49 32 rfl rfl rfl, rfl⟩
theorem dX12_init_83 : pm_dec mX12_init 83 (.putfield 37, 3) 86 := ⟨dn_181 dk_X12_init_49 34 rfl rfl rfl, rfl⟩
theorem dX12_init_86 : pm_dec mX12_init 86 (.aload_n 0, 1) 87 := ⟨dn_42 dk_X12_init_49 37 rfl rfl, rfl⟩
theorem dX12_init_87 : pm_dec mX12_init 87 (.bipush 20, 2) 89 := ⟨dn_16 dk_X12_init_49 38 rfl rfl rfl, rfl⟩
theorem dX12_init_89 : pm_dec mX12_init 89 (.newarray .int, 2) 91 := ⟨dn_188 dk_X12_init_49 40 rfl rfl rfl, rfl⟩
theorem dX12_init_91 : pm_dec mX12_init 91 (.putfield 40, 3) 94 := ⟨dn_181 dk_X12_init_49 42 rfl rfl rfl, rfl⟩
theorem dX12_init_94 : pm_dec mX12_init 94 (.aload_n 0, 1) 95 := ⟨dn_42 dk_X12_init_49 45 rfl rfl, rfl⟩
theorem dX12_init_95 : pm_dec mX12_init 95 (.iconst 5, 1) 96 := ⟨dn_8 dk_X12_init_49 46 rfl rfl, rfl⟩
theorem dX12_init_96 : pm_dec mX12_init 96 (.newarray .int, 2) 98 := ⟨dn_188 dk_X12_init_49 47 rfl rfl rfl, rfl⟩
def dt_X12_init_98 : Nat := 0x3d00b50abc60102a3a00b50abc072a3700b50abc072a3400b50abc28102a3100b50abc08102a2e00b50abc08102a2b00b5
theorem dk_X12_init_98 : dCh (mX12_init.2.1) 98 49 dt_X12_init_98 := by decide +kernel
theorem dX12_init_98 : pm_dec mX12_init 98 (.putfield 43, 3) 101 := ⟨dn_181 dk_X12_init_98 0 rfl rfl rfl, rfl⟩
theorem dX12_init_101 : pm_dec mX12_init 101 (.aload_n 0, 1) 102 := ⟨dn_42 dk_X12_init_98 3 rfl rfl, rfl⟩
theorem dX12_init_102 : pm_dec mX12_init 102 (.bipush 8, 2) 104 := ⟨dn_16 dk_X12_init_98 4 rfl rfl rfl, rfl⟩
theorem dX12_init_104 : pm_dec mX12_init 104 (.newarray .int, 2) 106 := ⟨dn_188 dk_X12_init_98 6 rfl rfl rfl, rfl⟩
theorem dX12_init_106 : pm_dec mX12_init 106 (.putfield 46, 3) 109 := ⟨dn_181 dk_X12_init_98 8 rfl rfl rfl, rfl⟩
theorem dX12_init_109 : pm_dec mX12_init 109 (.aload_n 0, 1) 110 := ⟨dn_42 dk_X12_init_98 11 rfl rfl, rfl⟩
theorem dX12_init_110 : pm_dec mX12_init 110 (.bipush 8, 2) 112 := ⟨dn_16 dk_X12_init_98 12 rfl rfl rfl, rfl⟩
theorem dX12_init_112 : pm_dec mX12_init 112 (.newarray .int, 2) 114 := ⟨dn_188 dk_X12_init_98 14 rfl rfl rfl, rfl⟩
theorem dX12_init_114 : pm_dec mX12_init 114 (.putfield 49, 3) 117 := ⟨dn_181 dk_X12_init_98 16 rfl rfl rfl, rfl⟩
theorem dX12_init_117 : pm_dec mX12_init 117 (.aload_n 0, 1) 118 := ⟨dn_42 dk_X12_init_98 19 rfl rfl, rfl⟩
theorem dX12_init_118 : pm_dec mX12_init 118 (.bipush 40, 2) 120 := ⟨dn_16 dk_X12_init_98 20 rfl rfl rfl, rfl⟩
theorem dX12_init_120 : pm_dec mX12_init 120 (.newarray .int, 2) 122 := ⟨dn_188 dk_X12_init_98 22 rfl rfl rfl, rfl⟩
theorem dX12_init_122 : pm_dec mX12_init 122 (.putfield 52, 3) 125 := ⟨dn_181 dk_X12_init_98 24 rfl rfl rfl, rfl⟩
theorem dX12_init_125 : pm_dec mX12_init 125 (.aload_n 0, 1) 126 := ⟨dn_42 dk_X12_init_98 27 rfl rfl, rfl⟩
theorem dX12_init_126 : pm_dec mX12_init 126 (.iconst 4, 1) 127 := ⟨dn_7 dk_X12_init_98 28 rfl rfl, rfl⟩
theorem dX12_init_127 : pm_dec mX12_init 127 (.newarray .int, 2) 129 := ⟨dn_188 dk_X12_init_98 29 rfl rfl rfl, rfl⟩
theorem dX12_init_129 : pm_dec mX12_init 129 (.putfield 55, 3) 132 := ⟨dn_181 dk_X12_init_98 31 rfl rfl rfl, rfl⟩
theorem dX12_init_132 : pm_dec mX12_init 132 (.aload_n 0, 1) 133 := ⟨dn_42 dk_X12_init_98 34 rfl rfl, rfl⟩
theorem dX12_init_133 : pm_dec mX12_init 133 (.iconst 4, 1) 134 := ⟨dn_7 dk_X12_init_98 35 rfl rfl, rfl⟩
theorem dX12_init_134 : pm_dec mX12_init 134 (.newarray .int, 2) 136 := ⟨dn_188 dk_X12_init_98 36 rfl rfl rfl, rfl⟩
theorem dX12_init_136 : pm_dec mX12_init 136 (.putfield 58, 3) 139 := ⟨dn_181 dk_X12_init_98 38 rfl rfl rfl, rfl⟩
theorem dX12_init_139 : pm_dec mX12_init 139 (.aload_n 0, 1) 140 := ⟨dn_42 dk_X12_init_98 41 rfl rfl, rfl⟩
theorem dX12_init_140 : pm_dec mX12_init 140 (.bipush 96, 2) 142 := ⟨dn_16 dk_X12_init_98 42 rfl rfl rfl, rfl⟩
theorem dX12_init_142 : pm_dec mX12_init 142 (.newarray .int, 2) 144 := ⟨dn_188 dk_X12_init_98 44 rfl rfl rfl, rfl⟩
theorem dX12_init_144 : pm_dec mX12_init 144 (.putfield 61, 3) 147 := ⟨dn_181 dk_X12_init_98 46 rfl rfl rfl, rfl⟩
def dt_X12_init_147 : Nat := 0xb14fe8031109100700b42a4000b50abc18102a
theorem dk_X12_init_147 : dCh (mX12_init.2.1) 147 19 dt_X12_init_147 := by decide +kernel
theorem dX12_init_147 : pm_dec mX12_init 147 (.aload_n 0, 1) 148 := ⟨dn_42 dk_X12_init_147 0 rfl rfl, rfl⟩
theorem dX12_init_148 : pm_dec mX12_init 148 (.bipush 24, 2) 150 := ⟨dn_16 dk_X12_init_147 1 rfl rfl rfl, rfl⟩
theorem dX12_init_150 : pm_dec mX12_init 150 (.newarray .int, 2) 152 := ⟨dn_188 dk_X12_init_147 3 rfl rfl rfl, rfl⟩
theorem dX12_init_152 : pm_dec mX12_init 152 (.putfield 64, 3) 155 := ⟨dn_181 dk_X12_init_147 5 rfl rfl rfl, rfl⟩
theorem dX12_init_155 : pm_dec mX12_init 155 (.aload_n 0, 1) 156 := ⟨dn_42 dk_X12_init_147 8 rfl rfl, rfl⟩
theorem dX12_init_156 : pm_dec mX12_init 156 (.getfield 7, 3) 159 := ⟨dn_180 dk_X12_init_147 9 rfl rfl rfl, rfl⟩
theorem dX12_init_159 : pm_dec mX12_init 159 (.bipush 9, 2) 161 := ⟨dn_16 dk_X12_init_147 12 rfl rfl rfl, rfl⟩
theorem dX12_init_161 : pm_dec mX12_init 161 (.sipush 1000, 3) 164 := ⟨dn_17 dk_X12_init_147 14 rfl rfl rfl, rfl⟩
theorem dX12_init_164 : pm_dec mX12_init 164 (.iastore, 1) 165 := ⟨dn_79 dk_X12_init_147 17 rfl rfl, rfl⟩
theorem dX12_init_165 : pm_dec mX12_init 165 (.return_, 1) 166 := ⟨dn_177 dk_X12_init_147 18 rfl rfl, rfl⟩
/-! ===== decode rows and links, by program ===== -/
theorem flX9_29 (M : pm_M) (h : M.1.cls = RX9) : pm_fl M 29 9 3 := ⟨RX9, TX9, 4, rfl, by decide, Or.inl (by rw [h]; exact (pm_it1 52 rfl (by decide +kernel)))⟩
theorem flX9_16 (M : pm_M) (h : M.1.cls = RX9) : pm_fl M 16 9 0 := ⟨RX9, TX9, 4, rfl, by decide, Or.inl (by rw [h]; exact (pm_it1 49 rfl (by decide +kernel)))⟩
theorem flX9_22 (M : pm_M) (h : M.1.cls = RX9) : pm_fl M 22 9 1 := ⟨RX9, TX9, 4, rfl, by decide, Or.inl (by rw [h]; exact (pm_it1 50 rfl (by decide +kernel)))⟩
theorem flX9_25 (M : pm_M) (h : M.1.cls = RX9) : pm_fl M 25 9 2 := ⟨RX9, TX9, 4, rfl, by decide, Or.inl (by rw [h]; exact (pm_it1 51 rfl (by decide +kernel)))⟩
theorem oiX9_1 (M : pm_M) (h : M.1.cls = RX9) : Cond.methodLink M.1.cls 1 Lib.objectInit ∈ pm_tbl := by rw [h]; exact (pm_it1 42 rfl (by decide +kernel))
theorem mmX9_7 (M : pm_M) (h : M.1.cls = RX9) : Cond.methodLink M.1.cls 7 Lib.Math.min.name ∈ pm_tbl := by rw [h]; exact (pm_it1 43 rfl (by decide +kernel))
theorem mmX9_13 (M : pm_M) (h : M.1.cls = RX9) : Cond.methodLink M.1.cls 13 Lib.Math.max.name ∈ pm_tbl := by rw [h]; exact (pm_it1 46 rfl (by decide +kernel))
theorem ffX9_16 (M : pm_M) (h : M.1.cls = RX9) (h2 : M.1.name = "<init>") : pm_flf M 16 9 0 .int := ⟨RX9, TX9, 4, rfl, by decide, by rw [h]; exact (pm_it1 49 rfl (by decide +kernel)), rfl, by decide +kernel, h2, h.symm⟩
theorem ffX9_22 (M : pm_M) (h : M.1.cls = RX9) (h2 : M.1.name = "<init>") : pm_flf M 22 9 1 .int := ⟨RX9, TX9, 4, rfl, by decide, by rw [h]; exact (pm_it1 50 rfl (by decide +kernel)), rfl, by decide +kernel, h2, h.symm⟩
theorem ffX9_25 (M : pm_M) (h : M.1.cls = RX9) (h2 : M.1.name = "<init>") : pm_flf M 25 9 2 (.array .int) := ⟨RX9, TX9, 4, rfl, by decide, by rw [h]; exact (pm_it1 51 rfl (by decide +kernel)), rfl, by decide +kernel, h2, h.symm⟩
theorem lkX9_43 (M : pm_M) (h : M.1.cls = RX9) : pm_lk M 43 mJ7_fill_53178 := Or.inl (by rw [h]; exact (pm_it1 67 rfl (by decide +kernel)))
theorem pd___II_V : (parseMethodDescriptor "([II)V").map (fun d => d.parameters.length) = some 2 := by decide +kernel
theorem cn_J7 : RJ7 ≠ "java/lang/invoke/MethodHandle" ∧ RJ7 ≠ "java/lang/invoke/VarHandle" := by decide +kernel
theorem okS_J7_fill_53178 : pm_mokS mJ7_fill_53178 2 := ⟨⟨⟨(pm_it1 69 rfl (by decide +kernel)), (pm_it1 5 rfl (by decide +kernel))⟩, ⟨cn_J7.1, cn_J7.2, pd___II_V⟩, by decide⟩, (pm_it1 68 rfl (by decide +kernel))⟩
theorem oiX7_3 (M : pm_M) (h : M.1.cls = RX7) : Cond.methodLink M.1.cls 3 Lib.objectInit ∈ pm_tbl := by rw [h]; exact (pm_it1 36 rfl (by decide +kernel))
theorem nwX7_9 (M : pm_M) (h : M.1.cls = RX7) : pm_nw M 9 9 [.int 0, .int 0, .null, .int 0] := by
  refine ⟨RX9, TX9, 4, tyX9, rfl, rfl, tyX9_ok, ?_, by rw [h]; exact (pm_it1 37 rfl (by decide +kernel)), (pm_it1 38 rfl (by decide +kernel)), (pm_it1 3 rfl (by decide +kernel))⟩
  exact fun k hk => by
    match k, hk with
    | 0, _ => rfl
    | 1, _ => rfl
    | 2, _ => rfl
    | 3, _ => rfl
    | k + 4, hk => omega
theorem lkX7_11 (M : pm_M) (h : M.1.cls = RX7) : pm_lk M 11 mX9_init := Or.inl (by rw [h]; exact (pm_it1 39 rfl (by decide +kernel)))
theorem pd__II_V : (parseMethodDescriptor "(II)V").map (fun d => d.parameters.length) = some 2 := by decide +kernel
theorem cn_X9 : RX9 ≠ "java/lang/invoke/MethodHandle" ∧ RX9 ≠ "java/lang/invoke/VarHandle" := by decide +kernel
theorem okI_X9_init : pm_mokI mX9_init 2 := ⟨⟨⟨(pm_it1 41 rfl (by decide +kernel)), (pm_it1 3 rfl (by decide +kernel))⟩, ⟨cn_X9.1, cn_X9.2, pd__II_V⟩, by decide⟩, rfl, (pm_it1 40 rfl (by decide +kernel)), rfl⟩
theorem ffX7_14 (M : pm_M) (h : M.1.cls = RX7) (h2 : M.1.name = "<init>") : pm_flf M 14 7 0 (.object "SealCouncil$Table") := ⟨RX7, TX7, 15, rfl, by decide, by rw [h]; exact (pm_it1 74 rfl (by decide +kernel)), rfl, by decide +kernel, h2, h.symm⟩
theorem ffX7_20 (M : pm_M) (h : M.1.cls = RX7) (h2 : M.1.name = "<init>") : pm_flf M 20 7 1 (.object "SealCouncil$Table") := ⟨RX7, TX7, 15, rfl, by decide, by rw [h]; exact (pm_it1 78 rfl (by decide +kernel)), rfl, by decide +kernel, h2, h.symm⟩
theorem ffX7_23 (M : pm_M) (h : M.1.cls = RX7) (h2 : M.1.name = "<init>") : pm_flf M 23 7 2 (.object "SealCouncil$Table") := ⟨RX7, TX7, 15, rfl, by decide, by rw [h]; exact (pm_it1 79 rfl (by decide +kernel)), rfl, by decide +kernel, h2, h.symm⟩
theorem ffX7_26 (M : pm_M) (h : M.1.cls = RX7) (h2 : M.1.name = "<init>") : pm_flf M 26 7 3 (.object "SealCouncil$Table") := ⟨RX7, TX7, 15, rfl, by decide, by rw [h]; exact (pm_it1 85 rfl (by decide +kernel)), rfl, by decide +kernel, h2, h.symm⟩
theorem ffX7_29 (M : pm_M) (h : M.1.cls = RX7) (h2 : M.1.name = "<init>") : pm_flf M 29 7 4 (.object "SealCouncil$Table") := ⟨RX7, TX7, 15, rfl, by decide, by rw [h]; exact (pm_it1 91 rfl (by decide +kernel)), rfl, by decide +kernel, h2, h.symm⟩
theorem ffX7_32 (M : pm_M) (h : M.1.cls = RX7) (h2 : M.1.name = "<init>") : pm_flf M 32 7 5 (.object "SealCouncil$Table") := ⟨RX7, TX7, 15, rfl, by decide, by rw [h]; exact (pm_it1 95 rfl (by decide +kernel)), rfl, by decide +kernel, h2, h.symm⟩
theorem ffX7_35 (M : pm_M) (h : M.1.cls = RX7) (h2 : M.1.name = "<init>") : pm_flf M 35 7 6 (.object "SealCouncil$Table") := ⟨RX7, TX7, 15, rfl, by decide, by rw [h]; exact (pm_it1 98 rfl (by decide +kernel)), rfl, by decide +kernel, h2, h.symm⟩
theorem ffX7_38 (M : pm_M) (h : M.1.cls = RX7) (h2 : M.1.name = "<init>") : pm_flf M 38 7 7 (.object "SealCouncil$Table") := ⟨RX7, TX7, 15, rfl, by decide, by rw [h]; exact (pm_it1 101 rfl (by decide +kernel)), rfl, by decide +kernel, h2, h.symm⟩
theorem ffX7_41 (M : pm_M) (h : M.1.cls = RX7) (h2 : M.1.name = "<init>") : pm_flf M 41 7 8 (.object "SealCouncil$Table") := ⟨RX7, TX7, 15, rfl, by decide, by rw [h]; exact (pm_it1 104 rfl (by decide +kernel)), rfl, by decide +kernel, h2, h.symm⟩
theorem ffX7_44 (M : pm_M) (h : M.1.cls = RX7) (h2 : M.1.name = "<init>") : pm_flf M 44 7 9 (.object "SealCouncil$Table") := ⟨RX7, TX7, 15, rfl, by decide, by rw [h]; exact (pm_it1 106 rfl (by decide +kernel)), rfl, by decide +kernel, h2, h.symm⟩
theorem ffX7_47 (M : pm_M) (h : M.1.cls = RX7) (h2 : M.1.name = "<init>") : pm_flf M 47 7 10 (.object "SealCouncil$Table") := ⟨RX7, TX7, 15, rfl, by decide, by rw [h]; exact (pm_it1 109 rfl (by decide +kernel)), rfl, by decide +kernel, h2, h.symm⟩
theorem ffX7_50 (M : pm_M) (h : M.1.cls = RX7) (h2 : M.1.name = "<init>") : pm_flf M 50 7 11 (.object "SealCouncil$Table") := ⟨RX7, TX7, 15, rfl, by decide, by rw [h]; exact (pm_it1 112 rfl (by decide +kernel)), rfl, by decide +kernel, h2, h.symm⟩
theorem fwX7_53 (M : pm_M) (h : M.1.cls = RX7) : pm_flw M 53 7 14 .int := ⟨RX7, TX7, 15, rfl, by decide, by rw [h]; exact (pm_it1 122 rfl (by decide +kernel)), rfl, by decide +kernel⟩
theorem flX7_20 (M : pm_M) (h : M.1.cls = RX7) : pm_fl M 20 7 1 := ⟨RX7, TX7, 15, rfl, by decide, Or.inl (by rw [h]; exact (pm_it1 78 rfl (by decide +kernel)))⟩
theorem lkX7_57 (M : pm_M) (h : M.1.cls = RX7) : pm_lk M 57 mX9_fill := Or.inl (by rw [h]; exact (pm_it1 63 rfl (by decide +kernel)))
theorem pd__I_V : (parseMethodDescriptor "(I)V").map (fun d => d.parameters.length) = some 1 := by decide +kernel
theorem okV_X9_fill : pm_mokV mX9_fill 1 := ⟨⟨⟨(pm_it1 66 rfl (by decide +kernel)), (pm_it1 3 rfl (by decide +kernel))⟩, ⟨cn_X9.1, cn_X9.2, pd__I_V⟩, by decide⟩, (pm_it1 64 rfl (by decide +kernel)), (pm_it1 65 rfl (by decide +kernel))⟩
theorem lkX7_61 (M : pm_M) (h : M.1.cls = RX7) : pm_lk M 61 mX9_set := Or.inl (by rw [h]; exact (pm_it1 70 rfl (by decide +kernel)))
theorem pd__III_V : (parseMethodDescriptor "(III)V").map (fun d => d.parameters.length) = some 3 := by decide +kernel
theorem okV_X9_set : pm_mokV mX9_set 3 := ⟨⟨⟨(pm_it1 73 rfl (by decide +kernel)), (pm_it1 3 rfl (by decide +kernel))⟩, ⟨cn_X9.1, cn_X9.2, pd__III_V⟩, by decide⟩, (pm_it1 71 rfl (by decide +kernel)), (pm_it1 72 rfl (by decide +kernel))⟩
theorem oiX6_3 (M : pm_M) (h : M.1.cls = RX6) : Cond.methodLink M.1.cls 3 Lib.objectInit ∈ pm_tbl := by rw [h]; exact (pm_it1 167 rfl (by decide +kernel))
theorem ffX6_9 (M : pm_M) (h : M.1.cls = RX6) (h2 : M.1.name = "<init>") : pm_flf M 9 6 0 (.object "SealCouncil$Table") := ⟨RX6, TX6, 4, rfl, by decide, by rw [h]; exact (pm_it1 170 rfl (by decide +kernel)), rfl, by decide +kernel, h2, h.symm⟩
theorem nwX6_15 (M : pm_M) (h : M.1.cls = RX6) : pm_nw M 15 9 [.int 0, .int 0, .null, .int 0] := by
  refine ⟨RX9, TX9, 4, tyX9, rfl, rfl, tyX9_ok, ?_, by rw [h]; exact (pm_it1 168 rfl (by decide +kernel)), (pm_it1 38 rfl (by decide +kernel)), (pm_it1 3 rfl (by decide +kernel))⟩
  exact fun k hk => by
    match k, hk with
    | 0, _ => rfl
    | 1, _ => rfl
    | 2, _ => rfl
    | 3, _ => rfl
    | k + 4, hk => omega
theorem lkX6_17 (M : pm_M) (h : M.1.cls = RX6) : pm_lk M 17 mX9_init := Or.inl (by rw [h]; exact (pm_it1 169 rfl (by decide +kernel)))
theorem ffX6_20 (M : pm_M) (h : M.1.cls = RX6) (h2 : M.1.name = "<init>") : pm_flf M 20 6 1 (.object "SealCouncil$Table") := ⟨RX6, TX6, 4, rfl, by decide, by rw [h]; exact (pm_it1 171 rfl (by decide +kernel)), rfl, by decide +kernel, h2, h.symm⟩
theorem oiX2_3 (M : pm_M) (h : M.1.cls = RX2) : Cond.methodLink M.1.cls 3 Lib.objectInit ∈ pm_tbl := by rw [h]; exact (pm_it1 161 rfl (by decide +kernel))
theorem ffX2_9 (M : pm_M) (h : M.1.cls = RX2) (h2 : M.1.name = "<init>") : pm_flf M 9 2 0 (.object "SealCouncil$Realm") := ⟨RX2, TX2, 4, rfl, by decide, by rw [h]; exact (pm_it1 184 rfl (by decide +kernel)), rfl, by decide +kernel, h2, h.symm⟩
theorem nwX2_15 (M : pm_M) (h : M.1.cls = RX2) : pm_nw M 15 6 [.null, .null, .int 0, .int 0] := by
  refine ⟨RX6, TX6, 4, tyX6, rfl, rfl, tyX6_ok, ?_, by rw [h]; exact (pm_it1 162 rfl (by decide +kernel)), (pm_it1 163 rfl (by decide +kernel)), (pm_it1 7 rfl (by decide +kernel))⟩
  exact fun k hk => by
    match k, hk with
    | 0, _ => rfl
    | 1, _ => rfl
    | 2, _ => rfl
    | 3, _ => rfl
    | k + 4, hk => omega
theorem flX2_17 (M : pm_M) (h : M.1.cls = RX2) : pm_fl M 17 7 11 := ⟨RX7, TX7, 15, rfl, by decide, Or.inr ⟨"SealCouncil", by rw [h]; exact (pm_in1 111 rfl (by decide +kernel))⟩⟩
theorem lkX2_23 (M : pm_M) (h : M.1.cls = RX2) : pm_lk M 23 mX6_init := Or.inl (by rw [h]; exact (pm_it1 164 rfl (by decide +kernel)))
theorem pd__LSealCouncil_Table__V : (parseMethodDescriptor "(LSealCouncil$Table;)V").map (fun d => d.parameters.length) = some 1 := by decide +kernel
theorem cn_X6 : RX6 ≠ "java/lang/invoke/MethodHandle" ∧ RX6 ≠ "java/lang/invoke/VarHandle" := by decide +kernel
theorem okI_X6_init : pm_mokI mX6_init 1 := ⟨⟨⟨(pm_it1 166 rfl (by decide +kernel)), (pm_it1 7 rfl (by decide +kernel))⟩, ⟨cn_X6.1, cn_X6.2, pd__LSealCouncil_Table__V⟩, by decide⟩, rfl, (pm_it1 165 rfl (by decide +kernel)), rfl⟩
theorem ffX2_26 (M : pm_M) (h : M.1.cls = RX2) (h2 : M.1.name = "<init>") : pm_flf M 26 2 1 (.object "SealCouncil$Reader") := ⟨RX2, TX2, 4, rfl, by decide, by rw [h]; exact (pm_it1 185 rfl (by decide +kernel)), rfl, by decide +kernel, h2, h.symm⟩
theorem ffX2_30 (M : pm_M) (h : M.1.cls = RX2) (h2 : M.1.name = "<init>") : pm_flf M 30 2 2 (.array .int) := ⟨RX2, TX2, 4, rfl, by decide, by rw [h]; exact (pm_it1 186 rfl (by decide +kernel)), rfl, by decide +kernel, h2, h.symm⟩
theorem oiX0_3 (M : pm_M) (h : M.1.cls = RX0) : Cond.methodLink M.1.cls 3 Lib.objectInit ∈ pm_tbl := by rw [h]; exact (pm_it1 202 rfl (by decide +kernel))
theorem ffX0_9 (M : pm_M) (h : M.1.cls = RX0) (h2 : M.1.name = "<init>") : pm_flf M 9 0 0 (.object "SealCouncil$Realm") := ⟨RX0, TX0, 9, rfl, by decide, by rw [h]; exact (pm_it1 205 rfl (by decide +kernel)), rfl, by decide +kernel, h2, h.symm⟩
theorem ffX0_15 (M : pm_M) (h : M.1.cls = RX0) (h2 : M.1.name = "<init>") : pm_flf M 15 0 1 (.object "SealCouncil$Laws") := ⟨RX0, TX0, 9, rfl, by decide, by rw [h]; exact (pm_it1 206 rfl (by decide +kernel)), rfl, by decide +kernel, h2, h.symm⟩
theorem flX0_19 (M : pm_M) (h : M.1.cls = RX0) : pm_fl M 19 7 8 := ⟨RX7, TX7, 15, rfl, by decide, Or.inr ⟨"SealCouncil", by rw [h]; exact (pm_in1 103 rfl (by decide +kernel))⟩⟩
theorem ffX0_25 (M : pm_M) (h : M.1.cls = RX0) (h2 : M.1.name = "<init>") : pm_flf M 25 0 2 (.object "SealCouncil$Table") := ⟨RX0, TX0, 9, rfl, by decide, by rw [h]; exact (pm_it1 207 rfl (by decide +kernel)), rfl, by decide +kernel, h2, h.symm⟩
theorem nwX0_28 (M : pm_M) (h : M.1.cls = RX0) : pm_nw M 28 9 [.int 0, .int 0, .null, .int 0] := by
  refine ⟨RX9, TX9, 4, tyX9, rfl, rfl, tyX9_ok, ?_, by rw [h]; exact (pm_it1 203 rfl (by decide +kernel)), (pm_it1 38 rfl (by decide +kernel)), (pm_it1 3 rfl (by decide +kernel))⟩
  exact fun k hk => by
    match k, hk with
    | 0, _ => rfl
    | 1, _ => rfl
    | 2, _ => rfl
    | 3, _ => rfl
    | k + 4, hk => omega
theorem lkX0_30 (M : pm_M) (h : M.1.cls = RX0) : pm_lk M 30 mX9_init := Or.inl (by rw [h]; exact (pm_it1 204 rfl (by decide +kernel)))
theorem ffX0_33 (M : pm_M) (h : M.1.cls = RX0) (h2 : M.1.name = "<init>") : pm_flf M 33 0 3 (.object "SealCouncil$Table") := ⟨RX0, TX0, 9, rfl, by decide, by rw [h]; exact (pm_it1 208 rfl (by decide +kernel)), rfl, by decide +kernel, h2, h.symm⟩
theorem ffX0_36 (M : pm_M) (h : M.1.cls = RX0) (h2 : M.1.name = "<init>") : pm_flf M 36 0 4 (.object "SealCouncil$Table") := ⟨RX0, TX0, 9, rfl, by decide, by rw [h]; exact (pm_it1 209 rfl (by decide +kernel)), rfl, by decide +kernel, h2, h.symm⟩
theorem oiX3_3 (M : pm_M) (h : M.1.cls = RX3) : Cond.methodLink M.1.cls 3 Lib.objectInit ∈ pm_tbl := by rw [h]; exact (pm_it2 2 rfl (by decide +kernel))
theorem ffX3_9 (M : pm_M) (h : M.1.cls = RX3) (h2 : M.1.name = "<init>") : pm_flf M 9 3 0 (.object "SealCouncil$Realm") := ⟨RX3, TX3, 4, rfl, by decide, by rw [h]; exact (pm_it2 3 rfl (by decide +kernel)), rfl, by decide +kernel, h2, h.symm⟩
theorem ffX3_15 (M : pm_M) (h : M.1.cls = RX3) (h2 : M.1.name = "<init>") : pm_flf M 15 3 1 (.object "SealCouncil$Laws") := ⟨RX3, TX3, 4, rfl, by decide, by rw [h]; exact (pm_it2 4 rfl (by decide +kernel)), rfl, by decide +kernel, h2, h.symm⟩
theorem ffX3_19 (M : pm_M) (h : M.1.cls = RX3) (h2 : M.1.name = "<init>") : pm_flf M 19 3 2 (.object "SealCouncil$Council") := ⟨RX3, TX3, 4, rfl, by decide, by rw [h]; exact (pm_it2 5 rfl (by decide +kernel)), rfl, by decide +kernel, h2, h.symm⟩
theorem flX3_23 (M : pm_M) (h : M.1.cls = RX3) : pm_fl M 23 7 6 := ⟨RX7, TX7, 15, rfl, by decide, Or.inr ⟨"SealCouncil", by rw [h]; exact (pm_in1 97 rfl (by decide +kernel))⟩⟩
theorem ffX3_29 (M : pm_M) (h : M.1.cls = RX3) (h2 : M.1.name = "<init>") : pm_flf M 29 3 3 (.object "SealCouncil$Table") := ⟨RX3, TX3, 4, rfl, by decide, by rw [h]; exact (pm_it2 6 rfl (by decide +kernel)), rfl, by decide +kernel, h2, h.symm⟩
theorem oiX4_3 (M : pm_M) (h : M.1.cls = RX4) : Cond.methodLink M.1.cls 3 Lib.objectInit ∈ pm_tbl := by rw [h]; exact (pm_it2 21 rfl (by decide +kernel))
theorem ffX4_9 (M : pm_M) (h : M.1.cls = RX4) (h2 : M.1.name = "<init>") : pm_flf M 9 4 0 (.object "SealCouncil$Realm") := ⟨RX4, TX4, 3, rfl, by decide, by rw [h]; exact (pm_it2 24 rfl (by decide +kernel)), rfl, by decide +kernel, h2, h.symm⟩
theorem ffX4_15 (M : pm_M) (h : M.1.cls = RX4) (h2 : M.1.name = "<init>") : pm_flf M 15 4 1 (.object "SealCouncil$Laws") := ⟨RX4, TX4, 3, rfl, by decide, by rw [h]; exact (pm_it2 25 rfl (by decide +kernel)), rfl, by decide +kernel, h2, h.symm⟩
theorem nwX4_19 (M : pm_M) (h : M.1.cls = RX4) : pm_nw M 19 9 [.int 0, .int 0, .null, .int 0] := by
  refine ⟨RX9, TX9, 4, tyX9, rfl, rfl, tyX9_ok, ?_, by rw [h]; exact (pm_it2 22 rfl (by decide +kernel)), (pm_it1 38 rfl (by decide +kernel)), (pm_it1 3 rfl (by decide +kernel))⟩
  exact fun k hk => by
    match k, hk with
    | 0, _ => rfl
    | 1, _ => rfl
    | 2, _ => rfl
    | 3, _ => rfl
    | k + 4, hk => omega
theorem lkX4_21 (M : pm_M) (h : M.1.cls = RX4) : pm_lk M 21 mX9_init := Or.inl (by rw [h]; exact (pm_it2 23 rfl (by decide +kernel)))
theorem ffX4_24 (M : pm_M) (h : M.1.cls = RX4) (h2 : M.1.name = "<init>") : pm_flf M 24 4 2 (.object "SealCouncil$Table") := ⟨RX4, TX4, 3, rfl, by decide, by rw [h]; exact (pm_it2 26 rfl (by decide +kernel)), rfl, by decide +kernel, h2, h.symm⟩
theorem oiX1_3 (M : pm_M) (h : M.1.cls = RX1) : Cond.methodLink M.1.cls 3 Lib.objectInit ∈ pm_tbl := by rw [h]; exact (pm_it2 39 rfl (by decide +kernel))
theorem ffX1_9 (M : pm_M) (h : M.1.cls = RX1) (h2 : M.1.name = "<init>") : pm_flf M 9 1 0 (.object "SealCouncil$Realm") := ⟨RX1, TX1, 3, rfl, by decide, by rw [h]; exact (pm_it2 40 rfl (by decide +kernel)), rfl, by decide +kernel, h2, h.symm⟩
theorem ffX1_15 (M : pm_M) (h : M.1.cls = RX1) (h2 : M.1.name = "<init>") : pm_flf M 15 1 1 (.array .int) := ⟨RX1, TX1, 3, rfl, by decide, by rw [h]; exact (pm_it2 41 rfl (by decide +kernel)), rfl, by decide +kernel, h2, h.symm⟩
theorem oiX5_5 (M : pm_M) (h : M.1.cls = RX5) : Cond.methodLink M.1.cls 5 Lib.objectInit ∈ pm_tbl := by rw [h]; exact (pm_it2 55 rfl (by decide +kernel))
theorem ffX5_11 (M : pm_M) (h : M.1.cls = RX5) (h2 : M.1.name = "<init>") : pm_flf M 11 5 1 (.array .int) := ⟨RX5, TX5, 7, rfl, by decide, by rw [h]; exact (pm_it2 57 rfl (by decide +kernel)), rfl, by decide +kernel, h2, h.symm⟩
theorem ffX5_15 (M : pm_M) (h : M.1.cls = RX5) (h2 : M.1.name = "<init>") : pm_flf M 15 5 2 (.array .int) := ⟨RX5, TX5, 7, rfl, by decide, by rw [h]; exact (pm_it2 58 rfl (by decide +kernel)), rfl, by decide +kernel, h2, h.symm⟩
theorem ffX5_18 (M : pm_M) (h : M.1.cls = RX5) (h2 : M.1.name = "<init>") : pm_flf M 18 5 3 (.array .int) := ⟨RX5, TX5, 7, rfl, by decide, by rw [h]; exact (pm_it2 59 rfl (by decide +kernel)), rfl, by decide +kernel, h2, h.symm⟩
theorem ffX5_21 (M : pm_M) (h : M.1.cls = RX5) (h2 : M.1.name = "<init>") : pm_flf M 21 5 0 (.object "SealCouncil$Realm") := ⟨RX5, TX5, 7, rfl, by decide, by rw [h]; exact (pm_it2 56 rfl (by decide +kernel)), rfl, by decide +kernel, h2, h.symm⟩
theorem oiX10_3 (M : pm_M) (h : M.1.cls = RX10) : Cond.methodLink M.1.cls 3 Lib.objectInit ∈ pm_tbl := by rw [h]; exact (pm_it2 84 rfl (by decide +kernel))
theorem ffX10_11 (M : pm_M) (h : M.1.cls = RX10) (h2 : M.1.name = "<init>") : pm_flf M 11 10 0 (.array .int) := ⟨RX10, TX10, 5, rfl, by decide, by rw [h]; exact (pm_it2 85 rfl (by decide +kernel)), rfl, by decide +kernel, h2, h.symm⟩
theorem oiX8_3 (M : pm_M) (h : M.1.cls = RX8) : Cond.methodLink M.1.cls 3 Lib.objectInit ∈ pm_tbl := by rw [h]; exact (pm_it2 107 rfl (by decide +kernel))
theorem ffX8_9 (M : pm_M) (h : M.1.cls = RX8) (h2 : M.1.name = "<init>") : pm_flf M 9 8 0 (.array .int) := ⟨RX8, TX8, 3, rfl, by decide, by rw [h]; exact (pm_it2 110 rfl (by decide +kernel)), rfl, by decide +kernel, h2, h.symm⟩
theorem ffX8_15 (M : pm_M) (h : M.1.cls = RX8) (h2 : M.1.name = "<init>") : pm_flf M 15 8 1 (.array .int) := ⟨RX8, TX8, 3, rfl, by decide, by rw [h]; exact (pm_it2 111 rfl (by decide +kernel)), rfl, by decide +kernel, h2, h.symm⟩
theorem nwX8_18 (M : pm_M) (h : M.1.cls = RX8) : pm_nw M 18 9 [.int 0, .int 0, .null, .int 0] := by
  refine ⟨RX9, TX9, 4, tyX9, rfl, rfl, tyX9_ok, ?_, by rw [h]; exact (pm_it2 108 rfl (by decide +kernel)), (pm_it1 38 rfl (by decide +kernel)), (pm_it1 3 rfl (by decide +kernel))⟩
  exact fun k hk => by
    match k, hk with
    | 0, _ => rfl
    | 1, _ => rfl
    | 2, _ => rfl
    | 3, _ => rfl
    | k + 4, hk => omega
theorem lkX8_20 (M : pm_M) (h : M.1.cls = RX8) : pm_lk M 20 mX9_init := Or.inl (by rw [h]; exact (pm_it2 109 rfl (by decide +kernel)))
theorem ffX8_23 (M : pm_M) (h : M.1.cls = RX8) (h2 : M.1.name = "<init>") : pm_flf M 23 8 2 (.object "SealCouncil$Table") := ⟨RX8, TX8, 3, rfl, by decide, by rw [h]; exact (pm_it2 112 rfl (by decide +kernel)), rfl, by decide +kernel, h2, h.symm⟩
theorem oiX11_3 (M : pm_M) (h : M.1.cls = RX11) : Cond.methodLink M.1.cls 3 Lib.objectInit ∈ pm_tbl := by rw [h]; exact (pm_it1 28 rfl (by decide +kernel))
theorem nwX11_9 (M : pm_M) (h : M.1.cls = RX11) : pm_nw M 9 7 [.null, .null, .null, .null, .null, .null, .null, .null, .null, .null, .null, .null, .int 0, .int 0, .int 0] := by
  refine ⟨RX7, TX7, 15, tyX7, rfl, rfl, tyX7_ok, ?_, by rw [h]; exact (pm_it1 31 rfl (by decide +kernel)), (pm_it1 32 rfl (by decide +kernel)), (pm_it1 2 rfl (by decide +kernel))⟩
  exact fun k hk => by
    match k, hk with
    | 0, _ => rfl
    | 1, _ => rfl
    | 2, _ => rfl
    | 3, _ => rfl
    | 4, _ => rfl
    | 5, _ => rfl
    | 6, _ => rfl
    | 7, _ => rfl
    | 8, _ => rfl
    | 9, _ => rfl
    | 10, _ => rfl
    | 11, _ => rfl
    | 12, _ => rfl
    | 13, _ => rfl
    | 14, _ => rfl
    | k + 15, hk => omega
theorem lkX11_11 (M : pm_M) (h : M.1.cls = RX11) : pm_lk M 11 mX7_init := Or.inl (by rw [h]; exact (pm_it1 33 rfl (by decide +kernel)))
theorem pd___V : (parseMethodDescriptor "()V").map (fun d => d.parameters.length) = some 0 := by decide +kernel
theorem cn_X7 : RX7 ≠ "java/lang/invoke/MethodHandle" ∧ RX7 ≠ "java/lang/invoke/VarHandle" := by decide +kernel
theorem okI_X7_init : pm_mokI mX7_init 0 := ⟨⟨⟨(pm_it1 35 rfl (by decide +kernel)), (pm_it1 2 rfl (by decide +kernel))⟩, ⟨cn_X7.1, cn_X7.2, pd___V⟩, by decide⟩, rfl, (pm_it1 34 rfl (by decide +kernel)), rfl⟩
theorem ffX11_12 (M : pm_M) (h : M.1.cls = RX11) (h2 : M.1.name = "<init>") : pm_flf M 12 11 0 (.object "SealCouncil$Realm") := ⟨RX11, TX11, 12, rfl, by decide, by rw [h]; exact (pm_it2 120 rfl (by decide +kernel)), rfl, by decide +kernel, h2, h.symm⟩
theorem nwX11_16 (M : pm_M) (h : M.1.cls = RX11) : pm_nw M 16 2 [.null, .null, .null, .int 0] := by
  refine ⟨RX2, TX2, 4, tyX2, rfl, rfl, tyX2_ok, ?_, by rw [h]; exact (pm_it1 156 rfl (by decide +kernel)), (pm_it1 157 rfl (by decide +kernel)), (pm_it1 6 rfl (by decide +kernel))⟩
  exact fun k hk => by
    match k, hk with
    | 0, _ => rfl
    | 1, _ => rfl
    | 2, _ => rfl
    | 3, _ => rfl
    | k + 4, hk => omega
theorem flX11_12 (M : pm_M) (h : M.1.cls = RX11) : pm_fl M 12 11 0 := ⟨RX11, TX11, 12, rfl, by decide, Or.inl (by rw [h]; exact (pm_it2 120 rfl (by decide +kernel)))⟩
theorem lkX11_18 (M : pm_M) (h : M.1.cls = RX11) : pm_lk M 18 mX2_init := Or.inl (by rw [h]; exact (pm_it1 158 rfl (by decide +kernel)))
theorem pd__LSealCouncil_Realm__V : (parseMethodDescriptor "(LSealCouncil$Realm;)V").map (fun d => d.parameters.length) = some 1 := by decide +kernel
theorem cn_X2 : RX2 ≠ "java/lang/invoke/MethodHandle" ∧ RX2 ≠ "java/lang/invoke/VarHandle" := by decide +kernel
theorem okI_X2_init : pm_mokI mX2_init 1 := ⟨⟨⟨(pm_it1 160 rfl (by decide +kernel)), (pm_it1 6 rfl (by decide +kernel))⟩, ⟨cn_X2.1, cn_X2.2, pd__LSealCouncil_Realm__V⟩, by decide⟩, rfl, (pm_it1 159 rfl (by decide +kernel)), rfl⟩
theorem ffX11_21 (M : pm_M) (h : M.1.cls = RX11) (h2 : M.1.name = "<init>") : pm_flf M 21 11 1 (.object "SealCouncil$Laws") := ⟨RX11, TX11, 12, rfl, by decide, by rw [h]; exact (pm_it2 121 rfl (by decide +kernel)), rfl, by decide +kernel, h2, h.symm⟩
theorem nwX11_25 (M : pm_M) (h : M.1.cls = RX11) : pm_nw M 25 0 [.null, .null, .null, .null, .null, .int 0, .int 0, .int 0, .int 0] := by
  refine ⟨RX0, TX0, 9, tyX0, rfl, rfl, tyX0_ok, ?_, by rw [h]; exact (pm_it1 197 rfl (by decide +kernel)), (pm_it1 198 rfl (by decide +kernel)), (pm_it1 8 rfl (by decide +kernel))⟩
  exact fun k hk => by
    match k, hk with
    | 0, _ => rfl
    | 1, _ => rfl
    | 2, _ => rfl
    | 3, _ => rfl
    | 4, _ => rfl
    | 5, _ => rfl
    | 6, _ => rfl
    | 7, _ => rfl
    | 8, _ => rfl
    | k + 9, hk => omega
theorem flX11_21 (M : pm_M) (h : M.1.cls = RX11) : pm_fl M 21 11 1 := ⟨RX11, TX11, 12, rfl, by decide, Or.inl (by rw [h]; exact (pm_it2 121 rfl (by decide +kernel)))⟩
theorem lkX11_27 (M : pm_M) (h : M.1.cls = RX11) : pm_lk M 27 mX0_init := Or.inl (by rw [h]; exact (pm_it1 199 rfl (by decide +kernel)))
theorem pd__LSealCouncil_Realm_LSealCouncil_Laws__V : (parseMethodDescriptor "(LSealCouncil$Realm;LSealCouncil$Laws;)V").map (fun d => d.parameters.length) = some 2 := by decide +kernel
theorem cn_X0 : RX0 ≠ "java/lang/invoke/MethodHandle" ∧ RX0 ≠ "java/lang/invoke/VarHandle" := by decide +kernel
theorem okI_X0_init : pm_mokI mX0_init 2 := ⟨⟨⟨(pm_it1 201 rfl (by decide +kernel)), (pm_it1 8 rfl (by decide +kernel))⟩, ⟨cn_X0.1, cn_X0.2, pd__LSealCouncil_Realm_LSealCouncil_Laws__V⟩, by decide⟩, rfl, (pm_it1 200 rfl (by decide +kernel)), rfl⟩
theorem ffX11_30 (M : pm_M) (h : M.1.cls = RX11) (h2 : M.1.name = "<init>") : pm_flf M 30 11 2 (.object "SealCouncil$Council") := ⟨RX11, TX11, 12, rfl, by decide, by rw [h]; exact (pm_it2 122 rfl (by decide +kernel)), rfl, by decide +kernel, h2, h.symm⟩
theorem nwX11_34 (M : pm_M) (h : M.1.cls = RX11) : pm_nw M 34 3 [.null, .null, .null, .null] := by
  refine ⟨RX3, TX3, 4, tyX3, rfl, rfl, tyX3_ok, ?_, by rw [h]; exact (pm_it1 237 rfl (by decide +kernel)), (pm_it1 238 rfl (by decide +kernel)), (pm_it1 9 rfl (by decide +kernel))⟩
  exact fun k hk => by
    match k, hk with
    | 0, _ => rfl
    | 1, _ => rfl
    | 2, _ => rfl
    | 3, _ => rfl
    | k + 4, hk => omega
theorem flX11_30 (M : pm_M) (h : M.1.cls = RX11) : pm_fl M 30 11 2 := ⟨RX11, TX11, 12, rfl, by decide, Or.inl (by rw [h]; exact (pm_it2 122 rfl (by decide +kernel)))⟩
theorem lkX11_36 (M : pm_M) (h : M.1.cls = RX11) : pm_lk M 36 mX3_init := Or.inl (by rw [h]; exact (pm_it1 239 rfl (by decide +kernel)))
theorem pd__LSealCouncil_Realm_LSealCouncil_Laws_LSealCouncil_Council__V : (parseMethodDescriptor "(LSealCouncil$Realm;LSealCouncil$Laws;LSealCouncil$Council;)V").map (fun d => d.parameters.length) = some 3 := by decide +kernel
theorem cn_X3 : RX3 ≠ "java/lang/invoke/MethodHandle" ∧ RX3 ≠ "java/lang/invoke/VarHandle" := by decide +kernel
theorem okI_X3_init : pm_mokI mX3_init 3 := ⟨⟨⟨(pm_it2 1 rfl (by decide +kernel)), (pm_it1 9 rfl (by decide +kernel))⟩, ⟨cn_X3.1, cn_X3.2, pd__LSealCouncil_Realm_LSealCouncil_Laws_LSealCouncil_Council__V⟩, by decide⟩, rfl, (pm_it2 0 rfl (by decide +kernel)), rfl⟩
theorem ffX11_39 (M : pm_M) (h : M.1.cls = RX11) (h2 : M.1.name = "<init>") : pm_flf M 39 11 3 (.object "SealCouncil$Letters") := ⟨RX11, TX11, 12, rfl, by decide, by rw [h]; exact (pm_it2 123 rfl (by decide +kernel)), rfl, by decide +kernel, h2, h.symm⟩
theorem nwX11_43 (M : pm_M) (h : M.1.cls = RX11) : pm_nw M 43 4 [.null, .null, .null] := by
  refine ⟨RX4, TX4, 3, tyX4, rfl, rfl, tyX4_ok, ?_, by rw [h]; exact (pm_it2 16 rfl (by decide +kernel)), (pm_it2 17 rfl (by decide +kernel)), (pm_it1 10 rfl (by decide +kernel))⟩
  exact fun k hk => by
    match k, hk with
    | 0, _ => rfl
    | 1, _ => rfl
    | 2, _ => rfl
    | k + 3, hk => omega
theorem lkX11_45 (M : pm_M) (h : M.1.cls = RX11) : pm_lk M 45 mX4_init := Or.inl (by rw [h]; exact (pm_it2 18 rfl (by decide +kernel)))
theorem cn_X4 : RX4 ≠ "java/lang/invoke/MethodHandle" ∧ RX4 ≠ "java/lang/invoke/VarHandle" := by decide +kernel
theorem okI_X4_init : pm_mokI mX4_init 2 := ⟨⟨⟨(pm_it2 20 rfl (by decide +kernel)), (pm_it1 10 rfl (by decide +kernel))⟩, ⟨cn_X4.1, cn_X4.2, pd__LSealCouncil_Realm_LSealCouncil_Laws__V⟩, by decide⟩, rfl, (pm_it2 19 rfl (by decide +kernel)), rfl⟩
theorem ffX11_46 (M : pm_M) (h : M.1.cls = RX11) (h2 : M.1.name = "<init>") : pm_flf M 46 11 4 (.object "SealCouncil$Lineage") := ⟨RX11, TX11, 12, rfl, by decide, by rw [h]; exact (pm_it2 124 rfl (by decide +kernel)), rfl, by decide +kernel, h2, h.symm⟩
theorem nwX11_50 (M : pm_M) (h : M.1.cls = RX11) : pm_nw M 50 1 [.null, .null, .int 0] := by
  refine ⟨RX1, TX1, 3, tyX1, rfl, rfl, tyX1_ok, ?_, by rw [h]; exact (pm_it2 34 rfl (by decide +kernel)), (pm_it2 35 rfl (by decide +kernel)), (pm_it1 11 rfl (by decide +kernel))⟩
  exact fun k hk => by
    match k, hk with
    | 0, _ => rfl
    | 1, _ => rfl
    | 2, _ => rfl
    | k + 3, hk => omega
theorem lkX11_52 (M : pm_M) (h : M.1.cls = RX11) : pm_lk M 52 mX1_init := Or.inl (by rw [h]; exact (pm_it2 36 rfl (by decide +kernel)))
theorem cn_X1 : RX1 ≠ "java/lang/invoke/MethodHandle" ∧ RX1 ≠ "java/lang/invoke/VarHandle" := by decide +kernel
theorem okI_X1_init : pm_mokI mX1_init 1 := ⟨⟨⟨(pm_it2 38 rfl (by decide +kernel)), (pm_it1 11 rfl (by decide +kernel))⟩, ⟨cn_X1.1, cn_X1.2, pd__LSealCouncil_Realm__V⟩, by decide⟩, rfl, (pm_it2 37 rfl (by decide +kernel)), rfl⟩
theorem ffX11_53 (M : pm_M) (h : M.1.cls = RX11) (h2 : M.1.name = "<init>") : pm_flf M 53 11 5 (.object "SealCouncil$Gates") := ⟨RX11, TX11, 12, rfl, by decide, by rw [h]; exact (pm_it2 125 rfl (by decide +kernel)), rfl, by decide +kernel, h2, h.symm⟩
theorem nwX11_57 (M : pm_M) (h : M.1.cls = RX11) : pm_nw M 57 5 [.null, .null, .null, .null, .int 0, .int 0, .int 0] := by
  refine ⟨RX5, TX5, 7, tyX5, rfl, rfl, tyX5_ok, ?_, by rw [h]; exact (pm_it2 50 rfl (by decide +kernel)), (pm_it2 51 rfl (by decide +kernel)), (pm_it1 12 rfl (by decide +kernel))⟩
  exact fun k hk => by
    match k, hk with
    | 0, _ => rfl
    | 1, _ => rfl
    | 2, _ => rfl
    | 3, _ => rfl
    | 4, _ => rfl
    | 5, _ => rfl
    | 6, _ => rfl
    | k + 7, hk => omega
theorem lkX11_59 (M : pm_M) (h : M.1.cls = RX11) : pm_lk M 59 mX5_init := Or.inl (by rw [h]; exact (pm_it2 52 rfl (by decide +kernel)))
theorem cn_X5 : RX5 ≠ "java/lang/invoke/MethodHandle" ∧ RX5 ≠ "java/lang/invoke/VarHandle" := by decide +kernel
theorem okI_X5_init : pm_mokI mX5_init 1 := ⟨⟨⟨(pm_it2 54 rfl (by decide +kernel)), (pm_it1 12 rfl (by decide +kernel))⟩, ⟨cn_X5.1, cn_X5.2, pd__LSealCouncil_Realm__V⟩, by decide⟩, rfl, (pm_it2 53 rfl (by decide +kernel)), rfl⟩
theorem ffX11_60 (M : pm_M) (h : M.1.cls = RX11) (h2 : M.1.name = "<init>") : pm_flf M 60 11 6 (.object "SealCouncil$Planner") := ⟨RX11, TX11, 12, rfl, by decide, by rw [h]; exact (pm_it2 126 rfl (by decide +kernel)), rfl, by decide +kernel, h2, h.symm⟩
theorem nwX11_64 (M : pm_M) (h : M.1.cls = RX11) : pm_nw M 64 10 [.null, .int 0, .int 0, .int 0, .int 0] := by
  refine ⟨RX10, TX10, 5, tyX10, rfl, rfl, tyX10_ok, ?_, by rw [h]; exact (pm_it2 79 rfl (by decide +kernel)), (pm_it2 80 rfl (by decide +kernel)), (pm_it1 13 rfl (by decide +kernel))⟩
  exact fun k hk => by
    match k, hk with
    | 0, _ => rfl
    | 1, _ => rfl
    | 2, _ => rfl
    | 3, _ => rfl
    | 4, _ => rfl
    | k + 5, hk => omega
theorem lkX11_66 (M : pm_M) (h : M.1.cls = RX11) : pm_lk M 66 mX10_init := Or.inr ⟨"SealCouncil", by rw [h]; exact (pm_in2 81 rfl (by decide +kernel))⟩
theorem cn_X10 : RX10 ≠ "java/lang/invoke/MethodHandle" ∧ RX10 ≠ "java/lang/invoke/VarHandle" := by decide +kernel
theorem okI_X10_init : pm_mokI mX10_init 0 := ⟨⟨⟨(pm_it2 83 rfl (by decide +kernel)), (pm_it1 13 rfl (by decide +kernel))⟩, ⟨cn_X10.1, cn_X10.2, pd___V⟩, by decide⟩, rfl, (pm_it2 82 rfl (by decide +kernel)), rfl⟩
theorem ffX11_67 (M : pm_M) (h : M.1.cls = RX11) (h2 : M.1.name = "<init>") : pm_flf M 67 11 7 (.object "SealCouncil$Voices") := ⟨RX11, TX11, 12, rfl, by decide, by rw [h]; exact (pm_it2 127 rfl (by decide +kernel)), rfl, by decide +kernel, h2, h.symm⟩
theorem nwX11_71 (M : pm_M) (h : M.1.cls = RX11) : pm_nw M 71 8 [.null, .null, .null] := by
  refine ⟨RX8, TX8, 3, tyX8, rfl, rfl, tyX8_ok, ?_, by rw [h]; exact (pm_it2 102 rfl (by decide +kernel)), (pm_it2 103 rfl (by decide +kernel)), (pm_it1 14 rfl (by decide +kernel))⟩
  exact fun k hk => by
    match k, hk with
    | 0, _ => rfl
    | 1, _ => rfl
    | 2, _ => rfl
    | k + 3, hk => omega
theorem lkX11_73 (M : pm_M) (h : M.1.cls = RX11) : pm_lk M 73 mX8_init := Or.inr ⟨"SealCouncil", by rw [h]; exact (pm_in2 104 rfl (by decide +kernel))⟩
theorem cn_X8 : RX8 ≠ "java/lang/invoke/MethodHandle" ∧ RX8 ≠ "java/lang/invoke/VarHandle" := by decide +kernel
theorem okI_X8_init : pm_mokI mX8_init 0 := ⟨⟨⟨(pm_it2 106 rfl (by decide +kernel)), (pm_it1 14 rfl (by decide +kernel))⟩, ⟨cn_X8.1, cn_X8.2, pd___V⟩, by decide⟩, rfl, (pm_it2 105 rfl (by decide +kernel)), rfl⟩
theorem ffX11_74 (M : pm_M) (h : M.1.cls = RX11) (h2 : M.1.name = "<init>") : pm_flf M 74 11 8 (.object "SealCouncil$Sheets") := ⟨RX11, TX11, 12, rfl, by decide, by rw [h]; exact (pm_it2 128 rfl (by decide +kernel)), rfl, by decide +kernel, h2, h.symm⟩
theorem ffX11_78 (M : pm_M) (h : M.1.cls = RX11) (h2 : M.1.name = "<init>") : pm_flf M 78 11 9 (.array .int) := ⟨RX11, TX11, 12, rfl, by decide, by rw [h]; exact (pm_it2 129 rfl (by decide +kernel)), rfl, by decide +kernel, h2, h.symm⟩
theorem oiX12_1 (M : pm_M) (h : M.1.cls = RX12) : Cond.methodLink M.1.cls 1 Lib.objectInit ∈ pm_tbl := by rw [h]; exact (pm_it6 159 rfl (by decide +kernel))
theorem ffX12_7 (M : pm_M) (h : M.1.cls = RX12) (h2 : M.1.name = "<init>") : pm_flf M 7 12 0 (.array .int) := ⟨RX12, TX12, 27, rfl, by decide, by rw [h]; exact (pm_it6 160 rfl (by decide +kernel)), rfl, by decide +kernel, h2, h.symm⟩
theorem ffX12_13 (M : pm_M) (h : M.1.cls = RX12) (h2 : M.1.name = "<init>") : pm_flf M 13 12 1 (.array .int) := ⟨RX12, TX12, 27, rfl, by decide, by rw [h]; exact (pm_it6 161 rfl (by decide +kernel)), rfl, by decide +kernel, h2, h.symm⟩
theorem ffX12_16 (M : pm_M) (h : M.1.cls = RX12) (h2 : M.1.name = "<init>") : pm_flf M 16 12 2 (.array .int) := ⟨RX12, TX12, 27, rfl, by decide, by rw [h]; exact (pm_it6 162 rfl (by decide +kernel)), rfl, by decide +kernel, h2, h.symm⟩
theorem ffX12_19 (M : pm_M) (h : M.1.cls = RX12) (h2 : M.1.name = "<init>") : pm_flf M 19 12 4 (.array .int) := ⟨RX12, TX12, 27, rfl, by decide, by rw [h]; exact (pm_it6 164 rfl (by decide +kernel)), rfl, by decide +kernel, h2, h.symm⟩
theorem ffX12_22 (M : pm_M) (h : M.1.cls = RX12) (h2 : M.1.name = "<init>") : pm_flf M 22 12 5 (.array .int) := ⟨RX12, TX12, 27, rfl, by decide, by rw [h]; exact (pm_it6 165 rfl (by decide +kernel)), rfl, by decide +kernel, h2, h.symm⟩
theorem ffX12_25 (M : pm_M) (h : M.1.cls = RX12) (h2 : M.1.name = "<init>") : pm_flf M 25 12 6 (.array .int) := ⟨RX12, TX12, 27, rfl, by decide, by rw [h]; exact (pm_it6 166 rfl (by decide +kernel)), rfl, by decide +kernel, h2, h.symm⟩
theorem ffX12_28 (M : pm_M) (h : M.1.cls = RX12) (h2 : M.1.name = "<init>") : pm_flf M 28 12 7 (.array .int) := ⟨RX12, TX12, 27, rfl, by decide, by rw [h]; exact (pm_it6 167 rfl (by decide +kernel)), rfl, by decide +kernel, h2, h.symm⟩
theorem ffX12_31 (M : pm_M) (h : M.1.cls = RX12) (h2 : M.1.name = "<init>") : pm_flf M 31 12 8 (.array .int) := ⟨RX12, TX12, 27, rfl, by decide, by rw [h]; exact (pm_it6 168 rfl (by decide +kernel)), rfl, by decide +kernel, h2, h.symm⟩
theorem ffX12_34 (M : pm_M) (h : M.1.cls = RX12) (h2 : M.1.name = "<init>") : pm_flf M 34 12 9 (.array .int) := ⟨RX12, TX12, 27, rfl, by decide, by rw [h]; exact (pm_it6 169 rfl (by decide +kernel)), rfl, by decide +kernel, h2, h.symm⟩
theorem ffX12_37 (M : pm_M) (h : M.1.cls = RX12) (h2 : M.1.name = "<init>") : pm_flf M 37 12 13 (.array .int) := ⟨RX12, TX12, 27, rfl, by decide, by rw [h]; exact (pm_it6 173 rfl (by decide +kernel)), rfl, by decide +kernel, h2, h.symm⟩
theorem ffX12_40 (M : pm_M) (h : M.1.cls = RX12) (h2 : M.1.name = "<init>") : pm_flf M 40 12 14 (.array .int) := ⟨RX12, TX12, 27, rfl, by decide, by rw [h]; exact (pm_it6 174 rfl (by decide +kernel)), rfl, by decide +kernel, h2, h.symm⟩
theorem ffX12_43 (M : pm_M) (h : M.1.cls = RX12) (h2 : M.1.name = "<init>") : pm_flf M 43 12 15 (.array .int) := ⟨RX12, TX12, 27, rfl, by decide, by rw [h]; exact (pm_it6 175 rfl (by decide +kernel)), rfl, by decide +kernel, h2, h.symm⟩
theorem ffX12_46 (M : pm_M) (h : M.1.cls = RX12) (h2 : M.1.name = "<init>") : pm_flf M 46 12 16 (.array .int) := ⟨RX12, TX12, 27, rfl, by decide, by rw [h]; exact (pm_it6 176 rfl (by decide +kernel)), rfl, by decide +kernel, h2, h.symm⟩
theorem ffX12_49 (M : pm_M) (h : M.1.cls = RX12) (h2 : M.1.name = "<init>") : pm_flf M 49 12 17 (.array .int) := ⟨RX12, TX12, 27, rfl, by decide, by rw [h]; exact (pm_it6 177 rfl (by decide +kernel)), rfl, by decide +kernel, h2, h.symm⟩
theorem ffX12_52 (M : pm_M) (h : M.1.cls = RX12) (h2 : M.1.name = "<init>") : pm_flf M 52 12 21 (.array .int) := ⟨RX12, TX12, 27, rfl, by decide, by rw [h]; exact (pm_it6 181 rfl (by decide +kernel)), rfl, by decide +kernel, h2, h.symm⟩
theorem ffX12_55 (M : pm_M) (h : M.1.cls = RX12) (h2 : M.1.name = "<init>") : pm_flf M 55 12 23 (.array .int) := ⟨RX12, TX12, 27, rfl, by decide, by rw [h]; exact (pm_it6 183 rfl (by decide +kernel)), rfl, by decide +kernel, h2, h.symm⟩
theorem ffX12_58 (M : pm_M) (h : M.1.cls = RX12) (h2 : M.1.name = "<init>") : pm_flf M 58 12 24 (.array .int) := ⟨RX12, TX12, 27, rfl, by decide, by rw [h]; exact (pm_it6 184 rfl (by decide +kernel)), rfl, by decide +kernel, h2, h.symm⟩
theorem ffX12_61 (M : pm_M) (h : M.1.cls = RX12) (h2 : M.1.name = "<init>") : pm_flf M 61 12 25 (.array .int) := ⟨RX12, TX12, 27, rfl, by decide, by rw [h]; exact (pm_it6 185 rfl (by decide +kernel)), rfl, by decide +kernel, h2, h.symm⟩
theorem ffX12_64 (M : pm_M) (h : M.1.cls = RX12) (h2 : M.1.name = "<init>") : pm_flf M 64 12 26 (.array .int) := ⟨RX12, TX12, 27, rfl, by decide, by rw [h]; exact (pm_it6 186 rfl (by decide +kernel)), rfl, by decide +kernel, h2, h.symm⟩
theorem flX12_7 (M : pm_M) (h : M.1.cls = RX12) : pm_fl M 7 12 0 := ⟨RX12, TX12, 27, rfl, by decide, Or.inl (by rw [h]; exact (pm_it6 160 rfl (by decide +kernel)))⟩
