theorem zm_g_row (g : zz_G) {n N a : Nat} (h : ¬ (n < a ∧ a ≤ n + N)) : zm_g g n N a = g a := funext fun _ => if_neg h
theorem zm_r_row (r : zz_R) {n N a : Nat} (h : a ≠ n) : zm_r r n N a = r a := funext fun _ => if_neg h
theorem ac_int : Cond.arrayClass .int ∈ zz_tbl := zz_in 116 (by decide +kernel) rfl
theorem kj_obji : Cond.instanceMethod Lib.objectInit ∈ zz_tbl := zz_in 90 (by decide +kernel) rfl
theorem kj_objc : Cond.code Lib.objectInit ⟨#[0xb1]⟩ 1 none ∈ zz_tbl := zz_in 91 (by decide +kernel) rfl
theorem kl_L_7 : Cond.classLink RL 7 RX11 ∈ zz_tbl := zz_in 84 (by decide +kernel) rfl
theorem kc_L_9 : zz_CJ RL 9 0 mi_X11_init := ⟨⟨zz_in 86 (by decide +kernel) rfl, zz_in 87 (by decide +kernel) rfl, zz_in 63 (by decide +kernel) rfl, cd_X11_init⟩, ⟨by decide +kernel, by decide +kernel, by decide +kernel⟩, by decide, rfl, rfl⟩
theorem kj_X11_1 : Cond.methodLink RX11 1 Lib.objectInit ∈ zz_tbl := zz_in 89 (by decide +kernel) rfl
theorem kl_X11_7 : Cond.classLink RX11 7 RX0 ∈ zz_tbl := zz_in 92 (by decide +kernel) rfl
theorem kc_X11_9 : zz_CI RX11 9 0 mi_X0_init := ⟨by decide +kernel, ⟨zz_in 95 (by decide +kernel) rfl, zz_in 64 (by decide +kernel) rfl, cd_X0_init⟩, ⟨by decide +kernel, by decide +kernel, by decide +kernel⟩, by decide, rfl, rfl⟩
theorem kj_X0_3 : Cond.methodLink RX0 3 Lib.objectInit ∈ zz_tbl := zz_in 97 (by decide +kernel) rfl
theorem kl_X0_31 : Cond.classLink RX0 31 "[[I" ∈ zz_tbl := zz_in 98 (by decide +kernel) rfl
theorem kl_X0_51 : Cond.classLink RX0 51 RX8 ∈ zz_tbl := zz_in 100 (by decide +kernel) rfl
theorem kc_X0_53 : zz_CI RX0 53 0 mi_X8_init := ⟨by decide +kernel, ⟨zz_in 104 (by decide +kernel) rfl, zz_in 65 (by decide +kernel) rfl, cd_X8_init⟩, ⟨by decide +kernel, by decide +kernel, by decide +kernel⟩, by decide, rfl, rfl⟩
theorem kj_X8_3 : Cond.methodLink RX8 3 Lib.objectInit ∈ zz_tbl := zz_in 106 (by decide +kernel) rfl
theorem kl_X11_27 : Cond.classLink RX11 27 RX10 ∈ zz_tbl := zz_in 178 (by decide +kernel) rfl
theorem kc_X11_29 : zz_CI RX11 29 0 mi_X10_init := ⟨by decide +kernel, ⟨zz_in 182 (by decide +kernel) rfl, zz_in 66 (by decide +kernel) rfl, cd_X10_init⟩, ⟨by decide +kernel, by decide +kernel, by decide +kernel⟩, by decide, rfl, rfl⟩
theorem kj_X10_1 : Cond.methodLink RX10 1 Lib.objectInit ∈ zz_tbl := zz_in 184 (by decide +kernel) rfl
theorem kl_X11_30 : Cond.classLink RX11 30 RX4 ∈ zz_tbl := zz_in 186 (by decide +kernel) rfl
theorem kc_X11_32 : zz_CI RX11 32 0 mi_X4_init := ⟨by decide +kernel, ⟨zz_in 189 (by decide +kernel) rfl, zz_in 67 (by decide +kernel) rfl, cd_X4_init⟩, ⟨by decide +kernel, by decide +kernel, by decide +kernel⟩, by decide, rfl, rfl⟩
theorem kc_X4_1 : zz_CI RX4 1 0 mi_X10_init := ⟨by decide +kernel, ⟨zz_in 182 (by decide +kernel) rfl, zz_in 66 (by decide +kernel) rfl, cd_X10_init⟩, ⟨by decide +kernel, by decide +kernel, by decide +kernel⟩, by decide, rfl, rfl⟩
theorem kl_X11_33 : Cond.classLink RX11 33 RX1 ∈ zz_tbl := zz_in 193 (by decide +kernel) rfl
theorem kc_X11_35 : zz_CI RX11 35 0 mi_X1_init := ⟨by decide +kernel, ⟨zz_in 196 (by decide +kernel) rfl, zz_in 68 (by decide +kernel) rfl, cd_X1_init⟩, ⟨by decide +kernel, by decide +kernel, by decide +kernel⟩, by decide, rfl, rfl⟩
theorem kc_X1_1 : zz_CI RX1 1 0 mi_X10_init := ⟨by decide +kernel, ⟨zz_in 182 (by decide +kernel) rfl, zz_in 66 (by decide +kernel) rfl, cd_X10_init⟩, ⟨by decide +kernel, by decide +kernel, by decide +kernel⟩, by decide, rfl, rfl⟩
theorem kl_X11_36 : Cond.classLink RX11 36 RX2 ∈ zz_tbl := zz_in 200 (by decide +kernel) rfl
theorem kc_X11_38 : zz_CI RX11 38 0 mi_X2_init := ⟨by decide +kernel, ⟨zz_in 203 (by decide +kernel) rfl, zz_in 69 (by decide +kernel) rfl, cd_X2_init⟩, ⟨by decide +kernel, by decide +kernel, by decide +kernel⟩, by decide, rfl, rfl⟩
theorem kc_X2_1 : zz_CI RX2 1 0 mi_X10_init := ⟨by decide +kernel, ⟨zz_in 182 (by decide +kernel) rfl, zz_in 66 (by decide +kernel) rfl, cd_X10_init⟩, ⟨by decide +kernel, by decide +kernel, by decide +kernel⟩, by decide, rfl, rfl⟩
theorem kl_X11_39 : Cond.classLink RX11 39 RX6 ∈ zz_tbl := zz_in 207 (by decide +kernel) rfl
theorem kc_X11_41 : zz_CI RX11 41 0 mi_X6_init := ⟨by decide +kernel, ⟨zz_in 210 (by decide +kernel) rfl, zz_in 70 (by decide +kernel) rfl, cd_X6_init⟩, ⟨by decide +kernel, by decide +kernel, by decide +kernel⟩, by decide, rfl, rfl⟩
theorem kc_X6_1 : zz_CI RX6 1 0 mi_X4_init := ⟨by decide +kernel, ⟨zz_in 189 (by decide +kernel) rfl, zz_in 67 (by decide +kernel) rfl, cd_X4_init⟩, ⟨by decide +kernel, by decide +kernel, by decide +kernel⟩, by decide, rfl, rfl⟩
theorem kl_X11_42 : Cond.classLink RX11 42 RX3 ∈ zz_tbl := zz_in 214 (by decide +kernel) rfl
theorem kc_X11_44 : zz_CI RX11 44 0 mi_X3_init := ⟨by decide +kernel, ⟨zz_in 217 (by decide +kernel) rfl, zz_in 71 (by decide +kernel) rfl, cd_X3_init⟩, ⟨by decide +kernel, by decide +kernel, by decide +kernel⟩, by decide, rfl, rfl⟩
theorem kc_X3_1 : zz_CI RX3 1 0 mi_X1_init := ⟨by decide +kernel, ⟨zz_in 196 (by decide +kernel) rfl, zz_in 68 (by decide +kernel) rfl, cd_X1_init⟩, ⟨by decide +kernel, by decide +kernel, by decide +kernel⟩, by decide, rfl, rfl⟩
theorem kl_X11_45 : Cond.classLink RX11 45 RX7 ∈ zz_tbl := zz_in 221 (by decide +kernel) rfl
theorem kc_X11_47 : zz_CI RX11 47 0 mi_X7_init := ⟨by decide +kernel, ⟨zz_in 224 (by decide +kernel) rfl, zz_in 72 (by decide +kernel) rfl, cd_X7_init⟩, ⟨by decide +kernel, by decide +kernel, by decide +kernel⟩, by decide, rfl, rfl⟩
theorem kc_X7_1 : zz_CI RX7 1 0 mi_X2_init := ⟨by decide +kernel, ⟨zz_in 203 (by decide +kernel) rfl, zz_in 69 (by decide +kernel) rfl, cd_X2_init⟩, ⟨by decide +kernel, by decide +kernel, by decide +kernel⟩, by decide, rfl, rfl⟩
theorem kl_X11_52 : Cond.classLink RX11 52 RX5 ∈ zz_tbl := zz_in 228 (by decide +kernel) rfl
theorem kc_X11_54 : zz_CI RX11 54 0 mi_X5_init := ⟨by decide +kernel, ⟨zz_in 231 (by decide +kernel) rfl, zz_in 73 (by decide +kernel) rfl, cd_X5_init⟩, ⟨by decide +kernel, by decide +kernel, by decide +kernel⟩, by decide, rfl, rfl⟩
theorem kj_X5_3 : Cond.methodLink RX5 3 Lib.objectInit ∈ zz_tbl := zz_in 233 (by decide +kernel) rfl
theorem kl_X5_15 : Cond.classLink RX5 15 RX8 ∈ zz_tbl := zz_in 234 (by decide +kernel) rfl
theorem kc_X5_17 : zz_CI RX5 17 0 mi_X8_init := ⟨by decide +kernel, ⟨zz_in 104 (by decide +kernel) rfl, zz_in 65 (by decide +kernel) rfl, cd_X8_init⟩, ⟨by decide +kernel, by decide +kernel, by decide +kernel⟩, by decide, rfl, rfl⟩
theorem kl_X11_62 : Cond.classLink RX11 62 RX9 ∈ zz_tbl := zz_in 256 (by decide +kernel) rfl
theorem kc_X11_64 : zz_CI RX11 64 0 mi_X9_init := ⟨by decide +kernel, ⟨zz_in 259 (by decide +kernel) rfl, zz_in 74 (by decide +kernel) rfl, cd_X9_init⟩, ⟨by decide +kernel, by decide +kernel, by decide +kernel⟩, by decide, rfl, rfl⟩
theorem kj_X9_3 : Cond.methodLink RX9 3 Lib.objectInit ∈ zz_tbl := zz_in 261 (by decide +kernel) rfl
theorem kl_X11_69 : Cond.classLink RX11 69 "[[I" ∈ zz_tbl := zz_in 280 (by decide +kernel) rfl
theorem kl_L_10 : Cond.classLink RL 10 RX12 ∈ zz_tbl := zz_in 898 (by decide +kernel) rfl
theorem kc_L_12 : zz_CJ RL 12 0 mi_X12_init := ⟨⟨zz_in 900 (by decide +kernel) rfl, zz_in 901 (by decide +kernel) rfl, zz_in 75 (by decide +kernel) rfl, cd_X12_init⟩, ⟨by decide +kernel, by decide +kernel, by decide +kernel⟩, by decide, rfl, rfl⟩
theorem kj_X12_1 : Cond.methodLink RX12 1 Lib.objectInit ∈ zz_tbl := zz_in 903 (by decide +kernel) rfl
theorem ki_X0 : Cond.instantiable RX0 15 ∈ zz_tbl := zz_in 93 (by decide +kernel) rfl
theorem kn_X0 : Cond.initialized RX0 ∈ zz_tbl := zz_in 64 (by decide +kernel) rfl
theorem dv_X0 : ∀ j, j < 15 → defaultValue (tyX0 j) = if zz_fr 0 j = true then .null else .int 0
  | 0, _ => rfl
  | 1, _ => rfl
  | 2, _ => rfl
  | 3, _ => rfl
  | 4, _ => rfl
  | 5, _ => rfl
  | 6, _ => rfl
  | 7, _ => rfl
  | 8, _ => rfl
  | 9, _ => rfl
  | 10, _ => rfl
  | 11, _ => rfl
  | 12, _ => rfl
  | 13, _ => rfl
  | 14, _ => rfl
  | j + 15, h => by omega
theorem ki_X1 : Cond.instantiable RX1 0 ∈ zz_tbl := zz_in 194 (by decide +kernel) rfl
theorem kn_X1 : Cond.initialized RX1 ∈ zz_tbl := zz_in 68 (by decide +kernel) rfl
theorem dv_X1 : ∀ j, j < 0 → defaultValue (tyX1 j) = if zz_fr 1 j = true then .null else .int 0 := fun j hj => absurd hj (Nat.not_lt_zero _)
theorem ki_X2 : Cond.instantiable RX2 0 ∈ zz_tbl := zz_in 201 (by decide +kernel) rfl
theorem kn_X2 : Cond.initialized RX2 ∈ zz_tbl := zz_in 69 (by decide +kernel) rfl
theorem dv_X2 : ∀ j, j < 0 → defaultValue (tyX2 j) = if zz_fr 2 j = true then .null else .int 0 := fun j hj => absurd hj (Nat.not_lt_zero _)
theorem ki_X3 : Cond.instantiable RX3 0 ∈ zz_tbl := zz_in 215 (by decide +kernel) rfl
theorem kn_X3 : Cond.initialized RX3 ∈ zz_tbl := zz_in 71 (by decide +kernel) rfl
theorem dv_X3 : ∀ j, j < 0 → defaultValue (tyX3 j) = if zz_fr 3 j = true then .null else .int 0 := fun j hj => absurd hj (Nat.not_lt_zero _)
theorem ki_X4 : Cond.instantiable RX4 0 ∈ zz_tbl := zz_in 187 (by decide +kernel) rfl
theorem kn_X4 : Cond.initialized RX4 ∈ zz_tbl := zz_in 67 (by decide +kernel) rfl
theorem dv_X4 : ∀ j, j < 0 → defaultValue (tyX4 j) = if zz_fr 4 j = true then .null else .int 0 := fun j hj => absurd hj (Nat.not_lt_zero _)
theorem ki_X5 : Cond.instantiable RX5 5 ∈ zz_tbl := zz_in 229 (by decide +kernel) rfl
theorem kn_X5 : Cond.initialized RX5 ∈ zz_tbl := zz_in 73 (by decide +kernel) rfl
theorem dv_X5 : ∀ j, j < 5 → defaultValue (tyX5 j) = if zz_fr 5 j = true then .null else .int 0
  | 0, _ => rfl
  | 1, _ => rfl
  | 2, _ => rfl
  | 3, _ => rfl
  | 4, _ => rfl
  | j + 5, h => by omega
theorem ki_X6 : Cond.instantiable RX6 0 ∈ zz_tbl := zz_in 208 (by decide +kernel) rfl
theorem kn_X6 : Cond.initialized RX6 ∈ zz_tbl := zz_in 70 (by decide +kernel) rfl
theorem dv_X6 : ∀ j, j < 0 → defaultValue (tyX6 j) = if zz_fr 6 j = true then .null else .int 0 := fun j hj => absurd hj (Nat.not_lt_zero _)
theorem ki_X7 : Cond.instantiable RX7 0 ∈ zz_tbl := zz_in 222 (by decide +kernel) rfl
theorem kn_X7 : Cond.initialized RX7 ∈ zz_tbl := zz_in 72 (by decide +kernel) rfl
theorem dv_X7 : ∀ j, j < 0 → defaultValue (tyX7 j) = if zz_fr 7 j = true then .null else .int 0 := fun j hj => absurd hj (Nat.not_lt_zero _)
theorem ki_X8 : Cond.instantiable RX8 2 ∈ zz_tbl := zz_in 102 (by decide +kernel) rfl
theorem kn_X8 : Cond.initialized RX8 ∈ zz_tbl := zz_in 65 (by decide +kernel) rfl
theorem dv_X8 : ∀ j, j < 2 → defaultValue (tyX8 j) = if zz_fr 8 j = true then .null else .int 0
  | 0, _ => rfl
  | 1, _ => rfl
  | j + 2, h => by omega
theorem ki_X9 : Cond.instantiable RX9 4 ∈ zz_tbl := zz_in 257 (by decide +kernel) rfl
theorem kn_X9 : Cond.initialized RX9 ∈ zz_tbl := zz_in 74 (by decide +kernel) rfl
theorem dv_X9 : ∀ j, j < 4 → defaultValue (tyX9 j) = if zz_fr 9 j = true then .null else .int 0
  | 0, _ => rfl
  | 1, _ => rfl
  | 2, _ => rfl
  | 3, _ => rfl
  | j + 4, h => by omega
theorem ki_X10 : Cond.instantiable RX10 0 ∈ zz_tbl := zz_in 180 (by decide +kernel) rfl
theorem kn_X10 : Cond.initialized RX10 ∈ zz_tbl := zz_in 66 (by decide +kernel) rfl
theorem dv_X10 : ∀ j, j < 0 → defaultValue (tyX10 j) = if zz_fr 10 j = true then .null else .int 0 := fun j hj => absurd hj (Nat.not_lt_zero _)
theorem ki_X11 : Cond.instantiable RX11 11 ∈ zz_tbl := zz_in 85 (by decide +kernel) rfl
theorem kn_X11 : Cond.initialized RX11 ∈ zz_tbl := zz_in 63 (by decide +kernel) rfl
theorem dv_X11 : ∀ j, j < 11 → defaultValue (tyX11 j) = if zz_fr 11 j = true then .null else .int 0
  | 0, _ => rfl
  | 1, _ => rfl
  | 2, _ => rfl
  | 3, _ => rfl
  | 4, _ => rfl
  | 5, _ => rfl
  | 6, _ => rfl
  | 7, _ => rfl
  | 8, _ => rfl
  | 9, _ => rfl
  | 10, _ => rfl
  | j + 11, h => by omega
theorem ki_X12 : Cond.instantiable RX12 23 ∈ zz_tbl := zz_in 899 (by decide +kernel) rfl
theorem kn_X12 : Cond.initialized RX12 ∈ zz_tbl := zz_in 75 (by decide +kernel) rfl
theorem dv_X12 : ∀ j, j < 23 → defaultValue (tyX12 j) = if zz_fr 12 j = true then .null else .int 0
  | 0, _ => rfl
  | 1, _ => rfl
  | 2, _ => rfl
  | 3, _ => rfl
  | 4, _ => rfl
  | 5, _ => rfl
  | 6, _ => rfl
  | 7, _ => rfl
  | 8, _ => rfl
  | 9, _ => rfl
  | 10, _ => rfl
  | 11, _ => rfl
  | 12, _ => rfl
  | 13, _ => rfl
  | 14, _ => rfl
  | 15, _ => rfl
  | 16, _ => rfl
  | 17, _ => rfl
  | 18, _ => rfl
  | 19, _ => rfl
  | 20, _ => rfl
  | 21, _ => rfl
  | 22, _ => rfl
  | j + 23, h => by omega