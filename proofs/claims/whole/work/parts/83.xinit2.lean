set_option maxRecDepth 100000 in
set_option maxHeartbeats 4000000 in
theorem t_X10_init_30 {C : zz_C} {d n : Nat} {g : zz_G} {r : zz_R} {Q : zz_Q} (h : Q none g r n) : zz_T C mi_X10_init (d + 1) 0 0 [.ref 30] g r n Q := by
  refine zz_T.of [some (.ref 30)] (by decide +kernel) rfl (Nat.le_of_ble_eq_true rfl) ?_
  refine zz_aload_0 dX10_init_0 ?_
  refine zz_objI kj_X10_1 kj_obji kj_objc (Nat.le_of_ble_eq_true rfl) dX10_init_1 ?_
  refine zz_vret rfl dX10_init_4 (by decide) (by decide) ?_
  exact h

set_option maxRecDepth 100000 in
set_option maxHeartbeats 4000000 in
theorem t_X10_init_31 {C : zz_C} {d n : Nat} {g : zz_G} {r : zz_R} {Q : zz_Q} (h : Q none g r n) : zz_T C mi_X10_init (d + 1) 0 0 [.ref 31] g r n Q := by
  refine zz_T.of [some (.ref 31)] (by decide +kernel) rfl (Nat.le_of_ble_eq_true rfl) ?_
  refine zz_aload_0 dX10_init_0 ?_
  refine zz_objI kj_X10_1 kj_obji kj_objc (Nat.le_of_ble_eq_true rfl) dX10_init_1 ?_
  refine zz_vret rfl dX10_init_4 (by decide) (by decide) ?_
  exact h

set_option maxRecDepth 100000 in
set_option maxHeartbeats 4000000 in
theorem t_X4_init_31 {C : zz_C} {d n : Nat} {g : zz_G} {r : zz_R} {Q : zz_Q} (h : Q none g r n) : zz_T C mi_X4_init (d + 2) 0 0 [.ref 31] g r n Q := by
  refine zz_T.of [some (.ref 31)] (by decide +kernel) rfl (Nat.le_of_ble_eq_true rfl) ?_
  refine zz_aload_0 dX4_init_0 ?_
  refine zz_callI0 (Or.inl kc_X4_1) (Nat.le_of_ble_eq_true rfl) (by decide) (by decide) dX4_init_1 (t_X10_init_31 ⟨rfl, ?_⟩)
  refine zz_vret rfl dX4_init_4 (by decide) (by decide) ?_
  exact h

set_option maxRecDepth 100000 in
set_option maxHeartbeats 4000000 in
theorem t_X10_init_32 {C : zz_C} {d n : Nat} {g : zz_G} {r : zz_R} {Q : zz_Q} (h : Q none g r n) : zz_T C mi_X10_init (d + 1) 0 0 [.ref 32] g r n Q := by
  refine zz_T.of [some (.ref 32)] (by decide +kernel) rfl (Nat.le_of_ble_eq_true rfl) ?_
  refine zz_aload_0 dX10_init_0 ?_
  refine zz_objI kj_X10_1 kj_obji kj_objc (Nat.le_of_ble_eq_true rfl) dX10_init_1 ?_
  refine zz_vret rfl dX10_init_4 (by decide) (by decide) ?_
  exact h

set_option maxRecDepth 100000 in
set_option maxHeartbeats 4000000 in
theorem t_X1_init_32 {C : zz_C} {d n : Nat} {g : zz_G} {r : zz_R} {Q : zz_Q} (h : Q none g r n) : zz_T C mi_X1_init (d + 2) 0 0 [.ref 32] g r n Q := by
  refine zz_T.of [some (.ref 32)] (by decide +kernel) rfl (Nat.le_of_ble_eq_true rfl) ?_
  refine zz_aload_0 dX1_init_0 ?_
  refine zz_callI0 (Or.inl kc_X1_1) (Nat.le_of_ble_eq_true rfl) (by decide) (by decide) dX1_init_1 (t_X10_init_32 ⟨rfl, ?_⟩)
  refine zz_vret rfl dX1_init_4 (by decide) (by decide) ?_
  exact h

set_option maxRecDepth 100000 in
set_option maxHeartbeats 4000000 in
theorem t_X10_init_33 {C : zz_C} {d n : Nat} {g : zz_G} {r : zz_R} {Q : zz_Q} (h : Q none g r n) : zz_T C mi_X10_init (d + 1) 0 0 [.ref 33] g r n Q := by
  refine zz_T.of [some (.ref 33)] (by decide +kernel) rfl (Nat.le_of_ble_eq_true rfl) ?_
  refine zz_aload_0 dX10_init_0 ?_
  refine zz_objI kj_X10_1 kj_obji kj_objc (Nat.le_of_ble_eq_true rfl) dX10_init_1 ?_
  refine zz_vret rfl dX10_init_4 (by decide) (by decide) ?_
  exact h

set_option maxRecDepth 100000 in
set_option maxHeartbeats 4000000 in
theorem t_X2_init_33 {C : zz_C} {d n : Nat} {g : zz_G} {r : zz_R} {Q : zz_Q} (h : Q none g r n) : zz_T C mi_X2_init (d + 2) 0 0 [.ref 33] g r n Q := by
  refine zz_T.of [some (.ref 33)] (by decide +kernel) rfl (Nat.le_of_ble_eq_true rfl) ?_
  refine zz_aload_0 dX2_init_0 ?_
  refine zz_callI0 (Or.inl kc_X2_1) (Nat.le_of_ble_eq_true rfl) (by decide) (by decide) dX2_init_1 (t_X10_init_33 ⟨rfl, ?_⟩)
  refine zz_vret rfl dX2_init_4 (by decide) (by decide) ?_
  exact h

set_option maxRecDepth 100000 in
set_option maxHeartbeats 4000000 in
theorem t_X10_init_34 {C : zz_C} {d n : Nat} {g : zz_G} {r : zz_R} {Q : zz_Q} (h : Q none g r n) : zz_T C mi_X10_init (d + 1) 0 0 [.ref 34] g r n Q := by
  refine zz_T.of [some (.ref 34)] (by decide +kernel) rfl (Nat.le_of_ble_eq_true rfl) ?_
  refine zz_aload_0 dX10_init_0 ?_
  refine zz_objI kj_X10_1 kj_obji kj_objc (Nat.le_of_ble_eq_true rfl) dX10_init_1 ?_
  refine zz_vret rfl dX10_init_4 (by decide) (by decide) ?_
  exact h

set_option maxRecDepth 100000 in
set_option maxHeartbeats 4000000 in
theorem t_X4_init_34 {C : zz_C} {d n : Nat} {g : zz_G} {r : zz_R} {Q : zz_Q} (h : Q none g r n) : zz_T C mi_X4_init (d + 2) 0 0 [.ref 34] g r n Q := by
  refine zz_T.of [some (.ref 34)] (by decide +kernel) rfl (Nat.le_of_ble_eq_true rfl) ?_
  refine zz_aload_0 dX4_init_0 ?_
  refine zz_callI0 (Or.inl kc_X4_1) (Nat.le_of_ble_eq_true rfl) (by decide) (by decide) dX4_init_1 (t_X10_init_34 ⟨rfl, ?_⟩)
  refine zz_vret rfl dX4_init_4 (by decide) (by decide) ?_
  exact h

set_option maxRecDepth 100000 in
set_option maxHeartbeats 4000000 in
theorem t_X6_init_34 {C : zz_C} {d n : Nat} {g : zz_G} {r : zz_R} {Q : zz_Q} (h : Q none g r n) : zz_T C mi_X6_init (d + 3) 0 0 [.ref 34] g r n Q := by
  refine zz_T.of [some (.ref 34)] (by decide +kernel) rfl (Nat.le_of_ble_eq_true rfl) ?_
  refine zz_aload_0 dX6_init_0 ?_
  refine zz_callI0 (Or.inl kc_X6_1) (Nat.le_of_ble_eq_true rfl) (by decide) (by decide) dX6_init_1 (t_X4_init_34 ⟨rfl, ?_⟩)
  refine zz_vret rfl dX6_init_4 (by decide) (by decide) ?_
  exact h

set_option maxRecDepth 100000 in
set_option maxHeartbeats 4000000 in
theorem t_X10_init_35 {C : zz_C} {d n : Nat} {g : zz_G} {r : zz_R} {Q : zz_Q} (h : Q none g r n) : zz_T C mi_X10_init (d + 1) 0 0 [.ref 35] g r n Q := by
  refine zz_T.of [some (.ref 35)] (by decide +kernel) rfl (Nat.le_of_ble_eq_true rfl) ?_
  refine zz_aload_0 dX10_init_0 ?_
  refine zz_objI kj_X10_1 kj_obji kj_objc (Nat.le_of_ble_eq_true rfl) dX10_init_1 ?_
  refine zz_vret rfl dX10_init_4 (by decide) (by decide) ?_
  exact h

set_option maxRecDepth 100000 in
set_option maxHeartbeats 4000000 in
theorem t_X1_init_35 {C : zz_C} {d n : Nat} {g : zz_G} {r : zz_R} {Q : zz_Q} (h : Q none g r n) : zz_T C mi_X1_init (d + 2) 0 0 [.ref 35] g r n Q := by
  refine zz_T.of [some (.ref 35)] (by decide +kernel) rfl (Nat.le_of_ble_eq_true rfl) ?_
  refine zz_aload_0 dX1_init_0 ?_
  refine zz_callI0 (Or.inl kc_X1_1) (Nat.le_of_ble_eq_true rfl) (by decide) (by decide) dX1_init_1 (t_X10_init_35 ⟨rfl, ?_⟩)
  refine zz_vret rfl dX1_init_4 (by decide) (by decide) ?_
  exact h

set_option maxRecDepth 100000 in
set_option maxHeartbeats 4000000 in
theorem t_X3_init_35 {C : zz_C} {d n : Nat} {g : zz_G} {r : zz_R} {Q : zz_Q} (h : Q none g r n) : zz_T C mi_X3_init (d + 3) 0 0 [.ref 35] g r n Q := by
  refine zz_T.of [some (.ref 35)] (by decide +kernel) rfl (Nat.le_of_ble_eq_true rfl) ?_
  refine zz_aload_0 dX3_init_0 ?_
  refine zz_callI0 (Or.inl kc_X3_1) (Nat.le_of_ble_eq_true rfl) (by decide) (by decide) dX3_init_1 (t_X1_init_35 ⟨rfl, ?_⟩)
  refine zz_vret rfl dX3_init_4 (by decide) (by decide) ?_
  exact h

set_option maxRecDepth 100000 in
set_option maxHeartbeats 4000000 in
theorem t_X10_init_36 {C : zz_C} {d n : Nat} {g : zz_G} {r : zz_R} {Q : zz_Q} (h : Q none g r n) : zz_T C mi_X10_init (d + 1) 0 0 [.ref 36] g r n Q := by
  refine zz_T.of [some (.ref 36)] (by decide +kernel) rfl (Nat.le_of_ble_eq_true rfl) ?_
  refine zz_aload_0 dX10_init_0 ?_
  refine zz_objI kj_X10_1 kj_obji kj_objc (Nat.le_of_ble_eq_true rfl) dX10_init_1 ?_
  refine zz_vret rfl dX10_init_4 (by decide) (by decide) ?_
  exact h

set_option maxRecDepth 100000 in
set_option maxHeartbeats 4000000 in
theorem t_X2_init_36 {C : zz_C} {d n : Nat} {g : zz_G} {r : zz_R} {Q : zz_Q} (h : Q none g r n) : zz_T C mi_X2_init (d + 2) 0 0 [.ref 36] g r n Q := by
  refine zz_T.of [some (.ref 36)] (by decide +kernel) rfl (Nat.le_of_ble_eq_true rfl) ?_
  refine zz_aload_0 dX2_init_0 ?_
  refine zz_callI0 (Or.inl kc_X2_1) (Nat.le_of_ble_eq_true rfl) (by decide) (by decide) dX2_init_1 (t_X10_init_36 ⟨rfl, ?_⟩)
  refine zz_vret rfl dX2_init_4 (by decide) (by decide) ?_
  exact h

set_option maxRecDepth 100000 in
set_option maxHeartbeats 4000000 in
theorem t_X7_init_36 {C : zz_C} {d n : Nat} {g : zz_G} {r : zz_R} {Q : zz_Q} (h : Q none g r n) : zz_T C mi_X7_init (d + 3) 0 0 [.ref 36] g r n Q := by
  refine zz_T.of [some (.ref 36)] (by decide +kernel) rfl (Nat.le_of_ble_eq_true rfl) ?_
  refine zz_aload_0 dX7_init_0 ?_
  refine zz_callI0 (Or.inl kc_X7_1) (Nat.le_of_ble_eq_true rfl) (by decide) (by decide) dX7_init_1 (t_X2_init_36 ⟨rfl, ?_⟩)
  refine zz_vret rfl dX7_init_4 (by decide) (by decide) ?_
  exact h

set_option maxRecDepth 100000 in
set_option maxHeartbeats 4000000 in
theorem t_X8_init_23 {C : zz_C} {d : Nat} {g : zz_G} {r : zz_R} {Q : zz_Q} (h : Q none (zz_u (zz_n0 g 24) 23 1 0) (zz_ur r 23 0 (some 24)) 25) : zz_T C mi_X8_init (d + 1) 1 50 [.ref 23] g r 24 Q := by
  refine zz_T.of [some (.ref 23)] (by decide +kernel) rfl (Nat.le_of_ble_eq_true rfl) ?_
  refine zz_aload_0 dX8_init_0 ?_
  refine zz_objI kj_X8_3 kj_obji kj_objc (Nat.le_of_ble_eq_true rfl) dX8_init_1 ?_
  refine zz_aload_0 dX8_init_4 ?_
  refine zz_bipush (50) dX8_init_5 (by decide) ?_
  refine zz_newI (by decide) (by decide) (by decide) (by decide) rfl ac_int (by decide) (by decide) dX8_init_7 ?_
  refine zz_putR fl_X8_9 rfl rfl (by decide) (Or.inr ⟨rfl, _, _, rfl, rfl⟩) rfl rfl dX8_init_9 ?_
  refine zz_aload_0 dX8_init_12 ?_
  refine zz_iconst (0) dX8_init_13 (by decide) ?_
  refine zz_putI fl_X8_15 rfl rfl (by decide) dX8_init_14 ?_
  refine zz_vret rfl dX8_init_17 (by decide) (by decide) ?_
  exact h

set_option maxRecDepth 100000 in
set_option maxHeartbeats 4000000 in
theorem t_X8_init_25 {C : zz_C} {d : Nat} {g : zz_G} {r : zz_R} {Q : zz_Q} (h : Q none (zz_u (zz_n0 g 26) 25 1 0) (zz_ur r 25 0 (some 26)) 27) : zz_T C mi_X8_init (d + 1) 1 50 [.ref 25] g r 26 Q := by
  refine zz_T.of [some (.ref 25)] (by decide +kernel) rfl (Nat.le_of_ble_eq_true rfl) ?_
  refine zz_aload_0 dX8_init_0 ?_
  refine zz_objI kj_X8_3 kj_obji kj_objc (Nat.le_of_ble_eq_true rfl) dX8_init_1 ?_
  refine zz_aload_0 dX8_init_4 ?_
  refine zz_bipush (50) dX8_init_5 (by decide) ?_
  refine zz_newI (by decide) (by decide) (by decide) (by decide) rfl ac_int (by decide) (by decide) dX8_init_7 ?_
  refine zz_putR fl_X8_9 rfl rfl (by decide) (Or.inr ⟨rfl, _, _, rfl, rfl⟩) rfl rfl dX8_init_9 ?_
  refine zz_aload_0 dX8_init_12 ?_
  refine zz_iconst (0) dX8_init_13 (by decide) ?_
  refine zz_putI fl_X8_15 rfl rfl (by decide) dX8_init_14 ?_
  refine zz_vret rfl dX8_init_17 (by decide) (by decide) ?_
  exact h

set_option maxRecDepth 100000 in
set_option maxHeartbeats 4000000 in
theorem t_X8_init_38 {C : zz_C} {d : Nat} {g : zz_G} {r : zz_R} {Q : zz_Q} (h : Q none (zz_u (zz_n0 g 39) 38 1 0) (zz_ur r 38 0 (some 39)) 40) : zz_T C mi_X8_init (d + 1) 1 50 [.ref 38] g r 39 Q := by
  refine zz_T.of [some (.ref 38)] (by decide +kernel) rfl (Nat.le_of_ble_eq_true rfl) ?_
  refine zz_aload_0 dX8_init_0 ?_
  refine zz_objI kj_X8_3 kj_obji kj_objc (Nat.le_of_ble_eq_true rfl) dX8_init_1 ?_
  refine zz_aload_0 dX8_init_4 ?_
  refine zz_bipush (50) dX8_init_5 (by decide) ?_
  refine zz_newI (by decide) (by decide) (by decide) (by decide) rfl ac_int (by decide) (by decide) dX8_init_7 ?_
  refine zz_putR fl_X8_9 rfl rfl (by decide) (Or.inr ⟨rfl, _, _, rfl, rfl⟩) rfl rfl dX8_init_9 ?_
  refine zz_aload_0 dX8_init_12 ?_
  refine zz_iconst (0) dX8_init_13 (by decide) ?_
  refine zz_putI fl_X8_15 rfl rfl (by decide) dX8_init_14 ?_
  refine zz_vret rfl dX8_init_17 (by decide) (by decide) ?_
  exact h

set_option maxRecDepth 100000 in
set_option maxHeartbeats 4000000 in
theorem t_X8_init_82 {C : zz_C} {d : Nat} {g : zz_G} {r : zz_R} {Q : zz_Q} (h : Q none (zz_u (zz_n0 g 83) 82 1 0) (zz_ur r 82 0 (some 83)) 84) : zz_T C mi_X8_init (d + 1) 1 50 [.ref 82] g r 83 Q := by
  refine zz_T.of [some (.ref 82)] (by decide +kernel) rfl (Nat.le_of_ble_eq_true rfl) ?_
  refine zz_aload_0 dX8_init_0 ?_
  refine zz_objI kj_X8_3 kj_obji kj_objc (Nat.le_of_ble_eq_true rfl) dX8_init_1 ?_
  refine zz_aload_0 dX8_init_4 ?_
  refine zz_bipush (50) dX8_init_5 (by decide) ?_
  refine zz_newI (by decide) (by decide) (by decide) (by decide) rfl ac_int (by decide) (by decide) dX8_init_7 ?_
  refine zz_putR fl_X8_9 rfl rfl (by decide) (Or.inr ⟨rfl, _, _, rfl, rfl⟩) rfl rfl dX8_init_9 ?_
  refine zz_aload_0 dX8_init_12 ?_
  refine zz_iconst (0) dX8_init_13 (by decide) ?_
  refine zz_putI fl_X8_15 rfl rfl (by decide) dX8_init_14 ?_
  refine zz_vret rfl dX8_init_17 (by decide) (by decide) ?_
  exact h

set_option maxRecDepth 100000 in
set_option maxHeartbeats 4000000 in
theorem t_X8_init_84 {C : zz_C} {d : Nat} {g : zz_G} {r : zz_R} {Q : zz_Q} (h : Q none (zz_u (zz_n0 g 85) 84 1 0) (zz_ur r 84 0 (some 85)) 86) : zz_T C mi_X8_init (d + 1) 1 50 [.ref 84] g r 85 Q := by
  refine zz_T.of [some (.ref 84)] (by decide +kernel) rfl (Nat.le_of_ble_eq_true rfl) ?_
  refine zz_aload_0 dX8_init_0 ?_
  refine zz_objI kj_X8_3 kj_obji kj_objc (Nat.le_of_ble_eq_true rfl) dX8_init_1 ?_
  refine zz_aload_0 dX8_init_4 ?_
  refine zz_bipush (50) dX8_init_5 (by decide) ?_
  refine zz_newI (by decide) (by decide) (by decide) (by decide) rfl ac_int (by decide) (by decide) dX8_init_7 ?_
  refine zz_putR fl_X8_9 rfl rfl (by decide) (Or.inr ⟨rfl, _, _, rfl, rfl⟩) rfl rfl dX8_init_9 ?_
  refine zz_aload_0 dX8_init_12 ?_
  refine zz_iconst (0) dX8_init_13 (by decide) ?_
  refine zz_putI fl_X8_15 rfl rfl (by decide) dX8_init_14 ?_
  refine zz_vret rfl dX8_init_17 (by decide) (by decide) ?_
  exact h

set_option maxRecDepth 100000 in
set_option maxHeartbeats 4000000 in
theorem t_X9_init {C : zz_C} {d : Nat} {g : zz_G} {r : zz_R} {Q : zz_Q} (h : Q none (zz_u (zz_u (zz_u (zz_n0 g 42) 41 1 0) 41 2 0) 41 3 0) (zz_ur r 41 0 (some 42)) 43) : zz_T C mi_X9_init (d + 1) 1 40 [.ref 41] g r 42 Q := by
  refine zz_T.of [some (.ref 41)] (by decide +kernel) rfl (Nat.le_of_ble_eq_true rfl) ?_
  refine zz_aload_0 dX9_init_0 ?_
  refine zz_objI kj_X9_3 kj_obji kj_objc (Nat.le_of_ble_eq_true rfl) dX9_init_1 ?_
  refine zz_aload_0 dX9_init_4 ?_
  refine zz_bipush (40) dX9_init_5 (by decide) ?_
  refine zz_newI (by decide) (by decide) (by decide) (by decide) rfl ac_int (by decide) (by decide) dX9_init_7 ?_
  refine zz_putR fl_X9_9 rfl rfl (by decide) (Or.inr ⟨rfl, _, _, rfl, rfl⟩) rfl rfl dX9_init_9 ?_
  refine zz_aload_0 dX9_init_12 ?_
  refine zz_iconst (0) dX9_init_13 (by decide) ?_
  refine zz_putI fl_X9_15 rfl rfl (by decide) dX9_init_14 ?_
  refine zz_aload_0 dX9_init_17 ?_
  refine zz_iconst (0) dX9_init_18 (by decide) ?_
  refine zz_putI fl_X9_19 rfl rfl (by decide) dX9_init_19 ?_
  refine zz_aload_0 dX9_init_22 ?_
  refine zz_iconst (0) dX9_init_23 (by decide) ?_
  refine zz_putI fl_X9_22 rfl rfl (by decide) dX9_init_24 ?_
  refine zz_vret rfl dX9_init_27 (by decide) (by decide) ?_
  exact h

set_option maxRecDepth 100000 in
set_option maxHeartbeats 4000000 in
theorem t_X5_init {C : zz_C} {d : Nat} {g : zz_G} {r : zz_R} {Q : zz_Q} (hb : zz_b r = 0) (h : ∀ g' r', (∀ k, k < 37 → g' k = g k ∧ r' k = r k) → r' 37 0 = some 999 → r' 37 1 = some 38 → r' 38 0 = some 39 → r' 998 0 = some 0 → Q none g' r' 40) : zz_T C mi_X5_init (d + 2) 3 102 [.ref 37] g r 38 Q := by
  refine zz_T.of [some (.ref 37)] (by decide +kernel) rfl (Nat.le_of_ble_eq_true rfl) ?_
  refine zz_aload_0 dX5_init_0 ?_
  refine zz_objI kj_X5_3 kj_obji kj_objc (Nat.le_of_ble_eq_true rfl) dX5_init_1 ?_
  refine zz_aload_0 dX5_init_4 ?_
  refine zz_bipush (50) dX5_init_5 (by decide) ?_
  refine zz_newB rfl hb (by decide) (by decide) ac_int (by decide) (by decide) dX5_init_7 ?_
  refine zz_putR fl_X5_9 rfl rfl (by decide) (Or.inr ⟨rfl, _, _, rfl, rfl⟩) rfl rfl dX5_init_9 ?_
  refine zz_aload_0 dX5_init_12 ?_
  refine zz_newOm cf_X8 dv_X8 kl_X5_15 ki_X8 kn_X8 (by decide) (Or.inr (zz_b_1 (x := 0) rfl)) rfl (by decide) (by decide) dX5_init_13 ?_
  refine zz_dup dX5_init_16 rfl ?_
  refine zz_callI0 (Or.inl kc_X5_17) (Nat.le_of_ble_eq_true rfl) (by decide) (by decide) dX5_init_17 (t_X8_init_38 ⟨rfl, ?_⟩)
  refine zz_putR fl_X5_18 rfl rfl (by decide) (Or.inr ⟨rfl, _, _, rfl, rfl⟩) rfl rfl dX5_init_20 ?_
  refine zz_aload_0 dX5_init_23 ?_
  refine zz_iconst (0) dX5_init_24 (by decide) ?_
  refine zz_putI fl_X5_22 rfl rfl (by decide) dX5_init_25 ?_
  refine zz_aload_0 dX5_init_28 ?_
  refine zz_iconst (0) dX5_init_29 (by decide) ?_
  refine zz_putI fl_X5_26 rfl rfl (by decide) dX5_init_30 ?_
  refine zz_aload_0 dX5_init_33 ?_
  refine zz_ldcS (i := 12) gl_X5_29 dX5_init_34 ?_
  refine zz_putR fl_X5_31 rfl rfl (by decide) (Or.inl rfl) rfl rfl dX5_init_36 ?_
  refine zz_vret rfl dX5_init_39 (by decide) (by decide) ?_
  refine h _ _ (fun k hk => ⟨?_, ?_⟩) rfl rfl rfl rfl
  · rw [zz_u_row _ _ (by omega), zz_u_row _ _ (by omega), zz_u_row _ _ (by omega), zz_n0_row _ (by omega), zz_n0_row _ (by omega), zz_n0_row _ (by omega)]
  · rw [zz_ur_row _ _ (by omega), zz_ur_row _ _ (by omega), zz_ur_row _ _ (by omega), zz_nr_row _ (by omega), zz_ur_row _ _ (by omega), zz_ur_row _ _ (by omega)]

def bi_1 (g g' : zz_G) (r r' : zz_R) : Prop := (∀ k, (k < 1 ∨ k = 998) → g' k = g k ∧ r' k = r k) ∧ (r' 1 0 = some 2 ∧ r' 1 6 = some 3 ∧ r' 1 8 = some 10 ∧ r' 1 10 = some 21 ∧ r' 1 12 = some 22 ∧ r' 1 13 = some 27) ∧ (∀ x, x < 6 → r' 3 x = some (4 + x)) ∧ (∀ x, x < 10 → r' 10 x = some (11 + x)) ∧ (r' 22 0 = some 23 ∧ r' 22 1 = some 25 ∧ r' 23 0 = some 24 ∧ r' 25 0 = some 26) ∧ (g' 1 1 = 0 ∧ g' 1 2 = 0 ∧ g' 1 3 = 0 ∧ g' 1 4 = 0 ∧ g' 1 5 = 1 ∧ g' 1 7 = 0 ∧ g' 1 9 = 0 ∧ g' 1 11 = 0 ∧ g' 1 14 = 0) ∧ (∀ x, x < 5 → g' 2 x = ([6, 30, 3, 3600, 0] : List Int32).getD x 0) ∧ (∀ x j, x < 6 → g' (4 + x) j = 0) ∧ (∀ x j, x < 10 → g' (11 + x) j = 0) ∧ (∀ j, g' 21 j = 0) ∧ g' 23 1 = 0 ∧ g' 25 1 = 0 ∧ ∀ j, g' 27 j = 0
set_option maxRecDepth 100000 in
set_option maxHeartbeats 4000000 in
theorem t_X0_init_1 {C : zz_C} {d : Nat} {g : zz_G} {r : zz_R} {Q : zz_Q} (h : ∀ g' r', bi_1 g g' r r' → Q none g' r' 28) : zz_T C mi_X0_init (d + 2) 26 287 [.ref 1] g r 2 Q := by
  refine zz_T.of [some (.ref 1)] (by decide +kernel) rfl (Nat.le_of_ble_eq_true rfl) ?_
  refine zz_aload_0 dX0_init_0 ?_
  refine zz_objI kj_X0_3 kj_obji kj_objc (Nat.le_of_ble_eq_true rfl) dX0_init_1 ?_
  refine zz_aload_0 dX0_init_4 ?_
  refine zz_iconst (5) dX0_init_5 (by decide) ?_
  refine zz_newI (by decide) (by decide) (by decide) (by decide) rfl ac_int (by decide) (by decide) dX0_init_6 ?_
  refine zz_dup dX0_init_8 rfl ?_
  refine zz_iconst (0) dX0_init_9 (by decide) ?_
  refine zz_bipush (6) dX0_init_10 (by decide) ?_
  refine zz_iast 0 (by decide) (by decide) (by decide) rfl (by decide) dX0_init_12 ?_
  refine zz_dup dX0_init_13 rfl ?_
  refine zz_iconst (1) dX0_init_14 (by decide) ?_
  refine zz_bipush (30) dX0_init_15 (by decide) ?_
  refine zz_iast 1 (by decide) (by decide) (by decide) rfl (by decide) dX0_init_17 ?_
  refine zz_dup dX0_init_18 rfl ?_
  refine zz_iconst (2) dX0_init_19 (by decide) ?_
  refine zz_iconst (3) dX0_init_20 (by decide) ?_
  refine zz_iast 2 (by decide) (by decide) (by decide) rfl (by decide) dX0_init_21 ?_
  refine zz_dup dX0_init_22 rfl ?_
  refine zz_iconst (3) dX0_init_23 (by decide) ?_
  refine zz_sipush (3600) dX0_init_24 (by decide) ?_
  refine zz_iast 3 (by decide) (by decide) (by decide) rfl (by decide) dX0_init_27 ?_
  refine zz_dup dX0_init_28 rfl ?_
  refine zz_iconst (4) dX0_init_29 (by decide) ?_
  refine zz_iconst (0) dX0_init_30 (by decide) ?_
  refine zz_iast 4 (by decide) (by decide) (by decide) rfl (by decide) dX0_init_31 ?_
  refine zz_putR fl_X0_9 rfl rfl (by decide) (Or.inr ⟨rfl, _, _, rfl, rfl⟩) rfl rfl dX0_init_32 ?_
  refine zz_aload_0 dX0_init_35 ?_
  refine zz_iconst (0) dX0_init_36 (by decide) ?_
  refine zz_putI fl_X0_15 rfl rfl (by decide) dX0_init_37 ?_
  refine zz_aload_0 dX0_init_40 ?_
  refine zz_iconst (0) dX0_init_41 (by decide) ?_
  refine zz_putI fl_X0_19 rfl rfl (by decide) dX0_init_42 ?_
  refine zz_aload_0 dX0_init_45 ?_
  refine zz_iconst (0) dX0_init_46 (by decide) ?_
  refine zz_putI fl_X0_22 rfl rfl (by decide) dX0_init_47 ?_
  refine zz_aload_0 dX0_init_50 ?_
  refine zz_iconst (0) dX0_init_51 (by decide) ?_
  refine zz_putI fl_X0_25 rfl rfl (by decide) dX0_init_52 ?_
  refine zz_aload_0 dX0_init_55 ?_
  refine zz_iconst (1) dX0_init_56 (by decide) ?_
  refine zz_putI fl_X0_28 rfl rfl (by decide) dX0_init_57 ?_
  refine zz_aload_0 dX0_init_60 ?_
  refine zz_bipush (6) dX0_init_61 (by decide) ?_
  refine zz_iconst (5) dX0_init_63 (by decide) ?_
  refine zz_multi (N := 6) (K := 5) (by decide) (by decide) (by decide) (by decide) (by decide) (by decide) (by decide) rfl (by decide) kl_X0_31 ac_int (by decide) (by decide) dX0_init_64 ?_
  refine zz_putR fl_X0_33 rfl rfl (by decide) (Or.inr ⟨rfl, _, _, rfl, rfl⟩) rfl rfl dX0_init_68 ?_
  refine zz_aload_0 dX0_init_71 ?_
  refine zz_iconst (0) dX0_init_72 (by decide) ?_
  refine zz_putI fl_X0_36 rfl rfl (by decide) dX0_init_73 ?_
  refine zz_aload_0 dX0_init_76 ?_
  refine zz_bipush (10) dX0_init_77 (by decide) ?_
  refine zz_bipush (6) dX0_init_79 (by decide) ?_
  refine zz_multi (N := 10) (K := 6) (by decide) (by decide) (by decide) (by decide) (by decide) (by decide) (by decide) rfl (by decide) kl_X0_31 ac_int (by decide) (by decide) dX0_init_81 ?_
  refine zz_putR fl_X0_39 rfl rfl (by decide) (Or.inr ⟨rfl, _, _, rfl, rfl⟩) rfl rfl dX0_init_85 ?_
  refine zz_aload_0 dX0_init_88 ?_
  refine zz_iconst (0) dX0_init_89 (by decide) ?_
  refine zz_putI fl_X0_42 rfl rfl (by decide) dX0_init_90 ?_
  refine zz_aload_0 dX0_init_93 ?_
  refine zz_bipush (50) dX0_init_94 (by decide) ?_
  refine zz_newI (by decide) (by decide) (by decide) (by decide) rfl ac_int (by decide) (by decide) dX0_init_96 ?_
  refine zz_putR fl_X0_45 rfl rfl (by decide) (Or.inr ⟨rfl, _, _, rfl, rfl⟩) rfl rfl dX0_init_98 ?_
  refine zz_aload_0 dX0_init_101 ?_
  refine zz_iconst (0) dX0_init_102 (by decide) ?_
  refine zz_putI fl_X0_48 rfl rfl (by decide) dX0_init_103 ?_
  refine zz_aload_0 dX0_init_106 ?_
  refine zz_iconst (2) dX0_init_107 (by decide) ?_
  refine zz_newR (tk := 1) (Or.inl ⟨rfl, rfl⟩) (by decide) (by decide) (by decide) kl_X0_51 (by decide) rfl (by decide) (by decide) dX0_init_108 ?_
  refine zz_dup dX0_init_111 rfl ?_
  refine zz_iconst (0) dX0_init_112 (by decide) ?_
  refine zz_newO cf_X8 dv_X8 kl_X0_51 ki_X8 kn_X8 (by decide) rfl (by decide) (by decide) dX0_init_113 ?_
  refine zz_dup dX0_init_116 rfl ?_
  refine zz_callI0 (Or.inl kc_X0_53) (Nat.le_of_ble_eq_true rfl) (by decide) (by decide) dX0_init_117 (t_X8_init_23 ⟨rfl, ?_⟩)
  refine zz_aastT 0 (by decide) (by decide) (by decide) rfl (by decide) rfl (by decide) dX0_init_120 ?_
  refine zz_dup dX0_init_121 rfl ?_
  refine zz_iconst (1) dX0_init_122 (by decide) ?_
  refine zz_newO cf_X8 dv_X8 kl_X0_51 ki_X8 kn_X8 (by decide) rfl (by decide) (by decide) dX0_init_123 ?_
  refine zz_dup dX0_init_126 rfl ?_
  refine zz_callI0 (Or.inl kc_X0_53) (Nat.le_of_ble_eq_true rfl) (by decide) (by decide) dX0_init_127 (t_X8_init_25 ⟨rfl, ?_⟩)
  refine zz_aastT 1 (by decide) (by decide) (by decide) rfl (by decide) rfl (by decide) dX0_init_130 ?_
  refine zz_putR fl_X0_54 rfl rfl (by decide) (Or.inr ⟨rfl, _, _, rfl, rfl⟩) rfl rfl dX0_init_131 ?_
  refine zz_aload_0 dX0_init_134 ?_
  refine zz_bipush (20) dX0_init_135 (by decide) ?_
  refine zz_newI (by decide) (by decide) (by decide) (by decide) rfl ac_int (by decide) (by decide) dX0_init_137 ?_
  refine zz_putR fl_X0_58 rfl rfl (by decide) (Or.inr ⟨rfl, _, _, rfl, rfl⟩) rfl rfl dX0_init_139 ?_
  refine zz_aload_0 dX0_init_142 ?_
  refine zz_iconst (0) dX0_init_143 (by decide) ?_
  refine zz_putI fl_X0_61 rfl rfl (by decide) dX0_init_144 ?_
  refine zz_vret rfl dX0_init_147 (by decide) (by decide) ?_
  refine h _ _ ⟨fun k hk => ⟨?_, ?_⟩, ⟨rfl, rfl, rfl, rfl, rfl, rfl⟩, fun x hx => ?_, fun x hx => ?_, ⟨rfl, rfl, rfl, rfl⟩, ⟨rfl, rfl, rfl, rfl, rfl, rfl, rfl, rfl, rfl⟩, fun x hx => ?_, fun x j hx => ?_, fun x j hx => ?_, fun j => rfl, rfl, rfl, fun j => rfl⟩
  · rw [zz_u_row _ _ (by omega), zz_n0_row _ (by omega), zz_u_row _ _ (by omega), zz_n0_row _ (by omega), zz_n0_row _ (by omega), zz_u_row _ _ (by omega), zz_n0_row _ (by omega), zz_n0_row _ (by omega), zz_u_row _ _ (by omega), zz_n0_row _ (by omega), zz_u_row _ _ (by omega), zm_g_row _ (by omega), zz_u_row _ _ (by omega), zm_g_row _ (by omega), zz_u_row _ _ (by omega), zz_u_row _ _ (by omega), zz_u_row _ _ (by omega), zz_u_row _ _ (by omega), zz_u_row _ _ (by omega), zz_u_row _ _ (by omega), zz_u_row _ _ (by omega), zz_u_row _ _ (by omega), zz_u_row _ _ (by omega), zz_u_row _ _ (by omega), zz_n0_row _ (by omega)]
  · rw [zz_ur_row _ _ (by omega), zz_ur_row _ _ (by omega), zz_ur_row _ _ (by omega), zz_ur_row _ _ (by omega), zz_nr_row _ (by omega), zz_ur_row _ _ (by omega), zz_ur_row _ _ (by omega), zz_nr_row _ (by omega), zz_nr_row _ (by omega), zz_ur_row _ _ (by omega), zz_ur_row _ _ (by omega), zm_r_row _ (by omega), zz_ur_row _ _ (by omega), zm_r_row _ (by omega), zz_ur_row _ _ (by omega)]
  · rcases (show x = 0 ∨ x = 1 ∨ x = 2 ∨ x = 3 ∨ x = 4 ∨ x = 5 by omega) with e | e | e | e | e | e <;> subst e <;> rfl
  · rcases (show x = 0 ∨ x = 1 ∨ x = 2 ∨ x = 3 ∨ x = 4 ∨ x = 5 ∨ x = 6 ∨ x = 7 ∨ x = 8 ∨ x = 9 by omega) with e | e | e | e | e | e | e | e | e | e <;> subst e <;> rfl
  · rcases (show x = 0 ∨ x = 1 ∨ x = 2 ∨ x = 3 ∨ x = 4 by omega) with e | e | e | e | e <;> subst e <;> rfl
  · rcases (show x = 0 ∨ x = 1 ∨ x = 2 ∨ x = 3 ∨ x = 4 ∨ x = 5 by omega) with e | e | e | e | e | e <;> subst e <;> rfl
  · rcases (show x = 0 ∨ x = 1 ∨ x = 2 ∨ x = 3 ∨ x = 4 ∨ x = 5 ∨ x = 6 ∨ x = 7 ∨ x = 8 ∨ x = 9 by omega) with e | e | e | e | e | e | e | e | e | e <;> subst e <;> rfl

def bi_60 (g g' : zz_G) (r r' : zz_R) : Prop := (∀ k, (k < 60 ∨ k = 998) → g' k = g k ∧ r' k = r k) ∧ (r' 60 0 = some 61 ∧ r' 60 6 = some 62 ∧ r' 60 8 = some 69 ∧ r' 60 10 = some 80 ∧ r' 60 12 = some 81 ∧ r' 60 13 = some 86) ∧ (∀ x, x < 6 → r' 62 x = some (63 + x)) ∧ (∀ x, x < 10 → r' 69 x = some (70 + x)) ∧ (r' 81 0 = some 82 ∧ r' 81 1 = some 84 ∧ r' 82 0 = some 83 ∧ r' 84 0 = some 85) ∧ (g' 60 1 = 0 ∧ g' 60 2 = 0 ∧ g' 60 3 = 0 ∧ g' 60 4 = 0 ∧ g' 60 5 = 1 ∧ g' 60 7 = 0 ∧ g' 60 9 = 0 ∧ g' 60 11 = 0 ∧ g' 60 14 = 0) ∧ (∀ x, x < 5 → g' 61 x = ([6, 30, 3, 3600, 0] : List Int32).getD x 0) ∧ (∀ x j, x < 6 → g' (63 + x) j = 0) ∧ (∀ x j, x < 10 → g' (70 + x) j = 0) ∧ (∀ j, g' 80 j = 0) ∧ g' 82 1 = 0 ∧ g' 84 1 = 0 ∧ ∀ j, g' 86 j = 0
set_option maxRecDepth 100000 in
set_option maxHeartbeats 4000000 in
theorem t_X0_init_60 {C : zz_C} {d : Nat} {g : zz_G} {r : zz_R} {Q : zz_Q} (h : ∀ g' r', bi_60 g g' r r' → Q none g' r' 87) : zz_T C mi_X0_init (d + 2) 26 287 [.ref 60] g r 61 Q := by
  refine zz_T.of [some (.ref 60)] (by decide +kernel) rfl (Nat.le_of_ble_eq_true rfl) ?_
  refine zz_aload_0 dX0_init_0 ?_
  refine zz_objI kj_X0_3 kj_obji kj_objc (Nat.le_of_ble_eq_true rfl) dX0_init_1 ?_
  refine zz_aload_0 dX0_init_4 ?_
  refine zz_iconst (5) dX0_init_5 (by decide) ?_
  refine zz_newI (by decide) (by decide) (by decide) (by decide) rfl ac_int (by decide) (by decide) dX0_init_6 ?_
  refine zz_dup dX0_init_8 rfl ?_
  refine zz_iconst (0) dX0_init_9 (by decide) ?_
  refine zz_bipush (6) dX0_init_10 (by decide) ?_
  refine zz_iast 0 (by decide) (by decide) (by decide) rfl (by decide) dX0_init_12 ?_
  refine zz_dup dX0_init_13 rfl ?_
  refine zz_iconst (1) dX0_init_14 (by decide) ?_
  refine zz_bipush (30) dX0_init_15 (by decide) ?_
  refine zz_iast 1 (by decide) (by decide) (by decide) rfl (by decide) dX0_init_17 ?_
  refine zz_dup dX0_init_18 rfl ?_
  refine zz_iconst (2) dX0_init_19 (by decide) ?_
  refine zz_iconst (3) dX0_init_20 (by decide) ?_
  refine zz_iast 2 (by decide) (by decide) (by decide) rfl (by decide) dX0_init_21 ?_
  refine zz_dup dX0_init_22 rfl ?_
  refine zz_iconst (3) dX0_init_23 (by decide) ?_
  refine zz_sipush (3600) dX0_init_24 (by decide) ?_
  refine zz_iast 3 (by decide) (by decide) (by decide) rfl (by decide) dX0_init_27 ?_
  refine zz_dup dX0_init_28 rfl ?_
  refine zz_iconst (4) dX0_init_29 (by decide) ?_
  refine zz_iconst (0) dX0_init_30 (by decide) ?_
  refine zz_iast 4 (by decide) (by decide) (by decide) rfl (by decide) dX0_init_31 ?_
  refine zz_putR fl_X0_9 rfl rfl (by decide) (Or.inr ⟨rfl, _, _, rfl, rfl⟩) rfl rfl dX0_init_32 ?_
  refine zz_aload_0 dX0_init_35 ?_
  refine zz_iconst (0) dX0_init_36 (by decide) ?_
  refine zz_putI fl_X0_15 rfl rfl (by decide) dX0_init_37 ?_
  refine zz_aload_0 dX0_init_40 ?_
  refine zz_iconst (0) dX0_init_41 (by decide) ?_
  refine zz_putI fl_X0_19 rfl rfl (by decide) dX0_init_42 ?_
  refine zz_aload_0 dX0_init_45 ?_
  refine zz_iconst (0) dX0_init_46 (by decide) ?_
  refine zz_putI fl_X0_22 rfl rfl (by decide) dX0_init_47 ?_
  refine zz_aload_0 dX0_init_50 ?_
  refine zz_iconst (0) dX0_init_51 (by decide) ?_
  refine zz_putI fl_X0_25 rfl rfl (by decide) dX0_init_52 ?_
  refine zz_aload_0 dX0_init_55 ?_
  refine zz_iconst (1) dX0_init_56 (by decide) ?_
  refine zz_putI fl_X0_28 rfl rfl (by decide) dX0_init_57 ?_
  refine zz_aload_0 dX0_init_60 ?_
  refine zz_bipush (6) dX0_init_61 (by decide) ?_
  refine zz_iconst (5) dX0_init_63 (by decide) ?_
  refine zz_multi (N := 6) (K := 5) (by decide) (by decide) (by decide) (by decide) (by decide) (by decide) (by decide) rfl (by decide) kl_X0_31 ac_int (by decide) (by decide) dX0_init_64 ?_
  refine zz_putR fl_X0_33 rfl rfl (by decide) (Or.inr ⟨rfl, _, _, rfl, rfl⟩) rfl rfl dX0_init_68 ?_
  refine zz_aload_0 dX0_init_71 ?_
  refine zz_iconst (0) dX0_init_72 (by decide) ?_
  refine zz_putI fl_X0_36 rfl rfl (by decide) dX0_init_73 ?_
  refine zz_aload_0 dX0_init_76 ?_
  refine zz_bipush (10) dX0_init_77 (by decide) ?_
  refine zz_bipush (6) dX0_init_79 (by decide) ?_
  refine zz_multi (N := 10) (K := 6) (by decide) (by decide) (by decide) (by decide) (by decide) (by decide) (by decide) rfl (by decide) kl_X0_31 ac_int (by decide) (by decide) dX0_init_81 ?_
  refine zz_putR fl_X0_39 rfl rfl (by decide) (Or.inr ⟨rfl, _, _, rfl, rfl⟩) rfl rfl dX0_init_85 ?_
  refine zz_aload_0 dX0_init_88 ?_
  refine zz_iconst (0) dX0_init_89 (by decide) ?_
  refine zz_putI fl_X0_42 rfl rfl (by decide) dX0_init_90 ?_
  refine zz_aload_0 dX0_init_93 ?_
  refine zz_bipush (50) dX0_init_94 (by decide) ?_
  refine zz_newI (by decide) (by decide) (by decide) (by decide) rfl ac_int (by decide) (by decide) dX0_init_96 ?_
  refine zz_putR fl_X0_45 rfl rfl (by decide) (Or.inr ⟨rfl, _, _, rfl, rfl⟩) rfl rfl dX0_init_98 ?_
  refine zz_aload_0 dX0_init_101 ?_
  refine zz_iconst (0) dX0_init_102 (by decide) ?_
  refine zz_putI fl_X0_48 rfl rfl (by decide) dX0_init_103 ?_
  refine zz_aload_0 dX0_init_106 ?_
  refine zz_iconst (2) dX0_init_107 (by decide) ?_
  refine zz_newR (tk := 1) (Or.inl ⟨rfl, rfl⟩) (by decide) (by decide) (by decide) kl_X0_51 (by decide) rfl (by decide) (by decide) dX0_init_108 ?_
  refine zz_dup dX0_init_111 rfl ?_
  refine zz_iconst (0) dX0_init_112 (by decide) ?_
  refine zz_newO cf_X8 dv_X8 kl_X0_51 ki_X8 kn_X8 (by decide) rfl (by decide) (by decide) dX0_init_113 ?_
  refine zz_dup dX0_init_116 rfl ?_
  refine zz_callI0 (Or.inl kc_X0_53) (Nat.le_of_ble_eq_true rfl) (by decide) (by decide) dX0_init_117 (t_X8_init_82 ⟨rfl, ?_⟩)
  refine zz_aastT 0 (by decide) (by decide) (by decide) rfl (by decide) rfl (by decide) dX0_init_120 ?_
  refine zz_dup dX0_init_121 rfl ?_
  refine zz_iconst (1) dX0_init_122 (by decide) ?_
  refine zz_newO cf_X8 dv_X8 kl_X0_51 ki_X8 kn_X8 (by decide) rfl (by decide) (by decide) dX0_init_123 ?_
  refine zz_dup dX0_init_126 rfl ?_
  refine zz_callI0 (Or.inl kc_X0_53) (Nat.le_of_ble_eq_true rfl) (by decide) (by decide) dX0_init_127 (t_X8_init_84 ⟨rfl, ?_⟩)
  refine zz_aastT 1 (by decide) (by decide) (by decide) rfl (by decide) rfl (by decide) dX0_init_130 ?_
  refine zz_putR fl_X0_54 rfl rfl (by decide) (Or.inr ⟨rfl, _, _, rfl, rfl⟩) rfl rfl dX0_init_131 ?_
  refine zz_aload_0 dX0_init_134 ?_
  refine zz_bipush (20) dX0_init_135 (by decide) ?_
  refine zz_newI (by decide) (by decide) (by decide) (by decide) rfl ac_int (by decide) (by decide) dX0_init_137 ?_
  refine zz_putR fl_X0_58 rfl rfl (by decide) (Or.inr ⟨rfl, _, _, rfl, rfl⟩) rfl rfl dX0_init_139 ?_
  refine zz_aload_0 dX0_init_142 ?_
  refine zz_iconst (0) dX0_init_143 (by decide) ?_
  refine zz_putI fl_X0_61 rfl rfl (by decide) dX0_init_144 ?_
  refine zz_vret rfl dX0_init_147 (by decide) (by decide) ?_
  refine h _ _ ⟨fun k hk => ⟨?_, ?_⟩, ⟨rfl, rfl, rfl, rfl, rfl, rfl⟩, fun x hx => ?_, fun x hx => ?_, ⟨rfl, rfl, rfl, rfl⟩, ⟨rfl, rfl, rfl, rfl, rfl, rfl, rfl, rfl, rfl⟩, fun x hx => ?_, fun x j hx => ?_, fun x j hx => ?_, fun j => rfl, rfl, rfl, fun j => rfl⟩
  · rw [zz_u_row _ _ (by omega), zz_n0_row _ (by omega), zz_u_row _ _ (by omega), zz_n0_row _ (by omega), zz_n0_row _ (by omega), zz_u_row _ _ (by omega), zz_n0_row _ (by omega), zz_n0_row _ (by omega), zz_u_row _ _ (by omega), zz_n0_row _ (by omega), zz_u_row _ _ (by omega), zm_g_row _ (by omega), zz_u_row _ _ (by omega), zm_g_row _ (by omega), zz_u_row _ _ (by omega), zz_u_row _ _ (by omega), zz_u_row _ _ (by omega), zz_u_row _ _ (by omega), zz_u_row _ _ (by omega), zz_u_row _ _ (by omega), zz_u_row _ _ (by omega), zz_u_row _ _ (by omega), zz_u_row _ _ (by omega), zz_u_row _ _ (by omega), zz_n0_row _ (by omega)]
  · rw [zz_ur_row _ _ (by omega), zz_ur_row _ _ (by omega), zz_ur_row _ _ (by omega), zz_ur_row _ _ (by omega), zz_nr_row _ (by omega), zz_ur_row _ _ (by omega), zz_ur_row _ _ (by omega), zz_nr_row _ (by omega), zz_nr_row _ (by omega), zz_ur_row _ _ (by omega), zz_ur_row _ _ (by omega), zm_r_row _ (by omega), zz_ur_row _ _ (by omega), zm_r_row _ (by omega), zz_ur_row _ _ (by omega)]
  · rcases (show x = 0 ∨ x = 1 ∨ x = 2 ∨ x = 3 ∨ x = 4 ∨ x = 5 by omega) with e | e | e | e | e | e <;> subst e <;> rfl
  · rcases (show x = 0 ∨ x = 1 ∨ x = 2 ∨ x = 3 ∨ x = 4 ∨ x = 5 ∨ x = 6 ∨ x = 7 ∨ x = 8 ∨ x = 9 by omega) with e | e | e | e | e | e | e | e | e | e <;> subst e <;> rfl
  · rcases (show x = 0 ∨ x = 1 ∨ x = 2 ∨ x = 3 ∨ x = 4 by omega) with e | e | e | e | e <;> subst e <;> rfl
  · rcases (show x = 0 ∨ x = 1 ∨ x = 2 ∨ x = 3 ∨ x = 4 ∨ x = 5 by omega) with e | e | e | e | e | e <;> subst e <;> rfl
  · rcases (show x = 0 ∨ x = 1 ∨ x = 2 ∨ x = 3 ∨ x = 4 ∨ x = 5 ∨ x = 6 ∨ x = 7 ∨ x = 8 ∨ x = 9 by omega) with e | e | e | e | e | e | e | e | e | e <;> subst e <;> rfl
