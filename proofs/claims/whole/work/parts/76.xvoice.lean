/-! the trace of the class: cell 41 (1 size, 2 n, 3 m), numbers in 42 -/
def xran (g : zz_G) (b : Int32) : zz_G := if 40 ≤ g 41 1 then g else zz_u (zz_u g 42 (g 41 1).toNatClampNeg b) 41 1 (g 41 1 + 1)
def xrans (g : zz_G) : List Int32 → zz_G
  | [] => g
  | b :: l => xrans (xran g b) l
def vx (g : zz_G) (N M : Int32) : Prop := g 41 2 = N ∧ g 41 3 = M ∧ ∃ tw : Nat, tw ≤ 40 ∧ g 41 1 = nI tw
theorem vx.r1 {g : zz_G} {N M b : Int32} (h : vx g N M) : vx (xran g b) N M := by
  obtain ⟨h1, h2, tw, h4, e⟩ := h
  unfold xran
  by_cases h9 : 40 ≤ g 41 1
  · rw [if_pos h9]
    exact ⟨h1, h2, tw, h4, e⟩
  · rw [if_neg h9]
    have h8 := h9
    rw [e] at h8
    have := zz_lti (b := 40) h8 (by omega) (by omega)
    refine ⟨?_, ?_, tw + 1, by omega, by rw [zz_u_same, e, nI_1]⟩
    · rw [zz_u_ne2 _ _ (by decide), zz_u_ne1 _ _ (by decide)]
      exact h1
    · rw [zz_u_ne2 _ _ (by decide), zz_u_ne1 _ _ (by decide)]
      exact h2
theorem vx.r {N M : Int32} : ∀ (l : List Int32) (g : zz_G), vx g N M → vx (xrans g l) N M := by
  intro l
  induction l with
  | nil => intro g h; exact h
  | cons b l ih => intro g h; exact ih _ h.r1
theorem xrans_a (g : zz_G) : ∀ (l l' : List Int32), xrans (xrans g l) l' = xrans g (l ++ l') := by
  intro l
  induction l generalizing g with
  | nil => intro l'; rfl
  | cons b l ih => intro l'; exact ih (xran g b) l'
theorem xrans_1p {g : zz_G} {b : Int32} (h : 40 ≤ g 41 1) : xrans g [b] = g := if_pos h
theorem xrans_1n {g : zz_G} {b : Int32} (h : ¬ 40 ≤ g 41 1) : xrans g [b] = zz_u (zz_u g 42 (g 41 1).toNatClampNeg b) 41 1 (g 41 1 + 1) := if_neg h
set_option maxRecDepth 100000 in
set_option maxHeartbeats 4000000 in
theorem t_X9_add {C : zz_C} {d n : Nat} {g : zz_G} {r : zz_R} {Q : zz_Q} (hn : 60 ≤ n) (hr : xr r) {b : Int32} (ht : ∃ tw : Nat, tw ≤ 40 ∧ g 41 1 = nI tw) (h : Q none (xrans g [b]) r n) : zz_T C mi_X9_add d 0 0 [.ref 41, .int b] g r n Q := by
  refine zz_T.of [some (.ref 41), some (.int b)] (by decide +kernel) rfl (Nat.le_of_ble_eq_true rfl) ?_
  obtain ⟨tw, htw, etw⟩ := ht
  refine zz_aload_0 dX9_add_0 ?_
  refine zz_getI fl_X9_15 rfl rfl (Nat.lt_of_lt_of_le (by decide) hn) dX9_add_1 ?_
  refine zz_bipush (40) dX9_add_4 (by decide) ?_
  refine zz_icmp_ge 29 dX9_add_6 (by decide) (fun c_6 => ?_) (fun c_6 => ?_)
  · skip
    refine zz_vret rfl dX9_add_29 (by decide) (by decide) ?_
    rw [xrans_1p c_6] at h
    exact h
  · skip
    have hlt : tw < 40 := by
      rw [etw] at c_6
      exact zz_lti (b := 40) c_6 (by omega) (by omega)
    refine zz_aload_0 dX9_add_9 ?_
    refine zz_getR fl_X9_9 rfl rfl (Nat.lt_of_lt_of_le (by decide) hn) (xr_41_0 hr) dX9_add_10 ?_
    refine zz_aload_0 dX9_add_13 ?_
    refine zz_getI fl_X9_15 rfl rfl (Nat.lt_of_lt_of_le (by decide) hn) dX9_add_14 ?_
    refine zz_iload_1 dX9_add_17 ?_
    refine zz_isN tw etw hlt (by decide) rfl (Nat.lt_of_lt_of_le (by decide) hn) dX9_add_18 ?_
    refine zz_aload_0 dX9_add_19 ?_
    refine zz_dup dX9_add_20 rfl ?_
    refine zz_getI fl_X9_15 rfl rfl (Nat.lt_of_lt_of_le (by decide) hn) dX9_add_21 ?_
    refine zz_iconst (1) dX9_add_24 (by decide) ?_
    refine zz_iadd dX9_add_25 ?_
    refine zz_putI fl_X9_15 rfl rfl (Nat.lt_of_lt_of_le (by decide) hn) dX9_add_26 ?_
    refine zz_vret rfl dX9_add_29 (by decide) (by decide) ?_
    rw [xrans_1n c_6, etw, ix_w (by omega)] at h
    rw [zz_u_ne1 _ _ (show (41 : Nat) ≠ 42 by decide), etw]
    exact h

set_option maxRecDepth 100000 in
set_option maxHeartbeats 4000000 in
theorem t_X10_sends_30 {C : zz_C} {d n : Nat} {g : zz_G} {r : zz_R} {Q : zz_Q} (hn : 60 ≤ n) (hr : xr r) {N M x : Int32} (hq : vx g N M) (h : Q (some (.int (x + N))) (xrans g [10]) r n) : zz_T C mi_X10_sends (d + 1) 0 0 [.ref 30, .ref 41, .int x] g r n Q := by
  refine zz_T.of [some (.ref 30), some (.ref 41), some (.int x)] (by decide +kernel) rfl (Nat.le_of_ble_eq_true rfl) ?_
  refine zz_aload_1 dX10_sends_0 ?_
  refine zz_bipush (10) dX10_sends_1 (by decide) ?_
  refine zz_callV1v cv_X10_7 rfl (Nat.lt_of_lt_of_le (by decide) hn) (Nat.le_of_ble_eq_true rfl) (by decide) (by decide) dX10_sends_3 (t_X9_add hn hr hq.2.2 ⟨rfl, ?_⟩)
  refine zz_iload_2 dX10_sends_6 ?_
  refine zz_aload_1 dX10_sends_7 ?_
  refine zz_getI fl_X10_13 rfl rfl (Nat.lt_of_lt_of_le (by decide) hn) dX10_sends_8 ?_
  rw [(vx.r _ _ hq).1]
  refine zz_iadd dX10_sends_11 ?_
  refine zz_iret rfl dX10_sends_12 (by decide) (by decide) ?_
  exact h

set_option maxRecDepth 100000 in
set_option maxHeartbeats 4000000 in
theorem t_X10_sends_31 {C : zz_C} {d n : Nat} {g : zz_G} {r : zz_R} {Q : zz_Q} (hn : 60 ≤ n) (hr : xr r) {N M x : Int32} (hq : vx g N M) (h : Q (some (.int (x + N))) (xrans g [10]) r n) : zz_T C mi_X10_sends (d + 1) 0 0 [.ref 31, .ref 41, .int x] g r n Q := by
  refine zz_T.of [some (.ref 31), some (.ref 41), some (.int x)] (by decide +kernel) rfl (Nat.le_of_ble_eq_true rfl) ?_
  refine zz_aload_1 dX10_sends_0 ?_
  refine zz_bipush (10) dX10_sends_1 (by decide) ?_
  refine zz_callV1v cv_X10_7 rfl (Nat.lt_of_lt_of_le (by decide) hn) (Nat.le_of_ble_eq_true rfl) (by decide) (by decide) dX10_sends_3 (t_X9_add hn hr hq.2.2 ⟨rfl, ?_⟩)
  refine zz_iload_2 dX10_sends_6 ?_
  refine zz_aload_1 dX10_sends_7 ?_
  refine zz_getI fl_X10_13 rfl rfl (Nat.lt_of_lt_of_le (by decide) hn) dX10_sends_8 ?_
  rw [(vx.r _ _ hq).1]
  refine zz_iadd dX10_sends_11 ?_
  refine zz_iret rfl dX10_sends_12 (by decide) (by decide) ?_
  exact h

set_option maxRecDepth 100000 in
set_option maxHeartbeats 4000000 in
theorem t_X10_sends_32 {C : zz_C} {d n : Nat} {g : zz_G} {r : zz_R} {Q : zz_Q} (hn : 60 ≤ n) (hr : xr r) {N M x : Int32} (hq : vx g N M) (h : Q (some (.int (x + N))) (xrans g [10]) r n) : zz_T C mi_X10_sends (d + 1) 0 0 [.ref 32, .ref 41, .int x] g r n Q := by
  refine zz_T.of [some (.ref 32), some (.ref 41), some (.int x)] (by decide +kernel) rfl (Nat.le_of_ble_eq_true rfl) ?_
  refine zz_aload_1 dX10_sends_0 ?_
  refine zz_bipush (10) dX10_sends_1 (by decide) ?_
  refine zz_callV1v cv_X10_7 rfl (Nat.lt_of_lt_of_le (by decide) hn) (Nat.le_of_ble_eq_true rfl) (by decide) (by decide) dX10_sends_3 (t_X9_add hn hr hq.2.2 ⟨rfl, ?_⟩)
  refine zz_iload_2 dX10_sends_6 ?_
  refine zz_aload_1 dX10_sends_7 ?_
  refine zz_getI fl_X10_13 rfl rfl (Nat.lt_of_lt_of_le (by decide) hn) dX10_sends_8 ?_
  rw [(vx.r _ _ hq).1]
  refine zz_iadd dX10_sends_11 ?_
  refine zz_iret rfl dX10_sends_12 (by decide) (by decide) ?_
  exact h

set_option maxRecDepth 100000 in
set_option maxHeartbeats 4000000 in
theorem t_X10_sends_33 {C : zz_C} {d n : Nat} {g : zz_G} {r : zz_R} {Q : zz_Q} (hn : 60 ≤ n) (hr : xr r) {N M x : Int32} (hq : vx g N M) (h : Q (some (.int (x + N))) (xrans g [10]) r n) : zz_T C mi_X10_sends (d + 1) 0 0 [.ref 33, .ref 41, .int x] g r n Q := by
  refine zz_T.of [some (.ref 33), some (.ref 41), some (.int x)] (by decide +kernel) rfl (Nat.le_of_ble_eq_true rfl) ?_
  refine zz_aload_1 dX10_sends_0 ?_
  refine zz_bipush (10) dX10_sends_1 (by decide) ?_
  refine zz_callV1v cv_X10_7 rfl (Nat.lt_of_lt_of_le (by decide) hn) (Nat.le_of_ble_eq_true rfl) (by decide) (by decide) dX10_sends_3 (t_X9_add hn hr hq.2.2 ⟨rfl, ?_⟩)
  refine zz_iload_2 dX10_sends_6 ?_
  refine zz_aload_1 dX10_sends_7 ?_
  refine zz_getI fl_X10_13 rfl rfl (Nat.lt_of_lt_of_le (by decide) hn) dX10_sends_8 ?_
  rw [(vx.r _ _ hq).1]
  refine zz_iadd dX10_sends_11 ?_
  refine zz_iret rfl dX10_sends_12 (by decide) (by decide) ?_
  exact h

set_option maxRecDepth 100000 in
set_option maxHeartbeats 4000000 in
theorem t_X10_sends_34 {C : zz_C} {d n : Nat} {g : zz_G} {r : zz_R} {Q : zz_Q} (hn : 60 ≤ n) (hr : xr r) {N M x : Int32} (hq : vx g N M) (h : Q (some (.int (x + N))) (xrans g [10]) r n) : zz_T C mi_X10_sends (d + 1) 0 0 [.ref 34, .ref 41, .int x] g r n Q := by
  refine zz_T.of [some (.ref 34), some (.ref 41), some (.int x)] (by decide +kernel) rfl (Nat.le_of_ble_eq_true rfl) ?_
  refine zz_aload_1 dX10_sends_0 ?_
  refine zz_bipush (10) dX10_sends_1 (by decide) ?_
  refine zz_callV1v cv_X10_7 rfl (Nat.lt_of_lt_of_le (by decide) hn) (Nat.le_of_ble_eq_true rfl) (by decide) (by decide) dX10_sends_3 (t_X9_add hn hr hq.2.2 ⟨rfl, ?_⟩)
  refine zz_iload_2 dX10_sends_6 ?_
  refine zz_aload_1 dX10_sends_7 ?_
  refine zz_getI fl_X10_13 rfl rfl (Nat.lt_of_lt_of_le (by decide) hn) dX10_sends_8 ?_
  rw [(vx.r _ _ hq).1]
  refine zz_iadd dX10_sends_11 ?_
  refine zz_iret rfl dX10_sends_12 (by decide) (by decide) ?_
  exact h

set_option maxRecDepth 100000 in
set_option maxHeartbeats 4000000 in
theorem t_X10_sends_35 {C : zz_C} {d n : Nat} {g : zz_G} {r : zz_R} {Q : zz_Q} (hn : 60 ≤ n) (hr : xr r) {N M x : Int32} (hq : vx g N M) (h : Q (some (.int (x + N))) (xrans g [10]) r n) : zz_T C mi_X10_sends (d + 1) 0 0 [.ref 35, .ref 41, .int x] g r n Q := by
  refine zz_T.of [some (.ref 35), some (.ref 41), some (.int x)] (by decide +kernel) rfl (Nat.le_of_ble_eq_true rfl) ?_
  refine zz_aload_1 dX10_sends_0 ?_
  refine zz_bipush (10) dX10_sends_1 (by decide) ?_
  refine zz_callV1v cv_X10_7 rfl (Nat.lt_of_lt_of_le (by decide) hn) (Nat.le_of_ble_eq_true rfl) (by decide) (by decide) dX10_sends_3 (t_X9_add hn hr hq.2.2 ⟨rfl, ?_⟩)
  refine zz_iload_2 dX10_sends_6 ?_
  refine zz_aload_1 dX10_sends_7 ?_
  refine zz_getI fl_X10_13 rfl rfl (Nat.lt_of_lt_of_le (by decide) hn) dX10_sends_8 ?_
  rw [(vx.r _ _ hq).1]
  refine zz_iadd dX10_sends_11 ?_
  refine zz_iret rfl dX10_sends_12 (by decide) (by decide) ?_
  exact h

set_option maxRecDepth 100000 in
set_option maxHeartbeats 4000000 in
theorem t_X10_sends_36 {C : zz_C} {d n : Nat} {g : zz_G} {r : zz_R} {Q : zz_Q} (hn : 60 ≤ n) (hr : xr r) {N M x : Int32} (hq : vx g N M) (h : Q (some (.int (x + N))) (xrans g [10]) r n) : zz_T C mi_X10_sends (d + 1) 0 0 [.ref 36, .ref 41, .int x] g r n Q := by
  refine zz_T.of [some (.ref 36), some (.ref 41), some (.int x)] (by decide +kernel) rfl (Nat.le_of_ble_eq_true rfl) ?_
  refine zz_aload_1 dX10_sends_0 ?_
  refine zz_bipush (10) dX10_sends_1 (by decide) ?_
  refine zz_callV1v cv_X10_7 rfl (Nat.lt_of_lt_of_le (by decide) hn) (Nat.le_of_ble_eq_true rfl) (by decide) (by decide) dX10_sends_3 (t_X9_add hn hr hq.2.2 ⟨rfl, ?_⟩)
  refine zz_iload_2 dX10_sends_6 ?_
  refine zz_aload_1 dX10_sends_7 ?_
  refine zz_getI fl_X10_13 rfl rfl (Nat.lt_of_lt_of_le (by decide) hn) dX10_sends_8 ?_
  rw [(vx.r _ _ hq).1]
  refine zz_iadd dX10_sends_11 ?_
  refine zz_iret rfl dX10_sends_12 (by decide) (by decide) ?_
  exact h

set_option maxRecDepth 100000 in
set_option maxHeartbeats 4000000 in
theorem t_X4_sends_31 {C : zz_C} {d n : Nat} {g : zz_G} {r : zz_R} {Q : zz_Q} (hn : 60 ≤ n) (hr : xr r) {N M x : Int32} (hq : vx g N M) (h : Q (some (.int ((x + N) * 3))) (xrans g [20, 10]) r n) : zz_T C mi_X4_sends (d + 2) 0 0 [.ref 31, .ref 41, .int x] g r n Q := by
  refine zz_T.of [some (.ref 31), some (.ref 41), some (.int x)] (by decide +kernel) rfl (Nat.le_of_ble_eq_true rfl) ?_
  refine zz_aload_1 dX4_sends_0 ?_
  refine zz_bipush (20) dX4_sends_1 (by decide) ?_
  refine zz_callV1v cv_X4_7 rfl (Nat.lt_of_lt_of_le (by decide) hn) (Nat.le_of_ble_eq_true rfl) (by decide) (by decide) dX4_sends_3 (t_X9_add hn hr hq.2.2 ⟨rfl, ?_⟩)
  refine zz_aload_0 dX4_sends_6 ?_
  refine zz_aload_1 dX4_sends_7 ?_
  refine zz_iload_2 dX4_sends_8 ?_
  refine zz_callP2i cp_X4_13 rfl rfl (Nat.lt_of_lt_of_le (by decide) hn) (Nat.le_of_ble_eq_true rfl) (by decide) (by decide) dX4_sends_9 (t_X10_sends_31 hn hr (vx.r _ _ hq) ⟨_, rfl, ?_⟩)
  refine zz_iconst (3) dX4_sends_12 (by decide) ?_
  refine zz_imul dX4_sends_13 ?_
  refine zz_iret rfl dX4_sends_14 (by decide) (by decide) ?_
  rw [xrans_a]
  exact h

set_option maxRecDepth 100000 in
set_option maxHeartbeats 4000000 in
theorem t_X4_sends_34 {C : zz_C} {d n : Nat} {g : zz_G} {r : zz_R} {Q : zz_Q} (hn : 60 ≤ n) (hr : xr r) {N M x : Int32} (hq : vx g N M) (h : Q (some (.int ((x + N) * 3))) (xrans g [20, 10]) r n) : zz_T C mi_X4_sends (d + 2) 0 0 [.ref 34, .ref 41, .int x] g r n Q := by
  refine zz_T.of [some (.ref 34), some (.ref 41), some (.int x)] (by decide +kernel) rfl (Nat.le_of_ble_eq_true rfl) ?_
  refine zz_aload_1 dX4_sends_0 ?_
  refine zz_bipush (20) dX4_sends_1 (by decide) ?_
  refine zz_callV1v cv_X4_7 rfl (Nat.lt_of_lt_of_le (by decide) hn) (Nat.le_of_ble_eq_true rfl) (by decide) (by decide) dX4_sends_3 (t_X9_add hn hr hq.2.2 ⟨rfl, ?_⟩)
  refine zz_aload_0 dX4_sends_6 ?_
  refine zz_aload_1 dX4_sends_7 ?_
  refine zz_iload_2 dX4_sends_8 ?_
  refine zz_callP2i cp_X4_13 rfl rfl (Nat.lt_of_lt_of_le (by decide) hn) (Nat.le_of_ble_eq_true rfl) (by decide) (by decide) dX4_sends_9 (t_X10_sends_34 hn hr (vx.r _ _ hq) ⟨_, rfl, ?_⟩)
  refine zz_iconst (3) dX4_sends_12 (by decide) ?_
  refine zz_imul dX4_sends_13 ?_
  refine zz_iret rfl dX4_sends_14 (by decide) (by decide) ?_
  rw [xrans_a]
  exact h

set_option maxRecDepth 100000 in
set_option maxHeartbeats 4000000 in
theorem t_X10_shuts_30 {C : zz_C} {d n : Nat} {g : zz_G} {r : zz_R} {Q : zz_Q} (hn : 60 ≤ n) (hr : xr r) {N M x : Int32} (hq : vx g N M) (h : Q (some (.int (x - M))) (xrans g [12]) r n) : zz_T C mi_X10_shuts (d + 1) 0 0 [.ref 30, .ref 41, .int x] g r n Q := by
  refine zz_T.of [some (.ref 30), some (.ref 41), some (.int x)] (by decide +kernel) rfl (Nat.le_of_ble_eq_true rfl) ?_
  refine zz_aload_1 dX10_shuts_0 ?_
  refine zz_bipush (12) dX10_shuts_1 (by decide) ?_
  refine zz_callV1v cv_X10_7 rfl (Nat.lt_of_lt_of_le (by decide) hn) (Nat.le_of_ble_eq_true rfl) (by decide) (by decide) dX10_shuts_3 (t_X9_add hn hr hq.2.2 ⟨rfl, ?_⟩)
  refine zz_iload_2 dX10_shuts_6 ?_
  refine zz_aload_1 dX10_shuts_7 ?_
  refine zz_getI fl_X10_23 rfl rfl (Nat.lt_of_lt_of_le (by decide) hn) dX10_shuts_8 ?_
  rw [(vx.r _ _ hq).2.1]
  refine zz_isub dX10_shuts_11 ?_
  refine zz_iret rfl dX10_shuts_12 (by decide) (by decide) ?_
  exact h

set_option maxRecDepth 100000 in
set_option maxHeartbeats 4000000 in
theorem t_X10_shuts_31 {C : zz_C} {d n : Nat} {g : zz_G} {r : zz_R} {Q : zz_Q} (hn : 60 ≤ n) (hr : xr r) {N M x : Int32} (hq : vx g N M) (h : Q (some (.int (x - M))) (xrans g [12]) r n) : zz_T C mi_X10_shuts (d + 1) 0 0 [.ref 31, .ref 41, .int x] g r n Q := by
  refine zz_T.of [some (.ref 31), some (.ref 41), some (.int x)] (by decide +kernel) rfl (Nat.le_of_ble_eq_true rfl) ?_
  refine zz_aload_1 dX10_shuts_0 ?_
  refine zz_bipush (12) dX10_shuts_1 (by decide) ?_
  refine zz_callV1v cv_X10_7 rfl (Nat.lt_of_lt_of_le (by decide) hn) (Nat.le_of_ble_eq_true rfl) (by decide) (by decide) dX10_shuts_3 (t_X9_add hn hr hq.2.2 ⟨rfl, ?_⟩)
  refine zz_iload_2 dX10_shuts_6 ?_
  refine zz_aload_1 dX10_shuts_7 ?_
  refine zz_getI fl_X10_23 rfl rfl (Nat.lt_of_lt_of_le (by decide) hn) dX10_shuts_8 ?_
  rw [(vx.r _ _ hq).2.1]
  refine zz_isub dX10_shuts_11 ?_
  refine zz_iret rfl dX10_shuts_12 (by decide) (by decide) ?_
  exact h

set_option maxRecDepth 100000 in
set_option maxHeartbeats 4000000 in
theorem t_X10_shuts_32 {C : zz_C} {d n : Nat} {g : zz_G} {r : zz_R} {Q : zz_Q} (hn : 60 ≤ n) (hr : xr r) {N M x : Int32} (hq : vx g N M) (h : Q (some (.int (x - M))) (xrans g [12]) r n) : zz_T C mi_X10_shuts (d + 1) 0 0 [.ref 32, .ref 41, .int x] g r n Q := by
  refine zz_T.of [some (.ref 32), some (.ref 41), some (.int x)] (by decide +kernel) rfl (Nat.le_of_ble_eq_true rfl) ?_
  refine zz_aload_1 dX10_shuts_0 ?_
  refine zz_bipush (12) dX10_shuts_1 (by decide) ?_
  refine zz_callV1v cv_X10_7 rfl (Nat.lt_of_lt_of_le (by decide) hn) (Nat.le_of_ble_eq_true rfl) (by decide) (by decide) dX10_shuts_3 (t_X9_add hn hr hq.2.2 ⟨rfl, ?_⟩)
  refine zz_iload_2 dX10_shuts_6 ?_
  refine zz_aload_1 dX10_shuts_7 ?_
  refine zz_getI fl_X10_23 rfl rfl (Nat.lt_of_lt_of_le (by decide) hn) dX10_shuts_8 ?_
  rw [(vx.r _ _ hq).2.1]
  refine zz_isub dX10_shuts_11 ?_
  refine zz_iret rfl dX10_shuts_12 (by decide) (by decide) ?_
  exact h

set_option maxRecDepth 100000 in
set_option maxHeartbeats 4000000 in
theorem t_X10_shuts_33 {C : zz_C} {d n : Nat} {g : zz_G} {r : zz_R} {Q : zz_Q} (hn : 60 ≤ n) (hr : xr r) {N M x : Int32} (hq : vx g N M) (h : Q (some (.int (x - M))) (xrans g [12]) r n) : zz_T C mi_X10_shuts (d + 1) 0 0 [.ref 33, .ref 41, .int x] g r n Q := by
  refine zz_T.of [some (.ref 33), some (.ref 41), some (.int x)] (by decide +kernel) rfl (Nat.le_of_ble_eq_true rfl) ?_
  refine zz_aload_1 dX10_shuts_0 ?_
  refine zz_bipush (12) dX10_shuts_1 (by decide) ?_
  refine zz_callV1v cv_X10_7 rfl (Nat.lt_of_lt_of_le (by decide) hn) (Nat.le_of_ble_eq_true rfl) (by decide) (by decide) dX10_shuts_3 (t_X9_add hn hr hq.2.2 ⟨rfl, ?_⟩)
  refine zz_iload_2 dX10_shuts_6 ?_
  refine zz_aload_1 dX10_shuts_7 ?_
  refine zz_getI fl_X10_23 rfl rfl (Nat.lt_of_lt_of_le (by decide) hn) dX10_shuts_8 ?_
  rw [(vx.r _ _ hq).2.1]
  refine zz_isub dX10_shuts_11 ?_
  refine zz_iret rfl dX10_shuts_12 (by decide) (by decide) ?_
  exact h

set_option maxRecDepth 100000 in
set_option maxHeartbeats 4000000 in
theorem t_X10_shuts_34 {C : zz_C} {d n : Nat} {g : zz_G} {r : zz_R} {Q : zz_Q} (hn : 60 ≤ n) (hr : xr r) {N M x : Int32} (hq : vx g N M) (h : Q (some (.int (x - M))) (xrans g [12]) r n) : zz_T C mi_X10_shuts (d + 1) 0 0 [.ref 34, .ref 41, .int x] g r n Q := by
  refine zz_T.of [some (.ref 34), some (.ref 41), some (.int x)] (by decide +kernel) rfl (Nat.le_of_ble_eq_true rfl) ?_
  refine zz_aload_1 dX10_shuts_0 ?_
  refine zz_bipush (12) dX10_shuts_1 (by decide) ?_
  refine zz_callV1v cv_X10_7 rfl (Nat.lt_of_lt_of_le (by decide) hn) (Nat.le_of_ble_eq_true rfl) (by decide) (by decide) dX10_shuts_3 (t_X9_add hn hr hq.2.2 ⟨rfl, ?_⟩)
  refine zz_iload_2 dX10_shuts_6 ?_
  refine zz_aload_1 dX10_shuts_7 ?_
  refine zz_getI fl_X10_23 rfl rfl (Nat.lt_of_lt_of_le (by decide) hn) dX10_shuts_8 ?_
  rw [(vx.r _ _ hq).2.1]
  refine zz_isub dX10_shuts_11 ?_
  refine zz_iret rfl dX10_shuts_12 (by decide) (by decide) ?_
  exact h

set_option maxRecDepth 100000 in
set_option maxHeartbeats 4000000 in
theorem t_X10_shuts_35 {C : zz_C} {d n : Nat} {g : zz_G} {r : zz_R} {Q : zz_Q} (hn : 60 ≤ n) (hr : xr r) {N M x : Int32} (hq : vx g N M) (h : Q (some (.int (x - M))) (xrans g [12]) r n) : zz_T C mi_X10_shuts (d + 1) 0 0 [.ref 35, .ref 41, .int x] g r n Q := by
  refine zz_T.of [some (.ref 35), some (.ref 41), some (.int x)] (by decide +kernel) rfl (Nat.le_of_ble_eq_true rfl) ?_
  refine zz_aload_1 dX10_shuts_0 ?_
  refine zz_bipush (12) dX10_shuts_1 (by decide) ?_
  refine zz_callV1v cv_X10_7 rfl (Nat.lt_of_lt_of_le (by decide) hn) (Nat.le_of_ble_eq_true rfl) (by decide) (by decide) dX10_shuts_3 (t_X9_add hn hr hq.2.2 ⟨rfl, ?_⟩)
  refine zz_iload_2 dX10_shuts_6 ?_
  refine zz_aload_1 dX10_shuts_7 ?_
  refine zz_getI fl_X10_23 rfl rfl (Nat.lt_of_lt_of_le (by decide) hn) dX10_shuts_8 ?_
  rw [(vx.r _ _ hq).2.1]
  refine zz_isub dX10_shuts_11 ?_
  refine zz_iret rfl dX10_shuts_12 (by decide) (by decide) ?_
  exact h

set_option maxRecDepth 100000 in
set_option maxHeartbeats 4000000 in
theorem t_X10_shuts_36 {C : zz_C} {d n : Nat} {g : zz_G} {r : zz_R} {Q : zz_Q} (hn : 60 ≤ n) (hr : xr r) {N M x : Int32} (hq : vx g N M) (h : Q (some (.int (x - M))) (xrans g [12]) r n) : zz_T C mi_X10_shuts (d + 1) 0 0 [.ref 36, .ref 41, .int x] g r n Q := by
  refine zz_T.of [some (.ref 36), some (.ref 41), some (.int x)] (by decide +kernel) rfl (Nat.le_of_ble_eq_true rfl) ?_
  refine zz_aload_1 dX10_shuts_0 ?_
  refine zz_bipush (12) dX10_shuts_1 (by decide) ?_
  refine zz_callV1v cv_X10_7 rfl (Nat.lt_of_lt_of_le (by decide) hn) (Nat.le_of_ble_eq_true rfl) (by decide) (by decide) dX10_shuts_3 (t_X9_add hn hr hq.2.2 ⟨rfl, ?_⟩)
  refine zz_iload_2 dX10_shuts_6 ?_
  refine zz_aload_1 dX10_shuts_7 ?_
  refine zz_getI fl_X10_23 rfl rfl (Nat.lt_of_lt_of_le (by decide) hn) dX10_shuts_8 ?_
  rw [(vx.r _ _ hq).2.1]
  refine zz_isub dX10_shuts_11 ?_
  refine zz_iret rfl dX10_shuts_12 (by decide) (by decide) ?_
  exact h

set_option maxRecDepth 100000 in
set_option maxHeartbeats 4000000 in
theorem t_X2_shuts_33 {C : zz_C} {d n : Nat} {g : zz_G} {r : zz_R} {Q : zz_Q} (hn : 60 ≤ n) (hr : xr r) {N M x : Int32} (hq : vx g N M) (h : Q (some (.int (-(x - M)))) (xrans g [40, 12]) r n) : zz_T C mi_X2_shuts (d + 2) 0 0 [.ref 33, .ref 41, .int x] g r n Q := by
  refine zz_T.of [some (.ref 33), some (.ref 41), some (.int x)] (by decide +kernel) rfl (Nat.le_of_ble_eq_true rfl) ?_
  refine zz_aload_1 dX2_shuts_0 ?_
  refine zz_bipush (40) dX2_shuts_1 (by decide) ?_
  refine zz_callV1v cv_X2_7 rfl (Nat.lt_of_lt_of_le (by decide) hn) (Nat.le_of_ble_eq_true rfl) (by decide) (by decide) dX2_shuts_3 (t_X9_add hn hr hq.2.2 ⟨rfl, ?_⟩)
  refine zz_aload_0 dX2_shuts_6 ?_
  refine zz_aload_1 dX2_shuts_7 ?_
  refine zz_iload_2 dX2_shuts_8 ?_
  refine zz_callP2i cp_X2_13 rfl rfl (Nat.lt_of_lt_of_le (by decide) hn) (Nat.le_of_ble_eq_true rfl) (by decide) (by decide) dX2_shuts_9 (t_X10_shuts_33 hn hr (vx.r _ _ hq) ⟨_, rfl, ?_⟩)
  refine zz_ineg dX2_shuts_12 ?_
  refine zz_iret rfl dX2_shuts_13 (by decide) (by decide) ?_
  rw [xrans_a]
  exact h

set_option maxRecDepth 100000 in
set_option maxHeartbeats 4000000 in
theorem t_X2_shuts_36 {C : zz_C} {d n : Nat} {g : zz_G} {r : zz_R} {Q : zz_Q} (hn : 60 ≤ n) (hr : xr r) {N M x : Int32} (hq : vx g N M) (h : Q (some (.int (-(x - M)))) (xrans g [40, 12]) r n) : zz_T C mi_X2_shuts (d + 2) 0 0 [.ref 36, .ref 41, .int x] g r n Q := by
  refine zz_T.of [some (.ref 36), some (.ref 41), some (.int x)] (by decide +kernel) rfl (Nat.le_of_ble_eq_true rfl) ?_
  refine zz_aload_1 dX2_shuts_0 ?_
  refine zz_bipush (40) dX2_shuts_1 (by decide) ?_
  refine zz_callV1v cv_X2_7 rfl (Nat.lt_of_lt_of_le (by decide) hn) (Nat.le_of_ble_eq_true rfl) (by decide) (by decide) dX2_shuts_3 (t_X9_add hn hr hq.2.2 ⟨rfl, ?_⟩)
  refine zz_aload_0 dX2_shuts_6 ?_
  refine zz_aload_1 dX2_shuts_7 ?_
  refine zz_iload_2 dX2_shuts_8 ?_
  refine zz_callP2i cp_X2_13 rfl rfl (Nat.lt_of_lt_of_le (by decide) hn) (Nat.le_of_ble_eq_true rfl) (by decide) (by decide) dX2_shuts_9 (t_X10_shuts_36 hn hr (vx.r _ _ hq) ⟨_, rfl, ?_⟩)
  refine zz_ineg dX2_shuts_12 ?_
  refine zz_iret rfl dX2_shuts_13 (by decide) (by decide) ?_
  rw [xrans_a]
  exact h

set_option maxRecDepth 100000 in
set_option maxHeartbeats 4000000 in
theorem t_X7_shuts_36 {C : zz_C} {d n : Nat} {g : zz_G} {r : zz_R} {Q : zz_Q} (hn : 60 ≤ n) (hr : xr r) {N M x : Int32} (hq : vx g N M) (h : Q (some (.int (-(x - M) ^^^ N))) (xrans g [70, 40, 12]) r n) : zz_T C mi_X7_shuts (d + 3) 0 0 [.ref 36, .ref 41, .int x] g r n Q := by
  refine zz_T.of [some (.ref 36), some (.ref 41), some (.int x)] (by decide +kernel) rfl (Nat.le_of_ble_eq_true rfl) ?_
  refine zz_aload_1 dX7_shuts_0 ?_
  refine zz_bipush (70) dX7_shuts_1 (by decide) ?_
  refine zz_callV1v cv_X7_7 rfl (Nat.lt_of_lt_of_le (by decide) hn) (Nat.le_of_ble_eq_true rfl) (by decide) (by decide) dX7_shuts_3 (t_X9_add hn hr hq.2.2 ⟨rfl, ?_⟩)
  refine zz_aload_0 dX7_shuts_6 ?_
  refine zz_aload_1 dX7_shuts_7 ?_
  refine zz_iload_2 dX7_shuts_8 ?_
  refine zz_callP2i cp_X7_13 rfl rfl (Nat.lt_of_lt_of_le (by decide) hn) (Nat.le_of_ble_eq_true rfl) (by decide) (by decide) dX7_shuts_9 (t_X2_shuts_36 hn hr (vx.r _ _ hq) ⟨_, rfl, ?_⟩)
  refine zz_aload_1 dX7_shuts_12 ?_
  refine zz_getI fl_X7_17 rfl rfl (Nat.lt_of_lt_of_le (by decide) hn) dX7_shuts_13 ?_
  rw [(vx.r _ _ (vx.r _ _ hq)).1]
  refine zz_ixor dX7_shuts_16 ?_
  refine zz_iret rfl dX7_shuts_17 (by decide) (by decide) ?_
  rw [xrans_a]
  exact h

set_option maxRecDepth 100000 in
set_option maxHeartbeats 4000000 in
theorem t_X10_holds_30 {C : zz_C} {d n : Nat} {g : zz_G} {r : zz_R} {Q : zz_Q} (hn : 60 ≤ n) (hr : xr r) {N M x : Int32} (hq : vx g N M) (h : Q (some (.int ((x + N) * 2))) (xrans g [11, 10]) r n) : zz_T C mi_X10_holds (d + 3) 0 0 [.ref 30, .ref 41, .int x] g r n Q := by
  refine zz_T.of [some (.ref 30), some (.ref 41), some (.int x)] (by decide +kernel) rfl (Nat.le_of_ble_eq_true rfl) ?_
  refine zz_aload_1 dX10_holds_0 ?_
  refine zz_bipush (11) dX10_holds_1 (by decide) ?_
  refine zz_callV1v cv_X10_7 rfl (Nat.lt_of_lt_of_le (by decide) hn) (Nat.le_of_ble_eq_true rfl) (by decide) (by decide) dX10_holds_3 (t_X9_add hn hr hq.2.2 ⟨rfl, ?_⟩)
  refine zz_aload_0 dX10_holds_6 ?_
  refine zz_aload_1 dX10_holds_7 ?_
  refine zz_iload_2 dX10_holds_8 ?_
  refine zz_callU2i cu_X10_17_10 rfl (Nat.lt_of_lt_of_le (by decide) hn) (Nat.le_of_ble_eq_true rfl) (by decide) (by decide) dX10_holds_9 (t_X10_sends_30 hn hr (vx.r _ _ hq) ⟨_, rfl, ?_⟩)
  refine zz_iconst (2) dX10_holds_12 (by decide) ?_
  refine zz_imul dX10_holds_13 ?_
  refine zz_iret rfl dX10_holds_14 (by decide) (by decide) ?_
  rw [xrans_a]
  exact h

set_option maxRecDepth 100000 in
set_option maxHeartbeats 4000000 in
theorem t_X10_holds_31 {C : zz_C} {d n : Nat} {g : zz_G} {r : zz_R} {Q : zz_Q} (hn : 60 ≤ n) (hr : xr r) {N M x : Int32} (hq : vx g N M) (h : Q (some (.int (((x + N) * 3) * 2))) (xrans g [11, 20, 10]) r n) : zz_T C mi_X10_holds (d + 3) 0 0 [.ref 31, .ref 41, .int x] g r n Q := by
  refine zz_T.of [some (.ref 31), some (.ref 41), some (.int x)] (by decide +kernel) rfl (Nat.le_of_ble_eq_true rfl) ?_
  refine zz_aload_1 dX10_holds_0 ?_
  refine zz_bipush (11) dX10_holds_1 (by decide) ?_
  refine zz_callV1v cv_X10_7 rfl (Nat.lt_of_lt_of_le (by decide) hn) (Nat.le_of_ble_eq_true rfl) (by decide) (by decide) dX10_holds_3 (t_X9_add hn hr hq.2.2 ⟨rfl, ?_⟩)
  refine zz_aload_0 dX10_holds_6 ?_
  refine zz_aload_1 dX10_holds_7 ?_
  refine zz_iload_2 dX10_holds_8 ?_
  refine zz_callU2i cu_X10_17_4 rfl (Nat.lt_of_lt_of_le (by decide) hn) (Nat.le_of_ble_eq_true rfl) (by decide) (by decide) dX10_holds_9 (t_X4_sends_31 hn hr (vx.r _ _ hq) ⟨_, rfl, ?_⟩)
  refine zz_iconst (2) dX10_holds_12 (by decide) ?_
  refine zz_imul dX10_holds_13 ?_
  refine zz_iret rfl dX10_holds_14 (by decide) (by decide) ?_
  rw [xrans_a]
  exact h

set_option maxRecDepth 100000 in
set_option maxHeartbeats 4000000 in
theorem t_X10_holds_32 {C : zz_C} {d n : Nat} {g : zz_G} {r : zz_R} {Q : zz_Q} (hn : 60 ≤ n) (hr : xr r) {N M x : Int32} (hq : vx g N M) (h : Q (some (.int ((x + N) * 2))) (xrans g [11, 10]) r n) : zz_T C mi_X10_holds (d + 3) 0 0 [.ref 32, .ref 41, .int x] g r n Q := by
  refine zz_T.of [some (.ref 32), some (.ref 41), some (.int x)] (by decide +kernel) rfl (Nat.le_of_ble_eq_true rfl) ?_
  refine zz_aload_1 dX10_holds_0 ?_
  refine zz_bipush (11) dX10_holds_1 (by decide) ?_
  refine zz_callV1v cv_X10_7 rfl (Nat.lt_of_lt_of_le (by decide) hn) (Nat.le_of_ble_eq_true rfl) (by decide) (by decide) dX10_holds_3 (t_X9_add hn hr hq.2.2 ⟨rfl, ?_⟩)
  refine zz_aload_0 dX10_holds_6 ?_
  refine zz_aload_1 dX10_holds_7 ?_
  refine zz_iload_2 dX10_holds_8 ?_
  refine zz_callU2i cu_X10_17_1 rfl (Nat.lt_of_lt_of_le (by decide) hn) (Nat.le_of_ble_eq_true rfl) (by decide) (by decide) dX10_holds_9 (t_X10_sends_32 hn hr (vx.r _ _ hq) ⟨_, rfl, ?_⟩)
  refine zz_iconst (2) dX10_holds_12 (by decide) ?_
  refine zz_imul dX10_holds_13 ?_
  refine zz_iret rfl dX10_holds_14 (by decide) (by decide) ?_
  rw [xrans_a]
  exact h

set_option maxRecDepth 100000 in
set_option maxHeartbeats 4000000 in
theorem t_X10_holds_33 {C : zz_C} {d n : Nat} {g : zz_G} {r : zz_R} {Q : zz_Q} (hn : 60 ≤ n) (hr : xr r) {N M x : Int32} (hq : vx g N M) (h : Q (some (.int ((x + N) * 2))) (xrans g [11, 10]) r n) : zz_T C mi_X10_holds (d + 3) 0 0 [.ref 33, .ref 41, .int x] g r n Q := by
  refine zz_T.of [some (.ref 33), some (.ref 41), some (.int x)] (by decide +kernel) rfl (Nat.le_of_ble_eq_true rfl) ?_
  refine zz_aload_1 dX10_holds_0 ?_
  refine zz_bipush (11) dX10_holds_1 (by decide) ?_
  refine zz_callV1v cv_X10_7 rfl (Nat.lt_of_lt_of_le (by decide) hn) (Nat.le_of_ble_eq_true rfl) (by decide) (by decide) dX10_holds_3 (t_X9_add hn hr hq.2.2 ⟨rfl, ?_⟩)
  refine zz_aload_0 dX10_holds_6 ?_
  refine zz_aload_1 dX10_holds_7 ?_
  refine zz_iload_2 dX10_holds_8 ?_
  refine zz_callU2i cu_X10_17_2 rfl (Nat.lt_of_lt_of_le (by decide) hn) (Nat.le_of_ble_eq_true rfl) (by decide) (by decide) dX10_holds_9 (t_X10_sends_33 hn hr (vx.r _ _ hq) ⟨_, rfl, ?_⟩)
  refine zz_iconst (2) dX10_holds_12 (by decide) ?_
  refine zz_imul dX10_holds_13 ?_
  refine zz_iret rfl dX10_holds_14 (by decide) (by decide) ?_
  rw [xrans_a]
  exact h

set_option maxRecDepth 100000 in
set_option maxHeartbeats 4000000 in
theorem t_X10_holds_34 {C : zz_C} {d n : Nat} {g : zz_G} {r : zz_R} {Q : zz_Q} (hn : 60 ≤ n) (hr : xr r) {N M x : Int32} (hq : vx g N M) (h : Q (some (.int (((x + N) * 3) * 2))) (xrans g [11, 20, 10]) r n) : zz_T C mi_X10_holds (d + 3) 0 0 [.ref 34, .ref 41, .int x] g r n Q := by
  refine zz_T.of [some (.ref 34), some (.ref 41), some (.int x)] (by decide +kernel) rfl (Nat.le_of_ble_eq_true rfl) ?_
  refine zz_aload_1 dX10_holds_0 ?_
  refine zz_bipush (11) dX10_holds_1 (by decide) ?_
  refine zz_callV1v cv_X10_7 rfl (Nat.lt_of_lt_of_le (by decide) hn) (Nat.le_of_ble_eq_true rfl) (by decide) (by decide) dX10_holds_3 (t_X9_add hn hr hq.2.2 ⟨rfl, ?_⟩)
  refine zz_aload_0 dX10_holds_6 ?_
  refine zz_aload_1 dX10_holds_7 ?_
  refine zz_iload_2 dX10_holds_8 ?_
  refine zz_callU2i cu_X10_17_6 rfl (Nat.lt_of_lt_of_le (by decide) hn) (Nat.le_of_ble_eq_true rfl) (by decide) (by decide) dX10_holds_9 (t_X4_sends_34 hn hr (vx.r _ _ hq) ⟨_, rfl, ?_⟩)
  refine zz_iconst (2) dX10_holds_12 (by decide) ?_
  refine zz_imul dX10_holds_13 ?_
  refine zz_iret rfl dX10_holds_14 (by decide) (by decide) ?_
  rw [xrans_a]
  exact h

set_option maxRecDepth 100000 in
set_option maxHeartbeats 4000000 in
theorem t_X10_holds_35 {C : zz_C} {d n : Nat} {g : zz_G} {r : zz_R} {Q : zz_Q} (hn : 60 ≤ n) (hr : xr r) {N M x : Int32} (hq : vx g N M) (h : Q (some (.int ((x + N) * 2))) (xrans g [11, 10]) r n) : zz_T C mi_X10_holds (d + 3) 0 0 [.ref 35, .ref 41, .int x] g r n Q := by
  refine zz_T.of [some (.ref 35), some (.ref 41), some (.int x)] (by decide +kernel) rfl (Nat.le_of_ble_eq_true rfl) ?_
  refine zz_aload_1 dX10_holds_0 ?_
  refine zz_bipush (11) dX10_holds_1 (by decide) ?_
  refine zz_callV1v cv_X10_7 rfl (Nat.lt_of_lt_of_le (by decide) hn) (Nat.le_of_ble_eq_true rfl) (by decide) (by decide) dX10_holds_3 (t_X9_add hn hr hq.2.2 ⟨rfl, ?_⟩)
  refine zz_aload_0 dX10_holds_6 ?_
  refine zz_aload_1 dX10_holds_7 ?_
  refine zz_iload_2 dX10_holds_8 ?_
  refine zz_callU2i cu_X10_17_3 rfl (Nat.lt_of_lt_of_le (by decide) hn) (Nat.le_of_ble_eq_true rfl) (by decide) (by decide) dX10_holds_9 (t_X10_sends_35 hn hr (vx.r _ _ hq) ⟨_, rfl, ?_⟩)
  refine zz_iconst (2) dX10_holds_12 (by decide) ?_
  refine zz_imul dX10_holds_13 ?_
  refine zz_iret rfl dX10_holds_14 (by decide) (by decide) ?_
  rw [xrans_a]
  exact h

set_option maxRecDepth 100000 in
set_option maxHeartbeats 4000000 in
theorem t_X10_holds_36 {C : zz_C} {d n : Nat} {g : zz_G} {r : zz_R} {Q : zz_Q} (hn : 60 ≤ n) (hr : xr r) {N M x : Int32} (hq : vx g N M) (h : Q (some (.int ((x + N) * 2))) (xrans g [11, 10]) r n) : zz_T C mi_X10_holds (d + 3) 0 0 [.ref 36, .ref 41, .int x] g r n Q := by
  refine zz_T.of [some (.ref 36), some (.ref 41), some (.int x)] (by decide +kernel) rfl (Nat.le_of_ble_eq_true rfl) ?_
  refine zz_aload_1 dX10_holds_0 ?_
  refine zz_bipush (11) dX10_holds_1 (by decide) ?_
  refine zz_callV1v cv_X10_7 rfl (Nat.lt_of_lt_of_le (by decide) hn) (Nat.le_of_ble_eq_true rfl) (by decide) (by decide) dX10_holds_3 (t_X9_add hn hr hq.2.2 ⟨rfl, ?_⟩)
  refine zz_aload_0 dX10_holds_6 ?_
  refine zz_aload_1 dX10_holds_7 ?_
  refine zz_iload_2 dX10_holds_8 ?_
  refine zz_callU2i cu_X10_17_7 rfl (Nat.lt_of_lt_of_le (by decide) hn) (Nat.le_of_ble_eq_true rfl) (by decide) (by decide) dX10_holds_9 (t_X10_sends_36 hn hr (vx.r _ _ hq) ⟨_, rfl, ?_⟩)
  refine zz_iconst (2) dX10_holds_12 (by decide) ?_
  refine zz_imul dX10_holds_13 ?_
  refine zz_iret rfl dX10_holds_14 (by decide) (by decide) ?_
  rw [xrans_a]
  exact h

set_option maxRecDepth 100000 in
set_option maxHeartbeats 4000000 in
theorem t_X1_holds_32 {C : zz_C} {d n : Nat} {g : zz_G} {r : zz_R} {Q : zz_Q} (hn : 60 ≤ n) (hr : xr r) {N M x : Int32} (hq : vx g N M) (h : Q (some (.int (((x + N) * 2) - (1 - M)))) (xrans g [30, 11, 10, 12]) r n) : zz_T C mi_X1_holds (d + 4) 0 0 [.ref 32, .ref 41, .int x] g r n Q := by
  refine zz_T.of [some (.ref 32), some (.ref 41), some (.int x)] (by decide +kernel) rfl (Nat.le_of_ble_eq_true rfl) ?_
  refine zz_aload_1 dX1_holds_0 ?_
  refine zz_bipush (30) dX1_holds_1 (by decide) ?_
  refine zz_callV1v cv_X1_7 rfl (Nat.lt_of_lt_of_le (by decide) hn) (Nat.le_of_ble_eq_true rfl) (by decide) (by decide) dX1_holds_3 (t_X9_add hn hr hq.2.2 ⟨rfl, ?_⟩)
  refine zz_aload_0 dX1_holds_6 ?_
  refine zz_aload_1 dX1_holds_7 ?_
  refine zz_iload_2 dX1_holds_8 ?_
  refine zz_callP2i cp_X1_13 rfl rfl (Nat.lt_of_lt_of_le (by decide) hn) (Nat.le_of_ble_eq_true rfl) (by decide) (by decide) dX1_holds_9 (t_X10_holds_32 hn hr (vx.r _ _ hq) ⟨_, rfl, ?_⟩)
  refine zz_aload_0 dX1_holds_12 ?_
  refine zz_aload_1 dX1_holds_13 ?_
  refine zz_iconst (1) dX1_holds_14 (by decide) ?_
  refine zz_callU2i cu_X1_17_1 rfl (Nat.lt_of_lt_of_le (by decide) hn) (Nat.le_of_ble_eq_true rfl) (by decide) (by decide) dX1_holds_15 (t_X10_shuts_32 hn hr (vx.r _ _ (vx.r _ _ hq)) ⟨_, rfl, ?_⟩)
  refine zz_isub dX1_holds_18 ?_
  refine zz_iret rfl dX1_holds_19 (by decide) (by decide) ?_
  rw [xrans_a, xrans_a]
  exact h

set_option maxRecDepth 100000 in
set_option maxHeartbeats 4000000 in
theorem t_X1_holds_35 {C : zz_C} {d n : Nat} {g : zz_G} {r : zz_R} {Q : zz_Q} (hn : 60 ≤ n) (hr : xr r) {N M x : Int32} (hq : vx g N M) (h : Q (some (.int (((x + N) * 2) - (1 - M)))) (xrans g [30, 11, 10, 12]) r n) : zz_T C mi_X1_holds (d + 4) 0 0 [.ref 35, .ref 41, .int x] g r n Q := by
  refine zz_T.of [some (.ref 35), some (.ref 41), some (.int x)] (by decide +kernel) rfl (Nat.le_of_ble_eq_true rfl) ?_
  refine zz_aload_1 dX1_holds_0 ?_
  refine zz_bipush (30) dX1_holds_1 (by decide) ?_
  refine zz_callV1v cv_X1_7 rfl (Nat.lt_of_lt_of_le (by decide) hn) (Nat.le_of_ble_eq_true rfl) (by decide) (by decide) dX1_holds_3 (t_X9_add hn hr hq.2.2 ⟨rfl, ?_⟩)
  refine zz_aload_0 dX1_holds_6 ?_
  refine zz_aload_1 dX1_holds_7 ?_
  refine zz_iload_2 dX1_holds_8 ?_
  refine zz_callP2i cp_X1_13 rfl rfl (Nat.lt_of_lt_of_le (by decide) hn) (Nat.le_of_ble_eq_true rfl) (by decide) (by decide) dX1_holds_9 (t_X10_holds_35 hn hr (vx.r _ _ hq) ⟨_, rfl, ?_⟩)
  refine zz_aload_0 dX1_holds_12 ?_
  refine zz_aload_1 dX1_holds_13 ?_
  refine zz_iconst (1) dX1_holds_14 (by decide) ?_
  refine zz_callU2i cu_X1_17_3 rfl (Nat.lt_of_lt_of_le (by decide) hn) (Nat.le_of_ble_eq_true rfl) (by decide) (by decide) dX1_holds_15 (t_X10_shuts_35 hn hr (vx.r _ _ (vx.r _ _ hq)) ⟨_, rfl, ?_⟩)
  refine zz_isub dX1_holds_18 ?_
  refine zz_iret rfl dX1_holds_19 (by decide) (by decide) ?_
  rw [xrans_a, xrans_a]
  exact h

set_option maxRecDepth 100000 in
set_option maxHeartbeats 4000000 in
theorem t_X3_holds_35 {C : zz_C} {d n : Nat} {g : zz_G} {r : zz_R} {Q : zz_Q} (hn : 60 ≤ n) (hr : xr r) {N M x : Int32} (hq : vx g N M) (h : Q (some (.int ((((x + 1) + N) * 2) - (1 - M)))) (xrans g [60, 30, 11, 10, 12]) r n) : zz_T C mi_X3_holds (d + 5) 0 0 [.ref 35, .ref 41, .int x] g r n Q := by
  refine zz_T.of [some (.ref 35), some (.ref 41), some (.int x)] (by decide +kernel) rfl (Nat.le_of_ble_eq_true rfl) ?_
  refine zz_aload_1 dX3_holds_0 ?_
  refine zz_bipush (60) dX3_holds_1 (by decide) ?_
  refine zz_callV1v cv_X3_11 rfl (Nat.lt_of_lt_of_le (by decide) hn) (Nat.le_of_ble_eq_true rfl) (by decide) (by decide) dX3_holds_3 (t_X9_add hn hr hq.2.2 ⟨rfl, ?_⟩)
  refine zz_aload_0 dX3_holds_6 ?_
  refine zz_aload_1 dX3_holds_7 ?_
  refine zz_iload_2 dX3_holds_8 ?_
  refine zz_iconst (1) dX3_holds_9 (by decide) ?_
  refine zz_iadd dX3_holds_10 ?_
  refine zz_callP2i cp_X3_17 rfl rfl (Nat.lt_of_lt_of_le (by decide) hn) (Nat.le_of_ble_eq_true rfl) (by decide) (by decide) dX3_holds_11 (t_X1_holds_35 hn hr (vx.r _ _ hq) ⟨_, rfl, ?_⟩)
  refine zz_iret rfl dX3_holds_14 (by decide) (by decide) ?_
  rw [xrans_a]
  exact h

set_option maxRecDepth 100000 in
set_option maxHeartbeats 4000000 in
theorem t_X10_tells_30 {C : zz_C} {d n : Nat} {g : zz_G} {r : zz_R} {Q : zz_Q} (hn : 60 ≤ n) (hr : xr r) {N M x : Int32} (hq : vx g N M) (h : Q (some (.int (((x + N) * 2) ^^^ (x - M)))) (xrans g [13, 11, 10, 12]) r n) : zz_T C mi_X10_tells (d + 6) 0 0 [.ref 30, .ref 41, .int x] g r n Q := by
  refine zz_T.of [some (.ref 30), some (.ref 41), some (.int x)] (by decide +kernel) rfl (Nat.le_of_ble_eq_true rfl) ?_
  refine zz_aload_1 dX10_tells_0 ?_
  refine zz_bipush (13) dX10_tells_1 (by decide) ?_
  refine zz_callV1v cv_X10_7 rfl (Nat.lt_of_lt_of_le (by decide) hn) (Nat.le_of_ble_eq_true rfl) (by decide) (by decide) dX10_tells_3 (t_X9_add hn hr hq.2.2 ⟨rfl, ?_⟩)
  refine zz_aload_0 dX10_tells_6 ?_
  refine zz_aload_1 dX10_tells_7 ?_
  refine zz_iload_2 dX10_tells_8 ?_
  refine zz_callU2i cu_X10_26_10 rfl (Nat.lt_of_lt_of_le (by decide) hn) (Nat.le_of_ble_eq_true rfl) (by decide) (by decide) dX10_tells_9 (t_X10_holds_30 hn hr (vx.r _ _ hq) ⟨_, rfl, ?_⟩)
  refine zz_aload_0 dX10_tells_12 ?_
  refine zz_aload_1 dX10_tells_13 ?_
  refine zz_iload_2 dX10_tells_14 ?_
  refine zz_callU2i cu_X10_29_10 rfl (Nat.lt_of_lt_of_le (by decide) hn) (Nat.le_of_ble_eq_true rfl) (by decide) (by decide) dX10_tells_15 (t_X10_shuts_30 hn hr (vx.r _ _ (vx.r _ _ hq)) ⟨_, rfl, ?_⟩)
  refine zz_ixor dX10_tells_18 ?_
  refine zz_iret rfl dX10_tells_19 (by decide) (by decide) ?_
  rw [xrans_a, xrans_a]
  exact h

set_option maxRecDepth 100000 in
set_option maxHeartbeats 4000000 in
theorem t_X10_tells_31 {C : zz_C} {d n : Nat} {g : zz_G} {r : zz_R} {Q : zz_Q} (hn : 60 ≤ n) (hr : xr r) {N M x : Int32} (hq : vx g N M) (h : Q (some (.int ((((x + N) * 3) * 2) ^^^ (x - M)))) (xrans g [13, 11, 20, 10, 12]) r n) : zz_T C mi_X10_tells (d + 6) 0 0 [.ref 31, .ref 41, .int x] g r n Q := by
  refine zz_T.of [some (.ref 31), some (.ref 41), some (.int x)] (by decide +kernel) rfl (Nat.le_of_ble_eq_true rfl) ?_
  refine zz_aload_1 dX10_tells_0 ?_
  refine zz_bipush (13) dX10_tells_1 (by decide) ?_
  refine zz_callV1v cv_X10_7 rfl (Nat.lt_of_lt_of_le (by decide) hn) (Nat.le_of_ble_eq_true rfl) (by decide) (by decide) dX10_tells_3 (t_X9_add hn hr hq.2.2 ⟨rfl, ?_⟩)
  refine zz_aload_0 dX10_tells_6 ?_
  refine zz_aload_1 dX10_tells_7 ?_
  refine zz_iload_2 dX10_tells_8 ?_
  refine zz_callU2i cu_X10_26_4 rfl (Nat.lt_of_lt_of_le (by decide) hn) (Nat.le_of_ble_eq_true rfl) (by decide) (by decide) dX10_tells_9 (t_X10_holds_31 hn hr (vx.r _ _ hq) ⟨_, rfl, ?_⟩)
  refine zz_aload_0 dX10_tells_12 ?_
  refine zz_aload_1 dX10_tells_13 ?_
  refine zz_iload_2 dX10_tells_14 ?_
  refine zz_callU2i cu_X10_29_4 rfl (Nat.lt_of_lt_of_le (by decide) hn) (Nat.le_of_ble_eq_true rfl) (by decide) (by decide) dX10_tells_15 (t_X10_shuts_31 hn hr (vx.r _ _ (vx.r _ _ hq)) ⟨_, rfl, ?_⟩)
  refine zz_ixor dX10_tells_18 ?_
  refine zz_iret rfl dX10_tells_19 (by decide) (by decide) ?_
  rw [xrans_a, xrans_a]
  exact h

set_option maxRecDepth 100000 in
set_option maxHeartbeats 4000000 in
theorem t_X10_tells_32 {C : zz_C} {d n : Nat} {g : zz_G} {r : zz_R} {Q : zz_Q} (hn : 60 ≤ n) (hr : xr r) {N M x : Int32} (hq : vx g N M) (h : Q (some (.int ((((x + N) * 2) - (1 - M)) ^^^ (x - M)))) (xrans g [13, 30, 11, 10, 12, 12]) r n) : zz_T C mi_X10_tells (d + 6) 0 0 [.ref 32, .ref 41, .int x] g r n Q := by
  refine zz_T.of [some (.ref 32), some (.ref 41), some (.int x)] (by decide +kernel) rfl (Nat.le_of_ble_eq_true rfl) ?_
  refine zz_aload_1 dX10_tells_0 ?_
  refine zz_bipush (13) dX10_tells_1 (by decide) ?_
  refine zz_callV1v cv_X10_7 rfl (Nat.lt_of_lt_of_le (by decide) hn) (Nat.le_of_ble_eq_true rfl) (by decide) (by decide) dX10_tells_3 (t_X9_add hn hr hq.2.2 ⟨rfl, ?_⟩)
  refine zz_aload_0 dX10_tells_6 ?_
  refine zz_aload_1 dX10_tells_7 ?_
  refine zz_iload_2 dX10_tells_8 ?_
  refine zz_callU2i cu_X10_26_1 rfl (Nat.lt_of_lt_of_le (by decide) hn) (Nat.le_of_ble_eq_true rfl) (by decide) (by decide) dX10_tells_9 (t_X1_holds_32 hn hr (vx.r _ _ hq) ⟨_, rfl, ?_⟩)
  refine zz_aload_0 dX10_tells_12 ?_
  refine zz_aload_1 dX10_tells_13 ?_
  refine zz_iload_2 dX10_tells_14 ?_
  refine zz_callU2i cu_X10_29_1 rfl (Nat.lt_of_lt_of_le (by decide) hn) (Nat.le_of_ble_eq_true rfl) (by decide) (by decide) dX10_tells_15 (t_X10_shuts_32 hn hr (vx.r _ _ (vx.r _ _ hq)) ⟨_, rfl, ?_⟩)
  refine zz_ixor dX10_tells_18 ?_
  refine zz_iret rfl dX10_tells_19 (by decide) (by decide) ?_
  rw [xrans_a, xrans_a]
  exact h

set_option maxRecDepth 100000 in
set_option maxHeartbeats 4000000 in
theorem t_X10_tells_33 {C : zz_C} {d n : Nat} {g : zz_G} {r : zz_R} {Q : zz_Q} (hn : 60 ≤ n) (hr : xr r) {N M x : Int32} (hq : vx g N M) (h : Q (some (.int (((x + N) * 2) ^^^ (-(x - M))))) (xrans g [13, 11, 10, 40, 12]) r n) : zz_T C mi_X10_tells (d + 6) 0 0 [.ref 33, .ref 41, .int x] g r n Q := by
  refine zz_T.of [some (.ref 33), some (.ref 41), some (.int x)] (by decide +kernel) rfl (Nat.le_of_ble_eq_true rfl) ?_
  refine zz_aload_1 dX10_tells_0 ?_
  refine zz_bipush (13) dX10_tells_1 (by decide) ?_
  refine zz_callV1v cv_X10_7 rfl (Nat.lt_of_lt_of_le (by decide) hn) (Nat.le_of_ble_eq_true rfl) (by decide) (by decide) dX10_tells_3 (t_X9_add hn hr hq.2.2 ⟨rfl, ?_⟩)
  refine zz_aload_0 dX10_tells_6 ?_
  refine zz_aload_1 dX10_tells_7 ?_
  refine zz_iload_2 dX10_tells_8 ?_
  refine zz_callU2i cu_X10_26_2 rfl (Nat.lt_of_lt_of_le (by decide) hn) (Nat.le_of_ble_eq_true rfl) (by decide) (by decide) dX10_tells_9 (t_X10_holds_33 hn hr (vx.r _ _ hq) ⟨_, rfl, ?_⟩)
  refine zz_aload_0 dX10_tells_12 ?_
  refine zz_aload_1 dX10_tells_13 ?_
  refine zz_iload_2 dX10_tells_14 ?_
  refine zz_callU2i cu_X10_29_2 rfl (Nat.lt_of_lt_of_le (by decide) hn) (Nat.le_of_ble_eq_true rfl) (by decide) (by decide) dX10_tells_15 (t_X2_shuts_33 hn hr (vx.r _ _ (vx.r _ _ hq)) ⟨_, rfl, ?_⟩)
  refine zz_ixor dX10_tells_18 ?_
  refine zz_iret rfl dX10_tells_19 (by decide) (by decide) ?_
  rw [xrans_a, xrans_a]
  exact h

set_option maxRecDepth 100000 in
set_option maxHeartbeats 4000000 in
theorem t_X10_tells_34 {C : zz_C} {d n : Nat} {g : zz_G} {r : zz_R} {Q : zz_Q} (hn : 60 ≤ n) (hr : xr r) {N M x : Int32} (hq : vx g N M) (h : Q (some (.int ((((x + N) * 3) * 2) ^^^ (x - M)))) (xrans g [13, 11, 20, 10, 12]) r n) : zz_T C mi_X10_tells (d + 6) 0 0 [.ref 34, .ref 41, .int x] g r n Q := by
  refine zz_T.of [some (.ref 34), some (.ref 41), some (.int x)] (by decide +kernel) rfl (Nat.le_of_ble_eq_true rfl) ?_
  refine zz_aload_1 dX10_tells_0 ?_
  refine zz_bipush (13) dX10_tells_1 (by decide) ?_
  refine zz_callV1v cv_X10_7 rfl (Nat.lt_of_lt_of_le (by decide) hn) (Nat.le_of_ble_eq_true rfl) (by decide) (by decide) dX10_tells_3 (t_X9_add hn hr hq.2.2 ⟨rfl, ?_⟩)
  refine zz_aload_0 dX10_tells_6 ?_
  refine zz_aload_1 dX10_tells_7 ?_
  refine zz_iload_2 dX10_tells_8 ?_
  refine zz_callU2i cu_X10_26_6 rfl (Nat.lt_of_lt_of_le (by decide) hn) (Nat.le_of_ble_eq_true rfl) (by decide) (by decide) dX10_tells_9 (t_X10_holds_34 hn hr (vx.r _ _ hq) ⟨_, rfl, ?_⟩)
  refine zz_aload_0 dX10_tells_12 ?_
  refine zz_aload_1 dX10_tells_13 ?_
  refine zz_iload_2 dX10_tells_14 ?_
  refine zz_callU2i cu_X10_29_6 rfl (Nat.lt_of_lt_of_le (by decide) hn) (Nat.le_of_ble_eq_true rfl) (by decide) (by decide) dX10_tells_15 (t_X10_shuts_34 hn hr (vx.r _ _ (vx.r _ _ hq)) ⟨_, rfl, ?_⟩)
  refine zz_ixor dX10_tells_18 ?_
  refine zz_iret rfl dX10_tells_19 (by decide) (by decide) ?_
  rw [xrans_a, xrans_a]
  exact h

set_option maxRecDepth 100000 in
set_option maxHeartbeats 4000000 in
theorem t_X10_tells_35 {C : zz_C} {d n : Nat} {g : zz_G} {r : zz_R} {Q : zz_Q} (hn : 60 ≤ n) (hr : xr r) {N M x : Int32} (hq : vx g N M) (h : Q (some (.int (((((x + 1) + N) * 2) - (1 - M)) ^^^ (x - M)))) (xrans g [13, 60, 30, 11, 10, 12, 12]) r n) : zz_T C mi_X10_tells (d + 6) 0 0 [.ref 35, .ref 41, .int x] g r n Q := by
  refine zz_T.of [some (.ref 35), some (.ref 41), some (.int x)] (by decide +kernel) rfl (Nat.le_of_ble_eq_true rfl) ?_
  refine zz_aload_1 dX10_tells_0 ?_
  refine zz_bipush (13) dX10_tells_1 (by decide) ?_
  refine zz_callV1v cv_X10_7 rfl (Nat.lt_of_lt_of_le (by decide) hn) (Nat.le_of_ble_eq_true rfl) (by decide) (by decide) dX10_tells_3 (t_X9_add hn hr hq.2.2 ⟨rfl, ?_⟩)
  refine zz_aload_0 dX10_tells_6 ?_
  refine zz_aload_1 dX10_tells_7 ?_
  refine zz_iload_2 dX10_tells_8 ?_
  refine zz_callU2i cu_X10_26_3 rfl (Nat.lt_of_lt_of_le (by decide) hn) (Nat.le_of_ble_eq_true rfl) (by decide) (by decide) dX10_tells_9 (t_X3_holds_35 hn hr (vx.r _ _ hq) ⟨_, rfl, ?_⟩)
  refine zz_aload_0 dX10_tells_12 ?_
  refine zz_aload_1 dX10_tells_13 ?_
  refine zz_iload_2 dX10_tells_14 ?_
  refine zz_callU2i cu_X10_29_3 rfl (Nat.lt_of_lt_of_le (by decide) hn) (Nat.le_of_ble_eq_true rfl) (by decide) (by decide) dX10_tells_15 (t_X10_shuts_35 hn hr (vx.r _ _ (vx.r _ _ hq)) ⟨_, rfl, ?_⟩)
  refine zz_ixor dX10_tells_18 ?_
  refine zz_iret rfl dX10_tells_19 (by decide) (by decide) ?_
  rw [xrans_a, xrans_a]
  exact h

set_option maxRecDepth 100000 in
set_option maxHeartbeats 4000000 in
theorem t_X10_tells_36 {C : zz_C} {d n : Nat} {g : zz_G} {r : zz_R} {Q : zz_Q} (hn : 60 ≤ n) (hr : xr r) {N M x : Int32} (hq : vx g N M) (h : Q (some (.int (((x + N) * 2) ^^^ (-(x - M) ^^^ N)))) (xrans g [13, 11, 10, 70, 40, 12]) r n) : zz_T C mi_X10_tells (d + 6) 0 0 [.ref 36, .ref 41, .int x] g r n Q := by
  refine zz_T.of [some (.ref 36), some (.ref 41), some (.int x)] (by decide +kernel) rfl (Nat.le_of_ble_eq_true rfl) ?_
  refine zz_aload_1 dX10_tells_0 ?_
  refine zz_bipush (13) dX10_tells_1 (by decide) ?_
  refine zz_callV1v cv_X10_7 rfl (Nat.lt_of_lt_of_le (by decide) hn) (Nat.le_of_ble_eq_true rfl) (by decide) (by decide) dX10_tells_3 (t_X9_add hn hr hq.2.2 ⟨rfl, ?_⟩)
  refine zz_aload_0 dX10_tells_6 ?_
  refine zz_aload_1 dX10_tells_7 ?_
  refine zz_iload_2 dX10_tells_8 ?_
  refine zz_callU2i cu_X10_26_7 rfl (Nat.lt_of_lt_of_le (by decide) hn) (Nat.le_of_ble_eq_true rfl) (by decide) (by decide) dX10_tells_9 (t_X10_holds_36 hn hr (vx.r _ _ hq) ⟨_, rfl, ?_⟩)
  refine zz_aload_0 dX10_tells_12 ?_
  refine zz_aload_1 dX10_tells_13 ?_
  refine zz_iload_2 dX10_tells_14 ?_
  refine zz_callU2i cu_X10_29_7 rfl (Nat.lt_of_lt_of_le (by decide) hn) (Nat.le_of_ble_eq_true rfl) (by decide) (by decide) dX10_tells_15 (t_X7_shuts_36 hn hr (vx.r _ _ (vx.r _ _ hq)) ⟨_, rfl, ?_⟩)
  refine zz_ixor dX10_tells_18 ?_
  refine zz_iret rfl dX10_tells_19 (by decide) (by decide) ?_
  rw [xrans_a, xrans_a]
  exact h

set_option maxRecDepth 100000 in
set_option maxHeartbeats 4000000 in
theorem t_X6_tells_34 {C : zz_C} {d n : Nat} {g : zz_G} {r : zz_R} {Q : zz_Q} (hn : 60 ≤ n) (hr : xr r) {N M x : Int32} (hq : vx g N M) (h : Q (some (.int (((((x + N) * 3) * 2) ^^^ (x - M)) - ((2 + N) * 3)))) (xrans g [50, 13, 11, 20, 10, 12, 20, 10]) r n) : zz_T C mi_X6_tells (d + 7) 0 0 [.ref 34, .ref 41, .int x] g r n Q := by
  refine zz_T.of [some (.ref 34), some (.ref 41), some (.int x)] (by decide +kernel) rfl (Nat.le_of_ble_eq_true rfl) ?_
  refine zz_aload_1 dX6_tells_0 ?_
  refine zz_bipush (50) dX6_tells_1 (by decide) ?_
  refine zz_callV1v cv_X6_15 rfl (Nat.lt_of_lt_of_le (by decide) hn) (Nat.le_of_ble_eq_true rfl) (by decide) (by decide) dX6_tells_3 (t_X9_add hn hr hq.2.2 ⟨rfl, ?_⟩)
  refine zz_aload_0 dX6_tells_6 ?_
  refine zz_aload_1 dX6_tells_7 ?_
  refine zz_iload_2 dX6_tells_8 ?_
  refine zz_callP2i cp_X6_21 rfl rfl (Nat.lt_of_lt_of_le (by decide) hn) (Nat.le_of_ble_eq_true rfl) (by decide) (by decide) dX6_tells_9 (t_X10_tells_34 hn hr (vx.r _ _ hq) ⟨_, rfl, ?_⟩)
  refine zz_aload_0 dX6_tells_12 ?_
  refine zz_aload_1 dX6_tells_13 ?_
  refine zz_iconst (2) dX6_tells_14 (by decide) ?_
  refine zz_callU2i cu_X6_25_6 rfl (Nat.lt_of_lt_of_le (by decide) hn) (Nat.le_of_ble_eq_true rfl) (by decide) (by decide) dX6_tells_15 (t_X4_sends_34 hn hr (vx.r _ _ (vx.r _ _ hq)) ⟨_, rfl, ?_⟩)
  refine zz_isub dX6_tells_18 ?_
  refine zz_iret rfl dX6_tells_19 (by decide) (by decide) ?_
  rw [xrans_a, xrans_a]
  exact h

set_option maxRecDepth 100000 in
set_option maxHeartbeats 4000000 in
theorem t_X7_tells_36 {C : zz_C} {d n : Nat} {g : zz_G} {r : zz_R} {Q : zz_Q} (hn : 60 ≤ n) (hr : xr r) {N M x : Int32} (hq : vx g N M) (h : Q (some (.int (((x + N) * 2) - (((x + N) * 2) ^^^ (-(x - M) ^^^ N))))) (xrans g [71, 11, 10, 13, 11, 10, 70, 40, 12]) r n) : zz_T C mi_X7_tells (d + 7) 0 0 [.ref 36, .ref 41, .int x] g r n Q := by
  refine zz_T.of [some (.ref 36), some (.ref 41), some (.int x)] (by decide +kernel) rfl (Nat.le_of_ble_eq_true rfl) ?_
  refine zz_aload_1 dX7_tells_0 ?_
  refine zz_bipush (71) dX7_tells_1 (by decide) ?_
  refine zz_callV1v cv_X7_7 rfl (Nat.lt_of_lt_of_le (by decide) hn) (Nat.le_of_ble_eq_true rfl) (by decide) (by decide) dX7_tells_3 (t_X9_add hn hr hq.2.2 ⟨rfl, ?_⟩)
  refine zz_aload_0 dX7_tells_6 ?_
  refine zz_aload_1 dX7_tells_7 ?_
  refine zz_iload_2 dX7_tells_8 ?_
  refine zz_callU2i cu_X7_21_7 rfl (Nat.lt_of_lt_of_le (by decide) hn) (Nat.le_of_ble_eq_true rfl) (by decide) (by decide) dX7_tells_9 (t_X10_holds_36 hn hr (vx.r _ _ hq) ⟨_, rfl, ?_⟩)
  refine zz_aload_0 dX7_tells_12 ?_
  refine zz_aload_1 dX7_tells_13 ?_
  refine zz_iload_2 dX7_tells_14 ?_
  refine zz_callP2i cp_X7_26 rfl rfl (Nat.lt_of_lt_of_le (by decide) hn) (Nat.le_of_ble_eq_true rfl) (by decide) (by decide) dX7_tells_15 (t_X10_tells_36 hn hr (vx.r _ _ (vx.r _ _ hq)) ⟨_, rfl, ?_⟩)
  refine zz_isub dX7_tells_18 ?_
  refine zz_iret rfl dX7_tells_19 (by decide) (by decide) ?_
  rw [xrans_a, xrans_a]
  exact h

theorem zz_vsU {C : zz_C} {d n : Nat} {L : List (Option Value)} {st : List Value} {g : zz_G} {r : zz_R} {Q : zz_Q} {N M x : Int32} (hn : 60 ≤ n) (hr : xr r) (hq : vx g N M) (hcat : (st.map fun v => v.category).sum ≤ 8) (k : Nat) (hk : k < 7) (h : zz_Z C mi_X11_voice (d + 8) 0 0 0 0 98 L (.int (vs_v N x k) :: st) (xrans g (vs_l k)) r n Q) : zz_Z C mi_X11_voice (d + 8) 0 0 0 0 95 L (.int x :: .ref 41 :: .ref (30 + k) :: st) g r n Q := by
  rcases (show k = 0 ∨ k = 1 ∨ k = 2 ∨ k = 3 ∨ k = 4 ∨ k = 5 ∨ k = 6 by omega) with e | e | e | e | e | e | e <;> subst e
  · rw [show vs_v N x 0 = (x + N) from rfl, show vs_l 0 = [10] from rfl] at h
    exact zz_callU2i (d := d + 7) cu_X11_273_10 rfl (Nat.lt_of_lt_of_le (by decide) hn) hcat (Nat.zero_le _) (Nat.zero_le _) dX11_voice_95 (t_X10_sends_30 (d := d + 6) hn hr hq ⟨_, rfl, h⟩)
  · rw [show vs_v N x 1 = ((x + N) * 3) from rfl, show vs_l 1 = [20, 10] from rfl] at h
    exact zz_callU2i (d := d + 7) cu_X11_273_4 rfl (Nat.lt_of_lt_of_le (by decide) hn) hcat (Nat.zero_le _) (Nat.zero_le _) dX11_voice_95 (t_X4_sends_31 (d := d + 5) hn hr hq ⟨_, rfl, h⟩)
  · rw [show vs_v N x 2 = (x + N) from rfl, show vs_l 2 = [10] from rfl] at h
    exact zz_callU2i (d := d + 7) cu_X11_273_1 rfl (Nat.lt_of_lt_of_le (by decide) hn) hcat (Nat.zero_le _) (Nat.zero_le _) dX11_voice_95 (t_X10_sends_32 (d := d + 6) hn hr hq ⟨_, rfl, h⟩)
  · rw [show vs_v N x 3 = (x + N) from rfl, show vs_l 3 = [10] from rfl] at h
    exact zz_callU2i (d := d + 7) cu_X11_273_2 rfl (Nat.lt_of_lt_of_le (by decide) hn) hcat (Nat.zero_le _) (Nat.zero_le _) dX11_voice_95 (t_X10_sends_33 (d := d + 6) hn hr hq ⟨_, rfl, h⟩)
  · rw [show vs_v N x 4 = ((x + N) * 3) from rfl, show vs_l 4 = [20, 10] from rfl] at h
    exact zz_callU2i (d := d + 7) cu_X11_273_6 rfl (Nat.lt_of_lt_of_le (by decide) hn) hcat (Nat.zero_le _) (Nat.zero_le _) dX11_voice_95 (t_X4_sends_34 (d := d + 5) hn hr hq ⟨_, rfl, h⟩)
  · rw [show vs_v N x 5 = (x + N) from rfl, show vs_l 5 = [10] from rfl] at h
    exact zz_callU2i (d := d + 7) cu_X11_273_3 rfl (Nat.lt_of_lt_of_le (by decide) hn) hcat (Nat.zero_le _) (Nat.zero_le _) dX11_voice_95 (t_X10_sends_35 (d := d + 6) hn hr hq ⟨_, rfl, h⟩)
  · rw [show vs_v N x 6 = (x + N) from rfl, show vs_l 6 = [10] from rfl] at h
    exact zz_callU2i (d := d + 7) cu_X11_273_7 rfl (Nat.lt_of_lt_of_le (by decide) hn) hcat (Nat.zero_le _) (Nat.zero_le _) dX11_voice_95 (t_X10_sends_36 (d := d + 6) hn hr hq ⟨_, rfl, h⟩)
theorem zz_voU {C : zz_C} {d n : Nat} {L : List (Option Value)} {st : List Value} {g : zz_G} {r : zz_R} {Q : zz_Q} {N M x : Int32} (hn : 60 ≤ n) (hr : xr r) (hq : vx g N M) (hcat : (st.map fun v => v.category).sum ≤ 8) (k : Nat) (hk : k < 7) (h : zz_Z C mi_X11_voice (d + 8) 0 0 0 0 109 L (.int (vo_v k N M x k) :: st) (xrans g (vo_l k k)) r n Q) : zz_Z C mi_X11_voice (d + 8) 0 0 0 0 106 L (.int x :: .ref 41 :: .ref (30 + k) :: st) g r n Q := by
  rcases (show k = 0 ∨ k = 1 ∨ k = 2 ∨ k = 3 ∨ k = 4 ∨ k = 5 ∨ k = 6 by omega) with e | e | e | e | e | e | e <;> subst e
  · rw [show vo_v 0 N M x 0 = ((x + N) * 2) from rfl, show vo_l 0 0 = [11, 10] from rfl] at h
    exact zz_callU2i (d := d + 7) cu_X11_277_10 rfl (Nat.lt_of_lt_of_le (by decide) hn) hcat (Nat.zero_le _) (Nat.zero_le _) dX11_voice_106 (t_X10_holds_30 (d := d + 4) hn hr hq ⟨_, rfl, h⟩)
  · rw [show vo_v 1 N M x 1 = (((x + N) * 3) * 2) from rfl, show vo_l 1 1 = [11, 20, 10] from rfl] at h
    exact zz_callU2i (d := d + 7) cu_X11_277_4 rfl (Nat.lt_of_lt_of_le (by decide) hn) hcat (Nat.zero_le _) (Nat.zero_le _) dX11_voice_106 (t_X10_holds_31 (d := d + 4) hn hr hq ⟨_, rfl, h⟩)
  · rw [show vo_v 2 N M x 2 = (((x + N) * 2) - (1 - M)) from rfl, show vo_l 2 2 = [30, 11, 10, 12] from rfl] at h
    exact zz_callU2i (d := d + 7) cu_X11_277_1 rfl (Nat.lt_of_lt_of_le (by decide) hn) hcat (Nat.zero_le _) (Nat.zero_le _) dX11_voice_106 (t_X1_holds_32 (d := d + 3) hn hr hq ⟨_, rfl, h⟩)
  · rw [show vo_v 3 N M x 3 = ((x + N) * 2) from rfl, show vo_l 3 3 = [11, 10] from rfl] at h
    exact zz_callU2i (d := d + 7) cu_X11_277_2 rfl (Nat.lt_of_lt_of_le (by decide) hn) hcat (Nat.zero_le _) (Nat.zero_le _) dX11_voice_106 (t_X10_holds_33 (d := d + 4) hn hr hq ⟨_, rfl, h⟩)
  · rw [show vo_v 4 N M x 4 = (((x + N) * 3) * 2) from rfl, show vo_l 4 4 = [11, 20, 10] from rfl] at h
    exact zz_callU2i (d := d + 7) cu_X11_277_6 rfl (Nat.lt_of_lt_of_le (by decide) hn) hcat (Nat.zero_le _) (Nat.zero_le _) dX11_voice_106 (t_X10_holds_34 (d := d + 4) hn hr hq ⟨_, rfl, h⟩)
  · rw [show vo_v 5 N M x 5 = ((((x + 1) + N) * 2) - (1 - M)) from rfl, show vo_l 5 5 = [60, 30, 11, 10, 12] from rfl] at h
    exact zz_callU2i (d := d + 7) cu_X11_277_3 rfl (Nat.lt_of_lt_of_le (by decide) hn) hcat (Nat.zero_le _) (Nat.zero_le _) dX11_voice_106 (t_X3_holds_35 (d := d + 2) hn hr hq ⟨_, rfl, h⟩)
  · rw [show vo_v 6 N M x 6 = ((x + N) * 2) from rfl, show vo_l 6 6 = [11, 10] from rfl] at h
    exact zz_callU2i (d := d + 7) cu_X11_277_7 rfl (Nat.lt_of_lt_of_le (by decide) hn) hcat (Nat.zero_le _) (Nat.zero_le _) dX11_voice_106 (t_X10_holds_36 (d := d + 4) hn hr hq ⟨_, rfl, h⟩)
theorem zz_vhU {C : zz_C} {d n : Nat} {L : List (Option Value)} {st : List Value} {g : zz_G} {r : zz_R} {Q : zz_Q} {N M x : Int32} (hn : 60 ≤ n) (hr : xr r) (hq : vx g N M) (hcat : (st.map fun v => v.category).sum ≤ 8) (k : Nat) (hk : k < 7) (h : zz_Z C mi_X11_voice (d + 8) 0 0 0 0 120 L (.int (vh_v N M x k) :: st) (xrans g (vh_l k)) r n Q) : zz_Z C mi_X11_voice (d + 8) 0 0 0 0 117 L (.int x :: .ref 41 :: .ref (30 + k) :: st) g r n Q := by
  rcases (show k = 0 ∨ k = 1 ∨ k = 2 ∨ k = 3 ∨ k = 4 ∨ k = 5 ∨ k = 6 by omega) with e | e | e | e | e | e | e <;> subst e
  · rw [show vh_v N M x 0 = (x - M) from rfl, show vh_l 0 = [12] from rfl] at h
    exact zz_callU2i (d := d + 7) cu_X11_280_10 rfl (Nat.lt_of_lt_of_le (by decide) hn) hcat (Nat.zero_le _) (Nat.zero_le _) dX11_voice_117 (t_X10_shuts_30 (d := d + 6) hn hr hq ⟨_, rfl, h⟩)
  · rw [show vh_v N M x 1 = (x - M) from rfl, show vh_l 1 = [12] from rfl] at h
    exact zz_callU2i (d := d + 7) cu_X11_280_4 rfl (Nat.lt_of_lt_of_le (by decide) hn) hcat (Nat.zero_le _) (Nat.zero_le _) dX11_voice_117 (t_X10_shuts_31 (d := d + 6) hn hr hq ⟨_, rfl, h⟩)
  · rw [show vh_v N M x 2 = (x - M) from rfl, show vh_l 2 = [12] from rfl] at h
    exact zz_callU2i (d := d + 7) cu_X11_280_1 rfl (Nat.lt_of_lt_of_le (by decide) hn) hcat (Nat.zero_le _) (Nat.zero_le _) dX11_voice_117 (t_X10_shuts_32 (d := d + 6) hn hr hq ⟨_, rfl, h⟩)
  · rw [show vh_v N M x 3 = (-(x - M)) from rfl, show vh_l 3 = [40, 12] from rfl] at h
    exact zz_callU2i (d := d + 7) cu_X11_280_2 rfl (Nat.lt_of_lt_of_le (by decide) hn) hcat (Nat.zero_le _) (Nat.zero_le _) dX11_voice_117 (t_X2_shuts_33 (d := d + 5) hn hr hq ⟨_, rfl, h⟩)
  · rw [show vh_v N M x 4 = (x - M) from rfl, show vh_l 4 = [12] from rfl] at h
    exact zz_callU2i (d := d + 7) cu_X11_280_6 rfl (Nat.lt_of_lt_of_le (by decide) hn) hcat (Nat.zero_le _) (Nat.zero_le _) dX11_voice_117 (t_X10_shuts_34 (d := d + 6) hn hr hq ⟨_, rfl, h⟩)
  · rw [show vh_v N M x 5 = (x - M) from rfl, show vh_l 5 = [12] from rfl] at h
    exact zz_callU2i (d := d + 7) cu_X11_280_3 rfl (Nat.lt_of_lt_of_le (by decide) hn) hcat (Nat.zero_le _) (Nat.zero_le _) dX11_voice_117 (t_X10_shuts_35 (d := d + 6) hn hr hq ⟨_, rfl, h⟩)
  · rw [show vh_v N M x 6 = (-(x - M) ^^^ N) from rfl, show vh_l 6 = [70, 40, 12] from rfl] at h
    exact zz_callU2i (d := d + 7) cu_X11_280_7 rfl (Nat.lt_of_lt_of_le (by decide) hn) hcat (Nat.zero_le _) (Nat.zero_le _) dX11_voice_117 (t_X7_shuts_36 (d := d + 4) hn hr hq ⟨_, rfl, h⟩)
theorem zz_veU {C : zz_C} {d n : Nat} {L : List (Option Value)} {st : List Value} {g : zz_G} {r : zz_R} {Q : zz_Q} {N M x : Int32} (hn : 60 ≤ n) (hr : xr r) (hq : vx g N M) (hcat : (st.map fun v => v.category).sum ≤ 8) (k : Nat) (hk : k < 7) (h : zz_Z C mi_X11_voice (d + 8) 0 0 0 0 131 L (.int (ve_v k N M x k) :: st) (xrans g (ve_l k k)) r n Q) : zz_Z C mi_X11_voice (d + 8) 0 0 0 0 128 L (.int x :: .ref 41 :: .ref (30 + k) :: st) g r n Q := by
  rcases (show k = 0 ∨ k = 1 ∨ k = 2 ∨ k = 3 ∨ k = 4 ∨ k = 5 ∨ k = 6 by omega) with e | e | e | e | e | e | e <;> subst e
  · rw [show ve_v 0 N M x 0 = (((x + N) * 2) ^^^ (x - M)) from rfl, show ve_l 0 0 = [13, 11, 10, 12] from rfl] at h
    exact zz_callU2i (d := d + 7) cu_X11_283_10 rfl (Nat.lt_of_lt_of_le (by decide) hn) hcat (Nat.zero_le _) (Nat.zero_le _) dX11_voice_128 (t_X10_tells_30 (d := d + 1) hn hr hq ⟨_, rfl, h⟩)
  · rw [show ve_v 1 N M x 1 = ((((x + N) * 3) * 2) ^^^ (x - M)) from rfl, show ve_l 1 1 = [13, 11, 20, 10, 12] from rfl] at h
    exact zz_callU2i (d := d + 7) cu_X11_283_4 rfl (Nat.lt_of_lt_of_le (by decide) hn) hcat (Nat.zero_le _) (Nat.zero_le _) dX11_voice_128 (t_X10_tells_31 (d := d + 1) hn hr hq ⟨_, rfl, h⟩)
  · rw [show ve_v 2 N M x 2 = ((((x + N) * 2) - (1 - M)) ^^^ (x - M)) from rfl, show ve_l 2 2 = [13, 30, 11, 10, 12, 12] from rfl] at h
    exact zz_callU2i (d := d + 7) cu_X11_283_1 rfl (Nat.lt_of_lt_of_le (by decide) hn) hcat (Nat.zero_le _) (Nat.zero_le _) dX11_voice_128 (t_X10_tells_32 (d := d + 1) hn hr hq ⟨_, rfl, h⟩)
  · rw [show ve_v 3 N M x 3 = (((x + N) * 2) ^^^ (-(x - M))) from rfl, show ve_l 3 3 = [13, 11, 10, 40, 12] from rfl] at h
    exact zz_callU2i (d := d + 7) cu_X11_283_2 rfl (Nat.lt_of_lt_of_le (by decide) hn) hcat (Nat.zero_le _) (Nat.zero_le _) dX11_voice_128 (t_X10_tells_33 (d := d + 1) hn hr hq ⟨_, rfl, h⟩)
  · rw [show ve_v 4 N M x 4 = (((((x + N) * 3) * 2) ^^^ (x - M)) - ((2 + N) * 3)) from rfl, show ve_l 4 4 = [50, 13, 11, 20, 10, 12, 20, 10] from rfl] at h
    exact zz_callU2i (d := d + 7) cu_X11_283_6 rfl (Nat.lt_of_lt_of_le (by decide) hn) hcat (Nat.zero_le _) (Nat.zero_le _) dX11_voice_128 (t_X6_tells_34 (d := d + 0) hn hr hq ⟨_, rfl, h⟩)
  · rw [show ve_v 5 N M x 5 = (((((x + 1) + N) * 2) - (1 - M)) ^^^ (x - M)) from rfl, show ve_l 5 5 = [13, 60, 30, 11, 10, 12, 12] from rfl] at h
    exact zz_callU2i (d := d + 7) cu_X11_283_3 rfl (Nat.lt_of_lt_of_le (by decide) hn) hcat (Nat.zero_le _) (Nat.zero_le _) dX11_voice_128 (t_X10_tells_35 (d := d + 1) hn hr hq ⟨_, rfl, h⟩)
  · rw [show ve_v 6 N M x 6 = (((x + N) * 2) - (((x + N) * 2) ^^^ (-(x - M) ^^^ N))) from rfl, show ve_l 6 6 = [71, 11, 10, 13, 11, 10, 70, 40, 12] from rfl] at h
    exact zz_callU2i (d := d + 7) cu_X11_283_7 rfl (Nat.lt_of_lt_of_le (by decide) hn) hcat (Nat.zero_le _) (Nat.zero_le _) dX11_voice_128 (t_X7_tells_36 (d := d + 0) hn hr hq ⟨_, rfl, h⟩)
theorem x_F.t41 {g g' S' : zz_G} {r : zz_R} {n j : Nat} {x : Int32} (h : x_F g g' r n S') (hj : j ≠ 1) : x_F g (zz_u g' 41 j x) r n S' := by
  refine ⟨h.1.gen (fun q hq i hi => ?_) (fun k hk => zz_u_row _ _ (by omega)) (fun _ _ => rfl) rfl rfl, fun k a b => (zz_u_row _ _ (by omega)).trans (h.2 k a b)⟩
  have dj : ∀ q ∈ xq_l, q.1 = 41 → q.2.1 = 1 ∧ q.2.2.1 = 1 := by decide
  have e : zz_u g' 41 j x q.1 (q.2.1 + i) = g' q.1 (q.2.1 + i) := if_neg (fun z9 => by have := dj q hq z9.1; omega)
  rw [e]
  exact h.1.2.1 q hq i hi
theorem x_F.ran {g g' S' : zz_G} {r : zz_R} {n : Nat} {b : Int32} (h : x_F g g' r n S') (ht : vt S') : x_F g (xran g' b) r n (sp_ran S' b) := by
  obtain ⟨tw, h4, e⟩ := ht
  have e2 : g' 41 1 = S' 50 19 := (x_tm h.1).symm
  unfold xran sp_ran
  rw [e2]
  by_cases h9 : 40 ≤ S' 50 19
  · rw [if_pos h9, if_pos h9]
    exact h
  · rw [if_neg h9, if_neg h9]
    rw [e] at h9
    have := zz_lti (b := 40) h9 (by omega) (by omega)
    rw [e, ix_w (by omega)]
    exact (h.tr (by omega)).tm
theorem x_F.rans {g : zz_G} {r : zz_R} {n : Nat} : ∀ (l : List Int32) (g' S' : zz_G), x_F g g' r n S' → vt S' → x_F g (xrans g' l) r n (sp_rans S' l) := by
  intro l
  induction l with
  | nil => intro g' S' h _; exact h
  | cons b l ih => intro g' S' h ht; exact ih _ _ (h.ran ht) (sp_ran_t ht)
set_option maxRecDepth 100000 in
set_option maxHeartbeats 4000000 in
theorem t_X9_begin {C : zz_C} {d n : Nat} {g : zz_G} {r : zz_R} {Q : zz_Q} (hn : 60 ≤ n) {a b : Int32} (h : Q none (zz_u (zz_u (zz_u g 41 1 0) 41 2 a) 41 3 b) r n) : zz_T C mi_X9_begin d 0 0 [.ref 41, .int a, .int b] g r n Q := by
  refine zz_T.of [some (.ref 41), some (.int a), some (.int b)] (by decide +kernel) rfl (Nat.le_of_ble_eq_true rfl) ?_
  refine zz_aload_0 dX9_begin_0 ?_
  refine zz_iconst (0) dX9_begin_1 (by decide) ?_
  refine zz_putI fl_X9_15 rfl rfl (Nat.lt_of_lt_of_le (by decide) hn) dX9_begin_2 ?_
  refine zz_aload_0 dX9_begin_5 ?_
  refine zz_iload_1 dX9_begin_6 ?_
  refine zz_putI fl_X9_19 rfl rfl (Nat.lt_of_lt_of_le (by decide) hn) dX9_begin_7 ?_
  refine zz_aload_0 dX9_begin_10 ?_
  refine zz_iload_2 dX9_begin_11 ?_
  refine zz_putI fl_X9_22 rfl rfl (Nat.lt_of_lt_of_le (by decide) hn) dX9_begin_12 ?_
  refine zz_vret rfl dX9_begin_15 (by decide) (by decide) ?_
  exact h

set_option maxRecDepth 100000 in
set_option maxHeartbeats 4000000 in
theorem t_X11_voice {C : zz_C} {d n : Nat} {g : zz_G} {r : zz_R} {Q : zz_Q} {S : zz_G} (hx : x_rel S g r n) {v act x : Int32} (hW : wr (S 51)) (mw : Nat) (hmw : S 51 2 = nI mw) (hmw6 : mw ≤ 6) (h : x_o g Q (sp_voice S v act x)) : zz_T C mi_X11_voice (d + 8) 0 0 [.ref 0, .int v, .int act, .int x] g r n Q := by
  have hn := hx.nn
  have hr := hx.1
  have hmw1 : g 1 7 = nI mw := (x_s2 hx).symm.trans hmw
  refine zz_T.of [some (.ref 0), some (.int v), some (.int act), some (.int x), none] (by decide +kernel) rfl (Nat.le_of_ble_eq_true rfl) ?_
  refine zz_aload_0 dX11_voice_0 ?_
  refine zz_iload_1 dX11_voice_1 ?_
  refine zz_callV1i cv_X11_107 rfl (Nat.lt_of_lt_of_le (by decide) hn) (Nat.le_of_ble_eq_true rfl) (by decide) (by decide) dX11_voice_2 (t_X11_isWay hn hr mw hmw1 hmw6 (fun w_2 hw_2 ew_2 => ⟨_, rfl, ?_⟩) (fun nw_2 => ⟨_, rfl, ?_⟩))
  · skip
    subst ew_2
    have ia_2 := sp_isw_a (w := w_2) (Nat.lt_of_lt_of_le hw_2 hmw6)
    have ib_2 := sp_isw_b hmw hmw6 hw_2
    refine zz_if_eq 16 dX11_voice_5 (by decide) (fun h => absurd h (by decide)) (fun _ => ?_)
    refine zz_iload_2 dX11_voice_8 ?_
    refine zz_iconst (3) dX11_voice_9 (by decide) ?_
    refine zz_callS2i cs_X11_93 (Nat.le_of_ble_eq_true rfl) (by decide) (by decide) dX11_voice_10 (t_X11_within (fun a_10 b_10 => ⟨_, rfl, ?_⟩) (fun o_10 => ⟨_, rfl, ?_⟩))
    · skip
      refine zz_if_ne 22 dX11_voice_13 (by decide) (fun _ => ?_) (fun h => absurd h (by decide))
      refine zz_aload_0 dX11_voice_22 ?_
      refine zz_getR fl_X11_65 rfl rfl (Nat.lt_of_lt_of_le (by decide) hn) (xr_0_7 hr) dX11_voice_23 ?_
      refine zz_iload_1 dX11_voice_26 ?_
      refine zz_aload_0 dX11_voice_27 ?_
      refine zz_getR fl_X11_10 rfl rfl (Nat.lt_of_lt_of_le (by decide) hn) (xr_0_0 hr) dX11_voice_28 ?_
      refine zz_getR fl_X11_104 rfl rfl (Nat.lt_of_lt_of_le (by decide) hn) (xr_1_6 hr) dX11_voice_31 ?_
      refine zz_iload_1 dX11_voice_34 ?_
      refine zz_aaN w_2 rfl (by omega) (by decide) (by decide) rfl (Nat.lt_of_lt_of_le (by decide) hn) (xr_way hr w_2 (by omega)) dX11_voice_35 ?_
      refine zz_iconst (1) dX11_voice_36 (by decide) ?_
      refine zz_iald 1 (by decide) (by decide) (by decide) (xs_way w_2 (by omega)) (by omega) dX11_voice_37 ?_
      refine zz_callV2v cv_X11_269 rfl (Nat.lt_of_lt_of_le (by decide) hn) (Nat.le_of_ble_eq_true rfl) (by decide) (by decide) dX11_voice_38 (t_X9_begin hn ⟨rfl, ?_⟩)
      obtain ⟨k1, hk0, hk6, ek1⟩ := (hW.2.1 w_2 (by omega)).1
      have hk1 : k1 < 7 := by omega
      have ek0 : g (4 + w_2) 0 = nI k1 := (x_wy0 hx (by omega)).symm.trans ek1
      have hFb : x_F g (zz_u (zz_u (zz_u g 41 1 0) 41 2 (nI w_2)) 41 3 (g (4 + w_2) 1)) r n (zz_u S 50 19 0) := ((x_F.rf hx).tm.t41 (by decide)).t41 (by decide)
      have hvt : vt (zz_u S 50 19 0) := ⟨0, by decide, zz_u_same _ _ _ _⟩
      have hq : vx (zz_u (zz_u (zz_u g 41 1 0) 41 2 (nI w_2)) 41 3 (g (4 + w_2) 1)) (nI w_2) (g (4 + w_2) 1) := ⟨by rw [zz_u_ne2 _ _ (by decide), zz_u_same], zz_u_same _ _ _ _, 0, by decide, by rw [zz_u_ne2 _ _ (by decide), zz_u_ne2 _ _ (by decide), zz_u_same]; rfl⟩
      refine zz_aload_0 dX11_voice_41 ?_
      refine zz_getR fl_X11_48 rfl rfl (Nat.lt_of_lt_of_le (by decide) hn) (xr_0_4 hr) dX11_voice_42 ?_
      refine zz_aload_0 dX11_voice_45 ?_
      refine zz_getR fl_X11_10 rfl rfl (Nat.lt_of_lt_of_le (by decide) hn) (xr_0_0 hr) dX11_voice_46 ?_
      refine zz_getR fl_X11_104 rfl rfl (Nat.lt_of_lt_of_le (by decide) hn) (xr_1_6 hr) dX11_voice_49 ?_
      refine zz_iload_1 dX11_voice_52 ?_
      refine zz_aaN w_2 rfl (by omega) (by decide) (by decide) rfl (Nat.lt_of_lt_of_le (by decide) hn) (xr_way hr w_2 (by omega)) dX11_voice_53 ?_
      refine zz_iconst (0) dX11_voice_54 (by decide) ?_
      refine zz_iald 0 (by decide) (by decide) (by decide) (xs_way w_2 (by omega)) (by omega) dX11_voice_55 ?_
      have ek : (zz_u (zz_u (zz_u g 41 1 0) 41 2 (nI w_2)) 41 3 (g (4 + w_2) 1)) (4 + w_2) 0 = nI k1 := by rw [zz_u_ne1 _ _ (by omega), zz_u_ne1 _ _ (by omega), zz_u_ne1 _ _ (by omega)]; exact ek0
      refine zz_aaN k1 ek hk1 (by decide) (by decide) rfl (Nat.lt_of_lt_of_le (by decide) hn) (xr_kind hr k1 hk1) dX11_voice_56 ?_
      refine zz_astore_4 dX11_voice_57 rfl rfl ?_
      refine zz_iload_2 dX11_voice_59 ?_
      refine zz_tsw3 (0) (1) (2) 88 99 110 121 dX11_voice_60 (by decide) (fun e_60 => ?_) (fun e_60 => ?_) (fun e_60 => ?_) (fun e0_60 e1_60 e2_60 => ?_)
      · skip
        refine zz_aload_4 dX11_voice_88 ?_
        refine zz_aload_0 dX11_voice_90 ?_
        refine zz_getR fl_X11_65 rfl rfl (Nat.lt_of_lt_of_le (by decide) hn) (xr_0_7 hr) dX11_voice_91 ?_
        refine zz_iload_3 dX11_voice_94 ?_
        refine zz_vsU hn hr hq (Nat.le_of_ble_eq_true rfl) k1 hk1 ?_
        refine zz_iret rfl dX11_voice_98 (by decide) (by decide) ?_
        rw [sp_voice, if_neg (fun q => q ⟨ia_2, ib_2⟩), if_neg (fun z9 => z9.elim a_10 b_10), ix_w (by omega), x_wy0 hx (by omega), ek0, ix_w (by omega), x_wy hx (by omega) (by decide), sp_voiceT, if_pos e_60] at h
        exact h.e (x_F.rans _ _ _ hFb hvt)
      · skip
        refine zz_aload_4 dX11_voice_99 ?_
        refine zz_aload_0 dX11_voice_101 ?_
        refine zz_getR fl_X11_65 rfl rfl (Nat.lt_of_lt_of_le (by decide) hn) (xr_0_7 hr) dX11_voice_102 ?_
        refine zz_iload_3 dX11_voice_105 ?_
        refine zz_voU hn hr hq (Nat.le_of_ble_eq_true rfl) k1 hk1 ?_
        refine zz_iret rfl dX11_voice_109 (by decide) (by decide) ?_
        rw [sp_voice, if_neg (fun q => q ⟨ia_2, ib_2⟩), if_neg (fun z9 => z9.elim a_10 b_10), ix_w (by omega), x_wy0 hx (by omega), ek0, ix_w (by omega), x_wy hx (by omega) (by decide), sp_voiceT, if_neg (by rw [e_60]; decide), if_pos e_60] at h
        exact h.e (x_F.rans _ _ _ hFb hvt)
      · skip
        refine zz_aload_4 dX11_voice_110 ?_
        refine zz_aload_0 dX11_voice_112 ?_
        refine zz_getR fl_X11_65 rfl rfl (Nat.lt_of_lt_of_le (by decide) hn) (xr_0_7 hr) dX11_voice_113 ?_
        refine zz_iload_3 dX11_voice_116 ?_
        refine zz_vhU hn hr hq (Nat.le_of_ble_eq_true rfl) k1 hk1 ?_
        refine zz_iret rfl dX11_voice_120 (by decide) (by decide) ?_
        rw [sp_voice, if_neg (fun q => q ⟨ia_2, ib_2⟩), if_neg (fun z9 => z9.elim a_10 b_10), ix_w (by omega), x_wy0 hx (by omega), ek0, ix_w (by omega), x_wy hx (by omega) (by decide), sp_voiceT, if_neg (by rw [e_60]; decide), if_neg (by rw [e_60]; decide), if_pos e_60] at h
        exact h.e (x_F.rans _ _ _ hFb hvt)
      · skip
        refine zz_aload_4 dX11_voice_121 ?_
        refine zz_aload_0 dX11_voice_123 ?_
        refine zz_getR fl_X11_65 rfl rfl (Nat.lt_of_lt_of_le (by decide) hn) (xr_0_7 hr) dX11_voice_124 ?_
        refine zz_iload_3 dX11_voice_127 ?_
        refine zz_veU hn hr hq (Nat.le_of_ble_eq_true rfl) k1 hk1 ?_
        refine zz_iret rfl dX11_voice_131 (by decide) (by decide) ?_
        rw [sp_voice, if_neg (fun q => q ⟨ia_2, ib_2⟩), if_neg (fun z9 => z9.elim a_10 b_10), ix_w (by omega), x_wy0 hx (by omega), ek0, ix_w (by omega), x_wy hx (by omega) (by decide), sp_voiceT, if_neg e0_60, if_neg e1_60, if_neg e2_60] at h
        exact h.e (x_F.rans _ _ _ hFb hvt)
    · skip
      refine zz_if_ne 22 dX11_voice_13 (by decide) (fun h => absurd h (by decide)) (fun _ => ?_)
      refine zz_aload_0 dX11_voice_16 ?_
      refine zz_iconst (1) dX11_voice_17 (by decide) ?_
      refine zz_callV1i cv_X11_86 rfl (Nat.lt_of_lt_of_le (by decide) hn) (Nat.le_of_ble_eq_true rfl) (by decide) (by decide) dX11_voice_18 (t_X11_error hn hr 1 rfl (by decide) ⟨_, rfl, ?_⟩)
      refine zz_iret rfl dX11_voice_21 (by decide) (by decide) ?_
      first
        | (rw [sp_voice, if_pos ic_2] at h; exact x_er hx (by decide) h)
        | (rw [sp_voice, if_neg (fun q => q ⟨ia_2, ib_2⟩), if_pos o_10] at h; exact x_er hx (by decide) h)
  · skip
    have ic_2 := sp_isw_c hmw hmw6 nw_2
    refine zz_if_eq 16 dX11_voice_5 (by decide) (fun _ => ?_) (fun h => absurd h (by decide))
    refine zz_aload_0 dX11_voice_16 ?_
    refine zz_iconst (1) dX11_voice_17 (by decide) ?_
    refine zz_callV1i cv_X11_86 rfl (Nat.lt_of_lt_of_le (by decide) hn) (Nat.le_of_ble_eq_true rfl) (by decide) (by decide) dX11_voice_18 (t_X11_error hn hr 1 rfl (by decide) ⟨_, rfl, ?_⟩)
    refine zz_iret rfl dX11_voice_21 (by decide) (by decide) ?_
    first
      | (rw [sp_voice, if_pos ic_2] at h; exact x_er hx (by decide) h)
      | (rw [sp_voice, if_neg (fun q => q ⟨ia_2, ib_2⟩), if_pos o_10] at h; exact x_er hx (by decide) h)
