/-! what holds of the row at all times -/
abbrev wi (x : Int32) (lo hi : Nat) : Prop := ∃ m : Nat, lo ≤ m ∧ m ≤ hi ∧ x = nI m
def ww (R : Nat → Int32) (w : Nat) : Prop := wi (R (16 + 5 * w)) 0 6 ∧ wi (R (16 + 5 * w + 1)) 0 9 ∧ wi (R (16 + 5 * w + 2)) 0 99 ∧ wi (R (16 + 5 * w + 3)) 0 5 ∧ wi (R (16 + 5 * w + 4)) 0 1
def wr (R : Nat → Int32) : Prop := (wi (R 0) 0 999999 ∧ wi (R 2) 0 6 ∧ wi (R 3) 0 50 ∧ wi (R 4) 0 20 ∧ wi (R 7) 0 10 ∧ wi (R 8) 1 6 ∧ wi (R 9) 1 300 ∧ wi (R 10) 1 9 ∧ wi (R 11) 0 9999) ∧ (∀ w, w < 6 → ww R w) ∧ ∀ j, j < 50 → wi (R (106 + j)) 0 255
def la_v (v m : Int32) : Nat → Int32
  | 2 => 0
  | 3 => v / 2
  | 4 => v + m
  | 5 => 1
  | 6 => 0
  | _ => v
def li_v (v : Int32) : Nat → Int32
  | 3 => 10 * v
  | 4 => v / 2
  | 6 => 9999
  | _ => v
theorem sp_late_k {R : Nat → Int32} {w : Nat} {s : Int32} : ∀ k : Nat, k < 7 → R (16 + 5 * w) = nI k → sp_late R w s = la_v (sp_law R 0 (R (16 + 5 * w + 1)) (R (16 + 5 * w)) (s - s / 60 * 60)) (R (16 + 5 * w + 1)) k := by
  intro k hk e
  unfold sp_late
  match k, hk, e with
  | 0, _, e => rw [if_neg (by rw [e]; decide), if_neg (by rw [e]; decide), if_neg (by rw [e]; decide), if_neg (by rw [e]; decide)]; rfl
  | 1, _, e => rw [if_neg (by rw [e]; decide), if_neg (by rw [e]; decide), if_neg (by rw [e]; decide), if_neg (by rw [e]; decide)]; rfl
  | 2, _, e => rw [if_pos (by rw [e]; decide)]; rfl
  | 3, _, e => rw [if_neg (by rw [e]; decide), if_neg (by rw [e]; decide), if_pos (by rw [e]; decide)]; rfl
  | 4, _, e => rw [if_neg (by rw [e]; decide), if_neg (by rw [e]; decide), if_neg (by rw [e]; decide), if_pos (by rw [e]; decide)]; rfl
  | 5, _, e => rw [if_neg (by rw [e]; decide), if_pos (by rw [e]; decide)]; rfl
  | 6, _, e => rw [if_pos (by rw [e]; decide)]; rfl
  | k + 7, h, _ => omega
theorem sp_lasts_k {R : Nat → Int32} {w : Nat} {v : Int32} : ∀ k : Nat, k < 7 → R (16 + 5 * w) = nI k → sp_lasts R w v = li_v v k := by
  intro k hk e
  unfold sp_lasts
  match k, hk, e with
  | 0, _, e => rw [if_neg (by rw [e]; decide), if_neg (by rw [e]; decide), if_neg (by rw [e]; decide)]; rfl
  | 1, _, e => rw [if_neg (by rw [e]; decide), if_neg (by rw [e]; decide), if_neg (by rw [e]; decide)]; rfl
  | 2, _, e => rw [if_neg (by rw [e]; decide), if_neg (by rw [e]; decide), if_neg (by rw [e]; decide)]; rfl
  | 3, _, e => rw [if_pos (by rw [e]; decide)]; rfl
  | 4, _, e => rw [if_neg (by rw [e]; decide), if_pos (by rw [e]; decide)]; rfl
  | 5, _, e => rw [if_neg (by rw [e]; decide), if_neg (by rw [e]; decide), if_neg (by rw [e]; decide)]; rfl
  | 6, _, e => rw [if_neg (by rw [e]; decide), if_neg (by rw [e]; decide), if_pos (by rw [e]; decide)]; rfl
  | k + 7, h, _ => omega
set_option maxRecDepth 100000 in
set_option maxHeartbeats 4000000 in
theorem t_X10_late_30 {C : zz_C} {d n : Nat} {g : zz_G} {r : zz_R} {Q : zz_Q} (hn : 60 ≤ n) {v m : Int32} (h : Q (some (.int (v))) g r n) : zz_T C mi_X10_late d 0 0 [.ref 30, .int v, .int m] g r n Q := by
  refine zz_T.of [some (.ref 30), some (.int v), some (.int m)] (by decide +kernel) rfl (Nat.le_of_ble_eq_true rfl) ?_
  refine zz_iload_1 dX10_late_0 ?_
  refine zz_iret rfl dX10_late_1 (by decide) (by decide) ?_
  exact h

set_option maxRecDepth 100000 in
set_option maxHeartbeats 4000000 in
theorem t_X10_late_31 {C : zz_C} {d n : Nat} {g : zz_G} {r : zz_R} {Q : zz_Q} (hn : 60 ≤ n) {v m : Int32} (h : Q (some (.int (v))) g r n) : zz_T C mi_X10_late d 0 0 [.ref 31, .int v, .int m] g r n Q := by
  refine zz_T.of [some (.ref 31), some (.int v), some (.int m)] (by decide +kernel) rfl (Nat.le_of_ble_eq_true rfl) ?_
  refine zz_iload_1 dX10_late_0 ?_
  refine zz_iret rfl dX10_late_1 (by decide) (by decide) ?_
  exact h

set_option maxRecDepth 100000 in
set_option maxHeartbeats 4000000 in
theorem t_X10_late_34 {C : zz_C} {d n : Nat} {g : zz_G} {r : zz_R} {Q : zz_Q} (hn : 60 ≤ n) {v m : Int32} (h : Q (some (.int (v))) g r n) : zz_T C mi_X10_late d 0 0 [.ref 34, .int v, .int m] g r n Q := by
  refine zz_T.of [some (.ref 34), some (.int v), some (.int m)] (by decide +kernel) rfl (Nat.le_of_ble_eq_true rfl) ?_
  refine zz_iload_1 dX10_late_0 ?_
  refine zz_iret rfl dX10_late_1 (by decide) (by decide) ?_
  exact h

set_option maxRecDepth 100000 in
set_option maxHeartbeats 4000000 in
theorem t_X1_late_32 {C : zz_C} {d n : Nat} {g : zz_G} {r : zz_R} {Q : zz_Q} (hn : 60 ≤ n) {v m : Int32} (h : Q (some (.int (0))) g r n) : zz_T C mi_X1_late d 0 0 [.ref 32, .int v, .int m] g r n Q := by
  refine zz_T.of [some (.ref 32), some (.int v), some (.int m)] (by decide +kernel) rfl (Nat.le_of_ble_eq_true rfl) ?_
  refine zz_iconst (0) dX1_late_0 (by decide) ?_
  refine zz_iret rfl dX1_late_1 (by decide) (by decide) ?_
  exact h

set_option maxRecDepth 100000 in
set_option maxHeartbeats 4000000 in
theorem t_X1_late_35 {C : zz_C} {d n : Nat} {g : zz_G} {r : zz_R} {Q : zz_Q} (hn : 60 ≤ n) {v m : Int32} (h : Q (some (.int (0))) g r n) : zz_T C mi_X1_late d 0 0 [.ref 35, .int v, .int m] g r n Q := by
  refine zz_T.of [some (.ref 35), some (.int v), some (.int m)] (by decide +kernel) rfl (Nat.le_of_ble_eq_true rfl) ?_
  refine zz_iconst (0) dX1_late_0 (by decide) ?_
  refine zz_iret rfl dX1_late_1 (by decide) (by decide) ?_
  exact h

set_option maxRecDepth 100000 in
set_option maxHeartbeats 4000000 in
theorem t_X2_late_33 {C : zz_C} {d n : Nat} {g : zz_G} {r : zz_R} {Q : zz_Q} (hn : 60 ≤ n) {v m : Int32} (h : Q (some (.int (v / 2))) g r n) : zz_T C mi_X2_late d 0 0 [.ref 33, .int v, .int m] g r n Q := by
  refine zz_T.of [some (.ref 33), some (.int v), some (.int m)] (by decide +kernel) rfl (Nat.le_of_ble_eq_true rfl) ?_
  refine zz_iload_1 dX2_late_0 ?_
  refine zz_iconst (2) dX2_late_1 (by decide) ?_
  refine zz_idiv dX2_late_2 (by decide) ?_
  refine zz_iret rfl dX2_late_3 (by decide) (by decide) ?_
  exact h

set_option maxRecDepth 100000 in
set_option maxHeartbeats 4000000 in
theorem t_X6_late_34 {C : zz_C} {d n : Nat} {g : zz_G} {r : zz_R} {Q : zz_Q} (hn : 60 ≤ n) {v m : Int32} (h : Q (some (.int (v + m))) g r n) : zz_T C mi_X6_late (d + 1) 0 0 [.ref 34, .int v, .int m] g r n Q := by
  refine zz_T.of [some (.ref 34), some (.int v), some (.int m)] (by decide +kernel) rfl (Nat.le_of_ble_eq_true rfl) ?_
  refine zz_aload_0 dX6_late_0 ?_
  refine zz_iload_1 dX6_late_1 ?_
  refine zz_iload_2 dX6_late_2 ?_
  refine zz_callP2i cp_X6_7 rfl rfl (Nat.lt_of_lt_of_le (by decide) hn) (Nat.le_of_ble_eq_true rfl) (by decide) (by decide) dX6_late_3 (t_X10_late_34 hn ⟨_, rfl, ?_⟩)
  refine zz_iload_2 dX6_late_6 ?_
  refine zz_iadd dX6_late_7 ?_
  refine zz_iret rfl dX6_late_8 (by decide) (by decide) ?_
  exact h

set_option maxRecDepth 100000 in
set_option maxHeartbeats 4000000 in
theorem t_X3_late_35 {C : zz_C} {d n : Nat} {g : zz_G} {r : zz_R} {Q : zz_Q} (hn : 60 ≤ n) {v m : Int32} (h : Q (some (.int (1))) g r n) : zz_T C mi_X3_late (d + 1) 0 0 [.ref 35, .int v, .int m] g r n Q := by
  refine zz_T.of [some (.ref 35), some (.int v), some (.int m)] (by decide +kernel) rfl (Nat.le_of_ble_eq_true rfl) ?_
  refine zz_aload_0 dX3_late_0 ?_
  refine zz_iload_1 dX3_late_1 ?_
  refine zz_iload_2 dX3_late_2 ?_
  refine zz_callP2i cp_X3_7 rfl rfl (Nat.lt_of_lt_of_le (by decide) hn) (Nat.le_of_ble_eq_true rfl) (by decide) (by decide) dX3_late_3 (t_X1_late_35 hn ⟨_, rfl, ?_⟩)
  refine zz_iconst (1) dX3_late_6 (by decide) ?_
  refine zz_iadd dX3_late_7 ?_
  refine zz_iret rfl dX3_late_8 (by decide) (by decide) ?_
  rw [show (0 : Int32) + 1 = 1 from by decide]
  exact h

set_option maxRecDepth 100000 in
set_option maxHeartbeats 4000000 in
theorem t_X7_late_36 {C : zz_C} {d n : Nat} {g : zz_G} {r : zz_R} {Q : zz_Q} (hn : 60 ≤ n) {v m : Int32} (h : Q (some (.int (0))) g r n) : zz_T C mi_X7_late d 0 0 [.ref 36, .int v, .int m] g r n Q := by
  refine zz_T.of [some (.ref 36), some (.int v), some (.int m)] (by decide +kernel) rfl (Nat.le_of_ble_eq_true rfl) ?_
  refine zz_iconst (0) dX7_late_0 (by decide) ?_
  refine zz_iret rfl dX7_late_1 (by decide) (by decide) ?_
  exact h

set_option maxRecDepth 100000 in
set_option maxHeartbeats 4000000 in
theorem t_X10_lasts_30 {C : zz_C} {d n : Nat} {g : zz_G} {r : zz_R} {Q : zz_Q} (hn : 60 ≤ n) {v : Int32} (h : Q (some (.int (v))) g r n) : zz_T C mi_X10_lasts d 0 0 [.ref 30, .int v] g r n Q := by
  refine zz_T.of [some (.ref 30), some (.int v)] (by decide +kernel) rfl (Nat.le_of_ble_eq_true rfl) ?_
  refine zz_iload_1 dX10_lasts_0 ?_
  refine zz_iret rfl dX10_lasts_1 (by decide) (by decide) ?_
  exact h

set_option maxRecDepth 100000 in
set_option maxHeartbeats 4000000 in
theorem t_X10_lasts_31 {C : zz_C} {d n : Nat} {g : zz_G} {r : zz_R} {Q : zz_Q} (hn : 60 ≤ n) {v : Int32} (h : Q (some (.int (v))) g r n) : zz_T C mi_X10_lasts d 0 0 [.ref 31, .int v] g r n Q := by
  refine zz_T.of [some (.ref 31), some (.int v)] (by decide +kernel) rfl (Nat.le_of_ble_eq_true rfl) ?_
  refine zz_iload_1 dX10_lasts_0 ?_
  refine zz_iret rfl dX10_lasts_1 (by decide) (by decide) ?_
  exact h

set_option maxRecDepth 100000 in
set_option maxHeartbeats 4000000 in
theorem t_X10_lasts_32 {C : zz_C} {d n : Nat} {g : zz_G} {r : zz_R} {Q : zz_Q} (hn : 60 ≤ n) {v : Int32} (h : Q (some (.int (v))) g r n) : zz_T C mi_X10_lasts d 0 0 [.ref 32, .int v] g r n Q := by
  refine zz_T.of [some (.ref 32), some (.int v)] (by decide +kernel) rfl (Nat.le_of_ble_eq_true rfl) ?_
  refine zz_iload_1 dX10_lasts_0 ?_
  refine zz_iret rfl dX10_lasts_1 (by decide) (by decide) ?_
  exact h

set_option maxRecDepth 100000 in
set_option maxHeartbeats 4000000 in
theorem t_X10_lasts_34 {C : zz_C} {d n : Nat} {g : zz_G} {r : zz_R} {Q : zz_Q} (hn : 60 ≤ n) {v : Int32} (h : Q (some (.int (v))) g r n) : zz_T C mi_X10_lasts d 0 0 [.ref 34, .int v] g r n Q := by
  refine zz_T.of [some (.ref 34), some (.int v)] (by decide +kernel) rfl (Nat.le_of_ble_eq_true rfl) ?_
  refine zz_iload_1 dX10_lasts_0 ?_
  refine zz_iret rfl dX10_lasts_1 (by decide) (by decide) ?_
  exact h

set_option maxRecDepth 100000 in
set_option maxHeartbeats 4000000 in
theorem t_X10_lasts_35 {C : zz_C} {d n : Nat} {g : zz_G} {r : zz_R} {Q : zz_Q} (hn : 60 ≤ n) {v : Int32} (h : Q (some (.int (v))) g r n) : zz_T C mi_X10_lasts d 0 0 [.ref 35, .int v] g r n Q := by
  refine zz_T.of [some (.ref 35), some (.int v)] (by decide +kernel) rfl (Nat.le_of_ble_eq_true rfl) ?_
  refine zz_iload_1 dX10_lasts_0 ?_
  refine zz_iret rfl dX10_lasts_1 (by decide) (by decide) ?_
  exact h

set_option maxRecDepth 100000 in
set_option maxHeartbeats 4000000 in
theorem t_X2_lasts_33 {C : zz_C} {d n : Nat} {g : zz_G} {r : zz_R} {Q : zz_Q} (hn : 60 ≤ n) {v : Int32} (h : Q (some (.int (10 * v))) g r n) : zz_T C mi_X2_lasts d 0 0 [.ref 33, .int v] g r n Q := by
  refine zz_T.of [some (.ref 33), some (.int v)] (by decide +kernel) rfl (Nat.le_of_ble_eq_true rfl) ?_
  refine zz_bipush (10) dX2_lasts_0 (by decide) ?_
  refine zz_iload_1 dX2_lasts_2 ?_
  refine zz_imul dX2_lasts_3 ?_
  refine zz_iret rfl dX2_lasts_4 (by decide) (by decide) ?_
  exact h

set_option maxRecDepth 100000 in
set_option maxHeartbeats 4000000 in
theorem t_X6_lasts_34 {C : zz_C} {d n : Nat} {g : zz_G} {r : zz_R} {Q : zz_Q} (hn : 60 ≤ n) {v : Int32} (h : Q (some (.int (v / 2))) g r n) : zz_T C mi_X6_lasts (d + 1) 0 0 [.ref 34, .int v] g r n Q := by
  refine zz_T.of [some (.ref 34), some (.int v)] (by decide +kernel) rfl (Nat.le_of_ble_eq_true rfl) ?_
  refine zz_aload_0 dX6_lasts_0 ?_
  refine zz_iload_1 dX6_lasts_1 ?_
  refine zz_callP1i cp_X6_11 rfl rfl (Nat.lt_of_lt_of_le (by decide) hn) (Nat.le_of_ble_eq_true rfl) (by decide) (by decide) dX6_lasts_2 (t_X10_lasts_34 hn ⟨_, rfl, ?_⟩)
  refine zz_iconst (2) dX6_lasts_5 (by decide) ?_
  refine zz_idiv dX6_lasts_6 (by decide) ?_
  refine zz_iret rfl dX6_lasts_7 (by decide) (by decide) ?_
  exact h

set_option maxRecDepth 100000 in
set_option maxHeartbeats 4000000 in
theorem t_X7_lasts_36 {C : zz_C} {d n : Nat} {g : zz_G} {r : zz_R} {Q : zz_Q} (hn : 60 ≤ n) {v : Int32} (h : Q (some (.int (9999))) g r n) : zz_T C mi_X7_lasts d 0 0 [.ref 36, .int v] g r n Q := by
  refine zz_T.of [some (.ref 36), some (.int v)] (by decide +kernel) rfl (Nat.le_of_ble_eq_true rfl) ?_
  refine zz_sipush (9999) dX7_lasts_0 (by decide) ?_
  refine zz_iret rfl dX7_lasts_3 (by decide) (by decide) ?_
  exact h

theorem zz_lateU {C : zz_C} {d n : Nat} {L : List (Option Value)} {st : List Value} {g : zz_G} {r : zz_R} {Q : zz_Q} {v m : Int32} (hn : 60 ≤ n) (hcat : (st.map fun v => v.category).sum ≤ 8) (k : Nat) (hk : k < 7) (h : zz_Z C mi_X11_lateAt (d + 3) 0 0 0 0 48 L (.int (la_v v m k) :: st) g r n Q) : zz_Z C mi_X11_lateAt (d + 3) 0 0 0 0 45 L (.int m :: .int v :: .ref (30 + k) :: st) g r n Q := by
  match k, hk, h with
  | 0, _, h => exact zz_callU2i (d := d + 2) cu_X11_133_10 rfl (Nat.lt_of_lt_of_le (by decide) hn) hcat (Nat.zero_le _) (Nat.zero_le _) dX11_lateAt_45 (t_X10_late_30 (d := d + 2) hn ⟨_, rfl, h⟩)
  | 1, _, h => exact zz_callU2i (d := d + 2) cu_X11_133_4 rfl (Nat.lt_of_lt_of_le (by decide) hn) hcat (Nat.zero_le _) (Nat.zero_le _) dX11_lateAt_45 (t_X10_late_31 (d := d + 2) hn ⟨_, rfl, h⟩)
  | 2, _, h => exact zz_callU2i (d := d + 2) cu_X11_133_1 rfl (Nat.lt_of_lt_of_le (by decide) hn) hcat (Nat.zero_le _) (Nat.zero_le _) dX11_lateAt_45 (t_X1_late_32 (d := d + 2) hn ⟨_, rfl, h⟩)
  | 3, _, h => exact zz_callU2i (d := d + 2) cu_X11_133_2 rfl (Nat.lt_of_lt_of_le (by decide) hn) hcat (Nat.zero_le _) (Nat.zero_le _) dX11_lateAt_45 (t_X2_late_33 (d := d + 2) hn ⟨_, rfl, h⟩)
  | 4, _, h => exact zz_callU2i (d := d + 2) cu_X11_133_6 rfl (Nat.lt_of_lt_of_le (by decide) hn) hcat (Nat.zero_le _) (Nat.zero_le _) dX11_lateAt_45 (t_X6_late_34 (d := d + 1) hn ⟨_, rfl, h⟩)
  | 5, _, h => exact zz_callU2i (d := d + 2) cu_X11_133_3 rfl (Nat.lt_of_lt_of_le (by decide) hn) hcat (Nat.zero_le _) (Nat.zero_le _) dX11_lateAt_45 (t_X3_late_35 (d := d + 1) hn ⟨_, rfl, h⟩)
  | 6, _, h => exact zz_callU2i (d := d + 2) cu_X11_133_7 rfl (Nat.lt_of_lt_of_le (by decide) hn) hcat (Nat.zero_le _) (Nat.zero_le _) dX11_lateAt_45 (t_X7_late_36 (d := d + 2) hn ⟨_, rfl, h⟩)
  | k + 7, hk, _ => omega
theorem zz_lastsU {C : zz_C} {d n : Nat} {L : List (Option Value)} {st : List Value} {g : zz_G} {r : zz_R} {Q : zz_Q} {v m : Int32} (hn : 60 ≤ n) (hcat : (st.map fun v => v.category).sum ≤ 8) (k : Nat) (hk : k < 7) (h : zz_Z C mi_X11_lastsWith (d + 2) 0 0 0 0 20 L (.int (li_v v k) :: st) g r n Q) : zz_Z C mi_X11_lastsWith (d + 2) 0 0 0 0 17 L (.int v :: .ref (30 + k) :: st) g r n Q := by
  match k, hk, h with
  | 0, _, h => exact zz_callU1i (d := d + 1) cu_X11_136_10 rfl (Nat.lt_of_lt_of_le (by decide) hn) hcat (Nat.zero_le _) (Nat.zero_le _) dX11_lastsWith_17 (t_X10_lasts_30 (d := d + 1) hn ⟨_, rfl, h⟩)
  | 1, _, h => exact zz_callU1i (d := d + 1) cu_X11_136_4 rfl (Nat.lt_of_lt_of_le (by decide) hn) hcat (Nat.zero_le _) (Nat.zero_le _) dX11_lastsWith_17 (t_X10_lasts_31 (d := d + 1) hn ⟨_, rfl, h⟩)
  | 2, _, h => exact zz_callU1i (d := d + 1) cu_X11_136_1 rfl (Nat.lt_of_lt_of_le (by decide) hn) hcat (Nat.zero_le _) (Nat.zero_le _) dX11_lastsWith_17 (t_X10_lasts_32 (d := d + 1) hn ⟨_, rfl, h⟩)
  | 3, _, h => exact zz_callU1i (d := d + 1) cu_X11_136_2 rfl (Nat.lt_of_lt_of_le (by decide) hn) hcat (Nat.zero_le _) (Nat.zero_le _) dX11_lastsWith_17 (t_X2_lasts_33 (d := d + 1) hn ⟨_, rfl, h⟩)
  | 4, _, h => exact zz_callU1i (d := d + 1) cu_X11_136_6 rfl (Nat.lt_of_lt_of_le (by decide) hn) hcat (Nat.zero_le _) (Nat.zero_le _) dX11_lastsWith_17 (t_X6_lasts_34 (d := d + 0) hn ⟨_, rfl, h⟩)
  | 5, _, h => exact zz_callU1i (d := d + 1) cu_X11_136_3 rfl (Nat.lt_of_lt_of_le (by decide) hn) hcat (Nat.zero_le _) (Nat.zero_le _) dX11_lastsWith_17 (t_X10_lasts_35 (d := d + 1) hn ⟨_, rfl, h⟩)
  | 6, _, h => exact zz_callU1i (d := d + 1) cu_X11_136_7 rfl (Nat.lt_of_lt_of_le (by decide) hn) hcat (Nat.zero_le _) (Nat.zero_le _) dX11_lastsWith_17 (t_X7_lasts_36 (d := d + 1) hn ⟨_, rfl, h⟩)
  | k + 7, hk, _ => omega
set_option maxRecDepth 100000 in
set_option maxHeartbeats 4000000 in
theorem t_X11_withoutText {C : zz_C} {d n : Nat} {g : zz_G} {r : zz_R} {Q : zz_Q} {u x : Int32} (h : Q (some (.int (if u = 0 then 3 + x else if 60 < x then 1 else 0))) g r n) : zz_T C mi_X11_withoutText d 0 0 [.int u, .int x] g r n Q := by
  refine zz_T.of [some (.int u), some (.int x)] (by decide +kernel) rfl (Nat.le_of_ble_eq_true rfl) ?_
  refine zz_iload_0 dX11_withoutText_0 ?_
  refine zz_if_ne 8 dX11_withoutText_1 (by decide) (fun c_1 => ?_) (fun c_1 => ?_)
  · skip
    refine zz_iload_1 dX11_withoutText_8 ?_
    refine zz_bipush (60) dX11_withoutText_9 (by decide) ?_
    refine zz_icmp_le 18 dX11_withoutText_11 (by decide) (fun c_11 => ?_) (fun c_11 => ?_)
    · skip
      refine zz_iconst (0) dX11_withoutText_18 (by decide) ?_
      refine zz_iret rfl dX11_withoutText_19 (by decide) (by decide) ?_
      rw [if_neg c_1, if_neg (Int32.not_lt.mpr c_11)] at h
      exact h
    · skip
      refine zz_iconst (1) dX11_withoutText_14 (by decide) ?_
      refine zz_goto 19 dX11_withoutText_15 (by decide) ?_
      refine zz_iret rfl dX11_withoutText_19 (by decide) (by decide) ?_
      rw [if_neg c_1, if_pos (Int32.not_le.mp c_11)] at h
      exact h
  · skip
    refine zz_iconst (3) dX11_withoutText_4 (by decide) ?_
    refine zz_iload_1 dX11_withoutText_5 ?_
    refine zz_iadd dX11_withoutText_6 ?_
    refine zz_iret rfl dX11_withoutText_7 (by decide) (by decide) ?_
    rw [if_pos c_1] at h
    exact h

theorem mm_held {v mo : Int32} (h : 0 < mo) : (if 0 < (if mo < v then mo else v) then (if mo < v then mo else v) else 0) = sp_held v 0 mo := by
  unfold sp_held
  by_cases h1 : mo < v
  · rw [if_pos h1, if_pos h, if_pos (Int32.le_of_lt (Int32.lt_trans h h1)), if_neg (Int32.not_le.mpr h1)]
  · rw [if_neg h1, if_pos (Int32.not_lt.mp h1)]
    by_cases h2 : 0 < v
    · rw [if_pos h2, if_pos (Int32.le_of_lt h2)]
    · rw [if_neg h2]
      by_cases h3 : 0 ≤ v
      · rw [if_pos h3]
        exact Int32.le_antisymm h3 (Int32.not_lt.mp h2)
      · rw [if_neg h3]
set_option maxRecDepth 100000 in
set_option maxHeartbeats 4000000 in
theorem t0_X11_gives {C : zz_C} {d n : Nat} {g : zz_G} {r : zz_R} {Q : zz_Q} {S : zz_G} (hx : x_rel S g r n) {v a b c : Int32} (u1 : Nat) (hu1 : u1 < 2) (ev : v = nI u1) (hneg : S 51 (5 + u1) < 0) (hsz : g (23 + 2 * u1) 1 = 0) (h : ∀ g', xj g g' → Q (some (.int (sp_law (S 51) u1 a b c))) g' r n) : zz_T C mi_X11_gives (d + 2) 0 0 [.ref 0, .int v, .int a, .int b, .int c] g r n Q := by
  have hn := hx.nn
  have hr := hx.1
  refine zz_T.of [some (.ref 0), some (.int v), some (.int a), some (.int b), some (.int c), none, none] (by decide +kernel) rfl (Nat.le_of_ble_eq_true rfl) ?_
  refine zz_aload_0 dX11_gives_0 ?_
  refine zz_getR fl_X11_10 rfl rfl (Nat.lt_of_lt_of_le (by decide) hn) (xr_0_0 hr) dX11_gives_1 ?_
  refine zz_getR fl_X11_157 rfl rfl (Nat.lt_of_lt_of_le (by decide) hn) (xr_1_12 hr) dX11_gives_4 ?_
  refine zz_iload_1 dX11_gives_7 ?_
  refine zz_aaN u1 ev hu1 (by decide) (by decide) rfl (Nat.lt_of_lt_of_le (by decide) hn) (xr_text hr u1 hu1) dX11_gives_8 ?_
  refine zz_astore_5 dX11_gives_9 rfl rfl ?_
  refine zz_aload_5 dX11_gives_11 ?_
  refine zz_getI fl_X11_171 (xs_text u1 hu1) rfl (by omega) dX11_gives_13 ?_
  refine zz_if_le 35 dX11_gives_16 (by decide) (fun c_16 => ?_) (fun c_16 => ?_)
  · skip
    refine zz_iload_1 dX11_gives_35 ?_
    refine zz_iload_2 dX11_gives_36 ?_
    refine zz_callS2i cs_X11_178 (Nat.le_of_ble_eq_true rfl) (by decide) (by decide) dX11_gives_37 (t_X11_withoutText ⟨_, rfl, ?_⟩)
    refine zz_istore_6 dX11_gives_40 rfl rfl ?_
    refine zz_iconst (0) dX11_gives_42 (by decide) ?_
    refine zz_iload_6 dX11_gives_43 ?_
    refine zz_iload_1 dX11_gives_45 ?_
    refine zz_if_ne 55 dX11_gives_46 (by decide) (fun c_46 => ?_) (fun c_46 => ?_)
    · skip
      refine zz_iconst (1) dX11_gives_55 (by decide) ?_
      refine zz_mmin cs_X11_181 (Nat.le_of_ble_eq_true rfl) (by decide) (by decide) dX11_gives_56 ?_
      refine zz_mmax cs_X11_186 (Nat.le_of_ble_eq_true rfl) (by decide) (by decide) dX11_gives_59 ?_
      refine zz_iret rfl dX11_gives_62 (by decide) (by decide) ?_
      rw [mm_held (by decide)]
      first
        | (have hu : u1 = 0 := by
             rw [ev] at c_46
             exact (nI_eq (a := u1) (b := 0) (by omega) (by omega)).mp c_46
           rw [if_pos c_46]
           have h2 := h g xj.rf
           rw [sp_law, if_pos hneg, if_pos hu] at h2
           exact h2)
        | (have hu : ¬ u1 = 0 := fun z9 => c_46 (by rw [ev, z9]; rfl)
           have h2 := h g xj.rf
           rw [sp_law, if_pos hneg, if_neg hu] at h2
           rw [if_neg c_46]
           by_cases h6 : 60 < a
           · rw [if_pos h6] at h2 ⊢
             exact h2
           · rw [if_neg h6] at h2 ⊢
             exact h2)
    · skip
      refine zz_sipush (300) dX11_gives_49 (by decide) ?_
      refine zz_goto 56 dX11_gives_52 (by decide) ?_
      refine zz_mmin cs_X11_181 (Nat.le_of_ble_eq_true rfl) (by decide) (by decide) dX11_gives_56 ?_
      refine zz_mmax cs_X11_186 (Nat.le_of_ble_eq_true rfl) (by decide) (by decide) dX11_gives_59 ?_
      refine zz_iret rfl dX11_gives_62 (by decide) (by decide) ?_
      rw [mm_held (by decide)]
      first
        | (have hu : u1 = 0 := by
             rw [ev] at c_46
             exact (nI_eq (a := u1) (b := 0) (by omega) (by omega)).mp c_46
           rw [if_pos c_46]
           have h2 := h g xj.rf
           rw [sp_law, if_pos hneg, if_pos hu] at h2
           exact h2)
        | (have hu : ¬ u1 = 0 := fun z9 => c_46 (by rw [ev, z9]; rfl)
           have h2 := h g xj.rf
           rw [sp_law, if_pos hneg, if_neg hu] at h2
           rw [if_neg c_46]
           by_cases h6 : 60 < a
           · rw [if_pos h6] at h2 ⊢
             exact h2
           · rw [if_neg h6] at h2 ⊢
             exact h2)
  · skip
    exact absurd (by rw [hsz]; decide) c_16

set_option maxRecDepth 100000 in
set_option maxHeartbeats 4000000 in
theorem t1_X11_gives {C : zz_C} {d n : Nat} {g : zz_G} {r : zz_R} {Q : zz_Q} {S : zz_G} (hx : x_rel S g r n) {v a b c : Int32} (u1 : Nat) (hu1 : u1 < 2) (ev : v = nI u1) (len : Nat) (cs : List Int32) (hl5 : len ≤ 50) (hle : S 51 (5 + u1) = nI len) (hrun : ∀ x y z : Int32, (pz_run (pz_b (S 51) u1 len) u1 x y z).1 = true ∧ (pz_run (pz_b (S 51) u1 len) u1 x y z).2.2.2 = cs) (hc0 : 0 < cs.length) (hc5 : cs.length ≤ 50) (hsz : g (23 + 2 * u1) 1 = nI cs.length) (hst : ∀ i, i < cs.length → g (24 + 2 * u1) i = cs.getD i 0) (h : ∀ g', xj g g' → Q (some (.int (sp_law (S 51) u1 a b c))) g' r n) : zz_T C mi_X11_gives (d + 2) 0 0 [.ref 0, .int v, .int a, .int b, .int c] g r n Q := by
  have hn := hx.nn
  have hr := hx.1
  refine zz_T.of [some (.ref 0), some (.int v), some (.int a), some (.int b), some (.int c), none, none] (by decide +kernel) rfl (Nat.le_of_ble_eq_true rfl) ?_
  refine zz_aload_0 dX11_gives_0 ?_
  refine zz_getR fl_X11_10 rfl rfl (Nat.lt_of_lt_of_le (by decide) hn) (xr_0_0 hr) dX11_gives_1 ?_
  refine zz_getR fl_X11_157 rfl rfl (Nat.lt_of_lt_of_le (by decide) hn) (xr_1_12 hr) dX11_gives_4 ?_
  refine zz_iload_1 dX11_gives_7 ?_
  refine zz_aaN u1 ev hu1 (by decide) (by decide) rfl (Nat.lt_of_lt_of_le (by decide) hn) (xr_text hr u1 hu1) dX11_gives_8 ?_
  refine zz_astore_5 dX11_gives_9 rfl rfl ?_
  refine zz_aload_5 dX11_gives_11 ?_
  refine zz_getI fl_X11_171 (xs_text u1 hu1) rfl (by omega) dX11_gives_13 ?_
  refine zz_if_le 35 dX11_gives_16 (by decide) (fun c_16 => ?_) (fun c_16 => ?_)
  · skip
    exact absurd c_16 (by rw [hsz]; exact nI_nle hc0 (by omega))
  · skip
    refine zz_aload_5 dX11_gives_19 ?_
    refine zz_aload_0 dX11_gives_21 ?_
    refine zz_getR fl_X11_59 rfl rfl (Nat.lt_of_lt_of_le (by decide) hn) (xr_0_6 hr) dX11_gives_22 ?_
    refine zz_iload_2 dX11_gives_25 ?_
    refine zz_iload_3 dX11_gives_26 ?_
    refine zz_iload_4 dX11_gives_27 ?_
    have hv : ex a b c cs [] = [(pz_run (pz_b (S 51) u1 len) u1 a b c).2.2.1] := by
        rw [← (hrun a b c).2]
        exact pz_run_gd (hrun a b c).1 []
    have hrt : r (23 + 2 * u1) 0 = some (24 + 2 * u1) := by
        rcases (show u1 = 0 ∨ u1 = 1 by omega) with e1 | e1 <;> subst e1
        · exact xr_23_0 hr
        · exact xr_25_0 hr
    refine zz_callV4i cv_X11_174 (xs_text u1 hu1) (by omega) (Nat.le_of_ble_eq_true rfl) (by decide) (by decide) dX11_gives_29 (t_X8_workedOut hn (23 + 2 * u1) (24 + 2 * u1) cs.length cs (xs_text u1 hu1) (xs_step u1 hu1) hrt (by omega) (by omega) (by omega) (by omega) hc5 rfl hsz hst hv (fun g1_29 j1_29 => ⟨_, rfl, ?_⟩))
    refine zz_goto 40 dX11_gives_32 (by decide) ?_
    refine zz_istore_6 dX11_gives_40 rfl rfl ?_
    refine zz_iconst (0) dX11_gives_42 (by decide) ?_
    refine zz_iload_6 dX11_gives_43 ?_
    refine zz_iload_1 dX11_gives_45 ?_
    refine zz_if_ne 55 dX11_gives_46 (by decide) (fun c_46 => ?_) (fun c_46 => ?_)
    · skip
      refine zz_iconst (1) dX11_gives_55 (by decide) ?_
      refine zz_mmin cs_X11_181 (Nat.le_of_ble_eq_true rfl) (by decide) (by decide) dX11_gives_56 ?_
      refine zz_mmax cs_X11_186 (Nat.le_of_ble_eq_true rfl) (by decide) (by decide) dX11_gives_59 ?_
      refine zz_iret rfl dX11_gives_62 (by decide) (by decide) ?_
      rw [mm_held (by decide)]
      have h2 := h _ j1_29
      rw [sp_law, if_neg (by rw [hle]; exact nI_pos (by omega)), sp_val, hle, ix_w (by omega)] at h2
      first
        | (have hu : u1 = 0 := by
             rw [ev] at c_46
             exact (nI_eq (a := u1) (b := 0) (by omega) (by omega)).mp c_46
           rw [if_pos hu] at h2
           exact h2)
        | (have hu : ¬ u1 = 0 := fun z9 => c_46 (by rw [ev, z9]; rfl)
           rw [if_neg hu] at h2
           exact h2)
    · skip
      refine zz_sipush (300) dX11_gives_49 (by decide) ?_
      refine zz_goto 56 dX11_gives_52 (by decide) ?_
      refine zz_mmin cs_X11_181 (Nat.le_of_ble_eq_true rfl) (by decide) (by decide) dX11_gives_56 ?_
      refine zz_mmax cs_X11_186 (Nat.le_of_ble_eq_true rfl) (by decide) (by decide) dX11_gives_59 ?_
      refine zz_iret rfl dX11_gives_62 (by decide) (by decide) ?_
      rw [mm_held (by decide)]
      have h2 := h _ j1_29
      rw [sp_law, if_neg (by rw [hle]; exact nI_pos (by omega)), sp_val, hle, ix_w (by omega)] at h2
      first
        | (have hu : u1 = 0 := by
             rw [ev] at c_46
             exact (nI_eq (a := u1) (b := 0) (by omega) (by omega)).mp c_46
           rw [if_pos hu] at h2
           exact h2)
        | (have hu : ¬ u1 = 0 := fun z9 => c_46 (by rw [ev, z9]; rfl)
           rw [if_neg hu] at h2
           exact h2)

theorem t_X11_gives {C : zz_C} {d n : Nat} {g : zz_G} {r : zz_R} {Q : zz_Q} {S : zz_G} (hx : x_rel S g r n) {v a b c : Int32} (u1 : Nat) (hu1 : u1 < 2) (ev : v = nI u1) (h : ∀ g', xj g g' → Q (some (.int (sp_law (S 51) u1 a b c))) g' r n) : zz_T C mi_X11_gives (d + 2) 0 0 [.ref 0, .int v, .int a, .int b, .int c] g r n Q := by
  rcases hx.2.2.2.1 u1 hu1 with ⟨h1, h2⟩ | ⟨len, cs, a1, a2, a3, a4, a5, a6, a7⟩
  · exact t0_X11_gives hx u1 hu1 ev h1 h2 h
  · exact t1_X11_gives hx u1 hu1 ev len cs a1 a2 a3 a4 a5 a6 a7 h
theorem xs_kind : ∀ w : Nat, w < 7 → ∃ ci : Nat, zz_sh (30 + w) = (0, ci, 0) := fun w hw => (by decide : ∀ w : Fin 7, ∃ ci : Fin 20, zz_sh (30 + w.1) = (0, ci.1, 0)) ⟨w, hw⟩ |>.elim fun c h => ⟨c.1, h⟩
set_option maxRecDepth 100000 in
set_option maxHeartbeats 4000000 in
theorem t_X11_lateAt {C : zz_C} {d n : Nat} {g : zz_G} {r : zz_R} {Q : zz_Q} {S : zz_G} (hx : x_rel S g r n) (hW : wr (S 51)) {v s : Int32} (w : Nat) (hw : w < 6) (ev : v = nI w) (h : ∀ g', xj g g' → Q (some (.int (sp_late (S 51) w s))) g' r n) : zz_T C mi_X11_lateAt (d + 3) 0 0 [.ref 0, .int v, .int s] g r n Q := by
  have hn := hx.nn
  have hr := hx.1
  obtain ⟨k1, hk0, hk6, ek0⟩ := (hW.2.1 w hw).1
  have hk1 : k1 < 7 := by omega
  have ek : g (4 + w) 0 = nI k1 := (x_wy0 hx hw).symm.trans ek0
  refine zz_T.of [some (.ref 0), some (.int v), some (.int s), none, none] (by decide +kernel) rfl (Nat.le_of_ble_eq_true rfl) ?_
  refine zz_aload_0 dX11_lateAt_0 ?_
  refine zz_getR fl_X11_10 rfl rfl (Nat.lt_of_lt_of_le (by decide) hn) (xr_0_0 hr) dX11_lateAt_1 ?_
  refine zz_getR fl_X11_104 rfl rfl (Nat.lt_of_lt_of_le (by decide) hn) (xr_1_6 hr) dX11_lateAt_4 ?_
  refine zz_iload_1 dX11_lateAt_7 ?_
  refine zz_aaN w ev hw (by decide) (by decide) rfl (Nat.lt_of_lt_of_le (by decide) hn) (xr_way hr w hw) dX11_lateAt_8 ?_
  refine zz_iconst (0) dX11_lateAt_9 (by decide) ?_
  refine zz_iald 0 (by decide) (by decide) (by decide) (xs_way w hw) (by omega) dX11_lateAt_10 ?_
  refine zz_istore_3 dX11_lateAt_11 rfl rfl ?_
  refine zz_aload_0 dX11_lateAt_12 ?_
  refine zz_getR fl_X11_10 rfl rfl (Nat.lt_of_lt_of_le (by decide) hn) (xr_0_0 hr) dX11_lateAt_13 ?_
  refine zz_getR fl_X11_104 rfl rfl (Nat.lt_of_lt_of_le (by decide) hn) (xr_1_6 hr) dX11_lateAt_16 ?_
  refine zz_iload_1 dX11_lateAt_19 ?_
  refine zz_aaN w ev hw (by decide) (by decide) rfl (Nat.lt_of_lt_of_le (by decide) hn) (xr_way hr w hw) dX11_lateAt_20 ?_
  refine zz_iconst (1) dX11_lateAt_21 (by decide) ?_
  refine zz_iald 1 (by decide) (by decide) (by decide) (xs_way w hw) (by omega) dX11_lateAt_22 ?_
  refine zz_istore_4 dX11_lateAt_23 rfl rfl ?_
  refine zz_aload_0 dX11_lateAt_25 ?_
  refine zz_getR fl_X11_48 rfl rfl (Nat.lt_of_lt_of_le (by decide) hn) (xr_0_4 hr) dX11_lateAt_26 ?_
  refine zz_iload_3 dX11_lateAt_29 ?_
  refine zz_aaN k1 ek hk1 (by decide) (by decide) rfl (Nat.lt_of_lt_of_le (by decide) hn) (xr_kind hr k1 hk1) dX11_lateAt_30 ?_
  refine zz_aload_0 dX11_lateAt_31 ?_
  refine zz_iconst (0) dX11_lateAt_32 (by decide) ?_
  refine zz_iload_4 dX11_lateAt_33 ?_
  refine zz_iload_3 dX11_lateAt_35 ?_
  refine zz_iload_2 dX11_lateAt_36 ?_
  refine zz_bipush (60) dX11_lateAt_37 (by decide) ?_
  refine zz_irem dX11_lateAt_39 (by decide) ?_
  refine zz_callV4i cv_X11_129 rfl (Nat.lt_of_lt_of_le (by decide) hn) (Nat.le_of_ble_eq_true rfl) (by decide) (by decide) dX11_lateAt_40 (t_X11_gives hx 0 (by decide) rfl (fun g1_40 j1_40 => ⟨_, rfl, ?_⟩))
  refine zz_iload_4 dX11_lateAt_43 ?_
  refine zz_lateU hn (Nat.le_of_ble_eq_true rfl) k1 hk1 ?_
  refine zz_iret rfl dX11_lateAt_48 (by decide) (by decide) ?_
  have h2 := h _ j1_40
  rw [sp_late_k k1 hk1 (by rw [x_wy0 hx hw]; exact ek), x_wy0 hx hw, x_wy hx hw (by decide)] at h2
  exact h2

set_option maxRecDepth 100000 in
set_option maxHeartbeats 4000000 in
theorem t_X11_lastsWith {C : zz_C} {d n : Nat} {g : zz_G} {r : zz_R} {Q : zz_Q} {S : zz_G} (hx : x_rel S g r n) (hW : wr (S 51)) {v s : Int32} (w : Nat) (hw : w < 6) (ev : v = nI w) (h : Q (some (.int (sp_lasts (S 51) w s))) g r n) : zz_T C mi_X11_lastsWith (d + 2) 0 0 [.ref 0, .int v, .int s] g r n Q := by
  have hn := hx.nn
  have hr := hx.1
  obtain ⟨k1, hk0, hk6, ek0⟩ := (hW.2.1 w hw).1
  have hk1 : k1 < 7 := by omega
  have ek : g (4 + w) 0 = nI k1 := (x_wy0 hx hw).symm.trans ek0
  refine zz_T.of [some (.ref 0), some (.int v), some (.int s)] (by decide +kernel) rfl (Nat.le_of_ble_eq_true rfl) ?_
  refine zz_aload_0 dX11_lastsWith_0 ?_
  refine zz_getR fl_X11_48 rfl rfl (Nat.lt_of_lt_of_le (by decide) hn) (xr_0_4 hr) dX11_lastsWith_1 ?_
  refine zz_aload_0 dX11_lastsWith_4 ?_
  refine zz_getR fl_X11_10 rfl rfl (Nat.lt_of_lt_of_le (by decide) hn) (xr_0_0 hr) dX11_lastsWith_5 ?_
  refine zz_getR fl_X11_104 rfl rfl (Nat.lt_of_lt_of_le (by decide) hn) (xr_1_6 hr) dX11_lastsWith_8 ?_
  refine zz_iload_1 dX11_lastsWith_11 ?_
  refine zz_aaN w ev hw (by decide) (by decide) rfl (Nat.lt_of_lt_of_le (by decide) hn) (xr_way hr w hw) dX11_lastsWith_12 ?_
  refine zz_iconst (0) dX11_lastsWith_13 (by decide) ?_
  refine zz_iald 0 (by decide) (by decide) (by decide) (xs_way w hw) (by omega) dX11_lastsWith_14 ?_
  refine zz_aaN k1 ek hk1 (by decide) (by decide) rfl (Nat.lt_of_lt_of_le (by decide) hn) (xr_kind hr k1 hk1) dX11_lastsWith_15 ?_
  refine zz_iload_2 dX11_lastsWith_16 ?_
  refine zz_lastsU (m := 0) hn (Nat.le_of_ble_eq_true rfl) k1 hk1 ?_
  refine zz_iret rfl dX11_lastsWith_20 (by decide) (by decide) ?_
  rw [sp_lasts_k k1 hk1 (by rw [x_wy0 hx hw]; exact ek)] at h
  exact h

set_option maxRecDepth 100000 in
set_option maxHeartbeats 4000000 in
theorem t_X11_law {C : zz_C} {d n : Nat} {g : zz_G} {r : zz_R} {Q : zz_Q} {S : zz_G} (hx : x_rel S g r n) {v x y z : Int32}  (h : x_o g Q (sp_lawT S v x y z)) : zz_T C mi_X11_law (d + 3) 0 0 [.ref 0, .int v, .int x, .int y, .int z] g r n Q := by
  have hn := hx.nn
  have hr := hx.1
  refine zz_T.of [some (.ref 0), some (.int v), some (.int x), some (.int y), some (.int z)] (by decide +kernel) rfl (Nat.le_of_ble_eq_true rfl) ?_
  refine zz_iload_1 dX11_law_0 ?_
  refine zz_iconst (1) dX11_law_1 (by decide) ?_
  refine zz_callS2i cs_X11_93 (Nat.le_of_ble_eq_true rfl) (by decide) (by decide) dX11_law_2 (t_X11_within (fun a_2 b_2 => ⟨_, rfl, ?_⟩) (fun o_2 => ⟨_, rfl, ?_⟩))
  · skip
    refine zz_if_eq 20 dX11_law_5 (by decide) (fun h => absurd h (by decide)) (fun _ => ?_)
    refine zz_aload_0 dX11_law_8 ?_
    refine zz_iload_1 dX11_law_9 ?_
    refine zz_iload_2 dX11_law_10 ?_
    refine zz_iload_3 dX11_law_11 ?_
    refine zz_iload_4 dX11_law_12 ?_
    obtain ⟨u1, hu0, hu1, eu1⟩ := zz_in0 (lo := 0) (hi := 1) rfl rfl (by decide) (by decide) a_2 b_2
    refine zz_callV4i cv_X11_129 rfl (Nat.lt_of_lt_of_le (by decide) hn) (Nat.le_of_ble_eq_true rfl) (by decide) (by decide) dX11_law_14 (t_X11_gives hx u1 (by omega) eu1 (fun g1_14 j1_14 => ⟨_, rfl, ?_⟩))
    refine zz_goto 25 dX11_law_17 (by decide) ?_
    refine zz_iret rfl dX11_law_25 (by decide) (by decide) ?_
    rw [sp_lawT, if_neg (fun z9 => z9.elim a_2 b_2), show v.toNatClampNeg = u1 from by rw [eu1]; exact ix_w (by omega)] at h
    exact h.e ((x_F.rf hx).j j1_14)
  · skip
    refine zz_if_eq 20 dX11_law_5 (by decide) (fun _ => ?_) (fun h => absurd h (by decide))
    refine zz_aload_0 dX11_law_20 ?_
    refine zz_iconst (1) dX11_law_21 (by decide) ?_
    refine zz_callV1i cv_X11_86 rfl (Nat.lt_of_lt_of_le (by decide) hn) (Nat.le_of_ble_eq_true rfl) (by decide) (by decide) dX11_law_22 (t_X11_error hn hr 1 rfl (by decide) ⟨_, rfl, ?_⟩)
    refine zz_iret rfl dX11_law_25 (by decide) (by decide) ?_
    rw [sp_lawT, if_pos o_2] at h
    exact x_er hx (by decide) h

set_option maxRecDepth 100000 in
set_option maxHeartbeats 4000000 in
theorem t_X11_ofWay {C : zz_C} {d n : Nat} {g : zz_G} {r : zz_R} {Q : zz_Q} {S : zz_G} (hx : x_rel S g r n) {v what : Int32} (mw : Nat) (hmw : S 51 2 = nI mw) (hmw6 : mw ≤ 6) (hW : wr (S 51)) (h : x_o g Q (sp_ofWay S v what)) : zz_T C mi_X11_ofWay (d + 4) 0 0 [.ref 0, .int v, .int what] g r n Q := by
  have hn := hx.nn
  have hr := hx.1
  have hmw1 : g 1 7 = nI mw := (x_s2 hx).symm.trans hmw
  refine zz_T.of [some (.ref 0), some (.int v), some (.int what)] (by decide +kernel) rfl (Nat.le_of_ble_eq_true rfl) ?_
  refine zz_aload_0 dX11_ofWay_0 ?_
  refine zz_iload_1 dX11_ofWay_1 ?_
  refine zz_callV1i cv_X11_107 rfl (Nat.lt_of_lt_of_le (by decide) hn) (Nat.le_of_ble_eq_true rfl) (by decide) (by decide) dX11_ofWay_2 (t_X11_isWay hn hr mw hmw1 hmw6 (fun w_2 hw_2 ew_2 => ⟨_, rfl, ?_⟩) (fun nw_2 => ⟨_, rfl, ?_⟩))
  · skip
    subst ew_2
    have ia_2 := sp_isw_a (w := w_2) (Nat.lt_of_lt_of_le hw_2 hmw6)
    have ib_2 := sp_isw_b hmw hmw6 hw_2
    refine zz_if_eq 17 dX11_ofWay_5 (by decide) (fun h => absurd h (by decide)) (fun _ => ?_)
    refine zz_iload_2 dX11_ofWay_8 ?_
    refine zz_bipush (6) dX11_ofWay_9 (by decide) ?_
    refine zz_callS2i cs_X11_93 (Nat.le_of_ble_eq_true rfl) (by decide) (by decide) dX11_ofWay_11 (t_X11_within (fun a_11 b_11 => ⟨_, rfl, ?_⟩) (fun o_11 => ⟨_, rfl, ?_⟩))
    · skip
      refine zz_if_ne 23 dX11_ofWay_14 (by decide) (fun _ => ?_) (fun h => absurd h (by decide))
      refine zz_iload_2 dX11_ofWay_23 ?_
      refine zz_iconst (5) dX11_ofWay_24 (by decide) ?_
      refine zz_icmp_ne 41 dX11_ofWay_25 (by decide) (fun c_25 => ?_) (fun c_25 => ?_)
      · skip
        refine zz_iload_2 dX11_ofWay_41 ?_
        refine zz_bipush (6) dX11_ofWay_42 (by decide) ?_
        refine zz_icmp_ne 62 dX11_ofWay_44 (by decide) (fun c_44 => ?_) (fun c_44 => ?_)
        · skip
          refine zz_aload_0 dX11_ofWay_62 ?_
          refine zz_getR fl_X11_10 rfl rfl (Nat.lt_of_lt_of_le (by decide) hn) (xr_0_0 hr) dX11_ofWay_63 ?_
          refine zz_getR fl_X11_104 rfl rfl (Nat.lt_of_lt_of_le (by decide) hn) (xr_1_6 hr) dX11_ofWay_66 ?_
          refine zz_iload_1 dX11_ofWay_69 ?_
          obtain ⟨j1, hj0, hj1, ej1⟩ := zz_in0 (lo := 0) (hi := 6) rfl rfl (by decide) (by decide) a_11 b_11
          have hj5 : j1 < 5 := by
              have h6 : j1 < 6 := zz_ltm ej1 hj1 c_44
              exact zz_ltm ej1 (by omega) c_25
          refine zz_aaN w_2 rfl (by omega) (by decide) (by decide) rfl (Nat.lt_of_lt_of_le (by decide) hn) (xr_way hr w_2 (by omega)) dX11_ofWay_70 ?_
          refine zz_iload_2 dX11_ofWay_71 ?_
          refine zz_iaN j1 ej1 hj5 (by decide) (xs_way w_2 (by omega)) (by omega) dX11_ofWay_72 ?_
          refine zz_iret rfl dX11_ofWay_73 (by decide) (by decide) ?_
          rw [sp_ofWay, if_neg (fun q => q ⟨ia_2, ib_2⟩), if_neg (fun z9 => z9.elim a_11 b_11), if_pos (by rw [ej1]; exact nI_lt (b := 5) hj5 (by omega)), ix_w (by omega), show what.toNatClampNeg = j1 from by rw [ej1]; exact ix_w (by omega), x_wy hx (by omega) hj5] at h
          exact h.e (x_F.rf hx)
        · skip
          refine zz_aload_0 dX11_ofWay_47 ?_
          refine zz_iload_1 dX11_ofWay_48 ?_
          refine zz_aload_0 dX11_ofWay_49 ?_
          refine zz_getR fl_X11_10 rfl rfl (Nat.lt_of_lt_of_le (by decide) hn) (xr_0_0 hr) dX11_ofWay_50 ?_
          refine zz_getR fl_X11_90 rfl rfl (Nat.lt_of_lt_of_le (by decide) hn) (xr_1_0 hr) dX11_ofWay_53 ?_
          refine zz_iconst (1) dX11_ofWay_56 (by decide) ?_
          refine zz_iald 1 (by decide) (by decide) (by decide) rfl (Nat.lt_of_lt_of_le (by decide) hn) dX11_ofWay_57 ?_
          refine zz_callV2i cv_X11_117 rfl (Nat.lt_of_lt_of_le (by decide) hn) (Nat.le_of_ble_eq_true rfl) (by decide) (by decide) dX11_ofWay_58 (t_X11_lastsWith hx hW w_2 (by omega) rfl ⟨_, rfl, ?_⟩)
          refine zz_iret rfl dX11_ofWay_61 (by decide) (by decide) ?_
          rw [sp_ofWay, if_neg (fun q => q ⟨ia_2, ib_2⟩), if_neg (fun z9 => z9.elim a_11 b_11), if_neg (by rw [c_44]; decide), if_neg c_25, ix_w (by omega), x_s9 hx] at h
          exact h.e (x_F.rf hx)
      · skip
        refine zz_aload_0 dX11_ofWay_28 ?_
        refine zz_iload_1 dX11_ofWay_29 ?_
        refine zz_aload_0 dX11_ofWay_30 ?_
        refine zz_getR fl_X11_10 rfl rfl (Nat.lt_of_lt_of_le (by decide) hn) (xr_0_0 hr) dX11_ofWay_31 ?_
        refine zz_getI fl_X11_110 rfl rfl (Nat.lt_of_lt_of_le (by decide) hn) dX11_ofWay_34 ?_
        refine zz_callV2i cv_X11_113 rfl (Nat.lt_of_lt_of_le (by decide) hn) (Nat.le_of_ble_eq_true rfl) (by decide) (by decide) dX11_ofWay_37 (t_X11_lateAt hx hW w_2 (by omega) rfl (fun g1_37 j1_37 => ⟨_, rfl, ?_⟩))
        refine zz_iret rfl dX11_ofWay_40 (by decide) (by decide) ?_
        rw [sp_ofWay, if_neg (fun q => q ⟨ia_2, ib_2⟩), if_neg (fun z9 => z9.elim a_11 b_11), if_neg (by rw [c_25]; decide), if_pos c_25, ix_w (by omega), x_s0 hx] at h
        exact h.e ((x_F.rf hx).j j1_37)
    · skip
      refine zz_if_ne 23 dX11_ofWay_14 (by decide) (fun h => absurd h (by decide)) (fun _ => ?_)
      refine zz_aload_0 dX11_ofWay_17 ?_
      refine zz_iconst (1) dX11_ofWay_18 (by decide) ?_
      refine zz_callV1i cv_X11_86 rfl (Nat.lt_of_lt_of_le (by decide) hn) (Nat.le_of_ble_eq_true rfl) (by decide) (by decide) dX11_ofWay_19 (t_X11_error hn hr 1 rfl (by decide) ⟨_, rfl, ?_⟩)
      refine zz_iret rfl dX11_ofWay_22 (by decide) (by decide) ?_
      first
        | (rw [sp_ofWay, if_pos ic_2] at h; exact x_er hx (by decide) h)
        | (rw [sp_ofWay, if_neg (fun q => q ⟨ia_2, ib_2⟩), if_pos o_11] at h; exact x_er hx (by decide) h)
  · skip
    have ic_2 := sp_isw_c hmw hmw6 nw_2
    refine zz_if_eq 17 dX11_ofWay_5 (by decide) (fun _ => ?_) (fun h => absurd h (by decide))
    refine zz_aload_0 dX11_ofWay_17 ?_
    refine zz_iconst (1) dX11_ofWay_18 (by decide) ?_
    refine zz_callV1i cv_X11_86 rfl (Nat.lt_of_lt_of_le (by decide) hn) (Nat.le_of_ble_eq_true rfl) (by decide) (by decide) dX11_ofWay_19 (t_X11_error hn hr 1 rfl (by decide) ⟨_, rfl, ?_⟩)
    refine zz_iret rfl dX11_ofWay_22 (by decide) (by decide) ?_
    first
      | (rw [sp_ofWay, if_pos ic_2] at h; exact x_er hx (by decide) h)
      | (rw [sp_ofWay, if_neg (fun q => q ⟨ia_2, ib_2⟩), if_pos o_11] at h; exact x_er hx (by decide) h)
