theorem sp_isw_a {w : Nat} (h : w < 6) : ¬ nI w < 0 := nI_pos (by omega)
theorem sp_isw_b {x : Int32} {m w : Nat} (hm : x = nI m) (hm6 : m ≤ 6) (hw : w < m) : nI w < x := by rw [hm]; exact nI_lt hw (by omega)
theorem sp_isw_c {x v : Int32} {m : Nat} (hm : x = nI m) (hm6 : m ≤ 6) (h : ∀ w : Nat, w < m → ¬ v = nI w) : ¬ (¬ v < 0 ∧ v < x) := by
  rintro ⟨h1, h2⟩
  rw [hm] at h2
  obtain ⟨w, hw, hv⟩ := zz_nat (Int32.not_lt.mp h1) h2 (by omega)
  exact h w hw hv
theorem ix_w {w : Nat} (h : w < 1000) : (nI w).toNatClampNeg = w := nI_clamp (by omega)
set_option maxRecDepth 100000 in
set_option maxHeartbeats 4000000 in
theorem t_X12_held {C : zz_C} {d n : Nat} {g : zz_G} {r : zz_R} {Q : zz_Q} {v lo hi : Int32} (h : Q (some (.int (sp_held v lo hi))) g r n) : zz_T C mi_X12_held d 0 0 [.int v, .int lo, .int hi] g r n Q := by
  refine zz_T.of [some (.int v), some (.int lo), some (.int hi)] (by decide +kernel) rfl (Nat.le_of_ble_eq_true rfl) ?_
  refine zz_iload_0 dX12_held_0 ?_
  refine zz_iload_1 dX12_held_1 ?_
  refine zz_icmp_ge 9 dX12_held_2 (by decide) (fun c_2 => ?_) (fun c_2 => ?_)
  · skip
    refine zz_iload_0 dX12_held_9 ?_
    refine zz_iload_2 dX12_held_10 ?_
    refine zz_icmp_le 18 dX12_held_11 (by decide) (fun c_11 => ?_) (fun c_11 => ?_)
    · skip
      refine zz_iload_0 dX12_held_18 ?_
      refine zz_iret rfl dX12_held_19 (by decide) (by decide) ?_
      simp only [sp_held, c_2, c_11, or_self, or_false, false_or, or_true, true_or, and_true, true_and, and_false, false_and, and_self, not_true_eq_false, not_false_eq_true, ↓reduceIte] at h
      exact h
    · skip
      refine zz_iload_2 dX12_held_14 ?_
      refine zz_goto 19 dX12_held_15 (by decide) ?_
      refine zz_iret rfl dX12_held_19 (by decide) (by decide) ?_
      simp only [sp_held, c_2, c_11, or_self, or_false, false_or, or_true, true_or, and_true, true_and, and_false, false_and, and_self, not_true_eq_false, not_false_eq_true, ↓reduceIte] at h
      exact h
  · skip
    refine zz_iload_1 dX12_held_5 ?_
    refine zz_goto 19 dX12_held_6 (by decide) ?_
    refine zz_iret rfl dX12_held_19 (by decide) (by decide) ?_
    simp only [sp_held, c_2, or_self, or_false, false_or, or_true, true_or, and_true, true_and, and_false, false_and, and_self, not_true_eq_false, not_false_eq_true, ↓reduceIte] at h
    exact h

set_option maxRecDepth 100000 in
set_option maxHeartbeats 4000000 in
theorem t_X12_gets {C : zz_C} {d n : Nat} {g : zz_G} {r : zz_R} {Q : zz_Q} (hn : 60 ≤ n) (hr : xr r) {v z x : Int32} (w j : Nat) (hv : v = nI w) (hz : z = nI j) (hb : 16 + 5 * w + j < 276) (h : Q none (zz_u g 51 (16 + 5 * w + j) x) r n) : zz_T C mi_X12_gets d 0 0 [.ref 50, .int v, .int z, .int x] g r n Q := by
  refine zz_T.of [some (.ref 50), some (.int v), some (.int z), some (.int x)] (by decide +kernel) rfl (Nat.le_of_ble_eq_true rfl) ?_
  refine zz_aload_0 dX12_gets_0 ?_
  refine zz_getR fl_X12_7 rfl rfl (Nat.lt_of_lt_of_le (by decide) hn) (xr_50_0 hr) dX12_gets_1 ?_
  refine zz_bipush (16) dX12_gets_4 (by decide) ?_
  refine zz_iconst (5) dX12_gets_6 (by decide) ?_
  refine zz_iload_1 dX12_gets_7 ?_
  refine zz_imul dX12_gets_8 ?_
  refine zz_iadd dX12_gets_9 ?_
  refine zz_iload_2 dX12_gets_10 ?_
  refine zz_iadd dX12_gets_11 ?_
  refine zz_iload_3 dX12_gets_12 ?_
  refine zz_isN (16 + 5 * w + j) (by rw [hv, hz]; show nI 16 + nI 5 * nI w + nI j = _; rw [pk_mul, nI_add, nI_add]) hb (by decide) rfl (Nat.lt_of_lt_of_le (by decide) hn) dX12_gets_13 ?_
  refine zz_vret rfl dX12_gets_14 (by decide) (by decide) ?_
  exact h

set_option maxRecDepth 100000 in
set_option maxHeartbeats 4000000 in
theorem t_X12_of {C : zz_C} {d n : Nat} {g : zz_G} {r : zz_R} {Q : zz_Q} (hn : 60 ≤ n) (hr : xr r) {v z : Int32} (w j : Nat) (hv : v = nI w) (hz : z = nI j) (hb : 46 + 6 * w + j < 276) (h : Q (some (.int (g 51 (46 + 6 * w + j)))) g r n) : zz_T C mi_X12_of d 0 0 [.ref 50, .int v, .int z] g r n Q := by
  refine zz_T.of [some (.ref 50), some (.int v), some (.int z)] (by decide +kernel) rfl (Nat.le_of_ble_eq_true rfl) ?_
  refine zz_aload_0 dX12_of_0 ?_
  refine zz_getR fl_X12_7 rfl rfl (Nat.lt_of_lt_of_le (by decide) hn) (xr_50_0 hr) dX12_of_1 ?_
  refine zz_bipush (46) dX12_of_4 (by decide) ?_
  refine zz_bipush (6) dX12_of_6 (by decide) ?_
  refine zz_iload_1 dX12_of_8 ?_
  refine zz_imul dX12_of_9 ?_
  refine zz_iadd dX12_of_10 ?_
  refine zz_iload_2 dX12_of_11 ?_
  refine zz_iadd dX12_of_12 ?_
  refine zz_iaN (46 + 6 * w + j) (by rw [hv, hz]; show nI 46 + nI 6 * nI w + nI j = _; rw [pk_mul, nI_add, nI_add]) hb (by decide) rfl (Nat.lt_of_lt_of_le (by decide) hn) dX12_of_13 ?_
  refine zz_iret rfl dX12_of_14 (by decide) (by decide) ?_
  exact h

set_option maxRecDepth 100000 in
set_option maxHeartbeats 4000000 in
theorem t_X12_becomes {C : zz_C} {d n : Nat} {g : zz_G} {r : zz_R} {Q : zz_Q} (hn : 60 ≤ n) (hr : xr r) {i x : Int32} (j : Nat) (hi : i = nI j) (hj : j < 276) (h : Q (some (.int (g 51 j))) (zz_u g 51 j x) r n) : zz_T C mi_X12_becomes d 0 0 [.ref 50, .int i, .int x] g r n Q := by
  refine zz_T.of [some (.ref 50), some (.int i), some (.int x), none] (by decide +kernel) rfl (Nat.le_of_ble_eq_true rfl) ?_
  refine zz_aload_0 dX12_becomes_0 ?_
  refine zz_getR fl_X12_7 rfl rfl (Nat.lt_of_lt_of_le (by decide) hn) (xr_50_0 hr) dX12_becomes_1 ?_
  refine zz_iload_1 dX12_becomes_4 ?_
  refine zz_iaN j hi hj (by decide) rfl (Nat.lt_of_lt_of_le (by decide) hn) dX12_becomes_5 ?_
  refine zz_istore_3 dX12_becomes_6 rfl rfl ?_
  refine zz_aload_0 dX12_becomes_7 ?_
  refine zz_getR fl_X12_7 rfl rfl (Nat.lt_of_lt_of_le (by decide) hn) (xr_50_0 hr) dX12_becomes_8 ?_
  refine zz_iload_1 dX12_becomes_11 ?_
  refine zz_iload_2 dX12_becomes_12 ?_
  refine zz_isN j hi hj (by decide) rfl (Nat.lt_of_lt_of_le (by decide) hn) dX12_becomes_13 ?_
  refine zz_iload_3 dX12_becomes_14 ?_
  refine zz_iret rfl dX12_becomes_15 (by decide) (by decide) ?_
  exact h

set_option maxRecDepth 100000 in
set_option maxHeartbeats 4000000 in
theorem t_X12_isSheet {C : zz_C} {d n : Nat} {g : zz_G} {r : zz_R} {Q : zz_Q} {v : Int32} (h1 : ¬ v < 0 → ¬ 3 < v → Q (some (.int 1)) g r n) (h0 : v < 0 ∨ 3 < v → Q (some (.int 0)) g r n) : zz_T C mi_X12_isSheet (d + 1) 0 0 [.int v] g r n Q := by
  refine zz_T.of [some (.int v)] (by decide +kernel) rfl (Nat.le_of_ble_eq_true rfl) ?_
  refine zz_iload_0 dX12_isSheet_0 ?_
  refine zz_iconst (0) dX12_isSheet_1 (by decide) ?_
  refine zz_iconst (3) dX12_isSheet_2 (by decide) ?_
  refine zz_callS3i cs_X12_38 (Nat.le_of_ble_eq_true rfl) (by decide) (by decide) dX12_isSheet_3 (t_X12_in (fun a_3 b_3 => ⟨_, rfl, ?_⟩) (fun o_3 => ⟨_, rfl, ?_⟩))
  · skip
    refine zz_zret rfl (by rfl) dX12_isSheet_6 (by decide) (by decide) ?_
    exact h1 a_3 b_3
  · skip
    refine zz_zret rfl (by rfl) dX12_isSheet_6 (by decide) (by decide) ?_
    exact h0 o_3

set_option maxRecDepth 100000 in
set_option maxHeartbeats 4000000 in
theorem t_X12_isDigit {C : zz_C} {d n : Nat} {g : zz_G} {r : zz_R} {Q : zz_Q} {v : Int32} (h1 : ¬ v < 48 → ¬ 57 < v → Q (some (.int 1)) g r n) (h0 : v < 48 ∨ 57 < v → Q (some (.int 0)) g r n) : zz_T C mi_X12_isDigit (d + 1) 0 0 [.int v] g r n Q := by
  refine zz_T.of [some (.int v)] (by decide +kernel) rfl (Nat.le_of_ble_eq_true rfl) ?_
  refine zz_iload_0 dX12_isDigit_0 ?_
  refine zz_bipush (48) dX12_isDigit_1 (by decide) ?_
  refine zz_bipush (57) dX12_isDigit_3 (by decide) ?_
  refine zz_callS3i cs_X12_38 (Nat.le_of_ble_eq_true rfl) (by decide) (by decide) dX12_isDigit_5 (t_X12_in (fun a_5 b_5 => ⟨_, rfl, ?_⟩) (fun o_5 => ⟨_, rfl, ?_⟩))
  · skip
    refine zz_zret rfl (by rfl) dX12_isDigit_8 (by decide) (by decide) ?_
    exact h1 a_5 b_5
  · skip
    refine zz_zret rfl (by rfl) dX12_isDigit_8 (by decide) (by decide) ?_
    exact h0 o_5

set_option maxRecDepth 100000 in
set_option maxHeartbeats 4000000 in
theorem t_X12_above {C : zz_C} {d n : Nat} {g : zz_G} {r : zz_R} {Q : zz_Q} {v : Int32} (h : Q (some (.int (sp_above v))) g r n) : zz_T C mi_X12_above d 0 0 [.int v] g r n Q := by
  refine zz_T.of [some (.int v)] (by decide +kernel) rfl (Nat.le_of_ble_eq_true rfl) ?_
  refine zz_iload_0 dX12_above_0 ?_
  refine zz_if_ne 8 dX12_above_1 (by decide) (fun c_1 => ?_) (fun c_1 => ?_)
  · skip
    refine zz_iload_0 dX12_above_8 ?_
    refine zz_iconst (3) dX12_above_9 (by decide) ?_
    refine zz_icmp_le 19 dX12_above_10 (by decide) (fun c_10 => ?_) (fun c_10 => ?_)
    · skip
      refine zz_iconst (0) dX12_above_19 (by decide) ?_
      refine zz_iret rfl dX12_above_20 (by decide) (by decide) ?_
      simp only [sp_above, c_1, c_10, or_self, or_false, false_or, or_true, true_or, and_true, true_and, and_false, false_and, and_self, not_true_eq_false, not_false_eq_true, ↓reduceIte] at h
      exact h
    · skip
      refine zz_iload_0 dX12_above_13 ?_
      refine zz_iconst (3) dX12_above_14 (by decide) ?_
      refine zz_isub dX12_above_15 ?_
      refine zz_goto 20 dX12_above_16 (by decide) ?_
      refine zz_iret rfl dX12_above_20 (by decide) (by decide) ?_
      simp only [sp_above, c_1, c_10, or_self, or_false, false_or, or_true, true_or, and_true, true_and, and_false, false_and, and_self, not_true_eq_false, not_false_eq_true, ↓reduceIte] at h
      exact h
  · skip
    refine zz_iconst (-1) dX12_above_4 (by decide) ?_
    refine zz_goto 20 dX12_above_5 (by decide) ?_
    refine zz_iret rfl dX12_above_20 (by decide) (by decide) ?_
    simp only [sp_above, c_1, or_self, or_false, false_or, or_true, true_or, and_true, true_and, and_false, false_and, and_self, not_true_eq_false, not_false_eq_true, ↓reduceIte] at h
    exact h

set_option maxRecDepth 100000 in
set_option maxHeartbeats 4000000 in
theorem t_X12_narrow {C : zz_C} {d n : Nat} {g : zz_G} {r : zz_R} {Q : zz_Q} {b v : Int32} (h : Q (some (.int (sp_nar b v))) g r n) : zz_T C mi_X12_narrow d 0 0 [.int b, .int v] g r n Q := by
  refine zz_T.of [some (.int b), some (.int v)] (by decide +kernel) rfl (Nat.le_of_ble_eq_true rfl) ?_
  refine zz_iload_0 dX12_narrow_0 ?_
  refine zz_bipush (8) dX12_narrow_1 (by decide) ?_
  refine zz_icmp_ne 11 dX12_narrow_3 (by decide) (fun c_3 => ?_) (fun c_3 => ?_)
  · skip
    refine zz_iload_0 dX12_narrow_11 ?_
    refine zz_bipush (16) dX12_narrow_12 (by decide) ?_
    refine zz_icmp_ne 22 dX12_narrow_14 (by decide) (fun c_14 => ?_) (fun c_14 => ?_)
    · skip
      refine zz_iload_1 dX12_narrow_22 ?_
      refine zz_iret rfl dX12_narrow_23 (by decide) (by decide) ?_
      simp only [sp_nar, c_3, c_14, or_self, or_false, false_or, or_true, true_or, and_true, true_and, and_false, false_and, and_self, not_true_eq_false, not_false_eq_true, ↓reduceIte] at h
      exact h
    · skip
      refine zz_iload_1 dX12_narrow_17 ?_
      refine zz_i2s dX12_narrow_18 ?_
      refine zz_goto 23 dX12_narrow_19 (by decide) ?_
      refine zz_iret rfl dX12_narrow_23 (by decide) (by decide) ?_
      simp only [sp_nar, c_3, c_14, or_self, or_false, false_or, or_true, true_or, and_true, true_and, and_false, false_and, and_self, not_true_eq_false, not_false_eq_true, ↓reduceIte] at h
      exact h
  · skip
    refine zz_iload_1 dX12_narrow_6 ?_
    refine zz_i2b dX12_narrow_7 ?_
    refine zz_goto 23 dX12_narrow_8 (by decide) ?_
    refine zz_iret rfl dX12_narrow_23 (by decide) (by decide) ?_
    simp only [sp_nar, c_3, or_self, or_false, false_or, or_true, true_or, and_true, true_and, and_false, false_and, and_self, not_true_eq_false, not_false_eq_true, ↓reduceIte] at h
    exact h

def sp_dr (z : Int32) : Int32 := ((z * 1103515245 + 12345).toUInt32 >>> (Int32.toUInt32 8 &&& Int32.toUInt32 31)).toInt32
set_option maxRecDepth 100000 in
set_option maxHeartbeats 4000000 in
theorem t_X12_drawn {C : zz_C} {d n : Nat} {g : zz_G} {r : zz_R} {Q : zz_Q} (hn : 60 ≤ n) (hr : xr r) {v : Int32} (hv : ¬ v = 0) (h : Q (some (.int (sp_dr (g 51 1) - sp_dr (g 51 1) / v * v))) (zz_u g 51 1 (g 51 1 * 1103515245 + 12345)) r n) : zz_T C mi_X12_drawn d 0 0 [.ref 50, .int v] g r n Q := by
  refine zz_T.of [some (.ref 50), some (.int v)] (by decide +kernel) rfl (Nat.le_of_ble_eq_true rfl) ?_
  refine zz_aload_0 dX12_drawn_0 ?_
  refine zz_getR fl_X12_7 rfl rfl (Nat.lt_of_lt_of_le (by decide) hn) (xr_50_0 hr) dX12_drawn_1 ?_
  refine zz_iconst (1) dX12_drawn_4 (by decide) ?_
  refine zz_aload_0 dX12_drawn_5 ?_
  refine zz_getR fl_X12_7 rfl rfl (Nat.lt_of_lt_of_le (by decide) hn) (xr_50_0 hr) dX12_drawn_6 ?_
  refine zz_iconst (1) dX12_drawn_9 (by decide) ?_
  refine zz_iald 1 (by decide) (by decide) (by decide) rfl (Nat.lt_of_lt_of_le (by decide) hn) dX12_drawn_10 ?_
  refine zz_ldc dX12_drawn_11 ct_X12_154 ?_
  refine zz_imul dX12_drawn_13 ?_
  refine zz_sipush (12345) dX12_drawn_14 (by decide) ?_
  refine zz_iadd dX12_drawn_17 ?_
  refine zz_iast 1 (by decide) (by decide) (by decide) rfl (Nat.lt_of_lt_of_le (by decide) hn) dX12_drawn_18 ?_
  refine zz_aload_0 dX12_drawn_19 ?_
  refine zz_getR fl_X12_7 rfl rfl (Nat.lt_of_lt_of_le (by decide) hn) (xr_50_0 hr) dX12_drawn_20 ?_
  refine zz_iconst (1) dX12_drawn_23 (by decide) ?_
  refine zz_iald 1 (by decide) (by decide) (by decide) rfl (Nat.lt_of_lt_of_le (by decide) hn) dX12_drawn_24 ?_
  refine zz_bipush (8) dX12_drawn_25 (by decide) ?_
  refine zz_iushr dX12_drawn_27 ?_
  refine zz_iload_1 dX12_drawn_28 ?_
  refine zz_irem dX12_drawn_29 hv ?_
  refine zz_iret rfl dX12_drawn_30 (by decide) (by decide) ?_
  rw [zz_u_same]
  exact h

def sp_rok (what v : Int32) : Prop := if what = 0 then ¬ (v < 1 ∨ 6 < v) else if what = 1 then ¬ (v < 1 ∨ 300 < v) else if what = 2 then ¬ (v < 1 ∨ 9 < v) else if what = 3 then ¬ (v < 1 ∨ 9999 < v) else what = 4 ∧ ¬ (v < 0 ∨ 1 < v)
set_option maxRecDepth 100000 in
set_option maxHeartbeats 4000000 in
theorem t_X12_isRule {C : zz_C} {d n : Nat} {g : zz_G} {r : zz_R} {Q : zz_Q} {what v : Int32} (h1 : sp_rok what v → Q (some (.int 1)) g r n) (h0 : ¬ sp_rok what v → Q (some (.int 0)) g r n) : zz_T C mi_X12_isRule (d + 1) 0 0 [.int what, .int v] g r n Q := by
  refine zz_T.of [some (.int what), some (.int v)] (by decide +kernel) rfl (Nat.le_of_ble_eq_true rfl) ?_
  refine zz_iload_0 dX12_isRule_0 ?_
  refine zz_tsw4 (0) (1) (2) (3) 32 40 49 57 66 dX12_isRule_1 (by decide) (fun e_1 => ?_) (fun e_1 => ?_) (fun e_1 => ?_) (fun e_1 => ?_) (fun e0_1 e1_1 e2_1 e3_1 => ?_)
  · skip
    refine zz_iload_1 dX12_isRule_32 ?_
    refine zz_iconst (1) dX12_isRule_33 (by decide) ?_
    refine zz_bipush (6) dX12_isRule_34 (by decide) ?_
    refine zz_callS3i cs_X12_38 (Nat.le_of_ble_eq_true rfl) (by decide) (by decide) dX12_isRule_36 (t_X12_in (fun a_36 b_36 => ⟨_, rfl, ?_⟩) (fun o_36 => ⟨_, rfl, ?_⟩))
    · skip
      refine zz_zret rfl (by rfl) dX12_isRule_39 (by decide) (by decide) ?_
      simp (decide := true) only [sp_rok, e_1, a_36, b_36, or_self, or_false, false_or, or_true, true_or, and_true, true_and, and_false, false_and, and_self, not_true_eq_false, not_false_eq_true, ↓reduceIte] at h1
      exact h1 trivial
    · skip
      refine zz_zret rfl (by rfl) dX12_isRule_39 (by decide) (by decide) ?_
      simp (decide := true) only [sp_rok, e_1, o_36, or_self, or_false, false_or, or_true, true_or, and_true, true_and, and_false, false_and, and_self, not_true_eq_false, not_false_eq_true, ↓reduceIte] at h0
      exact h0 trivial
  · skip
    refine zz_iload_1 dX12_isRule_40 ?_
    refine zz_iconst (1) dX12_isRule_41 (by decide) ?_
    refine zz_sipush (300) dX12_isRule_42 (by decide) ?_
    refine zz_callS3i cs_X12_38 (Nat.le_of_ble_eq_true rfl) (by decide) (by decide) dX12_isRule_45 (t_X12_in (fun a_45 b_45 => ⟨_, rfl, ?_⟩) (fun o_45 => ⟨_, rfl, ?_⟩))
    · skip
      refine zz_zret rfl (by rfl) dX12_isRule_48 (by decide) (by decide) ?_
      simp (decide := true) only [sp_rok, e_1, a_45, b_45, or_self, or_false, false_or, or_true, true_or, and_true, true_and, and_false, false_and, and_self, not_true_eq_false, not_false_eq_true, ↓reduceIte] at h1
      exact h1 trivial
    · skip
      refine zz_zret rfl (by rfl) dX12_isRule_48 (by decide) (by decide) ?_
      simp (decide := true) only [sp_rok, e_1, o_45, or_self, or_false, false_or, or_true, true_or, and_true, true_and, and_false, false_and, and_self, not_true_eq_false, not_false_eq_true, ↓reduceIte] at h0
      exact h0 trivial
  · skip
    refine zz_iload_1 dX12_isRule_49 ?_
    refine zz_iconst (1) dX12_isRule_50 (by decide) ?_
    refine zz_bipush (9) dX12_isRule_51 (by decide) ?_
    refine zz_callS3i cs_X12_38 (Nat.le_of_ble_eq_true rfl) (by decide) (by decide) dX12_isRule_53 (t_X12_in (fun a_53 b_53 => ⟨_, rfl, ?_⟩) (fun o_53 => ⟨_, rfl, ?_⟩))
    · skip
      refine zz_zret rfl (by rfl) dX12_isRule_56 (by decide) (by decide) ?_
      simp (decide := true) only [sp_rok, e_1, a_53, b_53, or_self, or_false, false_or, or_true, true_or, and_true, true_and, and_false, false_and, and_self, not_true_eq_false, not_false_eq_true, ↓reduceIte] at h1
      exact h1 trivial
    · skip
      refine zz_zret rfl (by rfl) dX12_isRule_56 (by decide) (by decide) ?_
      simp (decide := true) only [sp_rok, e_1, o_53, or_self, or_false, false_or, or_true, true_or, and_true, true_and, and_false, false_and, and_self, not_true_eq_false, not_false_eq_true, ↓reduceIte] at h0
      exact h0 trivial
  · skip
    refine zz_iload_1 dX12_isRule_57 ?_
    refine zz_iconst (1) dX12_isRule_58 (by decide) ?_
    refine zz_sipush (9999) dX12_isRule_59 (by decide) ?_
    refine zz_callS3i cs_X12_38 (Nat.le_of_ble_eq_true rfl) (by decide) (by decide) dX12_isRule_62 (t_X12_in (fun a_62 b_62 => ⟨_, rfl, ?_⟩) (fun o_62 => ⟨_, rfl, ?_⟩))
    · skip
      refine zz_zret rfl (by rfl) dX12_isRule_65 (by decide) (by decide) ?_
      simp (decide := true) only [sp_rok, e_1, a_62, b_62, or_self, or_false, false_or, or_true, true_or, and_true, true_and, and_false, false_and, and_self, not_true_eq_false, not_false_eq_true, ↓reduceIte] at h1
      exact h1 trivial
    · skip
      refine zz_zret rfl (by rfl) dX12_isRule_65 (by decide) (by decide) ?_
      simp (decide := true) only [sp_rok, e_1, o_62, or_self, or_false, false_or, or_true, true_or, and_true, true_and, and_false, false_and, and_self, not_true_eq_false, not_false_eq_true, ↓reduceIte] at h0
      exact h0 trivial
  · skip
    refine zz_iload_0 dX12_isRule_66 ?_
    refine zz_iconst (4) dX12_isRule_67 (by decide) ?_
    refine zz_icmp_ne 84 dX12_isRule_68 (by decide) (fun c_68 => ?_) (fun c_68 => ?_)
    · skip
      refine zz_iconst (0) dX12_isRule_84 (by decide) ?_
      refine zz_zret rfl (by rfl) dX12_isRule_85 (by decide) (by decide) ?_
      simp (decide := true) only [sp_rok, e0_1, e1_1, e2_1, e3_1, c_68, or_self, or_false, false_or, or_true, true_or, and_true, true_and, and_false, false_and, and_self, not_true_eq_false, not_false_eq_true, ↓reduceIte] at h0
      exact h0 trivial
    · skip
      refine zz_iload_1 dX12_isRule_71 ?_
      refine zz_iconst (0) dX12_isRule_72 (by decide) ?_
      refine zz_iconst (1) dX12_isRule_73 (by decide) ?_
      refine zz_callS3i cs_X12_38 (Nat.le_of_ble_eq_true rfl) (by decide) (by decide) dX12_isRule_74 (t_X12_in (fun a_74 b_74 => ⟨_, rfl, ?_⟩) (fun o_74 => ⟨_, rfl, ?_⟩))
      · skip
        refine zz_if_eq 84 dX12_isRule_77 (by decide) (fun h => absurd h (by decide)) (fun _ => ?_)
        refine zz_iconst (1) dX12_isRule_80 (by decide) ?_
        refine zz_goto 85 dX12_isRule_81 (by decide) ?_
        refine zz_zret rfl (by rfl) dX12_isRule_85 (by decide) (by decide) ?_
        simp (decide := true) only [sp_rok, e0_1, e1_1, e2_1, e3_1, c_68, a_74, b_74, or_self, or_false, false_or, or_true, true_or, and_true, true_and, and_false, false_and, and_self, not_true_eq_false, not_false_eq_true, ↓reduceIte] at h1
        exact h1 trivial
      · skip
        refine zz_if_eq 84 dX12_isRule_77 (by decide) (fun _ => ?_) (fun h => absurd h (by decide))
        refine zz_iconst (0) dX12_isRule_84 (by decide) ?_
        refine zz_zret rfl (by rfl) dX12_isRule_85 (by decide) (by decide) ?_
        simp (decide := true) only [sp_rok, e0_1, e1_1, e2_1, e3_1, c_68, o_74, or_self, or_false, false_or, or_true, true_or, and_true, true_and, and_false, false_and, and_self, not_true_eq_false, not_false_eq_true, ↓reduceIte] at h0
        exact h0 trivial
