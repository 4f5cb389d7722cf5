theorem zz_gei {a b : Nat} (c : nI b ≤ nI a) (ha : a < 1000000) (hb : b < 1000000) : b ≤ a := (nI_leI (by omega) (by omega)).mp c
theorem zz_lti {a b : Nat} (c : ¬ nI b ≤ nI a) (ha : a < 1000000) (hb : b < 1000000) : a < b := by
  rw [nI_leI (by omega) (by omega)] at c
  omega
/-- row b, but its first m places are row a's -/
def zz_cp (g : zz_G) (a b m : Nat) : zz_G := fun x y => if x = b ∧ y < m then g a y else g x y
theorem zz_cp_0 (g : zz_G) (a b : Nat) : zz_cp g a b 0 = g := by
  funext x y
  simp [zz_cp]
theorem zz_cp_s {g : zz_G} {a b m : Nat} (h : a ≠ b) : zz_u (zz_cp g a b m) b m (zz_cp g a b m a m) = zz_cp g a b (m + 1) := by
  funext x y
  by_cases hx : x = b
  · subst hx
    by_cases hy : y = m
    · subst hy
      simp [zz_u, zz_cp, h]
    · have : (y < m + 1) ↔ y < m := by omega
      simp [zz_u, zz_cp, hy, this]
  · simp [zz_u, zz_cp, hx]
theorem zz_cp_row {g : zz_G} {a b m x : Nat} (h : x ≠ b) : zz_cp g a b m x = g x := by
  funext y
  simp [zz_cp, h]
theorem ms_F.cp {g g' S' : zz_G} {a b m : Nat} (h : ms_F g g' S') (ha : ∀ j, ms_k a j = true) (hb : ∀ j, ms_k b j = true) (hk : 50 ≤ b ∧ b < 60) : ms_F g (zz_cp g' a b m) (zz_cp S' a b m) := by
  refine ⟨?_, fun k hk2 => ?_⟩
  · rw [← h.1]
    funext x y
    by_cases hx : x = b ∧ y < m
    · obtain ⟨rfl, hy⟩ := hx
      simp [ms_S, zz_cp, ha, hb, hy]
    · simp [ms_S, zz_cp, hx]
  · rw [zz_cp_row (by omega)]
    exact h.2 k hk2
theorem ms_F.cpj {g g' S' : zz_G} {a b m : Nat} (h : ms_F g g' S') (hb : ∀ j, ms_k b j = false) (hk : 50 ≤ b ∧ b < 60) : ms_F g (zz_cp g' a b m) S' := by
  refine ⟨?_, fun k hk2 => ?_⟩
  · rw [← h.1]
    funext x y
    by_cases hx : x = b
    · subst hx
      simp [ms_S, hb]
    · simp [ms_S, zz_cp, hx]
  · rw [zz_cp_row (by omega)]
    exact h.2 k hk2
def sp_image (S : zz_G) : Int32 × zz_G := (S 50 4 + 1, zz_u (zz_u (zz_cp S 51 52 276) 50 3 1) 50 4 (S 50 4 + 1))
def sp_restore (S : zz_G) : Int32 × zz_G := if S 50 3 = 0 then sp_err S 2 else (S 52 0, zz_cp S 52 51 276)
theorem ms_52 (g : zz_G) (j : Nat) : ms_S g 52 j = g 52 j := ms_at rfl
set_option maxRecDepth 100000 in
set_option maxHeartbeats 4000000 in
theorem l_X12_moveAll {C : zz_C} {d n : Nat} {g : zz_G} {r : zz_R} {Q : zz_Q} (hn : 60 ≤ n) {a b : Nat} (ha : zz_sh a = (1, 0, 276)) (hb : zz_sh b = (1, 0, 276)) (ha6 : a < 60) (hb6 : b < 60) (hab : a ≠ b) (h : Q none (zz_cp g a b 276) r n) : ∀ (k : Nat) (j : Nat), j ≤ 276 → 276 - j < k → zz_Z C mi_X12_moveAll d 0 0 0 0 2 [some (.ref 50), some (.ref a), some (.ref b), some (.int (nI j))] [] (zz_cp g a b j) r n Q := by
  intro k
  induction k with
  | zero => intro j hj hk; exact absurd hk (by omega)
  | succ k ih =>
    intro j hj hk
    refine zz_iload_3 dX12_moveAll_2 ?_
    refine zz_sipush (276) dX12_moveAll_3 (by decide) ?_
    refine zz_icmp_ge 21 dX12_moveAll_6 (by decide) (fun c_6 => ?_) (fun c_6 => ?_)
    · skip
      refine zz_vret rfl dX12_moveAll_21 (by decide) (by decide) ?_
      have := zz_gei (b := 276) c_6 (by omega) (by omega)
      rw [show j = 276 by omega]
      exact h
    · skip
      refine zz_aload_2 dX12_moveAll_9 ?_
      refine zz_iload_3 dX12_moveAll_10 ?_
      refine zz_aload_1 dX12_moveAll_11 ?_
      refine zz_iload_3 dX12_moveAll_12 ?_
      refine zz_iaN j rfl (by have := zz_lti (b := 276) c_6 (by omega) (by omega); omega) (by decide) ha (by omega) dX12_moveAll_13 ?_
      refine zz_isN j rfl (by have := zz_lti (b := 276) c_6 (by omega) (by omega); omega) (by decide) hb (by omega) dX12_moveAll_14 ?_
      refine zz_iinc_3 (1) dX12_moveAll_15 rfl rfl (by decide) ?_
      refine zz_goto 2 dX12_moveAll_18 (by decide) ?_
      have hlt := zz_lti (b := 276) c_6 (by omega) (by omega)
      rw [zz_cp_s hab, nI_1]
      exact ih (j + 1) (by omega) (by omega)

set_option maxRecDepth 100000 in
set_option maxHeartbeats 4000000 in
theorem t_X12_moveAll {C : zz_C} {d n : Nat} {g : zz_G} {r : zz_R} {Q : zz_Q} (hn : 60 ≤ n) {a b : Nat} (ha : zz_sh a = (1, 0, 276)) (hb : zz_sh b = (1, 0, 276)) (ha6 : a < 60) (hb6 : b < 60) (hab : a ≠ b) (h : Q none (zz_cp g a b 276) r n) : zz_T C mi_X12_moveAll d 0 0 [.ref 50, .ref a, .ref b] g r n Q := by
  refine zz_T.of [some (.ref 50), some (.ref a), some (.ref b), none] (by decide +kernel) rfl (Nat.le_of_ble_eq_true rfl) ?_
  refine zz_iconst (0) dX12_moveAll_0 (by decide) ?_
  refine zz_istore_3 dX12_moveAll_1 rfl rfl ?_
  have := l_X12_moveAll (C := C) (d := d) (n := n) (g := g) (r := r) (Q := Q) hn ha hb ha6 hb6 hab h 300 0 (by omega) (by omega)
  rw [zz_cp_0] at this
  exact this

set_option maxRecDepth 100000 in
set_option maxHeartbeats 4000000 in
theorem t_X12_image {C : zz_C} {d n : Nat} {g : zz_G} {r : zz_R} {Q : zz_Q} (hn : 60 ≤ n) (hr : xr r)  (h : ms_o g r n Q (sp_image (ms_S g))) : zz_T C mi_X12_image (d + 1) 0 0 [.ref 50] g r n Q := by
  refine zz_T.of [some (.ref 50)] (by decide +kernel) rfl (Nat.le_of_ble_eq_true rfl) ?_
  refine zz_aload_0 dX12_image_0 ?_
  refine zz_aload_0 dX12_image_1 ?_
  refine zz_getR fl_X12_7 rfl rfl (Nat.lt_of_lt_of_le (by decide) hn) (xr_50_0 hr) dX12_image_2 ?_
  refine zz_aload_0 dX12_image_5 ?_
  refine zz_getR fl_X12_13 rfl rfl (Nat.lt_of_lt_of_le (by decide) hn) (xr_50_1 hr) dX12_image_6 ?_
  refine zz_callV2v cv_X12_150 rfl (Nat.lt_of_lt_of_le (by decide) hn) (Nat.le_of_ble_eq_true rfl) (by decide) (by decide) dX12_image_9 (t_X12_moveAll hn (a := 51) (b := 52) rfl rfl (by decide) (by decide) (by decide) ⟨rfl, ?_⟩)
  refine zz_aload_0 dX12_image_12 ?_
  refine zz_iconst (1) dX12_image_13 (by decide) ?_
  refine zz_putZ fl_X12_228 rfl rfl (Nat.lt_of_lt_of_le (by decide) hn) (by decide) dX12_image_14 ?_
  refine zz_aload_0 dX12_image_17 ?_
  refine zz_dup dX12_image_18 rfl ?_
  refine zz_getI fl_X12_231 rfl rfl (Nat.lt_of_lt_of_le (by decide) hn) dX12_image_19 ?_
  refine zz_iconst (1) dX12_image_22 (by decide) ?_
  refine zz_iadd dX12_image_23 ?_
  refine zz_putI fl_X12_231 rfl rfl (Nat.lt_of_lt_of_le (by decide) hn) dX12_image_24 ?_
  refine zz_aload_0 dX12_image_27 ?_
  refine zz_getI fl_X12_231 rfl rfl (Nat.lt_of_lt_of_le (by decide) hn) dX12_image_28 ?_
  refine zz_iret rfl dX12_image_31 (by decide) (by decide) ?_
  simp only [sp_image, ms_50_4] at h
  simp only [zz_u_same, zz_u_ne2 _ _ (show 4 ≠ 3 by decide), show zz_cp g 51 52 276 50 = g 50 from zz_cp_row (by decide)]
  exact h _ (((ms_F.rf.cp (fun _ => rfl) (fun _ => rfl) (by decide)).u rfl (by decide)).u rfl (by decide))

set_option maxRecDepth 100000 in
set_option maxHeartbeats 4000000 in
theorem t_X12_restore {C : zz_C} {d n : Nat} {g : zz_G} {r : zz_R} {Q : zz_Q} (hn : 60 ≤ n) (hr : xr r)  (h : ms_o g r n Q (sp_restore (ms_S g))) : zz_T C mi_X12_restore (d + 1) 0 0 [.ref 50] g r n Q := by
  refine zz_T.of [some (.ref 50)] (by decide +kernel) rfl (Nat.le_of_ble_eq_true rfl) ?_
  refine zz_aload_0 dX12_restore_0 ?_
  refine zz_getI fl_X12_228 rfl rfl (Nat.lt_of_lt_of_le (by decide) hn) dX12_restore_1 ?_
  refine zz_if_ne 14 dX12_restore_4 (by decide) (fun c_4 => ?_) (fun c_4 => ?_)
  · skip
    refine zz_aload_0 dX12_restore_14 ?_
    refine zz_aload_0 dX12_restore_15 ?_
    refine zz_getR fl_X12_13 rfl rfl (Nat.lt_of_lt_of_le (by decide) hn) (xr_50_1 hr) dX12_restore_16 ?_
    refine zz_aload_0 dX12_restore_19 ?_
    refine zz_getR fl_X12_7 rfl rfl (Nat.lt_of_lt_of_le (by decide) hn) (xr_50_0 hr) dX12_restore_20 ?_
    refine zz_callV2v cv_X12_150 rfl (Nat.lt_of_lt_of_le (by decide) hn) (Nat.le_of_ble_eq_true rfl) (by decide) (by decide) dX12_restore_23 (t_X12_moveAll hn (a := 52) (b := 51) rfl rfl (by decide) (by decide) (by decide) ⟨rfl, ?_⟩)
    refine zz_aload_0 dX12_restore_26 ?_
    refine zz_getR fl_X12_7 rfl rfl (Nat.lt_of_lt_of_le (by decide) hn) (xr_50_0 hr) dX12_restore_27 ?_
    refine zz_iconst (0) dX12_restore_30 (by decide) ?_
    refine zz_iald 0 (by decide) (by decide) (by decide) rfl (Nat.lt_of_lt_of_le (by decide) hn) dX12_restore_31 ?_
    refine zz_iret rfl dX12_restore_32 (by decide) (by decide) ?_
    rw [sp_restore, if_neg (by rw [ms_50_3]; exact c_4), ms_52] at h
    rw [show zz_cp g 52 51 276 51 0 = g 52 0 from by simp [zz_cp]]
    exact h _ (ms_F.rf.cp (fun _ => rfl) (fun _ => rfl) (by decide))
  · skip
    refine zz_aload_0 dX12_restore_7 ?_
    refine zz_ldc dX12_restore_8 ct_X12_184 ?_
    refine zz_callV1i cv_X12_51 rfl (Nat.lt_of_lt_of_le (by decide) hn) (Nat.le_of_ble_eq_true rfl) (by decide) (by decide) dX12_restore_10 (t_X12_errs hn hr 2 (by decide) (by decide) ⟨_, rfl, ?_⟩)
    refine zz_iret rfl dX12_restore_13 (by decide) (by decide) ?_
    rw [sp_restore, if_pos (by rw [ms_50_3]; exact c_4)] at h
    exact ms_er (by decide) h
