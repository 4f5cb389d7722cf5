theorem ms_R (g : zz_G) : ms_S g 51 = g 51 := funext (ms_51 g)
theorem ms_mj {g g1 : zz_G} {r : zz_R} {n : Nat} {Q : zz_Q} {v : Int32} (h : ms_o g r n Q (v, ms_S g)) (j : mj_ g g1) : Q (some (.int v)) g1 r n := h g1 j
/-- the row as it was, in a memory whose scratch has changed -/
theorem zz_row {g g1 : zz_G} (hR : g1 51 = g 51) (j : Nat) : g1 51 j = g 51 j := congrFun hR j
set_option maxRecDepth 100000 in
set_option maxHeartbeats 4000000 in
theorem t_X12_backAt {C : zz_C} {d n : Nat} {g : zz_G} {r : zz_R} {Q : zz_Q} (hn : 60 ≤ n) (hr : xr r) {Rw : Nat → Int32} (hR : g 51 = Rw) (hT0 : tx_ok Rw 0) {v s : Int32} (w : Nat) (hw : w < 6) (hv : v = nI w) (h : ∀ g', mj_ g g' → Q (some (.int (sp_back Rw w s))) g' r n) : zz_T C mi_X12_backAt (d + 42) 0 0 [.ref 50, .int v, .int s] g r n Q := by
  refine zz_T.of [some (.ref 50), some (.int v), some (.int s), none, none, none] (by decide +kernel) rfl (Nat.le_of_ble_eq_true rfl) ?_
  refine zz_aload_0 dX12_backAt_0 ?_
  refine zz_iload_1 dX12_backAt_1 ?_
  refine zz_iconst (2) dX12_backAt_2 (by decide) ?_
  refine zz_callV2i cv_X12_64 rfl (Nat.lt_of_lt_of_le (by decide) hn) (Nat.le_of_ble_eq_true rfl) (by decide) (by decide) dX12_backAt_3 (t_X12_its hn hr w 2 hv rfl (by omega) ⟨_, rfl, ?_⟩)
  try rw [hR]
  refine zz_istore_3 dX12_backAt_6 rfl rfl ?_
  refine zz_iload_2 dX12_backAt_7 ?_
  refine zz_iconst (2) dX12_backAt_8 (by decide) ?_
  refine zz_iload_3 dX12_backAt_9 ?_
  refine zz_imul dX12_backAt_10 ?_
  refine zz_iadd dX12_backAt_11 ?_
  refine zz_istore_4 dX12_backAt_12 rfl rfl ?_
  refine zz_iload_2 dX12_backAt_14 ?_
  refine zz_aload_0 dX12_backAt_15 ?_
  refine zz_iload_1 dX12_backAt_16 ?_
  refine zz_iload_2 dX12_backAt_17 ?_
  refine zz_callV2i cv_X12_67 rfl (Nat.lt_of_lt_of_le (by decide) hn) (Nat.le_of_ble_eq_true rfl) (by decide) (by decide) dX12_backAt_18 (t_X12_lateAt hn hr hR hT0 w hw hv (fun g1_18 j1_18 => ⟨_, rfl, ?_⟩))
  have hR := (mj_51 j1_18).trans hR
  refine zz_iadd dX12_backAt_21 ?_
  refine zz_iload_3 dX12_backAt_22 ?_
  refine zz_iadd dX12_backAt_23 ?_
  refine zz_istore_5 dX12_backAt_24 rfl rfl ?_
  refine zz_iload_4 dX12_backAt_26 ?_
  refine zz_iload_5 dX12_backAt_28 ?_
  refine zz_icmp_le 38 dX12_backAt_30 (by decide) (fun c_30 => ?_) (fun c_30 => ?_)
  · skip
    refine zz_iload_5 dX12_backAt_38 ?_
    refine zz_iret rfl dX12_backAt_40 (by decide) (by decide) ?_
    first
      | (rw [sp_back, if_neg (Int32.not_lt.mpr c_30)] at h; exact h _ j1_18)
      | (rw [sp_back, if_pos (Int32.not_le.mp c_30)] at h; exact h _ j1_18)
  · skip
    refine zz_iload_4 dX12_backAt_33 ?_
    refine zz_goto 40 dX12_backAt_35 (by decide) ?_
    refine zz_iret rfl dX12_backAt_40 (by decide) (by decide) ?_
    first
      | (rw [sp_back, if_neg (Int32.not_lt.mpr c_30)] at h; exact h _ j1_18)
      | (rw [sp_back, if_pos (Int32.not_le.mp c_30)] at h; exact h _ j1_18)

set_option maxRecDepth 100000 in
set_option maxHeartbeats 4000000 in
theorem t_X12_getsInAt {C : zz_C} {d n : Nat} {g : zz_G} {r : zz_R} {Q : zz_Q} (hn : 60 ≤ n) (hr : xr r) {Rw : Nat → Int32} (hR : g 51 = Rw) (hT0 : tx_ok Rw 0) (hT1 : tx_ok Rw 1) {v s : Int32} (w : Nat) (hw : w < 6) (hv : v = nI w) (h1 : sp_in Rw w s (Rw 9) → ∀ g', mj_ g g' → Q (some (.int 1)) g' r n) (h0 : ¬ sp_in Rw w s (Rw 9) → ∀ g', mj_ g g' → Q (some (.int 0)) g' r n) : zz_T C mi_X12_getsInAt (d + 43) 0 0 [.ref 50, .int v, .int s] g r n Q := by
  refine zz_T.of [some (.ref 50), some (.int v), some (.int s), none] (by decide +kernel) rfl (Nat.le_of_ble_eq_true rfl) ?_
  refine zz_aload_0 dX12_getsInAt_0 ?_
  refine zz_iload_1 dX12_getsInAt_1 ?_
  refine zz_iload_2 dX12_getsInAt_2 ?_
  refine zz_callV2i cv_X12_175 rfl (Nat.lt_of_lt_of_le (by decide) hn) (Nat.le_of_ble_eq_true rfl) (by decide) (by decide) dX12_getsInAt_3 (t_X12_backAt hn hr hR hT0 w hw hv (fun g1_3 j1_3 => ⟨_, rfl, ?_⟩))
  have hR := (mj_51 j1_3).trans hR
  refine zz_istore_3 dX12_getsInAt_6 rfl rfl ?_
  refine zz_iload_3 dX12_getsInAt_7 ?_
  refine zz_aload_0 dX12_getsInAt_8 ?_
  refine zz_getR fl_X12_7 rfl rfl (Nat.lt_of_lt_of_le (by decide) hn) (xr_50_0 hr) dX12_getsInAt_9 ?_
  refine zz_bipush (14) dX12_getsInAt_12 (by decide) ?_
  refine zz_iald 14 (by decide) (by decide) (by decide) rfl (Nat.lt_of_lt_of_le (by decide) hn) dX12_getsInAt_14 ?_
  refine zz_icmp_lt 63 dX12_getsInAt_15 (by decide) (fun c_15 => ?_) (fun c_15 => ?_)
  · skip
    refine zz_iconst (0) dX12_getsInAt_63 (by decide) ?_
    refine zz_zret rfl (by rfl) dX12_getsInAt_64 (by decide) (by decide) ?_
    rw [show g1_3 51 = Rw from (mj_51 j1_3).trans (by assumption)] at c_15
    exact h0 (fun q => Int32.not_lt.mpr q.1 c_15) _ j1_3
  · skip
    refine zz_iload_3 dX12_getsInAt_18 ?_
    refine zz_iconst (2) dX12_getsInAt_19 (by decide) ?_
    refine zz_iadd dX12_getsInAt_20 ?_
    refine zz_iload_2 dX12_getsInAt_21 ?_
    refine zz_aload_0 dX12_getsInAt_22 ?_
    refine zz_iload_1 dX12_getsInAt_23 ?_
    refine zz_callV1i cv_X12_70 rfl (Nat.lt_of_lt_of_le (by decide) hn) (Nat.le_of_ble_eq_true rfl) (by decide) (by decide) dX12_getsInAt_24 (t_X12_lasts hn hr w hw hv ⟨_, rfl, ?_⟩)
    try rw [hR]
    refine zz_iadd dX12_getsInAt_27 ?_
    refine zz_icmp_gt 63 dX12_getsInAt_28 (by decide) (fun c_28 => ?_) (fun c_28 => ?_)
    · skip
      refine zz_iconst (0) dX12_getsInAt_63 (by decide) ?_
      refine zz_zret rfl (by rfl) dX12_getsInAt_64 (by decide) (by decide) ?_
      rw [show g1_3 51 = Rw from (mj_51 j1_3).trans (by assumption)] at c_15
      exact h0 (fun q => Int32.not_lt.mpr q.2.1 c_28) _ j1_3
    · skip
      refine zz_aload_0 dX12_getsInAt_31 ?_
      refine zz_iconst (1) dX12_getsInAt_32 (by decide) ?_
      refine zz_aload_0 dX12_getsInAt_33 ?_
      refine zz_iload_1 dX12_getsInAt_34 ?_
      refine zz_iconst (2) dX12_getsInAt_35 (by decide) ?_
      refine zz_callV2i cv_X12_64 rfl (Nat.lt_of_lt_of_le (by decide) hn) (Nat.le_of_ble_eq_true rfl) (by decide) (by decide) dX12_getsInAt_36 (t_X12_its hn hr w 2 hv rfl (by omega) ⟨_, rfl, ?_⟩)
      try rw [hR]
      refine zz_aload_0 dX12_getsInAt_39 ?_
      refine zz_getR fl_X12_7 rfl rfl (Nat.lt_of_lt_of_le (by decide) hn) (xr_50_0 hr) dX12_getsInAt_40 ?_
      refine zz_bipush (8) dX12_getsInAt_43 (by decide) ?_
      refine zz_iald 8 (by decide) (by decide) (by decide) rfl (Nat.lt_of_lt_of_le (by decide) hn) dX12_getsInAt_45 ?_
      refine zz_aload_0 dX12_getsInAt_46 ?_
      refine zz_getR fl_X12_7 rfl rfl (Nat.lt_of_lt_of_le (by decide) hn) (xr_50_0 hr) dX12_getsInAt_47 ?_
      refine zz_bipush (13) dX12_getsInAt_50 (by decide) ?_
      refine zz_iald 13 (by decide) (by decide) (by decide) rfl (Nat.lt_of_lt_of_le (by decide) hn) dX12_getsInAt_52 ?_
      try rw [hR]
      refine zz_callV4i cv_X12_145 rfl (Nat.lt_of_lt_of_le (by decide) hn) (Nat.le_of_ble_eq_true rfl) (by decide) (by decide) dX12_getsInAt_53 (t_X12_lawOf1 hn hr hR hT1 (fun g1_53 j1_53 => ⟨_, rfl, ?_⟩))
      have hR := (mj_51 j1_53).trans hR
      refine zz_if_ne 63 dX12_getsInAt_56 (by decide) (fun c_56 => ?_) (fun c_56 => ?_)
      · skip
        refine zz_iconst (0) dX12_getsInAt_63 (by decide) ?_
        refine zz_zret rfl (by rfl) dX12_getsInAt_64 (by decide) (by decide) ?_
        rw [show g1_3 51 = Rw from (mj_51 j1_3).trans (by assumption)] at c_15
        exact h0 (fun q => c_56 q.2.2) _ (mj_tr j1_3 j1_53)
      · skip
        refine zz_iconst (1) dX12_getsInAt_59 (by decide) ?_
        refine zz_goto 64 dX12_getsInAt_60 (by decide) ?_
        refine zz_zret rfl (by rfl) dX12_getsInAt_64 (by decide) (by decide) ?_
        rw [show g1_3 51 = Rw from (mj_51 j1_3).trans (by assumption)] at c_15
        exact h1 ⟨Int32.not_lt.mp c_15, Int32.not_lt.mp c_28, c_56⟩ _ (mj_tr j1_3 j1_53)

set_option maxRecDepth 100000 in
set_option maxHeartbeats 4000000 in
theorem t_X12_takes {C : zz_C} {d n : Nat} {g : zz_G} {r : zz_R} {Q : zz_Q} (hn : 60 ≤ n) (hr : xr r) {Rw : Nat → Int32} (hR : g 51 = Rw) (hT0 : tx_ok Rw 0) {v : Int32} (w : Nat) (hw : w < 6) (hv : v = nI w) (h : ∀ g', mj_ g g' → Q (some (.int (sp_takes Rw w))) g' r n) : zz_T C mi_X12_takes (d + 43) 0 0 [.ref 50, .int v] g r n Q := by
  have hR0 := hR
  refine zz_T.of [some (.ref 50), some (.int v)] (by decide +kernel) rfl (Nat.le_of_ble_eq_true rfl) ?_
  refine zz_aload_0 dX12_takes_0 ?_
  refine zz_iload_1 dX12_takes_1 ?_
  refine zz_aload_0 dX12_takes_2 ?_
  refine zz_getR fl_X12_7 rfl rfl (Nat.lt_of_lt_of_le (by decide) hn) (xr_50_0 hr) dX12_takes_3 ?_
  refine zz_iconst (0) dX12_takes_6 (by decide) ?_
  refine zz_iald 0 (by decide) (by decide) (by decide) rfl (Nat.lt_of_lt_of_le (by decide) hn) dX12_takes_7 ?_
  refine zz_callV2i cv_X12_175 rfl (Nat.lt_of_lt_of_le (by decide) hn) (Nat.le_of_ble_eq_true rfl) (by decide) (by decide) dX12_takes_8 (t_X12_backAt hn hr hR hT0 w hw hv (fun g1_8 j1_8 => ⟨_, rfl, ?_⟩))
  have hR := (mj_51 j1_8).trans hR
  refine zz_iconst (2) dX12_takes_11 (by decide) ?_
  refine zz_iadd dX12_takes_12 ?_
  refine zz_aload_0 dX12_takes_13 ?_
  refine zz_getR fl_X12_7 rfl rfl (Nat.lt_of_lt_of_le (by decide) hn) (xr_50_0 hr) dX12_takes_14 ?_
  refine zz_iconst (0) dX12_takes_17 (by decide) ?_
  refine zz_iald 0 (by decide) (by decide) (by decide) rfl (Nat.lt_of_lt_of_le (by decide) hn) dX12_takes_18 ?_
  refine zz_isub dX12_takes_19 ?_
  refine zz_iret rfl dX12_takes_20 (by decide) (by decide) ?_
  rw [hR, show g 51 0 = Rw 0 from congrFun (by assumption) 0]
  exact h _ j1_8

set_option maxRecDepth 100000 in
set_option maxHeartbeats 4000000 in
theorem t_X12_ofWay {C : zz_C} {d n : Nat} {g : zz_G} {r : zz_R} {Q : zz_Q} (hn : 60 ≤ n) (hr : xr r) (mw : Nat) (hmw : g 51 2 = nI mw) (hmw6 : mw ≤ 6) {v what : Int32} (hT0 : tx_ok (g 51) 0) (hT1 : tx_ok (g 51) 1) (h : ms_o g r n Q (sp_ofWay (ms_S g) v what)) : zz_T C mi_X12_ofWay (d + 42) 0 0 [.ref 50, .int v, .int what] g r n Q := by
  refine zz_T.of [some (.ref 50), some (.int v), some (.int what)] (by decide +kernel) rfl (Nat.le_of_ble_eq_true rfl) ?_
  have hR : g 51 = g 51 := rfl
  refine zz_aload_0 dX12_ofWay_0 ?_
  refine zz_iload_1 dX12_ofWay_1 ?_
  refine zz_callV1i cv_X12_60 rfl (Nat.lt_of_lt_of_le (by decide) hn) (Nat.le_of_ble_eq_true rfl) (by decide) (by decide) dX12_ofWay_2 (t_X12_isWay hn hr mw hmw hmw6 (fun w_2 hw_2 ew_2 => ⟨_, rfl, ?_⟩) (fun nw_2 => ⟨_, rfl, ?_⟩))
  · skip
    subst ew_2
    have ia_2 := sp_isw_a (w := w_2) (Nat.lt_of_lt_of_le hw_2 hmw6)
    have ib_2 := sp_isw_b hmw hmw6 hw_2
    refine zz_if_eq 18 dX12_ofWay_5 (by decide) (fun h => absurd h (by decide)) (fun _ => ?_)
    refine zz_iload_2 dX12_ofWay_8 ?_
    refine zz_iconst (0) dX12_ofWay_9 (by decide) ?_
    refine zz_bipush (6) dX12_ofWay_10 (by decide) ?_
    refine zz_callS3i cs_X12_38 (Nat.le_of_ble_eq_true rfl) (by decide) (by decide) dX12_ofWay_12 (t_X12_in (fun a_12 b_12 => ⟨_, rfl, ?_⟩) (fun o_12 => ⟨_, rfl, ?_⟩))
    · skip
      refine zz_if_ne 25 dX12_ofWay_15 (by decide) (fun _ => ?_) (fun h => absurd h (by decide))
      refine zz_iload_2 dX12_ofWay_25 ?_
      refine zz_iconst (5) dX12_ofWay_26 (by decide) ?_
      refine zz_icmp_ge 39 dX12_ofWay_27 (by decide) (fun c_27 => ?_) (fun c_27 => ?_)
      · skip
        refine zz_iload_2 dX12_ofWay_39 ?_
        refine zz_iconst (5) dX12_ofWay_40 (by decide) ?_
        refine zz_icmp_ne 58 dX12_ofWay_41 (by decide) (fun c_41 => ?_) (fun c_41 => ?_)
        · skip
          refine zz_aload_0 dX12_ofWay_58 ?_
          refine zz_iload_1 dX12_ofWay_59 ?_
          refine zz_callV1i cv_X12_70 rfl (Nat.lt_of_lt_of_le (by decide) hn) (Nat.le_of_ble_eq_true rfl) (by decide) (by decide) dX12_ofWay_60 (t_X12_lasts hn hr w_2 (by omega) rfl ⟨_, rfl, ?_⟩)
          try rw [hR]
          refine zz_iret rfl dX12_ofWay_63 (by decide) (by decide) ?_
          first
            | (rw [sp_ofWay, if_neg (fun q => q ⟨ia_2, by rw [ms_51]; exact ib_2⟩), if_neg (fun q => q.elim a_12 b_12), if_neg (fun q => Int32.not_le.mpr q c_27), if_pos c_41, ix_w (by omega), ms_R] at h; exact ms_mj h j1_52)
            | (rw [sp_ofWay, if_neg (fun q => q ⟨ia_2, by rw [ms_51]; exact ib_2⟩), if_neg (fun q => q.elim a_12 b_12), if_neg (fun q => Int32.not_le.mpr q c_27), if_neg c_41, ix_w (by omega), ms_R] at h; exact ms_mj h mj_rf)
        · skip
          refine zz_aload_0 dX12_ofWay_44 ?_
          refine zz_iload_1 dX12_ofWay_45 ?_
          refine zz_aload_0 dX12_ofWay_46 ?_
          refine zz_getR fl_X12_7 rfl rfl (Nat.lt_of_lt_of_le (by decide) hn) (xr_50_0 hr) dX12_ofWay_47 ?_
          refine zz_iconst (0) dX12_ofWay_50 (by decide) ?_
          refine zz_iald 0 (by decide) (by decide) (by decide) rfl (Nat.lt_of_lt_of_le (by decide) hn) dX12_ofWay_51 ?_
          refine zz_callV2i cv_X12_67 rfl (Nat.lt_of_lt_of_le (by decide) hn) (Nat.le_of_ble_eq_true rfl) (by decide) (by decide) dX12_ofWay_52 (t_X12_lateAt hn hr hR hT0 w_2 (by omega) rfl (fun g1_52 j1_52 => ⟨_, rfl, ?_⟩))
          have hR := (mj_51 j1_52).trans hR
          refine zz_goto 63 dX12_ofWay_55 (by decide) ?_
          refine zz_iret rfl dX12_ofWay_63 (by decide) (by decide) ?_
          first
            | (rw [sp_ofWay, if_neg (fun q => q ⟨ia_2, by rw [ms_51]; exact ib_2⟩), if_neg (fun q => q.elim a_12 b_12), if_neg (fun q => Int32.not_le.mpr q c_27), if_pos c_41, ix_w (by omega), ms_R] at h; exact ms_mj h j1_52)
            | (rw [sp_ofWay, if_neg (fun q => q ⟨ia_2, by rw [ms_51]; exact ib_2⟩), if_neg (fun q => q.elim a_12 b_12), if_neg (fun q => Int32.not_le.mpr q c_27), if_neg c_41, ix_w (by omega), ms_R] at h; exact ms_mj h mj_rf)
      · skip
        refine zz_aload_0 dX12_ofWay_30 ?_
        refine zz_iload_1 dX12_ofWay_31 ?_
        refine zz_iload_2 dX12_ofWay_32 ?_
        obtain ⟨w1, hw0, hw1, ew1⟩ := zz_in0 (lo := 0) (hi := 6) rfl rfl (by decide) (by decide) a_12 b_12
        have hw5 : w1 < 5 := zz_lti (b := 5) (by rw [← ew1]; exact c_27) (by omega) (by omega)
        refine zz_callV2i cv_X12_64 rfl (Nat.lt_of_lt_of_le (by decide) hn) (Nat.le_of_ble_eq_true rfl) (by decide) (by decide) dX12_ofWay_33 (t_X12_its hn hr w_2 w1 rfl ew1 (by omega) ⟨_, rfl, ?_⟩)
        try rw [hR]
        refine zz_goto 63 dX12_ofWay_36 (by decide) ?_
        refine zz_iret rfl dX12_ofWay_63 (by decide) (by decide) ?_
        rw [sp_ofWay, if_neg (fun q => q ⟨ia_2, by rw [ms_51]; exact ib_2⟩), if_neg (fun q => q.elim a_12 b_12), if_pos (Int32.not_le.mp c_27), ew1, ix_w (by omega), ix_w (by omega), ms_51] at h
        exact ms_mj h mj_rf
    · skip
      refine zz_if_ne 25 dX12_ofWay_15 (by decide) (fun h => absurd h (by decide)) (fun _ => ?_)
      refine zz_aload_0 dX12_ofWay_18 ?_
      refine zz_ldc dX12_ofWay_19 ct_X12_50 ?_
      refine zz_callV1i cv_X12_51 rfl (Nat.lt_of_lt_of_le (by decide) hn) (Nat.le_of_ble_eq_true rfl) (by decide) (by decide) dX12_ofWay_21 (t_X12_errs hn hr 1 (by decide) (by decide) ⟨_, rfl, ?_⟩)
      refine zz_iret rfl dX12_ofWay_24 (by decide) (by decide) ?_
      rw [sp_ofWay, if_neg (fun q => q ⟨ia_2, by rw [ms_51]; exact ib_2⟩), if_pos o_12] at h
      exact ms_er (by decide) h
  · skip
    have ic_2 := sp_isw_c hmw hmw6 nw_2
    refine zz_if_eq 18 dX12_ofWay_5 (by decide) (fun _ => ?_) (fun h => absurd h (by decide))
    refine zz_aload_0 dX12_ofWay_18 ?_
    refine zz_ldc dX12_ofWay_19 ct_X12_50 ?_
    refine zz_callV1i cv_X12_51 rfl (Nat.lt_of_lt_of_le (by decide) hn) (Nat.le_of_ble_eq_true rfl) (by decide) (by decide) dX12_ofWay_21 (t_X12_errs hn hr 1 (by decide) (by decide) ⟨_, rfl, ?_⟩)
    refine zz_iret rfl dX12_ofWay_24 (by decide) (by decide) ?_
    rw [sp_ofWay, if_pos (by rw [sp_isw, ms_51]; exact ic_2)] at h
    exact ms_er (by decide) h

set_option maxRecDepth 100000 in
set_option maxHeartbeats 4000000 in
theorem t_X12_law {C : zz_C} {d n : Nat} {g : zz_G} {r : zz_R} {Q : zz_Q} (hn : 60 ≤ n) (hr : xr r) {v x y z : Int32} (hT0 : tx_ok (g 51) 0) (hT1 : tx_ok (g 51) 1) (h : ms_o g r n Q (sp_lawT (ms_S g) v x y z)) : zz_T C mi_X12_law (d + 41) 0 0 [.ref 50, .int v, .int x, .int y, .int z] g r n Q := by
  refine zz_T.of [some (.ref 50), some (.int v), some (.int x), some (.int y), some (.int z)] (by decide +kernel) rfl (Nat.le_of_ble_eq_true rfl) ?_
  have hR : g 51 = g 51 := rfl
  refine zz_iload_1 dX12_law_0 ?_
  refine zz_iconst (0) dX12_law_1 (by decide) ?_
  refine zz_iconst (1) dX12_law_2 (by decide) ?_
  refine zz_callS3i cs_X12_38 (Nat.le_of_ble_eq_true rfl) (by decide) (by decide) dX12_law_3 (t_X12_in (fun a_3 b_3 => ⟨_, rfl, ?_⟩) (fun o_3 => ⟨_, rfl, ?_⟩))
  · skip
    refine zz_if_eq 21 dX12_law_6 (by decide) (fun h => absurd h (by decide)) (fun _ => ?_)
    refine zz_aload_0 dX12_law_9 ?_
    refine zz_iload_1 dX12_law_10 ?_
    refine zz_iload_2 dX12_law_11 ?_
    refine zz_iload_3 dX12_law_12 ?_
    refine zz_iload_4 dX12_law_13 ?_
    obtain ⟨w1, hw0, hw1, ew1⟩ := zz_in0 (lo := 0) (hi := 1) rfl rfl (by decide) (by decide) a_3 b_3
    rcases (show w1 = 0 ∨ w1 = 1 by omega) with rfl | rfl
    · subst ew1
      refine zz_callV4i cv_X12_145 rfl (Nat.lt_of_lt_of_le (by decide) hn) (Nat.le_of_ble_eq_true rfl) (by decide) (by decide) dX12_law_15 (t_X12_lawOf0 hn hr hR hT0 (fun g1_15 j1_15 => ⟨_, rfl, ?_⟩))
      refine zz_goto 27 dX12_law_18 (by decide) ?_
      refine zz_iret rfl dX12_law_27 (by decide) (by decide) ?_
      rw [sp_lawT, if_neg (fun q => q.elim a_3 b_3), ms_R] at h
      exact ms_mj h j1_15
    · subst ew1
      refine zz_callV4i cv_X12_145 rfl (Nat.lt_of_lt_of_le (by decide) hn) (Nat.le_of_ble_eq_true rfl) (by decide) (by decide) dX12_law_15 (t_X12_lawOf1 hn hr hR hT1 (fun g1_15 j1_15 => ⟨_, rfl, ?_⟩))
      refine zz_goto 27 dX12_law_18 (by decide) ?_
      refine zz_iret rfl dX12_law_27 (by decide) (by decide) ?_
      rw [sp_lawT, if_neg (fun q => q.elim a_3 b_3), ms_R] at h
      exact ms_mj h j1_15
  · skip
    refine zz_if_eq 21 dX12_law_6 (by decide) (fun _ => ?_) (fun h => absurd h (by decide))
    refine zz_aload_0 dX12_law_21 ?_
    refine zz_ldc dX12_law_22 ct_X12_50 ?_
    refine zz_callV1i cv_X12_51 rfl (Nat.lt_of_lt_of_le (by decide) hn) (Nat.le_of_ble_eq_true rfl) (by decide) (by decide) dX12_law_24 (t_X12_errs hn hr 1 (by decide) (by decide) ⟨_, rfl, ?_⟩)
    refine zz_iret rfl dX12_law_27 (by decide) (by decide) ?_
    rw [sp_lawT, if_pos o_3] at h
    exact ms_er (by decide) h

set_option maxRecDepth 100000 in
set_option maxHeartbeats 4000000 in
theorem t_X12_fetched {C : zz_C} {d n : Nat} {g : zz_G} {r : zz_R} {Q : zz_Q} (hn : 60 ≤ n) (hr : xr r) (mw : Nat) (hmw : g 51 2 = nI mw) (hmw6 : mw ≤ 6) {v what : Int32} (hT0 : tx_ok (g 51) 0) (hT1 : tx_ok (g 51) 1) (h : ms_o g r n Q (sp_fetched (ms_S g) v what)) : zz_T C mi_X12_fetched (d + 44) 0 0 [.ref 50, .int v, .int what] g r n Q := by
  refine zz_T.of [some (.ref 50), some (.int v), some (.int what)] (by decide +kernel) rfl (Nat.le_of_ble_eq_true rfl) ?_
  have hR : g 51 = g 51 := rfl
  refine zz_aload_0 dX12_fetched_0 ?_
  refine zz_iload_1 dX12_fetched_1 ?_
  refine zz_callV1i cv_X12_60 rfl (Nat.lt_of_lt_of_le (by decide) hn) (Nat.le_of_ble_eq_true rfl) (by decide) (by decide) dX12_fetched_2 (t_X12_isWay hn hr mw hmw hmw6 (fun w_2 hw_2 ew_2 => ⟨_, rfl, ?_⟩) (fun nw_2 => ⟨_, rfl, ?_⟩))
  · skip
    subst ew_2
    have ia_2 := sp_isw_a (w := w_2) (Nat.lt_of_lt_of_le hw_2 hmw6)
    have ib_2 := sp_isw_b hmw hmw6 hw_2
    refine zz_if_eq 17 dX12_fetched_5 (by decide) (fun h => absurd h (by decide)) (fun _ => ?_)
    refine zz_iload_2 dX12_fetched_8 ?_
    refine zz_iconst (0) dX12_fetched_9 (by decide) ?_
    refine zz_iconst (1) dX12_fetched_10 (by decide) ?_
    refine zz_callS3i cs_X12_38 (Nat.le_of_ble_eq_true rfl) (by decide) (by decide) dX12_fetched_11 (t_X12_in (fun a_11 b_11 => ⟨_, rfl, ?_⟩) (fun o_11 => ⟨_, rfl, ?_⟩))
    · skip
      refine zz_if_ne 24 dX12_fetched_14 (by decide) (fun _ => ?_) (fun h => absurd h (by decide))
      refine zz_aload_0 dX12_fetched_24 ?_
      refine zz_iload_1 dX12_fetched_25 ?_
      refine zz_iconst (4) dX12_fetched_26 (by decide) ?_
      refine zz_callV2i cv_X12_64 rfl (Nat.lt_of_lt_of_le (by decide) hn) (Nat.le_of_ble_eq_true rfl) (by decide) (by decide) dX12_fetched_27 (t_X12_its hn hr w_2 4 rfl rfl (by omega) ⟨_, rfl, ?_⟩)
      try rw [hR]
      refine zz_iconst (1) dX12_fetched_30 (by decide) ?_
      refine zz_icmp_ne 41 dX12_fetched_31 (by decide) (fun c_31 => ?_) (fun c_31 => ?_)
      · skip
        refine zz_iload_2 dX12_fetched_41 ?_
        refine zz_iconst (1) dX12_fetched_42 (by decide) ?_
        refine zz_icmp_ne 54 dX12_fetched_43 (by decide) (fun c_43 => ?_) (fun c_43 => ?_)
        · skip
          refine zz_aload_0 dX12_fetched_54 ?_
          refine zz_iload_1 dX12_fetched_55 ?_
          refine zz_aload_0 dX12_fetched_56 ?_
          refine zz_getR fl_X12_7 rfl rfl (Nat.lt_of_lt_of_le (by decide) hn) (xr_50_0 hr) dX12_fetched_57 ?_
          refine zz_iconst (0) dX12_fetched_60 (by decide) ?_
          refine zz_iald 0 (by decide) (by decide) (by decide) rfl (Nat.lt_of_lt_of_le (by decide) hn) dX12_fetched_61 ?_
          refine zz_callV2i cv_X12_181 rfl (Nat.lt_of_lt_of_le (by decide) hn) (Nat.le_of_ble_eq_true rfl) (by decide) (by decide) dX12_fetched_62 (t_X12_getsInAt hn hr hR hT0 hT1 w_2 (by omega) rfl (fun y_62 g1_62 j1_62 => ⟨_, rfl, ?_⟩) (fun y_62 g1_62 j1_62 => ⟨_, rfl, ?_⟩))
          · skip
            have hR := (mj_51 j1_62).trans hR
            refine zz_if_eq 72 dX12_fetched_65 (by decide) (fun h => absurd h (by decide)) (fun _ => ?_)
            refine zz_iconst (1) dX12_fetched_68 (by decide) ?_
            refine zz_goto 73 dX12_fetched_69 (by decide) ?_
            refine zz_iret rfl dX12_fetched_73 (by decide) (by decide) ?_
            rw [sp_fetched, if_neg (fun q => q ⟨ia_2, by rw [ms_51]; exact ib_2⟩), if_neg (fun q => q.elim a_11 b_11), ix_w (by omega), ms_51, if_neg c_31, ms_R, if_neg c_43, if_pos y_62] at h
            exact ms_mj h j1_62
          · skip
            have hR := (mj_51 j1_62).trans hR
            refine zz_if_eq 72 dX12_fetched_65 (by decide) (fun _ => ?_) (fun h => absurd h (by decide))
            refine zz_iconst (0) dX12_fetched_72 (by decide) ?_
            refine zz_iret rfl dX12_fetched_73 (by decide) (by decide) ?_
            rw [sp_fetched, if_neg (fun q => q ⟨ia_2, by rw [ms_51]; exact ib_2⟩), if_neg (fun q => q.elim a_11 b_11), ix_w (by omega), ms_51, if_neg c_31, ms_R, if_neg c_43, if_neg y_62] at h
            exact ms_mj h j1_62
        · skip
          refine zz_aload_0 dX12_fetched_46 ?_
          refine zz_iload_1 dX12_fetched_47 ?_
          refine zz_callV1i cv_X12_178 rfl (Nat.lt_of_lt_of_le (by decide) hn) (Nat.le_of_ble_eq_true rfl) (by decide) (by decide) dX12_fetched_48 (t_X12_takes hn hr hR hT0 w_2 (by omega) rfl (fun g1_48 j1_48 => ⟨_, rfl, ?_⟩))
          have hR := (mj_51 j1_48).trans hR
          refine zz_goto 73 dX12_fetched_51 (by decide) ?_
          refine zz_iret rfl dX12_fetched_73 (by decide) (by decide) ?_
          rw [sp_fetched, if_neg (fun q => q ⟨ia_2, by rw [ms_51]; exact ib_2⟩), if_neg (fun q => q.elim a_11 b_11), ix_w (by omega), ms_51, if_neg c_31, ms_R, if_pos c_43] at h
          exact ms_mj h j1_48
      · skip
        refine zz_aload_0 dX12_fetched_34 ?_
        refine zz_ldc dX12_fetched_35 ct_X12_161 ?_
        refine zz_callV1i cv_X12_51 rfl (Nat.lt_of_lt_of_le (by decide) hn) (Nat.le_of_ble_eq_true rfl) (by decide) (by decide) dX12_fetched_37 (t_X12_errs hn hr 3 (by decide) (by decide) ⟨_, rfl, ?_⟩)
        refine zz_iret rfl dX12_fetched_40 (by decide) (by decide) ?_
        rw [sp_fetched, if_neg (fun q => q ⟨ia_2, by rw [ms_51]; exact ib_2⟩), if_neg (fun q => q.elim a_11 b_11), ix_w (by omega), ms_51, if_pos c_31] at h
        exact ms_er (by decide) h
    · skip
      refine zz_if_ne 24 dX12_fetched_14 (by decide) (fun h => absurd h (by decide)) (fun _ => ?_)
      refine zz_aload_0 dX12_fetched_17 ?_
      refine zz_ldc dX12_fetched_18 ct_X12_50 ?_
      refine zz_callV1i cv_X12_51 rfl (Nat.lt_of_lt_of_le (by decide) hn) (Nat.le_of_ble_eq_true rfl) (by decide) (by decide) dX12_fetched_20 (t_X12_errs hn hr 1 (by decide) (by decide) ⟨_, rfl, ?_⟩)
      refine zz_iret rfl dX12_fetched_23 (by decide) (by decide) ?_
      rw [sp_fetched, if_neg (fun q => q ⟨ia_2, by rw [ms_51]; exact ib_2⟩), if_pos o_11] at h
      exact ms_er (by decide) h
  · skip
    have ic_2 := sp_isw_c hmw hmw6 nw_2
    refine zz_if_eq 17 dX12_fetched_5 (by decide) (fun _ => ?_) (fun h => absurd h (by decide))
    refine zz_aload_0 dX12_fetched_17 ?_
    refine zz_ldc dX12_fetched_18 ct_X12_50 ?_
    refine zz_callV1i cv_X12_51 rfl (Nat.lt_of_lt_of_le (by decide) hn) (Nat.le_of_ble_eq_true rfl) (by decide) (by decide) dX12_fetched_20 (t_X12_errs hn hr 1 (by decide) (by decide) ⟨_, rfl, ?_⟩)
    refine zz_iret rfl dX12_fetched_23 (by decide) (by decide) ?_
    rw [sp_fetched, if_pos (by rw [sp_isw, ms_51]; exact ic_2)] at h
    exact ms_er (by decide) h
