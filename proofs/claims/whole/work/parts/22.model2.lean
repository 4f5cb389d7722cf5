theorem ms_55 (g : zz_G) (j : Nat) : ms_S g 55 j = g 55 j := ms_at rfl
theorem ms_56 (g : zz_G) (j : Nat) : ms_S g 56 j = g 56 j := ms_at rfl
theorem ms_57 (g : zz_G) (j : Nat) : ms_S g 57 j = g 57 j := ms_at rfl
theorem ms_59 (g : zz_G) (j : Nat) : ms_S g 59 j = g 59 j := ms_at rfl
theorem ms_50_3 (g : zz_G) : ms_S g 50 3 = g 50 3 := ms_at rfl
theorem ms_50_4 (g : zz_G) : ms_S g 50 4 = g 50 4 := ms_at rfl
theorem ms_50_19 (g : zz_G) : ms_S g 50 19 = g 50 19 := ms_at rfl
theorem ms_er {g : zz_G} {r : zz_R} {n e : Nat} {Q : zz_Q} {k : Int32} (hk : -1000000000 - nI e = k) (h : ms_o g r n Q (sp_err (ms_S g) e)) : Q (some (.int k)) (zz_u g 54 e (g 54 e + 1)) r n := by
  rw [← hk]
  refine h _ ?_
  show ms_F g _ (zz_u (ms_S g) 54 e (ms_S g 54 e + 1))
  rw [ms_54]
  exact ms_F.rf.u rfl (by decide)
theorem zz_in1 {x v : Int32} {m : Nat} (hm : x = nI m) (hb : m ≤ 1000) (a : ¬ v < 0) (b : ¬ x - 1 < v) : ∃ w : Nat, w < m ∧ v = nI w := by
  rcases m with _ | m
  · rw [hm] at b
    exact absurd (Int32.le_trans (Int32.not_lt.mp a) (Int32.not_lt.mp b)) (by decide)
  · rw [hm, show nI (m + 1) - 1 = nI m from nI_pred m] at b
    obtain ⟨w, hw, hv⟩ := zz_natle (Int32.not_lt.mp a) (Int32.not_lt.mp b) (by omega)
    exact ⟨w, by omega, hv⟩
theorem zz_out1 {x v : Int32} {m : Nat} (hm : x = nI m) (hb : m ≤ 1000) (o : v < 0 ∨ x - 1 < v) : ¬ (¬ v < 0 ∧ v < x) := by
  rintro ⟨h1, h2⟩
  rw [hm] at h2
  obtain ⟨w, hw, hv⟩ := zz_nat (Int32.not_lt.mp h1) h2 (by omega)
  rcases m with _ | m
  · omega
  · rw [hm, show nI (m + 1) - 1 = nI m from nI_pred m, hv] at o
    rcases o with q | q
    · exact nI_pos (by omega) q
    · exact absurd ((nI_ltI (by omega) (by omega)).mp q) (by omega)
theorem zz_in0 {v : Int32} {lo hi : Nat} {a b : Int32} (ha : a = nI lo) (hb : b = nI hi) (hh : hi ≤ 10000) (hl : lo ≤ 10000) (h1 : ¬ v < a) (h2 : ¬ b < v) : ∃ w : Nat, lo ≤ w ∧ w ≤ hi ∧ v = nI w := by
  subst ha hb
  have h0 : (0 : Int32) ≤ v := Int32.le_trans (nI_pos' (n := lo) (by omega)) (Int32.not_lt.mp h1)
  obtain ⟨w, hw, hv⟩ := zz_natle h0 (Int32.not_lt.mp h2) (by omega)
  refine ⟨w, ?_, hw, hv⟩
  rw [hv] at h1
  exact Nat.not_lt.mp fun q => h1 (nI_lt q (by omega))
theorem zz_ltm {x : Int32} {t m : Nat} (h : x = nI t) (ht : t ≤ m) (hne : ¬ x = nI m) : t < m := by
  rcases Nat.lt_or_ge t m with q | q
  · exact q
  · exact absurd (by rw [h, show t = m by omega]) hne
theorem sp_rok_ix {what v : Int32} (h : sp_rok what v) : ∃ j : Nat, j < 5 ∧ what = nI j := by
  unfold sp_rok at h
  by_cases h0 : what = 0
  · exact ⟨0, by omega, h0⟩
  by_cases h1 : what = 1
  · exact ⟨1, by omega, h1⟩
  by_cases h2 : what = 2
  · exact ⟨2, by omega, h2⟩
  by_cases h3 : what = 3
  · exact ⟨3, by omega, h3⟩
  rw [if_neg h0, if_neg h1, if_neg h2, if_neg h3] at h
  exact ⟨4, by omega, h.1⟩
theorem sp_rule_n {S : zz_G} {what v : Int32} (h : ¬ sp_rok what v) : sp_rule S what v = sp_err S 1 := by
  unfold sp_rok at h
  unfold sp_rule
  by_cases h0 : what = 0
  · rw [if_pos h0] at h ⊢
    rw [if_pos (Classical.not_not.mp h)]
  by_cases h1 : what = 1
  · rw [if_neg h0, if_pos h1] at h ⊢
    rw [if_pos (Classical.not_not.mp h)]
  by_cases h2 : what = 2
  · rw [if_neg h0, if_neg h1, if_pos h2] at h ⊢
    rw [if_pos (Classical.not_not.mp h)]
  by_cases h3 : what = 3
  · rw [if_neg h0, if_neg h1, if_neg h2, if_pos h3] at h ⊢
    rw [if_pos (Classical.not_not.mp h)]
  rw [if_neg h0, if_neg h1, if_neg h2, if_neg h3] at h ⊢
  by_cases h4 : what = 4
  · rw [if_pos h4]
    rw [if_pos (Classical.not_not.mp fun q => h ⟨h4, q⟩)]
  · rw [if_neg h4]
theorem sp_rule_y {S : zz_G} {what v : Int32} {j : Nat} (h : sp_rok what v) (hj : j < 5) (e : what = nI j) : sp_rule S what v = sp_set S (8 + j) v := by
  unfold sp_rok at h
  unfold sp_rule
  rcases (show j = 0 ∨ j = 1 ∨ j = 2 ∨ j = 3 ∨ j = 4 by omega) with rfl | rfl | rfl | rfl | rfl <;> subst e <;> simp (decide := true) only [↓reduceIte, true_and] at h ⊢ <;> rw [if_neg h]
set_option maxRecDepth 100000 in
set_option maxHeartbeats 4000000 in
theorem t_X12_rule {C : zz_C} {d n : Nat} {g : zz_G} {r : zz_R} {Q : zz_Q} (hn : 60 ≤ n) (hr : xr r) {what v : Int32}  (h : ms_o g r n Q (sp_rule (ms_S g) what v)) : zz_T C mi_X12_rule (d + 2) 0 0 [.ref 50, .int what, .int v] g r n Q := by
  refine zz_T.of [some (.ref 50), some (.int what), some (.int v)] (by decide +kernel) rfl (Nat.le_of_ble_eq_true rfl) ?_
  refine zz_iload_1 dX12_rule_0 ?_
  refine zz_iload_2 dX12_rule_1 ?_
  refine zz_callS2i cs_X12_42 (Nat.le_of_ble_eq_true rfl) (by decide) (by decide) dX12_rule_2 (t_X12_isRule (fun y_2 => ⟨_, rfl, ?_⟩) (fun y_2 => ⟨_, rfl, ?_⟩))
  · skip
    obtain ⟨j_2, hj_2, ej_2⟩ := sp_rok_ix y_2
    refine zz_if_eq 20 dX12_rule_5 (by decide) (fun h => absurd h (by decide)) (fun _ => ?_)
    refine zz_aload_0 dX12_rule_8 ?_
    refine zz_bipush (8) dX12_rule_9 (by decide) ?_
    refine zz_iload_1 dX12_rule_11 ?_
    refine zz_iadd dX12_rule_12 ?_
    refine zz_iload_2 dX12_rule_13 ?_
    refine zz_callV2i cv_X12_46 rfl (Nat.lt_of_lt_of_le (by decide) hn) (Nat.le_of_ble_eq_true rfl) (by decide) (by decide) dX12_rule_14 (t_X12_becomes hn hr (8 + j_2) (by rw [ej_2]; exact nI_add 8 j_2) (by omega) ⟨_, rfl, ?_⟩)
    refine zz_goto 26 dX12_rule_17 (by decide) ?_
    refine zz_iret rfl dX12_rule_26 (by decide) (by decide) ?_
    rw [sp_rule_y y_2 hj_2 ej_2] at h
    simp only [sp_set, ms_51] at h
    exact h _ (ms_F.rf.u rfl (by decide))
  · skip
    refine zz_if_eq 20 dX12_rule_5 (by decide) (fun _ => ?_) (fun h => absurd h (by decide))
    refine zz_aload_0 dX12_rule_20 ?_
    refine zz_ldc dX12_rule_21 ct_X12_50 ?_
    refine zz_callV1i cv_X12_51 rfl (Nat.lt_of_lt_of_le (by decide) hn) (Nat.le_of_ble_eq_true rfl) (by decide) (by decide) dX12_rule_23 (t_X12_errs hn hr 1 (by decide) (by decide) ⟨_, rfl, ?_⟩)
    refine zz_iret rfl dX12_rule_26 (by decide) (by decide) ?_
    rw [sp_rule_n y_2] at h
    exact ms_er (by decide) h

set_option maxRecDepth 100000 in
set_option maxHeartbeats 4000000 in
theorem t_X12_way {C : zz_C} {d n : Nat} {g : zz_G} {r : zz_R} {Q : zz_Q} (hn : 60 ≤ n) (hr : xr r) (mw : Nat) (hmw : g 51 2 = nI mw) (hmw6 : mw ≤ 6) {km far place : Int32}  (h : ms_o g r n Q (sp_way (ms_S g) km far place)) : zz_T C mi_X12_way (d + 1) 0 0 [.ref 50, .int km, .int far, .int place] g r n Q := by
  refine zz_T.of [some (.ref 50), some (.int km), some (.int far), some (.int place), none] (by decide +kernel) rfl (Nat.le_of_ble_eq_true rfl) ?_
  refine zz_iload_1 dX12_way_0 ?_
  refine zz_iconst (0) dX12_way_1 (by decide) ?_
  refine zz_bipush (69) dX12_way_2 (by decide) ?_
  refine zz_callS3i cs_X12_38 (Nat.le_of_ble_eq_true rfl) (by decide) (by decide) dX12_way_4 (t_X12_in (fun a_4 b_4 => ⟨_, rfl, ?_⟩) (fun o_4 => ⟨_, rfl, ?_⟩))
  · skip
    refine zz_if_eq 29 dX12_way_7 (by decide) (fun h => absurd h (by decide)) (fun _ => ?_)
    refine zz_iload_2 dX12_way_10 ?_
    refine zz_iconst (0) dX12_way_11 (by decide) ?_
    refine zz_bipush (99) dX12_way_12 (by decide) ?_
    refine zz_callS3i cs_X12_38 (Nat.le_of_ble_eq_true rfl) (by decide) (by decide) dX12_way_14 (t_X12_in (fun a_14 b_14 => ⟨_, rfl, ?_⟩) (fun o_14 => ⟨_, rfl, ?_⟩))
    · skip
      refine zz_if_eq 29 dX12_way_17 (by decide) (fun h => absurd h (by decide)) (fun _ => ?_)
      refine zz_iload_3 dX12_way_20 ?_
      refine zz_iconst (0) dX12_way_21 (by decide) ?_
      refine zz_iconst (5) dX12_way_22 (by decide) ?_
      refine zz_callS3i cs_X12_38 (Nat.le_of_ble_eq_true rfl) (by decide) (by decide) dX12_way_23 (t_X12_in (fun a_23 b_23 => ⟨_, rfl, ?_⟩) (fun o_23 => ⟨_, rfl, ?_⟩))
      · skip
        refine zz_if_ne 36 dX12_way_26 (by decide) (fun _ => ?_) (fun h => absurd h (by decide))
        refine zz_aload_0 dX12_way_36 ?_
        refine zz_getR fl_X12_7 rfl rfl (Nat.lt_of_lt_of_le (by decide) hn) (xr_50_0 hr) dX12_way_37 ?_
        refine zz_iconst (2) dX12_way_40 (by decide) ?_
        refine zz_iald 2 (by decide) (by decide) (by decide) rfl (Nat.lt_of_lt_of_le (by decide) hn) dX12_way_41 ?_
        refine zz_bipush (6) dX12_way_42 (by decide) ?_
        refine zz_icmp_ne 54 dX12_way_44 (by decide) (fun c_44 => ?_) (fun c_44 => ?_)
        · skip
          refine zz_aload_0 dX12_way_54 ?_
          refine zz_getR fl_X12_7 rfl rfl (Nat.lt_of_lt_of_le (by decide) hn) (xr_50_0 hr) dX12_way_55 ?_
          refine zz_iconst (2) dX12_way_58 (by decide) ?_
          refine zz_iald 2 (by decide) (by decide) (by decide) rfl (Nat.lt_of_lt_of_le (by decide) hn) dX12_way_59 ?_
          refine zz_istore_4 dX12_way_60 rfl rfl ?_
          refine zz_aload_0 dX12_way_62 ?_
          refine zz_iload_4 dX12_way_63 ?_
          refine zz_iconst (0) dX12_way_65 (by decide) ?_
          refine zz_iload_1 dX12_way_66 ?_
          refine zz_bipush (10) dX12_way_67 (by decide) ?_
          refine zz_idiv dX12_way_69 (by decide) ?_
          refine zz_callV3v cv_X12_56 rfl (Nat.lt_of_lt_of_le (by decide) hn) (Nat.le_of_ble_eq_true rfl) (by decide) (by decide) dX12_way_70 (t_X12_gets hn hr mw 0 hmw rfl (by omega) ⟨rfl, ?_⟩)
          refine zz_aload_0 dX12_way_73 ?_
          refine zz_iload_4 dX12_way_74 ?_
          refine zz_iconst (1) dX12_way_76 (by decide) ?_
          refine zz_iload_1 dX12_way_77 ?_
          refine zz_bipush (10) dX12_way_78 (by decide) ?_
          refine zz_irem dX12_way_80 (by decide) ?_
          refine zz_callV3v cv_X12_56 rfl (Nat.lt_of_lt_of_le (by decide) hn) (Nat.le_of_ble_eq_true rfl) (by decide) (by decide) dX12_way_81 (t_X12_gets hn hr mw 1 hmw rfl (by omega) ⟨rfl, ?_⟩)
          refine zz_aload_0 dX12_way_84 ?_
          refine zz_iload_4 dX12_way_85 ?_
          refine zz_iconst (2) dX12_way_87 (by decide) ?_
          refine zz_iload_2 dX12_way_88 ?_
          refine zz_callV3v cv_X12_56 rfl (Nat.lt_of_lt_of_le (by decide) hn) (Nat.le_of_ble_eq_true rfl) (by decide) (by decide) dX12_way_89 (t_X12_gets hn hr mw 2 hmw rfl (by omega) ⟨rfl, ?_⟩)
          refine zz_aload_0 dX12_way_92 ?_
          refine zz_iload_4 dX12_way_93 ?_
          refine zz_iconst (3) dX12_way_95 (by decide) ?_
          refine zz_iload_3 dX12_way_96 ?_
          refine zz_callV3v cv_X12_56 rfl (Nat.lt_of_lt_of_le (by decide) hn) (Nat.le_of_ble_eq_true rfl) (by decide) (by decide) dX12_way_97 (t_X12_gets hn hr mw 3 hmw rfl (by omega) ⟨rfl, ?_⟩)
          refine zz_aload_0 dX12_way_100 ?_
          refine zz_iload_4 dX12_way_101 ?_
          refine zz_iconst (4) dX12_way_103 (by decide) ?_
          refine zz_iconst (0) dX12_way_104 (by decide) ?_
          refine zz_callV3v cv_X12_56 rfl (Nat.lt_of_lt_of_le (by decide) hn) (Nat.le_of_ble_eq_true rfl) (by decide) (by decide) dX12_way_105 (t_X12_gets hn hr mw 4 hmw rfl (by omega) ⟨rfl, ?_⟩)
          refine zz_aload_0 dX12_way_108 ?_
          refine zz_getR fl_X12_7 rfl rfl (Nat.lt_of_lt_of_le (by decide) hn) (xr_50_0 hr) dX12_way_109 ?_
          refine zz_iconst (2) dX12_way_112 (by decide) ?_
          refine zz_dup2 dX12_way_113 rfl rfl ?_
          refine zz_iald 2 (by decide) (by decide) (by decide) rfl (Nat.lt_of_lt_of_le (by decide) hn) dX12_way_114 ?_
          refine zz_iconst (1) dX12_way_115 (by decide) ?_
          refine zz_iadd dX12_way_116 ?_
          refine zz_iast 2 (by decide) (by decide) (by decide) rfl (Nat.lt_of_lt_of_le (by decide) hn) dX12_way_117 ?_
          refine zz_iload_4 dX12_way_118 ?_
          refine zz_iret rfl dX12_way_120 (by decide) (by decide) ?_
          simp only [sp_way, a_4, b_4, a_14, b_14, a_23, b_23, c_44, ms_51, ms_54, ms_55, ms_56, ms_57, ms_59, or_self, or_false, false_or, or_true, true_or, and_true, true_and, and_false, false_and, and_self, not_true_eq_false, not_false_eq_true, ↓reduceIte] at h
          simp only [hmw] at h
          try simp (disch := omega) only [zz_u_ne2, zz_u_ne1, zz_u_same, ix_w] at h ⊢
          simp only [hmw] at h ⊢
          exact h _ ((((((ms_F.rf.u rfl (by decide)).u rfl (by decide)).u rfl (by decide)).u rfl (by decide)).u rfl (by decide)).u rfl (by decide))
        · skip
          refine zz_aload_0 dX12_way_47 ?_
          refine zz_ldc dX12_way_48 ct_X12_55 ?_
          refine zz_callV1i cv_X12_51 rfl (Nat.lt_of_lt_of_le (by decide) hn) (Nat.le_of_ble_eq_true rfl) (by decide) (by decide) dX12_way_50 (t_X12_errs hn hr 4 (by decide) (by decide) ⟨_, rfl, ?_⟩)
          refine zz_iret rfl dX12_way_53 (by decide) (by decide) ?_
          simp only [sp_way, a_4, b_4, a_14, b_14, a_23, b_23, c_44, ms_51, ms_54, ms_55, ms_56, ms_57, ms_59, or_self, or_false, false_or, or_true, true_or, and_true, true_and, and_false, false_and, and_self, not_true_eq_false, not_false_eq_true, ↓reduceIte] at h
          exact ms_er (by decide) h
      · skip
        refine zz_if_ne 36 dX12_way_26 (by decide) (fun h => absurd h (by decide)) (fun _ => ?_)
        refine zz_aload_0 dX12_way_29 ?_
        refine zz_ldc dX12_way_30 ct_X12_50 ?_
        refine zz_callV1i cv_X12_51 rfl (Nat.lt_of_lt_of_le (by decide) hn) (Nat.le_of_ble_eq_true rfl) (by decide) (by decide) dX12_way_32 (t_X12_errs hn hr 1 (by decide) (by decide) ⟨_, rfl, ?_⟩)
        refine zz_iret rfl dX12_way_35 (by decide) (by decide) ?_
        simp only [sp_way, a_4, b_4, a_14, b_14, o_23, ms_51, ms_54, ms_55, ms_56, ms_57, ms_59, or_self, or_false, false_or, or_true, true_or, and_true, true_and, and_false, false_and, and_self, not_true_eq_false, not_false_eq_true, ↓reduceIte] at h
        exact ms_er (by decide) h
    · skip
      refine zz_if_eq 29 dX12_way_17 (by decide) (fun _ => ?_) (fun h => absurd h (by decide))
      refine zz_aload_0 dX12_way_29 ?_
      refine zz_ldc dX12_way_30 ct_X12_50 ?_
      refine zz_callV1i cv_X12_51 rfl (Nat.lt_of_lt_of_le (by decide) hn) (Nat.le_of_ble_eq_true rfl) (by decide) (by decide) dX12_way_32 (t_X12_errs hn hr 1 (by decide) (by decide) ⟨_, rfl, ?_⟩)
      refine zz_iret rfl dX12_way_35 (by decide) (by decide) ?_
      simp only [sp_way, a_4, b_4, o_14, ms_51, ms_54, ms_55, ms_56, ms_57, ms_59, or_self, or_false, false_or, or_true, true_or, and_true, true_and, and_false, false_and, and_self, not_true_eq_false, not_false_eq_true, ↓reduceIte] at h
      exact ms_er (by decide) h
  · skip
    refine zz_if_eq 29 dX12_way_7 (by decide) (fun _ => ?_) (fun h => absurd h (by decide))
    refine zz_aload_0 dX12_way_29 ?_
    refine zz_ldc dX12_way_30 ct_X12_50 ?_
    refine zz_callV1i cv_X12_51 rfl (Nat.lt_of_lt_of_le (by decide) hn) (Nat.le_of_ble_eq_true rfl) (by decide) (by decide) dX12_way_32 (t_X12_errs hn hr 1 (by decide) (by decide) ⟨_, rfl, ?_⟩)
    refine zz_iret rfl dX12_way_35 (by decide) (by decide) ?_
    simp only [sp_way, o_4, ms_51, ms_54, ms_55, ms_56, ms_57, ms_59, or_self, or_false, false_or, or_true, true_or, and_true, true_and, and_false, false_and, and_self, not_true_eq_false, not_false_eq_true, ↓reduceIte] at h
    exact ms_er (by decide) h

set_option maxRecDepth 100000 in
set_option maxHeartbeats 4000000 in
theorem t_X12_change {C : zz_C} {d n : Nat} {g : zz_G} {r : zz_R} {Q : zz_Q} (hn : 60 ≤ n) (hr : xr r) (mw : Nat) (hmw : g 51 2 = nI mw) (hmw6 : mw ≤ 6) {v what x : Int32}  (h : ms_o g r n Q (sp_change (ms_S g) v what x)) : zz_T C mi_X12_change (d + 2) 0 0 [.ref 50, .int v, .int what, .int x] g r n Q := by
  refine zz_T.of [some (.ref 50), some (.int v), some (.int what), some (.int x), none] (by decide +kernel) rfl (Nat.le_of_ble_eq_true rfl) ?_
  refine zz_iload_2 dX12_change_0 ?_
  refine zz_if_ne 14 dX12_change_1 (by decide) (fun c_1 => ?_) (fun c_1 => ?_)
  · skip
    refine zz_iload_2 dX12_change_14 ?_
    refine zz_iconst (1) dX12_change_15 (by decide) ?_
    refine zz_icmp_ne 28 dX12_change_16 (by decide) (fun c_16 => ?_) (fun c_16 => ?_)
    · skip
      refine zz_iload_2 dX12_change_28 ?_
      refine zz_iconst (2) dX12_change_29 (by decide) ?_
      refine zz_icmp_ne 46 dX12_change_30 (by decide) (fun c_30 => ?_) (fun c_30 => ?_)
      · skip
        refine zz_iconst (0) dX12_change_46 (by decide) ?_
        refine zz_istore_4 dX12_change_47 rfl rfl ?_
        refine zz_aload_0 dX12_change_49 ?_
        refine zz_iload_1 dX12_change_50 ?_
        refine zz_callV1i cv_X12_60 rfl (Nat.lt_of_lt_of_le (by decide) hn) (Nat.le_of_ble_eq_true rfl) (by decide) (by decide) dX12_change_51 (t_X12_isWay hn hr mw hmw hmw6 (fun w_51 hw_51 ew_51 => ⟨_, rfl, ?_⟩) (fun nw_51 => ⟨_, rfl, ?_⟩))
        · skip
          subst ew_51
          have ia_51 := sp_isw_a (w := w_51) (Nat.lt_of_lt_of_le hw_51 hmw6)
          have ib_51 := sp_isw_b hmw hmw6 hw_51
          refine zz_if_eq 80 dX12_change_54 (by decide) (fun h => absurd h (by decide)) (fun _ => ?_)
          refine zz_iload_4 dX12_change_57 ?_
          refine zz_if_eq 80 dX12_change_59 (by decide) (fun _ => ?_) (fun h => absurd h (by decide))
          refine zz_aload_0 dX12_change_80 ?_
          refine zz_ldc dX12_change_81 ct_X12_50 ?_
          refine zz_callV1i cv_X12_51 rfl (Nat.lt_of_lt_of_le (by decide) hn) (Nat.le_of_ble_eq_true rfl) (by decide) (by decide) dX12_change_83 (t_X12_errs hn hr 1 (by decide) (by decide) ⟨_, rfl, ?_⟩)
          refine zz_iret rfl dX12_change_86 (by decide) (by decide) ?_
          simp (decide := true) only [sp_change, sp_isw, sp_chok, c_1, c_16, c_30, ia_51, ib_51, ms_51, ms_54, or_self, or_false, false_or, or_true, true_or, and_true, true_and, and_false, false_and, and_self, not_true_eq_false, not_false_eq_true, ↓reduceIte] at h
          exact ms_er (by decide) h
        · skip
          have ic_51 := sp_isw_c hmw hmw6 nw_51
          refine zz_if_eq 80 dX12_change_54 (by decide) (fun _ => ?_) (fun h => absurd h (by decide))
          refine zz_aload_0 dX12_change_80 ?_
          refine zz_ldc dX12_change_81 ct_X12_50 ?_
          refine zz_callV1i cv_X12_51 rfl (Nat.lt_of_lt_of_le (by decide) hn) (Nat.le_of_ble_eq_true rfl) (by decide) (by decide) dX12_change_83 (t_X12_errs hn hr 1 (by decide) (by decide) ⟨_, rfl, ?_⟩)
          refine zz_iret rfl dX12_change_86 (by decide) (by decide) ?_
          simp (decide := true) only [sp_change, sp_isw, sp_chok, c_1, c_16, c_30, ic_51, ms_51, ms_54, or_self, or_false, false_or, or_true, true_or, and_true, true_and, and_false, false_and, and_self, not_true_eq_false, not_false_eq_true, ↓reduceIte] at h
          exact ms_er (by decide) h
      · skip
        refine zz_iload_3 dX12_change_33 ?_
        refine zz_iconst (0) dX12_change_34 (by decide) ?_
        refine zz_iconst (1) dX12_change_35 (by decide) ?_
        refine zz_callS3i cs_X12_38 (Nat.le_of_ble_eq_true rfl) (by decide) (by decide) dX12_change_36 (t_X12_in (fun a_36 b_36 => ⟨_, rfl, ?_⟩) (fun o_36 => ⟨_, rfl, ?_⟩))
        · skip
          refine zz_if_eq 46 dX12_change_39 (by decide) (fun h => absurd h (by decide)) (fun _ => ?_)
          refine zz_iconst (1) dX12_change_42 (by decide) ?_
          refine zz_goto 47 dX12_change_43 (by decide) ?_
          refine zz_istore_4 dX12_change_47 rfl rfl ?_
          refine zz_aload_0 dX12_change_49 ?_
          refine zz_iload_1 dX12_change_50 ?_
          refine zz_callV1i cv_X12_60 rfl (Nat.lt_of_lt_of_le (by decide) hn) (Nat.le_of_ble_eq_true rfl) (by decide) (by decide) dX12_change_51 (t_X12_isWay hn hr mw hmw hmw6 (fun w_51 hw_51 ew_51 => ⟨_, rfl, ?_⟩) (fun nw_51 => ⟨_, rfl, ?_⟩))
          · skip
            subst ew_51
            have ia_51 := sp_isw_a (w := w_51) (Nat.lt_of_lt_of_le hw_51 hmw6)
            have ib_51 := sp_isw_b hmw hmw6 hw_51
            refine zz_if_eq 80 dX12_change_54 (by decide) (fun h => absurd h (by decide)) (fun _ => ?_)
            refine zz_iload_4 dX12_change_57 ?_
            refine zz_if_eq 80 dX12_change_59 (by decide) (fun h => absurd h (by decide)) (fun _ => ?_)
            obtain ⟨jc, hjc, ejc⟩ : ∃ j : Nat, j < 3 ∧ what = nI j := ⟨2, by omega, c_30⟩
            have hok : sp_chok what x := by simp (decide := true) only [sp_chok, c_1, c_16, c_30, a_36, b_36, ia_51, ib_51, or_self, or_false, false_or, or_true, true_or, and_true, true_and, and_false, false_and, and_self, not_true_eq_false, not_false_eq_true, ↓reduceIte]
            refine zz_aload_0 dX12_change_62 ?_
            refine zz_bipush (16) dX12_change_63 (by decide) ?_
            refine zz_iconst (5) dX12_change_65 (by decide) ?_
            refine zz_iload_1 dX12_change_66 ?_
            refine zz_imul dX12_change_67 ?_
            refine zz_iadd dX12_change_68 ?_
            refine zz_iconst (2) dX12_change_69 (by decide) ?_
            refine zz_iadd dX12_change_70 ?_
            refine zz_iload_2 dX12_change_71 ?_
            refine zz_iadd dX12_change_72 ?_
            refine zz_iload_3 dX12_change_73 ?_
            refine zz_callV2i cv_X12_46 rfl (Nat.lt_of_lt_of_le (by decide) hn) (Nat.le_of_ble_eq_true rfl) (by decide) (by decide) dX12_change_74 (t_X12_becomes hn hr (16 + 5 * w_51 + 2 + jc) (by rw [ejc]; show nI 16 + nI 5 * nI w_51 + nI 2 + nI jc = _; rw [pk_mul, nI_add, nI_add, nI_add]) (by omega) ⟨_, rfl, ?_⟩)
            refine zz_goto 86 dX12_change_77 (by decide) ?_
            refine zz_iret rfl dX12_change_86 (by decide) (by decide) ?_
            rw [sp_change, if_pos ⟨⟨ia_51, by rw [ms_51]; exact ib_51⟩, hok⟩, ix_w (by omega), show what.toNatClampNeg = jc from by rw [ejc]; exact ix_w (by omega)] at h
            simp only [sp_set, ms_51] at h
            exact h _ (ms_F.rf.u rfl (by decide))
          · skip
            have ic_51 := sp_isw_c hmw hmw6 nw_51
            refine zz_if_eq 80 dX12_change_54 (by decide) (fun _ => ?_) (fun h => absurd h (by decide))
            refine zz_aload_0 dX12_change_80 ?_
            refine zz_ldc dX12_change_81 ct_X12_50 ?_
            refine zz_callV1i cv_X12_51 rfl (Nat.lt_of_lt_of_le (by decide) hn) (Nat.le_of_ble_eq_true rfl) (by decide) (by decide) dX12_change_83 (t_X12_errs hn hr 1 (by decide) (by decide) ⟨_, rfl, ?_⟩)
            refine zz_iret rfl dX12_change_86 (by decide) (by decide) ?_
            simp (decide := true) only [sp_change, sp_isw, sp_chok, c_1, c_16, c_30, a_36, b_36, ic_51, ms_51, ms_54, or_self, or_false, false_or, or_true, true_or, and_true, true_and, and_false, false_and, and_self, not_true_eq_false, not_false_eq_true, ↓reduceIte] at h
            exact ms_er (by decide) h
        · skip
          refine zz_if_eq 46 dX12_change_39 (by decide) (fun _ => ?_) (fun h => absurd h (by decide))
          refine zz_iconst (0) dX12_change_46 (by decide) ?_
          refine zz_istore_4 dX12_change_47 rfl rfl ?_
          refine zz_aload_0 dX12_change_49 ?_
          refine zz_iload_1 dX12_change_50 ?_
          refine zz_callV1i cv_X12_60 rfl (Nat.lt_of_lt_of_le (by decide) hn) (Nat.le_of_ble_eq_true rfl) (by decide) (by decide) dX12_change_51 (t_X12_isWay hn hr mw hmw hmw6 (fun w_51 hw_51 ew_51 => ⟨_, rfl, ?_⟩) (fun nw_51 => ⟨_, rfl, ?_⟩))
          · skip
            subst ew_51
            have ia_51 := sp_isw_a (w := w_51) (Nat.lt_of_lt_of_le hw_51 hmw6)
            have ib_51 := sp_isw_b hmw hmw6 hw_51
            refine zz_if_eq 80 dX12_change_54 (by decide) (fun h => absurd h (by decide)) (fun _ => ?_)
            refine zz_iload_4 dX12_change_57 ?_
            refine zz_if_eq 80 dX12_change_59 (by decide) (fun _ => ?_) (fun h => absurd h (by decide))
            refine zz_aload_0 dX12_change_80 ?_
            refine zz_ldc dX12_change_81 ct_X12_50 ?_
            refine zz_callV1i cv_X12_51 rfl (Nat.lt_of_lt_of_le (by decide) hn) (Nat.le_of_ble_eq_true rfl) (by decide) (by decide) dX12_change_83 (t_X12_errs hn hr 1 (by decide) (by decide) ⟨_, rfl, ?_⟩)
            refine zz_iret rfl dX12_change_86 (by decide) (by decide) ?_
            simp (decide := true) only [sp_change, sp_isw, sp_chok, c_1, c_16, c_30, o_36, ia_51, ib_51, ms_51, ms_54, or_self, or_false, false_or, or_true, true_or, and_true, true_and, and_false, false_and, and_self, not_true_eq_false, not_false_eq_true, ↓reduceIte] at h
            exact ms_er (by decide) h
          · skip
            have ic_51 := sp_isw_c hmw hmw6 nw_51
            refine zz_if_eq 80 dX12_change_54 (by decide) (fun _ => ?_) (fun h => absurd h (by decide))
            refine zz_aload_0 dX12_change_80 ?_
            refine zz_ldc dX12_change_81 ct_X12_50 ?_
            refine zz_callV1i cv_X12_51 rfl (Nat.lt_of_lt_of_le (by decide) hn) (Nat.le_of_ble_eq_true rfl) (by decide) (by decide) dX12_change_83 (t_X12_errs hn hr 1 (by decide) (by decide) ⟨_, rfl, ?_⟩)
            refine zz_iret rfl dX12_change_86 (by decide) (by decide) ?_
            simp (decide := true) only [sp_change, sp_isw, sp_chok, c_1, c_16, c_30, o_36, ic_51, ms_51, ms_54, or_self, or_false, false_or, or_true, true_or, and_true, true_and, and_false, false_and, and_self, not_true_eq_false, not_false_eq_true, ↓reduceIte] at h
            exact ms_er (by decide) h
    · skip
      refine zz_iload_3 dX12_change_19 ?_
      refine zz_iconst (0) dX12_change_20 (by decide) ?_
      refine zz_iconst (5) dX12_change_21 (by decide) ?_
      refine zz_callS3i cs_X12_38 (Nat.le_of_ble_eq_true rfl) (by decide) (by decide) dX12_change_22 (t_X12_in (fun a_22 b_22 => ⟨_, rfl, ?_⟩) (fun o_22 => ⟨_, rfl, ?_⟩))
      · skip
        refine zz_goto 47 dX12_change_25 (by decide) ?_
        refine zz_istore_4 dX12_change_47 rfl rfl ?_
        refine zz_aload_0 dX12_change_49 ?_
        refine zz_iload_1 dX12_change_50 ?_
        refine zz_callV1i cv_X12_60 rfl (Nat.lt_of_lt_of_le (by decide) hn) (Nat.le_of_ble_eq_true rfl) (by decide) (by decide) dX12_change_51 (t_X12_isWay hn hr mw hmw hmw6 (fun w_51 hw_51 ew_51 => ⟨_, rfl, ?_⟩) (fun nw_51 => ⟨_, rfl, ?_⟩))
        · skip
          subst ew_51
          have ia_51 := sp_isw_a (w := w_51) (Nat.lt_of_lt_of_le hw_51 hmw6)
          have ib_51 := sp_isw_b hmw hmw6 hw_51
          refine zz_if_eq 80 dX12_change_54 (by decide) (fun h => absurd h (by decide)) (fun _ => ?_)
          refine zz_iload_4 dX12_change_57 ?_
          refine zz_if_eq 80 dX12_change_59 (by decide) (fun h => absurd h (by decide)) (fun _ => ?_)
          obtain ⟨jc, hjc, ejc⟩ : ∃ j : Nat, j < 3 ∧ what = nI j := ⟨1, by omega, c_16⟩
          have hok : sp_chok what x := by simp (decide := true) only [sp_chok, c_1, c_16, a_22, b_22, ia_51, ib_51, or_self, or_false, false_or, or_true, true_or, and_true, true_and, and_false, false_and, and_self, not_true_eq_false, not_false_eq_true, ↓reduceIte]
          refine zz_aload_0 dX12_change_62 ?_
          refine zz_bipush (16) dX12_change_63 (by decide) ?_
          refine zz_iconst (5) dX12_change_65 (by decide) ?_
          refine zz_iload_1 dX12_change_66 ?_
          refine zz_imul dX12_change_67 ?_
          refine zz_iadd dX12_change_68 ?_
          refine zz_iconst (2) dX12_change_69 (by decide) ?_
          refine zz_iadd dX12_change_70 ?_
          refine zz_iload_2 dX12_change_71 ?_
          refine zz_iadd dX12_change_72 ?_
          refine zz_iload_3 dX12_change_73 ?_
          refine zz_callV2i cv_X12_46 rfl (Nat.lt_of_lt_of_le (by decide) hn) (Nat.le_of_ble_eq_true rfl) (by decide) (by decide) dX12_change_74 (t_X12_becomes hn hr (16 + 5 * w_51 + 2 + jc) (by rw [ejc]; show nI 16 + nI 5 * nI w_51 + nI 2 + nI jc = _; rw [pk_mul, nI_add, nI_add, nI_add]) (by omega) ⟨_, rfl, ?_⟩)
          refine zz_goto 86 dX12_change_77 (by decide) ?_
          refine zz_iret rfl dX12_change_86 (by decide) (by decide) ?_
          rw [sp_change, if_pos ⟨⟨ia_51, by rw [ms_51]; exact ib_51⟩, hok⟩, ix_w (by omega), show what.toNatClampNeg = jc from by rw [ejc]; exact ix_w (by omega)] at h
          simp only [sp_set, ms_51] at h
          exact h _ (ms_F.rf.u rfl (by decide))
        · skip
          have ic_51 := sp_isw_c hmw hmw6 nw_51
          refine zz_if_eq 80 dX12_change_54 (by decide) (fun _ => ?_) (fun h => absurd h (by decide))
          refine zz_aload_0 dX12_change_80 ?_
          refine zz_ldc dX12_change_81 ct_X12_50 ?_
          refine zz_callV1i cv_X12_51 rfl (Nat.lt_of_lt_of_le (by decide) hn) (Nat.le_of_ble_eq_true rfl) (by decide) (by decide) dX12_change_83 (t_X12_errs hn hr 1 (by decide) (by decide) ⟨_, rfl, ?_⟩)
          refine zz_iret rfl dX12_change_86 (by decide) (by decide) ?_
          simp (decide := true) only [sp_change, sp_isw, sp_chok, c_1, c_16, a_22, b_22, ic_51, ms_51, ms_54, or_self, or_false, false_or, or_true, true_or, and_true, true_and, and_false, false_and, and_self, not_true_eq_false, not_false_eq_true, ↓reduceIte] at h
          exact ms_er (by decide) h
      · skip
        refine zz_goto 47 dX12_change_25 (by decide) ?_
        refine zz_istore_4 dX12_change_47 rfl rfl ?_
        refine zz_aload_0 dX12_change_49 ?_
        refine zz_iload_1 dX12_change_50 ?_
        refine zz_callV1i cv_X12_60 rfl (Nat.lt_of_lt_of_le (by decide) hn) (Nat.le_of_ble_eq_true rfl) (by decide) (by decide) dX12_change_51 (t_X12_isWay hn hr mw hmw hmw6 (fun w_51 hw_51 ew_51 => ⟨_, rfl, ?_⟩) (fun nw_51 => ⟨_, rfl, ?_⟩))
        · skip
          subst ew_51
          have ia_51 := sp_isw_a (w := w_51) (Nat.lt_of_lt_of_le hw_51 hmw6)
          have ib_51 := sp_isw_b hmw hmw6 hw_51
          refine zz_if_eq 80 dX12_change_54 (by decide) (fun h => absurd h (by decide)) (fun _ => ?_)
          refine zz_iload_4 dX12_change_57 ?_
          refine zz_if_eq 80 dX12_change_59 (by decide) (fun _ => ?_) (fun h => absurd h (by decide))
          refine zz_aload_0 dX12_change_80 ?_
          refine zz_ldc dX12_change_81 ct_X12_50 ?_
          refine zz_callV1i cv_X12_51 rfl (Nat.lt_of_lt_of_le (by decide) hn) (Nat.le_of_ble_eq_true rfl) (by decide) (by decide) dX12_change_83 (t_X12_errs hn hr 1 (by decide) (by decide) ⟨_, rfl, ?_⟩)
          refine zz_iret rfl dX12_change_86 (by decide) (by decide) ?_
          simp (decide := true) only [sp_change, sp_isw, sp_chok, c_1, c_16, o_22, ia_51, ib_51, ms_51, ms_54, or_self, or_false, false_or, or_true, true_or, and_true, true_and, and_false, false_and, and_self, not_true_eq_false, not_false_eq_true, ↓reduceIte] at h
          exact ms_er (by decide) h
        · skip
          have ic_51 := sp_isw_c hmw hmw6 nw_51
          refine zz_if_eq 80 dX12_change_54 (by decide) (fun _ => ?_) (fun h => absurd h (by decide))
          refine zz_aload_0 dX12_change_80 ?_
          refine zz_ldc dX12_change_81 ct_X12_50 ?_
          refine zz_callV1i cv_X12_51 rfl (Nat.lt_of_lt_of_le (by decide) hn) (Nat.le_of_ble_eq_true rfl) (by decide) (by decide) dX12_change_83 (t_X12_errs hn hr 1 (by decide) (by decide) ⟨_, rfl, ?_⟩)
          refine zz_iret rfl dX12_change_86 (by decide) (by decide) ?_
          simp (decide := true) only [sp_change, sp_isw, sp_chok, c_1, c_16, o_22, ic_51, ms_51, ms_54, or_self, or_false, false_or, or_true, true_or, and_true, true_and, and_false, false_and, and_self, not_true_eq_false, not_false_eq_true, ↓reduceIte] at h
          exact ms_er (by decide) h
  · skip
    refine zz_iload_3 dX12_change_4 ?_
    refine zz_iconst (0) dX12_change_5 (by decide) ?_
    refine zz_bipush (99) dX12_change_6 (by decide) ?_
    refine zz_callS3i cs_X12_38 (Nat.le_of_ble_eq_true rfl) (by decide) (by decide) dX12_change_8 (t_X12_in (fun a_8 b_8 => ⟨_, rfl, ?_⟩) (fun o_8 => ⟨_, rfl, ?_⟩))
    · skip
      refine zz_goto 47 dX12_change_11 (by decide) ?_
      refine zz_istore_4 dX12_change_47 rfl rfl ?_
      refine zz_aload_0 dX12_change_49 ?_
      refine zz_iload_1 dX12_change_50 ?_
      refine zz_callV1i cv_X12_60 rfl (Nat.lt_of_lt_of_le (by decide) hn) (Nat.le_of_ble_eq_true rfl) (by decide) (by decide) dX12_change_51 (t_X12_isWay hn hr mw hmw hmw6 (fun w_51 hw_51 ew_51 => ⟨_, rfl, ?_⟩) (fun nw_51 => ⟨_, rfl, ?_⟩))
      · skip
        subst ew_51
        have ia_51 := sp_isw_a (w := w_51) (Nat.lt_of_lt_of_le hw_51 hmw6)
        have ib_51 := sp_isw_b hmw hmw6 hw_51
        refine zz_if_eq 80 dX12_change_54 (by decide) (fun h => absurd h (by decide)) (fun _ => ?_)
        refine zz_iload_4 dX12_change_57 ?_
        refine zz_if_eq 80 dX12_change_59 (by decide) (fun h => absurd h (by decide)) (fun _ => ?_)
        obtain ⟨jc, hjc, ejc⟩ : ∃ j : Nat, j < 3 ∧ what = nI j := ⟨0, by omega, c_1⟩
        have hok : sp_chok what x := by simp (decide := true) only [sp_chok, c_1, a_8, b_8, ia_51, ib_51, or_self, or_false, false_or, or_true, true_or, and_true, true_and, and_false, false_and, and_self, not_true_eq_false, not_false_eq_true, ↓reduceIte]
        refine zz_aload_0 dX12_change_62 ?_
        refine zz_bipush (16) dX12_change_63 (by decide) ?_
        refine zz_iconst (5) dX12_change_65 (by decide) ?_
        refine zz_iload_1 dX12_change_66 ?_
        refine zz_imul dX12_change_67 ?_
        refine zz_iadd dX12_change_68 ?_
        refine zz_iconst (2) dX12_change_69 (by decide) ?_
        refine zz_iadd dX12_change_70 ?_
        refine zz_iload_2 dX12_change_71 ?_
        refine zz_iadd dX12_change_72 ?_
        refine zz_iload_3 dX12_change_73 ?_
        refine zz_callV2i cv_X12_46 rfl (Nat.lt_of_lt_of_le (by decide) hn) (Nat.le_of_ble_eq_true rfl) (by decide) (by decide) dX12_change_74 (t_X12_becomes hn hr (16 + 5 * w_51 + 2 + jc) (by rw [ejc]; show nI 16 + nI 5 * nI w_51 + nI 2 + nI jc = _; rw [pk_mul, nI_add, nI_add, nI_add]) (by omega) ⟨_, rfl, ?_⟩)
        refine zz_goto 86 dX12_change_77 (by decide) ?_
        refine zz_iret rfl dX12_change_86 (by decide) (by decide) ?_
        rw [sp_change, if_pos ⟨⟨ia_51, by rw [ms_51]; exact ib_51⟩, hok⟩, ix_w (by omega), show what.toNatClampNeg = jc from by rw [ejc]; exact ix_w (by omega)] at h
        simp only [sp_set, ms_51] at h
        exact h _ (ms_F.rf.u rfl (by decide))
      · skip
        have ic_51 := sp_isw_c hmw hmw6 nw_51
        refine zz_if_eq 80 dX12_change_54 (by decide) (fun _ => ?_) (fun h => absurd h (by decide))
        refine zz_aload_0 dX12_change_80 ?_
        refine zz_ldc dX12_change_81 ct_X12_50 ?_
        refine zz_callV1i cv_X12_51 rfl (Nat.lt_of_lt_of_le (by decide) hn) (Nat.le_of_ble_eq_true rfl) (by decide) (by decide) dX12_change_83 (t_X12_errs hn hr 1 (by decide) (by decide) ⟨_, rfl, ?_⟩)
        refine zz_iret rfl dX12_change_86 (by decide) (by decide) ?_
        simp (decide := true) only [sp_change, sp_isw, sp_chok, c_1, a_8, b_8, ic_51, ms_51, ms_54, or_self, or_false, false_or, or_true, true_or, and_true, true_and, and_false, false_and, and_self, not_true_eq_false, not_false_eq_true, ↓reduceIte] at h
        exact ms_er (by decide) h
    · skip
      refine zz_goto 47 dX12_change_11 (by decide) ?_
      refine zz_istore_4 dX12_change_47 rfl rfl ?_
      refine zz_aload_0 dX12_change_49 ?_
      refine zz_iload_1 dX12_change_50 ?_
      refine zz_callV1i cv_X12_60 rfl (Nat.lt_of_lt_of_le (by decide) hn) (Nat.le_of_ble_eq_true rfl) (by decide) (by decide) dX12_change_51 (t_X12_isWay hn hr mw hmw hmw6 (fun w_51 hw_51 ew_51 => ⟨_, rfl, ?_⟩) (fun nw_51 => ⟨_, rfl, ?_⟩))
      · skip
        subst ew_51
        have ia_51 := sp_isw_a (w := w_51) (Nat.lt_of_lt_of_le hw_51 hmw6)
        have ib_51 := sp_isw_b hmw hmw6 hw_51
        refine zz_if_eq 80 dX12_change_54 (by decide) (fun h => absurd h (by decide)) (fun _ => ?_)
        refine zz_iload_4 dX12_change_57 ?_
        refine zz_if_eq 80 dX12_change_59 (by decide) (fun _ => ?_) (fun h => absurd h (by decide))
        refine zz_aload_0 dX12_change_80 ?_
        refine zz_ldc dX12_change_81 ct_X12_50 ?_
        refine zz_callV1i cv_X12_51 rfl (Nat.lt_of_lt_of_le (by decide) hn) (Nat.le_of_ble_eq_true rfl) (by decide) (by decide) dX12_change_83 (t_X12_errs hn hr 1 (by decide) (by decide) ⟨_, rfl, ?_⟩)
        refine zz_iret rfl dX12_change_86 (by decide) (by decide) ?_
        simp (decide := true) only [sp_change, sp_isw, sp_chok, c_1, o_8, ia_51, ib_51, ms_51, ms_54, or_self, or_false, false_or, or_true, true_or, and_true, true_and, and_false, false_and, and_self, not_true_eq_false, not_false_eq_true, ↓reduceIte] at h
        exact ms_er (by decide) h
      · skip
        have ic_51 := sp_isw_c hmw hmw6 nw_51
        refine zz_if_eq 80 dX12_change_54 (by decide) (fun _ => ?_) (fun h => absurd h (by decide))
        refine zz_aload_0 dX12_change_80 ?_
        refine zz_ldc dX12_change_81 ct_X12_50 ?_
        refine zz_callV1i cv_X12_51 rfl (Nat.lt_of_lt_of_le (by decide) hn) (Nat.le_of_ble_eq_true rfl) (by decide) (by decide) dX12_change_83 (t_X12_errs hn hr 1 (by decide) (by decide) ⟨_, rfl, ?_⟩)
        refine zz_iret rfl dX12_change_86 (by decide) (by decide) ?_
        simp (decide := true) only [sp_change, sp_isw, sp_chok, c_1, o_8, ic_51, ms_51, ms_54, or_self, or_false, false_or, or_true, true_or, and_true, true_and, and_false, false_and, and_self, not_true_eq_false, not_false_eq_true, ↓reduceIte] at h
        exact ms_er (by decide) h

set_option maxRecDepth 100000 in
set_option maxHeartbeats 4000000 in
theorem t_X12_become {C : zz_C} {d n : Nat} {g : zz_G} {r : zz_R} {Q : zz_Q} (hn : 60 ≤ n) (hr : xr r) (mw : Nat) (hmw : g 51 2 = nI mw) (hmw6 : mw ≤ 6) {v km : Int32}  (h : ms_o g r n Q (sp_become (ms_S g) v km)) : zz_T C mi_X12_become (d + 2) 0 0 [.ref 50, .int v, .int km] g r n Q := by
  refine zz_T.of [some (.ref 50), some (.int v), some (.int km)] (by decide +kernel) rfl (Nat.le_of_ble_eq_true rfl) ?_
  refine zz_aload_0 dX12_become_0 ?_
  refine zz_iload_1 dX12_become_1 ?_
  refine zz_callV1i cv_X12_60 rfl (Nat.lt_of_lt_of_le (by decide) hn) (Nat.le_of_ble_eq_true rfl) (by decide) (by decide) dX12_become_2 (t_X12_isWay hn hr mw hmw hmw6 (fun w_2 hw_2 ew_2 => ⟨_, rfl, ?_⟩) (fun nw_2 => ⟨_, rfl, ?_⟩))
  · skip
    subst ew_2
    have ia_2 := sp_isw_a (w := w_2) (Nat.lt_of_lt_of_le hw_2 hmw6)
    have ib_2 := sp_isw_b hmw hmw6 hw_2
    refine zz_if_eq 18 dX12_become_5 (by decide) (fun h => absurd h (by decide)) (fun _ => ?_)
    refine zz_iload_2 dX12_become_8 ?_
    refine zz_iconst (0) dX12_become_9 (by decide) ?_
    refine zz_bipush (69) dX12_become_10 (by decide) ?_
    refine zz_callS3i cs_X12_38 (Nat.le_of_ble_eq_true rfl) (by decide) (by decide) dX12_become_12 (t_X12_in (fun a_12 b_12 => ⟨_, rfl, ?_⟩) (fun o_12 => ⟨_, rfl, ?_⟩))
    · skip
      refine zz_if_ne 25 dX12_become_15 (by decide) (fun _ => ?_) (fun h => absurd h (by decide))
      refine zz_aload_0 dX12_become_25 ?_
      refine zz_iload_1 dX12_become_26 ?_
      refine zz_iconst (1) dX12_become_27 (by decide) ?_
      refine zz_iload_2 dX12_become_28 ?_
      refine zz_bipush (10) dX12_become_29 (by decide) ?_
      refine zz_irem dX12_become_31 (by decide) ?_
      refine zz_callV3v cv_X12_56 rfl (Nat.lt_of_lt_of_le (by decide) hn) (Nat.le_of_ble_eq_true rfl) (by decide) (by decide) dX12_become_32 (t_X12_gets hn hr w_2 1 rfl rfl (by omega) ⟨rfl, ?_⟩)
      refine zz_aload_0 dX12_become_35 ?_
      refine zz_bipush (16) dX12_become_36 (by decide) ?_
      refine zz_iconst (5) dX12_become_38 (by decide) ?_
      refine zz_iload_1 dX12_become_39 ?_
      refine zz_imul dX12_become_40 ?_
      refine zz_iadd dX12_become_41 ?_
      refine zz_iload_2 dX12_become_42 ?_
      refine zz_bipush (10) dX12_become_43 (by decide) ?_
      refine zz_idiv dX12_become_45 (by decide) ?_
      refine zz_callV2i cv_X12_46 rfl (Nat.lt_of_lt_of_le (by decide) hn) (Nat.le_of_ble_eq_true rfl) (by decide) (by decide) dX12_become_46 (t_X12_becomes hn hr (16 + 5 * w_2) (by show nI 16 + nI 5 * nI w_2 = _; rw [pk_mul, nI_add]) (by omega) ⟨_, rfl, ?_⟩)
      refine zz_iret rfl dX12_become_49 (by decide) (by decide) ?_
      simp only [sp_become, sp_isw, ia_2, ib_2, a_12, b_12, ms_51, ms_54, ms_55, ms_56, ms_57, ms_59, or_self, or_false, false_or, or_true, true_or, and_true, true_and, and_false, false_and, and_self, not_true_eq_false, not_false_eq_true, ↓reduceIte] at h
      rw [ix_w (by omega)] at h
      try simp (disch := omega) only [zz_u_ne2, zz_u_ne1, zz_u_same, ix_w] at h ⊢
      exact h _ ((ms_F.rf.u rfl (by decide)).u rfl (by decide))
    · skip
      refine zz_if_ne 25 dX12_become_15 (by decide) (fun h => absurd h (by decide)) (fun _ => ?_)
      refine zz_aload_0 dX12_become_18 ?_
      refine zz_ldc dX12_become_19 ct_X12_50 ?_
      refine zz_callV1i cv_X12_51 rfl (Nat.lt_of_lt_of_le (by decide) hn) (Nat.le_of_ble_eq_true rfl) (by decide) (by decide) dX12_become_21 (t_X12_errs hn hr 1 (by decide) (by decide) ⟨_, rfl, ?_⟩)
      refine zz_iret rfl dX12_become_24 (by decide) (by decide) ?_
      simp only [sp_become, sp_isw, ia_2, ib_2, o_12, ms_51, ms_54, ms_55, ms_56, ms_57, ms_59, or_self, or_false, false_or, or_true, true_or, and_true, true_and, and_false, false_and, and_self, not_true_eq_false, not_false_eq_true, ↓reduceIte] at h
      exact ms_er (by decide) h
  · skip
    have ic_2 := sp_isw_c hmw hmw6 nw_2
    refine zz_if_eq 18 dX12_become_5 (by decide) (fun _ => ?_) (fun h => absurd h (by decide))
    refine zz_aload_0 dX12_become_18 ?_
    refine zz_ldc dX12_become_19 ct_X12_50 ?_
    refine zz_callV1i cv_X12_51 rfl (Nat.lt_of_lt_of_le (by decide) hn) (Nat.le_of_ble_eq_true rfl) (by decide) (by decide) dX12_become_21 (t_X12_errs hn hr 1 (by decide) (by decide) ⟨_, rfl, ?_⟩)
    refine zz_iret rfl dX12_become_24 (by decide) (by decide) ?_
    simp only [sp_become, sp_isw, ic_2, ms_51, ms_54, ms_55, ms_56, ms_57, ms_59, or_self, or_false, false_or, or_true, true_or, and_true, true_and, and_false, false_and, and_self, not_true_eq_false, not_false_eq_true, ↓reduceIte] at h
    exact ms_er (by decide) h

set_option maxRecDepth 100000 in
set_option maxHeartbeats 4000000 in
theorem t_X12_seed {C : zz_C} {d n : Nat} {g : zz_G} {r : zz_R} {Q : zz_Q} (hn : 60 ≤ n) (hr : xr r) {v : Int32}  (h : ms_o g r n Q (sp_seed (ms_S g) v)) : zz_T C mi_X12_seed d 0 0 [.ref 50, .int v] g r n Q := by
  refine zz_T.of [some (.ref 50), some (.int v), none] (by decide +kernel) rfl (Nat.le_of_ble_eq_true rfl) ?_
  refine zz_aload_0 dX12_seed_0 ?_
  refine zz_getR fl_X12_7 rfl rfl (Nat.lt_of_lt_of_le (by decide) hn) (xr_50_0 hr) dX12_seed_1 ?_
  refine zz_iconst (1) dX12_seed_4 (by decide) ?_
  refine zz_iald 1 (by decide) (by decide) (by decide) rfl (Nat.lt_of_lt_of_le (by decide) hn) dX12_seed_5 ?_
  refine zz_istore_2 dX12_seed_6 rfl rfl ?_
  refine zz_aload_0 dX12_seed_7 ?_
  refine zz_getR fl_X12_7 rfl rfl (Nat.lt_of_lt_of_le (by decide) hn) (xr_50_0 hr) dX12_seed_8 ?_
  refine zz_iconst (1) dX12_seed_11 (by decide) ?_
  refine zz_iload_1 dX12_seed_12 ?_
  refine zz_iast 1 (by decide) (by decide) (by decide) rfl (Nat.lt_of_lt_of_le (by decide) hn) dX12_seed_13 ?_
  refine zz_iload_2 dX12_seed_14 ?_
  refine zz_iret rfl dX12_seed_15 (by decide) (by decide) ?_
  simp only [sp_seed, ms_51, ms_54, ms_55, ms_56, ms_57, ms_59, or_self, or_false, false_or, or_true, true_or, and_true, true_and, and_false, false_and, and_self, not_true_eq_false, not_false_eq_true, ↓reduceIte] at h
  exact h _ (ms_F.rf.u rfl (by decide))

set_option maxRecDepth 100000 in
set_option maxHeartbeats 4000000 in
theorem t_X12_pass {C : zz_C} {d n : Nat} {g : zz_G} {r : zz_R} {Q : zz_Q} (hn : 60 ≤ n) (hr : xr r) {v : Int32}  (h : ms_o g r n Q (sp_pass (ms_S g) v)) : zz_T C mi_X12_pass (d + 1) 0 0 [.ref 50, .int v] g r n Q := by
  refine zz_T.of [some (.ref 50), some (.int v)] (by decide +kernel) rfl (Nat.le_of_ble_eq_true rfl) ?_
  refine zz_iload_1 dX12_pass_0 ?_
  refine zz_iconst (1) dX12_pass_1 (by decide) ?_
  refine zz_sipush (9999) dX12_pass_2 (by decide) ?_
  refine zz_callS3i cs_X12_38 (Nat.le_of_ble_eq_true rfl) (by decide) (by decide) dX12_pass_5 (t_X12_in (fun a_5 b_5 => ⟨_, rfl, ?_⟩) (fun o_5 => ⟨_, rfl, ?_⟩))
  · skip
    refine zz_if_ne 18 dX12_pass_8 (by decide) (fun _ => ?_) (fun h => absurd h (by decide))
    refine zz_aload_0 dX12_pass_18 ?_
    refine zz_getR fl_X12_7 rfl rfl (Nat.lt_of_lt_of_le (by decide) hn) (xr_50_0 hr) dX12_pass_19 ?_
    refine zz_iconst (0) dX12_pass_22 (by decide) ?_
    refine zz_iald 0 (by decide) (by decide) (by decide) rfl (Nat.lt_of_lt_of_le (by decide) hn) dX12_pass_23 ?_
    refine zz_iload_1 dX12_pass_24 ?_
    refine zz_iadd dX12_pass_25 ?_
    refine zz_ldc dX12_pass_26 ct_X12_174 ?_
    refine zz_icmp_le 38 dX12_pass_28 (by decide) (fun c_28 => ?_) (fun c_28 => ?_)
    · skip
      refine zz_aload_0 dX12_pass_38 ?_
      refine zz_getR fl_X12_7 rfl rfl (Nat.lt_of_lt_of_le (by decide) hn) (xr_50_0 hr) dX12_pass_39 ?_
      refine zz_iconst (0) dX12_pass_42 (by decide) ?_
      refine zz_dup2 dX12_pass_43 rfl rfl ?_
      refine zz_iald 0 (by decide) (by decide) (by decide) rfl (Nat.lt_of_lt_of_le (by decide) hn) dX12_pass_44 ?_
      refine zz_iload_1 dX12_pass_45 ?_
      refine zz_iadd dX12_pass_46 ?_
      refine zz_iast 0 (by decide) (by decide) (by decide) rfl (Nat.lt_of_lt_of_le (by decide) hn) dX12_pass_47 ?_
      refine zz_aload_0 dX12_pass_48 ?_
      refine zz_getR fl_X12_7 rfl rfl (Nat.lt_of_lt_of_le (by decide) hn) (xr_50_0 hr) dX12_pass_49 ?_
      refine zz_iconst (0) dX12_pass_52 (by decide) ?_
      refine zz_iald 0 (by decide) (by decide) (by decide) rfl (Nat.lt_of_lt_of_le (by decide) hn) dX12_pass_53 ?_
      refine zz_iret rfl dX12_pass_54 (by decide) (by decide) ?_
      simp only [sp_pass, a_5, b_5, c_28, ms_51, ms_54, ms_55, ms_56, ms_57, ms_59, or_self, or_false, false_or, or_true, true_or, and_true, true_and, and_false, false_and, and_self, not_true_eq_false, not_false_eq_true, ↓reduceIte] at h
      try simp (disch := omega) only [zz_u_ne2, zz_u_ne1, zz_u_same, ix_w] at h ⊢
      exact h _ (ms_F.rf.u rfl (by decide))
    · skip
      refine zz_aload_0 dX12_pass_31 ?_
      refine zz_ldc dX12_pass_32 ct_X12_161 ?_
      refine zz_callV1i cv_X12_51 rfl (Nat.lt_of_lt_of_le (by decide) hn) (Nat.le_of_ble_eq_true rfl) (by decide) (by decide) dX12_pass_34 (t_X12_errs hn hr 3 (by decide) (by decide) ⟨_, rfl, ?_⟩)
      refine zz_iret rfl dX12_pass_37 (by decide) (by decide) ?_
      simp only [sp_pass, a_5, b_5, c_28, ms_51, ms_54, ms_55, ms_56, ms_57, ms_59, or_self, or_false, false_or, or_true, true_or, and_true, true_and, and_false, false_and, and_self, not_true_eq_false, not_false_eq_true, ↓reduceIte] at h
      exact ms_er (by decide) h
  · skip
    refine zz_if_ne 18 dX12_pass_8 (by decide) (fun h => absurd h (by decide)) (fun _ => ?_)
    refine zz_aload_0 dX12_pass_11 ?_
    refine zz_ldc dX12_pass_12 ct_X12_50 ?_
    refine zz_callV1i cv_X12_51 rfl (Nat.lt_of_lt_of_le (by decide) hn) (Nat.le_of_ble_eq_true rfl) (by decide) (by decide) dX12_pass_14 (t_X12_errs hn hr 1 (by decide) (by decide) ⟨_, rfl, ?_⟩)
    refine zz_iret rfl dX12_pass_17 (by decide) (by decide) ?_
    simp only [sp_pass, o_5, ms_51, ms_54, ms_55, ms_56, ms_57, ms_59, or_self, or_false, false_or, or_true, true_or, and_true, true_and, and_false, false_and, and_self, not_true_eq_false, not_false_eq_true, ↓reduceIte] at h
    exact ms_er (by decide) h

set_option maxRecDepth 100000 in
set_option maxHeartbeats 4000000 in
theorem t_X12_told {C : zz_C} {d n : Nat} {g : zz_G} {r : zz_R} {Q : zz_Q} (hn : 60 ≤ n) (hr : xr r) {v : Int32}  (h : ms_o g r n Q (sp_told (ms_S g) v)) : zz_T C mi_X12_told (d + 1) 0 0 [.ref 50, .int v] g r n Q := by
  refine zz_T.of [some (.ref 50), some (.int v)] (by decide +kernel) rfl (Nat.le_of_ble_eq_true rfl) ?_
  refine zz_iload_1 dX12_told_0 ?_
  refine zz_iconst (1) dX12_told_1 (by decide) ?_
  refine zz_iconst (5) dX12_told_2 (by decide) ?_
  refine zz_callS3i cs_X12_38 (Nat.le_of_ble_eq_true rfl) (by decide) (by decide) dX12_told_3 (t_X12_in (fun a_3 b_3 => ⟨_, rfl, ?_⟩) (fun o_3 => ⟨_, rfl, ?_⟩))
  · skip
    refine zz_if_eq 18 dX12_told_6 (by decide) (fun h => absurd h (by decide)) (fun _ => ?_)
    refine zz_aload_0 dX12_told_9 ?_
    refine zz_getR fl_X12_19 rfl rfl (Nat.lt_of_lt_of_le (by decide) hn) (xr_50_5 hr) dX12_told_10 ?_
    refine zz_iload_1 dX12_told_13 ?_
    obtain ⟨w1, hw0, hw1, ew1⟩ := zz_in0 (lo := 1) (hi := 5) rfl rfl (by decide) (by decide) a_3 b_3
    refine zz_iaN w1 ew1 (by omega) (by decide) rfl (Nat.lt_of_lt_of_le (by decide) hn) dX12_told_14 ?_
    refine zz_goto 24 dX12_told_15 (by decide) ?_
    refine zz_iret rfl dX12_told_24 (by decide) (by decide) ?_
    simp only [sp_told, a_3, b_3, ms_51, ms_54, ms_55, ms_56, ms_57, ms_59, or_self, or_false, false_or, or_true, true_or, and_true, true_and, and_false, false_and, and_self, not_true_eq_false, not_false_eq_true, ↓reduceIte] at h
    simp only [ew1] at h
    rw [ix_w (by omega)] at h
    exact h _ ms_F.rf
  · skip
    refine zz_if_eq 18 dX12_told_6 (by decide) (fun _ => ?_) (fun h => absurd h (by decide))
    refine zz_aload_0 dX12_told_18 ?_
    refine zz_ldc dX12_told_19 ct_X12_50 ?_
    refine zz_callV1i cv_X12_51 rfl (Nat.lt_of_lt_of_le (by decide) hn) (Nat.le_of_ble_eq_true rfl) (by decide) (by decide) dX12_told_21 (t_X12_errs hn hr 1 (by decide) (by decide) ⟨_, rfl, ?_⟩)
    refine zz_iret rfl dX12_told_24 (by decide) (by decide) ?_
    simp only [sp_told, o_3, ms_51, ms_54, ms_55, ms_56, ms_57, ms_59, or_self, or_false, false_or, or_true, true_or, and_true, true_and, and_false, false_and, and_self, not_true_eq_false, not_false_eq_true, ↓reduceIte] at h
    exact ms_er (by decide) h

set_option maxRecDepth 100000 in
set_option maxHeartbeats 4000000 in
theorem t_X12_tell {C : zz_C} {d n : Nat} {g : zz_G} {r : zz_R} {Q : zz_Q} (hn : 60 ≤ n) (hr : xr r) {v : Int32} (tw : Nat) (htw : g 51 4 = nI tw) (htw6 : tw ≤ 20) (h : ms_o g r n Q (sp_tell (ms_S g) v)) : zz_T C mi_X12_tell (d + 1) 0 0 [.ref 50, .int v] g r n Q := by
  refine zz_T.of [some (.ref 50), some (.int v)] (by decide +kernel) rfl (Nat.le_of_ble_eq_true rfl) ?_
  refine zz_aload_0 dX12_tell_0 ?_
  refine zz_getR fl_X12_7 rfl rfl (Nat.lt_of_lt_of_le (by decide) hn) (xr_50_0 hr) dX12_tell_1 ?_
  refine zz_iconst (4) dX12_tell_4 (by decide) ?_
  refine zz_iald 4 (by decide) (by decide) (by decide) rfl (Nat.lt_of_lt_of_le (by decide) hn) dX12_tell_5 ?_
  refine zz_bipush (20) dX12_tell_6 (by decide) ?_
  refine zz_icmp_ne 18 dX12_tell_8 (by decide) (fun c_8 => ?_) (fun c_8 => ?_)
  · skip
    refine zz_aload_0 dX12_tell_18 ?_
    refine zz_getR fl_X12_7 rfl rfl (Nat.lt_of_lt_of_le (by decide) hn) (xr_50_0 hr) dX12_tell_19 ?_
    refine zz_sipush (156) dX12_tell_22 (by decide) ?_
    refine zz_aload_0 dX12_tell_25 ?_
    refine zz_getR fl_X12_7 rfl rfl (Nat.lt_of_lt_of_le (by decide) hn) (xr_50_0 hr) dX12_tell_26 ?_
    refine zz_iconst (4) dX12_tell_29 (by decide) ?_
    refine zz_iald 4 (by decide) (by decide) (by decide) rfl (Nat.lt_of_lt_of_le (by decide) hn) dX12_tell_30 ?_
    refine zz_iadd dX12_tell_31 ?_
    refine zz_iload_1 dX12_tell_32 ?_
    refine zz_isN (156 + tw) (by rw [htw]; exact nI_add 156 tw) (by have := zz_ltm htw htw6 c_8; omega) (by decide) rfl (Nat.lt_of_lt_of_le (by decide) hn) dX12_tell_33 ?_
    refine zz_aload_0 dX12_tell_34 ?_
    refine zz_getR fl_X12_7 rfl rfl (Nat.lt_of_lt_of_le (by decide) hn) (xr_50_0 hr) dX12_tell_35 ?_
    refine zz_iconst (4) dX12_tell_38 (by decide) ?_
    refine zz_dup2 dX12_tell_39 rfl rfl ?_
    refine zz_iald 4 (by decide) (by decide) (by decide) rfl (Nat.lt_of_lt_of_le (by decide) hn) dX12_tell_40 ?_
    refine zz_iconst (1) dX12_tell_41 (by decide) ?_
    refine zz_iadd dX12_tell_42 ?_
    refine zz_iast 4 (by decide) (by decide) (by decide) rfl (Nat.lt_of_lt_of_le (by decide) hn) dX12_tell_43 ?_
    refine zz_aload_0 dX12_tell_44 ?_
    refine zz_getR fl_X12_7 rfl rfl (Nat.lt_of_lt_of_le (by decide) hn) (xr_50_0 hr) dX12_tell_45 ?_
    refine zz_iconst (4) dX12_tell_48 (by decide) ?_
    refine zz_iald 4 (by decide) (by decide) (by decide) rfl (Nat.lt_of_lt_of_le (by decide) hn) dX12_tell_49 ?_
    refine zz_iret rfl dX12_tell_50 (by decide) (by decide) ?_
    simp only [sp_tell, c_8, ms_51, ms_54, ms_55, ms_56, ms_57, ms_59, or_self, or_false, false_or, or_true, true_or, and_true, true_and, and_false, false_and, and_self, not_true_eq_false, not_false_eq_true, ↓reduceIte] at h
    simp only [htw] at h
    try simp (disch := omega) only [zz_u_ne2, zz_u_ne1, zz_u_same, ix_w] at h ⊢
    simp only [htw] at h ⊢
    exact h _ ((ms_F.rf.u rfl (by decide)).u rfl (by decide))
  · skip
    refine zz_aload_0 dX12_tell_11 ?_
    refine zz_ldc dX12_tell_12 ct_X12_55 ?_
    refine zz_callV1i cv_X12_51 rfl (Nat.lt_of_lt_of_le (by decide) hn) (Nat.le_of_ble_eq_true rfl) (by decide) (by decide) dX12_tell_14 (t_X12_errs hn hr 4 (by decide) (by decide) ⟨_, rfl, ?_⟩)
    refine zz_iret rfl dX12_tell_17 (by decide) (by decide) ?_
    simp only [sp_tell, c_8, ms_51, ms_54, ms_55, ms_56, ms_57, ms_59, or_self, or_false, false_or, or_true, true_or, and_true, true_and, and_false, false_and, and_self, not_true_eq_false, not_false_eq_true, ↓reduceIte] at h
    exact ms_er (by decide) h

set_option maxRecDepth 100000 in
set_option maxHeartbeats 4000000 in
theorem t_X12_trace {C : zz_C} {d n : Nat} {g : zz_G} {r : zz_R} {Q : zz_Q} (hn : 60 ≤ n) (hr : xr r) {v : Int32} (tw : Nat) (htw : g 50 19 = nI tw) (htw6 : tw ≤ 40) (h : ms_o g r n Q (sp_trace (ms_S g) v)) : zz_T C mi_X12_trace (d + 1) 0 0 [.ref 50, .int v] g r n Q := by
  refine zz_T.of [some (.ref 50), some (.int v)] (by decide +kernel) rfl (Nat.le_of_ble_eq_true rfl) ?_
  refine zz_iload_1 dX12_trace_0 ?_
  refine zz_iconst (0) dX12_trace_1 (by decide) ?_
  refine zz_aload_0 dX12_trace_2 ?_
  refine zz_getI fl_X12_197 rfl rfl (Nat.lt_of_lt_of_le (by decide) hn) dX12_trace_3 ?_
  refine zz_iconst (1) dX12_trace_6 (by decide) ?_
  refine zz_isub dX12_trace_7 ?_
  refine zz_callS3i cs_X12_38 (Nat.le_of_ble_eq_true rfl) (by decide) (by decide) dX12_trace_8 (t_X12_in (fun a_8 b_8 => ⟨_, rfl, ?_⟩) (fun o_8 => ⟨_, rfl, ?_⟩))
  · skip
    refine zz_if_eq 23 dX12_trace_11 (by decide) (fun h => absurd h (by decide)) (fun _ => ?_)
    refine zz_aload_0 dX12_trace_14 ?_
    refine zz_getR fl_X12_34 rfl rfl (Nat.lt_of_lt_of_le (by decide) hn) (xr_50_18 hr) dX12_trace_15 ?_
    refine zz_iload_1 dX12_trace_18 ?_
    obtain ⟨w1, hw1, ew1⟩ := zz_in1 htw (by omega) a_8 b_8
    refine zz_iaN w1 ew1 (by omega) (by decide) rfl (Nat.lt_of_lt_of_le (by decide) hn) dX12_trace_19 ?_
    refine zz_goto 29 dX12_trace_20 (by decide) ?_
    refine zz_iret rfl dX12_trace_29 (by decide) (by decide) ?_
    rw [sp_trace, if_pos (by rw [ms_50_19, ew1, htw]; exact ⟨nI_pos (by omega), nI_lt hw1 (by omega)⟩), ew1, ix_w (by omega), ms_59] at h
    exact h _ ms_F.rf
  · skip
    refine zz_if_eq 23 dX12_trace_11 (by decide) (fun _ => ?_) (fun h => absurd h (by decide))
    refine zz_aload_0 dX12_trace_23 ?_
    refine zz_ldc dX12_trace_24 ct_X12_184 ?_
    refine zz_callV1i cv_X12_51 rfl (Nat.lt_of_lt_of_le (by decide) hn) (Nat.le_of_ble_eq_true rfl) (by decide) (by decide) dX12_trace_26 (t_X12_errs hn hr 2 (by decide) (by decide) ⟨_, rfl, ?_⟩)
    refine zz_iret rfl dX12_trace_29 (by decide) (by decide) ?_
    rw [sp_trace, if_neg (by rw [ms_50_19]; exact zz_out1 htw (by omega) o_8)] at h
    exact ms_er (by decide) h

set_option maxRecDepth 100000 in
set_option maxHeartbeats 4000000 in
theorem t_X12_put {C : zz_C} {d n : Nat} {g : zz_G} {r : zz_R} {Q : zz_Q} (hn : 60 ≤ n) (hr : xr r) {v i x : Int32} (hz : ∀ s : Nat, s < 4 → ∃ z : Nat, z ≤ 40 ∧ g 56 s = nI z) (h : ms_o g r n Q (sp_put (ms_S g) v i x)) : zz_T C mi_X12_put (d + 2) 0 0 [.ref 50, .int v, .int i, .int x] g r n Q := by
  refine zz_T.of [some (.ref 50), some (.int v), some (.int i), some (.int x)] (by decide +kernel) rfl (Nat.le_of_ble_eq_true rfl) ?_
  refine zz_iload_1 dX12_put_0 ?_
  refine zz_callS1i cs_X12_191 (Nat.le_of_ble_eq_true rfl) (by decide) (by decide) dX12_put_1 (t_X12_isSheet (fun a_1 b_1 => ⟨_, rfl, ?_⟩) (fun o_1 => ⟨_, rfl, ?_⟩))
  · skip
    refine zz_if_ne 14 dX12_put_4 (by decide) (fun _ => ?_) (fun h => absurd h (by decide))
    refine zz_aload_0 dX12_put_14 ?_
    refine zz_getR fl_X12_22 rfl rfl (Nat.lt_of_lt_of_le (by decide) hn) (xr_50_14 hr) dX12_put_15 ?_
    refine zz_iload_1 dX12_put_18 ?_
    obtain ⟨w1, hw0, hw1, ew1⟩ := zz_in0 (lo := 0) (hi := 3) rfl rfl (by decide) (by decide) a_1 b_1
    obtain ⟨z1, hz1, ez1⟩ := hz w1 (by omega)
    refine zz_iaN w1 ew1 (by omega) (by decide) rfl (Nat.lt_of_lt_of_le (by decide) hn) dX12_put_19 ?_
    refine zz_if_ne 30 dX12_put_20 (by decide) (fun c_20 => ?_) (fun c_20 => ?_)
    · skip
      refine zz_iload_2 dX12_put_30 ?_
      refine zz_iconst (0) dX12_put_31 (by decide) ?_
      refine zz_aload_0 dX12_put_32 ?_
      refine zz_getR fl_X12_25 rfl rfl (Nat.lt_of_lt_of_le (by decide) hn) (xr_50_15 hr) dX12_put_33 ?_
      refine zz_iload_1 dX12_put_36 ?_
      refine zz_iaN w1 ew1 (by omega) (by decide) rfl (Nat.lt_of_lt_of_le (by decide) hn) dX12_put_37 ?_
      refine zz_iconst (1) dX12_put_38 (by decide) ?_
      refine zz_isub dX12_put_39 ?_
      refine zz_callS3i cs_X12_38 (Nat.le_of_ble_eq_true rfl) (by decide) (by decide) dX12_put_40 (t_X12_in (fun a_40 b_40 => ⟨_, rfl, ?_⟩) (fun o_40 => ⟨_, rfl, ?_⟩))
      · skip
        refine zz_if_ne 53 dX12_put_43 (by decide) (fun _ => ?_) (fun h => absurd h (by decide))
        refine zz_aload_0 dX12_put_53 ?_
        refine zz_getR fl_X12_28 rfl rfl (Nat.lt_of_lt_of_le (by decide) hn) (xr_50_16 hr) dX12_put_54 ?_
        refine zz_bipush (40) dX12_put_57 (by decide) ?_
        refine zz_iload_1 dX12_put_59 ?_
        refine zz_imul dX12_put_60 ?_
        refine zz_iload_2 dX12_put_61 ?_
        refine zz_iadd dX12_put_62 ?_
        refine zz_aload_0 dX12_put_63 ?_
        refine zz_getR fl_X12_22 rfl rfl (Nat.lt_of_lt_of_le (by decide) hn) (xr_50_14 hr) dX12_put_64 ?_
        refine zz_iload_1 dX12_put_67 ?_
        refine zz_iaN w1 ew1 (by omega) (by decide) rfl (Nat.lt_of_lt_of_le (by decide) hn) dX12_put_68 ?_
        refine zz_iload_3 dX12_put_69 ?_
        refine zz_callS2i cs_X12_225 (Nat.le_of_ble_eq_true rfl) (by decide) (by decide) dX12_put_70 (t_X12_narrow ⟨_, rfl, ?_⟩)
        obtain ⟨w2, hw2, ew2⟩ := zz_in1 ez1 (by omega) a_40 b_40
        refine zz_isN (40 * w1 + w2) (by rw [ew1, ew2]; show nI 40 * nI w1 + nI w2 = _; rw [pk_mul, nI_add]) (by omega) (by decide) rfl (Nat.lt_of_lt_of_le (by decide) hn) dX12_put_73 ?_
        refine zz_iconst (1) dX12_put_74 (by decide) ?_
        refine zz_iret rfl dX12_put_75 (by decide) (by decide) ?_
        rw [sp_put, if_neg (fun q => q.elim a_1 b_1), ew1, ix_w (by omega), ms_55, ms_56, if_neg c_20, if_pos (by rw [ew2, ez1]; exact ⟨nI_pos (by omega), nI_lt hw2 (by omega)⟩), ew2, ix_w (by omega)] at h
        exact h _ (ms_F.rf.u rfl (by decide))
      · skip
        refine zz_if_ne 53 dX12_put_43 (by decide) (fun h => absurd h (by decide)) (fun _ => ?_)
        refine zz_aload_0 dX12_put_46 ?_
        refine zz_ldc dX12_put_47 ct_X12_50 ?_
        refine zz_callV1i cv_X12_51 rfl (Nat.lt_of_lt_of_le (by decide) hn) (Nat.le_of_ble_eq_true rfl) (by decide) (by decide) dX12_put_49 (t_X12_errs hn hr 1 (by decide) (by decide) ⟨_, rfl, ?_⟩)
        refine zz_iret rfl dX12_put_52 (by decide) (by decide) ?_
        rw [sp_put, if_neg (fun q => q.elim a_1 b_1), ew1, ix_w (by omega), ms_55, ms_56, if_neg c_20, if_neg (zz_out1 ez1 (by omega) o_40)] at h
        exact ms_er (by decide) h
    · skip
      refine zz_aload_0 dX12_put_23 ?_
      refine zz_ldc dX12_put_24 ct_X12_184 ?_
      refine zz_callV1i cv_X12_51 rfl (Nat.lt_of_lt_of_le (by decide) hn) (Nat.le_of_ble_eq_true rfl) (by decide) (by decide) dX12_put_26 (t_X12_errs hn hr 2 (by decide) (by decide) ⟨_, rfl, ?_⟩)
      refine zz_iret rfl dX12_put_29 (by decide) (by decide) ?_
      rw [sp_put, if_neg (fun q => q.elim a_1 b_1), ew1, ix_w (by omega), ms_55, ms_56, if_pos c_20] at h
      exact ms_er (by decide) h
  · skip
    refine zz_if_ne 14 dX12_put_4 (by decide) (fun h => absurd h (by decide)) (fun _ => ?_)
    refine zz_aload_0 dX12_put_7 ?_
    refine zz_ldc dX12_put_8 ct_X12_50 ?_
    refine zz_callV1i cv_X12_51 rfl (Nat.lt_of_lt_of_le (by decide) hn) (Nat.le_of_ble_eq_true rfl) (by decide) (by decide) dX12_put_10 (t_X12_errs hn hr 1 (by decide) (by decide) ⟨_, rfl, ?_⟩)
    refine zz_iret rfl dX12_put_13 (by decide) (by decide) ?_
    rw [sp_put, if_pos o_1] at h
    exact ms_er (by decide) h

set_option maxRecDepth 100000 in
set_option maxHeartbeats 4000000 in
theorem t_X12_count {C : zz_C} {d n : Nat} {g : zz_G} {r : zz_R} {Q : zz_Q} (hn : 60 ≤ n) (hr : xr r) {v : Int32} (tw : Nat) (htw : g 50 19 = nI tw) (h : ms_o g r n Q (sp_count (ms_S g) v)) : zz_T C mi_X12_count (d + 1) 0 0 [.ref 50, .int v] g r n Q := by
  refine zz_T.of [some (.ref 50), some (.int v)] (by decide +kernel) rfl (Nat.le_of_ble_eq_true rfl) ?_
  refine zz_iload_1 dX12_count_0 ?_
  refine zz_tsw15 (0) (1) (2) (3) (4) (5) (6) (7) (8) (9) (10) (11) (12) (13) (14) 76 83 91 98 106 114 122 122 122 122 122 135 142 149 154 161 dX12_count_1 (by decide) (fun e_1 => ?_) (fun e_1 => ?_) (fun e_1 => ?_) (fun e_1 => ?_) (fun e_1 => ?_) (fun e_1 => ?_) (fun e_1 => ?_) (fun e_1 => ?_) (fun e_1 => ?_) (fun e_1 => ?_) (fun e_1 => ?_) (fun e_1 => ?_) (fun e_1 => ?_) (fun e_1 => ?_) (fun e_1 => ?_) (fun e0_1 e1_1 e2_1 e3_1 e4_1 e5_1 e6_1 e7_1 e8_1 e9_1 e10_1 e11_1 e12_1 e13_1 e14_1 => ?_)
  · skip
    refine zz_aload_0 dX12_count_76 ?_
    refine zz_getR fl_X12_7 rfl rfl (Nat.lt_of_lt_of_le (by decide) hn) (xr_50_0 hr) dX12_count_77 ?_
    refine zz_iconst (2) dX12_count_80 (by decide) ?_
    refine zz_iald 2 (by decide) (by decide) (by decide) rfl (Nat.lt_of_lt_of_le (by decide) hn) dX12_count_81 ?_
    refine zz_iret rfl dX12_count_82 (by decide) (by decide) ?_
    rw [e_1] at h
    simp (decide := true) only [sp_count, ms_51, ms_50_19, ↓reduceIte] at h
    exact h _ ms_F.rf
  · skip
    refine zz_aload_0 dX12_count_83 ?_
    refine zz_getR fl_X12_7 rfl rfl (Nat.lt_of_lt_of_le (by decide) hn) (xr_50_0 hr) dX12_count_84 ?_
    refine zz_bipush (7) dX12_count_87 (by decide) ?_
    refine zz_iald 7 (by decide) (by decide) (by decide) rfl (Nat.lt_of_lt_of_le (by decide) hn) dX12_count_89 ?_
    refine zz_iret rfl dX12_count_90 (by decide) (by decide) ?_
    rw [e_1] at h
    simp (decide := true) only [sp_count, ms_51, ms_50_19, ↓reduceIte] at h
    exact h _ ms_F.rf
  · skip
    refine zz_aload_0 dX12_count_91 ?_
    refine zz_getR fl_X12_7 rfl rfl (Nat.lt_of_lt_of_le (by decide) hn) (xr_50_0 hr) dX12_count_92 ?_
    refine zz_iconst (0) dX12_count_95 (by decide) ?_
    refine zz_iald 0 (by decide) (by decide) (by decide) rfl (Nat.lt_of_lt_of_le (by decide) hn) dX12_count_96 ?_
    refine zz_iret rfl dX12_count_97 (by decide) (by decide) ?_
    rw [e_1] at h
    simp (decide := true) only [sp_count, ms_51, ms_50_19, ↓reduceIte] at h
    exact h _ ms_F.rf
  · skip
    refine zz_aload_0 dX12_count_98 ?_
    refine zz_getR fl_X12_7 rfl rfl (Nat.lt_of_lt_of_le (by decide) hn) (xr_50_0 hr) dX12_count_99 ?_
    refine zz_bipush (13) dX12_count_102 (by decide) ?_
    refine zz_iald 13 (by decide) (by decide) (by decide) rfl (Nat.lt_of_lt_of_le (by decide) hn) dX12_count_104 ?_
    refine zz_iret rfl dX12_count_105 (by decide) (by decide) ?_
    rw [e_1] at h
    simp (decide := true) only [sp_count, ms_51, ms_50_19, ↓reduceIte] at h
    exact h _ ms_F.rf
  · skip
    refine zz_aload_0 dX12_count_106 ?_
    refine zz_getR fl_X12_7 rfl rfl (Nat.lt_of_lt_of_le (by decide) hn) (xr_50_0 hr) dX12_count_107 ?_
    refine zz_bipush (14) dX12_count_110 (by decide) ?_
    refine zz_iald 14 (by decide) (by decide) (by decide) rfl (Nat.lt_of_lt_of_le (by decide) hn) dX12_count_112 ?_
    refine zz_iret rfl dX12_count_113 (by decide) (by decide) ?_
    rw [e_1] at h
    simp (decide := true) only [sp_count, ms_51, ms_50_19, ↓reduceIte] at h
    exact h _ ms_F.rf
  · skip
    refine zz_aload_0 dX12_count_114 ?_
    refine zz_getR fl_X12_7 rfl rfl (Nat.lt_of_lt_of_le (by decide) hn) (xr_50_0 hr) dX12_count_115 ?_
    refine zz_bipush (15) dX12_count_118 (by decide) ?_
    refine zz_iald 15 (by decide) (by decide) (by decide) rfl (Nat.lt_of_lt_of_le (by decide) hn) dX12_count_120 ?_
    refine zz_iret rfl dX12_count_121 (by decide) (by decide) ?_
    rw [e_1] at h
    simp (decide := true) only [sp_count, ms_51, ms_50_19, ↓reduceIte] at h
    exact h _ ms_F.rf
  · skip
    refine zz_aload_0 dX12_count_122 ?_
    refine zz_getR fl_X12_7 rfl rfl (Nat.lt_of_lt_of_le (by decide) hn) (xr_50_0 hr) dX12_count_123 ?_
    refine zz_bipush (8) dX12_count_126 (by decide) ?_
    refine zz_iload_1 dX12_count_128 ?_
    refine zz_iadd dX12_count_129 ?_
    refine zz_bipush (6) dX12_count_130 (by decide) ?_
    refine zz_isub dX12_count_132 ?_
    refine zz_iaN 8 (by rw [e_1]; decide) (by decide) (by decide) rfl (Nat.lt_of_lt_of_le (by decide) hn) dX12_count_133 ?_
    refine zz_iret rfl dX12_count_134 (by decide) (by decide) ?_
    rw [e_1] at h
    simp (decide := true) only [sp_count, ms_51, ms_50_19, ↓reduceIte] at h
    exact h _ ms_F.rf
  · skip
    refine zz_aload_0 dX12_count_122 ?_
    refine zz_getR fl_X12_7 rfl rfl (Nat.lt_of_lt_of_le (by decide) hn) (xr_50_0 hr) dX12_count_123 ?_
    refine zz_bipush (8) dX12_count_126 (by decide) ?_
    refine zz_iload_1 dX12_count_128 ?_
    refine zz_iadd dX12_count_129 ?_
    refine zz_bipush (6) dX12_count_130 (by decide) ?_
    refine zz_isub dX12_count_132 ?_
    refine zz_iaN 9 (by rw [e_1]; decide) (by decide) (by decide) rfl (Nat.lt_of_lt_of_le (by decide) hn) dX12_count_133 ?_
    refine zz_iret rfl dX12_count_134 (by decide) (by decide) ?_
    rw [e_1] at h
    simp (decide := true) only [sp_count, ms_51, ms_50_19, ↓reduceIte] at h
    exact h _ ms_F.rf
  · skip
    refine zz_aload_0 dX12_count_122 ?_
    refine zz_getR fl_X12_7 rfl rfl (Nat.lt_of_lt_of_le (by decide) hn) (xr_50_0 hr) dX12_count_123 ?_
    refine zz_bipush (8) dX12_count_126 (by decide) ?_
    refine zz_iload_1 dX12_count_128 ?_
    refine zz_iadd dX12_count_129 ?_
    refine zz_bipush (6) dX12_count_130 (by decide) ?_
    refine zz_isub dX12_count_132 ?_
    refine zz_iaN 10 (by rw [e_1]; decide) (by decide) (by decide) rfl (Nat.lt_of_lt_of_le (by decide) hn) dX12_count_133 ?_
    refine zz_iret rfl dX12_count_134 (by decide) (by decide) ?_
    rw [e_1] at h
    simp (decide := true) only [sp_count, ms_51, ms_50_19, ↓reduceIte] at h
    exact h _ ms_F.rf
  · skip
    refine zz_aload_0 dX12_count_122 ?_
    refine zz_getR fl_X12_7 rfl rfl (Nat.lt_of_lt_of_le (by decide) hn) (xr_50_0 hr) dX12_count_123 ?_
    refine zz_bipush (8) dX12_count_126 (by decide) ?_
    refine zz_iload_1 dX12_count_128 ?_
    refine zz_iadd dX12_count_129 ?_
    refine zz_bipush (6) dX12_count_130 (by decide) ?_
    refine zz_isub dX12_count_132 ?_
    refine zz_iaN 11 (by rw [e_1]; decide) (by decide) (by decide) rfl (Nat.lt_of_lt_of_le (by decide) hn) dX12_count_133 ?_
    refine zz_iret rfl dX12_count_134 (by decide) (by decide) ?_
    rw [e_1] at h
    simp (decide := true) only [sp_count, ms_51, ms_50_19, ↓reduceIte] at h
    exact h _ ms_F.rf
  · skip
    refine zz_aload_0 dX12_count_122 ?_
    refine zz_getR fl_X12_7 rfl rfl (Nat.lt_of_lt_of_le (by decide) hn) (xr_50_0 hr) dX12_count_123 ?_
    refine zz_bipush (8) dX12_count_126 (by decide) ?_
    refine zz_iload_1 dX12_count_128 ?_
    refine zz_iadd dX12_count_129 ?_
    refine zz_bipush (6) dX12_count_130 (by decide) ?_
    refine zz_isub dX12_count_132 ?_
    refine zz_iaN 12 (by rw [e_1]; decide) (by decide) (by decide) rfl (Nat.lt_of_lt_of_le (by decide) hn) dX12_count_133 ?_
    refine zz_iret rfl dX12_count_134 (by decide) (by decide) ?_
    rw [e_1] at h
    simp (decide := true) only [sp_count, ms_51, ms_50_19, ↓reduceIte] at h
    exact h _ ms_F.rf
  · skip
    refine zz_aload_0 dX12_count_135 ?_
    refine zz_getR fl_X12_7 rfl rfl (Nat.lt_of_lt_of_le (by decide) hn) (xr_50_0 hr) dX12_count_136 ?_
    refine zz_iconst (3) dX12_count_139 (by decide) ?_
    refine zz_iald 3 (by decide) (by decide) (by decide) rfl (Nat.lt_of_lt_of_le (by decide) hn) dX12_count_140 ?_
    refine zz_iret rfl dX12_count_141 (by decide) (by decide) ?_
    rw [e_1] at h
    simp (decide := true) only [sp_count, ms_51, ms_50_19, ↓reduceIte] at h
    exact h _ ms_F.rf
  · skip
    refine zz_aload_0 dX12_count_142 ?_
    refine zz_getR fl_X12_7 rfl rfl (Nat.lt_of_lt_of_le (by decide) hn) (xr_50_0 hr) dX12_count_143 ?_
    refine zz_iconst (4) dX12_count_146 (by decide) ?_
    refine zz_iald 4 (by decide) (by decide) (by decide) rfl (Nat.lt_of_lt_of_le (by decide) hn) dX12_count_147 ?_
    refine zz_iret rfl dX12_count_148 (by decide) (by decide) ?_
    rw [e_1] at h
    simp (decide := true) only [sp_count, ms_51, ms_50_19, ↓reduceIte] at h
    exact h _ ms_F.rf
  · skip
    refine zz_aload_0 dX12_count_149 ?_
    refine zz_getI fl_X12_197 rfl rfl (Nat.lt_of_lt_of_le (by decide) hn) dX12_count_150 ?_
    refine zz_iret rfl dX12_count_153 (by decide) (by decide) ?_
    rw [e_1] at h
    simp (decide := true) only [sp_count, ms_51, ms_50_19, ↓reduceIte] at h
    exact h _ ms_F.rf
  · skip
    refine zz_aload_0 dX12_count_154 ?_
    refine zz_getR fl_X12_7 rfl rfl (Nat.lt_of_lt_of_le (by decide) hn) (xr_50_0 hr) dX12_count_155 ?_
    refine zz_iconst (1) dX12_count_158 (by decide) ?_
    refine zz_iald 1 (by decide) (by decide) (by decide) rfl (Nat.lt_of_lt_of_le (by decide) hn) dX12_count_159 ?_
    refine zz_iret rfl dX12_count_160 (by decide) (by decide) ?_
    rw [e_1] at h
    simp (decide := true) only [sp_count, ms_51, ms_50_19, ↓reduceIte] at h
    exact h _ ms_F.rf
  · skip
    refine zz_aload_0 dX12_count_161 ?_
    refine zz_ldc dX12_count_162 ct_X12_50 ?_
    refine zz_callV1i cv_X12_51 rfl (Nat.lt_of_lt_of_le (by decide) hn) (Nat.le_of_ble_eq_true rfl) (by decide) (by decide) dX12_count_164 (t_X12_errs hn hr 1 (by decide) (by decide) ⟨_, rfl, ?_⟩)
    refine zz_iret rfl dX12_count_167 (by decide) (by decide) ?_
    simp only [sp_count, e0_1, e1_1, e2_1, e3_1, e4_1, e5_1, e6_1, e7_1, e8_1, e9_1, e10_1, e11_1, e12_1, e13_1, e14_1, ms_51, ms_54, or_self, or_false, false_or, or_true, true_or, and_true, true_and, and_false, false_and, and_self, not_true_eq_false, not_false_eq_true, ↓reduceIte] at h
    exact ms_er (by decide) h
