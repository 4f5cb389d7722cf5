def sp_tc (S : zz_G) (u j : Nat) : zz_G := fun a b => if a = 51 ∧ 176 + 50 * u ≤ b ∧ b < 176 + 50 * u + j then S 51 (b - (70 + 50 * u)) else S a b
theorem sp_tc_0 (S : zz_G) (u : Nat) : sp_tc S u 0 = S := by
  funext a b
  unfold sp_tc
  rw [if_neg (by omega)]
theorem sp_tc_lo {S : zz_G} {u j i : Nat} (hi : i < 176) : sp_tc S u j 51 i = S 51 i := if_neg (by omega)
theorem sp_tc_s {S : zz_G} {u j : Nat} (hj : j < 50) : zz_u (sp_tc S u j) 51 (176 + 50 * u + j) (sp_tc S u j 51 (106 + j)) = sp_tc S u (j + 1) := by
  rw [sp_tc_lo (by omega)]
  funext a b
  unfold zz_u sp_tc
  by_cases h : a = 51 ∧ b = 176 + 50 * u + j
  · obtain ⟨rfl, rfl⟩ := h
    rw [if_pos ⟨rfl, rfl⟩, if_pos (by omega)]
    congr 1
    omega
  · rw [if_neg h]
    by_cases h2 : a = 51 ∧ 176 + 50 * u ≤ b ∧ b < 176 + 50 * u + j
    · rw [if_pos h2, if_pos (by omega)]
    · rw [if_neg h2, if_neg (by omega)]
theorem sp_tc_F {g g' S' : zz_G} (h : ms_F g g' S') {u j : Nat} : ms_F g (sp_tc g' u j) (sp_tc S' u j) := by
  refine ⟨?_, fun k hk => ?_⟩
  · rw [← h.1]
    funext a b
    unfold ms_S sp_tc
    by_cases h2 : a = 51 ∧ 176 + 50 * u ≤ b ∧ b < 176 + 50 * u + j
    · obtain ⟨rfl, h3⟩ := h2
      rw [if_pos (show ms_k 51 b = true from rfl), if_pos ⟨rfl, h3⟩, if_pos ⟨rfl, h3⟩]
      exact (if_pos (show ms_k 51 (b - (70 + 50 * u)) = true from rfl)).symm
    · rw [if_neg h2, if_neg h2]
  · rw [show sp_tc g' u j k = g' k from funext fun b => if_neg (by omega)]
    exact h.2 k hk
def sp_tx (S : zz_G) (u : Nat) : zz_G := zz_u (sp_tc S u 50) 51 (5 + u) (S 51 3)
def sp_textT (S : zz_G) (u len : Nat) : Int32 × zz_G := if (pz_run (pz_b (sp_tx S u 51) u len) u 1 1 1).1 = true ∧ (pz_run (pz_b (sp_tx S u 51) u len) u 1 1 1).2.1 = len then (1, zz_u (sp_tx S u) 51 3 0) else (-10 - nI (pz_run (pz_b (sp_tx S u 51) u len) u 1 1 1).2.1, zz_u S 51 3 0)
def sp_text (S : zz_G) (use : Int32) : Int32 × zz_G := if use < 0 ∨ 1 < use then sp_err S 1 else sp_textT S use.toNatClampNeg (S 51 3).toNatClampNeg
set_option maxRecDepth 100000 in
set_option maxHeartbeats 4000000 in
theorem l_X12_text0 {C : zz_C} {d n : Nat} {g : zz_G} {r : zz_R} {Q : zz_Q} (hn : 60 ≤ n) (hr : xr r) (h : zz_Z C mi_X12_text (d + 40) 0 0 0 0 66 [some (.ref 50), some (.int 0), some (.int (nI 50)), none, none] [] (sp_tc g 0 50) r n Q) : ∀ (k : Nat) (j : Nat), j ≤ 50 → 50 - j < k → zz_Z C mi_X12_text (d + 40) 0 0 0 0 30 [some (.ref 50), some (.int 0), some (.int (nI j)), none, none] [] (sp_tc g 0 j) r n Q := by
  intro k
  induction k with
  | zero => intro j hj hk; exact absurd hk (by omega)
  | succ k ih =>
    intro j hj hk
    refine zz_iload_2 dX12_text_30 ?_
    refine zz_bipush (50) dX12_text_31 (by decide) ?_
    refine zz_icmp_ge 66 dX12_text_33 (by decide) (fun c_33 => ?_) (fun c_33 => ?_)
    · skip
      have := zz_gei (b := 50) c_33 (by omega) (by omega)
      obtain rfl : j = 50 := by omega
      exact h
    · skip
      refine zz_aload_0 dX12_text_36 ?_
      refine zz_getR fl_X12_7 rfl rfl (Nat.lt_of_lt_of_le (by decide) hn) (xr_50_0 hr) dX12_text_37 ?_
      refine zz_sipush (176) dX12_text_40 (by decide) ?_
      refine zz_bipush (50) dX12_text_43 (by decide) ?_
      refine zz_iload_1 dX12_text_45 ?_
      refine zz_imul dX12_text_46 ?_
      refine zz_iadd dX12_text_47 ?_
      refine zz_iload_2 dX12_text_48 ?_
      refine zz_iadd dX12_text_49 ?_
      refine zz_aload_0 dX12_text_50 ?_
      refine zz_getR fl_X12_7 rfl rfl (Nat.lt_of_lt_of_le (by decide) hn) (xr_50_0 hr) dX12_text_51 ?_
      refine zz_bipush (106) dX12_text_54 (by decide) ?_
      refine zz_iload_2 dX12_text_56 ?_
      refine zz_iadd dX12_text_57 ?_
      have hlt := zz_lti (b := 50) c_33 (by omega) (by omega)
      refine zz_iaN (106 + j) (by show nI 106 + nI j = _; rw [nI_add]) (by omega) (by decide) rfl (Nat.lt_of_lt_of_le (by decide) hn) dX12_text_58 ?_
      refine zz_isN (176 + 50 * 0 + j) (by show nI 176 + nI 50 * nI 0 + nI j = _; rw [pk_mul, nI_add, nI_add]) (by omega) (by decide) rfl (Nat.lt_of_lt_of_le (by decide) hn) dX12_text_59 ?_
      refine zz_iinc_2 (1) dX12_text_60 rfl rfl (by decide) ?_
      refine zz_goto 30 dX12_text_63 (by decide) ?_
      rw [sp_tc_s hlt, nI_1]
      exact ih (j + 1) (by omega) (by omega)

set_option maxRecDepth 100000 in
set_option maxHeartbeats 4000000 in
theorem e_X12_text0 {C : zz_C} {d n : Nat} {g : zz_G} {r : zz_R} {Q : zz_Q} (hn : 60 ≤ n) (hr : xr r) {t2 : Option Value} {len : Nat} (hlen : g 51 3 = nI len) (hl5 : len ≤ 50) (hb53g : ∀ j, j < 276 → g 53 j = g 51 j) (h1 : (pz_run (pz_b ((zz_u (sp_tc g 0 50) 51 5 (sp_tc g 0 50 51 3)) 51) 0 len) 0 1 1 1).1 = true ∧ (pz_run (pz_b ((zz_u (sp_tc g 0 50) 51 5 (sp_tc g 0 50 51 3)) 51) 0 len) 0 1 1 1).2.1 = len → ∀ g2, ms_F g g2 (zz_u (zz_u (sp_tc (ms_S g) 0 50) 51 5 (ms_S g 51 3)) 51 3 0) → Q (some (.int 1)) g2 r n) (h0 : ¬ ((pz_run (pz_b ((zz_u (sp_tc g 0 50) 51 5 (sp_tc g 0 50 51 3)) 51) 0 len) 0 1 1 1).1 = true ∧ (pz_run (pz_b ((zz_u (sp_tc g 0 50) 51 5 (sp_tc g 0 50 51 3)) 51) 0 len) 0 1 1 1).2.1 = len) → ∀ g2, ms_F g g2 (zz_u (ms_S g) 51 3 0) → Q (some (.int (-10 - nI (pz_run (pz_b ((zz_u (sp_tc g 0 50) 51 5 (sp_tc g 0 50 51 3)) 51) 0 len) 0 1 1 1).2.1))) g2 r n) : zz_Z C mi_X12_text (d + 40) 0 0 0 0 66 [some (.ref 50), some (.int 0), t2, none, none] [] (sp_tc g 0 50) r n Q := by
  refine zz_aload_0 dX12_text_66 ?_
  refine zz_getR fl_X12_7 rfl rfl (Nat.lt_of_lt_of_le (by decide) hn) (xr_50_0 hr) dX12_text_67 ?_
  refine zz_iconst (5) dX12_text_70 (by decide) ?_
  refine zz_iload_1 dX12_text_71 ?_
  refine zz_iadd dX12_text_72 ?_
  refine zz_aload_0 dX12_text_73 ?_
  refine zz_getR fl_X12_7 rfl rfl (Nat.lt_of_lt_of_le (by decide) hn) (xr_50_0 hr) dX12_text_74 ?_
  refine zz_iconst (3) dX12_text_77 (by decide) ?_
  refine zz_iald 3 (by decide) (by decide) (by decide) rfl (Nat.lt_of_lt_of_le (by decide) hn) dX12_text_78 ?_
  refine zz_isN 5 (by decide) (by decide) (by decide) rfl (Nat.lt_of_lt_of_le (by decide) hn) dX12_text_79 ?_
  refine zz_aload_0 dX12_text_80 ?_
  refine zz_iload_1 dX12_text_81 ?_
  refine zz_iconst (1) dX12_text_82 (by decide) ?_
  refine zz_iconst (1) dX12_text_83 (by decide) ?_
  refine zz_iconst (1) dX12_text_84 (by decide) ?_
  refine zz_callV4i cv_X12_137 rfl (Nat.lt_of_lt_of_le (by decide) hn) (Nat.le_of_ble_eq_true rfl) (by decide) (by decide) dX12_text_85 (t_X12_walks0 hn hr (len := len) (by rw [zz_u_same, sp_tc_lo (by decide)]; exact hlen) hl5 (fun q_85 g1_85 j1_85 f1_85 k1_85 e1_85 => ⟨_, rfl, ?_⟩) (fun q_85 g1_85 v_85 j1_85 f1_85 k1_85 e1_85 ev_85 => ⟨_, rfl, ?_⟩))
  · skip
    have hb53 : ∀ j, j < 276 → g1_85 53 j = g 51 j := fun j hj => by
      rw [f1_85 53 (by decide), zz_u_row _ _ (by decide)]
      exact (if_neg (by omega)).trans (hb53g j hj)
    have hGM : ms_F g (zz_u (sp_tc g 0 50) 51 5 (sp_tc g 0 50 51 3)) (zz_u (sp_tc (ms_S g) 0 50) 51 5 (ms_S g 51 3)) := by
      rw [ms_51, sp_tc_lo (by decide)]
      exact (sp_tc_F ms_F.rf).u rfl (by decide)
    have hj1F : ms_F g g1_85 (zz_u (sp_tc (ms_S g) 0 50) 51 5 (ms_S g 51 3)) := ⟨j1_85.1.trans hGM.1, fun k hk => (j1_85.2 k hk).trans (hGM.2 k hk)⟩
    have hj51 : ∀ j, g1_85 51 j = (zz_u (sp_tc g 0 50) 51 5 (sp_tc g 0 50 51 3)) 51 j := fun j => congrFun (mj_51 j1_85) j
    have hjk : ∀ k, k < 50 ∨ 60 ≤ k → g1_85 k = g k := fun k hk => (j1_85.2 k hk).trans (by rw [zz_u_row _ _ (by omega)]; exact funext fun b => if_neg (by omega))
    have hjr : ∀ a b, ms_k a b = true → a ≠ 51 → g1_85 a b = g a b := fun a b hm ha => (mj_at j1_85 hm).trans ((zz_u_ne1 _ _ ha).trans (if_neg (by omega)))
    refine zz_istore_2 dX12_text_88 rfl rfl ?_
    refine zz_aload_0 dX12_text_89 ?_
    refine zz_getI fl_X12_84 rfl rfl (Nat.lt_of_lt_of_le (by decide) hn) dX12_text_90 ?_
    rw [e1_85]
    refine zz_if_eq 105 dX12_text_93 (by decide) (fun h => absurd h (by decide)) (fun _ => ?_)
    refine zz_iload_2 dX12_text_96 ?_
    refine zz_iload_2 dX12_text_97 ?_
    refine zz_icmp_ne 105 dX12_text_98 (by decide) (fun c_98 => ?_) (fun c_98 => ?_)
    · skip
      exact absurd rfl c_98
    · skip
      refine zz_iconst (1) dX12_text_101 (by decide) ?_
      refine zz_goto 106 dX12_text_102 (by decide) ?_
      refine zz_istore_3 dX12_text_106 rfl rfl ?_
      refine zz_aload_0 dX12_text_107 ?_
      refine zz_getI fl_X12_88 rfl rfl (Nat.lt_of_lt_of_le (by decide) hn) dX12_text_108 ?_
      refine zz_istore_4 dX12_text_111 rfl rfl ?_
      refine zz_iload_3 dX12_text_113 ?_
      refine zz_if_ne 129 dX12_text_114 (by decide) (fun _ => ?_) (fun h => absurd h (by decide))
      refine zz_aload_0 dX12_text_129 ?_
      refine zz_getR fl_X12_7 rfl rfl (Nat.lt_of_lt_of_le (by decide) hn) (xr_50_0 hr) dX12_text_130 ?_
      refine zz_iconst (3) dX12_text_133 (by decide) ?_
      refine zz_iconst (0) dX12_text_134 (by decide) ?_
      refine zz_iast 3 (by decide) (by decide) (by decide) rfl (Nat.lt_of_lt_of_le (by decide) hn) dX12_text_135 ?_
      refine zz_iload_3 dX12_text_136 ?_
      refine zz_if_eq 144 dX12_text_137 (by decide) (fun h => absurd h (by decide)) (fun _ => ?_)
      refine zz_iconst (1) dX12_text_140 (by decide) ?_
      refine zz_goto 149 dX12_text_141 (by decide) ?_
      refine zz_iret rfl dX12_text_149 (by decide) (by decide) ?_
      exact h1 q_85 _ ((hj1F).u rfl (by decide))
  · skip
    have hb53 : ∀ j, j < 276 → g1_85 53 j = g 51 j := fun j hj => by
      rw [f1_85 53 (by decide), zz_u_row _ _ (by decide)]
      exact (if_neg (by omega)).trans (hb53g j hj)
    have hGM : ms_F g (zz_u (sp_tc g 0 50) 51 5 (sp_tc g 0 50 51 3)) (zz_u (sp_tc (ms_S g) 0 50) 51 5 (ms_S g 51 3)) := by
      rw [ms_51, sp_tc_lo (by decide)]
      exact (sp_tc_F ms_F.rf).u rfl (by decide)
    have hj1F : ms_F g g1_85 (zz_u (sp_tc (ms_S g) 0 50) 51 5 (ms_S g 51 3)) := ⟨j1_85.1.trans hGM.1, fun k hk => (j1_85.2 k hk).trans (hGM.2 k hk)⟩
    have hj51 : ∀ j, g1_85 51 j = (zz_u (sp_tc g 0 50) 51 5 (sp_tc g 0 50 51 3)) 51 j := fun j => congrFun (mj_51 j1_85) j
    have hjk : ∀ k, k < 50 ∨ 60 ≤ k → g1_85 k = g k := fun k hk => (j1_85.2 k hk).trans (by rw [zz_u_row _ _ (by omega)]; exact funext fun b => if_neg (by omega))
    have hjr : ∀ a b, ms_k a b = true → a ≠ 51 → g1_85 a b = g a b := fun a b hm ha => (mj_at j1_85 hm).trans ((zz_u_ne1 _ _ ha).trans (if_neg (by omega)))
    refine zz_istore_2 dX12_text_88 rfl rfl ?_
    refine zz_aload_0 dX12_text_89 ?_
    refine zz_getI fl_X12_84 rfl rfl (Nat.lt_of_lt_of_le (by decide) hn) dX12_text_90 ?_
    rw [e1_85]
    refine zz_if_eq 105 dX12_text_93 (by decide) (fun _ => ?_) (fun h => absurd h (by decide))
    refine zz_iconst (0) dX12_text_105 (by decide) ?_
    refine zz_istore_3 dX12_text_106 rfl rfl ?_
    refine zz_aload_0 dX12_text_107 ?_
    refine zz_getI fl_X12_88 rfl rfl (Nat.lt_of_lt_of_le (by decide) hn) dX12_text_108 ?_
    refine zz_istore_4 dX12_text_111 rfl rfl ?_
    refine zz_iload_3 dX12_text_113 ?_
    refine zz_if_ne 129 dX12_text_114 (by decide) (fun h => absurd h (by decide)) (fun _ => ?_)
    refine zz_aload_0 dX12_text_117 ?_
    refine zz_aload_0 dX12_text_118 ?_
    refine zz_getR fl_X12_16 rfl rfl (Nat.lt_of_lt_of_le (by decide) hn) (xr_50_2 hr) dX12_text_119 ?_
    refine zz_aload_0 dX12_text_122 ?_
    refine zz_getR fl_X12_7 rfl rfl (Nat.lt_of_lt_of_le (by decide) hn) (xr_50_0 hr) dX12_text_123 ?_
    refine zz_callV2v cv_X12_150 rfl (Nat.lt_of_lt_of_le (by decide) hn) (Nat.le_of_ble_eq_true rfl) (by decide) (by decide) dX12_text_126 (t_X12_moveAll hn (a := 53) (b := 51) rfl rfl (by decide) (by decide) (by decide) ⟨rfl, ?_⟩)
    refine zz_aload_0 dX12_text_129 ?_
    refine zz_getR fl_X12_7 rfl rfl (Nat.lt_of_lt_of_le (by decide) hn) (xr_50_0 hr) dX12_text_130 ?_
    refine zz_iconst (3) dX12_text_133 (by decide) ?_
    refine zz_iconst (0) dX12_text_134 (by decide) ?_
    refine zz_iast 3 (by decide) (by decide) (by decide) rfl (Nat.lt_of_lt_of_le (by decide) hn) dX12_text_135 ?_
    refine zz_iload_3 dX12_text_136 ?_
    refine zz_if_eq 144 dX12_text_137 (by decide) (fun _ => ?_) (fun h => absurd h (by decide))
    refine zz_bipush (-10) dX12_text_144 (by decide) ?_
    refine zz_iload_4 dX12_text_146 ?_
    refine zz_isub dX12_text_148 ?_
    refine zz_iret rfl dX12_text_149 (by decide) (by decide) ?_
    rw [k1_85]
    have e3 : ∀ j, j < 276 → zz_cp g1_85 53 51 276 51 j = g 51 j := fun j hj => by
      rw [show zz_cp g1_85 53 51 276 51 j = g1_85 53 j from if_pos ⟨rfl, hj⟩]
      exact hb53 j hj
    exact h0 q_85 _ (by
      refine ⟨?_, fun k hk => ?_⟩
      · rw [ms_u _ rfl]
        congr 1
        funext a b
        unfold ms_S
        by_cases hm : ms_k a b = true
        · rw [if_pos hm, if_pos hm]
          by_cases ha : a = 51
          · subst ha
            by_cases hb : b < 276
            · exact e3 b hb
            · rw [show zz_cp g1_85 53 51 276 51 b = g1_85 51 b from if_neg (by omega), hj51]
              exact (zz_u51 _ _ _ (by omega)).trans (if_neg (by omega))
          · rw [zz_cp_row ha]
            exact (hjr a b hm ha)
        · rw [if_neg hm, if_neg hm]
      · rw [zz_u_row _ _ (by omega), zz_cp_row (by omega)]
        exact hjk k hk)

set_option maxRecDepth 100000 in
set_option maxHeartbeats 4000000 in
theorem l_X12_text1 {C : zz_C} {d n : Nat} {g : zz_G} {r : zz_R} {Q : zz_Q} (hn : 60 ≤ n) (hr : xr r) (h : zz_Z C mi_X12_text (d + 40) 0 0 0 0 66 [some (.ref 50), some (.int 1), some (.int (nI 50)), none, none] [] (sp_tc g 1 50) r n Q) : ∀ (k : Nat) (j : Nat), j ≤ 50 → 50 - j < k → zz_Z C mi_X12_text (d + 40) 0 0 0 0 30 [some (.ref 50), some (.int 1), some (.int (nI j)), none, none] [] (sp_tc g 1 j) r n Q := by
  intro k
  induction k with
  | zero => intro j hj hk; exact absurd hk (by omega)
  | succ k ih =>
    intro j hj hk
    refine zz_iload_2 dX12_text_30 ?_
    refine zz_bipush (50) dX12_text_31 (by decide) ?_
    refine zz_icmp_ge 66 dX12_text_33 (by decide) (fun c_33 => ?_) (fun c_33 => ?_)
    · skip
      have := zz_gei (b := 50) c_33 (by omega) (by omega)
      obtain rfl : j = 50 := by omega
      exact h
    · skip
      refine zz_aload_0 dX12_text_36 ?_
      refine zz_getR fl_X12_7 rfl rfl (Nat.lt_of_lt_of_le (by decide) hn) (xr_50_0 hr) dX12_text_37 ?_
      refine zz_sipush (176) dX12_text_40 (by decide) ?_
      refine zz_bipush (50) dX12_text_43 (by decide) ?_
      refine zz_iload_1 dX12_text_45 ?_
      refine zz_imul dX12_text_46 ?_
      refine zz_iadd dX12_text_47 ?_
      refine zz_iload_2 dX12_text_48 ?_
      refine zz_iadd dX12_text_49 ?_
      refine zz_aload_0 dX12_text_50 ?_
      refine zz_getR fl_X12_7 rfl rfl (Nat.lt_of_lt_of_le (by decide) hn) (xr_50_0 hr) dX12_text_51 ?_
      refine zz_bipush (106) dX12_text_54 (by decide) ?_
      refine zz_iload_2 dX12_text_56 ?_
      refine zz_iadd dX12_text_57 ?_
      have hlt := zz_lti (b := 50) c_33 (by omega) (by omega)
      refine zz_iaN (106 + j) (by show nI 106 + nI j = _; rw [nI_add]) (by omega) (by decide) rfl (Nat.lt_of_lt_of_le (by decide) hn) dX12_text_58 ?_
      refine zz_isN (176 + 50 * 1 + j) (by show nI 176 + nI 50 * nI 1 + nI j = _; rw [pk_mul, nI_add, nI_add]) (by omega) (by decide) rfl (Nat.lt_of_lt_of_le (by decide) hn) dX12_text_59 ?_
      refine zz_iinc_2 (1) dX12_text_60 rfl rfl (by decide) ?_
      refine zz_goto 30 dX12_text_63 (by decide) ?_
      rw [sp_tc_s hlt, nI_1]
      exact ih (j + 1) (by omega) (by omega)

set_option maxRecDepth 100000 in
set_option maxHeartbeats 4000000 in
theorem e_X12_text1 {C : zz_C} {d n : Nat} {g : zz_G} {r : zz_R} {Q : zz_Q} (hn : 60 ≤ n) (hr : xr r) {t2 : Option Value} {len : Nat} (hlen : g 51 3 = nI len) (hl5 : len ≤ 50) (hb53g : ∀ j, j < 276 → g 53 j = g 51 j) (h1 : (pz_run (pz_b ((zz_u (sp_tc g 1 50) 51 6 (sp_tc g 1 50 51 3)) 51) 1 len) 1 1 1 1).1 = true ∧ (pz_run (pz_b ((zz_u (sp_tc g 1 50) 51 6 (sp_tc g 1 50 51 3)) 51) 1 len) 1 1 1 1).2.1 = len → ∀ g2, ms_F g g2 (zz_u (zz_u (sp_tc (ms_S g) 1 50) 51 6 (ms_S g 51 3)) 51 3 0) → Q (some (.int 1)) g2 r n) (h0 : ¬ ((pz_run (pz_b ((zz_u (sp_tc g 1 50) 51 6 (sp_tc g 1 50 51 3)) 51) 1 len) 1 1 1 1).1 = true ∧ (pz_run (pz_b ((zz_u (sp_tc g 1 50) 51 6 (sp_tc g 1 50 51 3)) 51) 1 len) 1 1 1 1).2.1 = len) → ∀ g2, ms_F g g2 (zz_u (ms_S g) 51 3 0) → Q (some (.int (-10 - nI (pz_run (pz_b ((zz_u (sp_tc g 1 50) 51 6 (sp_tc g 1 50 51 3)) 51) 1 len) 1 1 1 1).2.1))) g2 r n) : zz_Z C mi_X12_text (d + 40) 0 0 0 0 66 [some (.ref 50), some (.int 1), t2, none, none] [] (sp_tc g 1 50) r n Q := by
  refine zz_aload_0 dX12_text_66 ?_
  refine zz_getR fl_X12_7 rfl rfl (Nat.lt_of_lt_of_le (by decide) hn) (xr_50_0 hr) dX12_text_67 ?_
  refine zz_iconst (5) dX12_text_70 (by decide) ?_
  refine zz_iload_1 dX12_text_71 ?_
  refine zz_iadd dX12_text_72 ?_
  refine zz_aload_0 dX12_text_73 ?_
  refine zz_getR fl_X12_7 rfl rfl (Nat.lt_of_lt_of_le (by decide) hn) (xr_50_0 hr) dX12_text_74 ?_
  refine zz_iconst (3) dX12_text_77 (by decide) ?_
  refine zz_iald 3 (by decide) (by decide) (by decide) rfl (Nat.lt_of_lt_of_le (by decide) hn) dX12_text_78 ?_
  refine zz_isN 6 (by decide) (by decide) (by decide) rfl (Nat.lt_of_lt_of_le (by decide) hn) dX12_text_79 ?_
  refine zz_aload_0 dX12_text_80 ?_
  refine zz_iload_1 dX12_text_81 ?_
  refine zz_iconst (1) dX12_text_82 (by decide) ?_
  refine zz_iconst (1) dX12_text_83 (by decide) ?_
  refine zz_iconst (1) dX12_text_84 (by decide) ?_
  refine zz_callV4i cv_X12_137 rfl (Nat.lt_of_lt_of_le (by decide) hn) (Nat.le_of_ble_eq_true rfl) (by decide) (by decide) dX12_text_85 (t_X12_walks1 hn hr (len := len) (by rw [zz_u_same, sp_tc_lo (by decide)]; exact hlen) hl5 (fun q_85 g1_85 j1_85 f1_85 k1_85 e1_85 => ⟨_, rfl, ?_⟩) (fun q_85 g1_85 v_85 j1_85 f1_85 k1_85 e1_85 ev_85 => ⟨_, rfl, ?_⟩))
  · skip
    have hb53 : ∀ j, j < 276 → g1_85 53 j = g 51 j := fun j hj => by
      rw [f1_85 53 (by decide), zz_u_row _ _ (by decide)]
      exact (if_neg (by omega)).trans (hb53g j hj)
    have hGM : ms_F g (zz_u (sp_tc g 1 50) 51 6 (sp_tc g 1 50 51 3)) (zz_u (sp_tc (ms_S g) 1 50) 51 6 (ms_S g 51 3)) := by
      rw [ms_51, sp_tc_lo (by decide)]
      exact (sp_tc_F ms_F.rf).u rfl (by decide)
    have hj1F : ms_F g g1_85 (zz_u (sp_tc (ms_S g) 1 50) 51 6 (ms_S g 51 3)) := ⟨j1_85.1.trans hGM.1, fun k hk => (j1_85.2 k hk).trans (hGM.2 k hk)⟩
    have hj51 : ∀ j, g1_85 51 j = (zz_u (sp_tc g 1 50) 51 6 (sp_tc g 1 50 51 3)) 51 j := fun j => congrFun (mj_51 j1_85) j
    have hjk : ∀ k, k < 50 ∨ 60 ≤ k → g1_85 k = g k := fun k hk => (j1_85.2 k hk).trans (by rw [zz_u_row _ _ (by omega)]; exact funext fun b => if_neg (by omega))
    have hjr : ∀ a b, ms_k a b = true → a ≠ 51 → g1_85 a b = g a b := fun a b hm ha => (mj_at j1_85 hm).trans ((zz_u_ne1 _ _ ha).trans (if_neg (by omega)))
    refine zz_istore_2 dX12_text_88 rfl rfl ?_
    refine zz_aload_0 dX12_text_89 ?_
    refine zz_getI fl_X12_84 rfl rfl (Nat.lt_of_lt_of_le (by decide) hn) dX12_text_90 ?_
    rw [e1_85]
    refine zz_if_eq 105 dX12_text_93 (by decide) (fun h => absurd h (by decide)) (fun _ => ?_)
    refine zz_iload_2 dX12_text_96 ?_
    refine zz_iload_2 dX12_text_97 ?_
    refine zz_icmp_ne 105 dX12_text_98 (by decide) (fun c_98 => ?_) (fun c_98 => ?_)
    · skip
      exact absurd rfl c_98
    · skip
      refine zz_iconst (1) dX12_text_101 (by decide) ?_
      refine zz_goto 106 dX12_text_102 (by decide) ?_
      refine zz_istore_3 dX12_text_106 rfl rfl ?_
      refine zz_aload_0 dX12_text_107 ?_
      refine zz_getI fl_X12_88 rfl rfl (Nat.lt_of_lt_of_le (by decide) hn) dX12_text_108 ?_
      refine zz_istore_4 dX12_text_111 rfl rfl ?_
      refine zz_iload_3 dX12_text_113 ?_
      refine zz_if_ne 129 dX12_text_114 (by decide) (fun _ => ?_) (fun h => absurd h (by decide))
      refine zz_aload_0 dX12_text_129 ?_
      refine zz_getR fl_X12_7 rfl rfl (Nat.lt_of_lt_of_le (by decide) hn) (xr_50_0 hr) dX12_text_130 ?_
      refine zz_iconst (3) dX12_text_133 (by decide) ?_
      refine zz_iconst (0) dX12_text_134 (by decide) ?_
      refine zz_iast 3 (by decide) (by decide) (by decide) rfl (Nat.lt_of_lt_of_le (by decide) hn) dX12_text_135 ?_
      refine zz_iload_3 dX12_text_136 ?_
      refine zz_if_eq 144 dX12_text_137 (by decide) (fun h => absurd h (by decide)) (fun _ => ?_)
      refine zz_iconst (1) dX12_text_140 (by decide) ?_
      refine zz_goto 149 dX12_text_141 (by decide) ?_
      refine zz_iret rfl dX12_text_149 (by decide) (by decide) ?_
      exact h1 q_85 _ ((hj1F).u rfl (by decide))
  · skip
    have hb53 : ∀ j, j < 276 → g1_85 53 j = g 51 j := fun j hj => by
      rw [f1_85 53 (by decide), zz_u_row _ _ (by decide)]
      exact (if_neg (by omega)).trans (hb53g j hj)
    have hGM : ms_F g (zz_u (sp_tc g 1 50) 51 6 (sp_tc g 1 50 51 3)) (zz_u (sp_tc (ms_S g) 1 50) 51 6 (ms_S g 51 3)) := by
      rw [ms_51, sp_tc_lo (by decide)]
      exact (sp_tc_F ms_F.rf).u rfl (by decide)
    have hj1F : ms_F g g1_85 (zz_u (sp_tc (ms_S g) 1 50) 51 6 (ms_S g 51 3)) := ⟨j1_85.1.trans hGM.1, fun k hk => (j1_85.2 k hk).trans (hGM.2 k hk)⟩
    have hj51 : ∀ j, g1_85 51 j = (zz_u (sp_tc g 1 50) 51 6 (sp_tc g 1 50 51 3)) 51 j := fun j => congrFun (mj_51 j1_85) j
    have hjk : ∀ k, k < 50 ∨ 60 ≤ k → g1_85 k = g k := fun k hk => (j1_85.2 k hk).trans (by rw [zz_u_row _ _ (by omega)]; exact funext fun b => if_neg (by omega))
    have hjr : ∀ a b, ms_k a b = true → a ≠ 51 → g1_85 a b = g a b := fun a b hm ha => (mj_at j1_85 hm).trans ((zz_u_ne1 _ _ ha).trans (if_neg (by omega)))
    refine zz_istore_2 dX12_text_88 rfl rfl ?_
    refine zz_aload_0 dX12_text_89 ?_
    refine zz_getI fl_X12_84 rfl rfl (Nat.lt_of_lt_of_le (by decide) hn) dX12_text_90 ?_
    rw [e1_85]
    refine zz_if_eq 105 dX12_text_93 (by decide) (fun _ => ?_) (fun h => absurd h (by decide))
    refine zz_iconst (0) dX12_text_105 (by decide) ?_
    refine zz_istore_3 dX12_text_106 rfl rfl ?_
    refine zz_aload_0 dX12_text_107 ?_
    refine zz_getI fl_X12_88 rfl rfl (Nat.lt_of_lt_of_le (by decide) hn) dX12_text_108 ?_
    refine zz_istore_4 dX12_text_111 rfl rfl ?_
    refine zz_iload_3 dX12_text_113 ?_
    refine zz_if_ne 129 dX12_text_114 (by decide) (fun h => absurd h (by decide)) (fun _ => ?_)
    refine zz_aload_0 dX12_text_117 ?_
    refine zz_aload_0 dX12_text_118 ?_
    refine zz_getR fl_X12_16 rfl rfl (Nat.lt_of_lt_of_le (by decide) hn) (xr_50_2 hr) dX12_text_119 ?_
    refine zz_aload_0 dX12_text_122 ?_
    refine zz_getR fl_X12_7 rfl rfl (Nat.lt_of_lt_of_le (by decide) hn) (xr_50_0 hr) dX12_text_123 ?_
    refine zz_callV2v cv_X12_150 rfl (Nat.lt_of_lt_of_le (by decide) hn) (Nat.le_of_ble_eq_true rfl) (by decide) (by decide) dX12_text_126 (t_X12_moveAll hn (a := 53) (b := 51) rfl rfl (by decide) (by decide) (by decide) ⟨rfl, ?_⟩)
    refine zz_aload_0 dX12_text_129 ?_
    refine zz_getR fl_X12_7 rfl rfl (Nat.lt_of_lt_of_le (by decide) hn) (xr_50_0 hr) dX12_text_130 ?_
    refine zz_iconst (3) dX12_text_133 (by decide) ?_
    refine zz_iconst (0) dX12_text_134 (by decide) ?_
    refine zz_iast 3 (by decide) (by decide) (by decide) rfl (Nat.lt_of_lt_of_le (by decide) hn) dX12_text_135 ?_
    refine zz_iload_3 dX12_text_136 ?_
    refine zz_if_eq 144 dX12_text_137 (by decide) (fun _ => ?_) (fun h => absurd h (by decide))
    refine zz_bipush (-10) dX12_text_144 (by decide) ?_
    refine zz_iload_4 dX12_text_146 ?_
    refine zz_isub dX12_text_148 ?_
    refine zz_iret rfl dX12_text_149 (by decide) (by decide) ?_
    rw [k1_85]
    have e3 : ∀ j, j < 276 → zz_cp g1_85 53 51 276 51 j = g 51 j := fun j hj => by
      rw [show zz_cp g1_85 53 51 276 51 j = g1_85 53 j from if_pos ⟨rfl, hj⟩]
      exact hb53 j hj
    exact h0 q_85 _ (by
      refine ⟨?_, fun k hk => ?_⟩
      · rw [ms_u _ rfl]
        congr 1
        funext a b
        unfold ms_S
        by_cases hm : ms_k a b = true
        · rw [if_pos hm, if_pos hm]
          by_cases ha : a = 51
          · subst ha
            by_cases hb : b < 276
            · exact e3 b hb
            · rw [show zz_cp g1_85 53 51 276 51 b = g1_85 51 b from if_neg (by omega), hj51]
              exact (zz_u51 _ _ _ (by omega)).trans (if_neg (by omega))
          · rw [zz_cp_row ha]
            exact (hjr a b hm ha)
        · rw [if_neg hm, if_neg hm]
      · rw [zz_u_row _ _ (by omega), zz_cp_row (by omega)]
        exact hjk k hk)
