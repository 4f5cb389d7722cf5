/-- the state at first -/
def si_ : zz_G := fun a b => if a = 51 then (if b = 1 then 1 else if b = 5 then -1 else if b = 6 then -1 else if b = 8 then 6 else if b = 9 then 30 else if b = 10 then 3 else if b = 11 then 3600 else 0) else 0
theorem si_z {b : Nat} (h : b ≠ 1 ∧ b ≠ 5 ∧ b ≠ 6 ∧ (b < 8 ∨ 11 < b)) : si_ 51 b = 0 := by
  unfold si_
  rw [if_pos rfl, if_neg (by omega), if_neg (by omega), if_neg (by omega), if_neg (by omega), if_neg (by omega), if_neg (by omega), if_neg (by omega)]
theorem si_o {a b : Nat} (h : a ≠ 51) : si_ a b = 0 := if_neg h
def xi_P (g : zz_G) (r : zz_R) : Prop := xq_P si_ g ∧ (∀ q ∈ xr_l, (q.1 < 50 ∨ q.1 = 998) → r q.1 q.2.1 = some q.2.2) ∧ r 0 1 = none ∧ (∀ c, c < 10 → r 10 c = some (11 + c)) ∧ (∀ c j, c < 10 → g (11 + c) j = 0) ∧ g 23 1 = 0 ∧ g 25 1 = 0
set_option maxRecDepth 100000 in
set_option maxHeartbeats 4000000 in
theorem t_X11_init {C : zz_C} {d : Nat} {g : zz_G} {r : zz_R} {Q : zz_Q} (hz : r 998 0 = none) (h : ∀ g' r', xi_P g' r' → Q none g' r' 50) : zz_T C mi_X11_init (d + 4) 50 700 [.ref 0] g r 1 Q := by
  refine zz_T.of [some (.ref 0)] (by decide +kernel) rfl (Nat.le_of_ble_eq_true rfl) ?_
  refine zz_aload_0 dX11_init_0 ?_
  refine zz_objI kj_X11_1 kj_obji kj_objc (Nat.le_of_ble_eq_true rfl) dX11_init_1 ?_
  refine zz_aload_0 dX11_init_4 ?_
  refine zz_newO cf_X0 dv_X0 kl_X11_7 ki_X0 kn_X0 (by decide) rfl (by decide) (by decide) dX11_init_5 ?_
  refine zz_dup dX11_init_8 rfl ?_
  refine zz_callI0 (Or.inl kc_X11_9) (Nat.le_of_ble_eq_true rfl) (by decide) (by decide) dX11_init_9 (t_X0_init_1 (fun g1 r1 hb9 => ⟨rfl, ?_⟩))
  obtain ⟨hb0, hbr, hbw, hbc, hbt, hbi, hbd, hbv, hbk, hb20, hb22, hb24, hb26⟩ := hb9
  refine zz_putR fl_X11_10 rfl rfl (by decide) (Or.inr ⟨rfl, _, _, rfl, rfl⟩) rfl rfl dX11_init_12 ?_
  refine zz_aload_0 dX11_init_15 ?_
  refine zz_null dX11_init_16 ?_
  refine zz_putN fl_X11_16 rfl rfl (by decide) (Or.inl rfl) rfl rfl dX11_init_17 ?_
  refine zz_aload_0 dX11_init_20 ?_
  refine zz_iconst (0) dX11_init_21 (by decide) ?_
  refine zz_putI fl_X11_19 rfl rfl (by decide) dX11_init_22 ?_
  refine zz_aload_0 dX11_init_25 ?_
  refine zz_bipush (6) dX11_init_26 (by decide) ?_
  refine zz_newI (by decide) (by decide) (by decide) (by decide) rfl ac_int (by decide) (by decide) dX11_init_28 ?_
  refine zz_putR fl_X11_23 rfl rfl (by decide) (Or.inr ⟨rfl, _, _, rfl, rfl⟩) rfl rfl dX11_init_30 ?_
  refine zz_aload_0 dX11_init_33 ?_
  refine zz_bipush (7) dX11_init_34 (by decide) ?_
  refine zz_newR (tk := 2) (Or.inr ⟨rfl, rfl⟩) (by decide) (by decide) (by decide) kl_X11_27 (by decide) rfl (by decide) (by decide) dX11_init_36 ?_
  refine zz_dup dX11_init_39 rfl ?_
  refine zz_iconst (0) dX11_init_40 (by decide) ?_
  refine zz_newO cf_X10 dv_X10 kl_X11_27 ki_X10 kn_X10 (by decide) rfl (by decide) (by decide) dX11_init_41 ?_
  refine zz_dup dX11_init_44 rfl ?_
  refine zz_callI0 (Or.inl kc_X11_29) (Nat.le_of_ble_eq_true rfl) (by decide) (by decide) dX11_init_45 (t_X10_init_30 ⟨rfl, ?_⟩)
  refine zz_aastW (ci := 10) 0 (by decide) (by decide) (by decide) rfl (by decide) rfl (Or.inl rfl) rfl (by decide) dX11_init_48 ?_
  refine zz_dup dX11_init_49 rfl ?_
  refine zz_iconst (1) dX11_init_50 (by decide) ?_
  refine zz_newO cf_X4 dv_X4 kl_X11_30 ki_X4 kn_X4 (by decide) rfl (by decide) (by decide) dX11_init_51 ?_
  refine zz_dup dX11_init_54 rfl ?_
  refine zz_callI0 (Or.inl kc_X11_32) (Nat.le_of_ble_eq_true rfl) (by decide) (by decide) dX11_init_55 (t_X4_init_31 ⟨rfl, ?_⟩)
  refine zz_aastW (ci := 4) 1 (by decide) (by decide) (by decide) rfl (by decide) rfl (Or.inr (by decide)) rfl (by decide) dX11_init_58 ?_
  refine zz_dup dX11_init_59 rfl ?_
  refine zz_iconst (2) dX11_init_60 (by decide) ?_
  refine zz_newO cf_X1 dv_X1 kl_X11_33 ki_X1 kn_X1 (by decide) rfl (by decide) (by decide) dX11_init_61 ?_
  refine zz_dup dX11_init_64 rfl ?_
  refine zz_callI0 (Or.inl kc_X11_35) (Nat.le_of_ble_eq_true rfl) (by decide) (by decide) dX11_init_65 (t_X1_init_32 ⟨rfl, ?_⟩)
  refine zz_aastW (ci := 1) 2 (by decide) (by decide) (by decide) rfl (by decide) rfl (Or.inr (by decide)) rfl (by decide) dX11_init_68 ?_
  refine zz_dup dX11_init_69 rfl ?_
  refine zz_iconst (3) dX11_init_70 (by decide) ?_
  refine zz_newO cf_X2 dv_X2 kl_X11_36 ki_X2 kn_X2 (by decide) rfl (by decide) (by decide) dX11_init_71 ?_
  refine zz_dup dX11_init_74 rfl ?_
  refine zz_callI0 (Or.inl kc_X11_38) (Nat.le_of_ble_eq_true rfl) (by decide) (by decide) dX11_init_75 (t_X2_init_33 ⟨rfl, ?_⟩)
  refine zz_aastW (ci := 2) 3 (by decide) (by decide) (by decide) rfl (by decide) rfl (Or.inr (by decide)) rfl (by decide) dX11_init_78 ?_
  refine zz_dup dX11_init_79 rfl ?_
  refine zz_iconst (4) dX11_init_80 (by decide) ?_
  refine zz_newO cf_X6 dv_X6 kl_X11_39 ki_X6 kn_X6 (by decide) rfl (by decide) (by decide) dX11_init_81 ?_
  refine zz_dup dX11_init_84 rfl ?_
  refine zz_callI0 (Or.inl kc_X11_41) (Nat.le_of_ble_eq_true rfl) (by decide) (by decide) dX11_init_85 (t_X6_init_34 ⟨rfl, ?_⟩)
  refine zz_aastW (ci := 6) 4 (by decide) (by decide) (by decide) rfl (by decide) rfl (Or.inr (by decide)) rfl (by decide) dX11_init_88 ?_
  refine zz_dup dX11_init_89 rfl ?_
  refine zz_iconst (5) dX11_init_90 (by decide) ?_
  refine zz_newO cf_X3 dv_X3 kl_X11_42 ki_X3 kn_X3 (by decide) rfl (by decide) (by decide) dX11_init_91 ?_
  refine zz_dup dX11_init_94 rfl ?_
  refine zz_callI0 (Or.inl kc_X11_44) (Nat.le_of_ble_eq_true rfl) (by decide) (by decide) dX11_init_95 (t_X3_init_35 ⟨rfl, ?_⟩)
  refine zz_aastW (ci := 3) 5 (by decide) (by decide) (by decide) rfl (by decide) rfl (Or.inr (by decide)) rfl (by decide) dX11_init_98 ?_
  refine zz_dup dX11_init_99 rfl ?_
  refine zz_bipush (6) dX11_init_100 (by decide) ?_
  refine zz_newO cf_X7 dv_X7 kl_X11_45 ki_X7 kn_X7 (by decide) rfl (by decide) (by decide) dX11_init_102 ?_
  refine zz_dup dX11_init_105 rfl ?_
  refine zz_callI0 (Or.inl kc_X11_47) (Nat.le_of_ble_eq_true rfl) (by decide) (by decide) dX11_init_106 (t_X7_init_36 ⟨rfl, ?_⟩)
  refine zz_aastW (ci := 7) 6 (by decide) (by decide) (by decide) rfl (by decide) rfl (Or.inr (by decide)) rfl (by decide) dX11_init_109 ?_
  refine zz_putR fl_X11_48 rfl rfl (by decide) (Or.inr ⟨rfl, _, _, rfl, rfl⟩) rfl rfl dX11_init_110 ?_
  refine zz_aload_0 dX11_init_113 ?_
  refine zz_newO cf_X5 dv_X5 kl_X11_52 ki_X5 kn_X5 (by decide) rfl (by decide) (by decide) dX11_init_114 ?_
  refine zz_dup dX11_init_117 rfl ?_
  refine zz_callI0 (Or.inl kc_X11_54) (Nat.le_of_ble_eq_true rfl) (by decide) (by decide) dX11_init_118 (t_X5_init (if_pos ((congrFun (hb0 998 (Or.inr rfl)).2 0).trans hz)) (fun g2 r2 hd9 hd0 hd1 hd2 hd3 => ⟨rfl, ?_⟩))
  refine zz_putR fl_X11_55 rfl rfl (by decide) (Or.inr ⟨rfl, _, _, rfl, rfl⟩) rfl rfl dX11_init_121 ?_
  refine zz_aload_0 dX11_init_124 ?_
  refine zz_bipush (50) dX11_init_125 (by decide) ?_
  refine zz_newI (by decide) (by decide) (by decide) (by decide) rfl ac_int (by decide) (by decide) dX11_init_127 ?_
  refine zz_putR fl_X11_59 rfl rfl (by decide) (Or.inr ⟨rfl, _, _, rfl, rfl⟩) rfl rfl dX11_init_129 ?_
  refine zz_aload_0 dX11_init_132 ?_
  refine zz_newO cf_X9 dv_X9 kl_X11_62 ki_X9 kn_X9 (by decide) rfl (by decide) (by decide) dX11_init_133 ?_
  refine zz_dup dX11_init_136 rfl ?_
  refine zz_callI0 (Or.inl kc_X11_64) (Nat.le_of_ble_eq_true rfl) (by decide) (by decide) dX11_init_137 (t_X9_init ⟨rfl, ?_⟩)
  refine zz_putR fl_X11_65 rfl rfl (by decide) (Or.inr ⟨rfl, _, _, rfl, rfl⟩) rfl rfl dX11_init_140 ?_
  refine zz_aload_0 dX11_init_143 ?_
  refine zz_iconst (4) dX11_init_144 (by decide) ?_
  refine zz_bipush (40) dX11_init_145 (by decide) ?_
  refine zz_multi (N := 4) (K := 40) (by decide) (by decide) (by decide) (by decide) (by decide) (by decide) (by decide) rfl (by decide) kl_X11_69 ac_int (by decide) (by decide) dX11_init_147 ?_
  refine zz_putR fl_X11_71 rfl rfl (by decide) (Or.inr ⟨rfl, _, _, rfl, rfl⟩) rfl rfl dX11_init_151 ?_
  refine zz_aload_0 dX11_init_154 ?_
  refine zz_iconst (4) dX11_init_155 (by decide) ?_
  refine zz_newI (by decide) (by decide) (by decide) (by decide) rfl ac_int (by decide) (by decide) dX11_init_156 ?_
  refine zz_putR fl_X11_74 rfl rfl (by decide) (Or.inr ⟨rfl, _, _, rfl, rfl⟩) rfl rfl dX11_init_158 ?_
  refine zz_aload_0 dX11_init_161 ?_
  refine zz_iconst (4) dX11_init_162 (by decide) ?_
  refine zz_newI (by decide) (by decide) (by decide) (by decide) rfl ac_int (by decide) (by decide) dX11_init_163 ?_
  refine zz_putR fl_X11_77 rfl rfl (by decide) (Or.inr ⟨rfl, _, _, rfl, rfl⟩) rfl rfl dX11_init_165 ?_
  refine zz_vret rfl dX11_init_168 (by decide) (by decide) ?_
  refine h _ _ ⟨?_, ?_, (congrFun (hd9 0 (by decide)).2 1).trans rfl, fun c hc => (congrFun (hd9 10 (by decide)).2 c).trans (hbc c hc), fun c j hc => ?_, (congrFun (hd9 23 (by decide)).1 1).trans hb22, (congrFun (hd9 25 (by decide)).1 1).trans hb24⟩
  · intro q hq i hi
    simp only [xq_l, List.mem_cons, List.not_mem_nil, or_false] at hq
    rcases hq with rfl | rfl | rfl | rfl | rfl | rfl | rfl | rfl | rfl | rfl | rfl | rfl | rfl | rfl | rfl | rfl | rfl | rfl | rfl | rfl | rfl | rfl | rfl | rfl | rfl | rfl
    · replace hi : i < 1 := hi
      show _ = si_ 51 (0 + i)
      obtain rfl : i = 0 := by omega
      exact (congrFun (hd9 1 (by decide)).1 1).trans hbi.1
    · replace hi : i < 1 := hi
      show _ = si_ 51 (1 + i)
      obtain rfl : i = 0 := by omega
      exact (congrFun (hd9 1 (by decide)).1 5).trans hbi.2.2.2.2.1
    · replace hi : i < 1 := hi
      show _ = si_ 51 (2 + i)
      obtain rfl : i = 0 := by omega
      exact (congrFun (hd9 1 (by decide)).1 7).trans hbi.2.2.2.2.2.1
    · replace hi : i < 1 := hi
      show _ = si_ 51 (3 + i)
      obtain rfl : i = 0 := by omega
      exact (congrFun (hd9 1 (by decide)).1 11).trans hbi.2.2.2.2.2.2.2.1
    · replace hi : i < 1 := hi
      show _ = si_ 51 (4 + i)
      obtain rfl : i = 0 := by omega
      exact (congrFun (hd9 1 (by decide)).1 14).trans hbi.2.2.2.2.2.2.2.2
    · replace hi : i < 1 := hi
      show _ = si_ 51 (7 + i)
      obtain rfl : i = 0 := by omega
      exact (congrFun (hd9 1 (by decide)).1 9).trans hbi.2.2.2.2.2.2.1
    · replace hi : i < 3 := hi
      show _ = si_ 51 (13 + i)
      rcases (show i = 0 ∨ i = 1 ∨ i = 2 by omega) with e | e | e <;> subst e
      · exact (congrFun (hd9 1 (by decide)).1 2).trans hbi.2.1
      · exact (congrFun (hd9 1 (by decide)).1 3).trans hbi.2.2.1
      · exact (congrFun (hd9 1 (by decide)).1 4).trans hbi.2.2.2.1
    · replace hi : i < 5 := hi
      show _ = si_ 51 (8 + i)
      refine (congrFun (hd9 2 (by decide)).1 (0 + i)).trans ?_
      show g1 2 (0 + i) = _
      rw [hbd _ (by omega)]
      rcases (show i = 0 ∨ i = 1 ∨ i = 2 ∨ i = 3 ∨ i = 4 by omega) with e | e | e | e | e <;> subst e <;> rfl
    · replace hi : i < 5 := hi
      show _ = si_ 51 (16 + i)
      rw [si_z (by omega)]
      exact (congrFun (hd9 4 (by decide)).1 (0 + i)).trans (hbv 0 _ (by decide))
    · replace hi : i < 5 := hi
      show _ = si_ 51 (21 + i)
      rw [si_z (by omega)]
      exact (congrFun (hd9 5 (by decide)).1 (0 + i)).trans (hbv 1 _ (by decide))
    · replace hi : i < 5 := hi
      show _ = si_ 51 (26 + i)
      rw [si_z (by omega)]
      exact (congrFun (hd9 6 (by decide)).1 (0 + i)).trans (hbv 2 _ (by decide))
    · replace hi : i < 5 := hi
      show _ = si_ 51 (31 + i)
      rw [si_z (by omega)]
      exact (congrFun (hd9 7 (by decide)).1 (0 + i)).trans (hbv 3 _ (by decide))
    · replace hi : i < 5 := hi
      show _ = si_ 51 (36 + i)
      rw [si_z (by omega)]
      exact (congrFun (hd9 8 (by decide)).1 (0 + i)).trans (hbv 4 _ (by decide))
    · replace hi : i < 5 := hi
      show _ = si_ 51 (41 + i)
      rw [si_z (by omega)]
      exact (congrFun (hd9 9 (by decide)).1 (0 + i)).trans (hbv 5 _ (by decide))
    · replace hi : i < 50 := hi
      show _ = si_ 51 (106 + i)
      rw [si_z (by omega)]
      exact (congrFun (hd9 21 (by decide)).1 (0 + i)).trans (hb20 _)
    · replace hi : i < 20 := hi
      show _ = si_ 51 (156 + i)
      rw [si_z (by omega)]
      exact (congrFun (hd9 27 (by decide)).1 (0 + i)).trans (hb26 _)
    · replace hi : i < 6 := hi
      show _ = si_ 54 (0 + i)
      rw [si_o (by decide)]
      exact (congrFun (hd9 28 (by decide)).1 (0 + i)).trans rfl
    · replace hi : i < 4 := hi
      show _ = si_ 55 (0 + i)
      rw [si_o (by decide)]
      rfl
    · replace hi : i < 4 := hi
      show _ = si_ 56 (0 + i)
      rw [si_o (by decide)]
      rfl
    · replace hi : i < 40 := hi
      show _ = si_ 57 (0 + i)
      rw [si_o (by decide)]
      rfl
    · replace hi : i < 40 := hi
      show _ = si_ 57 (40 + i)
      rw [si_o (by decide)]
      rfl
    · replace hi : i < 40 := hi
      show _ = si_ 57 (80 + i)
      rw [si_o (by decide)]
      rfl
    · replace hi : i < 40 := hi
      show _ = si_ 57 (120 + i)
      rw [si_o (by decide)]
      rfl
    · replace hi : i < 1 := hi
      show _ = si_ 50 (4 + i)
      obtain rfl : i = 0 := by omega
      exact (congrFun (hd9 0 (by decide)).1 2).trans rfl
    · replace hi : i < 1 := hi
      show _ = si_ 50 (19 + i)
      obtain rfl : i = 0 := by omega
      rfl
    · replace hi : i < 40 := hi
      show _ = si_ 59 (0 + i)
      rw [si_o (by decide)]
      rfl
  · intro q hq hlt
    simp only [xr_l, List.mem_cons, List.not_mem_nil, or_false] at hq
    rcases hq with rfl | rfl | rfl | rfl | rfl | rfl | rfl | rfl | rfl | rfl | rfl | rfl | rfl | rfl | rfl | rfl | rfl | rfl | rfl | rfl | rfl | rfl | rfl | rfl | rfl | rfl | rfl | rfl | rfl | rfl | rfl | rfl | rfl | rfl | rfl | rfl | rfl | rfl | rfl | rfl | rfl | rfl | rfl | rfl | rfl | rfl | rfl | rfl | rfl | rfl
    · exact (congrFun (hd9 0 (by decide)).2 0).trans rfl
    · exact (congrFun (hd9 0 (by decide)).2 3).trans rfl
    · exact (congrFun (hd9 0 (by decide)).2 4).trans rfl
    · exact rfl
    · exact rfl
    · exact rfl
    · exact rfl
    · exact rfl
    · exact rfl
    · exact (congrFun (hd9 1 (by decide)).2 0).trans hbr.1
    · exact (congrFun (hd9 1 (by decide)).2 6).trans hbr.2.1
    · exact (congrFun (hd9 1 (by decide)).2 8).trans hbr.2.2.1
    · exact (congrFun (hd9 1 (by decide)).2 10).trans hbr.2.2.2.1
    · exact (congrFun (hd9 1 (by decide)).2 12).trans hbr.2.2.2.2.1
    · exact (congrFun (hd9 1 (by decide)).2 13).trans hbr.2.2.2.2.2
    · exact (congrFun (hd9 3 (by decide)).2 0).trans (hbw 0 (by decide))
    · exact (congrFun (hd9 3 (by decide)).2 1).trans (hbw 1 (by decide))
    · exact (congrFun (hd9 3 (by decide)).2 2).trans (hbw 2 (by decide))
    · exact (congrFun (hd9 3 (by decide)).2 3).trans (hbw 3 (by decide))
    · exact (congrFun (hd9 3 (by decide)).2 4).trans (hbw 4 (by decide))
    · exact (congrFun (hd9 3 (by decide)).2 5).trans (hbw 5 (by decide))
    · exact (congrFun (hd9 22 (by decide)).2 0).trans hbt.1
    · exact (congrFun (hd9 22 (by decide)).2 1).trans hbt.2.1
    · exact (congrFun (hd9 23 (by decide)).2 0).trans hbt.2.2.1
    · exact (congrFun (hd9 25 (by decide)).2 0).trans hbt.2.2.2
    · exact (congrFun (hd9 29 (by decide)).2 0).trans rfl
    · exact (congrFun (hd9 29 (by decide)).2 1).trans rfl
    · exact (congrFun (hd9 29 (by decide)).2 2).trans rfl
    · exact (congrFun (hd9 29 (by decide)).2 3).trans rfl
    · exact (congrFun (hd9 29 (by decide)).2 4).trans rfl
    · exact (congrFun (hd9 29 (by decide)).2 5).trans rfl
    · exact (congrFun (hd9 29 (by decide)).2 6).trans rfl
    · exact hd0
    · exact hd1
    · exact hd2
    · exact rfl
    · exact rfl
    · exact rfl
    · exact rfl
    · exact rfl
    · exact absurd hlt (by decide)
    · exact absurd hlt (by decide)
    · exact absurd hlt (by decide)
    · exact absurd hlt (by decide)
    · exact absurd hlt (by decide)
    · exact absurd hlt (by decide)
    · exact absurd hlt (by decide)
    · exact absurd hlt (by decide)
    · exact absurd hlt (by decide)
    · exact hd3
  · rw [zz_n0_row _ (by omega), zz_n0_row _ (by omega), zm_g_row _ (by omega), zz_u_row _ _ (by omega), zz_u_row _ _ (by omega), zz_u_row _ _ (by omega), zz_n0_row _ (by omega), zz_n0_row _ (by omega), zz_n0_row _ (by omega), (hd9 (11 + c) (by omega)).1, zz_n0_row _ (by omega), zz_n0_row _ (by omega), zz_n0_row _ (by omega), zz_n0_row _ (by omega), zz_n0_row _ (by omega), zz_n0_row _ (by omega), zz_n0_row _ (by omega), zz_n0_row _ (by omega), zz_n0_row _ (by omega), zz_u_row _ _ (by omega)]
    exact hbk c j hc

set_option maxRecDepth 100000 in
set_option maxHeartbeats 4000000 in
theorem t_X12_init {C : zz_C} {d : Nat} {g : zz_G} {r : zz_R} {Q : zz_Q} (h : ∀ g' r', ((∀ k, (k < 50 ∨ k = 998) → g' k = g k ∧ r' k = r k) ∧ (r' 50 0 = some 51 ∧ r' 50 1 = some 52 ∧ r' 50 2 = some 53 ∧ r' 50 5 = some 54 ∧ r' 50 14 = some 55 ∧ r' 50 15 = some 56 ∧ r' 50 16 = some 57 ∧ r' 50 17 = some 58 ∧ r' 50 18 = some 59) ∧ (∀ j, g' 51 j = si_ 51 j) ∧ (∀ j, g' 50 j = g 50 j) ∧ ∀ k j, (52 ≤ k ∧ k ≤ 59) → g' k j = 0) → Q none g' r' 60) : zz_T C mi_X12_init (d + 1) 9 1100 [.ref 50] g r 51 Q := by
  refine zz_T.of [some (.ref 50)] (by decide +kernel) rfl (Nat.le_of_ble_eq_true rfl) ?_
  refine zz_aload_0 dX12_init_0 ?_
  refine zz_objI kj_X12_1 kj_obji kj_objc (Nat.le_of_ble_eq_true rfl) dX12_init_1 ?_
  refine zz_aload_0 dX12_init_4 ?_
  refine zz_sipush (276) dX12_init_5 (by decide) ?_
  refine zz_newI (by decide) (by decide) (by decide) (by decide) rfl ac_int (by decide) (by decide) dX12_init_8 ?_
  refine zz_putR fl_X12_7 rfl rfl (by decide) (Or.inr ⟨rfl, _, _, rfl, rfl⟩) rfl rfl dX12_init_10 ?_
  refine zz_aload_0 dX12_init_13 ?_
  refine zz_sipush (276) dX12_init_14 (by decide) ?_
  refine zz_newI (by decide) (by decide) (by decide) (by decide) rfl ac_int (by decide) (by decide) dX12_init_17 ?_
  refine zz_putR fl_X12_13 rfl rfl (by decide) (Or.inr ⟨rfl, _, _, rfl, rfl⟩) rfl rfl dX12_init_19 ?_
  refine zz_aload_0 dX12_init_22 ?_
  refine zz_sipush (276) dX12_init_23 (by decide) ?_
  refine zz_newI (by decide) (by decide) (by decide) (by decide) rfl ac_int (by decide) (by decide) dX12_init_26 ?_
  refine zz_putR fl_X12_16 rfl rfl (by decide) (Or.inr ⟨rfl, _, _, rfl, rfl⟩) rfl rfl dX12_init_28 ?_
  refine zz_aload_0 dX12_init_31 ?_
  refine zz_bipush (6) dX12_init_32 (by decide) ?_
  refine zz_newI (by decide) (by decide) (by decide) (by decide) rfl ac_int (by decide) (by decide) dX12_init_34 ?_
  refine zz_putR fl_X12_19 rfl rfl (by decide) (Or.inr ⟨rfl, _, _, rfl, rfl⟩) rfl rfl dX12_init_36 ?_
  refine zz_aload_0 dX12_init_39 ?_
  refine zz_iconst (4) dX12_init_40 (by decide) ?_
  refine zz_newI (by decide) (by decide) (by decide) (by decide) rfl ac_int (by decide) (by decide) dX12_init_41 ?_
  refine zz_putR fl_X12_22 rfl rfl (by decide) (Or.inr ⟨rfl, _, _, rfl, rfl⟩) rfl rfl dX12_init_43 ?_
  refine zz_aload_0 dX12_init_46 ?_
  refine zz_iconst (4) dX12_init_47 (by decide) ?_
  refine zz_newI (by decide) (by decide) (by decide) (by decide) rfl ac_int (by decide) (by decide) dX12_init_48 ?_
  refine zz_putR fl_X12_25 rfl rfl (by decide) (Or.inr ⟨rfl, _, _, rfl, rfl⟩) rfl rfl dX12_init_50 ?_
  refine zz_aload_0 dX12_init_53 ?_
  refine zz_sipush (160) dX12_init_54 (by decide) ?_
  refine zz_newI (by decide) (by decide) (by decide) (by decide) rfl ac_int (by decide) (by decide) dX12_init_57 ?_
  refine zz_putR fl_X12_28 rfl rfl (by decide) (Or.inr ⟨rfl, _, _, rfl, rfl⟩) rfl rfl dX12_init_59 ?_
  refine zz_aload_0 dX12_init_62 ?_
  refine zz_bipush (40) dX12_init_63 (by decide) ?_
  refine zz_newI (by decide) (by decide) (by decide) (by decide) rfl ac_int (by decide) (by decide) dX12_init_65 ?_
  refine zz_putR fl_X12_31 rfl rfl (by decide) (Or.inr ⟨rfl, _, _, rfl, rfl⟩) rfl rfl dX12_init_67 ?_
  refine zz_aload_0 dX12_init_70 ?_
  refine zz_bipush (40) dX12_init_71 (by decide) ?_
  refine zz_newI (by decide) (by decide) (by decide) (by decide) rfl ac_int (by decide) (by decide) dX12_init_73 ?_
  refine zz_putR fl_X12_34 rfl rfl (by decide) (Or.inr ⟨rfl, _, _, rfl, rfl⟩) rfl rfl dX12_init_75 ?_
  refine zz_aload_0 dX12_init_78 ?_
  refine zz_getR fl_X12_7 rfl rfl (by decide) (by rfl) dX12_init_79 ?_
  refine zz_iconst (1) dX12_init_82 (by decide) ?_
  refine zz_iconst (1) dX12_init_83 (by decide) ?_
  refine zz_iast 1 (by decide) (by decide) (by decide) rfl (by decide) dX12_init_84 ?_
  refine zz_aload_0 dX12_init_85 ?_
  refine zz_getR fl_X12_7 rfl rfl (by decide) (by rfl) dX12_init_86 ?_
  refine zz_iconst (5) dX12_init_89 (by decide) ?_
  refine zz_iconst (-1) dX12_init_90 (by decide) ?_
  refine zz_iast 5 (by decide) (by decide) (by decide) rfl (by decide) dX12_init_91 ?_
  refine zz_aload_0 dX12_init_92 ?_
  refine zz_getR fl_X12_7 rfl rfl (by decide) (by rfl) dX12_init_93 ?_
  refine zz_bipush (6) dX12_init_96 (by decide) ?_
  refine zz_iconst (-1) dX12_init_98 (by decide) ?_
  refine zz_iast 6 (by decide) (by decide) (by decide) rfl (by decide) dX12_init_99 ?_
  refine zz_aload_0 dX12_init_100 ?_
  refine zz_getR fl_X12_7 rfl rfl (by decide) (by rfl) dX12_init_101 ?_
  refine zz_bipush (8) dX12_init_104 (by decide) ?_
  refine zz_bipush (6) dX12_init_106 (by decide) ?_
  refine zz_iast 8 (by decide) (by decide) (by decide) rfl (by decide) dX12_init_108 ?_
  refine zz_aload_0 dX12_init_109 ?_
  refine zz_getR fl_X12_7 rfl rfl (by decide) (by rfl) dX12_init_110 ?_
  refine zz_bipush (9) dX12_init_113 (by decide) ?_
  refine zz_bipush (30) dX12_init_115 (by decide) ?_
  refine zz_iast 9 (by decide) (by decide) (by decide) rfl (by decide) dX12_init_117 ?_
  refine zz_aload_0 dX12_init_118 ?_
  refine zz_getR fl_X12_7 rfl rfl (by decide) (by rfl) dX12_init_119 ?_
  refine zz_bipush (10) dX12_init_122 (by decide) ?_
  refine zz_iconst (3) dX12_init_124 (by decide) ?_
  refine zz_iast 10 (by decide) (by decide) (by decide) rfl (by decide) dX12_init_125 ?_
  refine zz_aload_0 dX12_init_126 ?_
  refine zz_getR fl_X12_7 rfl rfl (by decide) (by rfl) dX12_init_127 ?_
  refine zz_bipush (11) dX12_init_130 (by decide) ?_
  refine zz_sipush (3600) dX12_init_132 (by decide) ?_
  refine zz_iast 11 (by decide) (by decide) (by decide) rfl (by decide) dX12_init_135 ?_
  refine zz_vret rfl dX12_init_136 (by decide) (by decide) ?_
  refine h _ _ ⟨fun k hk => ⟨?_, ?_⟩, ⟨rfl, rfl, rfl, rfl, rfl, rfl, rfl, rfl, rfl⟩, fun j => ?_, fun j => rfl, fun k j hk => ?_⟩
  · rw [zz_u_row _ _ (by omega), zz_u_row _ _ (by omega), zz_u_row _ _ (by omega), zz_u_row _ _ (by omega), zz_u_row _ _ (by omega), zz_u_row _ _ (by omega), zz_u_row _ _ (by omega), zz_n0_row _ (by omega), zz_n0_row _ (by omega), zz_n0_row _ (by omega), zz_n0_row _ (by omega), zz_n0_row _ (by omega), zz_n0_row _ (by omega), zz_n0_row _ (by omega), zz_n0_row _ (by omega), zz_n0_row _ (by omega)]
  · rw [zz_ur_row _ _ (by omega), zz_ur_row _ _ (by omega), zz_ur_row _ _ (by omega), zz_ur_row _ _ (by omega), zz_ur_row _ _ (by omega), zz_ur_row _ _ (by omega), zz_ur_row _ _ (by omega), zz_ur_row _ _ (by omega), zz_ur_row _ _ (by omega)]
  · by_cases hj : j = 1 ∨ j = 5 ∨ j = 6 ∨ j = 8 ∨ j = 9 ∨ j = 10 ∨ j = 11
    · rcases hj with e | e | e | e | e | e | e <;> subst e <;> rfl
    · rw [si_z (by omega), zz_u_ne2 _ _ (by omega), zz_u_ne2 _ _ (by omega), zz_u_ne2 _ _ (by omega), zz_u_ne2 _ _ (by omega), zz_u_ne2 _ _ (by omega), zz_u_ne2 _ _ (by omega), zz_u_ne2 _ _ (by omega)]
      rfl
  · rcases (show k = 52 ∨ k = 53 ∨ k = 54 ∨ k = 55 ∨ k = 56 ∨ k = 57 ∨ k = 58 ∨ k = 59 by omega) with e | e | e | e | e | e | e | e <;> subst e <;> rfl
