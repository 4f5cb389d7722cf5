theorem sp_rule_j (S : zz_G) (v : Int32) : ∀ j : Nat, j ≤ 4 → sp_rule S (nI j) v = if v < ([1, 1, 1, 1, 0] : List Int32).getD j 0 ∨ ([6, 300, 9, 9999, 1] : List Int32).getD j 0 < v then sp_err S 1 else sp_set S (8 + j) v
  | 0, _ => by rw [sp_rule, if_pos (by decide)]; rfl
  | 1, _ => by rw [sp_rule, if_neg (by decide), if_pos (by decide)]; rfl
  | 2, _ => by rw [sp_rule, if_neg (by decide), if_neg (by decide), if_pos (by decide)]; rfl
  | 3, _ => by rw [sp_rule, if_neg (by decide), if_neg (by decide), if_neg (by decide), if_pos (by decide)]; rfl
  | 4, _ => by rw [sp_rule, if_neg (by decide), if_neg (by decide), if_neg (by decide), if_neg (by decide), if_pos (by decide)]; rfl
  | j + 5, h => by omega
theorem sp_rule_o (S : zz_G) {what v : Int32} (h : what < 0 ∨ 4 < what) : sp_rule S what v = sp_err S 1 := by
  have hne : ∀ q : Int32, ¬ q < 0 → ¬ 4 < q → ¬ what = q := fun q h1 h2 e => by rw [e] at h; exact h.elim h1 h2
  rw [sp_rule, if_neg (hne 0 (by decide) (by decide)), if_neg (hne 1 (by decide) (by decide)), if_neg (hne 2 (by decide) (by decide)), if_neg (hne 3 (by decide) (by decide)), if_neg (hne 4 (by decide) (by decide))]
set_option maxRecDepth 100000 in
set_option maxHeartbeats 4000000 in
theorem t_X11_rule {C : zz_C} {d n : Nat} {g : zz_G} {r : zz_R} {Q : zz_Q} {S : zz_G} (hx : x_rel S g r n) {what v : Int32}  (h : x_o g Q (sp_rule S what v)) : zz_T C mi_X11_rule (d + 1) 0 0 [.ref 0, .int what, .int v] g r n Q := by
  have hn := hx.nn
  have hr := hx.1
  refine zz_T.of [some (.ref 0), some (.int what), some (.int v), none] (by decide +kernel) rfl (Nat.le_of_ble_eq_true rfl) ?_
  refine zz_iload_1 dX11_rule_0 ?_
  refine zz_if_lt 27 dX11_rule_1 (by decide) (fun c_1 => ?_) (fun c_1 => ?_)
  · skip
    refine zz_aload_0 dX11_rule_27 ?_
    refine zz_iconst (1) dX11_rule_28 (by decide) ?_
    refine zz_callV1i cv_X11_86 rfl (Nat.lt_of_lt_of_le (by decide) hn) (Nat.le_of_ble_eq_true rfl) (by decide) (by decide) dX11_rule_29 (t_X11_error hn hr 1 rfl (by decide) ⟨_, rfl, ?_⟩)
    refine zz_iret rfl dX11_rule_32 (by decide) (by decide) ?_
    first
      | (rw [sp_rule_o S (Or.inl c_1)] at h; exact x_er hx (by decide) h)
      | (rw [sp_rule_o S (Or.inr c_6)] at h; exact x_er hx (by decide) h)
      | (rw [ej, sp_rule_j S v j hj, if_pos (Or.inl c_15)] at h; exact x_er hx (by decide) h)
      | (rw [ej, sp_rule_j S v j hj, if_pos (Or.inr (Int32.not_le.mp c_24))] at h; exact x_er hx (by decide) h)
  · skip
    refine zz_iload_1 dX11_rule_4 ?_
    refine zz_iconst (4) dX11_rule_5 (by decide) ?_
    refine zz_icmp_gt 27 dX11_rule_6 (by decide) (fun c_6 => ?_) (fun c_6 => ?_)
    · skip
      refine zz_aload_0 dX11_rule_27 ?_
      refine zz_iconst (1) dX11_rule_28 (by decide) ?_
      refine zz_callV1i cv_X11_86 rfl (Nat.lt_of_lt_of_le (by decide) hn) (Nat.le_of_ble_eq_true rfl) (by decide) (by decide) dX11_rule_29 (t_X11_error hn hr 1 rfl (by decide) ⟨_, rfl, ?_⟩)
      refine zz_iret rfl dX11_rule_32 (by decide) (by decide) ?_
      first
        | (rw [sp_rule_o S (Or.inl c_1)] at h; exact x_er hx (by decide) h)
        | (rw [sp_rule_o S (Or.inr c_6)] at h; exact x_er hx (by decide) h)
        | (rw [ej, sp_rule_j S v j hj, if_pos (Or.inl c_15)] at h; exact x_er hx (by decide) h)
        | (rw [ej, sp_rule_j S v j hj, if_pos (Or.inr (Int32.not_le.mp c_24))] at h; exact x_er hx (by decide) h)
    · skip
      refine zz_iload_2 dX11_rule_9 ?_
      refine zz_gs (i := 0) gz_0 gs_X11_80 dX11_rule_10 ?_
      refine zz_iload_1 dX11_rule_13 ?_
      obtain ⟨j, hj0, hj, ej⟩ := zz_in0 (lo := 0) (hi := 4) rfl rfl (by decide) (by decide) c_1 c_6
      refine zz_tald gt_0 j ej (by omega) (by decide) dX11_rule_14 ?_
      refine zz_icmp_lt 27 dX11_rule_15 (by decide) (fun c_15 => ?_) (fun c_15 => ?_)
      · skip
        refine zz_aload_0 dX11_rule_27 ?_
        refine zz_iconst (1) dX11_rule_28 (by decide) ?_
        refine zz_callV1i cv_X11_86 rfl (Nat.lt_of_lt_of_le (by decide) hn) (Nat.le_of_ble_eq_true rfl) (by decide) (by decide) dX11_rule_29 (t_X11_error hn hr 1 rfl (by decide) ⟨_, rfl, ?_⟩)
        refine zz_iret rfl dX11_rule_32 (by decide) (by decide) ?_
        first
          | (rw [sp_rule_o S (Or.inl c_1)] at h; exact x_er hx (by decide) h)
          | (rw [sp_rule_o S (Or.inr c_6)] at h; exact x_er hx (by decide) h)
          | (rw [ej, sp_rule_j S v j hj, if_pos (Or.inl c_15)] at h; exact x_er hx (by decide) h)
          | (rw [ej, sp_rule_j S v j hj, if_pos (Or.inr (Int32.not_le.mp c_24))] at h; exact x_er hx (by decide) h)
      · skip
        refine zz_iload_2 dX11_rule_18 ?_
        refine zz_gs (i := 1) gz_1 gs_X11_83 dX11_rule_19 ?_
        refine zz_iload_1 dX11_rule_22 ?_
        refine zz_tald gt_1 j ej (by omega) (by decide) dX11_rule_23 ?_
        refine zz_icmp_le 33 dX11_rule_24 (by decide) (fun c_24 => ?_) (fun c_24 => ?_)
        · skip
          refine zz_aload_0 dX11_rule_33 ?_
          refine zz_getR fl_X11_10 rfl rfl (Nat.lt_of_lt_of_le (by decide) hn) (xr_0_0 hr) dX11_rule_34 ?_
          refine zz_getR fl_X11_90 rfl rfl (Nat.lt_of_lt_of_le (by decide) hn) (xr_1_0 hr) dX11_rule_37 ?_
          refine zz_iload_1 dX11_rule_40 ?_
          refine zz_iaN j ej (by omega) (by decide) rfl (Nat.lt_of_lt_of_le (by decide) hn) dX11_rule_41 ?_
          refine zz_istore_3 dX11_rule_42 rfl rfl ?_
          refine zz_aload_0 dX11_rule_43 ?_
          refine zz_getR fl_X11_10 rfl rfl (Nat.lt_of_lt_of_le (by decide) hn) (xr_0_0 hr) dX11_rule_44 ?_
          refine zz_getR fl_X11_90 rfl rfl (Nat.lt_of_lt_of_le (by decide) hn) (xr_1_0 hr) dX11_rule_47 ?_
          refine zz_iload_1 dX11_rule_50 ?_
          refine zz_iload_2 dX11_rule_51 ?_
          refine zz_isN j ej (by omega) (by decide) rfl (Nat.lt_of_lt_of_le (by decide) hn) dX11_rule_52 ?_
          refine zz_iload_3 dX11_rule_53 ?_
          refine zz_iret rfl dX11_rule_54 (by decide) (by decide) ?_
          rw [ej, sp_rule_j S v j hj, if_neg (fun z9 => z9.elim c_15 (fun z8 => absurd c_24 (Int32.not_le.mpr z8))), sp_set, x_dr hx (by omega)] at h
          exact h.e ((x_F.rf hx).dr (by omega))
        · skip
          refine zz_aload_0 dX11_rule_27 ?_
          refine zz_iconst (1) dX11_rule_28 (by decide) ?_
          refine zz_callV1i cv_X11_86 rfl (Nat.lt_of_lt_of_le (by decide) hn) (Nat.le_of_ble_eq_true rfl) (by decide) (by decide) dX11_rule_29 (t_X11_error hn hr 1 rfl (by decide) ⟨_, rfl, ?_⟩)
          refine zz_iret rfl dX11_rule_32 (by decide) (by decide) ?_
          first
            | (rw [sp_rule_o S (Or.inl c_1)] at h; exact x_er hx (by decide) h)
            | (rw [sp_rule_o S (Or.inr c_6)] at h; exact x_er hx (by decide) h)
            | (rw [ej, sp_rule_j S v j hj, if_pos (Or.inl c_15)] at h; exact x_er hx (by decide) h)
            | (rw [ej, sp_rule_j S v j hj, if_pos (Or.inr (Int32.not_le.mp c_24))] at h; exact x_er hx (by decide) h)

set_option maxRecDepth 100000 in
set_option maxHeartbeats 4000000 in
theorem t_X11_way {C : zz_C} {d n : Nat} {g : zz_G} {r : zz_R} {Q : zz_Q} {S : zz_G} (hx : x_rel S g r n) {km far place : Int32} (mw : Nat) (hmw : S 51 2 = nI mw) (hmw6 : mw ≤ 6) (h : x_o g Q (sp_way S km far place)) : zz_T C mi_X11_way (d + 2) 0 0 [.ref 0, .int km, .int far, .int place] g r n Q := by
  have hn := hx.nn
  have hr := hx.1
  have hmw1 : g 1 7 = nI mw := (x_s2 hx).symm.trans hmw
  refine zz_T.of [some (.ref 0), some (.int km), some (.int far), some (.int place), none, none] (by decide +kernel) rfl (Nat.le_of_ble_eq_true rfl) ?_
  refine zz_iload_1 dX11_way_0 ?_
  refine zz_bipush (69) dX11_way_1 (by decide) ?_
  refine zz_callS2i cs_X11_93 (Nat.le_of_ble_eq_true rfl) (by decide) (by decide) dX11_way_3 (t_X11_within (fun a_3 b_3 => ⟨_, rfl, ?_⟩) (fun o_3 => ⟨_, rfl, ?_⟩))
  · skip
    refine zz_if_eq 25 dX11_way_6 (by decide) (fun h => absurd h (by decide)) (fun _ => ?_)
    refine zz_iload_2 dX11_way_9 ?_
    refine zz_bipush (99) dX11_way_10 (by decide) ?_
    refine zz_callS2i cs_X11_93 (Nat.le_of_ble_eq_true rfl) (by decide) (by decide) dX11_way_12 (t_X11_within (fun a_12 b_12 => ⟨_, rfl, ?_⟩) (fun o_12 => ⟨_, rfl, ?_⟩))
    · skip
      refine zz_if_eq 25 dX11_way_15 (by decide) (fun h => absurd h (by decide)) (fun _ => ?_)
      refine zz_iload_3 dX11_way_18 ?_
      refine zz_callS1i cs_X11_97 (Nat.le_of_ble_eq_true rfl) (by decide) (by decide) dX11_way_19 (t_X11_isPlace (fun a_19 b_19 => ⟨_, rfl, ?_⟩) (fun o_19 => ⟨_, rfl, ?_⟩))
      · skip
        refine zz_if_ne 31 dX11_way_22 (by decide) (fun _ => ?_) (fun h => absurd h (by decide))
        refine zz_aload_0 dX11_way_31 ?_
        refine zz_getR fl_X11_10 rfl rfl (Nat.lt_of_lt_of_le (by decide) hn) (xr_0_0 hr) dX11_way_32 ?_
        refine zz_getI fl_X11_101 rfl rfl (Nat.lt_of_lt_of_le (by decide) hn) dX11_way_35 ?_
        refine zz_bipush (6) dX11_way_38 (by decide) ?_
        refine zz_icmp_lt 49 dX11_way_40 (by decide) (fun c_40 => ?_) (fun c_40 => ?_)
        · skip
          refine zz_aload_0 dX11_way_49 ?_
          refine zz_getR fl_X11_10 rfl rfl (Nat.lt_of_lt_of_le (by decide) hn) (xr_0_0 hr) dX11_way_50 ?_
          refine zz_getI fl_X11_101 rfl rfl (Nat.lt_of_lt_of_le (by decide) hn) dX11_way_53 ?_
          refine zz_istore_4 dX11_way_56 rfl rfl ?_
          refine zz_aload_0 dX11_way_58 ?_
          refine zz_getR fl_X11_10 rfl rfl (Nat.lt_of_lt_of_le (by decide) hn) (xr_0_0 hr) dX11_way_59 ?_
          refine zz_getR fl_X11_104 rfl rfl (Nat.lt_of_lt_of_le (by decide) hn) (xr_1_6 hr) dX11_way_62 ?_
          refine zz_iload_4 dX11_way_65 ?_
          have hlt : mw < 6 := by
              rw [hmw1] at c_40
              exact (nI_ltI (a := mw) (b := 6) (by omega) (by omega)).mp c_40
          refine zz_aaN mw hmw1 hlt (by decide) (by decide) rfl (Nat.lt_of_lt_of_le (by decide) hn) (xr_way hr mw hlt) dX11_way_67 ?_
          refine zz_astore_5 dX11_way_68 rfl rfl ?_
          refine zz_aload_5 dX11_way_70 ?_
          refine zz_iconst (0) dX11_way_72 (by decide) ?_
          refine zz_iload_1 dX11_way_73 ?_
          refine zz_bipush (10) dX11_way_74 (by decide) ?_
          refine zz_idiv dX11_way_76 (by decide) ?_
          refine zz_iast 0 (by decide) (by decide) (by decide) (xs_way mw hlt) (by omega) dX11_way_77 ?_
          refine zz_aload_5 dX11_way_78 ?_
          refine zz_iconst (1) dX11_way_80 (by decide) ?_
          refine zz_iload_1 dX11_way_81 ?_
          refine zz_bipush (10) dX11_way_82 (by decide) ?_
          refine zz_irem dX11_way_84 (by decide) ?_
          refine zz_iast 1 (by decide) (by decide) (by decide) (xs_way mw hlt) (by omega) dX11_way_85 ?_
          refine zz_aload_5 dX11_way_86 ?_
          refine zz_iconst (2) dX11_way_88 (by decide) ?_
          refine zz_iload_2 dX11_way_89 ?_
          refine zz_iast 2 (by decide) (by decide) (by decide) (xs_way mw hlt) (by omega) dX11_way_90 ?_
          refine zz_aload_5 dX11_way_91 ?_
          refine zz_iconst (3) dX11_way_93 (by decide) ?_
          refine zz_iload_3 dX11_way_94 ?_
          refine zz_iast 3 (by decide) (by decide) (by decide) (xs_way mw hlt) (by omega) dX11_way_95 ?_
          refine zz_aload_5 dX11_way_96 ?_
          refine zz_iconst (4) dX11_way_98 (by decide) ?_
          refine zz_iconst (0) dX11_way_99 (by decide) ?_
          refine zz_iast 4 (by decide) (by decide) (by decide) (xs_way mw hlt) (by omega) dX11_way_100 ?_
          refine zz_aload_0 dX11_way_101 ?_
          refine zz_getR fl_X11_10 rfl rfl (Nat.lt_of_lt_of_le (by decide) hn) (xr_0_0 hr) dX11_way_102 ?_
          refine zz_dup dX11_way_105 rfl ?_
          refine zz_getI fl_X11_101 rfl rfl (Nat.lt_of_lt_of_le (by decide) hn) dX11_way_106 ?_
          refine zz_iconst (1) dX11_way_109 (by decide) ?_
          refine zz_iadd dX11_way_110 ?_
          refine zz_putI fl_X11_101 rfl rfl (Nat.lt_of_lt_of_le (by decide) hn) dX11_way_111 ?_
          refine zz_iload_4 dX11_way_114 ?_
          refine zz_iret rfl dX11_way_116 (by decide) (by decide) ?_
          rw [sp_way, if_neg (fun z9 => z9.elim a_3 b_3), if_neg (fun z9 => z9.elim a_12 b_12), if_neg (fun z9 => z9.elim a_19 b_19), if_neg (by rw [hmw]; exact fun z9 => absurd ((nI_eq (a := mw) (b := 6) (by omega) (by omega)).mp z9) (by omega)), hmw, ix_w (by omega)] at h
          simp only [zz_u_ne1 _ _ (show (1 : Nat) ≠ 4 + mw by omega), hmw1]
          exact h.e ((((((((x_F.rf hx).wy hlt (by decide)).wy hlt (by decide)).wy hlt (by decide)).wy hlt (by decide)).wy hlt (by decide))).s2)
        · skip
          refine zz_aload_0 dX11_way_43 ?_
          refine zz_iconst (4) dX11_way_44 (by decide) ?_
          refine zz_callV1i cv_X11_86 rfl (Nat.lt_of_lt_of_le (by decide) hn) (Nat.le_of_ble_eq_true rfl) (by decide) (by decide) dX11_way_45 (t_X11_error hn hr 4 rfl (by decide) ⟨_, rfl, ?_⟩)
          refine zz_iret rfl dX11_way_48 (by decide) (by decide) ?_
          rw [hmw1] at c_40
          have h6 : 6 ≤ mw := Nat.not_lt.mp fun z9 => c_40 ((nI_ltI (a := mw) (b := 6) (by omega) (by omega)).mpr z9)
          rw [sp_way, if_neg (fun z9 => z9.elim a_3 b_3), if_neg (fun z9 => z9.elim a_12 b_12), if_neg (fun z9 => z9.elim a_19 b_19), if_pos (by rw [hmw, show mw = 6 by omega]; rfl)] at h
          exact x_er hx (by decide) h
      · skip
        refine zz_if_ne 31 dX11_way_22 (by decide) (fun h => absurd h (by decide)) (fun _ => ?_)
        refine zz_aload_0 dX11_way_25 ?_
        refine zz_iconst (1) dX11_way_26 (by decide) ?_
        refine zz_callV1i cv_X11_86 rfl (Nat.lt_of_lt_of_le (by decide) hn) (Nat.le_of_ble_eq_true rfl) (by decide) (by decide) dX11_way_27 (t_X11_error hn hr 1 rfl (by decide) ⟨_, rfl, ?_⟩)
        refine zz_iret rfl dX11_way_30 (by decide) (by decide) ?_
        first
          | (rw [sp_way, if_pos o_3] at h; exact x_er hx (by decide) h)
          | (rw [sp_way, if_neg (fun z9 => z9.elim a_3 b_3), if_pos o_12] at h; exact x_er hx (by decide) h)
          | (rw [sp_way, if_neg (fun z9 => z9.elim a_3 b_3), if_neg (fun z9 => z9.elim a_12 b_12), if_pos o_19] at h; exact x_er hx (by decide) h)
    · skip
      refine zz_if_eq 25 dX11_way_15 (by decide) (fun _ => ?_) (fun h => absurd h (by decide))
      refine zz_aload_0 dX11_way_25 ?_
      refine zz_iconst (1) dX11_way_26 (by decide) ?_
      refine zz_callV1i cv_X11_86 rfl (Nat.lt_of_lt_of_le (by decide) hn) (Nat.le_of_ble_eq_true rfl) (by decide) (by decide) dX11_way_27 (t_X11_error hn hr 1 rfl (by decide) ⟨_, rfl, ?_⟩)
      refine zz_iret rfl dX11_way_30 (by decide) (by decide) ?_
      first
        | (rw [sp_way, if_pos o_3] at h; exact x_er hx (by decide) h)
        | (rw [sp_way, if_neg (fun z9 => z9.elim a_3 b_3), if_pos o_12] at h; exact x_er hx (by decide) h)
        | (rw [sp_way, if_neg (fun z9 => z9.elim a_3 b_3), if_neg (fun z9 => z9.elim a_12 b_12), if_pos o_19] at h; exact x_er hx (by decide) h)
  · skip
    refine zz_if_eq 25 dX11_way_6 (by decide) (fun _ => ?_) (fun h => absurd h (by decide))
    refine zz_aload_0 dX11_way_25 ?_
    refine zz_iconst (1) dX11_way_26 (by decide) ?_
    refine zz_callV1i cv_X11_86 rfl (Nat.lt_of_lt_of_le (by decide) hn) (Nat.le_of_ble_eq_true rfl) (by decide) (by decide) dX11_way_27 (t_X11_error hn hr 1 rfl (by decide) ⟨_, rfl, ?_⟩)
    refine zz_iret rfl dX11_way_30 (by decide) (by decide) ?_
    first
      | (rw [sp_way, if_pos o_3] at h; exact x_er hx (by decide) h)
      | (rw [sp_way, if_neg (fun z9 => z9.elim a_3 b_3), if_pos o_12] at h; exact x_er hx (by decide) h)
      | (rw [sp_way, if_neg (fun z9 => z9.elim a_3 b_3), if_neg (fun z9 => z9.elim a_12 b_12), if_pos o_19] at h; exact x_er hx (by decide) h)

theorem zz_u_sw (g : zz_G) {k j a b : Nat} (x y : Int32) (h : ¬ (a = k ∧ b = j)) : zz_u (zz_u g k j x) a b y = zz_u (zz_u g a b y) k j x := by
  funext p q
  unfold zz_u
  by_cases h1 : p = a ∧ q = b
  · rw [if_pos h1, if_neg (fun z9 => h ⟨h1.1.symm.trans z9.1, h1.2.symm.trans z9.2⟩), if_pos h1]
  · rw [if_neg h1]
    by_cases h2 : p = k ∧ q = j
    · rw [if_pos h2, if_pos h2]
    · rw [if_neg h2, if_neg h2, if_neg h1]
set_option maxRecDepth 100000 in
set_option maxHeartbeats 4000000 in
theorem t_X11_become {C : zz_C} {d n : Nat} {g : zz_G} {r : zz_R} {Q : zz_Q} {S : zz_G} (hx : x_rel S g r n) {v km : Int32} (mw : Nat) (hmw : S 51 2 = nI mw) (hmw6 : mw ≤ 6) (h : x_o g Q (sp_become S v km)) : zz_T C mi_X11_become (d + 1) 0 0 [.ref 0, .int v, .int km] g r n Q := by
  have hn := hx.nn
  have hr := hx.1
  have hmw1 : g 1 7 = nI mw := (x_s2 hx).symm.trans hmw
  refine zz_T.of [some (.ref 0), some (.int v), some (.int km), none] (by decide +kernel) rfl (Nat.le_of_ble_eq_true rfl) ?_
  refine zz_aload_0 dX11_become_0 ?_
  refine zz_iload_1 dX11_become_1 ?_
  refine zz_callV1i cv_X11_107 rfl (Nat.lt_of_lt_of_le (by decide) hn) (Nat.le_of_ble_eq_true rfl) (by decide) (by decide) dX11_become_2 (t_X11_isWay hn hr mw hmw1 hmw6 (fun w_2 hw_2 ew_2 => ⟨_, rfl, ?_⟩) (fun nw_2 => ⟨_, rfl, ?_⟩))
  · skip
    subst ew_2
    have ia_2 := sp_isw_a (w := w_2) (Nat.lt_of_lt_of_le hw_2 hmw6)
    have ib_2 := sp_isw_b hmw hmw6 hw_2
    refine zz_if_eq 17 dX11_become_5 (by decide) (fun h => absurd h (by decide)) (fun _ => ?_)
    refine zz_iload_2 dX11_become_8 ?_
    refine zz_bipush (69) dX11_become_9 (by decide) ?_
    refine zz_callS2i cs_X11_93 (Nat.le_of_ble_eq_true rfl) (by decide) (by decide) dX11_become_11 (t_X11_within (fun a_11 b_11 => ⟨_, rfl, ?_⟩) (fun o_11 => ⟨_, rfl, ?_⟩))
    · skip
      refine zz_if_ne 23 dX11_become_14 (by decide) (fun _ => ?_) (fun h => absurd h (by decide))
      refine zz_aload_0 dX11_become_23 ?_
      refine zz_getR fl_X11_10 rfl rfl (Nat.lt_of_lt_of_le (by decide) hn) (xr_0_0 hr) dX11_become_24 ?_
      refine zz_getR fl_X11_104 rfl rfl (Nat.lt_of_lt_of_le (by decide) hn) (xr_1_6 hr) dX11_become_27 ?_
      refine zz_iload_1 dX11_become_30 ?_
      refine zz_aaN w_2 rfl (by omega) (by decide) (by decide) rfl (Nat.lt_of_lt_of_le (by decide) hn) (xr_way hr w_2 (by omega)) dX11_become_31 ?_
      refine zz_iconst (0) dX11_become_32 (by decide) ?_
      refine zz_iald 0 (by decide) (by decide) (by decide) (xs_way w_2 (by omega)) (by omega) dX11_become_33 ?_
      refine zz_istore_3 dX11_become_34 rfl rfl ?_
      refine zz_aload_0 dX11_become_35 ?_
      refine zz_getR fl_X11_10 rfl rfl (Nat.lt_of_lt_of_le (by decide) hn) (xr_0_0 hr) dX11_become_36 ?_
      refine zz_getR fl_X11_104 rfl rfl (Nat.lt_of_lt_of_le (by decide) hn) (xr_1_6 hr) dX11_become_39 ?_
      refine zz_iload_1 dX11_become_42 ?_
      refine zz_aaN w_2 rfl (by omega) (by decide) (by decide) rfl (Nat.lt_of_lt_of_le (by decide) hn) (xr_way hr w_2 (by omega)) dX11_become_43 ?_
      refine zz_iconst (0) dX11_become_44 (by decide) ?_
      refine zz_iload_2 dX11_become_45 ?_
      refine zz_bipush (10) dX11_become_46 (by decide) ?_
      refine zz_idiv dX11_become_48 (by decide) ?_
      refine zz_iast 0 (by decide) (by decide) (by decide) (xs_way w_2 (by omega)) (by omega) dX11_become_49 ?_
      refine zz_aload_0 dX11_become_50 ?_
      refine zz_getR fl_X11_10 rfl rfl (Nat.lt_of_lt_of_le (by decide) hn) (xr_0_0 hr) dX11_become_51 ?_
      refine zz_getR fl_X11_104 rfl rfl (Nat.lt_of_lt_of_le (by decide) hn) (xr_1_6 hr) dX11_become_54 ?_
      refine zz_iload_1 dX11_become_57 ?_
      refine zz_aaN w_2 rfl (by omega) (by decide) (by decide) rfl (Nat.lt_of_lt_of_le (by decide) hn) (xr_way hr w_2 (by omega)) dX11_become_58 ?_
      refine zz_iconst (1) dX11_become_59 (by decide) ?_
      refine zz_iload_2 dX11_become_60 ?_
      refine zz_bipush (10) dX11_become_61 (by decide) ?_
      refine zz_irem dX11_become_63 (by decide) ?_
      refine zz_iast 1 (by decide) (by decide) (by decide) (xs_way w_2 (by omega)) (by omega) dX11_become_64 ?_
      refine zz_iload_3 dX11_become_65 ?_
      refine zz_iret rfl dX11_become_66 (by decide) (by decide) ?_
      rw [sp_become, if_neg (fun q => q ⟨ia_2, ib_2⟩), if_neg (fun z9 => z9.elim a_11 b_11), ix_w (by omega), x_wy0 hx (by omega), zz_u_sw _ _ _ (by omega)] at h
      exact h.e (((x_F.rf hx).wy (j := 0) (show w_2 < 6 by omega) (by decide)).wy (j := 1) (show w_2 < 6 by omega) (by decide))
    · skip
      refine zz_if_ne 23 dX11_become_14 (by decide) (fun h => absurd h (by decide)) (fun _ => ?_)
      refine zz_aload_0 dX11_become_17 ?_
      refine zz_iconst (1) dX11_become_18 (by decide) ?_
      refine zz_callV1i cv_X11_86 rfl (Nat.lt_of_lt_of_le (by decide) hn) (Nat.le_of_ble_eq_true rfl) (by decide) (by decide) dX11_become_19 (t_X11_error hn hr 1 rfl (by decide) ⟨_, rfl, ?_⟩)
      refine zz_iret rfl dX11_become_22 (by decide) (by decide) ?_
      first
        | (rw [sp_become, if_pos ic_2] at h; exact x_er hx (by decide) h)
        | (rw [sp_become, if_neg (fun q => q ⟨ia_2, ib_2⟩), if_pos o_11] at h; exact x_er hx (by decide) h)
  · skip
    have ic_2 := sp_isw_c hmw hmw6 nw_2
    refine zz_if_eq 17 dX11_become_5 (by decide) (fun _ => ?_) (fun h => absurd h (by decide))
    refine zz_aload_0 dX11_become_17 ?_
    refine zz_iconst (1) dX11_become_18 (by decide) ?_
    refine zz_callV1i cv_X11_86 rfl (Nat.lt_of_lt_of_le (by decide) hn) (Nat.le_of_ble_eq_true rfl) (by decide) (by decide) dX11_become_19 (t_X11_error hn hr 1 rfl (by decide) ⟨_, rfl, ?_⟩)
    refine zz_iret rfl dX11_become_22 (by decide) (by decide) ?_
    first
      | (rw [sp_become, if_pos ic_2] at h; exact x_er hx (by decide) h)
      | (rw [sp_become, if_neg (fun q => q ⟨ia_2, ib_2⟩), if_pos o_11] at h; exact x_er hx (by decide) h)

theorem sp_chok_o {what v : Int32} (h : what < 0 ∨ 2 < what) : ¬ sp_chok what v := by
  have hne : ∀ q : Int32, ¬ q < 0 → ¬ 2 < q → ¬ what = q := fun q h1 h2 e => by rw [e] at h; exact h.elim h1 h2
  rw [sp_chok, if_neg (hne 0 (by decide) (by decide)), if_neg (hne 1 (by decide) (by decide))]
  exact fun z9 => hne 2 (by decide) (by decide) z9.1
theorem sp_chok_n {what v : Int32} (h0 : what = 0 → v < 0 ∨ 99 < v) (h1 : what = 1 → v < 0 ∨ 5 < v) (h2 : what = 2 → v < 0 ∨ 1 < v) : ¬ sp_chok what v := by
  intro h
  rw [sp_chok] at h
  by_cases e0 : what = 0
  · rw [if_pos e0] at h
    exact h (h0 e0)
  · rw [if_neg e0] at h
    by_cases e1 : what = 1
    · rw [if_pos e1] at h
      exact h (h1 e1)
    · rw [if_neg e1] at h
      exact h.2 (h2 h.1)
set_option maxRecDepth 100000 in
set_option maxHeartbeats 4000000 in
theorem t_X11_change {C : zz_C} {d n : Nat} {g : zz_G} {r : zz_R} {Q : zz_Q} {S : zz_G} (hx : x_rel S g r n) {v what x : Int32} (mw : Nat) (hmw : S 51 2 = nI mw) (hmw6 : mw ≤ 6) (h : x_o g Q (sp_change S v what x)) : zz_T C mi_X11_change (d + 1) 0 0 [.ref 0, .int v, .int what, .int x] g r n Q := by
  have hn := hx.nn
  have hr := hx.1
  have hmw1 : g 1 7 = nI mw := (x_s2 hx).symm.trans hmw
  refine zz_T.of [some (.ref 0), some (.int v), some (.int what), some (.int x), none] (by decide +kernel) rfl (Nat.le_of_ble_eq_true rfl) ?_
  refine zz_aload_0 dX11_change_0 ?_
  refine zz_iload_1 dX11_change_1 ?_
  refine zz_callV1i cv_X11_107 rfl (Nat.lt_of_lt_of_le (by decide) hn) (Nat.le_of_ble_eq_true rfl) (by decide) (by decide) dX11_change_2 (t_X11_isWay hn hr mw hmw1 hmw6 (fun w_2 hw_2 ew_2 => ⟨_, rfl, ?_⟩) (fun nw_2 => ⟨_, rfl, ?_⟩))
  · skip
    subst ew_2
    have ia_2 := sp_isw_a (w := w_2) (Nat.lt_of_lt_of_le hw_2 hmw6)
    have ib_2 := sp_isw_b hmw hmw6 hw_2
    refine zz_if_eq 29 dX11_change_5 (by decide) (fun h => absurd h (by decide)) (fun _ => ?_)
    refine zz_iload_2 dX11_change_8 ?_
    refine zz_iconst (2) dX11_change_9 (by decide) ?_
    refine zz_callS2i cs_X11_93 (Nat.le_of_ble_eq_true rfl) (by decide) (by decide) dX11_change_10 (t_X11_within (fun a_10 b_10 => ⟨_, rfl, ?_⟩) (fun o_10 => ⟨_, rfl, ?_⟩))
    · skip
      refine zz_if_eq 29 dX11_change_13 (by decide) (fun h => absurd h (by decide)) (fun _ => ?_)
      refine zz_iload_3 dX11_change_16 ?_
      refine zz_iconst (2) dX11_change_17 (by decide) ?_
      refine zz_iload_2 dX11_change_18 ?_
      refine zz_iadd dX11_change_19 ?_
      refine zz_callS1i cs_X11_120 (Nat.le_of_ble_eq_true rfl) (by decide) (by decide) dX11_change_20 (t_X11_mostOf (fun e_20 => ⟨_, rfl, ?_⟩) (fun e_20 => ⟨_, rfl, ?_⟩) (fun e_20 f_20 => ⟨_, rfl, ?_⟩))
      · skip
        refine zz_callS2i cs_X11_93 (Nat.le_of_ble_eq_true rfl) (by decide) (by decide) dX11_change_23 (t_X11_within (fun a_23 b_23 => ⟨_, rfl, ?_⟩) (fun o_23 => ⟨_, rfl, ?_⟩))
        · skip
          refine zz_if_ne 35 dX11_change_26 (by decide) (fun _ => ?_) (fun h => absurd h (by decide))
          refine zz_aload_0 dX11_change_35 ?_
          refine zz_getR fl_X11_10 rfl rfl (Nat.lt_of_lt_of_le (by decide) hn) (xr_0_0 hr) dX11_change_36 ?_
          refine zz_getR fl_X11_104 rfl rfl (Nat.lt_of_lt_of_le (by decide) hn) (xr_1_6 hr) dX11_change_39 ?_
          refine zz_iload_1 dX11_change_42 ?_
          obtain ⟨q, hq0, hq, eq⟩ := zz_in0 (lo := 0) (hi := 2) rfl rfl (by decide) (by decide) a_10 b_10
          refine zz_aaN w_2 rfl (by omega) (by decide) (by decide) rfl (Nat.lt_of_lt_of_le (by decide) hn) (xr_way hr w_2 (by omega)) dX11_change_43 ?_
          refine zz_iconst (2) dX11_change_44 (by decide) ?_
          refine zz_iload_2 dX11_change_45 ?_
          refine zz_iadd dX11_change_46 ?_
          refine zz_iaN (2 + q) (by rw [eq]; show nI 2 + nI q = _; rw [nI_add]) (by omega) (by decide) (xs_way w_2 (by omega)) (by omega) dX11_change_47 ?_
          refine zz_istore_4 dX11_change_48 rfl rfl ?_
          refine zz_aload_0 dX11_change_50 ?_
          refine zz_getR fl_X11_10 rfl rfl (Nat.lt_of_lt_of_le (by decide) hn) (xr_0_0 hr) dX11_change_51 ?_
          refine zz_getR fl_X11_104 rfl rfl (Nat.lt_of_lt_of_le (by decide) hn) (xr_1_6 hr) dX11_change_54 ?_
          refine zz_iload_1 dX11_change_57 ?_
          refine zz_aaN w_2 rfl (by omega) (by decide) (by decide) rfl (Nat.lt_of_lt_of_le (by decide) hn) (xr_way hr w_2 (by omega)) dX11_change_58 ?_
          refine zz_iconst (2) dX11_change_59 (by decide) ?_
          refine zz_iload_2 dX11_change_60 ?_
          refine zz_iadd dX11_change_61 ?_
          refine zz_iload_3 dX11_change_62 ?_
          refine zz_isN (2 + q) (by rw [eq]; show nI 2 + nI q = _; rw [nI_add]) (by omega) (by decide) (xs_way w_2 (by omega)) (by omega) dX11_change_63 ?_
          refine zz_iload_4 dX11_change_64 ?_
          refine zz_iret rfl dX11_change_66 (by decide) (by decide) ?_
          have hc : sp_chok what x := by
            rcases (show q = 0 ∨ q = 1 ∨ q = 2 by omega) with rfl | rfl | rfl
            · first
                | exact absurd e_20 (by rw [eq]; decide)
                | exact absurd (by rw [eq]; decide) e_20
                | (rw [sp_chok, if_pos (show what = 0 from eq)]; exact fun z9 => z9.elim a_23 b_23)
            · first
                | exact absurd e_20 (by rw [eq]; decide)
                | exact absurd (by rw [eq]; decide) f_20
                | (rw [sp_chok, if_neg (by rw [eq]; decide), if_pos (show what = 1 from eq)]; exact fun z9 => z9.elim a_23 b_23)
            · first
                | exact absurd e_20 (by rw [eq]; decide)
                | (rw [sp_chok, if_neg (by rw [eq]; decide), if_neg (by rw [eq]; decide)]; exact ⟨eq, fun z9 => z9.elim a_23 b_23⟩)
          rw [sp_change, if_pos ⟨⟨ia_2, ib_2⟩, hc⟩, ix_w (by omega), show what.toNatClampNeg = q from by rw [eq]; exact ix_w (by omega), sp_set, Nat.add_assoc, x_wy hx (by omega) (by omega)] at h
          exact h.e ((x_F.rf hx).wy (by omega) (by omega))
        · skip
          refine zz_if_ne 35 dX11_change_26 (by decide) (fun h => absurd h (by decide)) (fun _ => ?_)
          refine zz_aload_0 dX11_change_29 ?_
          refine zz_iconst (1) dX11_change_30 (by decide) ?_
          refine zz_callV1i cv_X11_86 rfl (Nat.lt_of_lt_of_le (by decide) hn) (Nat.le_of_ble_eq_true rfl) (by decide) (by decide) dX11_change_31 (t_X11_error hn hr 1 rfl (by decide) ⟨_, rfl, ?_⟩)
          refine zz_iret rfl dX11_change_34 (by decide) (by decide) ?_
          first
            | (rw [sp_change, if_neg (fun z9 => ic_2 z9.1)] at h; exact x_er hx (by decide) h)
            | (have hc : ¬ sp_chok what x := sp_chok_o o_10
               rw [sp_change, if_neg (fun z9 => hc z9.2)] at h; exact x_er hx (by decide) h)
            | (have hc : ¬ sp_chok what x := sp_chok_n (fun _ => o_23) (fun z9 => absurd e_20 (by rw [z9]; decide)) (fun z9 => absurd e_20 (by rw [z9]; decide))
               rw [sp_change, if_neg (fun z9 => hc z9.2)] at h; exact x_er hx (by decide) h)
            | (have hc : ¬ sp_chok what x := sp_chok_n (fun z9 => absurd e_20 (by rw [z9]; decide)) (fun _ => o_23) (fun z9 => absurd e_20 (by rw [z9]; decide))
               rw [sp_change, if_neg (fun z9 => hc z9.2)] at h; exact x_er hx (by decide) h)
            | (have hc : ¬ sp_chok what x := sp_chok_n (fun z9 => absurd (by rw [z9]; decide) e_20) (fun z9 => absurd (by rw [z9]; decide) f_20) (fun _ => o_23)
               rw [sp_change, if_neg (fun z9 => hc z9.2)] at h; exact x_er hx (by decide) h)
      · skip
        refine zz_callS2i cs_X11_93 (Nat.le_of_ble_eq_true rfl) (by decide) (by decide) dX11_change_23 (t_X11_within (fun a_23 b_23 => ⟨_, rfl, ?_⟩) (fun o_23 => ⟨_, rfl, ?_⟩))
        · skip
          refine zz_if_ne 35 dX11_change_26 (by decide) (fun _ => ?_) (fun h => absurd h (by decide))
          refine zz_aload_0 dX11_change_35 ?_
          refine zz_getR fl_X11_10 rfl rfl (Nat.lt_of_lt_of_le (by decide) hn) (xr_0_0 hr) dX11_change_36 ?_
          refine zz_getR fl_X11_104 rfl rfl (Nat.lt_of_lt_of_le (by decide) hn) (xr_1_6 hr) dX11_change_39 ?_
          refine zz_iload_1 dX11_change_42 ?_
          obtain ⟨q, hq0, hq, eq⟩ := zz_in0 (lo := 0) (hi := 2) rfl rfl (by decide) (by decide) a_10 b_10
          refine zz_aaN w_2 rfl (by omega) (by decide) (by decide) rfl (Nat.lt_of_lt_of_le (by decide) hn) (xr_way hr w_2 (by omega)) dX11_change_43 ?_
          refine zz_iconst (2) dX11_change_44 (by decide) ?_
          refine zz_iload_2 dX11_change_45 ?_
          refine zz_iadd dX11_change_46 ?_
          refine zz_iaN (2 + q) (by rw [eq]; show nI 2 + nI q = _; rw [nI_add]) (by omega) (by decide) (xs_way w_2 (by omega)) (by omega) dX11_change_47 ?_
          refine zz_istore_4 dX11_change_48 rfl rfl ?_
          refine zz_aload_0 dX11_change_50 ?_
          refine zz_getR fl_X11_10 rfl rfl (Nat.lt_of_lt_of_le (by decide) hn) (xr_0_0 hr) dX11_change_51 ?_
          refine zz_getR fl_X11_104 rfl rfl (Nat.lt_of_lt_of_le (by decide) hn) (xr_1_6 hr) dX11_change_54 ?_
          refine zz_iload_1 dX11_change_57 ?_
          refine zz_aaN w_2 rfl (by omega) (by decide) (by decide) rfl (Nat.lt_of_lt_of_le (by decide) hn) (xr_way hr w_2 (by omega)) dX11_change_58 ?_
          refine zz_iconst (2) dX11_change_59 (by decide) ?_
          refine zz_iload_2 dX11_change_60 ?_
          refine zz_iadd dX11_change_61 ?_
          refine zz_iload_3 dX11_change_62 ?_
          refine zz_isN (2 + q) (by rw [eq]; show nI 2 + nI q = _; rw [nI_add]) (by omega) (by decide) (xs_way w_2 (by omega)) (by omega) dX11_change_63 ?_
          refine zz_iload_4 dX11_change_64 ?_
          refine zz_iret rfl dX11_change_66 (by decide) (by decide) ?_
          have hc : sp_chok what x := by
            rcases (show q = 0 ∨ q = 1 ∨ q = 2 by omega) with rfl | rfl | rfl
            · first
                | exact absurd e_20 (by rw [eq]; decide)
                | exact absurd (by rw [eq]; decide) e_20
                | (rw [sp_chok, if_pos (show what = 0 from eq)]; exact fun z9 => z9.elim a_23 b_23)
            · first
                | exact absurd e_20 (by rw [eq]; decide)
                | exact absurd (by rw [eq]; decide) f_20
                | (rw [sp_chok, if_neg (by rw [eq]; decide), if_pos (show what = 1 from eq)]; exact fun z9 => z9.elim a_23 b_23)
            · first
                | exact absurd e_20 (by rw [eq]; decide)
                | (rw [sp_chok, if_neg (by rw [eq]; decide), if_neg (by rw [eq]; decide)]; exact ⟨eq, fun z9 => z9.elim a_23 b_23⟩)
          rw [sp_change, if_pos ⟨⟨ia_2, ib_2⟩, hc⟩, ix_w (by omega), show what.toNatClampNeg = q from by rw [eq]; exact ix_w (by omega), sp_set, Nat.add_assoc, x_wy hx (by omega) (by omega)] at h
          exact h.e ((x_F.rf hx).wy (by omega) (by omega))
        · skip
          refine zz_if_ne 35 dX11_change_26 (by decide) (fun h => absurd h (by decide)) (fun _ => ?_)
          refine zz_aload_0 dX11_change_29 ?_
          refine zz_iconst (1) dX11_change_30 (by decide) ?_
          refine zz_callV1i cv_X11_86 rfl (Nat.lt_of_lt_of_le (by decide) hn) (Nat.le_of_ble_eq_true rfl) (by decide) (by decide) dX11_change_31 (t_X11_error hn hr 1 rfl (by decide) ⟨_, rfl, ?_⟩)
          refine zz_iret rfl dX11_change_34 (by decide) (by decide) ?_
          first
            | (rw [sp_change, if_neg (fun z9 => ic_2 z9.1)] at h; exact x_er hx (by decide) h)
            | (have hc : ¬ sp_chok what x := sp_chok_o o_10
               rw [sp_change, if_neg (fun z9 => hc z9.2)] at h; exact x_er hx (by decide) h)
            | (have hc : ¬ sp_chok what x := sp_chok_n (fun _ => o_23) (fun z9 => absurd e_20 (by rw [z9]; decide)) (fun z9 => absurd e_20 (by rw [z9]; decide))
               rw [sp_change, if_neg (fun z9 => hc z9.2)] at h; exact x_er hx (by decide) h)
            | (have hc : ¬ sp_chok what x := sp_chok_n (fun z9 => absurd e_20 (by rw [z9]; decide)) (fun _ => o_23) (fun z9 => absurd e_20 (by rw [z9]; decide))
               rw [sp_change, if_neg (fun z9 => hc z9.2)] at h; exact x_er hx (by decide) h)
            | (have hc : ¬ sp_chok what x := sp_chok_n (fun z9 => absurd (by rw [z9]; decide) e_20) (fun z9 => absurd (by rw [z9]; decide) f_20) (fun _ => o_23)
               rw [sp_change, if_neg (fun z9 => hc z9.2)] at h; exact x_er hx (by decide) h)
      · skip
        refine zz_callS2i cs_X11_93 (Nat.le_of_ble_eq_true rfl) (by decide) (by decide) dX11_change_23 (t_X11_within (fun a_23 b_23 => ⟨_, rfl, ?_⟩) (fun o_23 => ⟨_, rfl, ?_⟩))
        · skip
          refine zz_if_ne 35 dX11_change_26 (by decide) (fun _ => ?_) (fun h => absurd h (by decide))
          refine zz_aload_0 dX11_change_35 ?_
          refine zz_getR fl_X11_10 rfl rfl (Nat.lt_of_lt_of_le (by decide) hn) (xr_0_0 hr) dX11_change_36 ?_
          refine zz_getR fl_X11_104 rfl rfl (Nat.lt_of_lt_of_le (by decide) hn) (xr_1_6 hr) dX11_change_39 ?_
          refine zz_iload_1 dX11_change_42 ?_
          obtain ⟨q, hq0, hq, eq⟩ := zz_in0 (lo := 0) (hi := 2) rfl rfl (by decide) (by decide) a_10 b_10
          refine zz_aaN w_2 rfl (by omega) (by decide) (by decide) rfl (Nat.lt_of_lt_of_le (by decide) hn) (xr_way hr w_2 (by omega)) dX11_change_43 ?_
          refine zz_iconst (2) dX11_change_44 (by decide) ?_
          refine zz_iload_2 dX11_change_45 ?_
          refine zz_iadd dX11_change_46 ?_
          refine zz_iaN (2 + q) (by rw [eq]; show nI 2 + nI q = _; rw [nI_add]) (by omega) (by decide) (xs_way w_2 (by omega)) (by omega) dX11_change_47 ?_
          refine zz_istore_4 dX11_change_48 rfl rfl ?_
          refine zz_aload_0 dX11_change_50 ?_
          refine zz_getR fl_X11_10 rfl rfl (Nat.lt_of_lt_of_le (by decide) hn) (xr_0_0 hr) dX11_change_51 ?_
          refine zz_getR fl_X11_104 rfl rfl (Nat.lt_of_lt_of_le (by decide) hn) (xr_1_6 hr) dX11_change_54 ?_
          refine zz_iload_1 dX11_change_57 ?_
          refine zz_aaN w_2 rfl (by omega) (by decide) (by decide) rfl (Nat.lt_of_lt_of_le (by decide) hn) (xr_way hr w_2 (by omega)) dX11_change_58 ?_
          refine zz_iconst (2) dX11_change_59 (by decide) ?_
          refine zz_iload_2 dX11_change_60 ?_
          refine zz_iadd dX11_change_61 ?_
          refine zz_iload_3 dX11_change_62 ?_
          refine zz_isN (2 + q) (by rw [eq]; show nI 2 + nI q = _; rw [nI_add]) (by omega) (by decide) (xs_way w_2 (by omega)) (by omega) dX11_change_63 ?_
          refine zz_iload_4 dX11_change_64 ?_
          refine zz_iret rfl dX11_change_66 (by decide) (by decide) ?_
          have hc : sp_chok what x := by
            rcases (show q = 0 ∨ q = 1 ∨ q = 2 by omega) with rfl | rfl | rfl
            · first
                | exact absurd e_20 (by rw [eq]; decide)
                | exact absurd (by rw [eq]; decide) e_20
                | (rw [sp_chok, if_pos (show what = 0 from eq)]; exact fun z9 => z9.elim a_23 b_23)
            · first
                | exact absurd e_20 (by rw [eq]; decide)
                | exact absurd (by rw [eq]; decide) f_20
                | (rw [sp_chok, if_neg (by rw [eq]; decide), if_pos (show what = 1 from eq)]; exact fun z9 => z9.elim a_23 b_23)
            · first
                | exact absurd e_20 (by rw [eq]; decide)
                | (rw [sp_chok, if_neg (by rw [eq]; decide), if_neg (by rw [eq]; decide)]; exact ⟨eq, fun z9 => z9.elim a_23 b_23⟩)
          rw [sp_change, if_pos ⟨⟨ia_2, ib_2⟩, hc⟩, ix_w (by omega), show what.toNatClampNeg = q from by rw [eq]; exact ix_w (by omega), sp_set, Nat.add_assoc, x_wy hx (by omega) (by omega)] at h
          exact h.e ((x_F.rf hx).wy (by omega) (by omega))
        · skip
          refine zz_if_ne 35 dX11_change_26 (by decide) (fun h => absurd h (by decide)) (fun _ => ?_)
          refine zz_aload_0 dX11_change_29 ?_
          refine zz_iconst (1) dX11_change_30 (by decide) ?_
          refine zz_callV1i cv_X11_86 rfl (Nat.lt_of_lt_of_le (by decide) hn) (Nat.le_of_ble_eq_true rfl) (by decide) (by decide) dX11_change_31 (t_X11_error hn hr 1 rfl (by decide) ⟨_, rfl, ?_⟩)
          refine zz_iret rfl dX11_change_34 (by decide) (by decide) ?_
          first
            | (rw [sp_change, if_neg (fun z9 => ic_2 z9.1)] at h; exact x_er hx (by decide) h)
            | (have hc : ¬ sp_chok what x := sp_chok_o o_10
               rw [sp_change, if_neg (fun z9 => hc z9.2)] at h; exact x_er hx (by decide) h)
            | (have hc : ¬ sp_chok what x := sp_chok_n (fun _ => o_23) (fun z9 => absurd e_20 (by rw [z9]; decide)) (fun z9 => absurd e_20 (by rw [z9]; decide))
               rw [sp_change, if_neg (fun z9 => hc z9.2)] at h; exact x_er hx (by decide) h)
            | (have hc : ¬ sp_chok what x := sp_chok_n (fun z9 => absurd e_20 (by rw [z9]; decide)) (fun _ => o_23) (fun z9 => absurd e_20 (by rw [z9]; decide))
               rw [sp_change, if_neg (fun z9 => hc z9.2)] at h; exact x_er hx (by decide) h)
            | (have hc : ¬ sp_chok what x := sp_chok_n (fun z9 => absurd (by rw [z9]; decide) e_20) (fun z9 => absurd (by rw [z9]; decide) f_20) (fun _ => o_23)
               rw [sp_change, if_neg (fun z9 => hc z9.2)] at h; exact x_er hx (by decide) h)
    · skip
      refine zz_if_eq 29 dX11_change_13 (by decide) (fun _ => ?_) (fun h => absurd h (by decide))
      refine zz_aload_0 dX11_change_29 ?_
      refine zz_iconst (1) dX11_change_30 (by decide) ?_
      refine zz_callV1i cv_X11_86 rfl (Nat.lt_of_lt_of_le (by decide) hn) (Nat.le_of_ble_eq_true rfl) (by decide) (by decide) dX11_change_31 (t_X11_error hn hr 1 rfl (by decide) ⟨_, rfl, ?_⟩)
      refine zz_iret rfl dX11_change_34 (by decide) (by decide) ?_
      first
        | (rw [sp_change, if_neg (fun z9 => ic_2 z9.1)] at h; exact x_er hx (by decide) h)
        | (have hc : ¬ sp_chok what x := sp_chok_o o_10
           rw [sp_change, if_neg (fun z9 => hc z9.2)] at h; exact x_er hx (by decide) h)
        | (have hc : ¬ sp_chok what x := sp_chok_n (fun _ => o_23) (fun z9 => absurd e_20 (by rw [z9]; decide)) (fun z9 => absurd e_20 (by rw [z9]; decide))
           rw [sp_change, if_neg (fun z9 => hc z9.2)] at h; exact x_er hx (by decide) h)
        | (have hc : ¬ sp_chok what x := sp_chok_n (fun z9 => absurd e_20 (by rw [z9]; decide)) (fun _ => o_23) (fun z9 => absurd e_20 (by rw [z9]; decide))
           rw [sp_change, if_neg (fun z9 => hc z9.2)] at h; exact x_er hx (by decide) h)
        | (have hc : ¬ sp_chok what x := sp_chok_n (fun z9 => absurd (by rw [z9]; decide) e_20) (fun z9 => absurd (by rw [z9]; decide) f_20) (fun _ => o_23)
           rw [sp_change, if_neg (fun z9 => hc z9.2)] at h; exact x_er hx (by decide) h)
  · skip
    have ic_2 := sp_isw_c hmw hmw6 nw_2
    refine zz_if_eq 29 dX11_change_5 (by decide) (fun _ => ?_) (fun h => absurd h (by decide))
    refine zz_aload_0 dX11_change_29 ?_
    refine zz_iconst (1) dX11_change_30 (by decide) ?_
    refine zz_callV1i cv_X11_86 rfl (Nat.lt_of_lt_of_le (by decide) hn) (Nat.le_of_ble_eq_true rfl) (by decide) (by decide) dX11_change_31 (t_X11_error hn hr 1 rfl (by decide) ⟨_, rfl, ?_⟩)
    refine zz_iret rfl dX11_change_34 (by decide) (by decide) ?_
    first
      | (rw [sp_change, if_neg (fun z9 => ic_2 z9.1)] at h; exact x_er hx (by decide) h)
      | (have hc : ¬ sp_chok what x := sp_chok_o o_10
         rw [sp_change, if_neg (fun z9 => hc z9.2)] at h; exact x_er hx (by decide) h)
      | (have hc : ¬ sp_chok what x := sp_chok_n (fun _ => o_23) (fun z9 => absurd e_20 (by rw [z9]; decide)) (fun z9 => absurd e_20 (by rw [z9]; decide))
         rw [sp_change, if_neg (fun z9 => hc z9.2)] at h; exact x_er hx (by decide) h)
      | (have hc : ¬ sp_chok what x := sp_chok_n (fun z9 => absurd e_20 (by rw [z9]; decide)) (fun _ => o_23) (fun z9 => absurd e_20 (by rw [z9]; decide))
         rw [sp_change, if_neg (fun z9 => hc z9.2)] at h; exact x_er hx (by decide) h)
      | (have hc : ¬ sp_chok what x := sp_chok_n (fun z9 => absurd (by rw [z9]; decide) e_20) (fun z9 => absurd (by rw [z9]; decide) f_20) (fun _ => o_23)
         rw [sp_change, if_neg (fun z9 => hc z9.2)] at h; exact x_er hx (by decide) h)

set_option maxRecDepth 100000 in
set_option maxHeartbeats 4000000 in
theorem t_X11_pass {C : zz_C} {d n : Nat} {g : zz_G} {r : zz_R} {Q : zz_Q} {S : zz_G} (hx : x_rel S g r n) {v : Int32}  (h : x_o g Q (sp_pass S v)) : zz_T C mi_X11_pass (d + 1) 0 0 [.ref 0, .int v] g r n Q := by
  have hn := hx.nn
  have hr := hx.1
  refine zz_T.of [some (.ref 0), some (.int v)] (by decide +kernel) rfl (Nat.le_of_ble_eq_true rfl) ?_
  refine zz_iload_1 dX11_pass_0 ?_
  refine zz_iconst (1) dX11_pass_1 (by decide) ?_
  refine zz_icmp_lt 12 dX11_pass_2 (by decide) (fun c_2 => ?_) (fun c_2 => ?_)
  · skip
    refine zz_aload_0 dX11_pass_12 ?_
    refine zz_iconst (1) dX11_pass_13 (by decide) ?_
    refine zz_callV1i cv_X11_86 rfl (Nat.lt_of_lt_of_le (by decide) hn) (Nat.le_of_ble_eq_true rfl) (by decide) (by decide) dX11_pass_14 (t_X11_error hn hr 1 rfl (by decide) ⟨_, rfl, ?_⟩)
    refine zz_iret rfl dX11_pass_17 (by decide) (by decide) ?_
    first
      | (rw [sp_pass, if_pos (Or.inl c_2)] at h; exact x_er hx (by decide) h)
      | (rw [sp_pass, if_pos (Or.inr (Int32.not_le.mp c_9))] at h; exact x_er hx (by decide) h)
  · skip
    refine zz_iload_1 dX11_pass_5 ?_
    refine zz_sipush (9999) dX11_pass_6 (by decide) ?_
    refine zz_icmp_le 18 dX11_pass_9 (by decide) (fun c_9 => ?_) (fun c_9 => ?_)
    · skip
      refine zz_aload_0 dX11_pass_18 ?_
      refine zz_getR fl_X11_10 rfl rfl (Nat.lt_of_lt_of_le (by decide) hn) (xr_0_0 hr) dX11_pass_19 ?_
      refine zz_getI fl_X11_110 rfl rfl (Nat.lt_of_lt_of_le (by decide) hn) dX11_pass_22 ?_
      refine zz_iload_1 dX11_pass_25 ?_
      refine zz_iadd dX11_pass_26 ?_
      refine zz_ldc dX11_pass_27 ct_X11_204 ?_
      refine zz_icmp_le 38 dX11_pass_29 (by decide) (fun c_29 => ?_) (fun c_29 => ?_)
      · skip
        refine zz_aload_0 dX11_pass_38 ?_
        refine zz_getR fl_X11_10 rfl rfl (Nat.lt_of_lt_of_le (by decide) hn) (xr_0_0 hr) dX11_pass_39 ?_
        refine zz_dup dX11_pass_42 rfl ?_
        refine zz_getI fl_X11_110 rfl rfl (Nat.lt_of_lt_of_le (by decide) hn) dX11_pass_43 ?_
        refine zz_iload_1 dX11_pass_46 ?_
        refine zz_iadd dX11_pass_47 ?_
        refine zz_putI fl_X11_110 rfl rfl (Nat.lt_of_lt_of_le (by decide) hn) dX11_pass_48 ?_
        refine zz_aload_0 dX11_pass_51 ?_
        refine zz_getR fl_X11_10 rfl rfl (Nat.lt_of_lt_of_le (by decide) hn) (xr_0_0 hr) dX11_pass_52 ?_
        refine zz_getI fl_X11_110 rfl rfl (Nat.lt_of_lt_of_le (by decide) hn) dX11_pass_55 ?_
        refine zz_iret rfl dX11_pass_58 (by decide) (by decide) ?_
        rw [sp_pass, if_neg (fun z9 => z9.elim c_2 (fun z8 => absurd c_9 (Int32.not_le.mpr z8))), x_s0 hx, if_pos c_29] at h
        rw [zz_u_same]
        exact h.e ((x_F.rf hx).s0)
      · skip
        refine zz_aload_0 dX11_pass_32 ?_
        refine zz_iconst (3) dX11_pass_33 (by decide) ?_
        refine zz_callV1i cv_X11_86 rfl (Nat.lt_of_lt_of_le (by decide) hn) (Nat.le_of_ble_eq_true rfl) (by decide) (by decide) dX11_pass_34 (t_X11_error hn hr 3 rfl (by decide) ⟨_, rfl, ?_⟩)
        refine zz_iret rfl dX11_pass_37 (by decide) (by decide) ?_
        rw [sp_pass, if_neg (fun z9 => z9.elim c_2 (fun z8 => absurd c_9 (Int32.not_le.mpr z8))), x_s0 hx, if_neg c_29] at h
        exact x_er hx (by decide) h
    · skip
      refine zz_aload_0 dX11_pass_12 ?_
      refine zz_iconst (1) dX11_pass_13 (by decide) ?_
      refine zz_callV1i cv_X11_86 rfl (Nat.lt_of_lt_of_le (by decide) hn) (Nat.le_of_ble_eq_true rfl) (by decide) (by decide) dX11_pass_14 (t_X11_error hn hr 1 rfl (by decide) ⟨_, rfl, ?_⟩)
      refine zz_iret rfl dX11_pass_17 (by decide) (by decide) ?_
      first
        | (rw [sp_pass, if_pos (Or.inl c_2)] at h; exact x_er hx (by decide) h)
        | (rw [sp_pass, if_pos (Or.inr (Int32.not_le.mp c_9))] at h; exact x_er hx (by decide) h)

set_option maxRecDepth 100000 in
set_option maxHeartbeats 4000000 in
theorem t_X11_tell {C : zz_C} {d n : Nat} {g : zz_G} {r : zz_R} {Q : zz_Q} {S : zz_G} (hx : x_rel S g r n) {v : Int32} (tw : Nat) (htw : S 51 4 = nI tw) (htw6 : tw ≤ 20) (h : x_o g Q (sp_tell S v)) : zz_T C mi_X11_tell (d + 1) 0 0 [.ref 0, .int v] g r n Q := by
  have hn := hx.nn
  have hr := hx.1
  have htw1 : g 1 14 = nI tw := (x_s4 hx).symm.trans htw
  refine zz_T.of [some (.ref 0), some (.int v)] (by decide +kernel) rfl (Nat.le_of_ble_eq_true rfl) ?_
  refine zz_aload_0 dX11_tell_0 ?_
  refine zz_getR fl_X11_10 rfl rfl (Nat.lt_of_lt_of_le (by decide) hn) (xr_0_0 hr) dX11_tell_1 ?_
  refine zz_getI fl_X11_312 rfl rfl (Nat.lt_of_lt_of_le (by decide) hn) dX11_tell_4 ?_
  refine zz_bipush (20) dX11_tell_7 (by decide) ?_
  refine zz_icmp_lt 18 dX11_tell_9 (by decide) (fun c_9 => ?_) (fun c_9 => ?_)
  · skip
    refine zz_aload_0 dX11_tell_18 ?_
    refine zz_getR fl_X11_10 rfl rfl (Nat.lt_of_lt_of_le (by decide) hn) (xr_0_0 hr) dX11_tell_19 ?_
    refine zz_getR fl_X11_315 rfl rfl (Nat.lt_of_lt_of_le (by decide) hn) (xr_1_13 hr) dX11_tell_22 ?_
    refine zz_aload_0 dX11_tell_25 ?_
    refine zz_getR fl_X11_10 rfl rfl (Nat.lt_of_lt_of_le (by decide) hn) (xr_0_0 hr) dX11_tell_26 ?_
    refine zz_getI fl_X11_312 rfl rfl (Nat.lt_of_lt_of_le (by decide) hn) dX11_tell_29 ?_
    refine zz_iload_1 dX11_tell_32 ?_
    rw [htw1] at c_9
    have hlt := (nI_ltI (a := tw) (b := 20) (by omega) (by omega)).mp c_9
    refine zz_isN tw htw1 (by omega) (by decide) rfl (Nat.lt_of_lt_of_le (by decide) hn) dX11_tell_33 ?_
    refine zz_aload_0 dX11_tell_34 ?_
    refine zz_getR fl_X11_10 rfl rfl (Nat.lt_of_lt_of_le (by decide) hn) (xr_0_0 hr) dX11_tell_35 ?_
    refine zz_dup dX11_tell_38 rfl ?_
    refine zz_getI fl_X11_312 rfl rfl (Nat.lt_of_lt_of_le (by decide) hn) dX11_tell_39 ?_
    refine zz_iconst (1) dX11_tell_42 (by decide) ?_
    refine zz_iadd dX11_tell_43 ?_
    refine zz_putI fl_X11_312 rfl rfl (Nat.lt_of_lt_of_le (by decide) hn) dX11_tell_44 ?_
    refine zz_aload_0 dX11_tell_47 ?_
    refine zz_getR fl_X11_10 rfl rfl (Nat.lt_of_lt_of_le (by decide) hn) (xr_0_0 hr) dX11_tell_48 ?_
    refine zz_getI fl_X11_312 rfl rfl (Nat.lt_of_lt_of_le (by decide) hn) dX11_tell_51 ?_
    refine zz_iret rfl dX11_tell_54 (by decide) (by decide) ?_
    rw [sp_tell, if_neg (by rw [htw]; exact fun z9 => absurd ((nI_eq (a := tw) (b := 20) (by omega) (by omega)).mp z9) (by omega)), htw, ix_w (by omega)] at h
    rw [zz_u_same, zz_u_ne1 _ _ (by decide), htw1]
    exact h.e (((x_F.rf hx).wt (by omega)).s4)
  · skip
    refine zz_aload_0 dX11_tell_12 ?_
    refine zz_iconst (4) dX11_tell_13 (by decide) ?_
    refine zz_callV1i cv_X11_86 rfl (Nat.lt_of_lt_of_le (by decide) hn) (Nat.le_of_ble_eq_true rfl) (by decide) (by decide) dX11_tell_14 (t_X11_error hn hr 4 rfl (by decide) ⟨_, rfl, ?_⟩)
    refine zz_iret rfl dX11_tell_17 (by decide) (by decide) ?_
    rw [htw1] at c_9
    have h6 : 20 ≤ tw := Nat.not_lt.mp fun z9 => c_9 ((nI_ltI (a := tw) (b := 20) (by omega) (by omega)).mpr z9)
    rw [sp_tell, if_pos (by rw [htw, show tw = 20 by omega]; rfl)] at h
    exact x_er hx (by decide) h

set_option maxRecDepth 100000 in
set_option maxHeartbeats 4000000 in
theorem t_X11_told {C : zz_C} {d n : Nat} {g : zz_G} {r : zz_R} {Q : zz_Q} {S : zz_G} (hx : x_rel S g r n) {v : Int32}  (h : x_o g Q (sp_told S v)) : zz_T C mi_X11_told (d + 1) 0 0 [.ref 0, .int v] g r n Q := by
  have hn := hx.nn
  have hr := hx.1
  refine zz_T.of [some (.ref 0), some (.int v)] (by decide +kernel) rfl (Nat.le_of_ble_eq_true rfl) ?_
  refine zz_iload_1 dX11_told_0 ?_
  refine zz_iconst (1) dX11_told_1 (by decide) ?_
  refine zz_icmp_lt 19 dX11_told_2 (by decide) (fun c_2 => ?_) (fun c_2 => ?_)
  · skip
    refine zz_aload_0 dX11_told_19 ?_
    refine zz_iconst (1) dX11_told_20 (by decide) ?_
    refine zz_callV1i cv_X11_86 rfl (Nat.lt_of_lt_of_le (by decide) hn) (Nat.le_of_ble_eq_true rfl) (by decide) (by decide) dX11_told_21 (t_X11_error hn hr 1 rfl (by decide) ⟨_, rfl, ?_⟩)
    refine zz_iret rfl dX11_told_24 (by decide) (by decide) ?_
    first
      | (rw [sp_told, if_pos (Or.inl c_2)] at h; exact x_er hx (by decide) h)
      | (rw [sp_told, if_pos (Or.inr c_7)] at h; exact x_er hx (by decide) h)
      | (rw [sp_told, if_neg (fun z9 => z9.elim c_2 c_7), show v.toNatClampNeg = j from by rw [ej]; exact ix_w (by omega), x_er0 hx (by omega)] at h; exact h.e (x_F.rf hx))
  · skip
    refine zz_iload_1 dX11_told_5 ?_
    refine zz_iconst (5) dX11_told_6 (by decide) ?_
    refine zz_icmp_gt 19 dX11_told_7 (by decide) (fun c_7 => ?_) (fun c_7 => ?_)
    · skip
      refine zz_aload_0 dX11_told_19 ?_
      refine zz_iconst (1) dX11_told_20 (by decide) ?_
      refine zz_callV1i cv_X11_86 rfl (Nat.lt_of_lt_of_le (by decide) hn) (Nat.le_of_ble_eq_true rfl) (by decide) (by decide) dX11_told_21 (t_X11_error hn hr 1 rfl (by decide) ⟨_, rfl, ?_⟩)
      refine zz_iret rfl dX11_told_24 (by decide) (by decide) ?_
      first
        | (rw [sp_told, if_pos (Or.inl c_2)] at h; exact x_er hx (by decide) h)
        | (rw [sp_told, if_pos (Or.inr c_7)] at h; exact x_er hx (by decide) h)
        | (rw [sp_told, if_neg (fun z9 => z9.elim c_2 c_7), show v.toNatClampNeg = j from by rw [ej]; exact ix_w (by omega), x_er0 hx (by omega)] at h; exact h.e (x_F.rf hx))
    · skip
      refine zz_aload_0 dX11_told_10 ?_
      refine zz_getR fl_X11_23 rfl rfl (Nat.lt_of_lt_of_le (by decide) hn) (xr_0_3 hr) dX11_told_11 ?_
      refine zz_iload_1 dX11_told_14 ?_
      obtain ⟨j, hj0, hj, ej⟩ := zz_in0 (lo := 1) (hi := 5) rfl rfl (by decide) (by decide) c_2 c_7
      refine zz_iaN j ej (by omega) (by decide) rfl (Nat.lt_of_lt_of_le (by decide) hn) dX11_told_15 ?_
      refine zz_goto 24 dX11_told_16 (by decide) ?_
      refine zz_iret rfl dX11_told_24 (by decide) (by decide) ?_
      first
        | (rw [sp_told, if_pos (Or.inl c_2)] at h; exact x_er hx (by decide) h)
        | (rw [sp_told, if_pos (Or.inr c_7)] at h; exact x_er hx (by decide) h)
        | (rw [sp_told, if_neg (fun z9 => z9.elim c_2 c_7), show v.toNatClampNeg = j from by rw [ej]; exact ix_w (by omega), x_er0 hx (by omega)] at h; exact h.e (x_F.rf hx))

set_option maxRecDepth 100000 in
set_option maxHeartbeats 4000000 in
theorem t_X11_trace {C : zz_C} {d n : Nat} {g : zz_G} {r : zz_R} {Q : zz_Q} {S : zz_G} (hx : x_rel S g r n) {v : Int32} (tw : Nat) (htw : S 50 19 = nI tw) (htw6 : tw ≤ 40) (h : x_o g Q (sp_trace S v)) : zz_T C mi_X11_trace (d + 1) 0 0 [.ref 0, .int v] g r n Q := by
  have hn := hx.nn
  have hr := hx.1
  have htw1 : g 41 1 = nI tw := (x_tm hx).symm.trans htw
  refine zz_T.of [some (.ref 0), some (.int v)] (by decide +kernel) rfl (Nat.le_of_ble_eq_true rfl) ?_
  refine zz_iload_1 dX11_trace_0 ?_
  refine zz_if_lt 27 dX11_trace_1 (by decide) (fun c_1 => ?_) (fun c_1 => ?_)
  · skip
    refine zz_aload_0 dX11_trace_27 ?_
    refine zz_iconst (2) dX11_trace_28 (by decide) ?_
    refine zz_callV1i cv_X11_86 rfl (Nat.lt_of_lt_of_le (by decide) hn) (Nat.le_of_ble_eq_true rfl) (by decide) (by decide) dX11_trace_29 (t_X11_error hn hr 2 rfl (by decide) ⟨_, rfl, ?_⟩)
    refine zz_iret rfl dX11_trace_32 (by decide) (by decide) ?_
    rw [sp_trace, if_neg (fun z9 => z9.1 c_1)] at h
    exact x_er hx (by decide) h
  · skip
    refine zz_iload_1 dX11_trace_4 ?_
    refine zz_aload_0 dX11_trace_5 ?_
    refine zz_getR fl_X11_65 rfl rfl (Nat.lt_of_lt_of_le (by decide) hn) (xr_0_7 hr) dX11_trace_6 ?_
    refine zz_getI fl_X11_286 rfl rfl (Nat.lt_of_lt_of_le (by decide) hn) dX11_trace_9 ?_
    refine zz_icmp_ge 27 dX11_trace_12 (by decide) (fun c_12 => ?_) (fun c_12 => ?_)
    · skip
      refine zz_aload_0 dX11_trace_27 ?_
      refine zz_iconst (2) dX11_trace_28 (by decide) ?_
      refine zz_callV1i cv_X11_86 rfl (Nat.lt_of_lt_of_le (by decide) hn) (Nat.le_of_ble_eq_true rfl) (by decide) (by decide) dX11_trace_29 (t_X11_error hn hr 2 rfl (by decide) ⟨_, rfl, ?_⟩)
      refine zz_iret rfl dX11_trace_32 (by decide) (by decide) ?_
      first
        | (rw [sp_trace, if_pos ⟨c_1, by rw [x_tm hx]; exact Int32.not_le.mp c_12⟩, show v.toNatClampNeg = j from by rw [ej]; exact ix_w (by omega), x_tr hx (by omega)] at h; exact h.e (x_F.rf hx))
        | (rw [sp_trace, if_neg (fun z9 => absurd c_12 (Int32.not_le.mpr (by rw [← x_tm hx]; exact z9.2)))] at h; exact x_er hx (by decide) h)
    · skip
      refine zz_aload_0 dX11_trace_15 ?_
      refine zz_getR fl_X11_65 rfl rfl (Nat.lt_of_lt_of_le (by decide) hn) (xr_0_7 hr) dX11_trace_16 ?_
      refine zz_getR fl_X11_287 rfl rfl (Nat.lt_of_lt_of_le (by decide) hn) (xr_41_0 hr) dX11_trace_19 ?_
      refine zz_iload_1 dX11_trace_22 ?_
      obtain ⟨j, hj, ej⟩ := zz_nat (Int32.not_lt.mp c_1) (by rw [← htw1]; exact Int32.not_le.mp c_12) (by omega)
      refine zz_iaN j ej (by omega) (by decide) rfl (Nat.lt_of_lt_of_le (by decide) hn) dX11_trace_23 ?_
      refine zz_goto 32 dX11_trace_24 (by decide) ?_
      refine zz_iret rfl dX11_trace_32 (by decide) (by decide) ?_
      first
        | (rw [sp_trace, if_pos ⟨c_1, by rw [x_tm hx]; exact Int32.not_le.mp c_12⟩, show v.toNatClampNeg = j from by rw [ej]; exact ix_w (by omega), x_tr hx (by omega)] at h; exact h.e (x_F.rf hx))
        | (rw [sp_trace, if_neg (fun z9 => absurd c_12 (Int32.not_le.mpr (by rw [← x_tm hx]; exact z9.2)))] at h; exact x_er hx (by decide) h)

set_option maxRecDepth 100000 in
set_option maxHeartbeats 4000000 in
theorem t_X11_seed {C : zz_C} {d n : Nat} {g : zz_G} {r : zz_R} {Q : zz_Q} {S : zz_G} (hx : x_rel S g r n) {v : Int32}  (h : x_o g Q (sp_seed S v)) : zz_T C mi_X11_seed (d + 0) 0 0 [.ref 0, .int v] g r n Q := by
  have hn := hx.nn
  have hr := hx.1
  refine zz_T.of [some (.ref 0), some (.int v), none] (by decide +kernel) rfl (Nat.le_of_ble_eq_true rfl) ?_
  refine zz_aload_0 dX11_seed_0 ?_
  refine zz_getR fl_X11_10 rfl rfl (Nat.lt_of_lt_of_le (by decide) hn) (xr_0_0 hr) dX11_seed_1 ?_
  refine zz_getI fl_X11_228 rfl rfl (Nat.lt_of_lt_of_le (by decide) hn) dX11_seed_4 ?_
  refine zz_istore_2 dX11_seed_7 rfl rfl ?_
  refine zz_aload_0 dX11_seed_8 ?_
  refine zz_getR fl_X11_10 rfl rfl (Nat.lt_of_lt_of_le (by decide) hn) (xr_0_0 hr) dX11_seed_9 ?_
  refine zz_iload_1 dX11_seed_12 ?_
  refine zz_putI fl_X11_228 rfl rfl (Nat.lt_of_lt_of_le (by decide) hn) dX11_seed_13 ?_
  refine zz_iload_2 dX11_seed_16 ?_
  refine zz_iret rfl dX11_seed_17 (by decide) (by decide) ?_
  rw [sp_seed, x_s1 hx] at h
  exact h.e ((x_F.rf hx).s1)
