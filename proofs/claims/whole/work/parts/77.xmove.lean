set_option maxRecDepth 100000 in
set_option maxHeartbeats 4000000 in
theorem t_X11_standThere {C : zz_C} {d n : Nat} {g : zz_G} {r : zz_R} {Q : zz_Q} (hn : 60 ≤ n) (hr : xr r) {v f m : Int32} (s1 z1 : Nat) (hs1 : s1 < 4) (ev : v = nI s1) (hz1 : z1 ≤ 40) (ez : g 49 s1 = nI z1) (h1 : ¬ m < 0 → ¬ f < 0 → ¬ g 49 s1 - m < f → Q (some (.int 1)) g r n) (h0 : (m < 0 ∨ f < 0 ∨ g 49 s1 - m < f) → Q (some (.int 0)) g r n) : zz_T C mi_X11_standThere d 0 0 [.ref 0, .int v, .int f, .int m] g r n Q := by
  refine zz_T.of [some (.ref 0), some (.int v), some (.int f), some (.int m)] (by decide +kernel) rfl (Nat.le_of_ble_eq_true rfl) ?_
  refine zz_iload_3 dX11_standThere_0 ?_
  refine zz_if_lt 34 dX11_standThere_1 (by decide) (fun c_1 => ?_) (fun c_1 => ?_)
  · skip
    refine zz_iconst (0) dX11_standThere_34 (by decide) ?_
    refine zz_zret rfl (by rfl) dX11_standThere_35 (by decide) (by decide) ?_
    exact h0 (Or.inl c_1)
  · skip
    refine zz_iload_2 dX11_standThere_4 ?_
    refine zz_if_lt 34 dX11_standThere_5 (by decide) (fun c_5 => ?_) (fun c_5 => ?_)
    · skip
      refine zz_iconst (0) dX11_standThere_34 (by decide) ?_
      refine zz_zret rfl (by rfl) dX11_standThere_35 (by decide) (by decide) ?_
      exact h0 (Or.inr (Or.inl c_5))
    · skip
      refine zz_iload_3 dX11_standThere_8 ?_
      refine zz_aload_0 dX11_standThere_9 ?_
      refine zz_getR fl_X11_77 rfl rfl (Nat.lt_of_lt_of_le (by decide) hn) (xr_0_10 hr) dX11_standThere_10 ?_
      refine zz_iload_1 dX11_standThere_13 ?_
      refine zz_iaN s1 ev hs1 (by decide) rfl (Nat.lt_of_lt_of_le (by decide) hn) dX11_standThere_14 ?_
      refine zz_icmp_gt 34 dX11_standThere_15 (by decide) (fun c_15 => ?_) (fun c_15 => ?_)
      · skip
        refine zz_iconst (0) dX11_standThere_34 (by decide) ?_
        refine zz_zret rfl (by rfl) dX11_standThere_35 (by decide) (by decide) ?_
        refine h0 (Or.inr (Or.inr ?_))
        by_cases hlt : g 49 s1 - m < f
        · exact hlt
        · obtain ⟨mm, ii, q1, q2, q3⟩ := zz_fit ez hz1 c_1 c_5 hlt
          rw [ez, q1] at c_15
          exact absurd ((nI_ltI (a := z1) (b := mm) (by omega) (by omega)).mp (by first | exact c_15 | exact Int32.not_le.mp c_15)) (by omega)
      · skip
        refine zz_iload_2 dX11_standThere_18 ?_
        refine zz_aload_0 dX11_standThere_19 ?_
        refine zz_getR fl_X11_77 rfl rfl (Nat.lt_of_lt_of_le (by decide) hn) (xr_0_10 hr) dX11_standThere_20 ?_
        refine zz_iload_1 dX11_standThere_23 ?_
        refine zz_iaN s1 ev hs1 (by decide) rfl (Nat.lt_of_lt_of_le (by decide) hn) dX11_standThere_24 ?_
        refine zz_iload_3 dX11_standThere_25 ?_
        refine zz_isub dX11_standThere_26 ?_
        refine zz_icmp_gt 34 dX11_standThere_27 (by decide) (fun c_27 => ?_) (fun c_27 => ?_)
        · skip
          refine zz_iconst (0) dX11_standThere_34 (by decide) ?_
          refine zz_zret rfl (by rfl) dX11_standThere_35 (by decide) (by decide) ?_
          exact h0 (Or.inr (Or.inr (by first | exact c_27 | exact Int32.not_le.mp c_27)))
        · skip
          refine zz_iconst (1) dX11_standThere_30 (by decide) ?_
          refine zz_goto 35 dX11_standThere_31 (by decide) ?_
          refine zz_zret rfl (by rfl) dX11_standThere_35 (by decide) (by decide) ?_
          exact h1 c_1 c_5 (fun z9 => absurd c_27 (by first | exact Int32.not_lt.mpr (Int32.le_of_lt z9) | exact fun z8 => z8 z9 | exact fun z8 => absurd z9 z8))

set_option maxRecDepth 100000 in
set_option maxHeartbeats 4000000 in
theorem t_X11_move {C : zz_C} {d n : Nat} {g : zz_G} {r : zz_R} {Q : zz_Q} {S : zz_G} (hx : x_rel S g r n) {v i u j m : Int32} (hz : ∀ s : Nat, s < 4 → ∃ z : Nat, z ≤ 40 ∧ S 56 s = nI z) (h : x_o g Q (sp_move S v i u j m)) : zz_T C mi_X11_move (d + 2) 0 0 [.ref 0, .int v, .int i, .int u, .int j, .int m] g r n Q := by
  have hn := hx.nn
  have hr := hx.1
  refine zz_T.of [some (.ref 0), some (.int v), some (.int i), some (.int u), some (.int j), some (.int m)] (by decide +kernel) rfl (Nat.le_of_ble_eq_true rfl) ?_
  refine zz_iload_1 dX11_move_0 ?_
  refine zz_callS1i cs_X11_290 (Nat.le_of_ble_eq_true rfl) (by decide) (by decide) dX11_move_1 (t_X11_isSheet (fun a_1 b_1 => ⟨_, rfl, ?_⟩) (fun o_1 => ⟨_, rfl, ?_⟩))
  · skip
    refine zz_if_eq 14 dX11_move_4 (by decide) (fun h => absurd h (by decide)) (fun _ => ?_)
    refine zz_iload_3 dX11_move_7 ?_
    refine zz_callS1i cs_X11_290 (Nat.le_of_ble_eq_true rfl) (by decide) (by decide) dX11_move_8 (t_X11_isSheet (fun a_8 b_8 => ⟨_, rfl, ?_⟩) (fun o_8 => ⟨_, rfl, ?_⟩))
    · skip
      refine zz_if_ne 20 dX11_move_11 (by decide) (fun _ => ?_) (fun h => absurd h (by decide))
      obtain ⟨s1, hs0, hs1, es1⟩ := zz_in0 (lo := 0) (hi := 3) rfl rfl (by decide) (by decide) a_1 b_1
      obtain ⟨u1, hu0, hu1, eu1⟩ := zz_in0 (lo := 0) (hi := 3) rfl rfl (by decide) (by decide) a_8 b_8
      obtain ⟨z1, hz1, ez0⟩ := hz s1 (by omega)
      have ez1 : g 49 s1 = nI z1 := (x_sz hx (by omega)).symm.trans ez0
      obtain ⟨z2, hz2, ez20⟩ := hz u1 (by omega)
      have ez2 : g 49 u1 = nI z2 := (x_sz hx (by omega)).symm.trans ez20
      refine zz_aload_0 dX11_move_20 ?_
      refine zz_iload_1 dX11_move_21 ?_
      refine zz_callV1i cv_X11_296 rfl (Nat.lt_of_lt_of_le (by decide) hn) (Nat.le_of_ble_eq_true rfl) (by decide) (by decide) dX11_move_22 (t_X11_isMissing hn hr s1 (by omega) es1 (fun c_22 => ⟨_, rfl, ?_⟩) (fun c_22 => ⟨_, rfl, ?_⟩))
      · skip
        refine zz_if_ne 36 dX11_move_25 (by decide) (fun _ => ?_) (fun h => absurd h (by decide))
        refine zz_aload_0 dX11_move_36 ?_
        refine zz_iconst (2) dX11_move_37 (by decide) ?_
        refine zz_callV1i cv_X11_86 rfl (Nat.lt_of_lt_of_le (by decide) hn) (Nat.le_of_ble_eq_true rfl) (by decide) (by decide) dX11_move_38 (t_X11_error hn hr 2 rfl (by decide) ⟨_, rfl, ?_⟩)
        refine zz_iret rfl dX11_move_41 (by decide) (by decide) ?_
        rw [sp_move, if_neg (fun z9 => z9.elim a_1 b_1), if_neg (fun z9 => z9.elim a_8 b_8), show v.toNatClampNeg = s1 from by rw [es1]; exact ix_w (by omega), show u.toNatClampNeg = u1 from by rw [eu1]; exact ix_w (by omega), x_sb hx (show s1 < 4 by omega), x_sb hx (show u1 < 4 by omega), if_pos c_22] at h
        exact x_er hx (by decide) h
      · skip
        refine zz_if_ne 36 dX11_move_25 (by decide) (fun h => absurd h (by decide)) (fun _ => ?_)
        refine zz_aload_0 dX11_move_28 ?_
        refine zz_iload_3 dX11_move_29 ?_
        refine zz_callV1i cv_X11_296 rfl (Nat.lt_of_lt_of_le (by decide) hn) (Nat.le_of_ble_eq_true rfl) (by decide) (by decide) dX11_move_30 (t_X11_isMissing hn hr u1 (by omega) eu1 (fun c_30 => ⟨_, rfl, ?_⟩) (fun c_30 => ⟨_, rfl, ?_⟩))
        · skip
          refine zz_if_eq 42 dX11_move_33 (by decide) (fun h => absurd h (by decide)) (fun _ => ?_)
          refine zz_aload_0 dX11_move_36 ?_
          refine zz_iconst (2) dX11_move_37 (by decide) ?_
          refine zz_callV1i cv_X11_86 rfl (Nat.lt_of_lt_of_le (by decide) hn) (Nat.le_of_ble_eq_true rfl) (by decide) (by decide) dX11_move_38 (t_X11_error hn hr 2 rfl (by decide) ⟨_, rfl, ?_⟩)
          refine zz_iret rfl dX11_move_41 (by decide) (by decide) ?_
          rw [sp_move, if_neg (fun z9 => z9.elim a_1 b_1), if_neg (fun z9 => z9.elim a_8 b_8), show v.toNatClampNeg = s1 from by rw [es1]; exact ix_w (by omega), show u.toNatClampNeg = u1 from by rw [eu1]; exact ix_w (by omega), x_sb hx (show s1 < 4 by omega), x_sb hx (show u1 < 4 by omega), if_neg c_22, if_pos c_30] at h
          exact x_er hx (by decide) h
        · skip
          refine zz_if_eq 42 dX11_move_33 (by decide) (fun _ => ?_) (fun h => absurd h (by decide))
          refine zz_aload_0 dX11_move_42 ?_
          refine zz_getR fl_X11_74 rfl rfl (Nat.lt_of_lt_of_le (by decide) hn) (xr_0_9 hr) dX11_move_43 ?_
          refine zz_iload_1 dX11_move_46 ?_
          refine zz_iaN s1 es1 (by omega) (by decide) rfl (Nat.lt_of_lt_of_le (by decide) hn) dX11_move_47 ?_
          refine zz_aload_0 dX11_move_48 ?_
          refine zz_getR fl_X11_74 rfl rfl (Nat.lt_of_lt_of_le (by decide) hn) (xr_0_9 hr) dX11_move_49 ?_
          refine zz_iload_3 dX11_move_52 ?_
          refine zz_iaN u1 eu1 (by omega) (by decide) rfl (Nat.lt_of_lt_of_le (by decide) hn) dX11_move_53 ?_
          refine zz_icmp_eq 63 dX11_move_54 (by decide) (fun c_54 => ?_) (fun c_54 => ?_)
          · skip
            refine zz_aload_0 dX11_move_63 ?_
            refine zz_iload_1 dX11_move_64 ?_
            refine zz_iload_2 dX11_move_65 ?_
            refine zz_iload_5 dX11_move_66 ?_
            refine zz_callV3i cv_X11_299 rfl (Nat.lt_of_lt_of_le (by decide) hn) (Nat.le_of_ble_eq_true rfl) (by decide) (by decide) dX11_move_68 (t_X11_standThere hn hr s1 z1 (by omega) es1 hz1 ez1 (fun p_68 q_68 f_68 => ⟨_, rfl, ?_⟩) (fun w_68 => ⟨_, rfl, ?_⟩))
            · skip
              refine zz_if_eq 86 dX11_move_71 (by decide) (fun h => absurd h (by decide)) (fun _ => ?_)
              refine zz_aload_0 dX11_move_74 ?_
              refine zz_iload_3 dX11_move_75 ?_
              refine zz_iload_4 dX11_move_76 ?_
              refine zz_iload_5 dX11_move_78 ?_
              refine zz_callV3i cv_X11_299 rfl (Nat.lt_of_lt_of_le (by decide) hn) (Nat.le_of_ble_eq_true rfl) (by decide) (by decide) dX11_move_80 (t_X11_standThere hn hr u1 z2 (by omega) eu1 hz2 ez2 (fun p_80 q_80 f_80 => ⟨_, rfl, ?_⟩) (fun w_80 => ⟨_, rfl, ?_⟩))
              · skip
                refine zz_if_ne 92 dX11_move_83 (by decide) (fun _ => ?_) (fun h => absurd h (by decide))
                obtain ⟨m1, i1, em1, ei1, hi1⟩ := zz_fit ez1 hz1 p_68 q_68 f_68
                obtain ⟨m2, j1, em2, ej1, hj1⟩ := zz_fit ez2 hz2 p_80 q_80 f_80
                have hm12 : m2 = m1 := (nI_eq (by omega) (by omega)).mp (em2.symm.trans em1)
                subst hm12
                refine zz_aload_0 dX11_move_92 ?_
                refine zz_getR fl_X11_71 rfl rfl (Nat.lt_of_lt_of_le (by decide) hn) (xr_0_8 hr) dX11_move_93 ?_
                refine zz_iload_1 dX11_move_96 ?_
                refine zz_aaN s1 es1 (by omega) (by decide) (by decide) rfl (Nat.lt_of_lt_of_le (by decide) hn) (xr_sheet hr s1 (by omega)) dX11_move_97 ?_
                refine zz_iload_2 dX11_move_98 ?_
                refine zz_aload_0 dX11_move_99 ?_
                refine zz_getR fl_X11_71 rfl rfl (Nat.lt_of_lt_of_le (by decide) hn) (xr_0_8 hr) dX11_move_100 ?_
                refine zz_iload_3 dX11_move_103 ?_
                refine zz_aaN u1 eu1 (by omega) (by decide) (by decide) rfl (Nat.lt_of_lt_of_le (by decide) hn) (xr_sheet hr u1 (by omega)) dX11_move_104 ?_
                refine zz_iload_4 dX11_move_105 ?_
                refine zz_iload_5 dX11_move_107 ?_
                refine zz_copy i1 j1 m2 ei1 ej1 em2 (by omega) (by omega) (by decide) (xs_sheet s1 (by omega)) (xs_sheet u1 (by omega)) (by omega) (by omega) ca_X11_303 (Nat.le_of_ble_eq_true rfl) dX11_move_109 ?_
                refine zz_iload_5 dX11_move_112 ?_
                refine zz_iret rfl dX11_move_114 (by decide) (by decide) ?_
                rw [sp_move, if_neg (fun z9 => z9.elim a_1 b_1), if_neg (fun z9 => z9.elim a_8 b_8), show v.toNatClampNeg = s1 from by rw [es1]; exact ix_w (by omega), show u.toNatClampNeg = u1 from by rw [eu1]; exact ix_w (by omega), x_sb hx (show s1 < 4 by omega), x_sb hx (show u1 < 4 by omega), if_neg c_22, if_neg c_30, if_pos c_54, x_sz hx (show s1 < 4 by omega), x_sz hx (show u1 < 4 by omega), if_neg p_68, if_neg q_68, if_neg q_80, if_neg f_68, if_pos (Int32.not_lt.mp f_80), show i.toNatClampNeg = i1 from by rw [ei1]; exact ix_w (by omega), show j.toNatClampNeg = j1 from by rw [ej1]; exact ix_w (by omega), show m.toNatClampNeg = m2 from by rw [em2]; exact ix_w (by omega)] at h
                refine h.e ((x_F.rf hx).shs (fun k hk => zz_cpy_row g (by omega)) (fun k hk => funext fun b => if_neg (fun z9 => hk z9.1)) (fun t q ht hq => ?_))
                show zz_cpy g (44 + s1) (44 + u1) i1 j1 m2 (44 + t) q = sp_mv S (40 * s1 + i1) (40 * u1 + j1) m2 57 (40 * t + q)
                unfold zz_cpy sp_mv
                by_cases hc : 44 + t = 44 + u1 ∧ j1 ≤ q ∧ q < j1 + m2
                · rw [if_pos hc, if_pos (by omega), show 40 * s1 + i1 + (40 * t + q - (40 * u1 + j1)) = 40 * s1 + (i1 + (q - j1)) by omega]
                  exact (x_sh hx (by omega) (by omega)).symm
                · rw [if_neg hc, if_neg (by omega)]
                  exact (x_sh hx ht hq).symm
              · skip
                refine zz_if_ne 92 dX11_move_83 (by decide) (fun h => absurd h (by decide)) (fun _ => ?_)
                refine zz_aload_0 dX11_move_86 ?_
                refine zz_iconst (1) dX11_move_87 (by decide) ?_
                refine zz_callV1i cv_X11_86 rfl (Nat.lt_of_lt_of_le (by decide) hn) (Nat.le_of_ble_eq_true rfl) (by decide) (by decide) dX11_move_88 (t_X11_error hn hr 1 rfl (by decide) ⟨_, rfl, ?_⟩)
                refine zz_iret rfl dX11_move_91 (by decide) (by decide) ?_
                rw [sp_move, if_neg (fun z9 => z9.elim a_1 b_1), if_neg (fun z9 => z9.elim a_8 b_8), show v.toNatClampNeg = s1 from by rw [es1]; exact ix_w (by omega), show u.toNatClampNeg = u1 from by rw [eu1]; exact ix_w (by omega), x_sb hx (show s1 < 4 by omega), x_sb hx (show u1 < 4 by omega), if_neg c_22, if_neg c_30, if_pos c_54, x_sz hx (show s1 < 4 by omega), x_sz hx (show u1 < 4 by omega), if_neg p_68, if_neg q_68] at h
                by_cases q4 : j < 0
                · rw [if_pos q4] at h
                  exact x_er hx (by decide) h
                · rw [if_neg q4, if_neg f_68] at h
                  have q3 : g 49 u1 - m < j := w_80.elim (fun z9 => absurd z9 p_68) (fun z9 => z9.elim (fun z8 => absurd z8 q4) id)
                  rw [if_neg (Int32.not_le.mpr q3)] at h
                  exact x_er hx (by decide) h
            · skip
              refine zz_if_eq 86 dX11_move_71 (by decide) (fun _ => ?_) (fun h => absurd h (by decide))
              refine zz_aload_0 dX11_move_86 ?_
              refine zz_iconst (1) dX11_move_87 (by decide) ?_
              refine zz_callV1i cv_X11_86 rfl (Nat.lt_of_lt_of_le (by decide) hn) (Nat.le_of_ble_eq_true rfl) (by decide) (by decide) dX11_move_88 (t_X11_error hn hr 1 rfl (by decide) ⟨_, rfl, ?_⟩)
              refine zz_iret rfl dX11_move_91 (by decide) (by decide) ?_
              rw [sp_move, if_neg (fun z9 => z9.elim a_1 b_1), if_neg (fun z9 => z9.elim a_8 b_8), show v.toNatClampNeg = s1 from by rw [es1]; exact ix_w (by omega), show u.toNatClampNeg = u1 from by rw [eu1]; exact ix_w (by omega), x_sb hx (show s1 < 4 by omega), x_sb hx (show u1 < 4 by omega), if_neg c_22, if_neg c_30, if_pos c_54, x_sz hx (show s1 < 4 by omega), x_sz hx (show u1 < 4 by omega)] at h
              by_cases q1 : m < 0
              · rw [if_pos q1] at h
                exact x_er hx (by decide) h
              · rw [if_neg q1] at h
                by_cases q2 : i < 0
                · rw [if_pos q2] at h
                  exact x_er hx (by decide) h
                · rw [if_neg q2] at h
                  have q3 : g 49 s1 - m < i := w_68.elim (fun z9 => absurd z9 q1) (fun z9 => z9.elim (fun z8 => absurd z8 q2) id)
                  by_cases q4 : j < 0
                  · rw [if_pos q4] at h
                    exact x_er hx (by decide) h
                  · rw [if_neg q4, if_pos q3] at h
                    exact x_er hx (by decide) h
          · skip
            refine zz_aload_0 dX11_move_57 ?_
            refine zz_iconst (5) dX11_move_58 (by decide) ?_
            refine zz_callV1i cv_X11_86 rfl (Nat.lt_of_lt_of_le (by decide) hn) (Nat.le_of_ble_eq_true rfl) (by decide) (by decide) dX11_move_59 (t_X11_error hn hr 5 rfl (by decide) ⟨_, rfl, ?_⟩)
            refine zz_iret rfl dX11_move_62 (by decide) (by decide) ?_
            rw [sp_move, if_neg (fun z9 => z9.elim a_1 b_1), if_neg (fun z9 => z9.elim a_8 b_8), show v.toNatClampNeg = s1 from by rw [es1]; exact ix_w (by omega), show u.toNatClampNeg = u1 from by rw [eu1]; exact ix_w (by omega), x_sb hx (show s1 < 4 by omega), x_sb hx (show u1 < 4 by omega), if_neg c_22, if_neg c_30, if_neg c_54] at h
            exact x_er hx (by decide) h
    · skip
      refine zz_if_ne 20 dX11_move_11 (by decide) (fun h => absurd h (by decide)) (fun _ => ?_)
      refine zz_aload_0 dX11_move_14 ?_
      refine zz_iconst (1) dX11_move_15 (by decide) ?_
      refine zz_callV1i cv_X11_86 rfl (Nat.lt_of_lt_of_le (by decide) hn) (Nat.le_of_ble_eq_true rfl) (by decide) (by decide) dX11_move_16 (t_X11_error hn hr 1 rfl (by decide) ⟨_, rfl, ?_⟩)
      refine zz_iret rfl dX11_move_19 (by decide) (by decide) ?_
      rw [sp_move, if_neg (fun z9 => z9.elim a_1 b_1), if_pos o_8] at h
      exact x_er hx (by decide) h
  · skip
    refine zz_if_eq 14 dX11_move_4 (by decide) (fun _ => ?_) (fun h => absurd h (by decide))
    refine zz_aload_0 dX11_move_14 ?_
    refine zz_iconst (1) dX11_move_15 (by decide) ?_
    refine zz_callV1i cv_X11_86 rfl (Nat.lt_of_lt_of_le (by decide) hn) (Nat.le_of_ble_eq_true rfl) (by decide) (by decide) dX11_move_16 (t_X11_error hn hr 1 rfl (by decide) ⟨_, rfl, ?_⟩)
    refine zz_iret rfl dX11_move_19 (by decide) (by decide) ?_
    rw [sp_move, if_pos o_1] at h
    exact x_er hx (by decide) h
