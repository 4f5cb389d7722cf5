set_option maxRecDepth 100000 in
set_option maxHeartbeats 4000000 in
theorem s_X12_compared {C : zz_C} {n : Nat} {g : zz_G} {r : zz_R} (hn : 60 ≤ n) (hr : xr r) {u len : Nat} (hu : g 50 6 = nI u) (hu2 : u < 2) (hl : g 50 8 = nI len) (hl5 : len ≤ 50) {D o : Nat} {step : Nat → pz_T} (hs : pz_ok len step) (hf : pz_S C mi_X12_sum D g r n o len step) : pz_S C mi_X12_compared (D + 1) g r n o len (pz_lv (pz_b (g 51) u len) step 2) := by
  intro d0 k Q hd hk h1 h0
  obtain ⟨d, rfl⟩ : ∃ e, d0 = e + 1 := ⟨d0 - 1, by omega⟩
  refine zz_T.of [some (.ref 50), none, none, none, none] (by decide +kernel) rfl (Nat.le_of_ble_eq_true rfl) ?_
  refine zz_aload_0 dX12_compared_0 ?_
  refine zz_callV0i cv_X12_128 rfl (Nat.lt_of_lt_of_le (by decide) hn) (Nat.le_of_ble_eq_true rfl) (by decide) (by decide) dX12_compared_1 (hf d k _ (by omega) hk (fun s_1 => ⟨_, rfl, ?_⟩) (fun s_1 v_1 => ⟨_, rfl, ?_⟩))
  · skip
    refine zz_istore_1 dX12_compared_4 rfl rfl ?_
    refine zz_aload_0 dX12_compared_5 ?_
    refine zz_getI fl_X12_84 rfl rfl (Nat.lt_of_lt_of_le (by decide) hn) dX12_compared_6 ?_
    rw [pm_g]
    refine zz_if_eq 23 dX12_compared_9 (by decide) (fun h => absurd h (by decide)) (fun _ => ?_)
    refine zz_aload_0 dX12_compared_12 ?_
    refine zz_aload_0 dX12_compared_13 ?_
    refine zz_getI fl_X12_88 rfl rfl (Nat.lt_of_lt_of_le (by decide) hn) dX12_compared_14 ?_
    refine zz_callV1i cv_X12_91 rfl (Nat.lt_of_lt_of_le (by decide) hn) (Nat.le_of_ble_eq_true rfl) (by decide) (by decide) dX12_compared_17 (t_X12_byteAt hn hr hu hu2 hl hl5 (step k).2.1 (pm_k g (step k).2.1 o 1) (by have := (hs k hk).2.1; omega) ⟨_, rfl, ?_⟩)
    refine zz_goto 24 dX12_compared_20 (by decide) ?_
    refine zz_istore_2 dX12_compared_24 rfl rfl ?_
    refine zz_iload_2 dX12_compared_25 ?_
    refine zz_bipush (60) dX12_compared_26 (by decide) ?_
    refine zz_icmp_eq 45 dX12_compared_28 (by decide) (fun c_28 => ?_) (fun c_28 => ?_)
    · skip
      refine zz_aload_0 dX12_compared_45 ?_
      have hop : pz_is 2 (pz_b (g 51) u len (step k).2.1) := by simp (decide := true) only [pz_is, c_28, or_self, or_false, false_or, or_true, true_or, and_true, true_and, and_false, false_and, and_self, not_true_eq_false, not_false_eq_true, ↓reduceIte]
      have hqlt : (step k).2.1 + 1 ≤ len := pz_is_in hop
      refine zz_dup dX12_compared_46 rfl ?_
      refine zz_getI fl_X12_88 rfl rfl (Nat.lt_of_lt_of_le (by decide) hn) dX12_compared_47 ?_
      refine zz_iconst (1) dX12_compared_50 (by decide) ?_
      refine zz_iadd dX12_compared_51 ?_
      refine zz_putI fl_X12_88 rfl rfl (Nat.lt_of_lt_of_le (by decide) hn) dX12_compared_52 ?_
      rw [pm_k, nI_1, pm_uk]
      refine zz_aload_0 dX12_compared_55 ?_
      refine zz_callV0i cv_X12_128 rfl (Nat.lt_of_lt_of_le (by decide) hn) (Nat.le_of_ble_eq_true rfl) (by decide) (by decide) dX12_compared_56 (hf d ((step k).2.1 + 1) _ (by omega) hqlt (fun s_56 => ⟨_, rfl, ?_⟩) (fun s_56 v_56 => ⟨_, rfl, ?_⟩))
      · skip
        refine zz_istore_3 dX12_compared_59 rfl rfl ?_
        refine zz_iload_2 dX12_compared_60 ?_
        refine zz_bipush (60) dX12_compared_61 (by decide) ?_
        refine zz_icmp_ne 79 dX12_compared_63 (by decide) (fun c_63 => ?_) (fun c_63 => ?_)
        · skip
          refine zz_iload_2 dX12_compared_79 ?_
          refine zz_bipush (61) dX12_compared_80 (by decide) ?_
          refine zz_icmp_ne 98 dX12_compared_82 (by decide) (fun c_82 => ?_) (fun c_82 => ?_)
          · skip
            refine zz_iload_1 dX12_compared_98 ?_
            refine zz_iload_3 dX12_compared_99 ?_
            refine zz_icmp_le 107 dX12_compared_100 (by decide) (fun c_100 => ?_) (fun c_100 => ?_)
            · skip
              refine zz_iconst (0) dX12_compared_107 (by decide) ?_
              refine zz_istore_4 dX12_compared_108 rfl rfl ?_
              refine zz_iload_4 dX12_compared_110 ?_
              refine zz_if_eq 119 dX12_compared_112 (by decide) (fun _ => ?_) (fun h => absurd h (by decide))
              refine zz_iconst (0) dX12_compared_119 (by decide) ?_
              refine zz_iret rfl dX12_compared_120 (by decide) (by decide) ?_
              try replace c_100 := Int32.not_lt.mpr c_100
              try replace c_100 := Int32.not_le.mp c_100
              first
                | exact absurd c_28 c_63
                | exact absurd c_63 c_28
                | exact absurd (c_28.symm.trans c_63) (by decide)
                | exact absurd c_28 c_82
                | exact absurd c_82 c_28
                | exact absurd (c_28.symm.trans c_82) (by decide)
                | exact absurd c_28 c_100
                | exact absurd c_100 c_28
                | exact absurd (c_28.symm.trans c_100) (by decide)
                | exact absurd c_63 c_82
                | exact absurd c_82 c_63
                | exact absurd (c_63.symm.trans c_82) (by decide)
                | exact absurd c_63 c_100
                | exact absurd c_100 c_63
                | exact absurd (c_63.symm.trans c_100) (by decide)
                | exact absurd c_82 c_100
                | exact absurd c_100 c_82
                | exact absurd (c_82.symm.trans c_100) (by decide)
                | (rw [pz_lv, if_pos s_1, if_pos rfl, pz_lp, if_pos hop, if_pos s_56, pz_lp, show pz_op (pz_b (g 51) u len (step k).2.1) (step k).2.2.1 (step ((step k).2.1 + 1)).2.2.1 = 0 from by simp (decide := true) only [pz_op, c_28, c_63, c_82, c_100, or_self, or_false, false_or, or_true, true_or, and_true, true_and, and_false, false_and, and_self, not_true_eq_false, not_false_eq_true, ↓reduceIte]] at h1; exact h1 rfl)
            · skip
              refine zz_iconst (1) dX12_compared_103 (by decide) ?_
              refine zz_goto 108 dX12_compared_104 (by decide) ?_
              refine zz_istore_4 dX12_compared_108 rfl rfl ?_
              refine zz_iload_4 dX12_compared_110 ?_
              refine zz_if_eq 119 dX12_compared_112 (by decide) (fun h => absurd h (by decide)) (fun _ => ?_)
              refine zz_iconst (1) dX12_compared_115 (by decide) ?_
              refine zz_goto 120 dX12_compared_116 (by decide) ?_
              refine zz_iret rfl dX12_compared_120 (by decide) (by decide) ?_
              try replace c_100 := Int32.not_lt.mpr c_100
              try replace c_100 := Int32.not_le.mp c_100
              first
                | exact absurd c_28 c_63
                | exact absurd c_63 c_28
                | exact absurd (c_28.symm.trans c_63) (by decide)
                | exact absurd c_28 c_82
                | exact absurd c_82 c_28
                | exact absurd (c_28.symm.trans c_82) (by decide)
                | exact absurd c_28 c_100
                | exact absurd c_100 c_28
                | exact absurd (c_28.symm.trans c_100) (by decide)
                | exact absurd c_63 c_82
                | exact absurd c_82 c_63
                | exact absurd (c_63.symm.trans c_82) (by decide)
                | exact absurd c_63 c_100
                | exact absurd c_100 c_63
                | exact absurd (c_63.symm.trans c_100) (by decide)
                | exact absurd c_82 c_100
                | exact absurd c_100 c_82
                | exact absurd (c_82.symm.trans c_100) (by decide)
                | (rw [pz_lv, if_pos s_1, if_pos rfl, pz_lp, if_pos hop, if_pos s_56, pz_lp, show pz_op (pz_b (g 51) u len (step k).2.1) (step k).2.2.1 (step ((step k).2.1 + 1)).2.2.1 = 1 from by simp (decide := true) only [pz_op, c_28, c_63, c_82, c_100, or_self, or_false, false_or, or_true, true_or, and_true, true_and, and_false, false_and, and_self, not_true_eq_false, not_false_eq_true, ↓reduceIte]] at h1; exact h1 rfl)
          · skip
            refine zz_iload_1 dX12_compared_85 ?_
            refine zz_iload_3 dX12_compared_86 ?_
            refine zz_icmp_ne 94 dX12_compared_87 (by decide) (fun c_87 => ?_) (fun c_87 => ?_)
            · skip
              refine zz_iconst (0) dX12_compared_94 (by decide) ?_
              refine zz_goto 108 dX12_compared_95 (by decide) ?_
              refine zz_istore_4 dX12_compared_108 rfl rfl ?_
              refine zz_iload_4 dX12_compared_110 ?_
              refine zz_if_eq 119 dX12_compared_112 (by decide) (fun _ => ?_) (fun h => absurd h (by decide))
              refine zz_iconst (0) dX12_compared_119 (by decide) ?_
              refine zz_iret rfl dX12_compared_120 (by decide) (by decide) ?_
              first
                | exact absurd c_28 c_63
                | exact absurd c_63 c_28
                | exact absurd (c_28.symm.trans c_63) (by decide)
                | exact absurd c_28 c_82
                | exact absurd c_82 c_28
                | exact absurd (c_28.symm.trans c_82) (by decide)
                | exact absurd c_28 c_87
                | exact absurd c_87 c_28
                | exact absurd (c_28.symm.trans c_87) (by decide)
                | exact absurd c_63 c_82
                | exact absurd c_82 c_63
                | exact absurd (c_63.symm.trans c_82) (by decide)
                | exact absurd c_63 c_87
                | exact absurd c_87 c_63
                | exact absurd (c_63.symm.trans c_87) (by decide)
                | exact absurd c_82 c_87
                | exact absurd c_87 c_82
                | exact absurd (c_82.symm.trans c_87) (by decide)
                | (rw [pz_lv, if_pos s_1, if_pos rfl, pz_lp, if_pos hop, if_pos s_56, pz_lp, show pz_op (pz_b (g 51) u len (step k).2.1) (step k).2.2.1 (step ((step k).2.1 + 1)).2.2.1 = 0 from by simp (decide := true) only [pz_op, c_28, c_63, c_82, c_87, or_self, or_false, false_or, or_true, true_or, and_true, true_and, and_false, false_and, and_self, not_true_eq_false, not_false_eq_true, ↓reduceIte]] at h1; exact h1 rfl)
            · skip
              refine zz_iconst (1) dX12_compared_90 (by decide) ?_
              refine zz_goto 108 dX12_compared_91 (by decide) ?_
              refine zz_istore_4 dX12_compared_108 rfl rfl ?_
              refine zz_iload_4 dX12_compared_110 ?_
              refine zz_if_eq 119 dX12_compared_112 (by decide) (fun h => absurd h (by decide)) (fun _ => ?_)
              refine zz_iconst (1) dX12_compared_115 (by decide) ?_
              refine zz_goto 120 dX12_compared_116 (by decide) ?_
              refine zz_iret rfl dX12_compared_120 (by decide) (by decide) ?_
              first
                | exact absurd c_28 c_63
                | exact absurd c_63 c_28
                | exact absurd (c_28.symm.trans c_63) (by decide)
                | exact absurd c_28 c_82
                | exact absurd c_82 c_28
                | exact absurd (c_28.symm.trans c_82) (by decide)
                | exact absurd c_28 c_87
                | exact absurd c_87 c_28
                | exact absurd (c_28.symm.trans c_87) (by decide)
                | exact absurd c_63 c_82
                | exact absurd c_82 c_63
                | exact absurd (c_63.symm.trans c_82) (by decide)
                | exact absurd c_63 c_87
                | exact absurd c_87 c_63
                | exact absurd (c_63.symm.trans c_87) (by decide)
                | exact absurd c_82 c_87
                | exact absurd c_87 c_82
                | exact absurd (c_82.symm.trans c_87) (by decide)
                | (rw [pz_lv, if_pos s_1, if_pos rfl, pz_lp, if_pos hop, if_pos s_56, pz_lp, show pz_op (pz_b (g 51) u len (step k).2.1) (step k).2.2.1 (step ((step k).2.1 + 1)).2.2.1 = 1 from by simp (decide := true) only [pz_op, c_28, c_63, c_82, c_87, or_self, or_false, false_or, or_true, true_or, and_true, true_and, and_false, false_and, and_self, not_true_eq_false, not_false_eq_true, ↓reduceIte]] at h1; exact h1 rfl)
        · skip
          refine zz_iload_1 dX12_compared_66 ?_
          refine zz_iload_3 dX12_compared_67 ?_
          refine zz_icmp_ge 75 dX12_compared_68 (by decide) (fun c_68 => ?_) (fun c_68 => ?_)
          · skip
            refine zz_iconst (0) dX12_compared_75 (by decide) ?_
            refine zz_goto 108 dX12_compared_76 (by decide) ?_
            refine zz_istore_4 dX12_compared_108 rfl rfl ?_
            refine zz_iload_4 dX12_compared_110 ?_
            refine zz_if_eq 119 dX12_compared_112 (by decide) (fun _ => ?_) (fun h => absurd h (by decide))
            refine zz_iconst (0) dX12_compared_119 (by decide) ?_
            refine zz_iret rfl dX12_compared_120 (by decide) (by decide) ?_
            try replace c_68 := Int32.not_lt.mpr c_68
            try replace c_68 := Int32.not_le.mp c_68
            first
              | exact absurd c_28 c_63
              | exact absurd c_63 c_28
              | exact absurd (c_28.symm.trans c_63) (by decide)
              | exact absurd c_28 c_68
              | exact absurd c_68 c_28
              | exact absurd (c_28.symm.trans c_68) (by decide)
              | exact absurd c_63 c_68
              | exact absurd c_68 c_63
              | exact absurd (c_63.symm.trans c_68) (by decide)
              | (rw [pz_lv, if_pos s_1, if_pos rfl, pz_lp, if_pos hop, if_pos s_56, pz_lp, show pz_op (pz_b (g 51) u len (step k).2.1) (step k).2.2.1 (step ((step k).2.1 + 1)).2.2.1 = 0 from by simp (decide := true) only [pz_op, c_28, c_63, c_68, or_self, or_false, false_or, or_true, true_or, and_true, true_and, and_false, false_and, and_self, not_true_eq_false, not_false_eq_true, ↓reduceIte]] at h1; exact h1 rfl)
          · skip
            refine zz_iconst (1) dX12_compared_71 (by decide) ?_
            refine zz_goto 108 dX12_compared_72 (by decide) ?_
            refine zz_istore_4 dX12_compared_108 rfl rfl ?_
            refine zz_iload_4 dX12_compared_110 ?_
            refine zz_if_eq 119 dX12_compared_112 (by decide) (fun h => absurd h (by decide)) (fun _ => ?_)
            refine zz_iconst (1) dX12_compared_115 (by decide) ?_
            refine zz_goto 120 dX12_compared_116 (by decide) ?_
            refine zz_iret rfl dX12_compared_120 (by decide) (by decide) ?_
            try replace c_68 := Int32.not_lt.mpr c_68
            try replace c_68 := Int32.not_le.mp c_68
            first
              | exact absurd c_28 c_63
              | exact absurd c_63 c_28
              | exact absurd (c_28.symm.trans c_63) (by decide)
              | exact absurd c_28 c_68
              | exact absurd c_68 c_28
              | exact absurd (c_28.symm.trans c_68) (by decide)
              | exact absurd c_63 c_68
              | exact absurd c_68 c_63
              | exact absurd (c_63.symm.trans c_68) (by decide)
              | (rw [pz_lv, if_pos s_1, if_pos rfl, pz_lp, if_pos hop, if_pos s_56, pz_lp, show pz_op (pz_b (g 51) u len (step k).2.1) (step k).2.2.1 (step ((step k).2.1 + 1)).2.2.1 = 1 from by simp (decide := true) only [pz_op, c_28, c_63, c_68, or_self, or_false, false_or, or_true, true_or, and_true, true_and, and_false, false_and, and_self, not_true_eq_false, not_false_eq_true, ↓reduceIte]] at h1; exact h1 rfl)
      · skip
        refine zz_istore_3 dX12_compared_59 rfl rfl ?_
        refine zz_iload_2 dX12_compared_60 ?_
        refine zz_bipush (60) dX12_compared_61 (by decide) ?_
        refine zz_icmp_ne 79 dX12_compared_63 (by decide) (fun c_63 => ?_) (fun c_63 => ?_)
        · skip
          refine zz_iload_2 dX12_compared_79 ?_
          refine zz_bipush (61) dX12_compared_80 (by decide) ?_
          refine zz_icmp_ne 98 dX12_compared_82 (by decide) (fun c_82 => ?_) (fun c_82 => ?_)
          · skip
            refine zz_iload_1 dX12_compared_98 ?_
            refine zz_iload_3 dX12_compared_99 ?_
            refine zz_icmp_le 107 dX12_compared_100 (by decide) (fun c_100 => ?_) (fun c_100 => ?_)
            · skip
              refine zz_iconst (0) dX12_compared_107 (by decide) ?_
              refine zz_istore_4 dX12_compared_108 rfl rfl ?_
              refine zz_iload_4 dX12_compared_110 ?_
              refine zz_if_eq 119 dX12_compared_112 (by decide) (fun _ => ?_) (fun h => absurd h (by decide))
              refine zz_iconst (0) dX12_compared_119 (by decide) ?_
              refine zz_iret rfl dX12_compared_120 (by decide) (by decide) ?_
              rw [pz_lv, if_pos s_1, if_pos rfl, pz_lp, if_pos hop, if_neg (by rw [s_56]; decide)] at h0
              exact h0 rfl _
            · skip
              refine zz_iconst (1) dX12_compared_103 (by decide) ?_
              refine zz_goto 108 dX12_compared_104 (by decide) ?_
              refine zz_istore_4 dX12_compared_108 rfl rfl ?_
              refine zz_iload_4 dX12_compared_110 ?_
              refine zz_if_eq 119 dX12_compared_112 (by decide) (fun h => absurd h (by decide)) (fun _ => ?_)
              refine zz_iconst (1) dX12_compared_115 (by decide) ?_
              refine zz_goto 120 dX12_compared_116 (by decide) ?_
              refine zz_iret rfl dX12_compared_120 (by decide) (by decide) ?_
              rw [pz_lv, if_pos s_1, if_pos rfl, pz_lp, if_pos hop, if_neg (by rw [s_56]; decide)] at h0
              exact h0 rfl _
          · skip
            refine zz_iload_1 dX12_compared_85 ?_
            refine zz_iload_3 dX12_compared_86 ?_
            refine zz_icmp_ne 94 dX12_compared_87 (by decide) (fun c_87 => ?_) (fun c_87 => ?_)
            · skip
              refine zz_iconst (0) dX12_compared_94 (by decide) ?_
              refine zz_goto 108 dX12_compared_95 (by decide) ?_
              refine zz_istore_4 dX12_compared_108 rfl rfl ?_
              refine zz_iload_4 dX12_compared_110 ?_
              refine zz_if_eq 119 dX12_compared_112 (by decide) (fun _ => ?_) (fun h => absurd h (by decide))
              refine zz_iconst (0) dX12_compared_119 (by decide) ?_
              refine zz_iret rfl dX12_compared_120 (by decide) (by decide) ?_
              rw [pz_lv, if_pos s_1, if_pos rfl, pz_lp, if_pos hop, if_neg (by rw [s_56]; decide)] at h0
              exact h0 rfl _
            · skip
              refine zz_iconst (1) dX12_compared_90 (by decide) ?_
              refine zz_goto 108 dX12_compared_91 (by decide) ?_
              refine zz_istore_4 dX12_compared_108 rfl rfl ?_
              refine zz_iload_4 dX12_compared_110 ?_
              refine zz_if_eq 119 dX12_compared_112 (by decide) (fun h => absurd h (by decide)) (fun _ => ?_)
              refine zz_iconst (1) dX12_compared_115 (by decide) ?_
              refine zz_goto 120 dX12_compared_116 (by decide) ?_
              refine zz_iret rfl dX12_compared_120 (by decide) (by decide) ?_
              rw [pz_lv, if_pos s_1, if_pos rfl, pz_lp, if_pos hop, if_neg (by rw [s_56]; decide)] at h0
              exact h0 rfl _
        · skip
          refine zz_iload_1 dX12_compared_66 ?_
          refine zz_iload_3 dX12_compared_67 ?_
          refine zz_icmp_ge 75 dX12_compared_68 (by decide) (fun c_68 => ?_) (fun c_68 => ?_)
          · skip
            refine zz_iconst (0) dX12_compared_75 (by decide) ?_
            refine zz_goto 108 dX12_compared_76 (by decide) ?_
            refine zz_istore_4 dX12_compared_108 rfl rfl ?_
            refine zz_iload_4 dX12_compared_110 ?_
            refine zz_if_eq 119 dX12_compared_112 (by decide) (fun _ => ?_) (fun h => absurd h (by decide))
            refine zz_iconst (0) dX12_compared_119 (by decide) ?_
            refine zz_iret rfl dX12_compared_120 (by decide) (by decide) ?_
            rw [pz_lv, if_pos s_1, if_pos rfl, pz_lp, if_pos hop, if_neg (by rw [s_56]; decide)] at h0
            exact h0 rfl _
          · skip
            refine zz_iconst (1) dX12_compared_71 (by decide) ?_
            refine zz_goto 108 dX12_compared_72 (by decide) ?_
            refine zz_istore_4 dX12_compared_108 rfl rfl ?_
            refine zz_iload_4 dX12_compared_110 ?_
            refine zz_if_eq 119 dX12_compared_112 (by decide) (fun h => absurd h (by decide)) (fun _ => ?_)
            refine zz_iconst (1) dX12_compared_115 (by decide) ?_
            refine zz_goto 120 dX12_compared_116 (by decide) ?_
            refine zz_iret rfl dX12_compared_120 (by decide) (by decide) ?_
            rw [pz_lv, if_pos s_1, if_pos rfl, pz_lp, if_pos hop, if_neg (by rw [s_56]; decide)] at h0
            exact h0 rfl _
    · skip
      refine zz_iload_2 dX12_compared_31 ?_
      refine zz_bipush (61) dX12_compared_32 (by decide) ?_
      refine zz_icmp_eq 45 dX12_compared_34 (by decide) (fun c_34 => ?_) (fun c_34 => ?_)
      · skip
        refine zz_aload_0 dX12_compared_45 ?_
        have hop : pz_is 2 (pz_b (g 51) u len (step k).2.1) := by simp (decide := true) only [pz_is, c_28, c_34, or_self, or_false, false_or, or_true, true_or, and_true, true_and, and_false, false_and, and_self, not_true_eq_false, not_false_eq_true, ↓reduceIte]
        have hqlt : (step k).2.1 + 1 ≤ len := pz_is_in hop
        refine zz_dup dX12_compared_46 rfl ?_
        refine zz_getI fl_X12_88 rfl rfl (Nat.lt_of_lt_of_le (by decide) hn) dX12_compared_47 ?_
        refine zz_iconst (1) dX12_compared_50 (by decide) ?_
        refine zz_iadd dX12_compared_51 ?_
        refine zz_putI fl_X12_88 rfl rfl (Nat.lt_of_lt_of_le (by decide) hn) dX12_compared_52 ?_
        rw [pm_k, nI_1, pm_uk]
        refine zz_aload_0 dX12_compared_55 ?_
        refine zz_callV0i cv_X12_128 rfl (Nat.lt_of_lt_of_le (by decide) hn) (Nat.le_of_ble_eq_true rfl) (by decide) (by decide) dX12_compared_56 (hf d ((step k).2.1 + 1) _ (by omega) hqlt (fun s_56 => ⟨_, rfl, ?_⟩) (fun s_56 v_56 => ⟨_, rfl, ?_⟩))
        · skip
          refine zz_istore_3 dX12_compared_59 rfl rfl ?_
          refine zz_iload_2 dX12_compared_60 ?_
          refine zz_bipush (60) dX12_compared_61 (by decide) ?_
          refine zz_icmp_ne 79 dX12_compared_63 (by decide) (fun c_63 => ?_) (fun c_63 => ?_)
          · skip
            refine zz_iload_2 dX12_compared_79 ?_
            refine zz_bipush (61) dX12_compared_80 (by decide) ?_
            refine zz_icmp_ne 98 dX12_compared_82 (by decide) (fun c_82 => ?_) (fun c_82 => ?_)
            · skip
              refine zz_iload_1 dX12_compared_98 ?_
              refine zz_iload_3 dX12_compared_99 ?_
              refine zz_icmp_le 107 dX12_compared_100 (by decide) (fun c_100 => ?_) (fun c_100 => ?_)
              · skip
                refine zz_iconst (0) dX12_compared_107 (by decide) ?_
                refine zz_istore_4 dX12_compared_108 rfl rfl ?_
                refine zz_iload_4 dX12_compared_110 ?_
                refine zz_if_eq 119 dX12_compared_112 (by decide) (fun _ => ?_) (fun h => absurd h (by decide))
                refine zz_iconst (0) dX12_compared_119 (by decide) ?_
                refine zz_iret rfl dX12_compared_120 (by decide) (by decide) ?_
                try replace c_100 := Int32.not_lt.mpr c_100
                try replace c_100 := Int32.not_le.mp c_100
                first
                  | exact absurd c_28 c_34
                  | exact absurd c_34 c_28
                  | exact absurd (c_28.symm.trans c_34) (by decide)
                  | exact absurd c_28 c_63
                  | exact absurd c_63 c_28
                  | exact absurd (c_28.symm.trans c_63) (by decide)
                  | exact absurd c_28 c_82
                  | exact absurd c_82 c_28
                  | exact absurd (c_28.symm.trans c_82) (by decide)
                  | exact absurd c_28 c_100
                  | exact absurd c_100 c_28
                  | exact absurd (c_28.symm.trans c_100) (by decide)
                  | exact absurd c_34 c_63
                  | exact absurd c_63 c_34
                  | exact absurd (c_34.symm.trans c_63) (by decide)
                  | exact absurd c_34 c_82
                  | exact absurd c_82 c_34
                  | exact absurd (c_34.symm.trans c_82) (by decide)
                  | exact absurd c_34 c_100
                  | exact absurd c_100 c_34
                  | exact absurd (c_34.symm.trans c_100) (by decide)
                  | exact absurd c_63 c_82
                  | exact absurd c_82 c_63
                  | exact absurd (c_63.symm.trans c_82) (by decide)
                  | exact absurd c_63 c_100
                  | exact absurd c_100 c_63
                  | exact absurd (c_63.symm.trans c_100) (by decide)
                  | exact absurd c_82 c_100
                  | exact absurd c_100 c_82
                  | exact absurd (c_82.symm.trans c_100) (by decide)
                  | (rw [pz_lv, if_pos s_1, if_pos rfl, pz_lp, if_pos hop, if_pos s_56, pz_lp, show pz_op (pz_b (g 51) u len (step k).2.1) (step k).2.2.1 (step ((step k).2.1 + 1)).2.2.1 = 0 from by simp (decide := true) only [pz_op, c_28, c_34, c_63, c_82, c_100, or_self, or_false, false_or, or_true, true_or, and_true, true_and, and_false, false_and, and_self, not_true_eq_false, not_false_eq_true, ↓reduceIte]] at h1; exact h1 rfl)
              · skip
                refine zz_iconst (1) dX12_compared_103 (by decide) ?_
                refine zz_goto 108 dX12_compared_104 (by decide) ?_
                refine zz_istore_4 dX12_compared_108 rfl rfl ?_
                refine zz_iload_4 dX12_compared_110 ?_
                refine zz_if_eq 119 dX12_compared_112 (by decide) (fun h => absurd h (by decide)) (fun _ => ?_)
                refine zz_iconst (1) dX12_compared_115 (by decide) ?_
                refine zz_goto 120 dX12_compared_116 (by decide) ?_
                refine zz_iret rfl dX12_compared_120 (by decide) (by decide) ?_
                try replace c_100 := Int32.not_lt.mpr c_100
                try replace c_100 := Int32.not_le.mp c_100
                first
                  | exact absurd c_28 c_34
                  | exact absurd c_34 c_28
                  | exact absurd (c_28.symm.trans c_34) (by decide)
                  | exact absurd c_28 c_63
                  | exact absurd c_63 c_28
                  | exact absurd (c_28.symm.trans c_63) (by decide)
                  | exact absurd c_28 c_82
                  | exact absurd c_82 c_28
                  | exact absurd (c_28.symm.trans c_82) (by decide)
                  | exact absurd c_28 c_100
                  | exact absurd c_100 c_28
                  | exact absurd (c_28.symm.trans c_100) (by decide)
                  | exact absurd c_34 c_63
                  | exact absurd c_63 c_34
                  | exact absurd (c_34.symm.trans c_63) (by decide)
                  | exact absurd c_34 c_82
                  | exact absurd c_82 c_34
                  | exact absurd (c_34.symm.trans c_82) (by decide)
                  | exact absurd c_34 c_100
                  | exact absurd c_100 c_34
                  | exact absurd (c_34.symm.trans c_100) (by decide)
                  | exact absurd c_63 c_82
                  | exact absurd c_82 c_63
                  | exact absurd (c_63.symm.trans c_82) (by decide)
                  | exact absurd c_63 c_100
                  | exact absurd c_100 c_63
                  | exact absurd (c_63.symm.trans c_100) (by decide)
                  | exact absurd c_82 c_100
                  | exact absurd c_100 c_82
                  | exact absurd (c_82.symm.trans c_100) (by decide)
                  | (rw [pz_lv, if_pos s_1, if_pos rfl, pz_lp, if_pos hop, if_pos s_56, pz_lp, show pz_op (pz_b (g 51) u len (step k).2.1) (step k).2.2.1 (step ((step k).2.1 + 1)).2.2.1 = 1 from by simp (decide := true) only [pz_op, c_28, c_34, c_63, c_82, c_100, or_self, or_false, false_or, or_true, true_or, and_true, true_and, and_false, false_and, and_self, not_true_eq_false, not_false_eq_true, ↓reduceIte]] at h1; exact h1 rfl)
            · skip
              refine zz_iload_1 dX12_compared_85 ?_
              refine zz_iload_3 dX12_compared_86 ?_
              refine zz_icmp_ne 94 dX12_compared_87 (by decide) (fun c_87 => ?_) (fun c_87 => ?_)
              · skip
                refine zz_iconst (0) dX12_compared_94 (by decide) ?_
                refine zz_goto 108 dX12_compared_95 (by decide) ?_
                refine zz_istore_4 dX12_compared_108 rfl rfl ?_
                refine zz_iload_4 dX12_compared_110 ?_
                refine zz_if_eq 119 dX12_compared_112 (by decide) (fun _ => ?_) (fun h => absurd h (by decide))
                refine zz_iconst (0) dX12_compared_119 (by decide) ?_
                refine zz_iret rfl dX12_compared_120 (by decide) (by decide) ?_
                first
                  | exact absurd c_28 c_34
                  | exact absurd c_34 c_28
                  | exact absurd (c_28.symm.trans c_34) (by decide)
                  | exact absurd c_28 c_63
                  | exact absurd c_63 c_28
                  | exact absurd (c_28.symm.trans c_63) (by decide)
                  | exact absurd c_28 c_82
                  | exact absurd c_82 c_28
                  | exact absurd (c_28.symm.trans c_82) (by decide)
                  | exact absurd c_28 c_87
                  | exact absurd c_87 c_28
                  | exact absurd (c_28.symm.trans c_87) (by decide)
                  | exact absurd c_34 c_63
                  | exact absurd c_63 c_34
                  | exact absurd (c_34.symm.trans c_63) (by decide)
                  | exact absurd c_34 c_82
                  | exact absurd c_82 c_34
                  | exact absurd (c_34.symm.trans c_82) (by decide)
                  | exact absurd c_34 c_87
                  | exact absurd c_87 c_34
                  | exact absurd (c_34.symm.trans c_87) (by decide)
                  | exact absurd c_63 c_82
                  | exact absurd c_82 c_63
                  | exact absurd (c_63.symm.trans c_82) (by decide)
                  | exact absurd c_63 c_87
                  | exact absurd c_87 c_63
                  | exact absurd (c_63.symm.trans c_87) (by decide)
                  | exact absurd c_82 c_87
                  | exact absurd c_87 c_82
                  | exact absurd (c_82.symm.trans c_87) (by decide)
                  | (rw [pz_lv, if_pos s_1, if_pos rfl, pz_lp, if_pos hop, if_pos s_56, pz_lp, show pz_op (pz_b (g 51) u len (step k).2.1) (step k).2.2.1 (step ((step k).2.1 + 1)).2.2.1 = 0 from by simp (decide := true) only [pz_op, c_28, c_34, c_63, c_82, c_87, or_self, or_false, false_or, or_true, true_or, and_true, true_and, and_false, false_and, and_self, not_true_eq_false, not_false_eq_true, ↓reduceIte]] at h1; exact h1 rfl)
              · skip
                refine zz_iconst (1) dX12_compared_90 (by decide) ?_
                refine zz_goto 108 dX12_compared_91 (by decide) ?_
                refine zz_istore_4 dX12_compared_108 rfl rfl ?_
                refine zz_iload_4 dX12_compared_110 ?_
                refine zz_if_eq 119 dX12_compared_112 (by decide) (fun h => absurd h (by decide)) (fun _ => ?_)
                refine zz_iconst (1) dX12_compared_115 (by decide) ?_
                refine zz_goto 120 dX12_compared_116 (by decide) ?_
                refine zz_iret rfl dX12_compared_120 (by decide) (by decide) ?_
                first
                  | exact absurd c_28 c_34
                  | exact absurd c_34 c_28
                  | exact absurd (c_28.symm.trans c_34) (by decide)
                  | exact absurd c_28 c_63
                  | exact absurd c_63 c_28
                  | exact absurd (c_28.symm.trans c_63) (by decide)
                  | exact absurd c_28 c_82
                  | exact absurd c_82 c_28
                  | exact absurd (c_28.symm.trans c_82) (by decide)
                  | exact absurd c_28 c_87
                  | exact absurd c_87 c_28
                  | exact absurd (c_28.symm.trans c_87) (by decide)
                  | exact absurd c_34 c_63
                  | exact absurd c_63 c_34
                  | exact absurd (c_34.symm.trans c_63) (by decide)
                  | exact absurd c_34 c_82
                  | exact absurd c_82 c_34
                  | exact absurd (c_34.symm.trans c_82) (by decide)
                  | exact absurd c_34 c_87
                  | exact absurd c_87 c_34
                  | exact absurd (c_34.symm.trans c_87) (by decide)
                  | exact absurd c_63 c_82
                  | exact absurd c_82 c_63
                  | exact absurd (c_63.symm.trans c_82) (by decide)
                  | exact absurd c_63 c_87
                  | exact absurd c_87 c_63
                  | exact absurd (c_63.symm.trans c_87) (by decide)
                  | exact absurd c_82 c_87
                  | exact absurd c_87 c_82
                  | exact absurd (c_82.symm.trans c_87) (by decide)
                  | (rw [pz_lv, if_pos s_1, if_pos rfl, pz_lp, if_pos hop, if_pos s_56, pz_lp, show pz_op (pz_b (g 51) u len (step k).2.1) (step k).2.2.1 (step ((step k).2.1 + 1)).2.2.1 = 1 from by simp (decide := true) only [pz_op, c_28, c_34, c_63, c_82, c_87, or_self, or_false, false_or, or_true, true_or, and_true, true_and, and_false, false_and, and_self, not_true_eq_false, not_false_eq_true, ↓reduceIte]] at h1; exact h1 rfl)
          · skip
            refine zz_iload_1 dX12_compared_66 ?_
            refine zz_iload_3 dX12_compared_67 ?_
            refine zz_icmp_ge 75 dX12_compared_68 (by decide) (fun c_68 => ?_) (fun c_68 => ?_)
            · skip
              refine zz_iconst (0) dX12_compared_75 (by decide) ?_
              refine zz_goto 108 dX12_compared_76 (by decide) ?_
              refine zz_istore_4 dX12_compared_108 rfl rfl ?_
              refine zz_iload_4 dX12_compared_110 ?_
              refine zz_if_eq 119 dX12_compared_112 (by decide) (fun _ => ?_) (fun h => absurd h (by decide))
              refine zz_iconst (0) dX12_compared_119 (by decide) ?_
              refine zz_iret rfl dX12_compared_120 (by decide) (by decide) ?_
              try replace c_68 := Int32.not_lt.mpr c_68
              try replace c_68 := Int32.not_le.mp c_68
              first
                | exact absurd c_28 c_34
                | exact absurd c_34 c_28
                | exact absurd (c_28.symm.trans c_34) (by decide)
                | exact absurd c_28 c_63
                | exact absurd c_63 c_28
                | exact absurd (c_28.symm.trans c_63) (by decide)
                | exact absurd c_28 c_68
                | exact absurd c_68 c_28
                | exact absurd (c_28.symm.trans c_68) (by decide)
                | exact absurd c_34 c_63
                | exact absurd c_63 c_34
                | exact absurd (c_34.symm.trans c_63) (by decide)
                | exact absurd c_34 c_68
                | exact absurd c_68 c_34
                | exact absurd (c_34.symm.trans c_68) (by decide)
                | exact absurd c_63 c_68
                | exact absurd c_68 c_63
                | exact absurd (c_63.symm.trans c_68) (by decide)
                | (rw [pz_lv, if_pos s_1, if_pos rfl, pz_lp, if_pos hop, if_pos s_56, pz_lp, show pz_op (pz_b (g 51) u len (step k).2.1) (step k).2.2.1 (step ((step k).2.1 + 1)).2.2.1 = 0 from by simp (decide := true) only [pz_op, c_28, c_34, c_63, c_68, or_self, or_false, false_or, or_true, true_or, and_true, true_and, and_false, false_and, and_self, not_true_eq_false, not_false_eq_true, ↓reduceIte]] at h1; exact h1 rfl)
            · skip
              refine zz_iconst (1) dX12_compared_71 (by decide) ?_
              refine zz_goto 108 dX12_compared_72 (by decide) ?_
              refine zz_istore_4 dX12_compared_108 rfl rfl ?_
              refine zz_iload_4 dX12_compared_110 ?_
              refine zz_if_eq 119 dX12_compared_112 (by decide) (fun h => absurd h (by decide)) (fun _ => ?_)
              refine zz_iconst (1) dX12_compared_115 (by decide) ?_
              refine zz_goto 120 dX12_compared_116 (by decide) ?_
              refine zz_iret rfl dX12_compared_120 (by decide) (by decide) ?_
              try replace c_68 := Int32.not_lt.mpr c_68
              try replace c_68 := Int32.not_le.mp c_68
              first
                | exact absurd c_28 c_34
                | exact absurd c_34 c_28
                | exact absurd (c_28.symm.trans c_34) (by decide)
                | exact absurd c_28 c_63
                | exact absurd c_63 c_28
                | exact absurd (c_28.symm.trans c_63) (by decide)
                | exact absurd c_28 c_68
                | exact absurd c_68 c_28
                | exact absurd (c_28.symm.trans c_68) (by decide)
                | exact absurd c_34 c_63
                | exact absurd c_63 c_34
                | exact absurd (c_34.symm.trans c_63) (by decide)
                | exact absurd c_34 c_68
                | exact absurd c_68 c_34
                | exact absurd (c_34.symm.trans c_68) (by decide)
                | exact absurd c_63 c_68
                | exact absurd c_68 c_63
                | exact absurd (c_63.symm.trans c_68) (by decide)
                | (rw [pz_lv, if_pos s_1, if_pos rfl, pz_lp, if_pos hop, if_pos s_56, pz_lp, show pz_op (pz_b (g 51) u len (step k).2.1) (step k).2.2.1 (step ((step k).2.1 + 1)).2.2.1 = 1 from by simp (decide := true) only [pz_op, c_28, c_34, c_63, c_68, or_self, or_false, false_or, or_true, true_or, and_true, true_and, and_false, false_and, and_self, not_true_eq_false, not_false_eq_true, ↓reduceIte]] at h1; exact h1 rfl)
        · skip
          refine zz_istore_3 dX12_compared_59 rfl rfl ?_
          refine zz_iload_2 dX12_compared_60 ?_
          refine zz_bipush (60) dX12_compared_61 (by decide) ?_
          refine zz_icmp_ne 79 dX12_compared_63 (by decide) (fun c_63 => ?_) (fun c_63 => ?_)
          · skip
            refine zz_iload_2 dX12_compared_79 ?_
            refine zz_bipush (61) dX12_compared_80 (by decide) ?_
            refine zz_icmp_ne 98 dX12_compared_82 (by decide) (fun c_82 => ?_) (fun c_82 => ?_)
            · skip
              refine zz_iload_1 dX12_compared_98 ?_
              refine zz_iload_3 dX12_compared_99 ?_
              refine zz_icmp_le 107 dX12_compared_100 (by decide) (fun c_100 => ?_) (fun c_100 => ?_)
              · skip
                refine zz_iconst (0) dX12_compared_107 (by decide) ?_
                refine zz_istore_4 dX12_compared_108 rfl rfl ?_
                refine zz_iload_4 dX12_compared_110 ?_
                refine zz_if_eq 119 dX12_compared_112 (by decide) (fun _ => ?_) (fun h => absurd h (by decide))
                refine zz_iconst (0) dX12_compared_119 (by decide) ?_
                refine zz_iret rfl dX12_compared_120 (by decide) (by decide) ?_
                rw [pz_lv, if_pos s_1, if_pos rfl, pz_lp, if_pos hop, if_neg (by rw [s_56]; decide)] at h0
                exact h0 rfl _
              · skip
                refine zz_iconst (1) dX12_compared_103 (by decide) ?_
                refine zz_goto 108 dX12_compared_104 (by decide) ?_
                refine zz_istore_4 dX12_compared_108 rfl rfl ?_
                refine zz_iload_4 dX12_compared_110 ?_
                refine zz_if_eq 119 dX12_compared_112 (by decide) (fun h => absurd h (by decide)) (fun _ => ?_)
                refine zz_iconst (1) dX12_compared_115 (by decide) ?_
                refine zz_goto 120 dX12_compared_116 (by decide) ?_
                refine zz_iret rfl dX12_compared_120 (by decide) (by decide) ?_
                rw [pz_lv, if_pos s_1, if_pos rfl, pz_lp, if_pos hop, if_neg (by rw [s_56]; decide)] at h0
                exact h0 rfl _
            · skip
              refine zz_iload_1 dX12_compared_85 ?_
              refine zz_iload_3 dX12_compared_86 ?_
              refine zz_icmp_ne 94 dX12_compared_87 (by decide) (fun c_87 => ?_) (fun c_87 => ?_)
              · skip
                refine zz_iconst (0) dX12_compared_94 (by decide) ?_
                refine zz_goto 108 dX12_compared_95 (by decide) ?_
                refine zz_istore_4 dX12_compared_108 rfl rfl ?_
                refine zz_iload_4 dX12_compared_110 ?_
                refine zz_if_eq 119 dX12_compared_112 (by decide) (fun _ => ?_) (fun h => absurd h (by decide))
                refine zz_iconst (0) dX12_compared_119 (by decide) ?_
                refine zz_iret rfl dX12_compared_120 (by decide) (by decide) ?_
                rw [pz_lv, if_pos s_1, if_pos rfl, pz_lp, if_pos hop, if_neg (by rw [s_56]; decide)] at h0
                exact h0 rfl _
              · skip
                refine zz_iconst (1) dX12_compared_90 (by decide) ?_
                refine zz_goto 108 dX12_compared_91 (by decide) ?_
                refine zz_istore_4 dX12_compared_108 rfl rfl ?_
                refine zz_iload_4 dX12_compared_110 ?_
                refine zz_if_eq 119 dX12_compared_112 (by decide) (fun h => absurd h (by decide)) (fun _ => ?_)
                refine zz_iconst (1) dX12_compared_115 (by decide) ?_
                refine zz_goto 120 dX12_compared_116 (by decide) ?_
                refine zz_iret rfl dX12_compared_120 (by decide) (by decide) ?_
                rw [pz_lv, if_pos s_1, if_pos rfl, pz_lp, if_pos hop, if_neg (by rw [s_56]; decide)] at h0
                exact h0 rfl _
          · skip
            refine zz_iload_1 dX12_compared_66 ?_
            refine zz_iload_3 dX12_compared_67 ?_
            refine zz_icmp_ge 75 dX12_compared_68 (by decide) (fun c_68 => ?_) (fun c_68 => ?_)
            · skip
              refine zz_iconst (0) dX12_compared_75 (by decide) ?_
              refine zz_goto 108 dX12_compared_76 (by decide) ?_
              refine zz_istore_4 dX12_compared_108 rfl rfl ?_
              refine zz_iload_4 dX12_compared_110 ?_
              refine zz_if_eq 119 dX12_compared_112 (by decide) (fun _ => ?_) (fun h => absurd h (by decide))
              refine zz_iconst (0) dX12_compared_119 (by decide) ?_
              refine zz_iret rfl dX12_compared_120 (by decide) (by decide) ?_
              rw [pz_lv, if_pos s_1, if_pos rfl, pz_lp, if_pos hop, if_neg (by rw [s_56]; decide)] at h0
              exact h0 rfl _
            · skip
              refine zz_iconst (1) dX12_compared_71 (by decide) ?_
              refine zz_goto 108 dX12_compared_72 (by decide) ?_
              refine zz_istore_4 dX12_compared_108 rfl rfl ?_
              refine zz_iload_4 dX12_compared_110 ?_
              refine zz_if_eq 119 dX12_compared_112 (by decide) (fun h => absurd h (by decide)) (fun _ => ?_)
              refine zz_iconst (1) dX12_compared_115 (by decide) ?_
              refine zz_goto 120 dX12_compared_116 (by decide) ?_
              refine zz_iret rfl dX12_compared_120 (by decide) (by decide) ?_
              rw [pz_lv, if_pos s_1, if_pos rfl, pz_lp, if_pos hop, if_neg (by rw [s_56]; decide)] at h0
              exact h0 rfl _
      · skip
        refine zz_iload_2 dX12_compared_37 ?_
        refine zz_bipush (62) dX12_compared_38 (by decide) ?_
        refine zz_icmp_eq 45 dX12_compared_40 (by decide) (fun c_40 => ?_) (fun c_40 => ?_)
        · skip
          refine zz_aload_0 dX12_compared_45 ?_
          have hop : pz_is 2 (pz_b (g 51) u len (step k).2.1) := by simp (decide := true) only [pz_is, c_28, c_34, c_40, or_self, or_false, false_or, or_true, true_or, and_true, true_and, and_false, false_and, and_self, not_true_eq_false, not_false_eq_true, ↓reduceIte]
          have hqlt : (step k).2.1 + 1 ≤ len := pz_is_in hop
          refine zz_dup dX12_compared_46 rfl ?_
          refine zz_getI fl_X12_88 rfl rfl (Nat.lt_of_lt_of_le (by decide) hn) dX12_compared_47 ?_
          refine zz_iconst (1) dX12_compared_50 (by decide) ?_
          refine zz_iadd dX12_compared_51 ?_
          refine zz_putI fl_X12_88 rfl rfl (Nat.lt_of_lt_of_le (by decide) hn) dX12_compared_52 ?_
          rw [pm_k, nI_1, pm_uk]
          refine zz_aload_0 dX12_compared_55 ?_
          refine zz_callV0i cv_X12_128 rfl (Nat.lt_of_lt_of_le (by decide) hn) (Nat.le_of_ble_eq_true rfl) (by decide) (by decide) dX12_compared_56 (hf d ((step k).2.1 + 1) _ (by omega) hqlt (fun s_56 => ⟨_, rfl, ?_⟩) (fun s_56 v_56 => ⟨_, rfl, ?_⟩))
          · skip
            refine zz_istore_3 dX12_compared_59 rfl rfl ?_
            refine zz_iload_2 dX12_compared_60 ?_
            refine zz_bipush (60) dX12_compared_61 (by decide) ?_
            refine zz_icmp_ne 79 dX12_compared_63 (by decide) (fun c_63 => ?_) (fun c_63 => ?_)
            · skip
              refine zz_iload_2 dX12_compared_79 ?_
              refine zz_bipush (61) dX12_compared_80 (by decide) ?_
              refine zz_icmp_ne 98 dX12_compared_82 (by decide) (fun c_82 => ?_) (fun c_82 => ?_)
              · skip
                refine zz_iload_1 dX12_compared_98 ?_
                refine zz_iload_3 dX12_compared_99 ?_
                refine zz_icmp_le 107 dX12_compared_100 (by decide) (fun c_100 => ?_) (fun c_100 => ?_)
                · skip
                  refine zz_iconst (0) dX12_compared_107 (by decide) ?_
                  refine zz_istore_4 dX12_compared_108 rfl rfl ?_
                  refine zz_iload_4 dX12_compared_110 ?_
                  refine zz_if_eq 119 dX12_compared_112 (by decide) (fun _ => ?_) (fun h => absurd h (by decide))
                  refine zz_iconst (0) dX12_compared_119 (by decide) ?_
                  refine zz_iret rfl dX12_compared_120 (by decide) (by decide) ?_
                  try replace c_100 := Int32.not_lt.mpr c_100
                  try replace c_100 := Int32.not_le.mp c_100
                  first
                    | exact absurd c_28 c_34
                    | exact absurd c_34 c_28
                    | exact absurd (c_28.symm.trans c_34) (by decide)
                    | exact absurd c_28 c_40
                    | exact absurd c_40 c_28
                    | exact absurd (c_28.symm.trans c_40) (by decide)
                    | exact absurd c_28 c_63
                    | exact absurd c_63 c_28
                    | exact absurd (c_28.symm.trans c_63) (by decide)
                    | exact absurd c_28 c_82
                    | exact absurd c_82 c_28
                    | exact absurd (c_28.symm.trans c_82) (by decide)
                    | exact absurd c_28 c_100
                    | exact absurd c_100 c_28
                    | exact absurd (c_28.symm.trans c_100) (by decide)
                    | exact absurd c_34 c_40
                    | exact absurd c_40 c_34
                    | exact absurd (c_34.symm.trans c_40) (by decide)
                    | exact absurd c_34 c_63
                    | exact absurd c_63 c_34
                    | exact absurd (c_34.symm.trans c_63) (by decide)
                    | exact absurd c_34 c_82
                    | exact absurd c_82 c_34
                    | exact absurd (c_34.symm.trans c_82) (by decide)
                    | exact absurd c_34 c_100
                    | exact absurd c_100 c_34
                    | exact absurd (c_34.symm.trans c_100) (by decide)
                    | exact absurd c_40 c_63
                    | exact absurd c_63 c_40
                    | exact absurd (c_40.symm.trans c_63) (by decide)
                    | exact absurd c_40 c_82
                    | exact absurd c_82 c_40
                    | exact absurd (c_40.symm.trans c_82) (by decide)
                    | exact absurd c_40 c_100
                    | exact absurd c_100 c_40
                    | exact absurd (c_40.symm.trans c_100) (by decide)
                    | exact absurd c_63 c_82
                    | exact absurd c_82 c_63
                    | exact absurd (c_63.symm.trans c_82) (by decide)
                    | exact absurd c_63 c_100
                    | exact absurd c_100 c_63
                    | exact absurd (c_63.symm.trans c_100) (by decide)
                    | exact absurd c_82 c_100
                    | exact absurd c_100 c_82
                    | exact absurd (c_82.symm.trans c_100) (by decide)
                    | (rw [pz_lv, if_pos s_1, if_pos rfl, pz_lp, if_pos hop, if_pos s_56, pz_lp, show pz_op (pz_b (g 51) u len (step k).2.1) (step k).2.2.1 (step ((step k).2.1 + 1)).2.2.1 = 0 from by simp (decide := true) only [pz_op, c_28, c_34, c_40, c_63, c_82, c_100, or_self, or_false, false_or, or_true, true_or, and_true, true_and, and_false, false_and, and_self, not_true_eq_false, not_false_eq_true, ↓reduceIte]] at h1; exact h1 rfl)
                · skip
                  refine zz_iconst (1) dX12_compared_103 (by decide) ?_
                  refine zz_goto 108 dX12_compared_104 (by decide) ?_
                  refine zz_istore_4 dX12_compared_108 rfl rfl ?_
                  refine zz_iload_4 dX12_compared_110 ?_
                  refine zz_if_eq 119 dX12_compared_112 (by decide) (fun h => absurd h (by decide)) (fun _ => ?_)
                  refine zz_iconst (1) dX12_compared_115 (by decide) ?_
                  refine zz_goto 120 dX12_compared_116 (by decide) ?_
                  refine zz_iret rfl dX12_compared_120 (by decide) (by decide) ?_
                  try replace c_100 := Int32.not_lt.mpr c_100
                  try replace c_100 := Int32.not_le.mp c_100
                  first
                    | exact absurd c_28 c_34
                    | exact absurd c_34 c_28
                    | exact absurd (c_28.symm.trans c_34) (by decide)
                    | exact absurd c_28 c_40
                    | exact absurd c_40 c_28
                    | exact absurd (c_28.symm.trans c_40) (by decide)
                    | exact absurd c_28 c_63
                    | exact absurd c_63 c_28
                    | exact absurd (c_28.symm.trans c_63) (by decide)
                    | exact absurd c_28 c_82
                    | exact absurd c_82 c_28
                    | exact absurd (c_28.symm.trans c_82) (by decide)
                    | exact absurd c_28 c_100
                    | exact absurd c_100 c_28
                    | exact absurd (c_28.symm.trans c_100) (by decide)
                    | exact absurd c_34 c_40
                    | exact absurd c_40 c_34
                    | exact absurd (c_34.symm.trans c_40) (by decide)
                    | exact absurd c_34 c_63
                    | exact absurd c_63 c_34
                    | exact absurd (c_34.symm.trans c_63) (by decide)
                    | exact absurd c_34 c_82
                    | exact absurd c_82 c_34
                    | exact absurd (c_34.symm.trans c_82) (by decide)
                    | exact absurd c_34 c_100
                    | exact absurd c_100 c_34
                    | exact absurd (c_34.symm.trans c_100) (by decide)
                    | exact absurd c_40 c_63
                    | exact absurd c_63 c_40
                    | exact absurd (c_40.symm.trans c_63) (by decide)
                    | exact absurd c_40 c_82
                    | exact absurd c_82 c_40
                    | exact absurd (c_40.symm.trans c_82) (by decide)
                    | exact absurd c_40 c_100
                    | exact absurd c_100 c_40
                    | exact absurd (c_40.symm.trans c_100) (by decide)
                    | exact absurd c_63 c_82
                    | exact absurd c_82 c_63
                    | exact absurd (c_63.symm.trans c_82) (by decide)
                    | exact absurd c_63 c_100
                    | exact absurd c_100 c_63
                    | exact absurd (c_63.symm.trans c_100) (by decide)
                    | exact absurd c_82 c_100
                    | exact absurd c_100 c_82
                    | exact absurd (c_82.symm.trans c_100) (by decide)
                    | (rw [pz_lv, if_pos s_1, if_pos rfl, pz_lp, if_pos hop, if_pos s_56, pz_lp, show pz_op (pz_b (g 51) u len (step k).2.1) (step k).2.2.1 (step ((step k).2.1 + 1)).2.2.1 = 1 from by simp (decide := true) only [pz_op, c_28, c_34, c_40, c_63, c_82, c_100, or_self, or_false, false_or, or_true, true_or, and_true, true_and, and_false, false_and, and_self, not_true_eq_false, not_false_eq_true, ↓reduceIte]] at h1; exact h1 rfl)
              · skip
                refine zz_iload_1 dX12_compared_85 ?_
                refine zz_iload_3 dX12_compared_86 ?_
                refine zz_icmp_ne 94 dX12_compared_87 (by decide) (fun c_87 => ?_) (fun c_87 => ?_)
                · skip
                  refine zz_iconst (0) dX12_compared_94 (by decide) ?_
                  refine zz_goto 108 dX12_compared_95 (by decide) ?_
                  refine zz_istore_4 dX12_compared_108 rfl rfl ?_
                  refine zz_iload_4 dX12_compared_110 ?_
                  refine zz_if_eq 119 dX12_compared_112 (by decide) (fun _ => ?_) (fun h => absurd h (by decide))
                  refine zz_iconst (0) dX12_compared_119 (by decide) ?_
                  refine zz_iret rfl dX12_compared_120 (by decide) (by decide) ?_
                  first
                    | exact absurd c_28 c_34
                    | exact absurd c_34 c_28
                    | exact absurd (c_28.symm.trans c_34) (by decide)
                    | exact absurd c_28 c_40
                    | exact absurd c_40 c_28
                    | exact absurd (c_28.symm.trans c_40) (by decide)
                    | exact absurd c_28 c_63
                    | exact absurd c_63 c_28
                    | exact absurd (c_28.symm.trans c_63) (by decide)
                    | exact absurd c_28 c_82
                    | exact absurd c_82 c_28
                    | exact absurd (c_28.symm.trans c_82) (by decide)
                    | exact absurd c_28 c_87
                    | exact absurd c_87 c_28
                    | exact absurd (c_28.symm.trans c_87) (by decide)
                    | exact absurd c_34 c_40
                    | exact absurd c_40 c_34
                    | exact absurd (c_34.symm.trans c_40) (by decide)
                    | exact absurd c_34 c_63
                    | exact absurd c_63 c_34
                    | exact absurd (c_34.symm.trans c_63) (by decide)
                    | exact absurd c_34 c_82
                    | exact absurd c_82 c_34
                    | exact absurd (c_34.symm.trans c_82) (by decide)
                    | exact absurd c_34 c_87
                    | exact absurd c_87 c_34
                    | exact absurd (c_34.symm.trans c_87) (by decide)
                    | exact absurd c_40 c_63
                    | exact absurd c_63 c_40
                    | exact absurd (c_40.symm.trans c_63) (by decide)
                    | exact absurd c_40 c_82
                    | exact absurd c_82 c_40
                    | exact absurd (c_40.symm.trans c_82) (by decide)
                    | exact absurd c_40 c_87
                    | exact absurd c_87 c_40
                    | exact absurd (c_40.symm.trans c_87) (by decide)
                    | exact absurd c_63 c_82
                    | exact absurd c_82 c_63
                    | exact absurd (c_63.symm.trans c_82) (by decide)
                    | exact absurd c_63 c_87
                    | exact absurd c_87 c_63
                    | exact absurd (c_63.symm.trans c_87) (by decide)
                    | exact absurd c_82 c_87
                    | exact absurd c_87 c_82
                    | exact absurd (c_82.symm.trans c_87) (by decide)
                    | (rw [pz_lv, if_pos s_1, if_pos rfl, pz_lp, if_pos hop, if_pos s_56, pz_lp, show pz_op (pz_b (g 51) u len (step k).2.1) (step k).2.2.1 (step ((step k).2.1 + 1)).2.2.1 = 0 from by simp (decide := true) only [pz_op, c_28, c_34, c_40, c_63, c_82, c_87, or_self, or_false, false_or, or_true, true_or, and_true, true_and, and_false, false_and, and_self, not_true_eq_false, not_false_eq_true, ↓reduceIte]] at h1; exact h1 rfl)
                · skip
                  refine zz_iconst (1) dX12_compared_90 (by decide) ?_
                  refine zz_goto 108 dX12_compared_91 (by decide) ?_
                  refine zz_istore_4 dX12_compared_108 rfl rfl ?_
                  refine zz_iload_4 dX12_compared_110 ?_
                  refine zz_if_eq 119 dX12_compared_112 (by decide) (fun h => absurd h (by decide)) (fun _ => ?_)
                  refine zz_iconst (1) dX12_compared_115 (by decide) ?_
                  refine zz_goto 120 dX12_compared_116 (by decide) ?_
                  refine zz_iret rfl dX12_compared_120 (by decide) (by decide) ?_
                  first
                    | exact absurd c_28 c_34
                    | exact absurd c_34 c_28
                    | exact absurd (c_28.symm.trans c_34) (by decide)
                    | exact absurd c_28 c_40
                    | exact absurd c_40 c_28
                    | exact absurd (c_28.symm.trans c_40) (by decide)
                    | exact absurd c_28 c_63
                    | exact absurd c_63 c_28
                    | exact absurd (c_28.symm.trans c_63) (by decide)
                    | exact absurd c_28 c_82
                    | exact absurd c_82 c_28
                    | exact absurd (c_28.symm.trans c_82) (by decide)
                    | exact absurd c_28 c_87
                    | exact absurd c_87 c_28
                    | exact absurd (c_28.symm.trans c_87) (by decide)
                    | exact absurd c_34 c_40
                    | exact absurd c_40 c_34
                    | exact absurd (c_34.symm.trans c_40) (by decide)
                    | exact absurd c_34 c_63
                    | exact absurd c_63 c_34
                    | exact absurd (c_34.symm.trans c_63) (by decide)
                    | exact absurd c_34 c_82
                    | exact absurd c_82 c_34
                    | exact absurd (c_34.symm.trans c_82) (by decide)
                    | exact absurd c_34 c_87
                    | exact absurd c_87 c_34
                    | exact absurd (c_34.symm.trans c_87) (by decide)
                    | exact absurd c_40 c_63
                    | exact absurd c_63 c_40
                    | exact absurd (c_40.symm.trans c_63) (by decide)
                    | exact absurd c_40 c_82
                    | exact absurd c_82 c_40
                    | exact absurd (c_40.symm.trans c_82) (by decide)
                    | exact absurd c_40 c_87
                    | exact absurd c_87 c_40
                    | exact absurd (c_40.symm.trans c_87) (by decide)
                    | exact absurd c_63 c_82
                    | exact absurd c_82 c_63
                    | exact absurd (c_63.symm.trans c_82) (by decide)
                    | exact absurd c_63 c_87
                    | exact absurd c_87 c_63
                    | exact absurd (c_63.symm.trans c_87) (by decide)
                    | exact absurd c_82 c_87
                    | exact absurd c_87 c_82
                    | exact absurd (c_82.symm.trans c_87) (by decide)
                    | (rw [pz_lv, if_pos s_1, if_pos rfl, pz_lp, if_pos hop, if_pos s_56, pz_lp, show pz_op (pz_b (g 51) u len (step k).2.1) (step k).2.2.1 (step ((step k).2.1 + 1)).2.2.1 = 1 from by simp (decide := true) only [pz_op, c_28, c_34, c_40, c_63, c_82, c_87, or_self, or_false, false_or, or_true, true_or, and_true, true_and, and_false, false_and, and_self, not_true_eq_false, not_false_eq_true, ↓reduceIte]] at h1; exact h1 rfl)
            · skip
              refine zz_iload_1 dX12_compared_66 ?_
              refine zz_iload_3 dX12_compared_67 ?_
              refine zz_icmp_ge 75 dX12_compared_68 (by decide) (fun c_68 => ?_) (fun c_68 => ?_)
              · skip
                refine zz_iconst (0) dX12_compared_75 (by decide) ?_
                refine zz_goto 108 dX12_compared_76 (by decide) ?_
                refine zz_istore_4 dX12_compared_108 rfl rfl ?_
                refine zz_iload_4 dX12_compared_110 ?_
                refine zz_if_eq 119 dX12_compared_112 (by decide) (fun _ => ?_) (fun h => absurd h (by decide))
                refine zz_iconst (0) dX12_compared_119 (by decide) ?_
                refine zz_iret rfl dX12_compared_120 (by decide) (by decide) ?_
                try replace c_68 := Int32.not_lt.mpr c_68
                try replace c_68 := Int32.not_le.mp c_68
                first
                  | exact absurd c_28 c_34
                  | exact absurd c_34 c_28
                  | exact absurd (c_28.symm.trans c_34) (by decide)
                  | exact absurd c_28 c_40
                  | exact absurd c_40 c_28
                  | exact absurd (c_28.symm.trans c_40) (by decide)
                  | exact absurd c_28 c_63
                  | exact absurd c_63 c_28
                  | exact absurd (c_28.symm.trans c_63) (by decide)
                  | exact absurd c_28 c_68
                  | exact absurd c_68 c_28
                  | exact absurd (c_28.symm.trans c_68) (by decide)
                  | exact absurd c_34 c_40
                  | exact absurd c_40 c_34
                  | exact absurd (c_34.symm.trans c_40) (by decide)
                  | exact absurd c_34 c_63
                  | exact absurd c_63 c_34
                  | exact absurd (c_34.symm.trans c_63) (by decide)
                  | exact absurd c_34 c_68
                  | exact absurd c_68 c_34
                  | exact absurd (c_34.symm.trans c_68) (by decide)
                  | exact absurd c_40 c_63
                  | exact absurd c_63 c_40
                  | exact absurd (c_40.symm.trans c_63) (by decide)
                  | exact absurd c_40 c_68
                  | exact absurd c_68 c_40
                  | exact absurd (c_40.symm.trans c_68) (by decide)
                  | exact absurd c_63 c_68
                  | exact absurd c_68 c_63
                  | exact absurd (c_63.symm.trans c_68) (by decide)
                  | (rw [pz_lv, if_pos s_1, if_pos rfl, pz_lp, if_pos hop, if_pos s_56, pz_lp, show pz_op (pz_b (g 51) u len (step k).2.1) (step k).2.2.1 (step ((step k).2.1 + 1)).2.2.1 = 0 from by simp (decide := true) only [pz_op, c_28, c_34, c_40, c_63, c_68, or_self, or_false, false_or, or_true, true_or, and_true, true_and, and_false, false_and, and_self, not_true_eq_false, not_false_eq_true, ↓reduceIte]] at h1; exact h1 rfl)
              · skip
                refine zz_iconst (1) dX12_compared_71 (by decide) ?_
                refine zz_goto 108 dX12_compared_72 (by decide) ?_
                refine zz_istore_4 dX12_compared_108 rfl rfl ?_
                refine zz_iload_4 dX12_compared_110 ?_
                refine zz_if_eq 119 dX12_compared_112 (by decide) (fun h => absurd h (by decide)) (fun _ => ?_)
                refine zz_iconst (1) dX12_compared_115 (by decide) ?_
                refine zz_goto 120 dX12_compared_116 (by decide) ?_
                refine zz_iret rfl dX12_compared_120 (by decide) (by decide) ?_
                try replace c_68 := Int32.not_lt.mpr c_68
                try replace c_68 := Int32.not_le.mp c_68
                first
                  | exact absurd c_28 c_34
                  | exact absurd c_34 c_28
                  | exact absurd (c_28.symm.trans c_34) (by decide)
                  | exact absurd c_28 c_40
                  | exact absurd c_40 c_28
                  | exact absurd (c_28.symm.trans c_40) (by decide)
                  | exact absurd c_28 c_63
                  | exact absurd c_63 c_28
                  | exact absurd (c_28.symm.trans c_63) (by decide)
                  | exact absurd c_28 c_68
                  | exact absurd c_68 c_28
                  | exact absurd (c_28.symm.trans c_68) (by decide)
                  | exact absurd c_34 c_40
                  | exact absurd c_40 c_34
                  | exact absurd (c_34.symm.trans c_40) (by decide)
                  | exact absurd c_34 c_63
                  | exact absurd c_63 c_34
                  | exact absurd (c_34.symm.trans c_63) (by decide)
                  | exact absurd c_34 c_68
                  | exact absurd c_68 c_34
                  | exact absurd (c_34.symm.trans c_68) (by decide)
                  | exact absurd c_40 c_63
                  | exact absurd c_63 c_40
                  | exact absurd (c_40.symm.trans c_63) (by decide)
                  | exact absurd c_40 c_68
                  | exact absurd c_68 c_40
                  | exact absurd (c_40.symm.trans c_68) (by decide)
                  | exact absurd c_63 c_68
                  | exact absurd c_68 c_63
                  | exact absurd (c_63.symm.trans c_68) (by decide)
                  | (rw [pz_lv, if_pos s_1, if_pos rfl, pz_lp, if_pos hop, if_pos s_56, pz_lp, show pz_op (pz_b (g 51) u len (step k).2.1) (step k).2.2.1 (step ((step k).2.1 + 1)).2.2.1 = 1 from by simp (decide := true) only [pz_op, c_28, c_34, c_40, c_63, c_68, or_self, or_false, false_or, or_true, true_or, and_true, true_and, and_false, false_and, and_self, not_true_eq_false, not_false_eq_true, ↓reduceIte]] at h1; exact h1 rfl)
          · skip
            refine zz_istore_3 dX12_compared_59 rfl rfl ?_
            refine zz_iload_2 dX12_compared_60 ?_
            refine zz_bipush (60) dX12_compared_61 (by decide) ?_
            refine zz_icmp_ne 79 dX12_compared_63 (by decide) (fun c_63 => ?_) (fun c_63 => ?_)
            · skip
              refine zz_iload_2 dX12_compared_79 ?_
              refine zz_bipush (61) dX12_compared_80 (by decide) ?_
              refine zz_icmp_ne 98 dX12_compared_82 (by decide) (fun c_82 => ?_) (fun c_82 => ?_)
              · skip
                refine zz_iload_1 dX12_compared_98 ?_
                refine zz_iload_3 dX12_compared_99 ?_
                refine zz_icmp_le 107 dX12_compared_100 (by decide) (fun c_100 => ?_) (fun c_100 => ?_)
                · skip
                  refine zz_iconst (0) dX12_compared_107 (by decide) ?_
                  refine zz_istore_4 dX12_compared_108 rfl rfl ?_
                  refine zz_iload_4 dX12_compared_110 ?_
                  refine zz_if_eq 119 dX12_compared_112 (by decide) (fun _ => ?_) (fun h => absurd h (by decide))
                  refine zz_iconst (0) dX12_compared_119 (by decide) ?_
                  refine zz_iret rfl dX12_compared_120 (by decide) (by decide) ?_
                  rw [pz_lv, if_pos s_1, if_pos rfl, pz_lp, if_pos hop, if_neg (by rw [s_56]; decide)] at h0
                  exact h0 rfl _
                · skip
                  refine zz_iconst (1) dX12_compared_103 (by decide) ?_
                  refine zz_goto 108 dX12_compared_104 (by decide) ?_
                  refine zz_istore_4 dX12_compared_108 rfl rfl ?_
                  refine zz_iload_4 dX12_compared_110 ?_
                  refine zz_if_eq 119 dX12_compared_112 (by decide) (fun h => absurd h (by decide)) (fun _ => ?_)
                  refine zz_iconst (1) dX12_compared_115 (by decide) ?_
                  refine zz_goto 120 dX12_compared_116 (by decide) ?_
                  refine zz_iret rfl dX12_compared_120 (by decide) (by decide) ?_
                  rw [pz_lv, if_pos s_1, if_pos rfl, pz_lp, if_pos hop, if_neg (by rw [s_56]; decide)] at h0
                  exact h0 rfl _
              · skip
                refine zz_iload_1 dX12_compared_85 ?_
                refine zz_iload_3 dX12_compared_86 ?_
                refine zz_icmp_ne 94 dX12_compared_87 (by decide) (fun c_87 => ?_) (fun c_87 => ?_)
                · skip
                  refine zz_iconst (0) dX12_compared_94 (by decide) ?_
                  refine zz_goto 108 dX12_compared_95 (by decide) ?_
                  refine zz_istore_4 dX12_compared_108 rfl rfl ?_
                  refine zz_iload_4 dX12_compared_110 ?_
                  refine zz_if_eq 119 dX12_compared_112 (by decide) (fun _ => ?_) (fun h => absurd h (by decide))
                  refine zz_iconst (0) dX12_compared_119 (by decide) ?_
                  refine zz_iret rfl dX12_compared_120 (by decide) (by decide) ?_
                  rw [pz_lv, if_pos s_1, if_pos rfl, pz_lp, if_pos hop, if_neg (by rw [s_56]; decide)] at h0
                  exact h0 rfl _
                · skip
                  refine zz_iconst (1) dX12_compared_90 (by decide) ?_
                  refine zz_goto 108 dX12_compared_91 (by decide) ?_
                  refine zz_istore_4 dX12_compared_108 rfl rfl ?_
                  refine zz_iload_4 dX12_compared_110 ?_
                  refine zz_if_eq 119 dX12_compared_112 (by decide) (fun h => absurd h (by decide)) (fun _ => ?_)
                  refine zz_iconst (1) dX12_compared_115 (by decide) ?_
                  refine zz_goto 120 dX12_compared_116 (by decide) ?_
                  refine zz_iret rfl dX12_compared_120 (by decide) (by decide) ?_
                  rw [pz_lv, if_pos s_1, if_pos rfl, pz_lp, if_pos hop, if_neg (by rw [s_56]; decide)] at h0
                  exact h0 rfl _
            · skip
              refine zz_iload_1 dX12_compared_66 ?_
              refine zz_iload_3 dX12_compared_67 ?_
              refine zz_icmp_ge 75 dX12_compared_68 (by decide) (fun c_68 => ?_) (fun c_68 => ?_)
              · skip
                refine zz_iconst (0) dX12_compared_75 (by decide) ?_
                refine zz_goto 108 dX12_compared_76 (by decide) ?_
                refine zz_istore_4 dX12_compared_108 rfl rfl ?_
                refine zz_iload_4 dX12_compared_110 ?_
                refine zz_if_eq 119 dX12_compared_112 (by decide) (fun _ => ?_) (fun h => absurd h (by decide))
                refine zz_iconst (0) dX12_compared_119 (by decide) ?_
                refine zz_iret rfl dX12_compared_120 (by decide) (by decide) ?_
                rw [pz_lv, if_pos s_1, if_pos rfl, pz_lp, if_pos hop, if_neg (by rw [s_56]; decide)] at h0
                exact h0 rfl _
              · skip
                refine zz_iconst (1) dX12_compared_71 (by decide) ?_
                refine zz_goto 108 dX12_compared_72 (by decide) ?_
                refine zz_istore_4 dX12_compared_108 rfl rfl ?_
                refine zz_iload_4 dX12_compared_110 ?_
                refine zz_if_eq 119 dX12_compared_112 (by decide) (fun h => absurd h (by decide)) (fun _ => ?_)
                refine zz_iconst (1) dX12_compared_115 (by decide) ?_
                refine zz_goto 120 dX12_compared_116 (by decide) ?_
                refine zz_iret rfl dX12_compared_120 (by decide) (by decide) ?_
                rw [pz_lv, if_pos s_1, if_pos rfl, pz_lp, if_pos hop, if_neg (by rw [s_56]; decide)] at h0
                exact h0 rfl _
        · skip
          refine zz_iload_1 dX12_compared_43 ?_
          refine zz_iret rfl dX12_compared_44 (by decide) (by decide) ?_
          rw [pz_lv, if_pos s_1, pz_lp_no (by simp (decide := true) only [pz_is, c_28, c_34, c_40, or_self, or_false, false_or, or_true, true_or, and_true, true_and, and_false, false_and, and_self, not_true_eq_false, not_false_eq_true, ↓reduceIte])] at h1
          exact h1 rfl
  · skip
    refine zz_istore_1 dX12_compared_4 rfl rfl ?_
    refine zz_aload_0 dX12_compared_5 ?_
    refine zz_getI fl_X12_84 rfl rfl (Nat.lt_of_lt_of_le (by decide) hn) dX12_compared_6 ?_
    rw [pm_g]
    refine zz_if_eq 23 dX12_compared_9 (by decide) (fun _ => ?_) (fun h => absurd h (by decide))
    refine zz_iconst (-1) dX12_compared_23 (by decide) ?_
    refine zz_istore_2 dX12_compared_24 rfl rfl ?_
    refine zz_iload_2 dX12_compared_25 ?_
    refine zz_bipush (60) dX12_compared_26 (by decide) ?_
    refine zz_icmp_eq 45 dX12_compared_28 (by decide) (fun h => absurd h (by decide)) (fun _ => ?_)
    refine zz_iload_2 dX12_compared_31 ?_
    refine zz_bipush (61) dX12_compared_32 (by decide) ?_
    refine zz_icmp_eq 45 dX12_compared_34 (by decide) (fun h => absurd h (by decide)) (fun _ => ?_)
    refine zz_iload_2 dX12_compared_37 ?_
    refine zz_bipush (62) dX12_compared_38 (by decide) ?_
    refine zz_icmp_eq 45 dX12_compared_40 (by decide) (fun h => absurd h (by decide)) (fun _ => ?_)
    refine zz_iload_1 dX12_compared_43 ?_
    refine zz_iret rfl dX12_compared_44 (by decide) (by decide) ?_
    rw [pz_lv, if_neg (by rw [s_1]; decide)] at h0
    exact h0 rfl _

set_option maxRecDepth 100000 in
set_option maxHeartbeats 4000000 in
theorem z_X12_factor0 {C : zz_C} {n : Nat} {g : zz_G} {r : zz_R} (hn : 60 ≤ n) (hr : xr r) {len : Nat} (hu : g 50 6 = 0) (hl : g 50 8 = nI len) (hl5 : len ≤ 50) : pz_S C mi_X12_factor 3 g r n 5 len (pz_f (pz_b (g 51) 0 len) 0 (g 50 10) (g 50 11) (g 50 12) 0) := by
  intro d0 k Q hd hk h1 h0
  obtain ⟨d, rfl⟩ : ∃ e, d0 = e + 3 := ⟨d0 - 3, by omega⟩
  refine zz_T.of [some (.ref 50), none, none] (by decide +kernel) rfl (Nat.le_of_ble_eq_true rfl) ?_
  refine zz_aload_0 dX12_factor_0 ?_
  refine zz_aload_0 dX12_factor_1 ?_
  refine zz_getI fl_X12_88 rfl rfl (Nat.lt_of_lt_of_le (by decide) hn) dX12_factor_2 ?_
  refine zz_callV1i cv_X12_91 rfl (Nat.lt_of_lt_of_le (by decide) hn) (Nat.le_of_ble_eq_true rfl) (by decide) (by decide) dX12_factor_5 (t_X12_byteAt (u := 0) hn hr hu (by decide) hl hl5 k (pm_k g k 5 1) (by omega) ⟨_, rfl, ?_⟩)
  refine zz_istore_1 dX12_factor_8 rfl rfl ?_
  refine zz_iload_1 dX12_factor_9 ?_
  refine zz_callS1i cs_X12_94 (Nat.le_of_ble_eq_true rfl) (by decide) (by decide) dX12_factor_10 (t_X12_isDigit (fun a_10 b_10 => ⟨_, rfl, ?_⟩) (fun o_10 => ⟨_, rfl, ?_⟩))
  · skip
    refine zz_if_eq 21 dX12_factor_13 (by decide) (fun h => absurd h (by decide)) (fun _ => ?_)
    refine zz_aload_0 dX12_factor_16 ?_
    refine zz_callV0i cv_X12_110 rfl (Nat.lt_of_lt_of_le (by decide) hn) (Nat.le_of_ble_eq_true rfl) (by decide) (by decide) dX12_factor_17 (t_X12_number (u := 0) hn hr hu (by decide) hl hl5 hk ⟨_, rfl, ?_⟩)
    refine zz_iret rfl dX12_factor_20 (by decide) (by decide) ?_
    have n33 : ¬ (pz_b (g 51) 0 len k) = 33 := fun e => a_10 (by rw [e]; decide)
    have n40 : ¬ (pz_b (g 51) 0 len k) = 40 := fun e => a_10 (by rw [e]; decide)
    rw [pz_f, if_neg (fun z => z.elim n33 n40), pz_base, if_neg (fun z => z.elim a_10 b_10)] at h1
    exact h1 rfl
  · skip
    refine zz_if_eq 21 dX12_factor_13 (by decide) (fun _ => ?_) (fun h => absurd h (by decide))
    refine zz_iload_1 dX12_factor_21 ?_
    refine zz_bipush (33) dX12_factor_22 (by decide) ?_
    refine zz_icmp_eq 39 dX12_factor_24 (by decide) (fun c_24 => ?_) (fun c_24 => ?_)
    · skip
      refine zz_aload_0 dX12_factor_39 ?_
      refine zz_getI fl_X12_116 rfl rfl (Nat.lt_of_lt_of_le (by decide) hn) dX12_factor_40 ?_
      refine zz_iconst (5) dX12_factor_43 (by decide) ?_
      refine zz_icmp_ne 52 dX12_factor_44 (by decide) (fun c_44 => ?_) (fun c_44 => ?_)
      · skip
        exact absurd rfl c_44
      · skip
        refine zz_aload_0 dX12_factor_47 ?_
        refine zz_callV0i cv_X12_97 rfl (Nat.lt_of_lt_of_le (by decide) hn) (Nat.le_of_ble_eq_true rfl) (by decide) (by decide) dX12_factor_48 (t_X12_fails hn ⟨_, rfl, ?_⟩)
        refine zz_iret rfl dX12_factor_51 (by decide) (by decide) ?_
        rw [pz_f, if_pos (by first | exact Or.inl c_24 | exact Or.inr c_30)] at h0
        exact h0 rfl _
    · skip
      refine zz_iload_1 dX12_factor_27 ?_
      refine zz_bipush (40) dX12_factor_28 (by decide) ?_
      refine zz_icmp_eq 39 dX12_factor_30 (by decide) (fun c_30 => ?_) (fun c_30 => ?_)
      · skip
        refine zz_aload_0 dX12_factor_39 ?_
        refine zz_getI fl_X12_116 rfl rfl (Nat.lt_of_lt_of_le (by decide) hn) dX12_factor_40 ?_
        refine zz_iconst (5) dX12_factor_43 (by decide) ?_
        refine zz_icmp_ne 52 dX12_factor_44 (by decide) (fun c_44 => ?_) (fun c_44 => ?_)
        · skip
          exact absurd rfl c_44
        · skip
          refine zz_aload_0 dX12_factor_47 ?_
          refine zz_callV0i cv_X12_97 rfl (Nat.lt_of_lt_of_le (by decide) hn) (Nat.le_of_ble_eq_true rfl) (by decide) (by decide) dX12_factor_48 (t_X12_fails hn ⟨_, rfl, ?_⟩)
          refine zz_iret rfl dX12_factor_51 (by decide) (by decide) ?_
          rw [pz_f, if_pos (by first | exact Or.inl c_24 | exact Or.inr c_30)] at h0
          exact h0 rfl _
      · skip
        refine zz_aload_0 dX12_factor_33 ?_
        refine zz_iload_1 dX12_factor_34 ?_
        refine zz_callV1i cv_X12_113 rfl (Nat.lt_of_lt_of_le (by decide) hn) (Nat.le_of_ble_eq_true rfl) (by decide) (by decide) dX12_factor_35 (t_X12_named0 hn hr hu (fun na_35 => ⟨_, rfl, ?_⟩) (fun na_35 nb_35 => ⟨_, rfl, ?_⟩) (fun na_35 nb_35 nc_35 => ⟨_, rfl, ?_⟩) (fun na_35 nb_35 nc_35 => ⟨_, rfl, ?_⟩))
        · skip
          refine zz_iret rfl dX12_factor_38 (by decide) (by decide) ?_
          rw [pz_f, if_neg (fun z => z.elim c_24 c_30), pz_base, if_pos o_10, show pz_nm 0 0 = 109 from rfl, if_pos na_35] at h1
          exact h1 rfl
        · skip
          refine zz_iret rfl dX12_factor_38 (by decide) (by decide) ?_
          rw [pz_f, if_neg (fun z => z.elim c_24 c_30), pz_base, if_pos o_10, show pz_nm 0 0 = 109 from rfl, if_neg na_35, show pz_nm 0 1 = 107 from rfl, if_pos nb_35] at h1
          exact h1 rfl
        · skip
          refine zz_iret rfl dX12_factor_38 (by decide) (by decide) ?_
          rw [pz_f, if_neg (fun z => z.elim c_24 c_30), pz_base, if_pos o_10, show pz_nm 0 0 = 109 from rfl, if_neg na_35, show pz_nm 0 1 = 107 from rfl, if_neg nb_35, show pz_nm 0 2 = 115 from rfl, if_pos nc_35] at h1
          exact h1 rfl
        · skip
          refine zz_iret rfl dX12_factor_38 (by decide) (by decide) ?_
          rw [pz_f, if_neg (fun z => z.elim c_24 c_30), pz_base, if_pos o_10, show pz_nm 0 0 = 109 from rfl, if_neg na_35, show pz_nm 0 1 = 107 from rfl, if_neg nb_35, show pz_nm 0 2 = 115 from rfl, if_neg nc_35] at h0
          exact h0 rfl _

set_option maxRecDepth 100000 in
set_option maxHeartbeats 4000000 in
theorem z_X12_factor1 {C : zz_C} {n : Nat} {g : zz_G} {r : zz_R} (hn : 60 ≤ n) (hr : xr r) {len : Nat} (hu : g 50 6 = 1) (hl : g 50 8 = nI len) (hl5 : len ≤ 50) : pz_S C mi_X12_factor 3 g r n 5 len (pz_f (pz_b (g 51) 1 len) 1 (g 50 10) (g 50 11) (g 50 12) 0) := by
  intro d0 k Q hd hk h1 h0
  obtain ⟨d, rfl⟩ : ∃ e, d0 = e + 3 := ⟨d0 - 3, by omega⟩
  refine zz_T.of [some (.ref 50), none, none] (by decide +kernel) rfl (Nat.le_of_ble_eq_true rfl) ?_
  refine zz_aload_0 dX12_factor_0 ?_
  refine zz_aload_0 dX12_factor_1 ?_
  refine zz_getI fl_X12_88 rfl rfl (Nat.lt_of_lt_of_le (by decide) hn) dX12_factor_2 ?_
  refine zz_callV1i cv_X12_91 rfl (Nat.lt_of_lt_of_le (by decide) hn) (Nat.le_of_ble_eq_true rfl) (by decide) (by decide) dX12_factor_5 (t_X12_byteAt (u := 1) hn hr hu (by decide) hl hl5 k (pm_k g k 5 1) (by omega) ⟨_, rfl, ?_⟩)
  refine zz_istore_1 dX12_factor_8 rfl rfl ?_
  refine zz_iload_1 dX12_factor_9 ?_
  refine zz_callS1i cs_X12_94 (Nat.le_of_ble_eq_true rfl) (by decide) (by decide) dX12_factor_10 (t_X12_isDigit (fun a_10 b_10 => ⟨_, rfl, ?_⟩) (fun o_10 => ⟨_, rfl, ?_⟩))
  · skip
    refine zz_if_eq 21 dX12_factor_13 (by decide) (fun h => absurd h (by decide)) (fun _ => ?_)
    refine zz_aload_0 dX12_factor_16 ?_
    refine zz_callV0i cv_X12_110 rfl (Nat.lt_of_lt_of_le (by decide) hn) (Nat.le_of_ble_eq_true rfl) (by decide) (by decide) dX12_factor_17 (t_X12_number (u := 1) hn hr hu (by decide) hl hl5 hk ⟨_, rfl, ?_⟩)
    refine zz_iret rfl dX12_factor_20 (by decide) (by decide) ?_
    have n33 : ¬ (pz_b (g 51) 1 len k) = 33 := fun e => a_10 (by rw [e]; decide)
    have n40 : ¬ (pz_b (g 51) 1 len k) = 40 := fun e => a_10 (by rw [e]; decide)
    rw [pz_f, if_neg (fun z => z.elim n33 n40), pz_base, if_neg (fun z => z.elim a_10 b_10)] at h1
    exact h1 rfl
  · skip
    refine zz_if_eq 21 dX12_factor_13 (by decide) (fun _ => ?_) (fun h => absurd h (by decide))
    refine zz_iload_1 dX12_factor_21 ?_
    refine zz_bipush (33) dX12_factor_22 (by decide) ?_
    refine zz_icmp_eq 39 dX12_factor_24 (by decide) (fun c_24 => ?_) (fun c_24 => ?_)
    · skip
      refine zz_aload_0 dX12_factor_39 ?_
      refine zz_getI fl_X12_116 rfl rfl (Nat.lt_of_lt_of_le (by decide) hn) dX12_factor_40 ?_
      refine zz_iconst (5) dX12_factor_43 (by decide) ?_
      refine zz_icmp_ne 52 dX12_factor_44 (by decide) (fun c_44 => ?_) (fun c_44 => ?_)
      · skip
        exact absurd rfl c_44
      · skip
        refine zz_aload_0 dX12_factor_47 ?_
        refine zz_callV0i cv_X12_97 rfl (Nat.lt_of_lt_of_le (by decide) hn) (Nat.le_of_ble_eq_true rfl) (by decide) (by decide) dX12_factor_48 (t_X12_fails hn ⟨_, rfl, ?_⟩)
        refine zz_iret rfl dX12_factor_51 (by decide) (by decide) ?_
        rw [pz_f, if_pos (by first | exact Or.inl c_24 | exact Or.inr c_30)] at h0
        exact h0 rfl _
    · skip
      refine zz_iload_1 dX12_factor_27 ?_
      refine zz_bipush (40) dX12_factor_28 (by decide) ?_
      refine zz_icmp_eq 39 dX12_factor_30 (by decide) (fun c_30 => ?_) (fun c_30 => ?_)
      · skip
        refine zz_aload_0 dX12_factor_39 ?_
        refine zz_getI fl_X12_116 rfl rfl (Nat.lt_of_lt_of_le (by decide) hn) dX12_factor_40 ?_
        refine zz_iconst (5) dX12_factor_43 (by decide) ?_
        refine zz_icmp_ne 52 dX12_factor_44 (by decide) (fun c_44 => ?_) (fun c_44 => ?_)
        · skip
          exact absurd rfl c_44
        · skip
          refine zz_aload_0 dX12_factor_47 ?_
          refine zz_callV0i cv_X12_97 rfl (Nat.lt_of_lt_of_le (by decide) hn) (Nat.le_of_ble_eq_true rfl) (by decide) (by decide) dX12_factor_48 (t_X12_fails hn ⟨_, rfl, ?_⟩)
          refine zz_iret rfl dX12_factor_51 (by decide) (by decide) ?_
          rw [pz_f, if_pos (by first | exact Or.inl c_24 | exact Or.inr c_30)] at h0
          exact h0 rfl _
      · skip
        refine zz_aload_0 dX12_factor_33 ?_
        refine zz_iload_1 dX12_factor_34 ?_
        refine zz_callV1i cv_X12_113 rfl (Nat.lt_of_lt_of_le (by decide) hn) (Nat.le_of_ble_eq_true rfl) (by decide) (by decide) dX12_factor_35 (t_X12_named1 hn hr hu (fun na_35 => ⟨_, rfl, ?_⟩) (fun na_35 nb_35 => ⟨_, rfl, ?_⟩) (fun na_35 nb_35 nc_35 => ⟨_, rfl, ?_⟩) (fun na_35 nb_35 nc_35 => ⟨_, rfl, ?_⟩))
        · skip
          refine zz_iret rfl dX12_factor_38 (by decide) (by decide) ?_
          rw [pz_f, if_neg (fun z => z.elim c_24 c_30), pz_base, if_pos o_10, show pz_nm 1 0 = 102 from rfl, if_pos na_35] at h1
          exact h1 rfl
        · skip
          refine zz_iret rfl dX12_factor_38 (by decide) (by decide) ?_
          rw [pz_f, if_neg (fun z => z.elim c_24 c_30), pz_base, if_pos o_10, show pz_nm 1 0 = 102 from rfl, if_neg na_35, show pz_nm 1 1 = 103 from rfl, if_pos nb_35] at h1
          exact h1 rfl
        · skip
          refine zz_iret rfl dX12_factor_38 (by decide) (by decide) ?_
          rw [pz_f, if_neg (fun z => z.elim c_24 c_30), pz_base, if_pos o_10, show pz_nm 1 0 = 102 from rfl, if_neg na_35, show pz_nm 1 1 = 103 from rfl, if_neg nb_35, show pz_nm 1 2 = 119 from rfl, if_pos nc_35] at h1
          exact h1 rfl
        · skip
          refine zz_iret rfl dX12_factor_38 (by decide) (by decide) ?_
          rw [pz_f, if_neg (fun z => z.elim c_24 c_30), pz_base, if_pos o_10, show pz_nm 1 0 = 102 from rfl, if_neg na_35, show pz_nm 1 1 = 103 from rfl, if_neg nb_35, show pz_nm 1 2 = 119 from rfl, if_neg nc_35] at h0
          exact h0 rfl _

set_option maxRecDepth 100000 in
set_option maxHeartbeats 4000000 in
theorem c_X12_factor0 {C : zz_C} {n : Nat} {g : zz_G} {r : zz_R} (hn : 60 ≤ n) (hr : xr r) {len : Nat} (hu : g 50 6 = 0) (hl : g 50 8 = nI len) (hl5 : len ≤ 50) {i D o : Nat} (ho : o < 5) (hfac : pz_S C mi_X12_factor D g r n (o + 1) len (pz_f (pz_b (g 51) 0 len) 0 (g 50 10) (g 50 11) (g 50 12) i)) (hwh : pz_S C mi_X12_whole (D + 5) g r n (o + 1) len (pz_up (pz_b (g 51) 0 len) (pz_f (pz_b (g 51) 0 len) 0 (g 50 10) (g 50 11) (g 50 12) i) 5)) : pz_S C mi_X12_factor (D + 6) g r n o len (pz_f (pz_b (g 51) 0 len) 0 (g 50 10) (g 50 11) (g 50 12) (i + 1)) := by
  intro d0 k Q hd hk h1 h0
  have hok := pz_f_ok (R := g 51) (u := 0) (len := len) (x := g 50 10) (y := g 50 11) (z := g 50 12) i
  have hok5 := pz_up_ok (R := g 51) (u := 0) hok 5
  obtain ⟨d, rfl⟩ : ∃ e, d0 = e + 6 := ⟨d0 - 6, by omega⟩
  refine zz_T.of [some (.ref 50), none, none] (by decide +kernel) rfl (Nat.le_of_ble_eq_true rfl) ?_
  refine zz_aload_0 dX12_factor_0 ?_
  refine zz_aload_0 dX12_factor_1 ?_
  refine zz_getI fl_X12_88 rfl rfl (Nat.lt_of_lt_of_le (by decide) hn) dX12_factor_2 ?_
  refine zz_callV1i cv_X12_91 rfl (Nat.lt_of_lt_of_le (by decide) hn) (Nat.le_of_ble_eq_true rfl) (by decide) (by decide) dX12_factor_5 (t_X12_byteAt (u := 0) hn hr hu (by decide) hl hl5 k (pm_k g k o 1) (by omega) ⟨_, rfl, ?_⟩)
  refine zz_istore_1 dX12_factor_8 rfl rfl ?_
  refine zz_iload_1 dX12_factor_9 ?_
  refine zz_callS1i cs_X12_94 (Nat.le_of_ble_eq_true rfl) (by decide) (by decide) dX12_factor_10 (t_X12_isDigit (fun a_10 b_10 => ⟨_, rfl, ?_⟩) (fun o_10 => ⟨_, rfl, ?_⟩))
  · skip
    refine zz_if_eq 21 dX12_factor_13 (by decide) (fun h => absurd h (by decide)) (fun _ => ?_)
    refine zz_aload_0 dX12_factor_16 ?_
    refine zz_callV0i cv_X12_110 rfl (Nat.lt_of_lt_of_le (by decide) hn) (Nat.le_of_ble_eq_true rfl) (by decide) (by decide) dX12_factor_17 (t_X12_number (u := 0) hn hr hu (by decide) hl hl5 hk ⟨_, rfl, ?_⟩)
    refine zz_iret rfl dX12_factor_20 (by decide) (by decide) ?_
    have n33 : ¬ (pz_b (g 51) 0 len k) = 33 := fun e => a_10 (by rw [e]; decide)
    have n40 : ¬ (pz_b (g 51) 0 len k) = 40 := fun e => a_10 (by rw [e]; decide)
    rw [pz_f, if_neg n33, if_neg n40, pz_base, if_neg (fun z => z.elim a_10 b_10)] at h1
    exact h1 rfl
  · skip
    refine zz_if_eq 21 dX12_factor_13 (by decide) (fun _ => ?_) (fun h => absurd h (by decide))
    refine zz_iload_1 dX12_factor_21 ?_
    refine zz_bipush (33) dX12_factor_22 (by decide) ?_
    refine zz_icmp_eq 39 dX12_factor_24 (by decide) (fun c_24 => ?_) (fun c_24 => ?_)
    · skip
      refine zz_aload_0 dX12_factor_39 ?_
      refine zz_getI fl_X12_116 rfl rfl (Nat.lt_of_lt_of_le (by decide) hn) dX12_factor_40 ?_
      refine zz_iconst (5) dX12_factor_43 (by decide) ?_
      refine zz_icmp_ne 52 dX12_factor_44 (by decide) (fun c_44 => ?_) (fun c_44 => ?_)
      · skip
        refine zz_aload_0 dX12_factor_52 ?_
        refine zz_dup dX12_factor_53 rfl ?_
        refine zz_getI fl_X12_116 rfl rfl (Nat.lt_of_lt_of_le (by decide) hn) dX12_factor_54 ?_
        refine zz_iconst (1) dX12_factor_57 (by decide) ?_
        refine zz_iadd dX12_factor_58 ?_
        refine zz_putI fl_X12_116 rfl rfl (Nat.lt_of_lt_of_le (by decide) hn) dX12_factor_59 ?_
        rw [pm_o, nI_1, pm_uo]
        refine zz_aload_0 dX12_factor_62 ?_
        refine zz_dup dX12_factor_63 rfl ?_
        refine zz_getI fl_X12_88 rfl rfl (Nat.lt_of_lt_of_le (by decide) hn) dX12_factor_64 ?_
        refine zz_iconst (1) dX12_factor_67 (by decide) ?_
        refine zz_iadd dX12_factor_68 ?_
        refine zz_putI fl_X12_88 rfl rfl (Nat.lt_of_lt_of_le (by decide) hn) dX12_factor_69 ?_
        have hlt : k + 1 ≤ len := pz_b_in (R := g 51) (u := 0) (fun z => by first | exact absurd (c_24.symm.trans z) (by decide) | exact absurd (c_30.symm.trans z) (by decide))
        rw [pm_k, nI_1, pm_uk]
        refine zz_iload_1 dX12_factor_72 ?_
        refine zz_bipush (33) dX12_factor_73 (by decide) ?_
        refine zz_icmp_ne 85 dX12_factor_75 (by decide) (fun c_75 => ?_) (fun c_75 => ?_)
        · skip
          refine zz_aload_0 dX12_factor_85 ?_
          refine zz_callV0i cv_X12_122 rfl (Nat.lt_of_lt_of_le (by decide) hn) (Nat.le_of_ble_eq_true rfl) (by decide) (by decide) dX12_factor_86 (hwh (d + 5) (k + 1) _ (by omega) hlt (fun s_86 => ⟨_, rfl, ?_⟩) (fun s_86 v_86 => ⟨_, rfl, ?_⟩))
          · skip
            refine zz_istore_2 dX12_factor_89 rfl rfl ?_
            refine zz_aload_0 dX12_factor_90 ?_
            refine zz_dup dX12_factor_91 rfl ?_
            refine zz_getI fl_X12_116 rfl rfl (Nat.lt_of_lt_of_le (by decide) hn) dX12_factor_92 ?_
            refine zz_iconst (1) dX12_factor_95 (by decide) ?_
            refine zz_isub dX12_factor_96 ?_
            refine zz_putI fl_X12_116 rfl rfl (Nat.lt_of_lt_of_le (by decide) hn) dX12_factor_97 ?_
            rw [pm_o, nI_pred, pm_uo]
            refine zz_iload_1 dX12_factor_100 ?_
            refine zz_bipush (33) dX12_factor_101 (by decide) ?_
            refine zz_icmp_ne 116 dX12_factor_103 (by decide) (fun c_103 => ?_) (fun c_103 => ?_)
            · skip
              refine zz_aload_0 dX12_factor_116 ?_
              refine zz_getI fl_X12_84 rfl rfl (Nat.lt_of_lt_of_le (by decide) hn) dX12_factor_117 ?_
              rw [pm_g]
              refine zz_if_eq 148 dX12_factor_120 (by decide) (fun h => absurd h (by decide)) (fun _ => ?_)
              refine zz_aload_0 dX12_factor_123 ?_
              refine zz_aload_0 dX12_factor_124 ?_
              refine zz_getI fl_X12_88 rfl rfl (Nat.lt_of_lt_of_le (by decide) hn) dX12_factor_125 ?_
              refine zz_callV1i cv_X12_91 rfl (Nat.lt_of_lt_of_le (by decide) hn) (Nat.le_of_ble_eq_true rfl) (by decide) (by decide) dX12_factor_128 (t_X12_byteAt (u := 0) hn hr hu (by decide) hl hl5 _ (pm_k g _ o 1) (by first | (have := (hok5 (k + 1) hlt).2.1; omega) | (have := (hok (k + 1) hlt).2.1; omega)) ⟨_, rfl, ?_⟩)
              refine zz_bipush (41) dX12_factor_131 (by decide) ?_
              refine zz_icmp_ne 148 dX12_factor_133 (by decide) (fun c_133 => ?_) (fun c_133 => ?_)
              · skip
                refine zz_aload_0 dX12_factor_148 ?_
                refine zz_callV0i cv_X12_97 rfl (Nat.lt_of_lt_of_le (by decide) hn) (Nat.le_of_ble_eq_true rfl) (by decide) (by decide) dX12_factor_149 (t_X12_fails hn ⟨_, rfl, ?_⟩)
                refine zz_iret rfl dX12_factor_152 (by decide) (by decide) ?_
                first
                  | exact absurd c_24 c_75
                  | exact absurd c_75 c_24
                  | exact absurd (c_30.symm.trans c_75) (by decide)
                  | exact absurd c_103 c_75
                  | exact absurd c_75 c_103
                  | (rw [pz_f, if_neg c_75, if_pos c_30, if_neg (fun z => c_133 z.2)] at h0; exact h0 rfl _)
              · skip
                refine zz_aload_0 dX12_factor_136 ?_
                refine zz_dup dX12_factor_137 rfl ?_
                refine zz_getI fl_X12_88 rfl rfl (Nat.lt_of_lt_of_le (by decide) hn) dX12_factor_138 ?_
                refine zz_iconst (1) dX12_factor_141 (by decide) ?_
                refine zz_iadd dX12_factor_142 ?_
                refine zz_putI fl_X12_88 rfl rfl (Nat.lt_of_lt_of_le (by decide) hn) dX12_factor_143 ?_
                refine zz_iload_2 dX12_factor_146 ?_
                refine zz_iret rfl dX12_factor_147 (by decide) (by decide) ?_
                first
                  | exact absurd c_24 c_75
                  | exact absurd c_75 c_24
                  | exact absurd (c_30.symm.trans c_75) (by decide)
                  | exact absurd c_103 c_75
                  | exact absurd c_75 c_103
                  | (rw [pm_k, nI_1, pm_uk]; rw [pz_f, if_neg c_75, if_pos c_30, if_pos ⟨s_86, c_133⟩] at h1; exact h1 rfl)
            · skip
              refine zz_iload_2 dX12_factor_106 ?_
              refine zz_if_ne 114 dX12_factor_107 (by decide) (fun c_107 => ?_) (fun c_107 => ?_)
              · skip
                refine zz_iconst (0) dX12_factor_114 (by decide) ?_
                refine zz_iret rfl dX12_factor_115 (by decide) (by decide) ?_
                first
                  | exact absurd c_24 c_75
                  | exact absurd c_75 c_24
                  | exact absurd (c_30.symm.trans c_75) (by decide)
                  | exact absurd c_103 c_75
                  | exact absurd c_75 c_103
              · skip
                refine zz_iconst (1) dX12_factor_110 (by decide) ?_
                refine zz_goto 115 dX12_factor_111 (by decide) ?_
                refine zz_iret rfl dX12_factor_115 (by decide) (by decide) ?_
                first
                  | exact absurd c_24 c_75
                  | exact absurd c_75 c_24
                  | exact absurd (c_30.symm.trans c_75) (by decide)
                  | exact absurd c_103 c_75
                  | exact absurd c_75 c_103
          · skip
            refine zz_istore_2 dX12_factor_89 rfl rfl ?_
            refine zz_aload_0 dX12_factor_90 ?_
            refine zz_dup dX12_factor_91 rfl ?_
            refine zz_getI fl_X12_116 rfl rfl (Nat.lt_of_lt_of_le (by decide) hn) dX12_factor_92 ?_
            refine zz_iconst (1) dX12_factor_95 (by decide) ?_
            refine zz_isub dX12_factor_96 ?_
            refine zz_putI fl_X12_116 rfl rfl (Nat.lt_of_lt_of_le (by decide) hn) dX12_factor_97 ?_
            rw [pm_o, nI_pred, pm_uo]
            refine zz_iload_1 dX12_factor_100 ?_
            refine zz_bipush (33) dX12_factor_101 (by decide) ?_
            refine zz_icmp_ne 116 dX12_factor_103 (by decide) (fun c_103 => ?_) (fun c_103 => ?_)
            · skip
              refine zz_aload_0 dX12_factor_116 ?_
              refine zz_getI fl_X12_84 rfl rfl (Nat.lt_of_lt_of_le (by decide) hn) dX12_factor_117 ?_
              rw [pm_g]
              refine zz_if_eq 148 dX12_factor_120 (by decide) (fun _ => ?_) (fun h => absurd h (by decide))
              refine zz_aload_0 dX12_factor_148 ?_
              refine zz_callV0i cv_X12_97 rfl (Nat.lt_of_lt_of_le (by decide) hn) (Nat.le_of_ble_eq_true rfl) (by decide) (by decide) dX12_factor_149 (t_X12_fails hn ⟨_, rfl, ?_⟩)
              refine zz_iret rfl dX12_factor_152 (by decide) (by decide) ?_
              first
                | exact absurd c_24 c_75
                | exact absurd c_75 c_24
                | exact absurd (c_30.symm.trans c_75) (by decide)
                | exact absurd c_103 c_75
                | exact absurd c_75 c_103
                | (rw [pz_f, if_neg c_75, if_pos c_30, if_neg (fun z => by rw [s_86] at z; exact absurd z.1 (by decide))] at h0; exact h0 rfl _)
            · skip
              refine zz_iload_2 dX12_factor_106 ?_
              refine zz_if_ne 114 dX12_factor_107 (by decide) (fun c_107 => ?_) (fun c_107 => ?_)
              · skip
                refine zz_iconst (0) dX12_factor_114 (by decide) ?_
                refine zz_iret rfl dX12_factor_115 (by decide) (by decide) ?_
                first
                  | exact absurd c_24 c_75
                  | exact absurd c_75 c_24
                  | exact absurd (c_30.symm.trans c_75) (by decide)
                  | exact absurd c_103 c_75
                  | exact absurd c_75 c_103
              · skip
                refine zz_iconst (1) dX12_factor_110 (by decide) ?_
                refine zz_goto 115 dX12_factor_111 (by decide) ?_
                refine zz_iret rfl dX12_factor_115 (by decide) (by decide) ?_
                first
                  | exact absurd c_24 c_75
                  | exact absurd c_75 c_24
                  | exact absurd (c_30.symm.trans c_75) (by decide)
                  | exact absurd c_103 c_75
                  | exact absurd c_75 c_103
        · skip
          refine zz_aload_0 dX12_factor_78 ?_
          refine zz_callV0i cv_X12_119 rfl (Nat.lt_of_lt_of_le (by decide) hn) (Nat.le_of_ble_eq_true rfl) (by decide) (by decide) dX12_factor_79 (hfac (d + 5) (k + 1) _ (by omega) hlt (fun s_79 => ⟨_, rfl, ?_⟩) (fun s_79 v_79 => ⟨_, rfl, ?_⟩))
          · skip
            refine zz_goto 89 dX12_factor_82 (by decide) ?_
            refine zz_istore_2 dX12_factor_89 rfl rfl ?_
            refine zz_aload_0 dX12_factor_90 ?_
            refine zz_dup dX12_factor_91 rfl ?_
            refine zz_getI fl_X12_116 rfl rfl (Nat.lt_of_lt_of_le (by decide) hn) dX12_factor_92 ?_
            refine zz_iconst (1) dX12_factor_95 (by decide) ?_
            refine zz_isub dX12_factor_96 ?_
            refine zz_putI fl_X12_116 rfl rfl (Nat.lt_of_lt_of_le (by decide) hn) dX12_factor_97 ?_
            rw [pm_o, nI_pred, pm_uo]
            refine zz_iload_1 dX12_factor_100 ?_
            refine zz_bipush (33) dX12_factor_101 (by decide) ?_
            refine zz_icmp_ne 116 dX12_factor_103 (by decide) (fun c_103 => ?_) (fun c_103 => ?_)
            · skip
              refine zz_aload_0 dX12_factor_116 ?_
              refine zz_getI fl_X12_84 rfl rfl (Nat.lt_of_lt_of_le (by decide) hn) dX12_factor_117 ?_
              rw [pm_g]
              refine zz_if_eq 148 dX12_factor_120 (by decide) (fun h => absurd h (by decide)) (fun _ => ?_)
              refine zz_aload_0 dX12_factor_123 ?_
              refine zz_aload_0 dX12_factor_124 ?_
              refine zz_getI fl_X12_88 rfl rfl (Nat.lt_of_lt_of_le (by decide) hn) dX12_factor_125 ?_
              refine zz_callV1i cv_X12_91 rfl (Nat.lt_of_lt_of_le (by decide) hn) (Nat.le_of_ble_eq_true rfl) (by decide) (by decide) dX12_factor_128 (t_X12_byteAt (u := 0) hn hr hu (by decide) hl hl5 _ (pm_k g _ o 1) (by first | (have := (hok5 (k + 1) hlt).2.1; omega) | (have := (hok (k + 1) hlt).2.1; omega)) ⟨_, rfl, ?_⟩)
              refine zz_bipush (41) dX12_factor_131 (by decide) ?_
              refine zz_icmp_ne 148 dX12_factor_133 (by decide) (fun c_133 => ?_) (fun c_133 => ?_)
              · skip
                refine zz_aload_0 dX12_factor_148 ?_
                refine zz_callV0i cv_X12_97 rfl (Nat.lt_of_lt_of_le (by decide) hn) (Nat.le_of_ble_eq_true rfl) (by decide) (by decide) dX12_factor_149 (t_X12_fails hn ⟨_, rfl, ?_⟩)
                refine zz_iret rfl dX12_factor_152 (by decide) (by decide) ?_
                first
                  | exact absurd c_24 c_75
                  | exact absurd c_75 c_24
                  | exact absurd (c_30.symm.trans c_75) (by decide)
                  | exact absurd c_103 c_75
                  | exact absurd c_75 c_103
              · skip
                refine zz_aload_0 dX12_factor_136 ?_
                refine zz_dup dX12_factor_137 rfl ?_
                refine zz_getI fl_X12_88 rfl rfl (Nat.lt_of_lt_of_le (by decide) hn) dX12_factor_138 ?_
                refine zz_iconst (1) dX12_factor_141 (by decide) ?_
                refine zz_iadd dX12_factor_142 ?_
                refine zz_putI fl_X12_88 rfl rfl (Nat.lt_of_lt_of_le (by decide) hn) dX12_factor_143 ?_
                refine zz_iload_2 dX12_factor_146 ?_
                refine zz_iret rfl dX12_factor_147 (by decide) (by decide) ?_
                first
                  | exact absurd c_24 c_75
                  | exact absurd c_75 c_24
                  | exact absurd (c_30.symm.trans c_75) (by decide)
                  | exact absurd c_103 c_75
                  | exact absurd c_75 c_103
            · skip
              refine zz_iload_2 dX12_factor_106 ?_
              refine zz_if_ne 114 dX12_factor_107 (by decide) (fun c_107 => ?_) (fun c_107 => ?_)
              · skip
                refine zz_iconst (0) dX12_factor_114 (by decide) ?_
                refine zz_iret rfl dX12_factor_115 (by decide) (by decide) ?_
                first
                  | exact absurd c_24 c_75
                  | exact absurd c_75 c_24
                  | exact absurd (c_30.symm.trans c_75) (by decide)
                  | exact absurd c_103 c_75
                  | exact absurd c_75 c_103
                  | (rw [pz_f, if_pos c_75, if_pos s_79, if_neg c_107] at h1; exact h1 rfl)
              · skip
                refine zz_iconst (1) dX12_factor_110 (by decide) ?_
                refine zz_goto 115 dX12_factor_111 (by decide) ?_
                refine zz_iret rfl dX12_factor_115 (by decide) (by decide) ?_
                first
                  | exact absurd c_24 c_75
                  | exact absurd c_75 c_24
                  | exact absurd (c_30.symm.trans c_75) (by decide)
                  | exact absurd c_103 c_75
                  | exact absurd c_75 c_103
                  | (rw [pz_f, if_pos c_75, if_pos s_79, if_pos c_107] at h1; exact h1 rfl)
          · skip
            refine zz_goto 89 dX12_factor_82 (by decide) ?_
            refine zz_istore_2 dX12_factor_89 rfl rfl ?_
            refine zz_aload_0 dX12_factor_90 ?_
            refine zz_dup dX12_factor_91 rfl ?_
            refine zz_getI fl_X12_116 rfl rfl (Nat.lt_of_lt_of_le (by decide) hn) dX12_factor_92 ?_
            refine zz_iconst (1) dX12_factor_95 (by decide) ?_
            refine zz_isub dX12_factor_96 ?_
            refine zz_putI fl_X12_116 rfl rfl (Nat.lt_of_lt_of_le (by decide) hn) dX12_factor_97 ?_
            rw [pm_o, nI_pred, pm_uo]
            refine zz_iload_1 dX12_factor_100 ?_
            refine zz_bipush (33) dX12_factor_101 (by decide) ?_
            refine zz_icmp_ne 116 dX12_factor_103 (by decide) (fun c_103 => ?_) (fun c_103 => ?_)
            · skip
              refine zz_aload_0 dX12_factor_116 ?_
              refine zz_getI fl_X12_84 rfl rfl (Nat.lt_of_lt_of_le (by decide) hn) dX12_factor_117 ?_
              rw [pm_g]
              refine zz_if_eq 148 dX12_factor_120 (by decide) (fun _ => ?_) (fun h => absurd h (by decide))
              refine zz_aload_0 dX12_factor_148 ?_
              refine zz_callV0i cv_X12_97 rfl (Nat.lt_of_lt_of_le (by decide) hn) (Nat.le_of_ble_eq_true rfl) (by decide) (by decide) dX12_factor_149 (t_X12_fails hn ⟨_, rfl, ?_⟩)
              refine zz_iret rfl dX12_factor_152 (by decide) (by decide) ?_
              first
                | exact absurd c_24 c_75
                | exact absurd c_75 c_24
                | exact absurd (c_30.symm.trans c_75) (by decide)
                | exact absurd c_103 c_75
                | exact absurd c_75 c_103
            · skip
              refine zz_iload_2 dX12_factor_106 ?_
              refine zz_if_ne 114 dX12_factor_107 (by decide) (fun c_107 => ?_) (fun c_107 => ?_)
              · skip
                refine zz_iconst (0) dX12_factor_114 (by decide) ?_
                refine zz_iret rfl dX12_factor_115 (by decide) (by decide) ?_
                first
                  | exact absurd c_24 c_75
                  | exact absurd c_75 c_24
                  | exact absurd (c_30.symm.trans c_75) (by decide)
                  | exact absurd c_103 c_75
                  | exact absurd c_75 c_103
                  | (rw [pz_f, if_pos c_75, if_neg (by rw [s_79]; decide)] at h0; exact h0 rfl _)
              · skip
                refine zz_iconst (1) dX12_factor_110 (by decide) ?_
                refine zz_goto 115 dX12_factor_111 (by decide) ?_
                refine zz_iret rfl dX12_factor_115 (by decide) (by decide) ?_
                first
                  | exact absurd c_24 c_75
                  | exact absurd c_75 c_24
                  | exact absurd (c_30.symm.trans c_75) (by decide)
                  | exact absurd c_103 c_75
                  | exact absurd c_75 c_103
                  | (rw [pz_f, if_pos c_75, if_neg (by rw [s_79]; decide)] at h0; exact h0 rfl _)
      · skip
        refine zz_aload_0 dX12_factor_47 ?_
        refine zz_callV0i cv_X12_97 rfl (Nat.lt_of_lt_of_le (by decide) hn) (Nat.le_of_ble_eq_true rfl) (by decide) (by decide) dX12_factor_48 (t_X12_fails hn ⟨_, rfl, ?_⟩)
        refine zz_iret rfl dX12_factor_51 (by decide) (by decide) ?_
        exact absurd c_44 (by intro q; have := (nI_eq (a := o) (b := 5) (by omega) (by decide)).mp q; omega)
    · skip
      refine zz_iload_1 dX12_factor_27 ?_
      refine zz_bipush (40) dX12_factor_28 (by decide) ?_
      refine zz_icmp_eq 39 dX12_factor_30 (by decide) (fun c_30 => ?_) (fun c_30 => ?_)
      · skip
        refine zz_aload_0 dX12_factor_39 ?_
        refine zz_getI fl_X12_116 rfl rfl (Nat.lt_of_lt_of_le (by decide) hn) dX12_factor_40 ?_
        refine zz_iconst (5) dX12_factor_43 (by decide) ?_
        refine zz_icmp_ne 52 dX12_factor_44 (by decide) (fun c_44 => ?_) (fun c_44 => ?_)
        · skip
          refine zz_aload_0 dX12_factor_52 ?_
          refine zz_dup dX12_factor_53 rfl ?_
          refine zz_getI fl_X12_116 rfl rfl (Nat.lt_of_lt_of_le (by decide) hn) dX12_factor_54 ?_
          refine zz_iconst (1) dX12_factor_57 (by decide) ?_
          refine zz_iadd dX12_factor_58 ?_
          refine zz_putI fl_X12_116 rfl rfl (Nat.lt_of_lt_of_le (by decide) hn) dX12_factor_59 ?_
          rw [pm_o, nI_1, pm_uo]
          refine zz_aload_0 dX12_factor_62 ?_
          refine zz_dup dX12_factor_63 rfl ?_
          refine zz_getI fl_X12_88 rfl rfl (Nat.lt_of_lt_of_le (by decide) hn) dX12_factor_64 ?_
          refine zz_iconst (1) dX12_factor_67 (by decide) ?_
          refine zz_iadd dX12_factor_68 ?_
          refine zz_putI fl_X12_88 rfl rfl (Nat.lt_of_lt_of_le (by decide) hn) dX12_factor_69 ?_
          have hlt : k + 1 ≤ len := pz_b_in (R := g 51) (u := 0) (fun z => by first | exact absurd (c_24.symm.trans z) (by decide) | exact absurd (c_30.symm.trans z) (by decide))
          rw [pm_k, nI_1, pm_uk]
          refine zz_iload_1 dX12_factor_72 ?_
          refine zz_bipush (33) dX12_factor_73 (by decide) ?_
          refine zz_icmp_ne 85 dX12_factor_75 (by decide) (fun c_75 => ?_) (fun c_75 => ?_)
          · skip
            refine zz_aload_0 dX12_factor_85 ?_
            refine zz_callV0i cv_X12_122 rfl (Nat.lt_of_lt_of_le (by decide) hn) (Nat.le_of_ble_eq_true rfl) (by decide) (by decide) dX12_factor_86 (hwh (d + 5) (k + 1) _ (by omega) hlt (fun s_86 => ⟨_, rfl, ?_⟩) (fun s_86 v_86 => ⟨_, rfl, ?_⟩))
            · skip
              refine zz_istore_2 dX12_factor_89 rfl rfl ?_
              refine zz_aload_0 dX12_factor_90 ?_
              refine zz_dup dX12_factor_91 rfl ?_
              refine zz_getI fl_X12_116 rfl rfl (Nat.lt_of_lt_of_le (by decide) hn) dX12_factor_92 ?_
              refine zz_iconst (1) dX12_factor_95 (by decide) ?_
              refine zz_isub dX12_factor_96 ?_
              refine zz_putI fl_X12_116 rfl rfl (Nat.lt_of_lt_of_le (by decide) hn) dX12_factor_97 ?_
              rw [pm_o, nI_pred, pm_uo]
              refine zz_iload_1 dX12_factor_100 ?_
              refine zz_bipush (33) dX12_factor_101 (by decide) ?_
              refine zz_icmp_ne 116 dX12_factor_103 (by decide) (fun c_103 => ?_) (fun c_103 => ?_)
              · skip
                refine zz_aload_0 dX12_factor_116 ?_
                refine zz_getI fl_X12_84 rfl rfl (Nat.lt_of_lt_of_le (by decide) hn) dX12_factor_117 ?_
                rw [pm_g]
                refine zz_if_eq 148 dX12_factor_120 (by decide) (fun h => absurd h (by decide)) (fun _ => ?_)
                refine zz_aload_0 dX12_factor_123 ?_
                refine zz_aload_0 dX12_factor_124 ?_
                refine zz_getI fl_X12_88 rfl rfl (Nat.lt_of_lt_of_le (by decide) hn) dX12_factor_125 ?_
                refine zz_callV1i cv_X12_91 rfl (Nat.lt_of_lt_of_le (by decide) hn) (Nat.le_of_ble_eq_true rfl) (by decide) (by decide) dX12_factor_128 (t_X12_byteAt (u := 0) hn hr hu (by decide) hl hl5 _ (pm_k g _ o 1) (by first | (have := (hok5 (k + 1) hlt).2.1; omega) | (have := (hok (k + 1) hlt).2.1; omega)) ⟨_, rfl, ?_⟩)
                refine zz_bipush (41) dX12_factor_131 (by decide) ?_
                refine zz_icmp_ne 148 dX12_factor_133 (by decide) (fun c_133 => ?_) (fun c_133 => ?_)
                · skip
                  refine zz_aload_0 dX12_factor_148 ?_
                  refine zz_callV0i cv_X12_97 rfl (Nat.lt_of_lt_of_le (by decide) hn) (Nat.le_of_ble_eq_true rfl) (by decide) (by decide) dX12_factor_149 (t_X12_fails hn ⟨_, rfl, ?_⟩)
                  refine zz_iret rfl dX12_factor_152 (by decide) (by decide) ?_
                  first
                    | exact absurd c_24 c_75
                    | exact absurd c_75 c_24
                    | exact absurd (c_30.symm.trans c_75) (by decide)
                    | exact absurd c_103 c_75
                    | exact absurd c_75 c_103
                    | (rw [pz_f, if_neg c_75, if_pos c_30, if_neg (fun z => c_133 z.2)] at h0; exact h0 rfl _)
                · skip
                  refine zz_aload_0 dX12_factor_136 ?_
                  refine zz_dup dX12_factor_137 rfl ?_
                  refine zz_getI fl_X12_88 rfl rfl (Nat.lt_of_lt_of_le (by decide) hn) dX12_factor_138 ?_
                  refine zz_iconst (1) dX12_factor_141 (by decide) ?_
                  refine zz_iadd dX12_factor_142 ?_
                  refine zz_putI fl_X12_88 rfl rfl (Nat.lt_of_lt_of_le (by decide) hn) dX12_factor_143 ?_
                  refine zz_iload_2 dX12_factor_146 ?_
                  refine zz_iret rfl dX12_factor_147 (by decide) (by decide) ?_
                  first
                    | exact absurd c_24 c_75
                    | exact absurd c_75 c_24
                    | exact absurd (c_30.symm.trans c_75) (by decide)
                    | exact absurd c_103 c_75
                    | exact absurd c_75 c_103
                    | (rw [pm_k, nI_1, pm_uk]; rw [pz_f, if_neg c_75, if_pos c_30, if_pos ⟨s_86, c_133⟩] at h1; exact h1 rfl)
              · skip
                refine zz_iload_2 dX12_factor_106 ?_
                refine zz_if_ne 114 dX12_factor_107 (by decide) (fun c_107 => ?_) (fun c_107 => ?_)
                · skip
                  refine zz_iconst (0) dX12_factor_114 (by decide) ?_
                  refine zz_iret rfl dX12_factor_115 (by decide) (by decide) ?_
                  first
                    | exact absurd c_24 c_75
                    | exact absurd c_75 c_24
                    | exact absurd (c_30.symm.trans c_75) (by decide)
                    | exact absurd c_103 c_75
                    | exact absurd c_75 c_103
                · skip
                  refine zz_iconst (1) dX12_factor_110 (by decide) ?_
                  refine zz_goto 115 dX12_factor_111 (by decide) ?_
                  refine zz_iret rfl dX12_factor_115 (by decide) (by decide) ?_
                  first
                    | exact absurd c_24 c_75
                    | exact absurd c_75 c_24
                    | exact absurd (c_30.symm.trans c_75) (by decide)
                    | exact absurd c_103 c_75
                    | exact absurd c_75 c_103
            · skip
              refine zz_istore_2 dX12_factor_89 rfl rfl ?_
              refine zz_aload_0 dX12_factor_90 ?_
              refine zz_dup dX12_factor_91 rfl ?_
              refine zz_getI fl_X12_116 rfl rfl (Nat.lt_of_lt_of_le (by decide) hn) dX12_factor_92 ?_
              refine zz_iconst (1) dX12_factor_95 (by decide) ?_
              refine zz_isub dX12_factor_96 ?_
              refine zz_putI fl_X12_116 rfl rfl (Nat.lt_of_lt_of_le (by decide) hn) dX12_factor_97 ?_
              rw [pm_o, nI_pred, pm_uo]
              refine zz_iload_1 dX12_factor_100 ?_
              refine zz_bipush (33) dX12_factor_101 (by decide) ?_
              refine zz_icmp_ne 116 dX12_factor_103 (by decide) (fun c_103 => ?_) (fun c_103 => ?_)
              · skip
                refine zz_aload_0 dX12_factor_116 ?_
                refine zz_getI fl_X12_84 rfl rfl (Nat.lt_of_lt_of_le (by decide) hn) dX12_factor_117 ?_
                rw [pm_g]
                refine zz_if_eq 148 dX12_factor_120 (by decide) (fun _ => ?_) (fun h => absurd h (by decide))
                refine zz_aload_0 dX12_factor_148 ?_
                refine zz_callV0i cv_X12_97 rfl (Nat.lt_of_lt_of_le (by decide) hn) (Nat.le_of_ble_eq_true rfl) (by decide) (by decide) dX12_factor_149 (t_X12_fails hn ⟨_, rfl, ?_⟩)
                refine zz_iret rfl dX12_factor_152 (by decide) (by decide) ?_
                first
                  | exact absurd c_24 c_75
                  | exact absurd c_75 c_24
                  | exact absurd (c_30.symm.trans c_75) (by decide)
                  | exact absurd c_103 c_75
                  | exact absurd c_75 c_103
                  | (rw [pz_f, if_neg c_75, if_pos c_30, if_neg (fun z => by rw [s_86] at z; exact absurd z.1 (by decide))] at h0; exact h0 rfl _)
              · skip
                refine zz_iload_2 dX12_factor_106 ?_
                refine zz_if_ne 114 dX12_factor_107 (by decide) (fun c_107 => ?_) (fun c_107 => ?_)
                · skip
                  refine zz_iconst (0) dX12_factor_114 (by decide) ?_
                  refine zz_iret rfl dX12_factor_115 (by decide) (by decide) ?_
                  first
                    | exact absurd c_24 c_75
                    | exact absurd c_75 c_24
                    | exact absurd (c_30.symm.trans c_75) (by decide)
                    | exact absurd c_103 c_75
                    | exact absurd c_75 c_103
                · skip
                  refine zz_iconst (1) dX12_factor_110 (by decide) ?_
                  refine zz_goto 115 dX12_factor_111 (by decide) ?_
                  refine zz_iret rfl dX12_factor_115 (by decide) (by decide) ?_
                  first
                    | exact absurd c_24 c_75
                    | exact absurd c_75 c_24
                    | exact absurd (c_30.symm.trans c_75) (by decide)
                    | exact absurd c_103 c_75
                    | exact absurd c_75 c_103
          · skip
            refine zz_aload_0 dX12_factor_78 ?_
            refine zz_callV0i cv_X12_119 rfl (Nat.lt_of_lt_of_le (by decide) hn) (Nat.le_of_ble_eq_true rfl) (by decide) (by decide) dX12_factor_79 (hfac (d + 5) (k + 1) _ (by omega) hlt (fun s_79 => ⟨_, rfl, ?_⟩) (fun s_79 v_79 => ⟨_, rfl, ?_⟩))
            · skip
              refine zz_goto 89 dX12_factor_82 (by decide) ?_
              refine zz_istore_2 dX12_factor_89 rfl rfl ?_
              refine zz_aload_0 dX12_factor_90 ?_
              refine zz_dup dX12_factor_91 rfl ?_
              refine zz_getI fl_X12_116 rfl rfl (Nat.lt_of_lt_of_le (by decide) hn) dX12_factor_92 ?_
              refine zz_iconst (1) dX12_factor_95 (by decide) ?_
              refine zz_isub dX12_factor_96 ?_
              refine zz_putI fl_X12_116 rfl rfl (Nat.lt_of_lt_of_le (by decide) hn) dX12_factor_97 ?_
              rw [pm_o, nI_pred, pm_uo]
              refine zz_iload_1 dX12_factor_100 ?_
              refine zz_bipush (33) dX12_factor_101 (by decide) ?_
              refine zz_icmp_ne 116 dX12_factor_103 (by decide) (fun c_103 => ?_) (fun c_103 => ?_)
              · skip
                refine zz_aload_0 dX12_factor_116 ?_
                refine zz_getI fl_X12_84 rfl rfl (Nat.lt_of_lt_of_le (by decide) hn) dX12_factor_117 ?_
                rw [pm_g]
                refine zz_if_eq 148 dX12_factor_120 (by decide) (fun h => absurd h (by decide)) (fun _ => ?_)
                refine zz_aload_0 dX12_factor_123 ?_
                refine zz_aload_0 dX12_factor_124 ?_
                refine zz_getI fl_X12_88 rfl rfl (Nat.lt_of_lt_of_le (by decide) hn) dX12_factor_125 ?_
                refine zz_callV1i cv_X12_91 rfl (Nat.lt_of_lt_of_le (by decide) hn) (Nat.le_of_ble_eq_true rfl) (by decide) (by decide) dX12_factor_128 (t_X12_byteAt (u := 0) hn hr hu (by decide) hl hl5 _ (pm_k g _ o 1) (by first | (have := (hok5 (k + 1) hlt).2.1; omega) | (have := (hok (k + 1) hlt).2.1; omega)) ⟨_, rfl, ?_⟩)
                refine zz_bipush (41) dX12_factor_131 (by decide) ?_
                refine zz_icmp_ne 148 dX12_factor_133 (by decide) (fun c_133 => ?_) (fun c_133 => ?_)
                · skip
                  refine zz_aload_0 dX12_factor_148 ?_
                  refine zz_callV0i cv_X12_97 rfl (Nat.lt_of_lt_of_le (by decide) hn) (Nat.le_of_ble_eq_true rfl) (by decide) (by decide) dX12_factor_149 (t_X12_fails hn ⟨_, rfl, ?_⟩)
                  refine zz_iret rfl dX12_factor_152 (by decide) (by decide) ?_
                  first
                    | exact absurd c_24 c_75
                    | exact absurd c_75 c_24
                    | exact absurd (c_30.symm.trans c_75) (by decide)
                    | exact absurd c_103 c_75
                    | exact absurd c_75 c_103
                · skip
                  refine zz_aload_0 dX12_factor_136 ?_
                  refine zz_dup dX12_factor_137 rfl ?_
                  refine zz_getI fl_X12_88 rfl rfl (Nat.lt_of_lt_of_le (by decide) hn) dX12_factor_138 ?_
                  refine zz_iconst (1) dX12_factor_141 (by decide) ?_
                  refine zz_iadd dX12_factor_142 ?_
                  refine zz_putI fl_X12_88 rfl rfl (Nat.lt_of_lt_of_le (by decide) hn) dX12_factor_143 ?_
                  refine zz_iload_2 dX12_factor_146 ?_
                  refine zz_iret rfl dX12_factor_147 (by decide) (by decide) ?_
                  first
                    | exact absurd c_24 c_75
                    | exact absurd c_75 c_24
                    | exact absurd (c_30.symm.trans c_75) (by decide)
                    | exact absurd c_103 c_75
                    | exact absurd c_75 c_103
              · skip
                refine zz_iload_2 dX12_factor_106 ?_
                refine zz_if_ne 114 dX12_factor_107 (by decide) (fun c_107 => ?_) (fun c_107 => ?_)
                · skip
                  refine zz_iconst (0) dX12_factor_114 (by decide) ?_
                  refine zz_iret rfl dX12_factor_115 (by decide) (by decide) ?_
                  first
                    | exact absurd c_24 c_75
                    | exact absurd c_75 c_24
                    | exact absurd (c_30.symm.trans c_75) (by decide)
                    | exact absurd c_103 c_75
                    | exact absurd c_75 c_103
                    | (rw [pz_f, if_pos c_75, if_pos s_79, if_neg c_107] at h1; exact h1 rfl)
                · skip
                  refine zz_iconst (1) dX12_factor_110 (by decide) ?_
                  refine zz_goto 115 dX12_factor_111 (by decide) ?_
                  refine zz_iret rfl dX12_factor_115 (by decide) (by decide) ?_
                  first
                    | exact absurd c_24 c_75
                    | exact absurd c_75 c_24
                    | exact absurd (c_30.symm.trans c_75) (by decide)
                    | exact absurd c_103 c_75
                    | exact absurd c_75 c_103
                    | (rw [pz_f, if_pos c_75, if_pos s_79, if_pos c_107] at h1; exact h1 rfl)
            · skip
              refine zz_goto 89 dX12_factor_82 (by decide) ?_
              refine zz_istore_2 dX12_factor_89 rfl rfl ?_
              refine zz_aload_0 dX12_factor_90 ?_
              refine zz_dup dX12_factor_91 rfl ?_
              refine zz_getI fl_X12_116 rfl rfl (Nat.lt_of_lt_of_le (by decide) hn) dX12_factor_92 ?_
              refine zz_iconst (1) dX12_factor_95 (by decide) ?_
              refine zz_isub dX12_factor_96 ?_
              refine zz_putI fl_X12_116 rfl rfl (Nat.lt_of_lt_of_le (by decide) hn) dX12_factor_97 ?_
              rw [pm_o, nI_pred, pm_uo]
              refine zz_iload_1 dX12_factor_100 ?_
              refine zz_bipush (33) dX12_factor_101 (by decide) ?_
              refine zz_icmp_ne 116 dX12_factor_103 (by decide) (fun c_103 => ?_) (fun c_103 => ?_)
              · skip
                refine zz_aload_0 dX12_factor_116 ?_
                refine zz_getI fl_X12_84 rfl rfl (Nat.lt_of_lt_of_le (by decide) hn) dX12_factor_117 ?_
                rw [pm_g]
                refine zz_if_eq 148 dX12_factor_120 (by decide) (fun _ => ?_) (fun h => absurd h (by decide))
                refine zz_aload_0 dX12_factor_148 ?_
                refine zz_callV0i cv_X12_97 rfl (Nat.lt_of_lt_of_le (by decide) hn) (Nat.le_of_ble_eq_true rfl) (by decide) (by decide) dX12_factor_149 (t_X12_fails hn ⟨_, rfl, ?_⟩)
                refine zz_iret rfl dX12_factor_152 (by decide) (by decide) ?_
                first
                  | exact absurd c_24 c_75
                  | exact absurd c_75 c_24
                  | exact absurd (c_30.symm.trans c_75) (by decide)
                  | exact absurd c_103 c_75
                  | exact absurd c_75 c_103
              · skip
                refine zz_iload_2 dX12_factor_106 ?_
                refine zz_if_ne 114 dX12_factor_107 (by decide) (fun c_107 => ?_) (fun c_107 => ?_)
                · skip
                  refine zz_iconst (0) dX12_factor_114 (by decide) ?_
                  refine zz_iret rfl dX12_factor_115 (by decide) (by decide) ?_
                  first
                    | exact absurd c_24 c_75
                    | exact absurd c_75 c_24
                    | exact absurd (c_30.symm.trans c_75) (by decide)
                    | exact absurd c_103 c_75
                    | exact absurd c_75 c_103
                    | (rw [pz_f, if_pos c_75, if_neg (by rw [s_79]; decide)] at h0; exact h0 rfl _)
                · skip
                  refine zz_iconst (1) dX12_factor_110 (by decide) ?_
                  refine zz_goto 115 dX12_factor_111 (by decide) ?_
                  refine zz_iret rfl dX12_factor_115 (by decide) (by decide) ?_
                  first
                    | exact absurd c_24 c_75
                    | exact absurd c_75 c_24
                    | exact absurd (c_30.symm.trans c_75) (by decide)
                    | exact absurd c_103 c_75
                    | exact absurd c_75 c_103
                    | (rw [pz_f, if_pos c_75, if_neg (by rw [s_79]; decide)] at h0; exact h0 rfl _)
        · skip
          refine zz_aload_0 dX12_factor_47 ?_
          refine zz_callV0i cv_X12_97 rfl (Nat.lt_of_lt_of_le (by decide) hn) (Nat.le_of_ble_eq_true rfl) (by decide) (by decide) dX12_factor_48 (t_X12_fails hn ⟨_, rfl, ?_⟩)
          refine zz_iret rfl dX12_factor_51 (by decide) (by decide) ?_
          exact absurd c_44 (by intro q; have := (nI_eq (a := o) (b := 5) (by omega) (by decide)).mp q; omega)
      · skip
        refine zz_aload_0 dX12_factor_33 ?_
        refine zz_iload_1 dX12_factor_34 ?_
        refine zz_callV1i cv_X12_113 rfl (Nat.lt_of_lt_of_le (by decide) hn) (Nat.le_of_ble_eq_true rfl) (by decide) (by decide) dX12_factor_35 (t_X12_named0 hn hr hu (fun na_35 => ⟨_, rfl, ?_⟩) (fun na_35 nb_35 => ⟨_, rfl, ?_⟩) (fun na_35 nb_35 nc_35 => ⟨_, rfl, ?_⟩) (fun na_35 nb_35 nc_35 => ⟨_, rfl, ?_⟩))
        · skip
          refine zz_iret rfl dX12_factor_38 (by decide) (by decide) ?_
          rw [pz_f, if_neg c_24, if_neg c_30, pz_base, if_pos o_10, show pz_nm 0 0 = 109 from rfl, if_pos na_35] at h1
          exact h1 rfl
        · skip
          refine zz_iret rfl dX12_factor_38 (by decide) (by decide) ?_
          rw [pz_f, if_neg c_24, if_neg c_30, pz_base, if_pos o_10, show pz_nm 0 0 = 109 from rfl, if_neg na_35, show pz_nm 0 1 = 107 from rfl, if_pos nb_35] at h1
          exact h1 rfl
        · skip
          refine zz_iret rfl dX12_factor_38 (by decide) (by decide) ?_
          rw [pz_f, if_neg c_24, if_neg c_30, pz_base, if_pos o_10, show pz_nm 0 0 = 109 from rfl, if_neg na_35, show pz_nm 0 1 = 107 from rfl, if_neg nb_35, show pz_nm 0 2 = 115 from rfl, if_pos nc_35] at h1
          exact h1 rfl
        · skip
          refine zz_iret rfl dX12_factor_38 (by decide) (by decide) ?_
          rw [pz_f, if_neg c_24, if_neg c_30, pz_base, if_pos o_10, show pz_nm 0 0 = 109 from rfl, if_neg na_35, show pz_nm 0 1 = 107 from rfl, if_neg nb_35, show pz_nm 0 2 = 115 from rfl, if_neg nc_35] at h0
          exact h0 rfl _

set_option maxRecDepth 100000 in
set_option maxHeartbeats 4000000 in
theorem c_X12_factor1 {C : zz_C} {n : Nat} {g : zz_G} {r : zz_R} (hn : 60 ≤ n) (hr : xr r) {len : Nat} (hu : g 50 6 = 1) (hl : g 50 8 = nI len) (hl5 : len ≤ 50) {i D o : Nat} (ho : o < 5) (hfac : pz_S C mi_X12_factor D g r n (o + 1) len (pz_f (pz_b (g 51) 1 len) 1 (g 50 10) (g 50 11) (g 50 12) i)) (hwh : pz_S C mi_X12_whole (D + 5) g r n (o + 1) len (pz_up (pz_b (g 51) 1 len) (pz_f (pz_b (g 51) 1 len) 1 (g 50 10) (g 50 11) (g 50 12) i) 5)) : pz_S C mi_X12_factor (D + 6) g r n o len (pz_f (pz_b (g 51) 1 len) 1 (g 50 10) (g 50 11) (g 50 12) (i + 1)) := by
  intro d0 k Q hd hk h1 h0
  have hok := pz_f_ok (R := g 51) (u := 1) (len := len) (x := g 50 10) (y := g 50 11) (z := g 50 12) i
  have hok5 := pz_up_ok (R := g 51) (u := 1) hok 5
  obtain ⟨d, rfl⟩ : ∃ e, d0 = e + 6 := ⟨d0 - 6, by omega⟩
  refine zz_T.of [some (.ref 50), none, none] (by decide +kernel) rfl (Nat.le_of_ble_eq_true rfl) ?_
  refine zz_aload_0 dX12_factor_0 ?_
  refine zz_aload_0 dX12_factor_1 ?_
  refine zz_getI fl_X12_88 rfl rfl (Nat.lt_of_lt_of_le (by decide) hn) dX12_factor_2 ?_
  refine zz_callV1i cv_X12_91 rfl (Nat.lt_of_lt_of_le (by decide) hn) (Nat.le_of_ble_eq_true rfl) (by decide) (by decide) dX12_factor_5 (t_X12_byteAt (u := 1) hn hr hu (by decide) hl hl5 k (pm_k g k o 1) (by omega) ⟨_, rfl, ?_⟩)
  refine zz_istore_1 dX12_factor_8 rfl rfl ?_
  refine zz_iload_1 dX12_factor_9 ?_
  refine zz_callS1i cs_X12_94 (Nat.le_of_ble_eq_true rfl) (by decide) (by decide) dX12_factor_10 (t_X12_isDigit (fun a_10 b_10 => ⟨_, rfl, ?_⟩) (fun o_10 => ⟨_, rfl, ?_⟩))
  · skip
    refine zz_if_eq 21 dX12_factor_13 (by decide) (fun h => absurd h (by decide)) (fun _ => ?_)
    refine zz_aload_0 dX12_factor_16 ?_
    refine zz_callV0i cv_X12_110 rfl (Nat.lt_of_lt_of_le (by decide) hn) (Nat.le_of_ble_eq_true rfl) (by decide) (by decide) dX12_factor_17 (t_X12_number (u := 1) hn hr hu (by decide) hl hl5 hk ⟨_, rfl, ?_⟩)
    refine zz_iret rfl dX12_factor_20 (by decide) (by decide) ?_
    have n33 : ¬ (pz_b (g 51) 1 len k) = 33 := fun e => a_10 (by rw [e]; decide)
    have n40 : ¬ (pz_b (g 51) 1 len k) = 40 := fun e => a_10 (by rw [e]; decide)
    rw [pz_f, if_neg n33, if_neg n40, pz_base, if_neg (fun z => z.elim a_10 b_10)] at h1
    exact h1 rfl
  · skip
    refine zz_if_eq 21 dX12_factor_13 (by decide) (fun _ => ?_) (fun h => absurd h (by decide))
    refine zz_iload_1 dX12_factor_21 ?_
    refine zz_bipush (33) dX12_factor_22 (by decide) ?_
    refine zz_icmp_eq 39 dX12_factor_24 (by decide) (fun c_24 => ?_) (fun c_24 => ?_)
    · skip
      refine zz_aload_0 dX12_factor_39 ?_
      refine zz_getI fl_X12_116 rfl rfl (Nat.lt_of_lt_of_le (by decide) hn) dX12_factor_40 ?_
      refine zz_iconst (5) dX12_factor_43 (by decide) ?_
      refine zz_icmp_ne 52 dX12_factor_44 (by decide) (fun c_44 => ?_) (fun c_44 => ?_)
      · skip
        refine zz_aload_0 dX12_factor_52 ?_
        refine zz_dup dX12_factor_53 rfl ?_
        refine zz_getI fl_X12_116 rfl rfl (Nat.lt_of_lt_of_le (by decide) hn) dX12_factor_54 ?_
        refine zz_iconst (1) dX12_factor_57 (by decide) ?_
        refine zz_iadd dX12_factor_58 ?_
        refine zz_putI fl_X12_116 rfl rfl (Nat.lt_of_lt_of_le (by decide) hn) dX12_factor_59 ?_
        rw [pm_o, nI_1, pm_uo]
        refine zz_aload_0 dX12_factor_62 ?_
        refine zz_dup dX12_factor_63 rfl ?_
        refine zz_getI fl_X12_88 rfl rfl (Nat.lt_of_lt_of_le (by decide) hn) dX12_factor_64 ?_
        refine zz_iconst (1) dX12_factor_67 (by decide) ?_
        refine zz_iadd dX12_factor_68 ?_
        refine zz_putI fl_X12_88 rfl rfl (Nat.lt_of_lt_of_le (by decide) hn) dX12_factor_69 ?_
        have hlt : k + 1 ≤ len := pz_b_in (R := g 51) (u := 1) (fun z => by first | exact absurd (c_24.symm.trans z) (by decide) | exact absurd (c_30.symm.trans z) (by decide))
        rw [pm_k, nI_1, pm_uk]
        refine zz_iload_1 dX12_factor_72 ?_
        refine zz_bipush (33) dX12_factor_73 (by decide) ?_
        refine zz_icmp_ne 85 dX12_factor_75 (by decide) (fun c_75 => ?_) (fun c_75 => ?_)
        · skip
          refine zz_aload_0 dX12_factor_85 ?_
          refine zz_callV0i cv_X12_122 rfl (Nat.lt_of_lt_of_le (by decide) hn) (Nat.le_of_ble_eq_true rfl) (by decide) (by decide) dX12_factor_86 (hwh (d + 5) (k + 1) _ (by omega) hlt (fun s_86 => ⟨_, rfl, ?_⟩) (fun s_86 v_86 => ⟨_, rfl, ?_⟩))
          · skip
            refine zz_istore_2 dX12_factor_89 rfl rfl ?_
            refine zz_aload_0 dX12_factor_90 ?_
            refine zz_dup dX12_factor_91 rfl ?_
            refine zz_getI fl_X12_116 rfl rfl (Nat.lt_of_lt_of_le (by decide) hn) dX12_factor_92 ?_
            refine zz_iconst (1) dX12_factor_95 (by decide) ?_
            refine zz_isub dX12_factor_96 ?_
            refine zz_putI fl_X12_116 rfl rfl (Nat.lt_of_lt_of_le (by decide) hn) dX12_factor_97 ?_
            rw [pm_o, nI_pred, pm_uo]
            refine zz_iload_1 dX12_factor_100 ?_
            refine zz_bipush (33) dX12_factor_101 (by decide) ?_
            refine zz_icmp_ne 116 dX12_factor_103 (by decide) (fun c_103 => ?_) (fun c_103 => ?_)
            · skip
              refine zz_aload_0 dX12_factor_116 ?_
              refine zz_getI fl_X12_84 rfl rfl (Nat.lt_of_lt_of_le (by decide) hn) dX12_factor_117 ?_
              rw [pm_g]
              refine zz_if_eq 148 dX12_factor_120 (by decide) (fun h => absurd h (by decide)) (fun _ => ?_)
              refine zz_aload_0 dX12_factor_123 ?_
              refine zz_aload_0 dX12_factor_124 ?_
              refine zz_getI fl_X12_88 rfl rfl (Nat.lt_of_lt_of_le (by decide) hn) dX12_factor_125 ?_
              refine zz_callV1i cv_X12_91 rfl (Nat.lt_of_lt_of_le (by decide) hn) (Nat.le_of_ble_eq_true rfl) (by decide) (by decide) dX12_factor_128 (t_X12_byteAt (u := 1) hn hr hu (by decide) hl hl5 _ (pm_k g _ o 1) (by first | (have := (hok5 (k + 1) hlt).2.1; omega) | (have := (hok (k + 1) hlt).2.1; omega)) ⟨_, rfl, ?_⟩)
              refine zz_bipush (41) dX12_factor_131 (by decide) ?_
              refine zz_icmp_ne 148 dX12_factor_133 (by decide) (fun c_133 => ?_) (fun c_133 => ?_)
              · skip
                refine zz_aload_0 dX12_factor_148 ?_
                refine zz_callV0i cv_X12_97 rfl (Nat.lt_of_lt_of_le (by decide) hn) (Nat.le_of_ble_eq_true rfl) (by decide) (by decide) dX12_factor_149 (t_X12_fails hn ⟨_, rfl, ?_⟩)
                refine zz_iret rfl dX12_factor_152 (by decide) (by decide) ?_
                first
                  | exact absurd c_24 c_75
                  | exact absurd c_75 c_24
                  | exact absurd (c_30.symm.trans c_75) (by decide)
                  | exact absurd c_103 c_75
                  | exact absurd c_75 c_103
                  | (rw [pz_f, if_neg c_75, if_pos c_30, if_neg (fun z => c_133 z.2)] at h0; exact h0 rfl _)
              · skip
                refine zz_aload_0 dX12_factor_136 ?_
                refine zz_dup dX12_factor_137 rfl ?_
                refine zz_getI fl_X12_88 rfl rfl (Nat.lt_of_lt_of_le (by decide) hn) dX12_factor_138 ?_
                refine zz_iconst (1) dX12_factor_141 (by decide) ?_
                refine zz_iadd dX12_factor_142 ?_
                refine zz_putI fl_X12_88 rfl rfl (Nat.lt_of_lt_of_le (by decide) hn) dX12_factor_143 ?_
                refine zz_iload_2 dX12_factor_146 ?_
                refine zz_iret rfl dX12_factor_147 (by decide) (by decide) ?_
                first
                  | exact absurd c_24 c_75
                  | exact absurd c_75 c_24
                  | exact absurd (c_30.symm.trans c_75) (by decide)
                  | exact absurd c_103 c_75
                  | exact absurd c_75 c_103
                  | (rw [pm_k, nI_1, pm_uk]; rw [pz_f, if_neg c_75, if_pos c_30, if_pos ⟨s_86, c_133⟩] at h1; exact h1 rfl)
            · skip
              refine zz_iload_2 dX12_factor_106 ?_
              refine zz_if_ne 114 dX12_factor_107 (by decide) (fun c_107 => ?_) (fun c_107 => ?_)
              · skip
                refine zz_iconst (0) dX12_factor_114 (by decide) ?_
                refine zz_iret rfl dX12_factor_115 (by decide) (by decide) ?_
                first
                  | exact absurd c_24 c_75
                  | exact absurd c_75 c_24
                  | exact absurd (c_30.symm.trans c_75) (by decide)
                  | exact absurd c_103 c_75
                  | exact absurd c_75 c_103
              · skip
                refine zz_iconst (1) dX12_factor_110 (by decide) ?_
                refine zz_goto 115 dX12_factor_111 (by decide) ?_
                refine zz_iret rfl dX12_factor_115 (by decide) (by decide) ?_
                first
                  | exact absurd c_24 c_75
                  | exact absurd c_75 c_24
                  | exact absurd (c_30.symm.trans c_75) (by decide)
                  | exact absurd c_103 c_75
                  | exact absurd c_75 c_103
          · skip
            refine zz_istore_2 dX12_factor_89 rfl rfl ?_
            refine zz_aload_0 dX12_factor_90 ?_
            refine zz_dup dX12_factor_91 rfl ?_
            refine zz_getI fl_X12_116 rfl rfl (Nat.lt_of_lt_of_le (by decide) hn) dX12_factor_92 ?_
            refine zz_iconst (1) dX12_factor_95 (by decide) ?_
            refine zz_isub dX12_factor_96 ?_
            refine zz_putI fl_X12_116 rfl rfl (Nat.lt_of_lt_of_le (by decide) hn) dX12_factor_97 ?_
            rw [pm_o, nI_pred, pm_uo]
            refine zz_iload_1 dX12_factor_100 ?_
            refine zz_bipush (33) dX12_factor_101 (by decide) ?_
            refine zz_icmp_ne 116 dX12_factor_103 (by decide) (fun c_103 => ?_) (fun c_103 => ?_)
            · skip
              refine zz_aload_0 dX12_factor_116 ?_
              refine zz_getI fl_X12_84 rfl rfl (Nat.lt_of_lt_of_le (by decide) hn) dX12_factor_117 ?_
              rw [pm_g]
              refine zz_if_eq 148 dX12_factor_120 (by decide) (fun _ => ?_) (fun h => absurd h (by decide))
              refine zz_aload_0 dX12_factor_148 ?_
              refine zz_callV0i cv_X12_97 rfl (Nat.lt_of_lt_of_le (by decide) hn) (Nat.le_of_ble_eq_true rfl) (by decide) (by decide) dX12_factor_149 (t_X12_fails hn ⟨_, rfl, ?_⟩)
              refine zz_iret rfl dX12_factor_152 (by decide) (by decide) ?_
              first
                | exact absurd c_24 c_75
                | exact absurd c_75 c_24
                | exact absurd (c_30.symm.trans c_75) (by decide)
                | exact absurd c_103 c_75
                | exact absurd c_75 c_103
                | (rw [pz_f, if_neg c_75, if_pos c_30, if_neg (fun z => by rw [s_86] at z; exact absurd z.1 (by decide))] at h0; exact h0 rfl _)
            · skip
              refine zz_iload_2 dX12_factor_106 ?_
              refine zz_if_ne 114 dX12_factor_107 (by decide) (fun c_107 => ?_) (fun c_107 => ?_)
              · skip
                refine zz_iconst (0) dX12_factor_114 (by decide) ?_
                refine zz_iret rfl dX12_factor_115 (by decide) (by decide) ?_
                first
                  | exact absurd c_24 c_75
                  | exact absurd c_75 c_24
                  | exact absurd (c_30.symm.trans c_75) (by decide)
                  | exact absurd c_103 c_75
                  | exact absurd c_75 c_103
              · skip
                refine zz_iconst (1) dX12_factor_110 (by decide) ?_
                refine zz_goto 115 dX12_factor_111 (by decide) ?_
                refine zz_iret rfl dX12_factor_115 (by decide) (by decide) ?_
                first
                  | exact absurd c_24 c_75
                  | exact absurd c_75 c_24
                  | exact absurd (c_30.symm.trans c_75) (by decide)
                  | exact absurd c_103 c_75
                  | exact absurd c_75 c_103
        · skip
          refine zz_aload_0 dX12_factor_78 ?_
          refine zz_callV0i cv_X12_119 rfl (Nat.lt_of_lt_of_le (by decide) hn) (Nat.le_of_ble_eq_true rfl) (by decide) (by decide) dX12_factor_79 (hfac (d + 5) (k + 1) _ (by omega) hlt (fun s_79 => ⟨_, rfl, ?_⟩) (fun s_79 v_79 => ⟨_, rfl, ?_⟩))
          · skip
            refine zz_goto 89 dX12_factor_82 (by decide) ?_
            refine zz_istore_2 dX12_factor_89 rfl rfl ?_
            refine zz_aload_0 dX12_factor_90 ?_
            refine zz_dup dX12_factor_91 rfl ?_
            refine zz_getI fl_X12_116 rfl rfl (Nat.lt_of_lt_of_le (by decide) hn) dX12_factor_92 ?_
            refine zz_iconst (1) dX12_factor_95 (by decide) ?_
            refine zz_isub dX12_factor_96 ?_
            refine zz_putI fl_X12_116 rfl rfl (Nat.lt_of_lt_of_le (by decide) hn) dX12_factor_97 ?_
            rw [pm_o, nI_pred, pm_uo]
            refine zz_iload_1 dX12_factor_100 ?_
            refine zz_bipush (33) dX12_factor_101 (by decide) ?_
            refine zz_icmp_ne 116 dX12_factor_103 (by decide) (fun c_103 => ?_) (fun c_103 => ?_)
            · skip
              refine zz_aload_0 dX12_factor_116 ?_
              refine zz_getI fl_X12_84 rfl rfl (Nat.lt_of_lt_of_le (by decide) hn) dX12_factor_117 ?_
              rw [pm_g]
              refine zz_if_eq 148 dX12_factor_120 (by decide) (fun h => absurd h (by decide)) (fun _ => ?_)
              refine zz_aload_0 dX12_factor_123 ?_
              refine zz_aload_0 dX12_factor_124 ?_
              refine zz_getI fl_X12_88 rfl rfl (Nat.lt_of_lt_of_le (by decide) hn) dX12_factor_125 ?_
              refine zz_callV1i cv_X12_91 rfl (Nat.lt_of_lt_of_le (by decide) hn) (Nat.le_of_ble_eq_true rfl) (by decide) (by decide) dX12_factor_128 (t_X12_byteAt (u := 1) hn hr hu (by decide) hl hl5 _ (pm_k g _ o 1) (by first | (have := (hok5 (k + 1) hlt).2.1; omega) | (have := (hok (k + 1) hlt).2.1; omega)) ⟨_, rfl, ?_⟩)
              refine zz_bipush (41) dX12_factor_131 (by decide) ?_
              refine zz_icmp_ne 148 dX12_factor_133 (by decide) (fun c_133 => ?_) (fun c_133 => ?_)
              · skip
                refine zz_aload_0 dX12_factor_148 ?_
                refine zz_callV0i cv_X12_97 rfl (Nat.lt_of_lt_of_le (by decide) hn) (Nat.le_of_ble_eq_true rfl) (by decide) (by decide) dX12_factor_149 (t_X12_fails hn ⟨_, rfl, ?_⟩)
                refine zz_iret rfl dX12_factor_152 (by decide) (by decide) ?_
                first
                  | exact absurd c_24 c_75
                  | exact absurd c_75 c_24
                  | exact absurd (c_30.symm.trans c_75) (by decide)
                  | exact absurd c_103 c_75
                  | exact absurd c_75 c_103
              · skip
                refine zz_aload_0 dX12_factor_136 ?_
                refine zz_dup dX12_factor_137 rfl ?_
                refine zz_getI fl_X12_88 rfl rfl (Nat.lt_of_lt_of_le (by decide) hn) dX12_factor_138 ?_
                refine zz_iconst (1) dX12_factor_141 (by decide) ?_
                refine zz_iadd dX12_factor_142 ?_
                refine zz_putI fl_X12_88 rfl rfl (Nat.lt_of_lt_of_le (by decide) hn) dX12_factor_143 ?_
                refine zz_iload_2 dX12_factor_146 ?_
                refine zz_iret rfl dX12_factor_147 (by decide) (by decide) ?_
                first
                  | exact absurd c_24 c_75
                  | exact absurd c_75 c_24
                  | exact absurd (c_30.symm.trans c_75) (by decide)
                  | exact absurd c_103 c_75
                  | exact absurd c_75 c_103
            · skip
              refine zz_iload_2 dX12_factor_106 ?_
              refine zz_if_ne 114 dX12_factor_107 (by decide) (fun c_107 => ?_) (fun c_107 => ?_)
              · skip
                refine zz_iconst (0) dX12_factor_114 (by decide) ?_
                refine zz_iret rfl dX12_factor_115 (by decide) (by decide) ?_
                first
                  | exact absurd c_24 c_75
                  | exact absurd c_75 c_24
                  | exact absurd (c_30.symm.trans c_75) (by decide)
                  | exact absurd c_103 c_75
                  | exact absurd c_75 c_103
                  | (rw [pz_f, if_pos c_75, if_pos s_79, if_neg c_107] at h1; exact h1 rfl)
              · skip
                refine zz_iconst (1) dX12_factor_110 (by decide) ?_
                refine zz_goto 115 dX12_factor_111 (by decide) ?_
                refine zz_iret rfl dX12_factor_115 (by decide) (by decide) ?_
                first
                  | exact absurd c_24 c_75
                  | exact absurd c_75 c_24
                  | exact absurd (c_30.symm.trans c_75) (by decide)
                  | exact absurd c_103 c_75
                  | exact absurd c_75 c_103
                  | (rw [pz_f, if_pos c_75, if_pos s_79, if_pos c_107] at h1; exact h1 rfl)
          · skip
            refine zz_goto 89 dX12_factor_82 (by decide) ?_
            refine zz_istore_2 dX12_factor_89 rfl rfl ?_
            refine zz_aload_0 dX12_factor_90 ?_
            refine zz_dup dX12_factor_91 rfl ?_
            refine zz_getI fl_X12_116 rfl rfl (Nat.lt_of_lt_of_le (by decide) hn) dX12_factor_92 ?_
            refine zz_iconst (1) dX12_factor_95 (by decide) ?_
            refine zz_isub dX12_factor_96 ?_
            refine zz_putI fl_X12_116 rfl rfl (Nat.lt_of_lt_of_le (by decide) hn) dX12_factor_97 ?_
            rw [pm_o, nI_pred, pm_uo]
            refine zz_iload_1 dX12_factor_100 ?_
            refine zz_bipush (33) dX12_factor_101 (by decide) ?_
            refine zz_icmp_ne 116 dX12_factor_103 (by decide) (fun c_103 => ?_) (fun c_103 => ?_)
            · skip
              refine zz_aload_0 dX12_factor_116 ?_
              refine zz_getI fl_X12_84 rfl rfl (Nat.lt_of_lt_of_le (by decide) hn) dX12_factor_117 ?_
              rw [pm_g]
              refine zz_if_eq 148 dX12_factor_120 (by decide) (fun _ => ?_) (fun h => absurd h (by decide))
              refine zz_aload_0 dX12_factor_148 ?_
              refine zz_callV0i cv_X12_97 rfl (Nat.lt_of_lt_of_le (by decide) hn) (Nat.le_of_ble_eq_true rfl) (by decide) (by decide) dX12_factor_149 (t_X12_fails hn ⟨_, rfl, ?_⟩)
              refine zz_iret rfl dX12_factor_152 (by decide) (by decide) ?_
              first
                | exact absurd c_24 c_75
                | exact absurd c_75 c_24
                | exact absurd (c_30.symm.trans c_75) (by decide)
                | exact absurd c_103 c_75
                | exact absurd c_75 c_103
            · skip
              refine zz_iload_2 dX12_factor_106 ?_
              refine zz_if_ne 114 dX12_factor_107 (by decide) (fun c_107 => ?_) (fun c_107 => ?_)
              · skip
                refine zz_iconst (0) dX12_factor_114 (by decide) ?_
                refine zz_iret rfl dX12_factor_115 (by decide) (by decide) ?_
                first
                  | exact absurd c_24 c_75
                  | exact absurd c_75 c_24
                  | exact absurd (c_30.symm.trans c_75) (by decide)
                  | exact absurd c_103 c_75
                  | exact absurd c_75 c_103
                  | (rw [pz_f, if_pos c_75, if_neg (by rw [s_79]; decide)] at h0; exact h0 rfl _)
              · skip
                refine zz_iconst (1) dX12_factor_110 (by decide) ?_
                refine zz_goto 115 dX12_factor_111 (by decide) ?_
                refine zz_iret rfl dX12_factor_115 (by decide) (by decide) ?_
                first
                  | exact absurd c_24 c_75
                  | exact absurd c_75 c_24
                  | exact absurd (c_30.symm.trans c_75) (by decide)
                  | exact absurd c_103 c_75
                  | exact absurd c_75 c_103
                  | (rw [pz_f, if_pos c_75, if_neg (by rw [s_79]; decide)] at h0; exact h0 rfl _)
      · skip
        refine zz_aload_0 dX12_factor_47 ?_
        refine zz_callV0i cv_X12_97 rfl (Nat.lt_of_lt_of_le (by decide) hn) (Nat.le_of_ble_eq_true rfl) (by decide) (by decide) dX12_factor_48 (t_X12_fails hn ⟨_, rfl, ?_⟩)
        refine zz_iret rfl dX12_factor_51 (by decide) (by decide) ?_
        exact absurd c_44 (by intro q; have := (nI_eq (a := o) (b := 5) (by omega) (by decide)).mp q; omega)
    · skip
      refine zz_iload_1 dX12_factor_27 ?_
      refine zz_bipush (40) dX12_factor_28 (by decide) ?_
      refine zz_icmp_eq 39 dX12_factor_30 (by decide) (fun c_30 => ?_) (fun c_30 => ?_)
      · skip
        refine zz_aload_0 dX12_factor_39 ?_
        refine zz_getI fl_X12_116 rfl rfl (Nat.lt_of_lt_of_le (by decide) hn) dX12_factor_40 ?_
        refine zz_iconst (5) dX12_factor_43 (by decide) ?_
        refine zz_icmp_ne 52 dX12_factor_44 (by decide) (fun c_44 => ?_) (fun c_44 => ?_)
        · skip
          refine zz_aload_0 dX12_factor_52 ?_
          refine zz_dup dX12_factor_53 rfl ?_
          refine zz_getI fl_X12_116 rfl rfl (Nat.lt_of_lt_of_le (by decide) hn) dX12_factor_54 ?_
          refine zz_iconst (1) dX12_factor_57 (by decide) ?_
          refine zz_iadd dX12_factor_58 ?_
          refine zz_putI fl_X12_116 rfl rfl (Nat.lt_of_lt_of_le (by decide) hn) dX12_factor_59 ?_
          rw [pm_o, nI_1, pm_uo]
          refine zz_aload_0 dX12_factor_62 ?_
          refine zz_dup dX12_factor_63 rfl ?_
          refine zz_getI fl_X12_88 rfl rfl (Nat.lt_of_lt_of_le (by decide) hn) dX12_factor_64 ?_
          refine zz_iconst (1) dX12_factor_67 (by decide) ?_
          refine zz_iadd dX12_factor_68 ?_
          refine zz_putI fl_X12_88 rfl rfl (Nat.lt_of_lt_of_le (by decide) hn) dX12_factor_69 ?_
          have hlt : k + 1 ≤ len := pz_b_in (R := g 51) (u := 1) (fun z => by first | exact absurd (c_24.symm.trans z) (by decide) | exact absurd (c_30.symm.trans z) (by decide))
          rw [pm_k, nI_1, pm_uk]
          refine zz_iload_1 dX12_factor_72 ?_
          refine zz_bipush (33) dX12_factor_73 (by decide) ?_
          refine zz_icmp_ne 85 dX12_factor_75 (by decide) (fun c_75 => ?_) (fun c_75 => ?_)
          · skip
            refine zz_aload_0 dX12_factor_85 ?_
            refine zz_callV0i cv_X12_122 rfl (Nat.lt_of_lt_of_le (by decide) hn) (Nat.le_of_ble_eq_true rfl) (by decide) (by decide) dX12_factor_86 (hwh (d + 5) (k + 1) _ (by omega) hlt (fun s_86 => ⟨_, rfl, ?_⟩) (fun s_86 v_86 => ⟨_, rfl, ?_⟩))
            · skip
              refine zz_istore_2 dX12_factor_89 rfl rfl ?_
              refine zz_aload_0 dX12_factor_90 ?_
              refine zz_dup dX12_factor_91 rfl ?_
              refine zz_getI fl_X12_116 rfl rfl (Nat.lt_of_lt_of_le (by decide) hn) dX12_factor_92 ?_
              refine zz_iconst (1) dX12_factor_95 (by decide) ?_
              refine zz_isub dX12_factor_96 ?_
              refine zz_putI fl_X12_116 rfl rfl (Nat.lt_of_lt_of_le (by decide) hn) dX12_factor_97 ?_
              rw [pm_o, nI_pred, pm_uo]
              refine zz_iload_1 dX12_factor_100 ?_
              refine zz_bipush (33) dX12_factor_101 (by decide) ?_
              refine zz_icmp_ne 116 dX12_factor_103 (by decide) (fun c_103 => ?_) (fun c_103 => ?_)
              · skip
                refine zz_aload_0 dX12_factor_116 ?_
                refine zz_getI fl_X12_84 rfl rfl (Nat.lt_of_lt_of_le (by decide) hn) dX12_factor_117 ?_
                rw [pm_g]
                refine zz_if_eq 148 dX12_factor_120 (by decide) (fun h => absurd h (by decide)) (fun _ => ?_)
                refine zz_aload_0 dX12_factor_123 ?_
                refine zz_aload_0 dX12_factor_124 ?_
                refine zz_getI fl_X12_88 rfl rfl (Nat.lt_of_lt_of_le (by decide) hn) dX12_factor_125 ?_
                refine zz_callV1i cv_X12_91 rfl (Nat.lt_of_lt_of_le (by decide) hn) (Nat.le_of_ble_eq_true rfl) (by decide) (by decide) dX12_factor_128 (t_X12_byteAt (u := 1) hn hr hu (by decide) hl hl5 _ (pm_k g _ o 1) (by first | (have := (hok5 (k + 1) hlt).2.1; omega) | (have := (hok (k + 1) hlt).2.1; omega)) ⟨_, rfl, ?_⟩)
                refine zz_bipush (41) dX12_factor_131 (by decide) ?_
                refine zz_icmp_ne 148 dX12_factor_133 (by decide) (fun c_133 => ?_) (fun c_133 => ?_)
                · skip
                  refine zz_aload_0 dX12_factor_148 ?_
                  refine zz_callV0i cv_X12_97 rfl (Nat.lt_of_lt_of_le (by decide) hn) (Nat.le_of_ble_eq_true rfl) (by decide) (by decide) dX12_factor_149 (t_X12_fails hn ⟨_, rfl, ?_⟩)
                  refine zz_iret rfl dX12_factor_152 (by decide) (by decide) ?_
                  first
                    | exact absurd c_24 c_75
                    | exact absurd c_75 c_24
                    | exact absurd (c_30.symm.trans c_75) (by decide)
                    | exact absurd c_103 c_75
                    | exact absurd c_75 c_103
                    | (rw [pz_f, if_neg c_75, if_pos c_30, if_neg (fun z => c_133 z.2)] at h0; exact h0 rfl _)
                · skip
                  refine zz_aload_0 dX12_factor_136 ?_
                  refine zz_dup dX12_factor_137 rfl ?_
                  refine zz_getI fl_X12_88 rfl rfl (Nat.lt_of_lt_of_le (by decide) hn) dX12_factor_138 ?_
                  refine zz_iconst (1) dX12_factor_141 (by decide) ?_
                  refine zz_iadd dX12_factor_142 ?_
                  refine zz_putI fl_X12_88 rfl rfl (Nat.lt_of_lt_of_le (by decide) hn) dX12_factor_143 ?_
                  refine zz_iload_2 dX12_factor_146 ?_
                  refine zz_iret rfl dX12_factor_147 (by decide) (by decide) ?_
                  first
                    | exact absurd c_24 c_75
                    | exact absurd c_75 c_24
                    | exact absurd (c_30.symm.trans c_75) (by decide)
                    | exact absurd c_103 c_75
                    | exact absurd c_75 c_103
                    | (rw [pm_k, nI_1, pm_uk]; rw [pz_f, if_neg c_75, if_pos c_30, if_pos ⟨s_86, c_133⟩] at h1; exact h1 rfl)
              · skip
                refine zz_iload_2 dX12_factor_106 ?_
                refine zz_if_ne 114 dX12_factor_107 (by decide) (fun c_107 => ?_) (fun c_107 => ?_)
                · skip
                  refine zz_iconst (0) dX12_factor_114 (by decide) ?_
                  refine zz_iret rfl dX12_factor_115 (by decide) (by decide) ?_
                  first
                    | exact absurd c_24 c_75
                    | exact absurd c_75 c_24
                    | exact absurd (c_30.symm.trans c_75) (by decide)
                    | exact absurd c_103 c_75
                    | exact absurd c_75 c_103
                · skip
                  refine zz_iconst (1) dX12_factor_110 (by decide) ?_
                  refine zz_goto 115 dX12_factor_111 (by decide) ?_
                  refine zz_iret rfl dX12_factor_115 (by decide) (by decide) ?_
                  first
                    | exact absurd c_24 c_75
                    | exact absurd c_75 c_24
                    | exact absurd (c_30.symm.trans c_75) (by decide)
                    | exact absurd c_103 c_75
                    | exact absurd c_75 c_103
            · skip
              refine zz_istore_2 dX12_factor_89 rfl rfl ?_
              refine zz_aload_0 dX12_factor_90 ?_
              refine zz_dup dX12_factor_91 rfl ?_
              refine zz_getI fl_X12_116 rfl rfl (Nat.lt_of_lt_of_le (by decide) hn) dX12_factor_92 ?_
              refine zz_iconst (1) dX12_factor_95 (by decide) ?_
              refine zz_isub dX12_factor_96 ?_
              refine zz_putI fl_X12_116 rfl rfl (Nat.lt_of_lt_of_le (by decide) hn) dX12_factor_97 ?_
              rw [pm_o, nI_pred, pm_uo]
              refine zz_iload_1 dX12_factor_100 ?_
              refine zz_bipush (33) dX12_factor_101 (by decide) ?_
              refine zz_icmp_ne 116 dX12_factor_103 (by decide) (fun c_103 => ?_) (fun c_103 => ?_)
              · skip
                refine zz_aload_0 dX12_factor_116 ?_
                refine zz_getI fl_X12_84 rfl rfl (Nat.lt_of_lt_of_le (by decide) hn) dX12_factor_117 ?_
                rw [pm_g]
                refine zz_if_eq 148 dX12_factor_120 (by decide) (fun _ => ?_) (fun h => absurd h (by decide))
                refine zz_aload_0 dX12_factor_148 ?_
                refine zz_callV0i cv_X12_97 rfl (Nat.lt_of_lt_of_le (by decide) hn) (Nat.le_of_ble_eq_true rfl) (by decide) (by decide) dX12_factor_149 (t_X12_fails hn ⟨_, rfl, ?_⟩)
                refine zz_iret rfl dX12_factor_152 (by decide) (by decide) ?_
                first
                  | exact absurd c_24 c_75
                  | exact absurd c_75 c_24
                  | exact absurd (c_30.symm.trans c_75) (by decide)
                  | exact absurd c_103 c_75
                  | exact absurd c_75 c_103
                  | (rw [pz_f, if_neg c_75, if_pos c_30, if_neg (fun z => by rw [s_86] at z; exact absurd z.1 (by decide))] at h0; exact h0 rfl _)
              · skip
                refine zz_iload_2 dX12_factor_106 ?_
                refine zz_if_ne 114 dX12_factor_107 (by decide) (fun c_107 => ?_) (fun c_107 => ?_)
                · skip
                  refine zz_iconst (0) dX12_factor_114 (by decide) ?_
                  refine zz_iret rfl dX12_factor_115 (by decide) (by decide) ?_
                  first
                    | exact absurd c_24 c_75
                    | exact absurd c_75 c_24
                    | exact absurd (c_30.symm.trans c_75) (by decide)
                    | exact absurd c_103 c_75
                    | exact absurd c_75 c_103
                · skip
                  refine zz_iconst (1) dX12_factor_110 (by decide) ?_
                  refine zz_goto 115 dX12_factor_111 (by decide) ?_
                  refine zz_iret rfl dX12_factor_115 (by decide) (by decide) ?_
                  first
                    | exact absurd c_24 c_75
                    | exact absurd c_75 c_24
                    | exact absurd (c_30.symm.trans c_75) (by decide)
                    | exact absurd c_103 c_75
                    | exact absurd c_75 c_103
          · skip
            refine zz_aload_0 dX12_factor_78 ?_
            refine zz_callV0i cv_X12_119 rfl (Nat.lt_of_lt_of_le (by decide) hn) (Nat.le_of_ble_eq_true rfl) (by decide) (by decide) dX12_factor_79 (hfac (d + 5) (k + 1) _ (by omega) hlt (fun s_79 => ⟨_, rfl, ?_⟩) (fun s_79 v_79 => ⟨_, rfl, ?_⟩))
            · skip
              refine zz_goto 89 dX12_factor_82 (by decide) ?_
              refine zz_istore_2 dX12_factor_89 rfl rfl ?_
              refine zz_aload_0 dX12_factor_90 ?_
              refine zz_dup dX12_factor_91 rfl ?_
              refine zz_getI fl_X12_116 rfl rfl (Nat.lt_of_lt_of_le (by decide) hn) dX12_factor_92 ?_
              refine zz_iconst (1) dX12_factor_95 (by decide) ?_
              refine zz_isub dX12_factor_96 ?_
              refine zz_putI fl_X12_116 rfl rfl (Nat.lt_of_lt_of_le (by decide) hn) dX12_factor_97 ?_
              rw [pm_o, nI_pred, pm_uo]
              refine zz_iload_1 dX12_factor_100 ?_
              refine zz_bipush (33) dX12_factor_101 (by decide) ?_
              refine zz_icmp_ne 116 dX12_factor_103 (by decide) (fun c_103 => ?_) (fun c_103 => ?_)
              · skip
                refine zz_aload_0 dX12_factor_116 ?_
                refine zz_getI fl_X12_84 rfl rfl (Nat.lt_of_lt_of_le (by decide) hn) dX12_factor_117 ?_
                rw [pm_g]
                refine zz_if_eq 148 dX12_factor_120 (by decide) (fun h => absurd h (by decide)) (fun _ => ?_)
                refine zz_aload_0 dX12_factor_123 ?_
                refine zz_aload_0 dX12_factor_124 ?_
                refine zz_getI fl_X12_88 rfl rfl (Nat.lt_of_lt_of_le (by decide) hn) dX12_factor_125 ?_
                refine zz_callV1i cv_X12_91 rfl (Nat.lt_of_lt_of_le (by decide) hn) (Nat.le_of_ble_eq_true rfl) (by decide) (by decide) dX12_factor_128 (t_X12_byteAt (u := 1) hn hr hu (by decide) hl hl5 _ (pm_k g _ o 1) (by first | (have := (hok5 (k + 1) hlt).2.1; omega) | (have := (hok (k + 1) hlt).2.1; omega)) ⟨_, rfl, ?_⟩)
                refine zz_bipush (41) dX12_factor_131 (by decide) ?_
                refine zz_icmp_ne 148 dX12_factor_133 (by decide) (fun c_133 => ?_) (fun c_133 => ?_)
                · skip
                  refine zz_aload_0 dX12_factor_148 ?_
                  refine zz_callV0i cv_X12_97 rfl (Nat.lt_of_lt_of_le (by decide) hn) (Nat.le_of_ble_eq_true rfl) (by decide) (by decide) dX12_factor_149 (t_X12_fails hn ⟨_, rfl, ?_⟩)
                  refine zz_iret rfl dX12_factor_152 (by decide) (by decide) ?_
                  first
                    | exact absurd c_24 c_75
                    | exact absurd c_75 c_24
                    | exact absurd (c_30.symm.trans c_75) (by decide)
                    | exact absurd c_103 c_75
                    | exact absurd c_75 c_103
                · skip
                  refine zz_aload_0 dX12_factor_136 ?_
                  refine zz_dup dX12_factor_137 rfl ?_
                  refine zz_getI fl_X12_88 rfl rfl (Nat.lt_of_lt_of_le (by decide) hn) dX12_factor_138 ?_
                  refine zz_iconst (1) dX12_factor_141 (by decide) ?_
                  refine zz_iadd dX12_factor_142 ?_
                  refine zz_putI fl_X12_88 rfl rfl (Nat.lt_of_lt_of_le (by decide) hn) dX12_factor_143 ?_
                  refine zz_iload_2 dX12_factor_146 ?_
                  refine zz_iret rfl dX12_factor_147 (by decide) (by decide) ?_
                  first
                    | exact absurd c_24 c_75
                    | exact absurd c_75 c_24
                    | exact absurd (c_30.symm.trans c_75) (by decide)
                    | exact absurd c_103 c_75
                    | exact absurd c_75 c_103
              · skip
                refine zz_iload_2 dX12_factor_106 ?_
                refine zz_if_ne 114 dX12_factor_107 (by decide) (fun c_107 => ?_) (fun c_107 => ?_)
                · skip
                  refine zz_iconst (0) dX12_factor_114 (by decide) ?_
                  refine zz_iret rfl dX12_factor_115 (by decide) (by decide) ?_
                  first
                    | exact absurd c_24 c_75
                    | exact absurd c_75 c_24
                    | exact absurd (c_30.symm.trans c_75) (by decide)
                    | exact absurd c_103 c_75
                    | exact absurd c_75 c_103
                    | (rw [pz_f, if_pos c_75, if_pos s_79, if_neg c_107] at h1; exact h1 rfl)
                · skip
                  refine zz_iconst (1) dX12_factor_110 (by decide) ?_
                  refine zz_goto 115 dX12_factor_111 (by decide) ?_
                  refine zz_iret rfl dX12_factor_115 (by decide) (by decide) ?_
                  first
                    | exact absurd c_24 c_75
                    | exact absurd c_75 c_24
                    | exact absurd (c_30.symm.trans c_75) (by decide)
                    | exact absurd c_103 c_75
                    | exact absurd c_75 c_103
                    | (rw [pz_f, if_pos c_75, if_pos s_79, if_pos c_107] at h1; exact h1 rfl)
            · skip
              refine zz_goto 89 dX12_factor_82 (by decide) ?_
              refine zz_istore_2 dX12_factor_89 rfl rfl ?_
              refine zz_aload_0 dX12_factor_90 ?_
              refine zz_dup dX12_factor_91 rfl ?_
              refine zz_getI fl_X12_116 rfl rfl (Nat.lt_of_lt_of_le (by decide) hn) dX12_factor_92 ?_
              refine zz_iconst (1) dX12_factor_95 (by decide) ?_
              refine zz_isub dX12_factor_96 ?_
              refine zz_putI fl_X12_116 rfl rfl (Nat.lt_of_lt_of_le (by decide) hn) dX12_factor_97 ?_
              rw [pm_o, nI_pred, pm_uo]
              refine zz_iload_1 dX12_factor_100 ?_
              refine zz_bipush (33) dX12_factor_101 (by decide) ?_
              refine zz_icmp_ne 116 dX12_factor_103 (by decide) (fun c_103 => ?_) (fun c_103 => ?_)
              · skip
                refine zz_aload_0 dX12_factor_116 ?_
                refine zz_getI fl_X12_84 rfl rfl (Nat.lt_of_lt_of_le (by decide) hn) dX12_factor_117 ?_
                rw [pm_g]
                refine zz_if_eq 148 dX12_factor_120 (by decide) (fun _ => ?_) (fun h => absurd h (by decide))
                refine zz_aload_0 dX12_factor_148 ?_
                refine zz_callV0i cv_X12_97 rfl (Nat.lt_of_lt_of_le (by decide) hn) (Nat.le_of_ble_eq_true rfl) (by decide) (by decide) dX12_factor_149 (t_X12_fails hn ⟨_, rfl, ?_⟩)
                refine zz_iret rfl dX12_factor_152 (by decide) (by decide) ?_
                first
                  | exact absurd c_24 c_75
                  | exact absurd c_75 c_24
                  | exact absurd (c_30.symm.trans c_75) (by decide)
                  | exact absurd c_103 c_75
                  | exact absurd c_75 c_103
              · skip
                refine zz_iload_2 dX12_factor_106 ?_
                refine zz_if_ne 114 dX12_factor_107 (by decide) (fun c_107 => ?_) (fun c_107 => ?_)
                · skip
                  refine zz_iconst (0) dX12_factor_114 (by decide) ?_
                  refine zz_iret rfl dX12_factor_115 (by decide) (by decide) ?_
                  first
                    | exact absurd c_24 c_75
                    | exact absurd c_75 c_24
                    | exact absurd (c_30.symm.trans c_75) (by decide)
                    | exact absurd c_103 c_75
                    | exact absurd c_75 c_103
                    | (rw [pz_f, if_pos c_75, if_neg (by rw [s_79]; decide)] at h0; exact h0 rfl _)
                · skip
                  refine zz_iconst (1) dX12_factor_110 (by decide) ?_
                  refine zz_goto 115 dX12_factor_111 (by decide) ?_
                  refine zz_iret rfl dX12_factor_115 (by decide) (by decide) ?_
                  first
                    | exact absurd c_24 c_75
                    | exact absurd c_75 c_24
                    | exact absurd (c_30.symm.trans c_75) (by decide)
                    | exact absurd c_103 c_75
                    | exact absurd c_75 c_103
                    | (rw [pz_f, if_pos c_75, if_neg (by rw [s_79]; decide)] at h0; exact h0 rfl _)
        · skip
          refine zz_aload_0 dX12_factor_47 ?_
          refine zz_callV0i cv_X12_97 rfl (Nat.lt_of_lt_of_le (by decide) hn) (Nat.le_of_ble_eq_true rfl) (by decide) (by decide) dX12_factor_48 (t_X12_fails hn ⟨_, rfl, ?_⟩)
          refine zz_iret rfl dX12_factor_51 (by decide) (by decide) ?_
          exact absurd c_44 (by intro q; have := (nI_eq (a := o) (b := 5) (by omega) (by decide)).mp q; omega)
      · skip
        refine zz_aload_0 dX12_factor_33 ?_
        refine zz_iload_1 dX12_factor_34 ?_
        refine zz_callV1i cv_X12_113 rfl (Nat.lt_of_lt_of_le (by decide) hn) (Nat.le_of_ble_eq_true rfl) (by decide) (by decide) dX12_factor_35 (t_X12_named1 hn hr hu (fun na_35 => ⟨_, rfl, ?_⟩) (fun na_35 nb_35 => ⟨_, rfl, ?_⟩) (fun na_35 nb_35 nc_35 => ⟨_, rfl, ?_⟩) (fun na_35 nb_35 nc_35 => ⟨_, rfl, ?_⟩))
        · skip
          refine zz_iret rfl dX12_factor_38 (by decide) (by decide) ?_
          rw [pz_f, if_neg c_24, if_neg c_30, pz_base, if_pos o_10, show pz_nm 1 0 = 102 from rfl, if_pos na_35] at h1
          exact h1 rfl
        · skip
          refine zz_iret rfl dX12_factor_38 (by decide) (by decide) ?_
          rw [pz_f, if_neg c_24, if_neg c_30, pz_base, if_pos o_10, show pz_nm 1 0 = 102 from rfl, if_neg na_35, show pz_nm 1 1 = 103 from rfl, if_pos nb_35] at h1
          exact h1 rfl
        · skip
          refine zz_iret rfl dX12_factor_38 (by decide) (by decide) ?_
          rw [pz_f, if_neg c_24, if_neg c_30, pz_base, if_pos o_10, show pz_nm 1 0 = 102 from rfl, if_neg na_35, show pz_nm 1 1 = 103 from rfl, if_neg nb_35, show pz_nm 1 2 = 119 from rfl, if_pos nc_35] at h1
          exact h1 rfl
        · skip
          refine zz_iret rfl dX12_factor_38 (by decide) (by decide) ?_
          rw [pz_f, if_neg c_24, if_neg c_30, pz_base, if_pos o_10, show pz_nm 1 0 = 102 from rfl, if_neg na_35, show pz_nm 1 1 = 103 from rfl, if_neg nb_35, show pz_nm 1 2 = 119 from rfl, if_neg nc_35] at h0
          exact h0 rfl _

theorem a_X12_factor0 {C : zz_C} {n : Nat} {g : zz_G} {r : zz_R} (hn : 60 ≤ n) (hr : xr r) {len : Nat} (hu : g 50 6 = 0) (hl : g 50 8 = nI len) (hl5 : len ≤ 50) : ∀ i, i ≤ 5 → pz_S C mi_X12_factor (3 + 6 * i) g r n (5 - i) len (pz_f (pz_b (g 51) 0 len) 0 (g 50 10) (g 50 11) (g 50 12) i) ∧ pz_S C mi_X12_whole (8 + 6 * i) g r n (5 - i) len (pz_up (pz_b (g 51) 0 len) (pz_f (pz_b (g 51) 0 len) 0 (g 50 10) (g 50 11) (g 50 12) i) 5) := by
  have up : ∀ (i D o : Nat), pz_S C mi_X12_factor D g r n o len (pz_f (pz_b (g 51) 0 len) 0 (g 50 10) (g 50 11) (g 50 12) i) → pz_S C mi_X12_whole (D + 1 + 1 + 1 + 1 + 1) g r n o len (pz_up (pz_b (g 51) 0 len) (pz_f (pz_b (g 51) 0 len) 0 (g 50 10) (g 50 11) (g 50 12) i) 5) := by
    intro i D o h
    have k0 := pz_f_ok (R := g 51) (u := 0) (len := len) (x := g 50 10) (y := g 50 11) (z := g 50 12) i
    have k1 := s_X12_product (u := 0) hn hr hu (by decide) hl hl5 k0 h
    have k2 := s_X12_sum (u := 0) hn hr hu (by decide) hl hl5 (pz_up_ok k0 1) k1
    have k3 := s_X12_compared (u := 0) hn hr hu (by decide) hl hl5 (pz_up_ok k0 2) k2
    have k4 := s_X12_both (u := 0) hn hr hu (by decide) hl hl5 (pz_up_ok k0 3) k3
    exact s_X12_whole (u := 0) hn hr hu (by decide) hl hl5 (pz_up_ok k0 4) k4
  intro i
  induction i with
  | zero => intro _; exact ⟨z_X12_factor0 hn hr hu hl hl5, up 0 3 5 (z_X12_factor0 hn hr hu hl hl5)⟩
  | succ i ih =>
    intro hi
    obtain ⟨h1, h2⟩ := ih (by omega)
    rw [show 5 - i = (5 - (i + 1)) + 1 by omega] at h1 h2
    have h3 := c_X12_factor0 hn hr hu hl hl5 (by omega) h1 (show pz_S C mi_X12_whole (3 + 6 * i + 5) g r n (5 - (i + 1) + 1) len _ by rw [show 3 + 6 * i + 5 = 8 + 6 * i by omega]; exact h2)
    rw [show 3 + 6 * i + 6 = 3 + 6 * (i + 1) by omega] at h3
    refine ⟨h3, ?_⟩
    have h4 := up (i + 1) _ _ h3
    rw [show 3 + 6 * (i + 1) + 1 + 1 + 1 + 1 + 1 = 8 + 6 * (i + 1) by omega] at h4
    exact h4

theorem a_X12_factor1 {C : zz_C} {n : Nat} {g : zz_G} {r : zz_R} (hn : 60 ≤ n) (hr : xr r) {len : Nat} (hu : g 50 6 = 1) (hl : g 50 8 = nI len) (hl5 : len ≤ 50) : ∀ i, i ≤ 5 → pz_S C mi_X12_factor (3 + 6 * i) g r n (5 - i) len (pz_f (pz_b (g 51) 1 len) 1 (g 50 10) (g 50 11) (g 50 12) i) ∧ pz_S C mi_X12_whole (8 + 6 * i) g r n (5 - i) len (pz_up (pz_b (g 51) 1 len) (pz_f (pz_b (g 51) 1 len) 1 (g 50 10) (g 50 11) (g 50 12) i) 5) := by
  have up : ∀ (i D o : Nat), pz_S C mi_X12_factor D g r n o len (pz_f (pz_b (g 51) 1 len) 1 (g 50 10) (g 50 11) (g 50 12) i) → pz_S C mi_X12_whole (D + 1 + 1 + 1 + 1 + 1) g r n o len (pz_up (pz_b (g 51) 1 len) (pz_f (pz_b (g 51) 1 len) 1 (g 50 10) (g 50 11) (g 50 12) i) 5) := by
    intro i D o h
    have k0 := pz_f_ok (R := g 51) (u := 1) (len := len) (x := g 50 10) (y := g 50 11) (z := g 50 12) i
    have k1 := s_X12_product (u := 1) hn hr hu (by decide) hl hl5 k0 h
    have k2 := s_X12_sum (u := 1) hn hr hu (by decide) hl hl5 (pz_up_ok k0 1) k1
    have k3 := s_X12_compared (u := 1) hn hr hu (by decide) hl hl5 (pz_up_ok k0 2) k2
    have k4 := s_X12_both (u := 1) hn hr hu (by decide) hl hl5 (pz_up_ok k0 3) k3
    exact s_X12_whole (u := 1) hn hr hu (by decide) hl hl5 (pz_up_ok k0 4) k4
  intro i
  induction i with
  | zero => intro _; exact ⟨z_X12_factor1 hn hr hu hl hl5, up 0 3 5 (z_X12_factor1 hn hr hu hl hl5)⟩
  | succ i ih =>
    intro hi
    obtain ⟨h1, h2⟩ := ih (by omega)
    rw [show 5 - i = (5 - (i + 1)) + 1 by omega] at h1 h2
    have h3 := c_X12_factor1 hn hr hu hl hl5 (by omega) h1 (show pz_S C mi_X12_whole (3 + 6 * i + 5) g r n (5 - (i + 1) + 1) len _ by rw [show 3 + 6 * i + 5 = 8 + 6 * i by omega]; exact h2)
    rw [show 3 + 6 * i + 6 = 3 + 6 * (i + 1) by omega] at h3
    refine ⟨h3, ?_⟩
    have h4 := up (i + 1) _ _ h3
    rw [show 3 + 6 * (i + 1) + 1 + 1 + 1 + 1 + 1 = 8 + 6 * (i + 1) by omega] at h4
    exact h4
