theorem rn_c : ∀ t : Fin 256, ((nI t.1).toUInt32 % 65536).toInt32 = nI t.1 := by decide +kernel
theorem rn_cs {c a0 a1 a2 : Int32} : ∃ m : Int32, (if c = a0 then (0 : Int32) else if c = a1 then 1 else if c = a2 then 2 else -1) = m ∧ ((m = 0 ∧ c = a0) ∨ (m = 1 ∧ ¬ c = a0 ∧ c = a1) ∨ (m = 2 ∧ ¬ c = a0 ∧ ¬ c = a1 ∧ c = a2) ∨ (m = -1 ∧ ¬ c = a0 ∧ ¬ c = a1 ∧ ¬ c = a2)) := by
  by_cases h0 : c = a0
  · exact ⟨0, if_pos h0, Or.inl ⟨rfl, h0⟩⟩
  · rw [if_neg h0]
    by_cases h1 : c = a1
    · exact ⟨1, if_pos h1, Or.inr (Or.inl ⟨rfl, h0, h1⟩)⟩
    · rw [if_neg h1]
      by_cases h2 : c = a2
      · exact ⟨2, if_pos h2, Or.inr (Or.inr (Or.inl ⟨rfl, h0, h1, h2⟩))⟩
      · exact ⟨-1, if_neg h2, Or.inr (Or.inr (Or.inr ⟨rfl, h0, h1, h2⟩))⟩
set_option maxRecDepth 100000 in
set_option maxHeartbeats 4000000 in
theorem z_X5_readOperand0 {C : zz_C} {n : Nat} {g : zz_G} {r : zz_R} {R : Nat → Int32} {len : Nat} (hn : 60 ≤ n) (hr : xr r) (hl5 : len ≤ 50) (hen : g 37 3 = nI len) (hby : ∀ j, j < len → ∃ t : Nat, t < 256 ∧ R (176 + 50 * 0 + j) = nI t ∧ g 999 j = nI t) (hnm : r 37 4 = some (1000000 + (10 + 0))) {x y z : Int32} : rz_S C mi_X5_readOperand [.int 5] 5 g r n len (pz_f (pz_b R 0 len) 0 x y z 0) := by
  intro d0 k cs Q hd hk hcs h1 h0
  obtain ⟨d, rfl⟩ : ∃ e, d0 = e + 5 := ⟨d0 - 5, by omega⟩
  refine zz_T.of [some (.ref 37), some (.int 5), none, none] (by decide +kernel) rfl (Nat.le_of_ble_eq_true rfl) ?_
  refine zz_aload_0 dX5_readOperand_0 ?_
  refine zz_callV0i cv_X5_58 rfl (Nat.lt_of_lt_of_le (by decide) hn) (Nat.le_of_ble_eq_true rfl) (by decide) (by decide) dX5_readOperand_1 (t_X5_next (u := 0) hn hr (by decide) hl5 hen hby (k := k) hk ⟨_, rfl, ?_⟩)
  refine zz_istore_2 dX5_readOperand_4 rfl rfl ?_
  refine zz_iload_2 dX5_readOperand_5 ?_
  refine zz_callS1i cs_X5_70 (Nat.le_of_ble_eq_true rfl) (by decide) (by decide) dX5_readOperand_6 (t_X5_isDigit (fun a_6 b_6 => ⟨_, rfl, ?_⟩) (fun o_6 => ⟨_, rfl, ?_⟩))
  · skip
    refine zz_if_eq 18 dX5_readOperand_9 (by decide) (fun h => absurd h (by decide)) (fun _ => ?_)
    refine zz_aload_0 dX5_readOperand_12 ?_
    have hlt : k < len := pz_b_in fun z9 => a_6 (by rw [z9]; decide)
    refine zz_callV0v cv_X5_73 rfl (Nat.lt_of_lt_of_le (by decide) hn) (Nat.le_of_ble_eq_true rfl) (by decide) (by decide) dX5_readOperand_13 (t_X5_readNumber (u := 0) hn hr (by decide) hl5 hen hby hk (by omega) ⟨rfl, ?_⟩)
    refine zz_iconst (1) dX5_readOperand_16 (by decide) ?_
    refine zz_zret rfl (by rfl) dX5_readOperand_17 (by decide) (by decide) ?_
    have n33 : ¬ pz_b R 0 len k = 33 := fun e => a_6 (by rw [e]; decide)
    have n40 : ¬ pz_b R 0 len k = 40 := fun e => a_6 (by rw [e]; decide)
    rw [pz_f, if_neg (fun z9 => z9.elim n33 n40), pz_base, if_neg (fun z9 => z9.elim a_6 b_6)] at h1
    exact h1 rfl
  · skip
    refine zz_if_eq 18 dX5_readOperand_9 (by decide) (fun _ => ?_) (fun h => absurd h (by decide))
    refine zz_iload_2 dX5_readOperand_18 ?_
    refine zz_bipush (33) dX5_readOperand_19 (by decide) ?_
    refine zz_icmp_eq 30 dX5_readOperand_21 (by decide) (fun c_21 => ?_) (fun c_21 => ?_)
    · skip
      refine zz_iload_1 dX5_readOperand_30 ?_
      refine zz_iconst (5) dX5_readOperand_31 (by decide) ?_
      refine zz_icmp_ge 68 dX5_readOperand_32 (by decide) (fun c_32 => ?_) (fun c_32 => ?_)
      · skip
        refine zz_iconst (0) dX5_readOperand_68 (by decide) ?_
        refine zz_zret rfl (by rfl) dX5_readOperand_69 (by decide) (by decide) ?_
        first
          | exact absurd (show (5 : Int32) ≤ 5 by decide) c_32
          | (rw [pz_f, if_pos (by first | exact Or.inl c_21 | exact Or.inr c_27)] at h0; exact h0 rfl _ rd_j (rd_k _ _ _))
      · skip
        exact absurd (show (5 : Int32) ≤ 5 by decide) c_32
    · skip
      refine zz_iload_2 dX5_readOperand_24 ?_
      refine zz_bipush (40) dX5_readOperand_25 (by decide) ?_
      refine zz_icmp_ne 70 dX5_readOperand_27 (by decide) (fun c_27 => ?_) (fun c_27 => ?_)
      · skip
        refine zz_iload_2 dX5_readOperand_70 ?_
        refine zz_if_ge 78 dX5_readOperand_71 (by decide) (fun c_71 => ?_) (fun c_71 => ?_)
        · skip
          refine zz_aload_0 dX5_readOperand_78 ?_
          refine zz_getR fl_X5_31 rfl rfl (Nat.lt_of_lt_of_le (by decide) hn) hnm dX5_readOperand_79 ?_
          refine zz_iload_2 dX5_readOperand_82 ?_
          have hlt : k < len := by
            by_cases hq : k < len
            · exact hq
            · rw [pz_b_end (by omega)] at c_71
              exact absurd c_71 (by decide)
          obtain ⟨t, ht, e1, e2⟩ := hby k hlt
          have eb : pz_b R 0 len k = nI t := by rw [pz_b, if_pos hlt, e1]
          rw [eb]
          refine zz_i2c dX5_readOperand_83 ?_
          rw [rn_c ⟨t, ht⟩]
          refine zz_callX1i (i := 0) (by decide) cx_X5_82 (Nat.le_of_ble_eq_true rfl) (by decide) (by decide) dX5_readOperand_84 (t_J0_indexOf_0f7a4_0 t ht ⟨_, rfl, ?_⟩)
          obtain ⟨m9, em9, hm9⟩ := rn_cs (c := nI t) (a0 := 109) (a1 := 107) (a2 := 115)
          rw [em9]
          refine zz_istore_3 dX5_readOperand_87 rfl rfl ?_
          refine zz_iload_3 dX5_readOperand_88 ?_
          refine zz_if_ge 94 dX5_readOperand_89 (by decide) (fun c_89 => ?_) (fun c_89 => ?_)
          · skip
            refine zz_aload_0 dX5_readOperand_94 ?_
            refine zz_dup dX5_readOperand_95 rfl ?_
            refine zz_getI fl_X5_22 rfl rfl (Nat.lt_of_lt_of_le (by decide) hn) dX5_readOperand_96 ?_
            refine zz_iconst (1) dX5_readOperand_99 (by decide) ?_
            refine zz_iadd dX5_readOperand_100 ?_
            refine zz_putI fl_X5_22 rfl rfl (Nat.lt_of_lt_of_le (by decide) hn) dX5_readOperand_101 ?_
            rw [rd_k, nI_1, rd_uk]
            refine zz_aload_0 dX5_readOperand_104 ?_
            refine zz_getR fl_X5_18 rfl rfl (Nat.lt_of_lt_of_le (by decide) hn) (xr_37_1 hr) dX5_readOperand_105 ?_
            refine zz_iconst (-1) dX5_readOperand_108 (by decide) ?_
            refine zz_iload_3 dX5_readOperand_109 ?_
            refine zz_isub dX5_readOperand_110 ?_
            refine zz_callV1v cv_X5_66 rfl (Nat.lt_of_lt_of_le (by decide) hn) (Nat.le_of_ble_eq_true rfl) (by decide) (by decide) dX5_readOperand_111 (t_X8_add hn hr (by omega) ⟨rfl, ?_⟩)
            refine zz_iconst (1) dX5_readOperand_114 (by decide) ?_
            refine zz_zret rfl (by rfl) dX5_readOperand_115 (by decide) (by decide) ?_
            rcases hm9 with ⟨q0, q1⟩ | ⟨q0, q1, q2⟩ | ⟨q0, q1, q2, q3⟩ | ⟨q0, q1, q2, q3⟩
            · rw [← eb] at q1
              rw [pz_f, if_neg (fun z9 => z9.elim c_21 c_27), pz_base, if_pos o_6, show pz_nm 0 0 = 109 from rfl, if_pos q1] at h1
              rw [q0]
              exact h1 rfl
            · rw [← eb] at q1 q2
              rw [pz_f, if_neg (fun z9 => z9.elim c_21 c_27), pz_base, if_pos o_6, show pz_nm 0 0 = 109 from rfl, if_neg q1, show pz_nm 0 1 = 107 from rfl, if_pos q2] at h1
              rw [q0]
              exact h1 rfl
            · rw [← eb] at q1 q2 q3
              rw [pz_f, if_neg (fun z9 => z9.elim c_21 c_27), pz_base, if_pos o_6, show pz_nm 0 0 = 109 from rfl, if_neg q1, show pz_nm 0 1 = 107 from rfl, if_neg q2, show pz_nm 0 2 = 115 from rfl, if_pos q3] at h1
              rw [q0]
              exact h1 rfl
            · rw [q0] at c_89
              exact absurd (show (-1 : Int32) < 0 by decide) (by first | exact Int32.not_lt.mpr c_89 | exact c_89)
          · skip
            refine zz_iconst (0) dX5_readOperand_92 (by decide) ?_
            refine zz_zret rfl (by rfl) dX5_readOperand_93 (by decide) (by decide) ?_
            rcases hm9 with ⟨q0, q1⟩ | ⟨q0, q1, q2⟩ | ⟨q0, q1, q2, q3⟩ | ⟨q0, q1, q2, q3⟩
            · rw [q0] at c_89
              exact absurd c_89 (by decide)
            · rw [q0] at c_89
              exact absurd c_89 (by decide)
            · rw [q0] at c_89
              exact absurd c_89 (by decide)
            · rw [← eb] at q1 q2 q3
              rw [pz_f, if_neg (fun z9 => z9.elim c_21 c_27), pz_base, if_pos o_6, show pz_nm 0 0 = 109 from rfl, if_neg q1, show pz_nm 0 1 = 107 from rfl, if_neg q2, show pz_nm 0 2 = 115 from rfl, if_neg q3] at h0
              exact h0 rfl _ rd_j (rd_k _ _ _)
        · skip
          refine zz_iconst (-1) dX5_readOperand_74 (by decide) ?_
          refine zz_goto 87 dX5_readOperand_75 (by decide) ?_
          refine zz_istore_3 dX5_readOperand_87 rfl rfl ?_
          refine zz_iload_3 dX5_readOperand_88 ?_
          refine zz_if_ge 94 dX5_readOperand_89 (by decide) (fun h => absurd h (by decide)) (fun _ => ?_)
          refine zz_iconst (0) dX5_readOperand_92 (by decide) ?_
          refine zz_zret rfl (by rfl) dX5_readOperand_93 (by decide) (by decide) ?_
          have nb : pz_b R 0 len k = -1 := by
            by_cases hq : k < len
            · obtain ⟨t, ht, e1, e2⟩ := hby k hq
              rw [pz_b, if_pos hq, e1] at c_71
              exact absurd (Int32.not_lt.mp (nI_pos (n := t) (by omega))) c_71
            · exact pz_b_end (by omega)
          rw [pz_f, if_neg (fun z9 => z9.elim c_21 c_27), pz_base, if_pos o_6, show pz_nm 0 0 = 109 from rfl, if_neg (by rw [nb]; decide), show pz_nm 0 1 = 107 from rfl, if_neg (by rw [nb]; decide), show pz_nm 0 2 = 115 from rfl, if_neg (by rw [nb]; decide)] at h0
          exact h0 rfl _ rd_j (rd_k _ _ _)
      · skip
        refine zz_iload_1 dX5_readOperand_30 ?_
        refine zz_iconst (5) dX5_readOperand_31 (by decide) ?_
        refine zz_icmp_ge 68 dX5_readOperand_32 (by decide) (fun c_32 => ?_) (fun c_32 => ?_)
        · skip
          refine zz_iconst (0) dX5_readOperand_68 (by decide) ?_
          refine zz_zret rfl (by rfl) dX5_readOperand_69 (by decide) (by decide) ?_
          first
            | exact absurd (show (5 : Int32) ≤ 5 by decide) c_32
            | (rw [pz_f, if_pos (by first | exact Or.inl c_21 | exact Or.inr c_27)] at h0; exact h0 rfl _ rd_j (rd_k _ _ _))
        · skip
          exact absurd (show (5 : Int32) ≤ 5 by decide) c_32

set_option maxRecDepth 100000 in
set_option maxHeartbeats 4000000 in
theorem c_X5_readOperand0 {C : zz_C} {n : Nat} {g : zz_G} {r : zz_R} {R : Nat → Int32} {len : Nat} (hn : 60 ≤ n) (hr : xr r) (hl5 : len ≤ 50) (hen : g 37 3 = nI len) (hby : ∀ j, j < len → ∃ t : Nat, t < 256 ∧ R (176 + 50 * 0 + j) = nI t ∧ g 999 j = nI t) (hnm : r 37 4 = some (1000000 + (10 + 0))) {x y z : Int32} {i D o : Nat} (ho : o < 5) (hfac : rz_S C mi_X5_readOperand [.int (nI (o + 1))] D g r n len (pz_f (pz_b R 0 len) 0 x y z i)) (hwh : rz_S C mi_X5_readLevel [.int 0, .int (nI (o + 1))] (D + 6) g r n len (pz_up (pz_b R 0 len) (pz_f (pz_b R 0 len) 0 x y z i) 5)) : rz_S C mi_X5_readOperand [.int (nI o)] (D + 8) g r n len (pz_f (pz_b R 0 len) 0 x y z (i + 1)) := by
  intro d0 k cs Q hd hk hcs h1 h0
  have hok := pz_f_ok (R := R) (u := 0) (len := len) (x := x) (y := y) (z := z) i
  have hok5 := pz_up_ok (R := R) (u := 0) hok 5
  have hln := pz_f_ln (b := pz_b R 0 len) (u := 0) (x := x) (y := y) (z := z) i
  obtain ⟨d, rfl⟩ : ∃ e, d0 = e + 8 := ⟨d0 - 8, by omega⟩
  refine zz_T.of [some (.ref 37), some (.int (nI o)), none, none] (by decide +kernel) rfl (Nat.le_of_ble_eq_true rfl) ?_
  refine zz_aload_0 dX5_readOperand_0 ?_
  refine zz_callV0i cv_X5_58 rfl (Nat.lt_of_lt_of_le (by decide) hn) (Nat.le_of_ble_eq_true rfl) (by decide) (by decide) dX5_readOperand_1 (t_X5_next (u := 0) hn hr (by decide) hl5 hen hby (k := k) hk ⟨_, rfl, ?_⟩)
  refine zz_istore_2 dX5_readOperand_4 rfl rfl ?_
  refine zz_iload_2 dX5_readOperand_5 ?_
  refine zz_callS1i cs_X5_70 (Nat.le_of_ble_eq_true rfl) (by decide) (by decide) dX5_readOperand_6 (t_X5_isDigit (fun a_6 b_6 => ⟨_, rfl, ?_⟩) (fun o_6 => ⟨_, rfl, ?_⟩))
  · skip
    refine zz_if_eq 18 dX5_readOperand_9 (by decide) (fun h => absurd h (by decide)) (fun _ => ?_)
    refine zz_aload_0 dX5_readOperand_12 ?_
    have hlt : k < len := pz_b_in fun z9 => a_6 (by rw [z9]; decide)
    refine zz_callV0v cv_X5_73 rfl (Nat.lt_of_lt_of_le (by decide) hn) (Nat.le_of_ble_eq_true rfl) (by decide) (by decide) dX5_readOperand_13 (t_X5_readNumber (u := 0) hn hr (by decide) hl5 hen hby hk (by omega) ⟨rfl, ?_⟩)
    refine zz_iconst (1) dX5_readOperand_16 (by decide) ?_
    refine zz_zret rfl (by rfl) dX5_readOperand_17 (by decide) (by decide) ?_
    have n33 : ¬ pz_b R 0 len k = 33 := fun e => a_6 (by rw [e]; decide)
    have n40 : ¬ pz_b R 0 len k = 40 := fun e => a_6 (by rw [e]; decide)
    rw [pz_f, if_neg n33, if_neg n40, pz_base, if_neg (fun z9 => z9.elim a_6 b_6)] at h1
    exact h1 rfl
  · skip
    refine zz_if_eq 18 dX5_readOperand_9 (by decide) (fun _ => ?_) (fun h => absurd h (by decide))
    refine zz_iload_2 dX5_readOperand_18 ?_
    refine zz_bipush (33) dX5_readOperand_19 (by decide) ?_
    refine zz_icmp_eq 30 dX5_readOperand_21 (by decide) (fun c_21 => ?_) (fun c_21 => ?_)
    · skip
      refine zz_iload_1 dX5_readOperand_30 ?_
      refine zz_iconst (5) dX5_readOperand_31 (by decide) ?_
      refine zz_icmp_ge 68 dX5_readOperand_32 (by decide) (fun c_32 => ?_) (fun c_32 => ?_)
      · skip
        refine zz_iconst (0) dX5_readOperand_68 (by decide) ?_
        refine zz_zret rfl (by rfl) dX5_readOperand_69 (by decide) (by decide) ?_
        exact absurd ((nI_leI (a := 5) (b := o) (by omega) (by omega)).mp c_32) (by omega)
      · skip
        refine zz_iload_2 dX5_readOperand_35 ?_
        refine zz_bipush (33) dX5_readOperand_36 (by decide) ?_
        refine zz_icmp_ne 54 dX5_readOperand_38 (by decide) (fun c_38 => ?_) (fun c_38 => ?_)
        · skip
          have hlt : k + 1 ≤ len := pz_b_in (R := R) (u := 0) (fun z9 => by first | exact absurd (c_21.symm.trans z9) (by decide) | exact absurd (c_27.symm.trans z9) (by decide))
          refine zz_aload_0 dX5_readOperand_54 ?_
          refine zz_iload_1 dX5_readOperand_55 ?_
          refine zz_iconst (1) dX5_readOperand_56 (by decide) ?_
          refine zz_iadd dX5_readOperand_57 ?_
          rw [nI_1]
          refine zz_callV1i cv_X5_79 rfl (Nat.lt_of_lt_of_le (by decide) hn) (Nat.le_of_ble_eq_true rfl) (by decide) (by decide) dX5_readOperand_58 (t_X5_readBracket (u := 0) hn hr (by decide) hl5 hen hby hok5 hwh (by omega) hlt hcs (fun s_58 t_58 => ⟨_, rfl, ?_⟩) (fun s_58 g1_58 j1_58 e1_58 => ⟨_, rfl, ?_⟩))
          · skip
            refine zz_if_eq 68 dX5_readOperand_61 (by decide) (fun h => absurd h (by decide)) (fun _ => ?_)
            refine zz_iconst (1) dX5_readOperand_64 (by decide) ?_
            refine zz_goto 69 dX5_readOperand_65 (by decide) ?_
            refine zz_zret rfl (by rfl) dX5_readOperand_69 (by decide) (by decide) ?_
            first
              | exact absurd c_38 c_21
              | exact absurd c_21 c_38
              | exact absurd (c_27.symm.trans c_38) (by decide)
              | exact absurd ((nI_leI (a := 5) (b := o) (by omega) (by omega)).mp c_32) (by omega)
              | (rw [pz_f, if_neg c_38, if_pos c_27, if_pos ⟨s_58, t_58⟩] at h1; exact h1 rfl)
          · skip
            refine zz_if_eq 68 dX5_readOperand_61 (by decide) (fun _ => ?_) (fun h => absurd h (by decide))
            refine zz_iconst (0) dX5_readOperand_68 (by decide) ?_
            refine zz_zret rfl (by rfl) dX5_readOperand_69 (by decide) (by decide) ?_
            first
              | exact absurd c_38 c_21
              | exact absurd c_21 c_38
              | exact absurd (c_27.symm.trans c_38) (by decide)
              | exact absurd ((nI_leI (a := 5) (b := o) (by omega) (by omega)).mp c_32) (by omega)
              | (rw [pz_f, if_neg c_38, if_pos c_27, if_neg s_58] at h0; exact h0 rfl _ j1_58 e1_58)
        · skip
          have hlt : k + 1 ≤ len := pz_b_in (R := R) (u := 0) (fun z9 => by first | exact absurd (c_38.symm.trans z9) (by decide))
          refine zz_aload_0 dX5_readOperand_41 ?_
          refine zz_iload_1 dX5_readOperand_42 ?_
          refine zz_iconst (1) dX5_readOperand_43 (by decide) ?_
          refine zz_iadd dX5_readOperand_44 ?_
          rw [nI_1]
          refine zz_callV1i cv_X5_76 rfl (Nat.lt_of_lt_of_le (by decide) hn) (Nat.le_of_ble_eq_true rfl) (by decide) (by decide) dX5_readOperand_45 (t_X5_readNot (u := 0) hn hr (by decide) hl5 hen hby hok hln hfac (by omega) hlt hcs (fun s_45 => ⟨_, rfl, ?_⟩) (fun s_45 g1_45 j1_45 e1_45 => ⟨_, rfl, ?_⟩))
          · skip
            refine zz_if_eq 68 dX5_readOperand_48 (by decide) (fun h => absurd h (by decide)) (fun _ => ?_)
            refine zz_goto 64 dX5_readOperand_51 (by decide) ?_
            refine zz_iconst (1) dX5_readOperand_64 (by decide) ?_
            refine zz_goto 69 dX5_readOperand_65 (by decide) ?_
            refine zz_zret rfl (by rfl) dX5_readOperand_69 (by decide) (by decide) ?_
            first
              | exact absurd c_38 c_21
              | exact absurd c_21 c_38
              | exact absurd (c_27.symm.trans c_38) (by decide)
              | exact absurd ((nI_leI (a := 5) (b := o) (by omega) (by omega)).mp c_32) (by omega)
              | (rw [pz_f, if_pos c_38, if_pos s_45] at h1; exact h1 rfl)
          · skip
            refine zz_if_eq 68 dX5_readOperand_48 (by decide) (fun _ => ?_) (fun h => absurd h (by decide))
            refine zz_iconst (0) dX5_readOperand_68 (by decide) ?_
            refine zz_zret rfl (by rfl) dX5_readOperand_69 (by decide) (by decide) ?_
            first
              | exact absurd c_38 c_21
              | exact absurd c_21 c_38
              | exact absurd (c_27.symm.trans c_38) (by decide)
              | exact absurd ((nI_leI (a := 5) (b := o) (by omega) (by omega)).mp c_32) (by omega)
              | (rw [pz_f, if_pos c_38, if_neg (by rw [s_45]; decide)] at h0; exact h0 rfl _ j1_45 e1_45)
    · skip
      refine zz_iload_2 dX5_readOperand_24 ?_
      refine zz_bipush (40) dX5_readOperand_25 (by decide) ?_
      refine zz_icmp_ne 70 dX5_readOperand_27 (by decide) (fun c_27 => ?_) (fun c_27 => ?_)
      · skip
        refine zz_iload_2 dX5_readOperand_70 ?_
        refine zz_if_ge 78 dX5_readOperand_71 (by decide) (fun c_71 => ?_) (fun c_71 => ?_)
        · skip
          refine zz_aload_0 dX5_readOperand_78 ?_
          refine zz_getR fl_X5_31 rfl rfl (Nat.lt_of_lt_of_le (by decide) hn) hnm dX5_readOperand_79 ?_
          refine zz_iload_2 dX5_readOperand_82 ?_
          have hlt : k < len := by
            by_cases hq : k < len
            · exact hq
            · rw [pz_b_end (by omega)] at c_71
              exact absurd c_71 (by decide)
          obtain ⟨t, ht, e1, e2⟩ := hby k hlt
          have eb : pz_b R 0 len k = nI t := by rw [pz_b, if_pos hlt, e1]
          rw [eb]
          refine zz_i2c dX5_readOperand_83 ?_
          rw [rn_c ⟨t, ht⟩]
          refine zz_callX1i (i := 0) (by decide) cx_X5_82 (Nat.le_of_ble_eq_true rfl) (by decide) (by decide) dX5_readOperand_84 (t_J0_indexOf_0f7a4_0 t ht ⟨_, rfl, ?_⟩)
          obtain ⟨m9, em9, hm9⟩ := rn_cs (c := nI t) (a0 := 109) (a1 := 107) (a2 := 115)
          rw [em9]
          refine zz_istore_3 dX5_readOperand_87 rfl rfl ?_
          refine zz_iload_3 dX5_readOperand_88 ?_
          refine zz_if_ge 94 dX5_readOperand_89 (by decide) (fun c_89 => ?_) (fun c_89 => ?_)
          · skip
            refine zz_aload_0 dX5_readOperand_94 ?_
            refine zz_dup dX5_readOperand_95 rfl ?_
            refine zz_getI fl_X5_22 rfl rfl (Nat.lt_of_lt_of_le (by decide) hn) dX5_readOperand_96 ?_
            refine zz_iconst (1) dX5_readOperand_99 (by decide) ?_
            refine zz_iadd dX5_readOperand_100 ?_
            refine zz_putI fl_X5_22 rfl rfl (Nat.lt_of_lt_of_le (by decide) hn) dX5_readOperand_101 ?_
            rw [rd_k, nI_1, rd_uk]
            refine zz_aload_0 dX5_readOperand_104 ?_
            refine zz_getR fl_X5_18 rfl rfl (Nat.lt_of_lt_of_le (by decide) hn) (xr_37_1 hr) dX5_readOperand_105 ?_
            refine zz_iconst (-1) dX5_readOperand_108 (by decide) ?_
            refine zz_iload_3 dX5_readOperand_109 ?_
            refine zz_isub dX5_readOperand_110 ?_
            refine zz_callV1v cv_X5_66 rfl (Nat.lt_of_lt_of_le (by decide) hn) (Nat.le_of_ble_eq_true rfl) (by decide) (by decide) dX5_readOperand_111 (t_X8_add hn hr (by omega) ⟨rfl, ?_⟩)
            refine zz_iconst (1) dX5_readOperand_114 (by decide) ?_
            refine zz_zret rfl (by rfl) dX5_readOperand_115 (by decide) (by decide) ?_
            rcases hm9 with ⟨q0, q1⟩ | ⟨q0, q1, q2⟩ | ⟨q0, q1, q2, q3⟩ | ⟨q0, q1, q2, q3⟩
            · rw [← eb] at q1
              rw [pz_f, if_neg c_21, if_neg c_27, pz_base, if_pos o_6, show pz_nm 0 0 = 109 from rfl, if_pos q1] at h1
              rw [q0]
              exact h1 rfl
            · rw [← eb] at q1 q2
              rw [pz_f, if_neg c_21, if_neg c_27, pz_base, if_pos o_6, show pz_nm 0 0 = 109 from rfl, if_neg q1, show pz_nm 0 1 = 107 from rfl, if_pos q2] at h1
              rw [q0]
              exact h1 rfl
            · rw [← eb] at q1 q2 q3
              rw [pz_f, if_neg c_21, if_neg c_27, pz_base, if_pos o_6, show pz_nm 0 0 = 109 from rfl, if_neg q1, show pz_nm 0 1 = 107 from rfl, if_neg q2, show pz_nm 0 2 = 115 from rfl, if_pos q3] at h1
              rw [q0]
              exact h1 rfl
            · rw [q0] at c_89
              exact absurd (show (-1 : Int32) < 0 by decide) (by first | exact Int32.not_lt.mpr c_89 | exact c_89)
          · skip
            refine zz_iconst (0) dX5_readOperand_92 (by decide) ?_
            refine zz_zret rfl (by rfl) dX5_readOperand_93 (by decide) (by decide) ?_
            rcases hm9 with ⟨q0, q1⟩ | ⟨q0, q1, q2⟩ | ⟨q0, q1, q2, q3⟩ | ⟨q0, q1, q2, q3⟩
            · rw [q0] at c_89
              exact absurd c_89 (by decide)
            · rw [q0] at c_89
              exact absurd c_89 (by decide)
            · rw [q0] at c_89
              exact absurd c_89 (by decide)
            · rw [← eb] at q1 q2 q3
              rw [pz_f, if_neg c_21, if_neg c_27, pz_base, if_pos o_6, show pz_nm 0 0 = 109 from rfl, if_neg q1, show pz_nm 0 1 = 107 from rfl, if_neg q2, show pz_nm 0 2 = 115 from rfl, if_neg q3] at h0
              exact h0 rfl _ rd_j (rd_k _ _ _)
        · skip
          refine zz_iconst (-1) dX5_readOperand_74 (by decide) ?_
          refine zz_goto 87 dX5_readOperand_75 (by decide) ?_
          refine zz_istore_3 dX5_readOperand_87 rfl rfl ?_
          refine zz_iload_3 dX5_readOperand_88 ?_
          refine zz_if_ge 94 dX5_readOperand_89 (by decide) (fun h => absurd h (by decide)) (fun _ => ?_)
          refine zz_iconst (0) dX5_readOperand_92 (by decide) ?_
          refine zz_zret rfl (by rfl) dX5_readOperand_93 (by decide) (by decide) ?_
          have nb : pz_b R 0 len k = -1 := by
            by_cases hq : k < len
            · obtain ⟨t, ht, e1, e2⟩ := hby k hq
              rw [pz_b, if_pos hq, e1] at c_71
              exact absurd (Int32.not_lt.mp (nI_pos (n := t) (by omega))) c_71
            · exact pz_b_end (by omega)
          rw [pz_f, if_neg c_21, if_neg c_27, pz_base, if_pos o_6, show pz_nm 0 0 = 109 from rfl, if_neg (by rw [nb]; decide), show pz_nm 0 1 = 107 from rfl, if_neg (by rw [nb]; decide), show pz_nm 0 2 = 115 from rfl, if_neg (by rw [nb]; decide)] at h0
          exact h0 rfl _ rd_j (rd_k _ _ _)
      · skip
        refine zz_iload_1 dX5_readOperand_30 ?_
        refine zz_iconst (5) dX5_readOperand_31 (by decide) ?_
        refine zz_icmp_ge 68 dX5_readOperand_32 (by decide) (fun c_32 => ?_) (fun c_32 => ?_)
        · skip
          refine zz_iconst (0) dX5_readOperand_68 (by decide) ?_
          refine zz_zret rfl (by rfl) dX5_readOperand_69 (by decide) (by decide) ?_
          exact absurd ((nI_leI (a := 5) (b := o) (by omega) (by omega)).mp c_32) (by omega)
        · skip
          refine zz_iload_2 dX5_readOperand_35 ?_
          refine zz_bipush (33) dX5_readOperand_36 (by decide) ?_
          refine zz_icmp_ne 54 dX5_readOperand_38 (by decide) (fun c_38 => ?_) (fun c_38 => ?_)
          · skip
            have hlt : k + 1 ≤ len := pz_b_in (R := R) (u := 0) (fun z9 => by first | exact absurd (c_21.symm.trans z9) (by decide) | exact absurd (c_27.symm.trans z9) (by decide))
            refine zz_aload_0 dX5_readOperand_54 ?_
            refine zz_iload_1 dX5_readOperand_55 ?_
            refine zz_iconst (1) dX5_readOperand_56 (by decide) ?_
            refine zz_iadd dX5_readOperand_57 ?_
            rw [nI_1]
            refine zz_callV1i cv_X5_79 rfl (Nat.lt_of_lt_of_le (by decide) hn) (Nat.le_of_ble_eq_true rfl) (by decide) (by decide) dX5_readOperand_58 (t_X5_readBracket (u := 0) hn hr (by decide) hl5 hen hby hok5 hwh (by omega) hlt hcs (fun s_58 t_58 => ⟨_, rfl, ?_⟩) (fun s_58 g1_58 j1_58 e1_58 => ⟨_, rfl, ?_⟩))
            · skip
              refine zz_if_eq 68 dX5_readOperand_61 (by decide) (fun h => absurd h (by decide)) (fun _ => ?_)
              refine zz_iconst (1) dX5_readOperand_64 (by decide) ?_
              refine zz_goto 69 dX5_readOperand_65 (by decide) ?_
              refine zz_zret rfl (by rfl) dX5_readOperand_69 (by decide) (by decide) ?_
              first
                | exact absurd c_38 c_21
                | exact absurd c_21 c_38
                | exact absurd (c_27.symm.trans c_38) (by decide)
                | exact absurd ((nI_leI (a := 5) (b := o) (by omega) (by omega)).mp c_32) (by omega)
                | (rw [pz_f, if_neg c_38, if_pos c_27, if_pos ⟨s_58, t_58⟩] at h1; exact h1 rfl)
            · skip
              refine zz_if_eq 68 dX5_readOperand_61 (by decide) (fun _ => ?_) (fun h => absurd h (by decide))
              refine zz_iconst (0) dX5_readOperand_68 (by decide) ?_
              refine zz_zret rfl (by rfl) dX5_readOperand_69 (by decide) (by decide) ?_
              first
                | exact absurd c_38 c_21
                | exact absurd c_21 c_38
                | exact absurd (c_27.symm.trans c_38) (by decide)
                | exact absurd ((nI_leI (a := 5) (b := o) (by omega) (by omega)).mp c_32) (by omega)
                | (rw [pz_f, if_neg c_38, if_pos c_27, if_neg s_58] at h0; exact h0 rfl _ j1_58 e1_58)
          · skip
            have hlt : k + 1 ≤ len := pz_b_in (R := R) (u := 0) (fun z9 => by first | exact absurd (c_38.symm.trans z9) (by decide))
            refine zz_aload_0 dX5_readOperand_41 ?_
            refine zz_iload_1 dX5_readOperand_42 ?_
            refine zz_iconst (1) dX5_readOperand_43 (by decide) ?_
            refine zz_iadd dX5_readOperand_44 ?_
            rw [nI_1]
            refine zz_callV1i cv_X5_76 rfl (Nat.lt_of_lt_of_le (by decide) hn) (Nat.le_of_ble_eq_true rfl) (by decide) (by decide) dX5_readOperand_45 (t_X5_readNot (u := 0) hn hr (by decide) hl5 hen hby hok hln hfac (by omega) hlt hcs (fun s_45 => ⟨_, rfl, ?_⟩) (fun s_45 g1_45 j1_45 e1_45 => ⟨_, rfl, ?_⟩))
            · skip
              refine zz_if_eq 68 dX5_readOperand_48 (by decide) (fun h => absurd h (by decide)) (fun _ => ?_)
              refine zz_goto 64 dX5_readOperand_51 (by decide) ?_
              refine zz_iconst (1) dX5_readOperand_64 (by decide) ?_
              refine zz_goto 69 dX5_readOperand_65 (by decide) ?_
              refine zz_zret rfl (by rfl) dX5_readOperand_69 (by decide) (by decide) ?_
              first
                | exact absurd c_38 c_21
                | exact absurd c_21 c_38
                | exact absurd (c_27.symm.trans c_38) (by decide)
                | exact absurd ((nI_leI (a := 5) (b := o) (by omega) (by omega)).mp c_32) (by omega)
                | (rw [pz_f, if_pos c_38, if_pos s_45] at h1; exact h1 rfl)
            · skip
              refine zz_if_eq 68 dX5_readOperand_48 (by decide) (fun _ => ?_) (fun h => absurd h (by decide))
              refine zz_iconst (0) dX5_readOperand_68 (by decide) ?_
              refine zz_zret rfl (by rfl) dX5_readOperand_69 (by decide) (by decide) ?_
              first
                | exact absurd c_38 c_21
                | exact absurd c_21 c_38
                | exact absurd (c_27.symm.trans c_38) (by decide)
                | exact absurd ((nI_leI (a := 5) (b := o) (by omega) (by omega)).mp c_32) (by omega)
                | (rw [pz_f, if_pos c_38, if_neg (by rw [s_45]; decide)] at h0; exact h0 rfl _ j1_45 e1_45)

theorem a_X5_readOperand0 {C : zz_C} {n : Nat} {g : zz_G} {r : zz_R} {R : Nat → Int32} {len : Nat} (hn : 60 ≤ n) (hr : xr r) (hl5 : len ≤ 50) (hen : g 37 3 = nI len) (hby : ∀ j, j < len → ∃ t : Nat, t < 256 ∧ R (176 + 50 * 0 + j) = nI t ∧ g 999 j = nI t) (hnm : r 37 4 = some (1000000 + (10 + 0))) {x y z : Int32} : ∀ i, i ≤ 5 → rz_S C mi_X5_readOperand [.int (nI (5 - i))] (5 + 8 * i) g r n len (pz_f (pz_b R 0 len) 0 x y z i) ∧ rz_S C mi_X5_readLevel [.int 0, .int (nI (5 - i))] (5 + 8 * i + 6) g r n len (pz_up (pz_b R 0 len) (pz_f (pz_b R 0 len) 0 x y z i) 5) := by
  have up : ∀ (i D o : Nat), rz_S C mi_X5_readOperand [.int (nI o)] D g r n len (pz_f (pz_b R 0 len) 0 x y z i) → rz_S C mi_X5_readLevel [.int 0, .int (nI o)] (D + 6) g r n len (pz_up (pz_b R 0 len) (pz_f (pz_b R 0 len) 0 x y z i) 5) := by
    intro i D o h
    have k0 := pz_f_ok (R := R) (u := 0) (len := len) (x := x) (y := y) (z := z) i
    have l0 := pz_f_ln (b := pz_b R 0 len) (u := 0) (x := x) (y := y) (z := z) i
    have k1 := s5_X5_readLevel hn h
    have k2 := s_X5_readLevel (u := 0) hn hr (by decide) hl5 hen hby (lv := 4) (by decide) k0 l0 k1
    have k3 := s_X5_readLevel (u := 0) hn hr (by decide) hl5 hen hby (lv := 3) (by decide) (pz_up_ok k0 1) (pz_up_ln l0 1) k2
    have k4 := s_X5_readLevel (u := 0) hn hr (by decide) hl5 hen hby (lv := 2) (by decide) (pz_up_ok k0 2) (pz_up_ln l0 2) k3
    have k5 := s_X5_readLevel (u := 0) hn hr (by decide) hl5 hen hby (lv := 1) (by decide) (pz_up_ok k0 3) (pz_up_ln l0 3) k4
    exact s_X5_readLevel (u := 0) hn hr (by decide) hl5 hen hby (lv := 0) (by decide) (pz_up_ok k0 4) (pz_up_ln l0 4) k5
  intro i
  induction i with
  | zero => intro _; exact ⟨z_X5_readOperand0 hn hr hl5 hen hby hnm, up 0 5 5 (z_X5_readOperand0 hn hr hl5 hen hby hnm)⟩
  | succ i ih =>
    intro hi
    obtain ⟨h1, h2⟩ := ih (by omega)
    rw [show 5 - i = (5 - (i + 1)) + 1 by omega] at h1 h2
    have h3 := c_X5_readOperand0 hn hr hl5 hen hby hnm (by omega) h1 h2
    rw [show 5 + 8 * i + 8 = 5 + 8 * (i + 1) by omega] at h3
    exact ⟨h3, up (i + 1) _ _ h3⟩

set_option maxRecDepth 100000 in
set_option maxHeartbeats 4000000 in
theorem z_X5_readOperand1 {C : zz_C} {n : Nat} {g : zz_G} {r : zz_R} {R : Nat → Int32} {len : Nat} (hn : 60 ≤ n) (hr : xr r) (hl5 : len ≤ 50) (hen : g 37 3 = nI len) (hby : ∀ j, j < len → ∃ t : Nat, t < 256 ∧ R (176 + 50 * 1 + j) = nI t ∧ g 999 j = nI t) (hnm : r 37 4 = some (1000000 + (10 + 1))) {x y z : Int32} : rz_S C mi_X5_readOperand [.int 5] 5 g r n len (pz_f (pz_b R 1 len) 1 x y z 0) := by
  intro d0 k cs Q hd hk hcs h1 h0
  obtain ⟨d, rfl⟩ : ∃ e, d0 = e + 5 := ⟨d0 - 5, by omega⟩
  refine zz_T.of [some (.ref 37), some (.int 5), none, none] (by decide +kernel) rfl (Nat.le_of_ble_eq_true rfl) ?_
  refine zz_aload_0 dX5_readOperand_0 ?_
  refine zz_callV0i cv_X5_58 rfl (Nat.lt_of_lt_of_le (by decide) hn) (Nat.le_of_ble_eq_true rfl) (by decide) (by decide) dX5_readOperand_1 (t_X5_next (u := 1) hn hr (by decide) hl5 hen hby (k := k) hk ⟨_, rfl, ?_⟩)
  refine zz_istore_2 dX5_readOperand_4 rfl rfl ?_
  refine zz_iload_2 dX5_readOperand_5 ?_
  refine zz_callS1i cs_X5_70 (Nat.le_of_ble_eq_true rfl) (by decide) (by decide) dX5_readOperand_6 (t_X5_isDigit (fun a_6 b_6 => ⟨_, rfl, ?_⟩) (fun o_6 => ⟨_, rfl, ?_⟩))
  · skip
    refine zz_if_eq 18 dX5_readOperand_9 (by decide) (fun h => absurd h (by decide)) (fun _ => ?_)
    refine zz_aload_0 dX5_readOperand_12 ?_
    have hlt : k < len := pz_b_in fun z9 => a_6 (by rw [z9]; decide)
    refine zz_callV0v cv_X5_73 rfl (Nat.lt_of_lt_of_le (by decide) hn) (Nat.le_of_ble_eq_true rfl) (by decide) (by decide) dX5_readOperand_13 (t_X5_readNumber (u := 1) hn hr (by decide) hl5 hen hby hk (by omega) ⟨rfl, ?_⟩)
    refine zz_iconst (1) dX5_readOperand_16 (by decide) ?_
    refine zz_zret rfl (by rfl) dX5_readOperand_17 (by decide) (by decide) ?_
    have n33 : ¬ pz_b R 1 len k = 33 := fun e => a_6 (by rw [e]; decide)
    have n40 : ¬ pz_b R 1 len k = 40 := fun e => a_6 (by rw [e]; decide)
    rw [pz_f, if_neg (fun z9 => z9.elim n33 n40), pz_base, if_neg (fun z9 => z9.elim a_6 b_6)] at h1
    exact h1 rfl
  · skip
    refine zz_if_eq 18 dX5_readOperand_9 (by decide) (fun _ => ?_) (fun h => absurd h (by decide))
    refine zz_iload_2 dX5_readOperand_18 ?_
    refine zz_bipush (33) dX5_readOperand_19 (by decide) ?_
    refine zz_icmp_eq 30 dX5_readOperand_21 (by decide) (fun c_21 => ?_) (fun c_21 => ?_)
    · skip
      refine zz_iload_1 dX5_readOperand_30 ?_
      refine zz_iconst (5) dX5_readOperand_31 (by decide) ?_
      refine zz_icmp_ge 68 dX5_readOperand_32 (by decide) (fun c_32 => ?_) (fun c_32 => ?_)
      · skip
        refine zz_iconst (0) dX5_readOperand_68 (by decide) ?_
        refine zz_zret rfl (by rfl) dX5_readOperand_69 (by decide) (by decide) ?_
        first
          | exact absurd (show (5 : Int32) ≤ 5 by decide) c_32
          | (rw [pz_f, if_pos (by first | exact Or.inl c_21 | exact Or.inr c_27)] at h0; exact h0 rfl _ rd_j (rd_k _ _ _))
      · skip
        exact absurd (show (5 : Int32) ≤ 5 by decide) c_32
    · skip
      refine zz_iload_2 dX5_readOperand_24 ?_
      refine zz_bipush (40) dX5_readOperand_25 (by decide) ?_
      refine zz_icmp_ne 70 dX5_readOperand_27 (by decide) (fun c_27 => ?_) (fun c_27 => ?_)
      · skip
        refine zz_iload_2 dX5_readOperand_70 ?_
        refine zz_if_ge 78 dX5_readOperand_71 (by decide) (fun c_71 => ?_) (fun c_71 => ?_)
        · skip
          refine zz_aload_0 dX5_readOperand_78 ?_
          refine zz_getR fl_X5_31 rfl rfl (Nat.lt_of_lt_of_le (by decide) hn) hnm dX5_readOperand_79 ?_
          refine zz_iload_2 dX5_readOperand_82 ?_
          have hlt : k < len := by
            by_cases hq : k < len
            · exact hq
            · rw [pz_b_end (by omega)] at c_71
              exact absurd c_71 (by decide)
          obtain ⟨t, ht, e1, e2⟩ := hby k hlt
          have eb : pz_b R 1 len k = nI t := by rw [pz_b, if_pos hlt, e1]
          rw [eb]
          refine zz_i2c dX5_readOperand_83 ?_
          rw [rn_c ⟨t, ht⟩]
          refine zz_callX1i (i := 1) (by decide) cx_X5_82 (Nat.le_of_ble_eq_true rfl) (by decide) (by decide) dX5_readOperand_84 (t_J0_indexOf_0f7a4_1 t ht ⟨_, rfl, ?_⟩)
          obtain ⟨m9, em9, hm9⟩ := rn_cs (c := nI t) (a0 := 102) (a1 := 103) (a2 := 119)
          rw [em9]
          refine zz_istore_3 dX5_readOperand_87 rfl rfl ?_
          refine zz_iload_3 dX5_readOperand_88 ?_
          refine zz_if_ge 94 dX5_readOperand_89 (by decide) (fun c_89 => ?_) (fun c_89 => ?_)
          · skip
            refine zz_aload_0 dX5_readOperand_94 ?_
            refine zz_dup dX5_readOperand_95 rfl ?_
            refine zz_getI fl_X5_22 rfl rfl (Nat.lt_of_lt_of_le (by decide) hn) dX5_readOperand_96 ?_
            refine zz_iconst (1) dX5_readOperand_99 (by decide) ?_
            refine zz_iadd dX5_readOperand_100 ?_
            refine zz_putI fl_X5_22 rfl rfl (Nat.lt_of_lt_of_le (by decide) hn) dX5_readOperand_101 ?_
            rw [rd_k, nI_1, rd_uk]
            refine zz_aload_0 dX5_readOperand_104 ?_
            refine zz_getR fl_X5_18 rfl rfl (Nat.lt_of_lt_of_le (by decide) hn) (xr_37_1 hr) dX5_readOperand_105 ?_
            refine zz_iconst (-1) dX5_readOperand_108 (by decide) ?_
            refine zz_iload_3 dX5_readOperand_109 ?_
            refine zz_isub dX5_readOperand_110 ?_
            refine zz_callV1v cv_X5_66 rfl (Nat.lt_of_lt_of_le (by decide) hn) (Nat.le_of_ble_eq_true rfl) (by decide) (by decide) dX5_readOperand_111 (t_X8_add hn hr (by omega) ⟨rfl, ?_⟩)
            refine zz_iconst (1) dX5_readOperand_114 (by decide) ?_
            refine zz_zret rfl (by rfl) dX5_readOperand_115 (by decide) (by decide) ?_
            rcases hm9 with ⟨q0, q1⟩ | ⟨q0, q1, q2⟩ | ⟨q0, q1, q2, q3⟩ | ⟨q0, q1, q2, q3⟩
            · rw [← eb] at q1
              rw [pz_f, if_neg (fun z9 => z9.elim c_21 c_27), pz_base, if_pos o_6, show pz_nm 1 0 = 102 from rfl, if_pos q1] at h1
              rw [q0]
              exact h1 rfl
            · rw [← eb] at q1 q2
              rw [pz_f, if_neg (fun z9 => z9.elim c_21 c_27), pz_base, if_pos o_6, show pz_nm 1 0 = 102 from rfl, if_neg q1, show pz_nm 1 1 = 103 from rfl, if_pos q2] at h1
              rw [q0]
              exact h1 rfl
            · rw [← eb] at q1 q2 q3
              rw [pz_f, if_neg (fun z9 => z9.elim c_21 c_27), pz_base, if_pos o_6, show pz_nm 1 0 = 102 from rfl, if_neg q1, show pz_nm 1 1 = 103 from rfl, if_neg q2, show pz_nm 1 2 = 119 from rfl, if_pos q3] at h1
              rw [q0]
              exact h1 rfl
            · rw [q0] at c_89
              exact absurd (show (-1 : Int32) < 0 by decide) (by first | exact Int32.not_lt.mpr c_89 | exact c_89)
          · skip
            refine zz_iconst (0) dX5_readOperand_92 (by decide) ?_
            refine zz_zret rfl (by rfl) dX5_readOperand_93 (by decide) (by decide) ?_
            rcases hm9 with ⟨q0, q1⟩ | ⟨q0, q1, q2⟩ | ⟨q0, q1, q2, q3⟩ | ⟨q0, q1, q2, q3⟩
            · rw [q0] at c_89
              exact absurd c_89 (by decide)
            · rw [q0] at c_89
              exact absurd c_89 (by decide)
            · rw [q0] at c_89
              exact absurd c_89 (by decide)
            · rw [← eb] at q1 q2 q3
              rw [pz_f, if_neg (fun z9 => z9.elim c_21 c_27), pz_base, if_pos o_6, show pz_nm 1 0 = 102 from rfl, if_neg q1, show pz_nm 1 1 = 103 from rfl, if_neg q2, show pz_nm 1 2 = 119 from rfl, if_neg q3] at h0
              exact h0 rfl _ rd_j (rd_k _ _ _)
        · skip
          refine zz_iconst (-1) dX5_readOperand_74 (by decide) ?_
          refine zz_goto 87 dX5_readOperand_75 (by decide) ?_
          refine zz_istore_3 dX5_readOperand_87 rfl rfl ?_
          refine zz_iload_3 dX5_readOperand_88 ?_
          refine zz_if_ge 94 dX5_readOperand_89 (by decide) (fun h => absurd h (by decide)) (fun _ => ?_)
          refine zz_iconst (0) dX5_readOperand_92 (by decide) ?_
          refine zz_zret rfl (by rfl) dX5_readOperand_93 (by decide) (by decide) ?_
          have nb : pz_b R 1 len k = -1 := by
            by_cases hq : k < len
            · obtain ⟨t, ht, e1, e2⟩ := hby k hq
              rw [pz_b, if_pos hq, e1] at c_71
              exact absurd (Int32.not_lt.mp (nI_pos (n := t) (by omega))) c_71
            · exact pz_b_end (by omega)
          rw [pz_f, if_neg (fun z9 => z9.elim c_21 c_27), pz_base, if_pos o_6, show pz_nm 1 0 = 102 from rfl, if_neg (by rw [nb]; decide), show pz_nm 1 1 = 103 from rfl, if_neg (by rw [nb]; decide), show pz_nm 1 2 = 119 from rfl, if_neg (by rw [nb]; decide)] at h0
          exact h0 rfl _ rd_j (rd_k _ _ _)
      · skip
        refine zz_iload_1 dX5_readOperand_30 ?_
        refine zz_iconst (5) dX5_readOperand_31 (by decide) ?_
        refine zz_icmp_ge 68 dX5_readOperand_32 (by decide) (fun c_32 => ?_) (fun c_32 => ?_)
        · skip
          refine zz_iconst (0) dX5_readOperand_68 (by decide) ?_
          refine zz_zret rfl (by rfl) dX5_readOperand_69 (by decide) (by decide) ?_
          first
            | exact absurd (show (5 : Int32) ≤ 5 by decide) c_32
            | (rw [pz_f, if_pos (by first | exact Or.inl c_21 | exact Or.inr c_27)] at h0; exact h0 rfl _ rd_j (rd_k _ _ _))
        · skip
          exact absurd (show (5 : Int32) ≤ 5 by decide) c_32

set_option maxRecDepth 100000 in
set_option maxHeartbeats 4000000 in
theorem c_X5_readOperand1 {C : zz_C} {n : Nat} {g : zz_G} {r : zz_R} {R : Nat → Int32} {len : Nat} (hn : 60 ≤ n) (hr : xr r) (hl5 : len ≤ 50) (hen : g 37 3 = nI len) (hby : ∀ j, j < len → ∃ t : Nat, t < 256 ∧ R (176 + 50 * 1 + j) = nI t ∧ g 999 j = nI t) (hnm : r 37 4 = some (1000000 + (10 + 1))) {x y z : Int32} {i D o : Nat} (ho : o < 5) (hfac : rz_S C mi_X5_readOperand [.int (nI (o + 1))] D g r n len (pz_f (pz_b R 1 len) 1 x y z i)) (hwh : rz_S C mi_X5_readLevel [.int 0, .int (nI (o + 1))] (D + 6) g r n len (pz_up (pz_b R 1 len) (pz_f (pz_b R 1 len) 1 x y z i) 5)) : rz_S C mi_X5_readOperand [.int (nI o)] (D + 8) g r n len (pz_f (pz_b R 1 len) 1 x y z (i + 1)) := by
  intro d0 k cs Q hd hk hcs h1 h0
  have hok := pz_f_ok (R := R) (u := 1) (len := len) (x := x) (y := y) (z := z) i
  have hok5 := pz_up_ok (R := R) (u := 1) hok 5
  have hln := pz_f_ln (b := pz_b R 1 len) (u := 1) (x := x) (y := y) (z := z) i
  obtain ⟨d, rfl⟩ : ∃ e, d0 = e + 8 := ⟨d0 - 8, by omega⟩
  refine zz_T.of [some (.ref 37), some (.int (nI o)), none, none] (by decide +kernel) rfl (Nat.le_of_ble_eq_true rfl) ?_
  refine zz_aload_0 dX5_readOperand_0 ?_
  refine zz_callV0i cv_X5_58 rfl (Nat.lt_of_lt_of_le (by decide) hn) (Nat.le_of_ble_eq_true rfl) (by decide) (by decide) dX5_readOperand_1 (t_X5_next (u := 1) hn hr (by decide) hl5 hen hby (k := k) hk ⟨_, rfl, ?_⟩)
  refine zz_istore_2 dX5_readOperand_4 rfl rfl ?_
  refine zz_iload_2 dX5_readOperand_5 ?_
  refine zz_callS1i cs_X5_70 (Nat.le_of_ble_eq_true rfl) (by decide) (by decide) dX5_readOperand_6 (t_X5_isDigit (fun a_6 b_6 => ⟨_, rfl, ?_⟩) (fun o_6 => ⟨_, rfl, ?_⟩))
  · skip
    refine zz_if_eq 18 dX5_readOperand_9 (by decide) (fun h => absurd h (by decide)) (fun _ => ?_)
    refine zz_aload_0 dX5_readOperand_12 ?_
    have hlt : k < len := pz_b_in fun z9 => a_6 (by rw [z9]; decide)
    refine zz_callV0v cv_X5_73 rfl (Nat.lt_of_lt_of_le (by decide) hn) (Nat.le_of_ble_eq_true rfl) (by decide) (by decide) dX5_readOperand_13 (t_X5_readNumber (u := 1) hn hr (by decide) hl5 hen hby hk (by omega) ⟨rfl, ?_⟩)
    refine zz_iconst (1) dX5_readOperand_16 (by decide) ?_
    refine zz_zret rfl (by rfl) dX5_readOperand_17 (by decide) (by decide) ?_
    have n33 : ¬ pz_b R 1 len k = 33 := fun e => a_6 (by rw [e]; decide)
    have n40 : ¬ pz_b R 1 len k = 40 := fun e => a_6 (by rw [e]; decide)
    rw [pz_f, if_neg n33, if_neg n40, pz_base, if_neg (fun z9 => z9.elim a_6 b_6)] at h1
    exact h1 rfl
  · skip
    refine zz_if_eq 18 dX5_readOperand_9 (by decide) (fun _ => ?_) (fun h => absurd h (by decide))
    refine zz_iload_2 dX5_readOperand_18 ?_
    refine zz_bipush (33) dX5_readOperand_19 (by decide) ?_
    refine zz_icmp_eq 30 dX5_readOperand_21 (by decide) (fun c_21 => ?_) (fun c_21 => ?_)
    · skip
      refine zz_iload_1 dX5_readOperand_30 ?_
      refine zz_iconst (5) dX5_readOperand_31 (by decide) ?_
      refine zz_icmp_ge 68 dX5_readOperand_32 (by decide) (fun c_32 => ?_) (fun c_32 => ?_)
      · skip
        refine zz_iconst (0) dX5_readOperand_68 (by decide) ?_
        refine zz_zret rfl (by rfl) dX5_readOperand_69 (by decide) (by decide) ?_
        exact absurd ((nI_leI (a := 5) (b := o) (by omega) (by omega)).mp c_32) (by omega)
      · skip
        refine zz_iload_2 dX5_readOperand_35 ?_
        refine zz_bipush (33) dX5_readOperand_36 (by decide) ?_
        refine zz_icmp_ne 54 dX5_readOperand_38 (by decide) (fun c_38 => ?_) (fun c_38 => ?_)
        · skip
          have hlt : k + 1 ≤ len := pz_b_in (R := R) (u := 1) (fun z9 => by first | exact absurd (c_21.symm.trans z9) (by decide) | exact absurd (c_27.symm.trans z9) (by decide))
          refine zz_aload_0 dX5_readOperand_54 ?_
          refine zz_iload_1 dX5_readOperand_55 ?_
          refine zz_iconst (1) dX5_readOperand_56 (by decide) ?_
          refine zz_iadd dX5_readOperand_57 ?_
          rw [nI_1]
          refine zz_callV1i cv_X5_79 rfl (Nat.lt_of_lt_of_le (by decide) hn) (Nat.le_of_ble_eq_true rfl) (by decide) (by decide) dX5_readOperand_58 (t_X5_readBracket (u := 1) hn hr (by decide) hl5 hen hby hok5 hwh (by omega) hlt hcs (fun s_58 t_58 => ⟨_, rfl, ?_⟩) (fun s_58 g1_58 j1_58 e1_58 => ⟨_, rfl, ?_⟩))
          · skip
            refine zz_if_eq 68 dX5_readOperand_61 (by decide) (fun h => absurd h (by decide)) (fun _ => ?_)
            refine zz_iconst (1) dX5_readOperand_64 (by decide) ?_
            refine zz_goto 69 dX5_readOperand_65 (by decide) ?_
            refine zz_zret rfl (by rfl) dX5_readOperand_69 (by decide) (by decide) ?_
            first
              | exact absurd c_38 c_21
              | exact absurd c_21 c_38
              | exact absurd (c_27.symm.trans c_38) (by decide)
              | exact absurd ((nI_leI (a := 5) (b := o) (by omega) (by omega)).mp c_32) (by omega)
              | (rw [pz_f, if_neg c_38, if_pos c_27, if_pos ⟨s_58, t_58⟩] at h1; exact h1 rfl)
          · skip
            refine zz_if_eq 68 dX5_readOperand_61 (by decide) (fun _ => ?_) (fun h => absurd h (by decide))
            refine zz_iconst (0) dX5_readOperand_68 (by decide) ?_
            refine zz_zret rfl (by rfl) dX5_readOperand_69 (by decide) (by decide) ?_
            first
              | exact absurd c_38 c_21
              | exact absurd c_21 c_38
              | exact absurd (c_27.symm.trans c_38) (by decide)
              | exact absurd ((nI_leI (a := 5) (b := o) (by omega) (by omega)).mp c_32) (by omega)
              | (rw [pz_f, if_neg c_38, if_pos c_27, if_neg s_58] at h0; exact h0 rfl _ j1_58 e1_58)
        · skip
          have hlt : k + 1 ≤ len := pz_b_in (R := R) (u := 1) (fun z9 => by first | exact absurd (c_38.symm.trans z9) (by decide))
          refine zz_aload_0 dX5_readOperand_41 ?_
          refine zz_iload_1 dX5_readOperand_42 ?_
          refine zz_iconst (1) dX5_readOperand_43 (by decide) ?_
          refine zz_iadd dX5_readOperand_44 ?_
          rw [nI_1]
          refine zz_callV1i cv_X5_76 rfl (Nat.lt_of_lt_of_le (by decide) hn) (Nat.le_of_ble_eq_true rfl) (by decide) (by decide) dX5_readOperand_45 (t_X5_readNot (u := 1) hn hr (by decide) hl5 hen hby hok hln hfac (by omega) hlt hcs (fun s_45 => ⟨_, rfl, ?_⟩) (fun s_45 g1_45 j1_45 e1_45 => ⟨_, rfl, ?_⟩))
          · skip
            refine zz_if_eq 68 dX5_readOperand_48 (by decide) (fun h => absurd h (by decide)) (fun _ => ?_)
            refine zz_goto 64 dX5_readOperand_51 (by decide) ?_
            refine zz_iconst (1) dX5_readOperand_64 (by decide) ?_
            refine zz_goto 69 dX5_readOperand_65 (by decide) ?_
            refine zz_zret rfl (by rfl) dX5_readOperand_69 (by decide) (by decide) ?_
            first
              | exact absurd c_38 c_21
              | exact absurd c_21 c_38
              | exact absurd (c_27.symm.trans c_38) (by decide)
              | exact absurd ((nI_leI (a := 5) (b := o) (by omega) (by omega)).mp c_32) (by omega)
              | (rw [pz_f, if_pos c_38, if_pos s_45] at h1; exact h1 rfl)
          · skip
            refine zz_if_eq 68 dX5_readOperand_48 (by decide) (fun _ => ?_) (fun h => absurd h (by decide))
            refine zz_iconst (0) dX5_readOperand_68 (by decide) ?_
            refine zz_zret rfl (by rfl) dX5_readOperand_69 (by decide) (by decide) ?_
            first
              | exact absurd c_38 c_21
              | exact absurd c_21 c_38
              | exact absurd (c_27.symm.trans c_38) (by decide)
              | exact absurd ((nI_leI (a := 5) (b := o) (by omega) (by omega)).mp c_32) (by omega)
              | (rw [pz_f, if_pos c_38, if_neg (by rw [s_45]; decide)] at h0; exact h0 rfl _ j1_45 e1_45)
    · skip
      refine zz_iload_2 dX5_readOperand_24 ?_
      refine zz_bipush (40) dX5_readOperand_25 (by decide) ?_
      refine zz_icmp_ne 70 dX5_readOperand_27 (by decide) (fun c_27 => ?_) (fun c_27 => ?_)
      · skip
        refine zz_iload_2 dX5_readOperand_70 ?_
        refine zz_if_ge 78 dX5_readOperand_71 (by decide) (fun c_71 => ?_) (fun c_71 => ?_)
        · skip
          refine zz_aload_0 dX5_readOperand_78 ?_
          refine zz_getR fl_X5_31 rfl rfl (Nat.lt_of_lt_of_le (by decide) hn) hnm dX5_readOperand_79 ?_
          refine zz_iload_2 dX5_readOperand_82 ?_
          have hlt : k < len := by
            by_cases hq : k < len
            · exact hq
            · rw [pz_b_end (by omega)] at c_71
              exact absurd c_71 (by decide)
          obtain ⟨t, ht, e1, e2⟩ := hby k hlt
          have eb : pz_b R 1 len k = nI t := by rw [pz_b, if_pos hlt, e1]
          rw [eb]
          refine zz_i2c dX5_readOperand_83 ?_
          rw [rn_c ⟨t, ht⟩]
          refine zz_callX1i (i := 1) (by decide) cx_X5_82 (Nat.le_of_ble_eq_true rfl) (by decide) (by decide) dX5_readOperand_84 (t_J0_indexOf_0f7a4_1 t ht ⟨_, rfl, ?_⟩)
          obtain ⟨m9, em9, hm9⟩ := rn_cs (c := nI t) (a0 := 102) (a1 := 103) (a2 := 119)
          rw [em9]
          refine zz_istore_3 dX5_readOperand_87 rfl rfl ?_
          refine zz_iload_3 dX5_readOperand_88 ?_
          refine zz_if_ge 94 dX5_readOperand_89 (by decide) (fun c_89 => ?_) (fun c_89 => ?_)
          · skip
            refine zz_aload_0 dX5_readOperand_94 ?_
            refine zz_dup dX5_readOperand_95 rfl ?_
            refine zz_getI fl_X5_22 rfl rfl (Nat.lt_of_lt_of_le (by decide) hn) dX5_readOperand_96 ?_
            refine zz_iconst (1) dX5_readOperand_99 (by decide) ?_
            refine zz_iadd dX5_readOperand_100 ?_
            refine zz_putI fl_X5_22 rfl rfl (Nat.lt_of_lt_of_le (by decide) hn) dX5_readOperand_101 ?_
            rw [rd_k, nI_1, rd_uk]
            refine zz_aload_0 dX5_readOperand_104 ?_
            refine zz_getR fl_X5_18 rfl rfl (Nat.lt_of_lt_of_le (by decide) hn) (xr_37_1 hr) dX5_readOperand_105 ?_
            refine zz_iconst (-1) dX5_readOperand_108 (by decide) ?_
            refine zz_iload_3 dX5_readOperand_109 ?_
            refine zz_isub dX5_readOperand_110 ?_
            refine zz_callV1v cv_X5_66 rfl (Nat.lt_of_lt_of_le (by decide) hn) (Nat.le_of_ble_eq_true rfl) (by decide) (by decide) dX5_readOperand_111 (t_X8_add hn hr (by omega) ⟨rfl, ?_⟩)
            refine zz_iconst (1) dX5_readOperand_114 (by decide) ?_
            refine zz_zret rfl (by rfl) dX5_readOperand_115 (by decide) (by decide) ?_
            rcases hm9 with ⟨q0, q1⟩ | ⟨q0, q1, q2⟩ | ⟨q0, q1, q2, q3⟩ | ⟨q0, q1, q2, q3⟩
            · rw [← eb] at q1
              rw [pz_f, if_neg c_21, if_neg c_27, pz_base, if_pos o_6, show pz_nm 1 0 = 102 from rfl, if_pos q1] at h1
              rw [q0]
              exact h1 rfl
            · rw [← eb] at q1 q2
              rw [pz_f, if_neg c_21, if_neg c_27, pz_base, if_pos o_6, show pz_nm 1 0 = 102 from rfl, if_neg q1, show pz_nm 1 1 = 103 from rfl, if_pos q2] at h1
              rw [q0]
              exact h1 rfl
            · rw [← eb] at q1 q2 q3
              rw [pz_f, if_neg c_21, if_neg c_27, pz_base, if_pos o_6, show pz_nm 1 0 = 102 from rfl, if_neg q1, show pz_nm 1 1 = 103 from rfl, if_neg q2, show pz_nm 1 2 = 119 from rfl, if_pos q3] at h1
              rw [q0]
              exact h1 rfl
            · rw [q0] at c_89
              exact absurd (show (-1 : Int32) < 0 by decide) (by first | exact Int32.not_lt.mpr c_89 | exact c_89)
          · skip
            refine zz_iconst (0) dX5_readOperand_92 (by decide) ?_
            refine zz_zret rfl (by rfl) dX5_readOperand_93 (by decide) (by decide) ?_
            rcases hm9 with ⟨q0, q1⟩ | ⟨q0, q1, q2⟩ | ⟨q0, q1, q2, q3⟩ | ⟨q0, q1, q2, q3⟩
            · rw [q0] at c_89
              exact absurd c_89 (by decide)
            · rw [q0] at c_89
              exact absurd c_89 (by decide)
            · rw [q0] at c_89
              exact absurd c_89 (by decide)
            · rw [← eb] at q1 q2 q3
              rw [pz_f, if_neg c_21, if_neg c_27, pz_base, if_pos o_6, show pz_nm 1 0 = 102 from rfl, if_neg q1, show pz_nm 1 1 = 103 from rfl, if_neg q2, show pz_nm 1 2 = 119 from rfl, if_neg q3] at h0
              exact h0 rfl _ rd_j (rd_k _ _ _)
        · skip
          refine zz_iconst (-1) dX5_readOperand_74 (by decide) ?_
          refine zz_goto 87 dX5_readOperand_75 (by decide) ?_
          refine zz_istore_3 dX5_readOperand_87 rfl rfl ?_
          refine zz_iload_3 dX5_readOperand_88 ?_
          refine zz_if_ge 94 dX5_readOperand_89 (by decide) (fun h => absurd h (by decide)) (fun _ => ?_)
          refine zz_iconst (0) dX5_readOperand_92 (by decide) ?_
          refine zz_zret rfl (by rfl) dX5_readOperand_93 (by decide) (by decide) ?_
          have nb : pz_b R 1 len k = -1 := by
            by_cases hq : k < len
            · obtain ⟨t, ht, e1, e2⟩ := hby k hq
              rw [pz_b, if_pos hq, e1] at c_71
              exact absurd (Int32.not_lt.mp (nI_pos (n := t) (by omega))) c_71
            · exact pz_b_end (by omega)
          rw [pz_f, if_neg c_21, if_neg c_27, pz_base, if_pos o_6, show pz_nm 1 0 = 102 from rfl, if_neg (by rw [nb]; decide), show pz_nm 1 1 = 103 from rfl, if_neg (by rw [nb]; decide), show pz_nm 1 2 = 119 from rfl, if_neg (by rw [nb]; decide)] at h0
          exact h0 rfl _ rd_j (rd_k _ _ _)
      · skip
        refine zz_iload_1 dX5_readOperand_30 ?_
        refine zz_iconst (5) dX5_readOperand_31 (by decide) ?_
        refine zz_icmp_ge 68 dX5_readOperand_32 (by decide) (fun c_32 => ?_) (fun c_32 => ?_)
        · skip
          refine zz_iconst (0) dX5_readOperand_68 (by decide) ?_
          refine zz_zret rfl (by rfl) dX5_readOperand_69 (by decide) (by decide) ?_
          exact absurd ((nI_leI (a := 5) (b := o) (by omega) (by omega)).mp c_32) (by omega)
        · skip
          refine zz_iload_2 dX5_readOperand_35 ?_
          refine zz_bipush (33) dX5_readOperand_36 (by decide) ?_
          refine zz_icmp_ne 54 dX5_readOperand_38 (by decide) (fun c_38 => ?_) (fun c_38 => ?_)
          · skip
            have hlt : k + 1 ≤ len := pz_b_in (R := R) (u := 1) (fun z9 => by first | exact absurd (c_21.symm.trans z9) (by decide) | exact absurd (c_27.symm.trans z9) (by decide))
            refine zz_aload_0 dX5_readOperand_54 ?_
            refine zz_iload_1 dX5_readOperand_55 ?_
            refine zz_iconst (1) dX5_readOperand_56 (by decide) ?_
            refine zz_iadd dX5_readOperand_57 ?_
            rw [nI_1]
            refine zz_callV1i cv_X5_79 rfl (Nat.lt_of_lt_of_le (by decide) hn) (Nat.le_of_ble_eq_true rfl) (by decide) (by decide) dX5_readOperand_58 (t_X5_readBracket (u := 1) hn hr (by decide) hl5 hen hby hok5 hwh (by omega) hlt hcs (fun s_58 t_58 => ⟨_, rfl, ?_⟩) (fun s_58 g1_58 j1_58 e1_58 => ⟨_, rfl, ?_⟩))
            · skip
              refine zz_if_eq 68 dX5_readOperand_61 (by decide) (fun h => absurd h (by decide)) (fun _ => ?_)
              refine zz_iconst (1) dX5_readOperand_64 (by decide) ?_
              refine zz_goto 69 dX5_readOperand_65 (by decide) ?_
              refine zz_zret rfl (by rfl) dX5_readOperand_69 (by decide) (by decide) ?_
              first
                | exact absurd c_38 c_21
                | exact absurd c_21 c_38
                | exact absurd (c_27.symm.trans c_38) (by decide)
                | exact absurd ((nI_leI (a := 5) (b := o) (by omega) (by omega)).mp c_32) (by omega)
                | (rw [pz_f, if_neg c_38, if_pos c_27, if_pos ⟨s_58, t_58⟩] at h1; exact h1 rfl)
            · skip
              refine zz_if_eq 68 dX5_readOperand_61 (by decide) (fun _ => ?_) (fun h => absurd h (by decide))
              refine zz_iconst (0) dX5_readOperand_68 (by decide) ?_
              refine zz_zret rfl (by rfl) dX5_readOperand_69 (by decide) (by decide) ?_
              first
                | exact absurd c_38 c_21
                | exact absurd c_21 c_38
                | exact absurd (c_27.symm.trans c_38) (by decide)
                | exact absurd ((nI_leI (a := 5) (b := o) (by omega) (by omega)).mp c_32) (by omega)
                | (rw [pz_f, if_neg c_38, if_pos c_27, if_neg s_58] at h0; exact h0 rfl _ j1_58 e1_58)
          · skip
            have hlt : k + 1 ≤ len := pz_b_in (R := R) (u := 1) (fun z9 => by first | exact absurd (c_38.symm.trans z9) (by decide))
            refine zz_aload_0 dX5_readOperand_41 ?_
            refine zz_iload_1 dX5_readOperand_42 ?_
            refine zz_iconst (1) dX5_readOperand_43 (by decide) ?_
            refine zz_iadd dX5_readOperand_44 ?_
            rw [nI_1]
            refine zz_callV1i cv_X5_76 rfl (Nat.lt_of_lt_of_le (by decide) hn) (Nat.le_of_ble_eq_true rfl) (by decide) (by decide) dX5_readOperand_45 (t_X5_readNot (u := 1) hn hr (by decide) hl5 hen hby hok hln hfac (by omega) hlt hcs (fun s_45 => ⟨_, rfl, ?_⟩) (fun s_45 g1_45 j1_45 e1_45 => ⟨_, rfl, ?_⟩))
            · skip
              refine zz_if_eq 68 dX5_readOperand_48 (by decide) (fun h => absurd h (by decide)) (fun _ => ?_)
              refine zz_goto 64 dX5_readOperand_51 (by decide) ?_
              refine zz_iconst (1) dX5_readOperand_64 (by decide) ?_
              refine zz_goto 69 dX5_readOperand_65 (by decide) ?_
              refine zz_zret rfl (by rfl) dX5_readOperand_69 (by decide) (by decide) ?_
              first
                | exact absurd c_38 c_21
                | exact absurd c_21 c_38
                | exact absurd (c_27.symm.trans c_38) (by decide)
                | exact absurd ((nI_leI (a := 5) (b := o) (by omega) (by omega)).mp c_32) (by omega)
                | (rw [pz_f, if_pos c_38, if_pos s_45] at h1; exact h1 rfl)
            · skip
              refine zz_if_eq 68 dX5_readOperand_48 (by decide) (fun _ => ?_) (fun h => absurd h (by decide))
              refine zz_iconst (0) dX5_readOperand_68 (by decide) ?_
              refine zz_zret rfl (by rfl) dX5_readOperand_69 (by decide) (by decide) ?_
              first
                | exact absurd c_38 c_21
                | exact absurd c_21 c_38
                | exact absurd (c_27.symm.trans c_38) (by decide)
                | exact absurd ((nI_leI (a := 5) (b := o) (by omega) (by omega)).mp c_32) (by omega)
                | (rw [pz_f, if_pos c_38, if_neg (by rw [s_45]; decide)] at h0; exact h0 rfl _ j1_45 e1_45)

theorem a_X5_readOperand1 {C : zz_C} {n : Nat} {g : zz_G} {r : zz_R} {R : Nat → Int32} {len : Nat} (hn : 60 ≤ n) (hr : xr r) (hl5 : len ≤ 50) (hen : g 37 3 = nI len) (hby : ∀ j, j < len → ∃ t : Nat, t < 256 ∧ R (176 + 50 * 1 + j) = nI t ∧ g 999 j = nI t) (hnm : r 37 4 = some (1000000 + (10 + 1))) {x y z : Int32} : ∀ i, i ≤ 5 → rz_S C mi_X5_readOperand [.int (nI (5 - i))] (5 + 8 * i) g r n len (pz_f (pz_b R 1 len) 1 x y z i) ∧ rz_S C mi_X5_readLevel [.int 0, .int (nI (5 - i))] (5 + 8 * i + 6) g r n len (pz_up (pz_b R 1 len) (pz_f (pz_b R 1 len) 1 x y z i) 5) := by
  have up : ∀ (i D o : Nat), rz_S C mi_X5_readOperand [.int (nI o)] D g r n len (pz_f (pz_b R 1 len) 1 x y z i) → rz_S C mi_X5_readLevel [.int 0, .int (nI o)] (D + 6) g r n len (pz_up (pz_b R 1 len) (pz_f (pz_b R 1 len) 1 x y z i) 5) := by
    intro i D o h
    have k0 := pz_f_ok (R := R) (u := 1) (len := len) (x := x) (y := y) (z := z) i
    have l0 := pz_f_ln (b := pz_b R 1 len) (u := 1) (x := x) (y := y) (z := z) i
    have k1 := s5_X5_readLevel hn h
    have k2 := s_X5_readLevel (u := 1) hn hr (by decide) hl5 hen hby (lv := 4) (by decide) k0 l0 k1
    have k3 := s_X5_readLevel (u := 1) hn hr (by decide) hl5 hen hby (lv := 3) (by decide) (pz_up_ok k0 1) (pz_up_ln l0 1) k2
    have k4 := s_X5_readLevel (u := 1) hn hr (by decide) hl5 hen hby (lv := 2) (by decide) (pz_up_ok k0 2) (pz_up_ln l0 2) k3
    have k5 := s_X5_readLevel (u := 1) hn hr (by decide) hl5 hen hby (lv := 1) (by decide) (pz_up_ok k0 3) (pz_up_ln l0 3) k4
    exact s_X5_readLevel (u := 1) hn hr (by decide) hl5 hen hby (lv := 0) (by decide) (pz_up_ok k0 4) (pz_up_ln l0 4) k5
  intro i
  induction i with
  | zero => intro _; exact ⟨z_X5_readOperand1 hn hr hl5 hen hby hnm, up 0 5 5 (z_X5_readOperand1 hn hr hl5 hen hby hnm)⟩
  | succ i ih =>
    intro hi
    obtain ⟨h1, h2⟩ := ih (by omega)
    rw [show 5 - i = (5 - (i + 1)) + 1 by omega] at h1 h2
    have h3 := c_X5_readOperand1 hn hr hl5 hen hby hnm (by omega) h1 h2
    rw [show 5 + 8 * i + 8 = 5 + 8 * (i + 1) by omega] at h3
    exact ⟨h3, up (i + 1) _ _ h3⟩
