theorem zz_subI {a b : Nat} (ha : a < 2147483648) (hb : b < 2147483648) : (nI a - nI b).toInt = (a : Int) - b := by
  rw [Int32.toInt_sub, nI_toInt ha, nI_toInt hb]
  apply Int.bmod_eq_of_le
  · omega
  · omega
/-- a stretch of n places from i on lies within z of them -/
theorem zz_fit {z m i : Int32} {z1 : Nat} (hz : z = nI z1) (hz1 : z1 ≤ 40) (hm : ¬ m < 0) (hi : ¬ i < 0) (h : ¬ z - m < i) : ∃ mm ii : Nat, m = nI mm ∧ i = nI ii ∧ ii + mm ≤ z1 := by
  obtain ⟨mm, hmm, em⟩ := nI_of hm
  obtain ⟨ii, hii, ei⟩ := nI_of hi
  refine ⟨mm, ii, em, ei, ?_⟩
  rw [hz, em, ei, Int32.lt_iff_toInt_lt, zz_subI (by omega) hmm, nI_toInt hii] at h
  omega
def sp_mv (S : zz_G) (p q m : Nat) : zz_G := fun a b => if a = 57 ∧ q ≤ b ∧ b < q + m then S 57 (p + (b - q)) else S a b
def sp_mb (S : zz_G) (p m : Nat) : zz_G := fun a b => if a = 58 ∧ b < m then S 57 (p + b) else S a b
theorem sp_mb_0 (S : zz_G) (p : Nat) : sp_mb S p 0 = S := by
  funext a b
  unfold sp_mb
  rw [if_neg (by omega)]
theorem sp_mb_57 (S : zz_G) (p m : Nat) : sp_mb S p m 57 = S 57 := funext fun b => if_neg (by omega)
theorem sp_mb_s (S : zz_G) (p m : Nat) : zz_u (sp_mb S p m) 58 m (S 57 (p + m)) = sp_mb S p (m + 1) := by
  funext a b
  unfold zz_u sp_mb
  by_cases h : a = 58 ∧ b = m
  · obtain ⟨rfl, rfl⟩ := h
    rw [if_pos ⟨rfl, rfl⟩, if_pos (by omega)]
  · rw [if_neg h]
    by_cases h2 : a = 58 ∧ b < m
    · rw [if_pos h2, if_pos (by omega)]
    · rw [if_neg h2, if_neg (by omega)]
/-- the places from q on, so many, get what 58 holds -/
def sp_mc (S : zz_G) (q m : Nat) : zz_G := fun a b => if a = 57 ∧ q ≤ b ∧ b < q + m then S 58 (b - q) else S a b
theorem sp_mc_0 (S : zz_G) (q : Nat) : sp_mc S q 0 = S := by
  funext a b
  unfold sp_mc
  rw [if_neg (by omega)]
theorem sp_mc_58 (S : zz_G) (q m : Nat) : sp_mc S q m 58 = S 58 := funext fun b => if_neg (by omega)
theorem sp_mc_s (S : zz_G) (q m : Nat) : zz_u (sp_mc S q m) 57 (q + m) (S 58 m) = sp_mc S q (m + 1) := by
  funext a b
  unfold zz_u sp_mc
  by_cases h : a = 57 ∧ b = q + m
  · obtain ⟨rfl, rfl⟩ := h
    rw [if_pos ⟨rfl, rfl⟩, if_pos (by omega), show q + m - q = m by omega]
  · rw [if_neg h]
    by_cases h2 : a = 57 ∧ q ≤ b ∧ b < q + m
    · rw [if_pos h2, if_pos (by omega)]
    · rw [if_neg h2, if_neg (by omega)]
theorem sp_mv_F (g : zz_G) (p q m : Nat) : ms_F g (sp_mc (sp_mb g p m) q m) (sp_mv (ms_S g) p q m) := by
  refine ⟨?_, fun k hk => ?_⟩
  · funext a b
    unfold ms_S sp_mc sp_mv sp_mb
    by_cases h2 : a = 57 ∧ q ≤ b ∧ b < q + m
    · obtain ⟨rfl, h3⟩ := h2
      rw [if_pos (show ms_k 57 b = true from rfl), if_pos ⟨rfl, h3⟩, if_pos ⟨rfl, by omega⟩, if_pos ⟨rfl, h3⟩]
      exact (if_pos (show ms_k 57 (p + (b - q)) = true from rfl)).symm
    · rw [if_neg h2, if_neg h2]
      by_cases h3 : ms_k a b = true
      · rw [if_pos h3, if_neg (fun z9 => by rw [z9.1] at h3; exact absurd h3 (by simp [ms_k]))]
        exact (if_pos h3).symm
      · rw [if_neg h3]
        exact (if_neg h3).symm
  · funext b
    show (if k = 57 ∧ q ≤ b ∧ b < q + m then _ else sp_mb g p m k b) = g k b
    rw [if_neg (by omega)]
    exact if_neg (by omega)
def sp_move (S : zz_G) (s i u j m : Int32) : Int32 × zz_G := if sp_nosh s then sp_err S 1 else if sp_nosh u then sp_err S 1 else if S 55 s.toNatClampNeg = 0 then sp_err S 2 else if S 55 u.toNatClampNeg = 0 then sp_err S 2 else if S 55 s.toNatClampNeg = S 55 u.toNatClampNeg then (if m < 0 then sp_err S 1 else if i < 0 then sp_err S 1 else if j < 0 then sp_err S 1 else if S 56 s.toNatClampNeg - m < i then sp_err S 1 else if j ≤ S 56 u.toNatClampNeg - m then (m, sp_mv S (40 * s.toNatClampNeg + i.toNatClampNeg) (40 * u.toNatClampNeg + j.toNatClampNeg) m.toNatClampNeg) else sp_err S 1) else sp_err S 5
set_option maxRecDepth 100000 in
set_option maxHeartbeats 4000000 in
theorem l2_X12_move {C : zz_C} {d n : Nat} {g : zz_G} {r : zz_R} {Q : zz_Q} (hn : 60 ≤ n) (hr : xr r) {v i u j m : Int32} (s1 i1 u1 j1 m1 : Nat) (es1 : v = nI s1) (ei1 : i = nI i1) (eu1 : u = nI u1) (ej1 : j = nI j1) (em1 : m = nI m1) (hs1 : s1 < 4) (hu1 : u1 < 4) (hi1 : i1 + m1 ≤ 40) (hj1 : j1 + m1 ≤ 40) (h : Q (some (.int m)) (sp_mc g (40 * u1 + j1) m1) r n) : ∀ (k : Nat) (q : Nat), q ≤ m1 → m1 - q < k → zz_Z C mi_X12_move (d + 2) 0 0 0 0 156 [some (.ref 50), some (.int v), some (.int i), some (.int u), some (.int j), some (.int m), some (.int (nI q))] [] (sp_mc g (40 * u1 + j1) q) r n Q := by
  intro k
  induction k with
  | zero => intro q hq hk; exact absurd hk (by omega)
  | succ k ih =>
    intro q hq hk
    refine zz_iload_6 dX12_move_156 ?_
    refine zz_iload_5 dX12_move_158 ?_
    refine zz_icmp_ge 191 dX12_move_160 (by decide) (fun c_160 => ?_) (fun c_160 => ?_)
    · skip
      refine zz_iload_5 dX12_move_191 ?_
      refine zz_iret rfl dX12_move_193 (by decide) (by decide) ?_
      rw [em1] at c_160
      have := zz_gei c_160 (by omega) (by omega)
      obtain rfl : q = m1 := by omega
      exact h
    · skip
      refine zz_aload_0 dX12_move_163 ?_
      refine zz_getR fl_X12_28 rfl rfl (Nat.lt_of_lt_of_le (by decide) hn) (xr_50_16 hr) dX12_move_164 ?_
      refine zz_bipush (40) dX12_move_167 (by decide) ?_
      refine zz_iload_3 dX12_move_169 ?_
      refine zz_imul dX12_move_170 ?_
      refine zz_iload_4 dX12_move_171 ?_
      refine zz_iadd dX12_move_173 ?_
      refine zz_iload_6 dX12_move_174 ?_
      refine zz_iadd dX12_move_176 ?_
      refine zz_aload_0 dX12_move_177 ?_
      refine zz_getR fl_X12_31 rfl rfl (Nat.lt_of_lt_of_le (by decide) hn) (xr_50_17 hr) dX12_move_178 ?_
      refine zz_iload_6 dX12_move_181 ?_
      rw [em1] at c_160
      have hlt := zz_lti c_160 (by omega) (by omega)
      refine zz_iaN q rfl (by omega) (by decide) rfl (Nat.lt_of_lt_of_le (by decide) hn) dX12_move_183 ?_
      rw [show sp_mc g (40 * u1 + j1) q 58 = g 58 from sp_mc_58 _ _ _]
      refine zz_isN (40 * u1 + j1 + q) (by rw [eu1, ej1]; show nI 40 * nI u1 + nI j1 + nI q = _; rw [pk_mul, nI_add, nI_add]) (by omega) (by decide) rfl (Nat.lt_of_lt_of_le (by decide) hn) dX12_move_184 ?_
      refine zz_iinc_6 (1) dX12_move_185 rfl rfl (by decide) ?_
      refine zz_goto 156 dX12_move_188 (by decide) ?_
      rw [sp_mc_s, nI_1]
      exact ih (q + 1) (by omega) (by omega)

set_option maxRecDepth 100000 in
set_option maxHeartbeats 4000000 in
theorem l1_X12_move {C : zz_C} {d n : Nat} {g : zz_G} {r : zz_R} {Q : zz_Q} (hn : 60 ≤ n) (hr : xr r) {v i u j m : Int32} (s1 i1 u1 j1 m1 : Nat) (es1 : v = nI s1) (ei1 : i = nI i1) (eu1 : u = nI u1) (ej1 : j = nI j1) (em1 : m = nI m1) (hs1 : s1 < 4) (hu1 : u1 < 4) (hi1 : i1 + m1 ≤ 40) (hj1 : j1 + m1 ≤ 40) (h : zz_Z C mi_X12_move (d + 2) 0 0 0 0 153 [some (.ref 50), some (.int v), some (.int i), some (.int u), some (.int j), some (.int m), some (.int (nI m1))] [] (sp_mb g (40 * s1 + i1) m1) r n Q) : ∀ (k : Nat) (q : Nat), q ≤ m1 → m1 - q < k → zz_Z C mi_X12_move (d + 2) 0 0 0 0 119 [some (.ref 50), some (.int v), some (.int i), some (.int u), some (.int j), some (.int m), some (.int (nI q))] [] (sp_mb g (40 * s1 + i1) q) r n Q := by
  intro k
  induction k with
  | zero => intro q hq hk; exact absurd hk (by omega)
  | succ k ih =>
    intro q hq hk
    refine zz_iload_6 dX12_move_119 ?_
    refine zz_iload_5 dX12_move_121 ?_
    refine zz_icmp_ge 153 dX12_move_123 (by decide) (fun c_123 => ?_) (fun c_123 => ?_)
    · skip
      rw [em1] at c_123
      have := zz_gei c_123 (by omega) (by omega)
      obtain rfl : q = m1 := by omega
      exact h
    · skip
      refine zz_aload_0 dX12_move_126 ?_
      refine zz_getR fl_X12_31 rfl rfl (Nat.lt_of_lt_of_le (by decide) hn) (xr_50_17 hr) dX12_move_127 ?_
      refine zz_iload_6 dX12_move_130 ?_
      refine zz_aload_0 dX12_move_132 ?_
      refine zz_getR fl_X12_28 rfl rfl (Nat.lt_of_lt_of_le (by decide) hn) (xr_50_16 hr) dX12_move_133 ?_
      refine zz_bipush (40) dX12_move_136 (by decide) ?_
      refine zz_iload_1 dX12_move_138 ?_
      refine zz_imul dX12_move_139 ?_
      refine zz_iload_2 dX12_move_140 ?_
      refine zz_iadd dX12_move_141 ?_
      refine zz_iload_6 dX12_move_142 ?_
      refine zz_iadd dX12_move_144 ?_
      rw [em1] at c_123
      have hlt := zz_lti c_123 (by omega) (by omega)
      refine zz_iaN (40 * s1 + i1 + q) (by rw [es1, ei1]; show nI 40 * nI s1 + nI i1 + nI q = _; rw [pk_mul, nI_add, nI_add]) (by omega) (by decide) rfl (Nat.lt_of_lt_of_le (by decide) hn) dX12_move_145 ?_
      rw [show sp_mb g (40 * s1 + i1) q 57 = g 57 from sp_mb_57 _ _ _]
      refine zz_isN q rfl (by omega) (by decide) rfl (Nat.lt_of_lt_of_le (by decide) hn) dX12_move_146 ?_
      refine zz_iinc_6 (1) dX12_move_147 rfl rfl (by decide) ?_
      refine zz_goto 119 dX12_move_150 (by decide) ?_
      rw [sp_mb_s, nI_1]
      exact ih (q + 1) (by omega) (by omega)

set_option maxRecDepth 100000 in
set_option maxHeartbeats 4000000 in
theorem t_X12_move {C : zz_C} {d n : Nat} {g : zz_G} {r : zz_R} {Q : zz_Q} (hn : 60 ≤ n) (hr : xr r) {v i u j m : Int32} (hz : ∀ s : Nat, s < 4 → ∃ z : Nat, z ≤ 40 ∧ g 56 s = nI z) (h : ms_o g r n Q (sp_move (ms_S g) v i u j m)) : zz_T C mi_X12_move (d + 2) 0 0 [.ref 50, .int v, .int i, .int u, .int j, .int m] g r n Q := by
  refine zz_T.of [some (.ref 50), some (.int v), some (.int i), some (.int u), some (.int j), some (.int m), none] (by decide +kernel) rfl (Nat.le_of_ble_eq_true rfl) ?_
  refine zz_iload_1 dX12_move_0 ?_
  refine zz_callS1i cs_X12_191 (Nat.le_of_ble_eq_true rfl) (by decide) (by decide) dX12_move_1 (t_X12_isSheet (fun a_1 b_1 => ⟨_, rfl, ?_⟩) (fun o_1 => ⟨_, rfl, ?_⟩))
  · skip
    refine zz_if_eq 14 dX12_move_4 (by decide) (fun h => absurd h (by decide)) (fun _ => ?_)
    refine zz_iload_3 dX12_move_7 ?_
    refine zz_callS1i cs_X12_191 (Nat.le_of_ble_eq_true rfl) (by decide) (by decide) dX12_move_8 (t_X12_isSheet (fun a_8 b_8 => ⟨_, rfl, ?_⟩) (fun o_8 => ⟨_, rfl, ?_⟩))
    · skip
      refine zz_if_ne 21 dX12_move_11 (by decide) (fun _ => ?_) (fun h => absurd h (by decide))
      refine zz_aload_0 dX12_move_21 ?_
      refine zz_getR fl_X12_22 rfl rfl (Nat.lt_of_lt_of_le (by decide) hn) (xr_50_14 hr) dX12_move_22 ?_
      refine zz_iload_1 dX12_move_25 ?_
      obtain ⟨s1, hs0, hs1, es1⟩ := zz_in0 (lo := 0) (hi := 3) rfl rfl (by decide) (by decide) a_1 b_1
      obtain ⟨u1, hu0, hu1, eu1⟩ := zz_in0 (lo := 0) (hi := 3) rfl rfl (by decide) (by decide) a_8 b_8
      refine zz_iaN s1 es1 (by omega) (by decide) rfl (Nat.lt_of_lt_of_le (by decide) hn) dX12_move_26 ?_
      refine zz_if_eq 39 dX12_move_27 (by decide) (fun c_27 => ?_) (fun c_27 => ?_)
      · skip
        refine zz_aload_0 dX12_move_39 ?_
        refine zz_ldc dX12_move_40 ct_X12_184 ?_
        refine zz_callV1i cv_X12_51 rfl (Nat.lt_of_lt_of_le (by decide) hn) (Nat.le_of_ble_eq_true rfl) (by decide) (by decide) dX12_move_42 (t_X12_errs hn hr 2 (by decide) (by decide) ⟨_, rfl, ?_⟩)
        refine zz_iret rfl dX12_move_45 (by decide) (by decide) ?_
        first
          | (rw [sp_move, if_neg (fun q => q.elim a_1 b_1), if_neg (fun q => q.elim a_8 b_8), show v.toNatClampNeg = s1 from by rw [es1]; exact ix_w (by omega), show u.toNatClampNeg = u1 from by rw [eu1]; exact ix_w (by omega), ms_55, ms_55, if_pos c_27] at h; exact ms_er (by decide) h)
          | (rw [sp_move, if_neg (fun q => q.elim a_1 b_1), if_neg (fun q => q.elim a_8 b_8), show v.toNatClampNeg = s1 from by rw [es1]; exact ix_w (by omega), show u.toNatClampNeg = u1 from by rw [eu1]; exact ix_w (by omega), ms_55, ms_55, if_neg c_27, if_pos c_36] at h; exact ms_er (by decide) h)
      · skip
        refine zz_aload_0 dX12_move_30 ?_
        refine zz_getR fl_X12_22 rfl rfl (Nat.lt_of_lt_of_le (by decide) hn) (xr_50_14 hr) dX12_move_31 ?_
        refine zz_iload_3 dX12_move_34 ?_
        refine zz_iaN u1 eu1 (by omega) (by decide) rfl (Nat.lt_of_lt_of_le (by decide) hn) dX12_move_35 ?_
        refine zz_if_ne 46 dX12_move_36 (by decide) (fun c_36 => ?_) (fun c_36 => ?_)
        · skip
          refine zz_aload_0 dX12_move_46 ?_
          refine zz_getR fl_X12_22 rfl rfl (Nat.lt_of_lt_of_le (by decide) hn) (xr_50_14 hr) dX12_move_47 ?_
          refine zz_iload_1 dX12_move_50 ?_
          refine zz_iaN s1 es1 (by omega) (by decide) rfl (Nat.lt_of_lt_of_le (by decide) hn) dX12_move_51 ?_
          refine zz_aload_0 dX12_move_52 ?_
          refine zz_getR fl_X12_22 rfl rfl (Nat.lt_of_lt_of_le (by decide) hn) (xr_50_14 hr) dX12_move_53 ?_
          refine zz_iload_3 dX12_move_56 ?_
          refine zz_iaN u1 eu1 (by omega) (by decide) rfl (Nat.lt_of_lt_of_le (by decide) hn) dX12_move_57 ?_
          refine zz_icmp_eq 68 dX12_move_58 (by decide) (fun c_58 => ?_) (fun c_58 => ?_)
          · skip
            refine zz_iload_5 dX12_move_68 ?_
            refine zz_if_lt 109 dX12_move_70 (by decide) (fun c_70 => ?_) (fun c_70 => ?_)
            · skip
              refine zz_aload_0 dX12_move_109 ?_
              refine zz_ldc dX12_move_110 ct_X12_50 ?_
              refine zz_callV1i cv_X12_51 rfl (Nat.lt_of_lt_of_le (by decide) hn) (Nat.le_of_ble_eq_true rfl) (by decide) (by decide) dX12_move_112 (t_X12_errs hn hr 1 (by decide) (by decide) ⟨_, rfl, ?_⟩)
              refine zz_iret rfl dX12_move_115 (by decide) (by decide) ?_
              rw [sp_move, if_neg (fun q => q.elim a_1 b_1), if_neg (fun q => q.elim a_8 b_8), show v.toNatClampNeg = s1 from by rw [es1]; exact ix_w (by omega), show u.toNatClampNeg = u1 from by rw [eu1]; exact ix_w (by omega), ms_55, ms_55, if_neg c_27, if_neg c_36, if_pos c_58, ms_56, ms_56, if_pos c_70] at h
              exact ms_er (by decide) h
            · skip
              refine zz_iload_2 dX12_move_73 ?_
              refine zz_if_lt 109 dX12_move_74 (by decide) (fun c_74 => ?_) (fun c_74 => ?_)
              · skip
                refine zz_aload_0 dX12_move_109 ?_
                refine zz_ldc dX12_move_110 ct_X12_50 ?_
                refine zz_callV1i cv_X12_51 rfl (Nat.lt_of_lt_of_le (by decide) hn) (Nat.le_of_ble_eq_true rfl) (by decide) (by decide) dX12_move_112 (t_X12_errs hn hr 1 (by decide) (by decide) ⟨_, rfl, ?_⟩)
                refine zz_iret rfl dX12_move_115 (by decide) (by decide) ?_
                rw [sp_move, if_neg (fun q => q.elim a_1 b_1), if_neg (fun q => q.elim a_8 b_8), show v.toNatClampNeg = s1 from by rw [es1]; exact ix_w (by omega), show u.toNatClampNeg = u1 from by rw [eu1]; exact ix_w (by omega), ms_55, ms_55, if_neg c_27, if_neg c_36, if_pos c_58, ms_56, ms_56, if_neg c_70, if_pos c_74] at h
                exact ms_er (by decide) h
              · skip
                refine zz_iload_4 dX12_move_77 ?_
                refine zz_if_lt 109 dX12_move_79 (by decide) (fun c_79 => ?_) (fun c_79 => ?_)
                · skip
                  refine zz_aload_0 dX12_move_109 ?_
                  refine zz_ldc dX12_move_110 ct_X12_50 ?_
                  refine zz_callV1i cv_X12_51 rfl (Nat.lt_of_lt_of_le (by decide) hn) (Nat.le_of_ble_eq_true rfl) (by decide) (by decide) dX12_move_112 (t_X12_errs hn hr 1 (by decide) (by decide) ⟨_, rfl, ?_⟩)
                  refine zz_iret rfl dX12_move_115 (by decide) (by decide) ?_
                  rw [sp_move, if_neg (fun q => q.elim a_1 b_1), if_neg (fun q => q.elim a_8 b_8), show v.toNatClampNeg = s1 from by rw [es1]; exact ix_w (by omega), show u.toNatClampNeg = u1 from by rw [eu1]; exact ix_w (by omega), ms_55, ms_55, if_neg c_27, if_neg c_36, if_pos c_58, ms_56, ms_56, if_neg c_70, if_neg c_74, if_pos c_79] at h
                  exact ms_er (by decide) h
                · skip
                  refine zz_iload_2 dX12_move_82 ?_
                  refine zz_aload_0 dX12_move_83 ?_
                  refine zz_getR fl_X12_25 rfl rfl (Nat.lt_of_lt_of_le (by decide) hn) (xr_50_15 hr) dX12_move_84 ?_
                  refine zz_iload_1 dX12_move_87 ?_
                  refine zz_iaN s1 es1 (by omega) (by decide) rfl (Nat.lt_of_lt_of_le (by decide) hn) dX12_move_88 ?_
                  refine zz_iload_5 dX12_move_89 ?_
                  refine zz_isub dX12_move_91 ?_
                  refine zz_icmp_gt 109 dX12_move_92 (by decide) (fun c_92 => ?_) (fun c_92 => ?_)
                  · skip
                    refine zz_aload_0 dX12_move_109 ?_
                    refine zz_ldc dX12_move_110 ct_X12_50 ?_
                    refine zz_callV1i cv_X12_51 rfl (Nat.lt_of_lt_of_le (by decide) hn) (Nat.le_of_ble_eq_true rfl) (by decide) (by decide) dX12_move_112 (t_X12_errs hn hr 1 (by decide) (by decide) ⟨_, rfl, ?_⟩)
                    refine zz_iret rfl dX12_move_115 (by decide) (by decide) ?_
                    rw [sp_move, if_neg (fun q => q.elim a_1 b_1), if_neg (fun q => q.elim a_8 b_8), show v.toNatClampNeg = s1 from by rw [es1]; exact ix_w (by omega), show u.toNatClampNeg = u1 from by rw [eu1]; exact ix_w (by omega), ms_55, ms_55, if_neg c_27, if_neg c_36, if_pos c_58, ms_56, ms_56, if_neg c_70, if_neg c_74, if_neg c_79, if_pos c_92] at h
                    exact ms_er (by decide) h
                  · skip
                    refine zz_iload_4 dX12_move_95 ?_
                    refine zz_aload_0 dX12_move_97 ?_
                    refine zz_getR fl_X12_25 rfl rfl (Nat.lt_of_lt_of_le (by decide) hn) (xr_50_15 hr) dX12_move_98 ?_
                    refine zz_iload_3 dX12_move_101 ?_
                    refine zz_iaN u1 eu1 (by omega) (by decide) rfl (Nat.lt_of_lt_of_le (by decide) hn) dX12_move_102 ?_
                    refine zz_iload_5 dX12_move_103 ?_
                    refine zz_isub dX12_move_105 ?_
                    refine zz_icmp_le 116 dX12_move_106 (by decide) (fun c_106 => ?_) (fun c_106 => ?_)
                    · skip
                      refine zz_iconst (0) dX12_move_116 (by decide) ?_
                      refine zz_istore_6 dX12_move_117 rfl rfl ?_
                      rw [sp_move, if_neg (fun q => q.elim a_1 b_1), if_neg (fun q => q.elim a_8 b_8), show v.toNatClampNeg = s1 from by rw [es1]; exact ix_w (by omega), show u.toNatClampNeg = u1 from by rw [eu1]; exact ix_w (by omega), ms_55, ms_55, if_neg c_27, if_neg c_36, if_pos c_58, ms_56, ms_56, if_neg c_70, if_neg c_74, if_neg c_79, if_neg c_92, if_pos c_106] at h
                      obtain ⟨zs, hzs, ezs⟩ := hz s1 (by omega)
                      obtain ⟨zu, hzu, ezu⟩ := hz u1 (by omega)
                      obtain ⟨m1, i1, em1, ei1, hi1⟩ := zz_fit ezs hzs c_70 c_74 c_92
                      obtain ⟨m2, j1, em2, ej1, hj1⟩ := zz_fit ezu hzu c_70 c_79 (Int32.not_lt.mpr c_106)
                      have hm12 : m2 = m1 := by
                        have h9 : m1 < 1000 := by omega
                        have h8 : m2 < 1000 := by omega
                        rw [em1] at em2
                        exact ((nI_eq (by omega) (by omega)).mp em2).symm
                      subst hm12
                      rw [show i.toNatClampNeg = i1 from by rw [ei1]; exact ix_w (by omega), show j.toNatClampNeg = j1 from by rw [ej1]; exact ix_w (by omega), show m.toNatClampNeg = m2 from by rw [em1]; exact ix_w (by omega)] at h
                      rw [← sp_mb_0 g (40 * s1 + i1)]
                      refine l1_X12_move (d := d) hn hr s1 i1 u1 j1 m2 es1 ei1 eu1 ej1 em1 (by omega) (by omega) (by omega) (by omega) ?_ 41 0 (by omega) (by omega)
                      refine zz_iconst (0) dX12_move_153 (by decide) ?_
                      refine zz_istore_6 dX12_move_154 rfl rfl ?_
                      rw [← sp_mc_0 (sp_mb g (40 * s1 + i1) m2) (40 * u1 + j1)]
                      exact l2_X12_move (d := d) hn hr s1 i1 u1 j1 m2 es1 ei1 eu1 ej1 em1 (by omega) (by omega) (by omega) (by omega) (h _ (sp_mv_F g _ _ _)) 41 0 (by omega) (by omega)
                    · skip
                      refine zz_aload_0 dX12_move_109 ?_
                      refine zz_ldc dX12_move_110 ct_X12_50 ?_
                      refine zz_callV1i cv_X12_51 rfl (Nat.lt_of_lt_of_le (by decide) hn) (Nat.le_of_ble_eq_true rfl) (by decide) (by decide) dX12_move_112 (t_X12_errs hn hr 1 (by decide) (by decide) ⟨_, rfl, ?_⟩)
                      refine zz_iret rfl dX12_move_115 (by decide) (by decide) ?_
                      rw [sp_move, if_neg (fun q => q.elim a_1 b_1), if_neg (fun q => q.elim a_8 b_8), show v.toNatClampNeg = s1 from by rw [es1]; exact ix_w (by omega), show u.toNatClampNeg = u1 from by rw [eu1]; exact ix_w (by omega), ms_55, ms_55, if_neg c_27, if_neg c_36, if_pos c_58, ms_56, ms_56, if_neg c_70, if_neg c_74, if_neg c_79, if_neg c_92, if_neg c_106] at h
                      exact ms_er (by decide) h
          · skip
            refine zz_aload_0 dX12_move_61 ?_
            refine zz_ldc dX12_move_62 ct_X12_76 ?_
            refine zz_callV1i cv_X12_51 rfl (Nat.lt_of_lt_of_le (by decide) hn) (Nat.le_of_ble_eq_true rfl) (by decide) (by decide) dX12_move_64 (t_X12_errs hn hr 5 (by decide) (by decide) ⟨_, rfl, ?_⟩)
            refine zz_iret rfl dX12_move_67 (by decide) (by decide) ?_
            rw [sp_move, if_neg (fun q => q.elim a_1 b_1), if_neg (fun q => q.elim a_8 b_8), show v.toNatClampNeg = s1 from by rw [es1]; exact ix_w (by omega), show u.toNatClampNeg = u1 from by rw [eu1]; exact ix_w (by omega), ms_55, ms_55, if_neg c_27, if_neg c_36, if_neg c_58] at h
            exact ms_er (by decide) h
        · skip
          refine zz_aload_0 dX12_move_39 ?_
          refine zz_ldc dX12_move_40 ct_X12_184 ?_
          refine zz_callV1i cv_X12_51 rfl (Nat.lt_of_lt_of_le (by decide) hn) (Nat.le_of_ble_eq_true rfl) (by decide) (by decide) dX12_move_42 (t_X12_errs hn hr 2 (by decide) (by decide) ⟨_, rfl, ?_⟩)
          refine zz_iret rfl dX12_move_45 (by decide) (by decide) ?_
          first
            | (rw [sp_move, if_neg (fun q => q.elim a_1 b_1), if_neg (fun q => q.elim a_8 b_8), show v.toNatClampNeg = s1 from by rw [es1]; exact ix_w (by omega), show u.toNatClampNeg = u1 from by rw [eu1]; exact ix_w (by omega), ms_55, ms_55, if_pos c_27] at h; exact ms_er (by decide) h)
            | (rw [sp_move, if_neg (fun q => q.elim a_1 b_1), if_neg (fun q => q.elim a_8 b_8), show v.toNatClampNeg = s1 from by rw [es1]; exact ix_w (by omega), show u.toNatClampNeg = u1 from by rw [eu1]; exact ix_w (by omega), ms_55, ms_55, if_neg c_27, if_pos c_36] at h; exact ms_er (by decide) h)
    · skip
      refine zz_if_ne 21 dX12_move_11 (by decide) (fun h => absurd h (by decide)) (fun _ => ?_)
      refine zz_aload_0 dX12_move_14 ?_
      refine zz_ldc dX12_move_15 ct_X12_50 ?_
      refine zz_callV1i cv_X12_51 rfl (Nat.lt_of_lt_of_le (by decide) hn) (Nat.le_of_ble_eq_true rfl) (by decide) (by decide) dX12_move_17 (t_X12_errs hn hr 1 (by decide) (by decide) ⟨_, rfl, ?_⟩)
      refine zz_iret rfl dX12_move_20 (by decide) (by decide) ?_
      first
        | (rw [sp_move, if_pos o_1] at h; exact ms_er (by decide) h)
        | (rw [sp_move, if_neg (fun q => q.elim a_1 b_1), if_pos o_8] at h; exact ms_er (by decide) h)
  · skip
    refine zz_if_eq 14 dX12_move_4 (by decide) (fun _ => ?_) (fun h => absurd h (by decide))
    refine zz_aload_0 dX12_move_14 ?_
    refine zz_ldc dX12_move_15 ct_X12_50 ?_
    refine zz_callV1i cv_X12_51 rfl (Nat.lt_of_lt_of_le (by decide) hn) (Nat.le_of_ble_eq_true rfl) (by decide) (by decide) dX12_move_17 (t_X12_errs hn hr 1 (by decide) (by decide) ⟨_, rfl, ?_⟩)
    refine zz_iret rfl dX12_move_20 (by decide) (by decide) ?_
    first
      | (rw [sp_move, if_pos o_1] at h; exact ms_er (by decide) h)
      | (rw [sp_move, if_neg (fun q => q.elim a_1 b_1), if_pos o_8] at h; exact ms_er (by decide) h)
