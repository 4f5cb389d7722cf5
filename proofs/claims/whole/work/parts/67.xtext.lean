set_option maxRecDepth 100000 in
set_option maxHeartbeats 4000000 in
theorem t_X8_valueOf {C : zz_C} {d n : Nat} {g : zz_G} {r : zz_R} {Q : zz_Q} {c a b e : Int32} (h : Q (some (.int (if c = -1 then a else if c = -2 then b else if c = -3 then e else c))) g r n) : zz_T C mi_X8_valueOf d 0 0 [.int c, .int a, .int b, .int e] g r n Q := by
  refine zz_T.of [some (.int c), some (.int a), some (.int b), some (.int e)] (by decide +kernel) rfl (Nat.le_of_ble_eq_true rfl) ?_
  refine zz_iload_0 dX8_valueOf_0 ?_
  refine zz_tsw3 (-3) (-2) (-1) 32 30 28 34 dX8_valueOf_1 (by decide) (fun e_1 => ?_) (fun e_1 => ?_) (fun e_1 => ?_) (fun e0_1 e1_1 e2_1 => ?_)
  · skip
    refine zz_iload_3 dX8_valueOf_32 ?_
    refine zz_iret rfl dX8_valueOf_33 (by decide) (by decide) ?_
    rw [if_neg (by rw [e_1]; decide), if_neg (by rw [e_1]; decide), if_pos e_1] at h
    exact h
  · skip
    refine zz_iload_2 dX8_valueOf_30 ?_
    refine zz_iret rfl dX8_valueOf_31 (by decide) (by decide) ?_
    rw [if_neg (by rw [e_1]; decide), if_pos e_1] at h
    exact h
  · skip
    refine zz_iload_1 dX8_valueOf_28 ?_
    refine zz_iret rfl dX8_valueOf_29 (by decide) (by decide) ?_
    rw [if_pos e_1] at h
    exact h
  · skip
    refine zz_iload_0 dX8_valueOf_34 ?_
    refine zz_iret rfl dX8_valueOf_35 (by decide) (by decide) ?_
    rw [if_neg e2_1, if_neg e1_1, if_neg e0_1] at h
    exact h

set_option maxRecDepth 100000 in
set_option maxHeartbeats 4000000 in
theorem t_X8_joined {C : zz_C} {d n : Nat} {g : zz_G} {r : zz_R} {Q : zz_Q} {c v w : Int32} (h : Q (some (.int (pz_op c v w))) g r n) : zz_T C mi_X8_joined d 0 0 [.int c, .int v, .int w] g r n Q := by
  refine zz_T.of [some (.int c), some (.int v), some (.int w)] (by decide +kernel) rfl (Nat.le_of_ble_eq_true rfl) ?_
  refine zz_iload_0 dX8_joined_0 ?_
  refine zz_lsw [(38, 98), (42, 153), (43, 145), (45, 149), (47, 157), (60, 112), (61, 123), (62, 134), (124, 84)] 169 dX8_joined_1 (by decide) (by decide) (by decide) (fun q_1 hq_1 eq_1 => ?_) (fun ho_1 => ?_)
  · simp only [List.mem_cons, List.not_mem_nil, or_false] at hq_1
    rcases hq_1 with rfl | rfl | rfl | rfl | rfl | rfl | rfl | rfl | rfl
    · have e_1 : _ = (38 : Int32) := eq_1
      refine zz_iload_1 dX8_joined_98 ?_
      refine zz_if_eq 110 dX8_joined_99 (by decide) (fun c_99 => ?_) (fun c_99 => ?_)
      · skip
        refine zz_iconst (0) dX8_joined_110 (by decide) ?_
        refine zz_iret rfl dX8_joined_111 (by decide) (by decide) ?_
        rw [pz_op, if_neg (by rw [e_1]; decide), if_pos e_1, if_neg (fun z9 => z9.1 c_99)] at h
        exact h
      · skip
        refine zz_iload_2 dX8_joined_102 ?_
        refine zz_if_eq 110 dX8_joined_103 (by decide) (fun c_103 => ?_) (fun c_103 => ?_)
        · skip
          refine zz_iconst (0) dX8_joined_110 (by decide) ?_
          refine zz_iret rfl dX8_joined_111 (by decide) (by decide) ?_
          rw [pz_op, if_neg (by rw [e_1]; decide), if_pos e_1, if_neg (fun z9 => z9.2 c_103)] at h
          exact h
        · skip
          refine zz_iconst (1) dX8_joined_106 (by decide) ?_
          refine zz_goto 111 dX8_joined_107 (by decide) ?_
          refine zz_iret rfl dX8_joined_111 (by decide) (by decide) ?_
          rw [pz_op, if_neg (by rw [e_1]; decide), if_pos e_1, if_pos ⟨c_99, c_103⟩] at h
          exact h
    · have e_1 : _ = (42 : Int32) := eq_1
      refine zz_iload_1 dX8_joined_153 ?_
      refine zz_iload_2 dX8_joined_154 ?_
      refine zz_imul dX8_joined_155 ?_
      refine zz_iret rfl dX8_joined_156 (by decide) (by decide) ?_
      rw [pz_op, if_neg (by rw [e_1]; decide), if_neg (by rw [e_1]; decide), if_neg (by rw [e_1]; decide), if_neg (by rw [e_1]; decide), if_neg (by rw [e_1]; decide), if_neg (by rw [e_1]; decide), if_neg (by rw [e_1]; decide), if_pos e_1] at h
      exact h
    · have e_1 : _ = (43 : Int32) := eq_1
      refine zz_iload_1 dX8_joined_145 ?_
      refine zz_iload_2 dX8_joined_146 ?_
      refine zz_iadd dX8_joined_147 ?_
      refine zz_iret rfl dX8_joined_148 (by decide) (by decide) ?_
      rw [pz_op, if_neg (by rw [e_1]; decide), if_neg (by rw [e_1]; decide), if_neg (by rw [e_1]; decide), if_neg (by rw [e_1]; decide), if_neg (by rw [e_1]; decide), if_pos e_1] at h
      exact h
    · have e_1 : _ = (45 : Int32) := eq_1
      refine zz_iload_1 dX8_joined_149 ?_
      refine zz_iload_2 dX8_joined_150 ?_
      refine zz_isub dX8_joined_151 ?_
      refine zz_iret rfl dX8_joined_152 (by decide) (by decide) ?_
      rw [pz_op, if_neg (by rw [e_1]; decide), if_neg (by rw [e_1]; decide), if_neg (by rw [e_1]; decide), if_neg (by rw [e_1]; decide), if_neg (by rw [e_1]; decide), if_neg (by rw [e_1]; decide), if_pos e_1] at h
      exact h
    · have e_1 : _ = (47 : Int32) := eq_1
      refine zz_iload_2 dX8_joined_157 ?_
      refine zz_if_ne 165 dX8_joined_158 (by decide) (fun c_158 => ?_) (fun c_158 => ?_)
      · skip
        refine zz_iload_1 dX8_joined_165 ?_
        refine zz_iload_2 dX8_joined_166 ?_
        refine zz_idiv dX8_joined_167 c_158 ?_
        refine zz_iret rfl dX8_joined_168 (by decide) (by decide) ?_
        first
          | (rw [pz_op, if_neg (by rw [e_1]; decide), if_neg (by rw [e_1]; decide), if_neg (by rw [e_1]; decide), if_neg (by rw [e_1]; decide), if_neg (by rw [e_1]; decide), if_neg (by rw [e_1]; decide), if_neg (by rw [e_1]; decide), if_neg (by rw [e_1]; decide), if_pos c_158] at h; exact h)
          | (rw [pz_op, if_neg (by rw [e_1]; decide), if_neg (by rw [e_1]; decide), if_neg (by rw [e_1]; decide), if_neg (by rw [e_1]; decide), if_neg (by rw [e_1]; decide), if_neg (by rw [e_1]; decide), if_neg (by rw [e_1]; decide), if_neg (by rw [e_1]; decide), if_neg c_158, if_pos e_1] at h; exact h)
      · skip
        refine zz_iconst (0) dX8_joined_161 (by decide) ?_
        refine zz_goto 168 dX8_joined_162 (by decide) ?_
        refine zz_iret rfl dX8_joined_168 (by decide) (by decide) ?_
        first
          | (rw [pz_op, if_neg (by rw [e_1]; decide), if_neg (by rw [e_1]; decide), if_neg (by rw [e_1]; decide), if_neg (by rw [e_1]; decide), if_neg (by rw [e_1]; decide), if_neg (by rw [e_1]; decide), if_neg (by rw [e_1]; decide), if_neg (by rw [e_1]; decide), if_pos c_158] at h; exact h)
          | (rw [pz_op, if_neg (by rw [e_1]; decide), if_neg (by rw [e_1]; decide), if_neg (by rw [e_1]; decide), if_neg (by rw [e_1]; decide), if_neg (by rw [e_1]; decide), if_neg (by rw [e_1]; decide), if_neg (by rw [e_1]; decide), if_neg (by rw [e_1]; decide), if_neg c_158, if_pos e_1] at h; exact h)
    · have e_1 : _ = (60 : Int32) := eq_1
      refine zz_iload_1 dX8_joined_112 ?_
      refine zz_iload_2 dX8_joined_113 ?_
      refine zz_icmp_ge 121 dX8_joined_114 (by decide) (fun c_114 => ?_) (fun c_114 => ?_)
      · skip
        refine zz_iconst (0) dX8_joined_121 (by decide) ?_
        refine zz_iret rfl dX8_joined_122 (by decide) (by decide) ?_
        rw [pz_op, if_neg (by rw [e_1]; decide), if_neg (by rw [e_1]; decide), if_pos e_1, if_neg (Int32.not_lt.mpr c_114)] at h
        exact h
      · skip
        refine zz_iconst (1) dX8_joined_117 (by decide) ?_
        refine zz_goto 122 dX8_joined_118 (by decide) ?_
        refine zz_iret rfl dX8_joined_122 (by decide) (by decide) ?_
        rw [pz_op, if_neg (by rw [e_1]; decide), if_neg (by rw [e_1]; decide), if_pos e_1, if_pos (Int32.not_le.mp c_114)] at h
        exact h
    · have e_1 : _ = (61 : Int32) := eq_1
      refine zz_iload_1 dX8_joined_123 ?_
      refine zz_iload_2 dX8_joined_124 ?_
      refine zz_icmp_ne 132 dX8_joined_125 (by decide) (fun c_125 => ?_) (fun c_125 => ?_)
      · skip
        refine zz_iconst (0) dX8_joined_132 (by decide) ?_
        refine zz_iret rfl dX8_joined_133 (by decide) (by decide) ?_
        rw [pz_op, if_neg (by rw [e_1]; decide), if_neg (by rw [e_1]; decide), if_neg (by rw [e_1]; decide), if_pos e_1, if_neg c_125] at h
        exact h
      · skip
        refine zz_iconst (1) dX8_joined_128 (by decide) ?_
        refine zz_goto 133 dX8_joined_129 (by decide) ?_
        refine zz_iret rfl dX8_joined_133 (by decide) (by decide) ?_
        rw [pz_op, if_neg (by rw [e_1]; decide), if_neg (by rw [e_1]; decide), if_neg (by rw [e_1]; decide), if_pos e_1, if_pos c_125] at h
        exact h
    · have e_1 : _ = (62 : Int32) := eq_1
      refine zz_iload_1 dX8_joined_134 ?_
      refine zz_iload_2 dX8_joined_135 ?_
      refine zz_icmp_le 143 dX8_joined_136 (by decide) (fun c_136 => ?_) (fun c_136 => ?_)
      · skip
        refine zz_iconst (0) dX8_joined_143 (by decide) ?_
        refine zz_iret rfl dX8_joined_144 (by decide) (by decide) ?_
        rw [pz_op, if_neg (by rw [e_1]; decide), if_neg (by rw [e_1]; decide), if_neg (by rw [e_1]; decide), if_neg (by rw [e_1]; decide), if_pos e_1, if_neg (Int32.not_lt.mpr c_136)] at h
        exact h
      · skip
        refine zz_iconst (1) dX8_joined_139 (by decide) ?_
        refine zz_goto 144 dX8_joined_140 (by decide) ?_
        refine zz_iret rfl dX8_joined_144 (by decide) (by decide) ?_
        rw [pz_op, if_neg (by rw [e_1]; decide), if_neg (by rw [e_1]; decide), if_neg (by rw [e_1]; decide), if_neg (by rw [e_1]; decide), if_pos e_1, if_pos (Int32.not_le.mp c_136)] at h
        exact h
    · have e_1 : _ = (124 : Int32) := eq_1
      refine zz_iload_1 dX8_joined_84 ?_
      refine zz_if_ne 92 dX8_joined_85 (by decide) (fun c_85 => ?_) (fun c_85 => ?_)
      · skip
        refine zz_iconst (1) dX8_joined_92 (by decide) ?_
        refine zz_goto 97 dX8_joined_93 (by decide) ?_
        refine zz_iret rfl dX8_joined_97 (by decide) (by decide) ?_
        rw [pz_op, if_pos e_1, if_pos (Or.inl c_85)] at h
        exact h
      · skip
        refine zz_iload_2 dX8_joined_88 ?_
        refine zz_if_eq 96 dX8_joined_89 (by decide) (fun c_89 => ?_) (fun c_89 => ?_)
        · skip
          refine zz_iconst (0) dX8_joined_96 (by decide) ?_
          refine zz_iret rfl dX8_joined_97 (by decide) (by decide) ?_
          rw [pz_op, if_pos e_1, if_neg (fun z9 => z9.elim (fun z8 => z8 c_85) (fun z8 => z8 c_89))] at h
          exact h
        · skip
          refine zz_iconst (1) dX8_joined_92 (by decide) ?_
          refine zz_goto 97 dX8_joined_93 (by decide) ?_
          refine zz_iret rfl dX8_joined_97 (by decide) (by decide) ?_
          rw [pz_op, if_pos e_1, if_pos (Or.inr c_89)] at h
          exact h
  · skip
    have n0_1 : ¬ _ = (38 : Int32) := ho_1 (38, 98) (by simp)
    have n1_1 : ¬ _ = (42 : Int32) := ho_1 (42, 153) (by simp)
    have n2_1 : ¬ _ = (43 : Int32) := ho_1 (43, 145) (by simp)
    have n3_1 : ¬ _ = (45 : Int32) := ho_1 (45, 149) (by simp)
    have n4_1 : ¬ _ = (47 : Int32) := ho_1 (47, 157) (by simp)
    have n5_1 : ¬ _ = (60 : Int32) := ho_1 (60, 112) (by simp)
    have n6_1 : ¬ _ = (61 : Int32) := ho_1 (61, 123) (by simp)
    have n7_1 : ¬ _ = (62 : Int32) := ho_1 (62, 134) (by simp)
    have n8_1 : ¬ _ = (124 : Int32) := ho_1 (124, 84) (by simp)
    refine zz_iload_2 dX8_joined_169 ?_
    refine zz_if_ne 177 dX8_joined_170 (by decide) (fun c_170 => ?_) (fun c_170 => ?_)
    · skip
      refine zz_iload_1 dX8_joined_177 ?_
      refine zz_iload_2 dX8_joined_178 ?_
      refine zz_irem dX8_joined_179 c_170 ?_
      refine zz_iret rfl dX8_joined_180 (by decide) (by decide) ?_
      first
        | (rw [pz_op, if_neg n8_1, if_neg n0_1, if_neg n5_1, if_neg n6_1, if_neg n7_1, if_neg n2_1, if_neg n3_1, if_neg n1_1, if_pos c_170] at h; exact h)
        | (rw [pz_op, if_neg n8_1, if_neg n0_1, if_neg n5_1, if_neg n6_1, if_neg n7_1, if_neg n2_1, if_neg n3_1, if_neg n1_1, if_neg c_170, if_neg n4_1] at h; exact h)
    · skip
      refine zz_iconst (0) dX8_joined_173 (by decide) ?_
      refine zz_goto 180 dX8_joined_174 (by decide) ?_
      refine zz_iret rfl dX8_joined_180 (by decide) (by decide) ?_
      first
        | (rw [pz_op, if_neg n8_1, if_neg n0_1, if_neg n5_1, if_neg n6_1, if_neg n7_1, if_neg n2_1, if_neg n3_1, if_neg n1_1, if_pos c_170] at h; exact h)
        | (rw [pz_op, if_neg n8_1, if_neg n0_1, if_neg n5_1, if_neg n6_1, if_neg n7_1, if_neg n2_1, if_neg n3_1, if_neg n1_1, if_neg c_170, if_neg n4_1] at h; exact h)

def stk (f : Nat → Int32) : List Int32 → Prop
  | [] => True
  | v :: t => f t.length = v ∧ stk f t
theorem stk_cg {f f' : Nat → Int32} : ∀ {l : List Int32}, (∀ j, j < l.length → f' j = f j) → stk f l → stk f' l
  | [], _, _ => trivial
  | v :: t, h, hs => ⟨(h t.length (Nat.lt_succ_self _)).trans hs.1, stk_cg (fun j hj => h j (Nat.lt_succ_of_lt hj)) hs.2⟩
theorem stk_u {g : zz_G} {t : List Int32} (x : Int32) (h : stk (g 40) t) : stk (zz_u g 40 t.length x 40) (x :: t) := ⟨zz_u_same _ _ _ _, stk_cg (fun j hj => zz_u_ne2 _ _ (by omega)) h⟩
theorem ex_take {a b c : Int32} {cs : List Int32} {i : Nat} (h : i < cs.length) : ex a b c (cs.take (i + 1)) [] = ex1 a b c (cs.getD i 0) (ex a b c (cs.take i) []) := by
  rw [List.take_succ, ex_app, List.getElem?_eq_getElem h, List.getD_eq_getElem?_getD, List.getElem?_eq_getElem h]
  rfl
theorem ex1_push {a b c s : Int32} {l : List Int32} (h : ¬ s < -3) : ex1 a b c s l = (if s = -1 then a else if s = -2 then b else if s = -3 then c else s) :: l := by
  unfold ex1
  rw [if_neg h]
theorem ex1_not {a b c s v : Int32} {t : List Int32} (h : s < -3) (h2 : s = -33) : ex1 a b c s (v :: t) = (if v = 0 then 1 else 0) :: t := by
  unfold ex1
  rw [if_pos h, if_pos h2]
theorem ex1_not0 {a b c s : Int32} (h : s < -3) (h2 : s = -33) : ex1 a b c s [] = [] := by
  unfold ex1
  rw [if_pos h, if_pos h2]
theorem ex1_join {a b c s v w : Int32} {t : List Int32} (h : s < -3) (h2 : ¬ s = -33) : ex1 a b c s (w :: v :: t) = pz_op (-s) v w :: t := by
  unfold ex1
  rw [if_pos h, if_neg h2]
theorem ex1_join1 {a b c s : Int32} {l : List Int32} (h : s < -3) (h2 : ¬ s = -33) (hl : l.length < 2) : ex1 a b c s l = l := by
  unfold ex1
  rw [if_pos h, if_neg h2]
  match l, hl with
  | [], _ => rfl
  | [_], _ => rfl
set_option maxRecDepth 100000 in
set_option maxHeartbeats 4000000 in
theorem l_X8_workedOut {C : zz_C} {d n : Nat} {g : zz_G} {r : zz_R} {Q : zz_Q} (hn : 60 ≤ n) {a b c : Int32} (tk ts m : Nat) (cs : List Int32) (hsk : zz_sh tk = (0, 8, 2)) (hss : zz_sh ts = (1, 0, 50)) (hrk : r tk 0 = some ts) (hk6 : tk < 60) (hs6 : ts < 60) (hne : ts ≠ 40) (hnk : tk ≠ 40) (hm5 : m ≤ 50) (hml : cs.length = m) (hsz : g tk 1 = nI m) (hst : ∀ i, i < m → g ts i = cs.getD i 0) {val : Int32} (hv : ex a b c cs [] = [val]) (h : ∀ g', xj g g' → Q (some (.int val)) g' r n) : ∀ (k : Nat) (i : Nat) (Lx : List Int32) (g1 : zz_G) (l7 : Option Value), i ≤ m → Lx = ex a b c (cs.take i) [] → Lx.length ≤ i → xj g g1 → stk (g1 40) Lx → m - i < k → zz_Z C mi_X8_workedOut (d + 1) 0 0 0 0 6 [some (.ref tk), some (.ref 40), some (.int a), some (.int b), some (.int c), some (.int (nI Lx.length)), some (.int (nI i)), l7] [] g1 r n Q := by
  intro k
  induction k with
  | zero => intro i Lx g1 l7 hi hL hlen hj hs hk; exact absurd hk (by omega)
  | succ k ih =>
    intro i Lx g1 l7 hi hL hlen hj hs hk
    refine zz_iload_6 dX8_workedOut_6 ?_
    refine zz_aload_0 dX8_workedOut_8 ?_
    refine zz_getI fl_X8_15 hsk rfl (by omega) dX8_workedOut_9 ?_
    refine zz_icmp_ge 130 dX8_workedOut_12 (by decide) (fun c_12 => ?_) (fun c_12 => ?_)
    · skip
      rw [show g1 tk 1 = nI m from by rw [hj tk hnk]; exact hsz] at c_12
      have := zz_gei c_12 (by omega) (by omega)
      obtain rfl : i = m := by omega
      rw [List.take_of_length_le (by omega), hv] at hL
      subst hL
      refine zz_iload_5 dX8_workedOut_130 ?_
      refine zz_if_le 141 dX8_workedOut_132 (by decide) (fun c_132 => ?_) (fun c_132 => ?_)
      · skip
        refine zz_iconst (0) dX8_workedOut_141 (by decide) ?_
        refine zz_iret rfl dX8_workedOut_142 (by decide) (by decide) ?_
        first
          | exact absurd (show nI 1 ≤ 0 from c_132) (by decide)
          | (rw [show g1 40 0 = val from hs.1]; exact h _ hj)
      · skip
        refine zz_aload_1 dX8_workedOut_135 ?_
        refine zz_iconst (0) dX8_workedOut_136 (by decide) ?_
        refine zz_iald 0 (by decide) (by decide) (by decide) rfl (Nat.lt_of_lt_of_le (by decide) hn) dX8_workedOut_137 ?_
        refine zz_goto 142 dX8_workedOut_138 (by decide) ?_
        refine zz_iret rfl dX8_workedOut_142 (by decide) (by decide) ?_
        first
          | exact absurd (show nI 1 ≤ 0 from c_132) (by decide)
          | (rw [show g1 40 0 = val from hs.1]; exact h _ hj)
    · skip
      rw [show g1 tk 1 = nI m from by rw [hj tk hnk]; exact hsz] at c_12
      have hlt := zz_lti c_12 (by omega) (by omega)
      refine zz_aload_0 dX8_workedOut_15 ?_
      refine zz_getR fl_X8_9 hsk rfl (by omega) hrk dX8_workedOut_16 ?_
      refine zz_iload_6 dX8_workedOut_19 ?_
      refine zz_iaN i rfl (by omega) (by decide) hss (by omega) dX8_workedOut_21 ?_
      refine zz_istore_7 dX8_workedOut_22 rfl rfl ?_
      rw [show g1 ts i = cs.getD i 0 from by rw [hj ts hne]; exact hst i hlt]
      refine zz_iload_7 dX8_workedOut_24 ?_
      refine zz_bipush (-3) dX8_workedOut_26 (by decide) ?_
      refine zz_icmp_lt 57 dX8_workedOut_28 (by decide) (fun c_28 => ?_) (fun c_28 => ?_)
      · skip
        refine zz_iload_7 dX8_workedOut_57 ?_
        refine zz_bipush (-33) dX8_workedOut_59 (by decide) ?_
        refine zz_icmp_ne 93 dX8_workedOut_61 (by decide) (fun c_61 => ?_) (fun c_61 => ?_)
        · skip
          refine zz_iload_5 dX8_workedOut_93 ?_
          refine zz_iconst (2) dX8_workedOut_95 (by decide) ?_
          refine zz_icmp_lt 124 dX8_workedOut_96 (by decide) (fun c_96 => ?_) (fun c_96 => ?_)
          · skip
            refine zz_iinc_6 (1) dX8_workedOut_124 rfl rfl (by decide) ?_
            refine zz_goto 6 dX8_workedOut_127 (by decide) ?_
            have h0 := (nI_ltI (a := Lx.length) (b := 2) (by omega) (by omega)).mp c_96
            have hL2 := ex_take (a := a) (b := b) (c := c) (cs := cs) (i := i) (by omega)
            rw [← hL] at hL2
            rw [ex1_join1 c_28 c_61 (by omega)] at hL2
            simp only [nI_1]
            exact ih (i + 1) _ _ _ (by omega) hL2.symm (by omega) hj hs (by omega)
          · skip
            have h1: 2 ≤ Lx.length := Nat.not_lt.mp fun z9 => c_96 ((nI_ltI (a := Lx.length) (b := 2) (by omega) (by omega)).mpr z9)
            obtain ⟨w9, v9, t9, rfl⟩ : ∃ w v t, Lx = w :: v :: t := by
                match Lx, h1 with
                | w :: v :: t, _ => exact ⟨w, v, t, rfl⟩
            refine zz_iinc_5 (-1) dX8_workedOut_99 rfl rfl (by decide) ?_
            rw [show nI (w9 :: v9 :: t9).length + -1 = nI (t9.length + 1) from pk_m1 _]
            refine zz_aload_1 dX8_workedOut_102 ?_
            refine zz_iload_5 dX8_workedOut_103 ?_
            refine zz_iconst (1) dX8_workedOut_105 (by decide) ?_
            refine zz_isub dX8_workedOut_106 ?_
            refine zz_iload_7 dX8_workedOut_107 ?_
            refine zz_ineg dX8_workedOut_109 ?_
            refine zz_aload_1 dX8_workedOut_110 ?_
            refine zz_iload_5 dX8_workedOut_111 ?_
            refine zz_iconst (1) dX8_workedOut_113 (by decide) ?_
            refine zz_isub dX8_workedOut_114 ?_
            refine zz_iaN t9.length (nI_pred t9.length) (by simp only [List.length_cons] at hlen; omega) (by decide) rfl (Nat.lt_of_lt_of_le (by decide) hn) dX8_workedOut_115 ?_
            refine zz_aload_1 dX8_workedOut_116 ?_
            refine zz_iload_5 dX8_workedOut_117 ?_
            refine zz_iaN (t9.length + 1) rfl (by simp only [List.length_cons] at hlen; omega) (by decide) rfl (Nat.lt_of_lt_of_le (by decide) hn) dX8_workedOut_119 ?_
            refine zz_callS3i cs_X8_29 (Nat.le_of_ble_eq_true rfl) (by decide) (by decide) dX8_workedOut_120 (t_X8_joined ⟨_, rfl, ?_⟩)
            refine zz_isN t9.length (nI_pred t9.length) (by simp only [List.length_cons] at hlen; omega) (by decide) rfl (Nat.lt_of_lt_of_le (by decide) hn) dX8_workedOut_123 ?_
            refine zz_iinc_6 (1) dX8_workedOut_124 rfl rfl (by decide) ?_
            refine zz_goto 6 dX8_workedOut_127 (by decide) ?_
            have hL2 := ex_take (a := a) (b := b) (c := c) (cs := cs) (i := i) (by omega)
            rw [← hL] at hL2
            rw [ex1_join c_28 c_61, ← hs.1, ← hs.2.1] at hL2
            simp only [nI_1]
            exact ih (i + 1) _ _ _ (by omega) hL2.symm (by simp only [List.length_cons] at hlen ⊢; omega) hj.u (stk_u _ hs.2.2) (by omega)
        · skip
          refine zz_iload_5 dX8_workedOut_64 ?_
          refine zz_iconst (1) dX8_workedOut_66 (by decide) ?_
          refine zz_icmp_lt 124 dX8_workedOut_67 (by decide) (fun c_67 => ?_) (fun c_67 => ?_)
          · skip
            refine zz_iinc_6 (1) dX8_workedOut_124 rfl rfl (by decide) ?_
            refine zz_goto 6 dX8_workedOut_127 (by decide) ?_
            have h0 := (nI_ltI (a := Lx.length) (b := 1) (by omega) (by omega)).mp c_67
            obtain rfl : Lx = [] := List.eq_nil_of_length_eq_zero (by omega)
            have hL2 := ex_take (a := a) (b := b) (c := c) (cs := cs) (i := i) (by omega)
            rw [← hL] at hL2
            rw [ex1_not0 c_28 (by first | exact c_61 | exact Decidable.not_not.mp c_61)] at hL2
            simp only [nI_1]
            exact ih (i + 1) _ _ _ (by omega) hL2.symm (by simp only [List.length_nil]; omega) hj hs (by omega)
          · skip
            have h1: 1 ≤ Lx.length := Nat.not_lt.mp fun z9 => c_67 ((nI_ltI (a := Lx.length) (b := 1) (by omega) (by omega)).mpr z9)
            obtain ⟨v9, t9, rfl⟩ : ∃ v t, Lx = v :: t := by
                cases Lx with
                | nil => exact absurd h1 (by decide)
                | cons v t => exact ⟨v, t, rfl⟩
            refine zz_aload_1 dX8_workedOut_70 ?_
            refine zz_iload_5 dX8_workedOut_71 ?_
            refine zz_iconst (1) dX8_workedOut_73 (by decide) ?_
            refine zz_isub dX8_workedOut_74 ?_
            refine zz_aload_1 dX8_workedOut_75 ?_
            refine zz_iload_5 dX8_workedOut_76 ?_
            refine zz_iconst (1) dX8_workedOut_78 (by decide) ?_
            refine zz_isub dX8_workedOut_79 ?_
            refine zz_iaN t9.length (nI_pred t9.length) (by simp only [List.length_cons] at hlen; omega) (by decide) rfl (Nat.lt_of_lt_of_le (by decide) hn) dX8_workedOut_80 ?_
            refine zz_if_ne 88 dX8_workedOut_81 (by decide) (fun c_81 => ?_) (fun c_81 => ?_)
            · skip
              refine zz_iconst (0) dX8_workedOut_88 (by decide) ?_
              refine zz_isN t9.length (nI_pred t9.length) (by simp only [List.length_cons] at hlen; omega) (by decide) rfl (Nat.lt_of_lt_of_le (by decide) hn) dX8_workedOut_89 ?_
              refine zz_goto 124 dX8_workedOut_90 (by decide) ?_
              refine zz_iinc_6 (1) dX8_workedOut_124 rfl rfl (by decide) ?_
              refine zz_goto 6 dX8_workedOut_127 (by decide) ?_
              have hL2 := ex_take (a := a) (b := b) (c := c) (cs := cs) (i := i) (by omega)
              rw [← hL] at hL2
              rw [ex1_not c_28 (by first | exact c_61 | exact Decidable.not_not.mp c_61)] at hL2
              simp only [nI_1]
              first
                | (rw [if_pos (by rw [← hs.1]; exact c_81)] at hL2; exact ih (i + 1) (1 :: t9) _ _ (by omega) hL2.symm (by simp only [List.length_cons] at hlen ⊢; omega) hj.u (stk_u _ hs.2) (by omega))
                | (rw [if_neg (by rw [← hs.1]; exact c_81)] at hL2; exact ih (i + 1) (0 :: t9) _ _ (by omega) hL2.symm (by simp only [List.length_cons] at hlen ⊢; omega) hj.u (stk_u _ hs.2) (by omega))
            · skip
              refine zz_iconst (1) dX8_workedOut_84 (by decide) ?_
              refine zz_goto 89 dX8_workedOut_85 (by decide) ?_
              refine zz_isN t9.length (nI_pred t9.length) (by simp only [List.length_cons] at hlen; omega) (by decide) rfl (Nat.lt_of_lt_of_le (by decide) hn) dX8_workedOut_89 ?_
              refine zz_goto 124 dX8_workedOut_90 (by decide) ?_
              refine zz_iinc_6 (1) dX8_workedOut_124 rfl rfl (by decide) ?_
              refine zz_goto 6 dX8_workedOut_127 (by decide) ?_
              have hL2 := ex_take (a := a) (b := b) (c := c) (cs := cs) (i := i) (by omega)
              rw [← hL] at hL2
              rw [ex1_not c_28 (by first | exact c_61 | exact Decidable.not_not.mp c_61)] at hL2
              simp only [nI_1]
              first
                | (rw [if_pos (by rw [← hs.1]; exact c_81)] at hL2; exact ih (i + 1) (1 :: t9) _ _ (by omega) hL2.symm (by simp only [List.length_cons] at hlen ⊢; omega) hj.u (stk_u _ hs.2) (by omega))
                | (rw [if_neg (by rw [← hs.1]; exact c_81)] at hL2; exact ih (i + 1) (0 :: t9) _ _ (by omega) hL2.symm (by simp only [List.length_cons] at hlen ⊢; omega) hj.u (stk_u _ hs.2) (by omega))
      · skip
        refine zz_iload_5 dX8_workedOut_31 ?_
        refine zz_aload_1 dX8_workedOut_33 ?_
        refine zz_alenI rfl (Nat.lt_of_lt_of_le (by decide) hn) (v := 50) (by decide) dX8_workedOut_34 ?_
        refine zz_icmp_ge 124 dX8_workedOut_35 (by decide) (fun c_35 => ?_) (fun c_35 => ?_)
        · skip
          refine zz_iinc_6 (1) dX8_workedOut_124 rfl rfl (by decide) ?_
          refine zz_goto 6 dX8_workedOut_127 (by decide) ?_
          have := zz_gei (b := 50) c_35 (by omega) (by omega)
          omega
        · skip
          refine zz_aload_1 dX8_workedOut_38 ?_
          refine zz_iload_5 dX8_workedOut_39 ?_
          refine zz_iload_7 dX8_workedOut_41 ?_
          refine zz_iload_2 dX8_workedOut_43 ?_
          refine zz_iload_3 dX8_workedOut_44 ?_
          refine zz_iload_4 dX8_workedOut_45 ?_
          refine zz_callS4i cs_X8_25 (Nat.le_of_ble_eq_true rfl) (by decide) (by decide) dX8_workedOut_47 (t_X8_valueOf ⟨_, rfl, ?_⟩)
          refine zz_isN Lx.length rfl (by have := zz_lti (b := 50) c_35 (by omega) (by omega); omega) (by decide) rfl (Nat.lt_of_lt_of_le (by decide) hn) dX8_workedOut_50 ?_
          refine zz_iinc_5 (1) dX8_workedOut_51 rfl rfl (by decide) ?_
          refine zz_goto 124 dX8_workedOut_54 (by decide) ?_
          refine zz_iinc_6 (1) dX8_workedOut_124 rfl rfl (by decide) ?_
          refine zz_goto 6 dX8_workedOut_127 (by decide) ?_
          have hL2 := ex_take (a := a) (b := b) (c := c) (cs := cs) (i := i) (by omega)
          rw [← hL] at hL2
          rw [ex1_push c_28] at hL2
          simp only [nI_1]
          exact ih (i + 1) _ _ _ (by omega) hL2.symm (by simp only [List.length_cons]; omega) hj.u (stk_u _ hs) (by omega)

set_option maxRecDepth 100000 in
set_option maxHeartbeats 4000000 in
theorem t_X8_workedOut {C : zz_C} {d n : Nat} {g : zz_G} {r : zz_R} {Q : zz_Q} (hn : 60 ≤ n) {a b c : Int32} (tk ts m : Nat) (cs : List Int32) (hsk : zz_sh tk = (0, 8, 2)) (hss : zz_sh ts = (1, 0, 50)) (hrk : r tk 0 = some ts) (hk6 : tk < 60) (hs6 : ts < 60) (hne : ts ≠ 40) (hnk : tk ≠ 40) (hm5 : m ≤ 50) (hml : cs.length = m) (hsz : g tk 1 = nI m) (hst : ∀ i, i < m → g ts i = cs.getD i 0) {val : Int32} (hv : ex a b c cs [] = [val]) (h : ∀ g', xj g g' → Q (some (.int val)) g' r n) : zz_T C mi_X8_workedOut (d + 1) 0 0 [.ref tk, .ref 40, .int a, .int b, .int c] g r n Q := by
  refine zz_T.of [some (.ref tk), some (.ref 40), some (.int a), some (.int b), some (.int c), none, none, none] (by decide +kernel) rfl (Nat.le_of_ble_eq_true rfl) ?_
  refine zz_iconst (0) dX8_workedOut_0 (by decide) ?_
  refine zz_istore_5 dX8_workedOut_1 rfl rfl ?_
  refine zz_iconst (0) dX8_workedOut_3 (by decide) ?_
  refine zz_istore_6 dX8_workedOut_4 rfl rfl ?_
  exact l_X8_workedOut (d := d) hn tk ts m cs hsk hss hrk hk6 hs6 hne hnk hm5 hml hsz hst hv h 52 0 [] g _ (by omega) rfl (by decide) xj.rf trivial (by omega)
