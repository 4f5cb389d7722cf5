theorem sp_ec_no {R : Nat → Int32} {x : Int32} {f c : Nat} (h : ¬ (sp_counts R c ∧ R (46 + 6 * c + 1) = x)) : sp_ec R x (f + 1) c = sp_ec R x f (c + 1) := by rw [sp_ec, if_neg h]
theorem sp_ec_yes {R : Nat → Int32} {x : Int32} {f c : Nat} (h : sp_counts R c ∧ R (46 + 6 * c + 1) = x) : sp_ec R x (f + 1) c = c := by rw [sp_ec, if_pos h]
def sp_ckk (R : Nat → Int32) (m : Nat) : Nat → Nat → Nat
  | 0, k => k
  | f + 1, k => if 0 < m ∧ sp_late R 0 (R 0 + 1 + nI k) = R (156 + k) then sp_ckk R m f (k + 1) else k
def sp_check (S : zz_G) : Int32 × zz_G := (if sp_ckk (S 51) (S 51 2).toNatClampNeg (S 51 4).toNatClampNeg 0 = (S 51 4).toNatClampNeg then 0 else 1 + nI (sp_ckk (S 51) (S 51 2).toNatClampNeg (S 51 4).toNatClampNeg 0), zz_u S 51 4 0)
def sp_frk (S : zz_G) (s m z : Nat) : Nat → Nat → Nat
  | 0, w => w
  | f + 1, w => if w < z ∧ w < m ∧ ¬ (S 57 (40 * s + w) < 0 ∨ 99 < S 57 (40 * s + w)) then sp_frk S s m z f (w + 1) else w
def sp_frw (S : zz_G) (s : Nat) : Nat → zz_G
  | 0 => S
  | w + 1 => zz_u (sp_frw S s w) 51 (16 + 5 * w + 2) (S 57 (40 * s + w))
def sp_fars (S : zz_G) (s : Int32) : Int32 × zz_G := if sp_nosh s then sp_err S 1 else if S 55 s.toNatClampNeg = 0 then sp_err S 2 else (nI (sp_frk S s.toNatClampNeg (S 51 2).toNatClampNeg (S 56 s.toNatClampNeg).toNatClampNeg (S 51 2).toNatClampNeg 0), sp_frw S s.toNatClampNeg (sp_frk S s.toNatClampNeg (S 51 2).toNatClampNeg (S 56 s.toNatClampNeg).toNatClampNeg (S 51 2).toNatClampNeg 0))
theorem sp_frk_congr {S S' : zz_G} {s m z : Nat} (h1 : S' 57 = S 57) : ∀ f w, sp_frk S' s m z f w = sp_frk S s m z f w := by
  intro f
  induction f with
  | zero => intro w; rfl
  | succ f ih => intro w; rw [sp_frk, sp_frk, h1, ih]
theorem sp_frw_F {g : zz_G} {s : Nat} : ∀ w, ms_F g (sp_frw g s w) (sp_frw (ms_S g) s w)
  | 0 => ms_F.rf
  | w + 1 => by
    rw [sp_frw, sp_frw, ms_57]
    exact (sp_frw_F w).u rfl (by decide)
theorem sp_frw_row {S : zz_G} {s k : Nat} (hk : k ≠ 51) : ∀ w, sp_frw S s w k = S k
  | 0 => rfl
  | w + 1 => by
    rw [sp_frw, zz_u_row _ _ hk]
    exact sp_frw_row hk w
theorem sp_frw_2 {S : zz_G} {s : Nat} : ∀ w, sp_frw S s w 51 2 = S 51 2
  | 0 => rfl
  | w + 1 => by
    rw [sp_frw, zz_u_ne2 _ _ (by omega)]
    exact sp_frw_2 w
set_option maxRecDepth 100000 in
set_option maxHeartbeats 4000000 in
theorem e_X12_enter {C : zz_C} {d n : Nat} {g : zz_G} {r : zz_R} {Q : zz_Q} (hn : 60 ≤ n) (hr : xr r) (cw : Nat) (hcw : g 51 7 = nI cw) (hcw6 : cw ≤ 10) {x : Int32} {c : Nat} (hc : c ≤ 10) (h1 : c < cw → ms_o g r n Q (sp_ent1 (ms_S g) c)) (h0 : ¬ c < cw → ms_o g r n Q (sp_ent0 (ms_S g))) : zz_Z C mi_X12_enter (d + 2) 0 0 0 0 100 [some (.ref 50), some (.int x), some (.int (nI c))] [] g r n Q := by
  refine zz_iload_2 dX12_enter_100 ?_
  refine zz_aload_0 dX12_enter_101 ?_
  refine zz_getR fl_X12_7 rfl rfl (Nat.lt_of_lt_of_le (by decide) hn) (xr_50_0 hr) dX12_enter_102 ?_
  refine zz_bipush (7) dX12_enter_105 (by decide) ?_
  refine zz_iald 7 (by decide) (by decide) (by decide) rfl (Nat.lt_of_lt_of_le (by decide) hn) dX12_enter_107 ?_
  refine zz_icmp_ge 159 dX12_enter_108 (by decide) (fun c_108 => ?_) (fun c_108 => ?_)
  · skip
    refine zz_aload_0 dX12_enter_159 ?_
    refine zz_getR fl_X12_7 rfl rfl (Nat.lt_of_lt_of_le (by decide) hn) (xr_50_0 hr) dX12_enter_160 ?_
    refine zz_bipush (13) dX12_enter_163 (by decide) ?_
    refine zz_dup2 dX12_enter_165 rfl rfl ?_
    refine zz_iald 13 (by decide) (by decide) (by decide) rfl (Nat.lt_of_lt_of_le (by decide) hn) dX12_enter_166 ?_
    refine zz_iconst (1) dX12_enter_167 (by decide) ?_
    refine zz_iadd dX12_enter_168 ?_
    refine zz_iast 13 (by decide) (by decide) (by decide) rfl (Nat.lt_of_lt_of_le (by decide) hn) dX12_enter_169 ?_
    refine zz_aload_0 dX12_enter_170 ?_
    refine zz_getR fl_X12_7 rfl rfl (Nat.lt_of_lt_of_le (by decide) hn) (xr_50_0 hr) dX12_enter_171 ?_
    refine zz_bipush (13) dX12_enter_174 (by decide) ?_
    refine zz_iald 13 (by decide) (by decide) (by decide) rfl (Nat.lt_of_lt_of_le (by decide) hn) dX12_enter_176 ?_
    refine zz_aload_0 dX12_enter_177 ?_
    refine zz_getR fl_X12_7 rfl rfl (Nat.lt_of_lt_of_le (by decide) hn) (xr_50_0 hr) dX12_enter_178 ?_
    refine zz_bipush (10) dX12_enter_181 (by decide) ?_
    refine zz_iald 10 (by decide) (by decide) (by decide) rfl (Nat.lt_of_lt_of_le (by decide) hn) dX12_enter_183 ?_
    refine zz_icmp_lt 216 dX12_enter_184 (by decide) (fun c_184 => ?_) (fun c_184 => ?_)
    · skip
      refine zz_iconst (0) dX12_enter_216 (by decide) ?_
      refine zz_iret rfl dX12_enter_217 (by decide) (by decide) ?_
      have hge : cw ≤ c := zz_gei (by rw [← hcw]; exact c_108) (by omega) (by omega)
      have h := h0 (by omega)
      rw [sp_ent0, ms_51, ms_51, ms_51, ms_51] at h
      rw [zz_u_same, zz_u_ne2 g _ (show 10 ≠ 13 by decide)] at c_184
      first
        | (rw [if_pos c_184] at h; rw [zz_u_same] ; exact h _ (ms_F.rf.u rfl (by decide)))
        | (rw [if_pos c_184] at h; exact h _ (ms_F.rf.u rfl (by decide)))
        | (rw [if_neg c_184] at h; simp (disch := omega) only [zz_u_ne2, zz_u_same]; exact h _ (((ms_F.rf.u rfl (by decide)).u rfl (by decide)).u rfl (by decide)))
    · skip
      refine zz_aload_0 dX12_enter_187 ?_
      refine zz_getR fl_X12_7 rfl rfl (Nat.lt_of_lt_of_le (by decide) hn) (xr_50_0 hr) dX12_enter_188 ?_
      refine zz_bipush (14) dX12_enter_191 (by decide) ?_
      refine zz_aload_0 dX12_enter_193 ?_
      refine zz_getR fl_X12_7 rfl rfl (Nat.lt_of_lt_of_le (by decide) hn) (xr_50_0 hr) dX12_enter_194 ?_
      refine zz_iconst (0) dX12_enter_197 (by decide) ?_
      refine zz_iald 0 (by decide) (by decide) (by decide) rfl (Nat.lt_of_lt_of_le (by decide) hn) dX12_enter_198 ?_
      refine zz_aload_0 dX12_enter_199 ?_
      refine zz_getR fl_X12_7 rfl rfl (Nat.lt_of_lt_of_le (by decide) hn) (xr_50_0 hr) dX12_enter_200 ?_
      refine zz_bipush (11) dX12_enter_203 (by decide) ?_
      refine zz_iald 11 (by decide) (by decide) (by decide) rfl (Nat.lt_of_lt_of_le (by decide) hn) dX12_enter_205 ?_
      refine zz_iadd dX12_enter_206 ?_
      refine zz_iast 14 (by decide) (by decide) (by decide) rfl (Nat.lt_of_lt_of_le (by decide) hn) dX12_enter_207 ?_
      refine zz_aload_0 dX12_enter_208 ?_
      refine zz_getR fl_X12_7 rfl rfl (Nat.lt_of_lt_of_le (by decide) hn) (xr_50_0 hr) dX12_enter_209 ?_
      refine zz_bipush (13) dX12_enter_212 (by decide) ?_
      refine zz_iconst (0) dX12_enter_214 (by decide) ?_
      refine zz_iast 13 (by decide) (by decide) (by decide) rfl (Nat.lt_of_lt_of_le (by decide) hn) dX12_enter_215 ?_
      refine zz_iconst (0) dX12_enter_216 (by decide) ?_
      refine zz_iret rfl dX12_enter_217 (by decide) (by decide) ?_
      have hge : cw ≤ c := zz_gei (by rw [← hcw]; exact c_108) (by omega) (by omega)
      have h := h0 (by omega)
      rw [sp_ent0, ms_51, ms_51, ms_51, ms_51] at h
      rw [zz_u_same, zz_u_ne2 g _ (show 10 ≠ 13 by decide)] at c_184
      first
        | (rw [if_pos c_184] at h; rw [zz_u_same] ; exact h _ (ms_F.rf.u rfl (by decide)))
        | (rw [if_pos c_184] at h; exact h _ (ms_F.rf.u rfl (by decide)))
        | (rw [if_neg c_184] at h; simp (disch := omega) only [zz_u_ne2, zz_u_same]; exact h _ (((ms_F.rf.u rfl (by decide)).u rfl (by decide)).u rfl (by decide)))
  · skip
    refine zz_aload_0 dX12_enter_111 ?_
    refine zz_getR fl_X12_7 rfl rfl (Nat.lt_of_lt_of_le (by decide) hn) (xr_50_0 hr) dX12_enter_112 ?_
    refine zz_bipush (46) dX12_enter_115 (by decide) ?_
    refine zz_bipush (6) dX12_enter_117 (by decide) ?_
    refine zz_iload_2 dX12_enter_119 ?_
    refine zz_imul dX12_enter_120 ?_
    refine zz_iadd dX12_enter_121 ?_
    refine zz_iconst (5) dX12_enter_122 (by decide) ?_
    refine zz_iadd dX12_enter_123 ?_
    refine zz_iconst (1) dX12_enter_124 (by decide) ?_
    have hlt9 : c < cw := zz_lti (by rw [← hcw]; exact c_108) (by omega) (by omega)
    refine zz_isN (46 + 6 * c + 5) (by show nI 46 + nI 6 * nI c + nI 5 = _; rw [pk_mul, nI_add, nI_add]) (by omega) (by decide) rfl (Nat.lt_of_lt_of_le (by decide) hn) dX12_enter_125 ?_
    refine zz_aload_0 dX12_enter_126 ?_
    refine zz_getR fl_X12_7 rfl rfl (Nat.lt_of_lt_of_le (by decide) hn) (xr_50_0 hr) dX12_enter_127 ?_
    refine zz_bipush (15) dX12_enter_130 (by decide) ?_
    refine zz_aload_0 dX12_enter_132 ?_
    refine zz_getR fl_X12_7 rfl rfl (Nat.lt_of_lt_of_le (by decide) hn) (xr_50_0 hr) dX12_enter_133 ?_
    refine zz_bipush (15) dX12_enter_136 (by decide) ?_
    refine zz_iald 15 (by decide) (by decide) (by decide) rfl (Nat.lt_of_lt_of_le (by decide) hn) dX12_enter_138 ?_
    refine zz_iconst (1) dX12_enter_139 (by decide) ?_
    refine zz_iadd dX12_enter_140 ?_
    refine zz_iconst (0) dX12_enter_141 (by decide) ?_
    refine zz_sipush (9999) dX12_enter_142 (by decide) ?_
    refine zz_callS3i cs_X12_141 (Nat.le_of_ble_eq_true rfl) (by decide) (by decide) dX12_enter_145 (t_X12_held ⟨_, rfl, ?_⟩)
    refine zz_iast 15 (by decide) (by decide) (by decide) rfl (Nat.lt_of_lt_of_le (by decide) hn) dX12_enter_148 ?_
    refine zz_aload_0 dX12_enter_149 ?_
    refine zz_getR fl_X12_7 rfl rfl (Nat.lt_of_lt_of_le (by decide) hn) (xr_50_0 hr) dX12_enter_150 ?_
    refine zz_bipush (13) dX12_enter_153 (by decide) ?_
    refine zz_iconst (0) dX12_enter_155 (by decide) ?_
    refine zz_iast 13 (by decide) (by decide) (by decide) rfl (Nat.lt_of_lt_of_le (by decide) hn) dX12_enter_156 ?_
    refine zz_iconst (1) dX12_enter_157 (by decide) ?_
    refine zz_iret rfl dX12_enter_158 (by decide) (by decide) ?_
    have hlt : c < cw := zz_lti (by rw [← hcw]; exact c_108) (by omega) (by omega)
    have h := h1 hlt
    rw [sp_ent1, ms_51] at h
    rw [zz_u_ne2 g _ (show 15 ≠ 46 + 6 * c + 5 by omega)]
    exact h _ (((ms_F.rf.u rfl (by decide)).u rfl (by decide)).u rfl (by decide))

set_option maxRecDepth 100000 in
set_option maxHeartbeats 4000000 in
theorem l_X12_enter {C : zz_C} {d n : Nat} {g : zz_G} {r : zz_R} {Q : zz_Q} (hn : 60 ≤ n) (hr : xr r) (cw : Nat) (hcw : g 51 7 = nI cw) (hcw6 : cw ≤ 10) {x : Int32} {res : Nat} (hres : res ≤ 10) (h1 : res < cw → ms_o g r n Q (sp_ent1 (ms_S g) res)) (h0 : ¬ res < cw → ms_o g r n Q (sp_ent0 (ms_S g))) : ∀ (k : Nat) (f c : Nat), c + f = cw → f < k → sp_ec (g 51) x f c = res → zz_Z C mi_X12_enter (d + 2) 0 0 0 0 65 [some (.ref 50), some (.int x), some (.int (nI c))] [] g r n Q := by
  intro k
  induction k with
  | zero => intro f c hcf hk he; exact absurd hk (by omega)
  | succ k ih =>
    intro f c hcf hk he
    refine zz_iload_2 dX12_enter_65 ?_
    refine zz_aload_0 dX12_enter_66 ?_
    refine zz_getR fl_X12_7 rfl rfl (Nat.lt_of_lt_of_le (by decide) hn) (xr_50_0 hr) dX12_enter_67 ?_
    refine zz_bipush (7) dX12_enter_70 (by decide) ?_
    refine zz_iald 7 (by decide) (by decide) (by decide) rfl (Nat.lt_of_lt_of_le (by decide) hn) dX12_enter_72 ?_
    refine zz_icmp_ge 100 dX12_enter_73 (by decide) (fun c_73 => ?_) (fun c_73 => ?_)
    · skip
      have hge : cw ≤ c := zz_gei (by rw [← hcw]; exact c_73) (by omega) (by omega)
      obtain rfl : f = 0 := by omega
      rw [sp_ec] at he
      subst he
      exact e_X12_enter (d := d) hn hr cw hcw hcw6 hres h1 h0
    · skip
      refine zz_aload_0 dX12_enter_76 ?_
      refine zz_iload_2 dX12_enter_77 ?_
      have hlt : c < cw := zz_lti (by rw [← hcw]; exact c_73) (by omega) (by omega)
      obtain ⟨f, rfl⟩ : ∃ f2, f = f2 + 1 := ⟨f - 1, by omega⟩
      refine zz_callV1i cv_X12_171 rfl (Nat.lt_of_lt_of_le (by decide) hn) (Nat.le_of_ble_eq_true rfl) (by decide) (by decide) dX12_enter_78 (t_X12_counts hn hr c (by omega) rfl (fun y_78 => ⟨_, rfl, ?_⟩) (fun y_78 => ⟨_, rfl, ?_⟩))
      · skip
        refine zz_if_eq 94 dX12_enter_81 (by decide) (fun h => absurd h (by decide)) (fun _ => ?_)
        refine zz_aload_0 dX12_enter_84 ?_
        refine zz_iload_2 dX12_enter_85 ?_
        refine zz_iconst (1) dX12_enter_86 (by decide) ?_
        refine zz_callV2i cv_X12_165 rfl (Nat.lt_of_lt_of_le (by decide) hn) (Nat.le_of_ble_eq_true rfl) (by decide) (by decide) dX12_enter_87 (t_X12_of hn hr c 1 rfl rfl (by omega) ⟨_, rfl, ?_⟩)
        refine zz_iload_1 dX12_enter_90 ?_
        refine zz_icmp_eq 100 dX12_enter_91 (by decide) (fun c_91 => ?_) (fun c_91 => ?_)
        · skip
          rw [sp_ec_yes ⟨y_78, c_91⟩] at he
          subst he
          exact e_X12_enter (d := d) hn hr cw hcw hcw6 hres h1 h0
        · skip
          refine zz_iinc_2 (1) dX12_enter_94 rfl rfl (by decide) ?_
          refine zz_goto 65 dX12_enter_97 (by decide) ?_
          first
            | rw [sp_ec_no (fun q => c_91 q.2)] at he
            | rw [sp_ec_no (fun q => y_78 q.1)] at he
          rw [nI_1]
          exact ih f (c + 1) (by omega) (by omega) he
      · skip
        refine zz_if_eq 94 dX12_enter_81 (by decide) (fun _ => ?_) (fun h => absurd h (by decide))
        refine zz_iinc_2 (1) dX12_enter_94 rfl rfl (by decide) ?_
        refine zz_goto 65 dX12_enter_97 (by decide) ?_
        first
          | rw [sp_ec_no (fun q => c_91 q.2)] at he
          | rw [sp_ec_no (fun q => y_78 q.1)] at he
        rw [nI_1]
        exact ih f (c + 1) (by omega) (by omega) he

theorem sp_ec_le {R : Nat → Int32} {x : Int32} : ∀ f c, sp_ec R x f c ≤ c + f := by
  intro f
  induction f with
  | zero => intro c; exact Nat.le_refl _
  | succ f ih =>
    intro c
    rw [sp_ec]
    split
    · omega
    · have := ih (c + 1)
      omega
set_option maxRecDepth 100000 in
set_option maxHeartbeats 4000000 in
theorem t_X12_enter {C : zz_C} {d n : Nat} {g : zz_G} {r : zz_R} {Q : zz_Q} (hn : 60 ≤ n) (hr : xr r) {x : Int32} (cw : Nat) (hcw : g 51 7 = nI cw) (hcw6 : cw ≤ 10) (h : ms_o g r n Q (sp_enter (ms_S g) x)) : zz_T C mi_X12_enter (d + 2) 0 0 [.ref 50, .int x] g r n Q := by
  refine zz_T.of [some (.ref 50), some (.int x), none] (by decide +kernel) rfl (Nat.le_of_ble_eq_true rfl) ?_
  refine zz_iload_1 dX12_enter_0 ?_
  refine zz_iconst (0) dX12_enter_1 (by decide) ?_
  refine zz_ldc dX12_enter_2 ct_X12_174 ?_
  refine zz_callS3i cs_X12_38 (Nat.le_of_ble_eq_true rfl) (by decide) (by decide) dX12_enter_4 (t_X12_in (fun a_4 b_4 => ⟨_, rfl, ?_⟩) (fun o_4 => ⟨_, rfl, ?_⟩))
  · skip
    refine zz_if_ne 17 dX12_enter_7 (by decide) (fun _ => ?_) (fun h => absurd h (by decide))
    refine zz_aload_0 dX12_enter_17 ?_
    refine zz_getR fl_X12_7 rfl rfl (Nat.lt_of_lt_of_le (by decide) hn) (xr_50_0 hr) dX12_enter_18 ?_
    refine zz_iconst (0) dX12_enter_21 (by decide) ?_
    refine zz_iald 0 (by decide) (by decide) (by decide) rfl (Nat.lt_of_lt_of_le (by decide) hn) dX12_enter_22 ?_
    refine zz_aload_0 dX12_enter_23 ?_
    refine zz_getR fl_X12_7 rfl rfl (Nat.lt_of_lt_of_le (by decide) hn) (xr_50_0 hr) dX12_enter_24 ?_
    refine zz_bipush (14) dX12_enter_27 (by decide) ?_
    refine zz_iald 14 (by decide) (by decide) (by decide) rfl (Nat.lt_of_lt_of_le (by decide) hn) dX12_enter_29 ?_
    refine zz_icmp_lt 46 dX12_enter_30 (by decide) (fun c_30 => ?_) (fun c_30 => ?_)
    · skip
      refine zz_aload_0 dX12_enter_46 ?_
      refine zz_ldc dX12_enter_47 ct_X12_161 ?_
      refine zz_callV1i cv_X12_51 rfl (Nat.lt_of_lt_of_le (by decide) hn) (Nat.le_of_ble_eq_true rfl) (by decide) (by decide) dX12_enter_49 (t_X12_errs hn hr 3 (by decide) (by decide) ⟨_, rfl, ?_⟩)
      refine zz_iret rfl dX12_enter_52 (by decide) (by decide) ?_
      rw [sp_enter, if_neg (fun q => q.elim a_4 b_4), ms_51, ms_51] at h
      first
        | (rw [if_neg c_30, if_neg c_43] at h; exact ms_er (by decide) h)
        | (rw [if_pos c_30] at h; exact ms_er (by decide) h)
    · skip
      refine zz_aload_0 dX12_enter_33 ?_
      refine zz_getR fl_X12_7 rfl rfl (Nat.lt_of_lt_of_le (by decide) hn) (xr_50_0 hr) dX12_enter_34 ?_
      refine zz_iconst (0) dX12_enter_37 (by decide) ?_
      refine zz_iald 0 (by decide) (by decide) (by decide) rfl (Nat.lt_of_lt_of_le (by decide) hn) dX12_enter_38 ?_
      refine zz_iconst (2) dX12_enter_39 (by decide) ?_
      refine zz_iadd dX12_enter_40 ?_
      refine zz_ldc dX12_enter_41 ct_X12_174 ?_
      refine zz_icmp_le 53 dX12_enter_43 (by decide) (fun c_43 => ?_) (fun c_43 => ?_)
      · skip
        refine zz_aload_0 dX12_enter_53 ?_
        refine zz_getR fl_X12_7 rfl rfl (Nat.lt_of_lt_of_le (by decide) hn) (xr_50_0 hr) dX12_enter_54 ?_
        refine zz_iconst (0) dX12_enter_57 (by decide) ?_
        refine zz_dup2 dX12_enter_58 rfl rfl ?_
        refine zz_iald 0 (by decide) (by decide) (by decide) rfl (Nat.lt_of_lt_of_le (by decide) hn) dX12_enter_59 ?_
        refine zz_iconst (2) dX12_enter_60 (by decide) ?_
        refine zz_iadd dX12_enter_61 ?_
        refine zz_iast 0 (by decide) (by decide) (by decide) rfl (Nat.lt_of_lt_of_le (by decide) hn) dX12_enter_62 ?_
        refine zz_iconst (0) dX12_enter_63 (by decide) ?_
        refine zz_istore_2 dX12_enter_64 rfl rfl ?_
        rw [sp_enter, if_neg (fun q => q.elim a_4 b_4), ms_51, ms_51, if_neg c_30, if_pos c_43, ms_51, hcw, ix_w (by omega), ← ms_u (g := g) _ (show ms_k 51 0 = true from rfl), ms_R] at h
        have hle := sp_ec_le (R := zz_u g 51 0 (g 51 0 + 2) 51) (x := x) cw 0
        have fr : ∀ sp : Int32 × zz_G, ms_o g r n Q sp → ms_o (zz_u g 51 0 (g 51 0 + 2)) r n Q sp := fun sp hs g2 h2 => hs g2 ⟨h2.1, fun k hk => (h2.2 k hk).trans (zz_u_row g _ (by omega))⟩
        refine l_X12_enter (d := d) hn hr cw (by rw [zz_u_ne2 g _ (by decide)]; exact hcw) hcw6 (res := sp_ec (zz_u g 51 0 (g 51 0 + 2) 51) x cw 0) (by omega) (fun q => fr _ ?_) (fun q => fr _ ?_) (cw + 1) cw 0 (by omega) (by omega) rfl
        · rw [if_pos q] at h; exact h
        · rw [if_neg q] at h; exact h
      · skip
        refine zz_aload_0 dX12_enter_46 ?_
        refine zz_ldc dX12_enter_47 ct_X12_161 ?_
        refine zz_callV1i cv_X12_51 rfl (Nat.lt_of_lt_of_le (by decide) hn) (Nat.le_of_ble_eq_true rfl) (by decide) (by decide) dX12_enter_49 (t_X12_errs hn hr 3 (by decide) (by decide) ⟨_, rfl, ?_⟩)
        refine zz_iret rfl dX12_enter_52 (by decide) (by decide) ?_
        rw [sp_enter, if_neg (fun q => q.elim a_4 b_4), ms_51, ms_51] at h
        first
          | (rw [if_neg c_30, if_neg c_43] at h; exact ms_er (by decide) h)
          | (rw [if_pos c_30] at h; exact ms_er (by decide) h)
  · skip
    refine zz_if_ne 17 dX12_enter_7 (by decide) (fun h => absurd h (by decide)) (fun _ => ?_)
    refine zz_aload_0 dX12_enter_10 ?_
    refine zz_ldc dX12_enter_11 ct_X12_50 ?_
    refine zz_callV1i cv_X12_51 rfl (Nat.lt_of_lt_of_le (by decide) hn) (Nat.le_of_ble_eq_true rfl) (by decide) (by decide) dX12_enter_13 (t_X12_errs hn hr 1 (by decide) (by decide) ⟨_, rfl, ?_⟩)
    refine zz_iret rfl dX12_enter_16 (by decide) (by decide) ?_
    rw [sp_enter, if_pos o_4] at h
    exact ms_er (by decide) h
