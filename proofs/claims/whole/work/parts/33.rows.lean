def sp_jg (S : zz_G) (s m z : Nat) : Nat → Nat → Nat
  | 0, w => w
  | f + 1, w => if w < m ∧ w < z ∧ S 57 (40 * s + w) = S 51 (16 + 5 * w + 3) then sp_jg S s m z f (w + 1) else w
theorem sp_jg_no {S : zz_G} {s m z f w : Nat} (h : ¬ (w < m ∧ w < z ∧ S 57 (40 * s + w) = S 51 (16 + 5 * w + 3))) : sp_jg S s m z f w = w := by
  cases f with
  | zero => rfl
  | succ f => rw [sp_jg, if_neg h]
theorem sp_jg_congr {S S' : zz_G} {s m z : Nat} (h1 : S' 57 = S 57) (h2 : S' 51 = S 51) : ∀ f w, sp_jg S' s m z f w = sp_jg S s m z f w := by
  intro f
  induction f with
  | zero => intro w; rfl
  | succ f ih => intro w; rw [sp_jg, sp_jg, h1, h2, ih]
def sp_judge (S : zz_G) (s : Int32) : Int32 × zz_G := if sp_nosh s then sp_err S 1 else if S 55 s.toNatClampNeg = 0 then sp_err S 2 else (if nI (sp_jg S s.toNatClampNeg (S 51 2).toNatClampNeg (S 56 s.toNatClampNeg).toNatClampNeg (S 51 2).toNatClampNeg 0) = S 51 2 ∧ nI (sp_jg S s.toNatClampNeg (S 51 2).toNatClampNeg (S 56 s.toNatClampNeg).toNatClampNeg (S 51 2).toNatClampNeg 0) = S 56 s.toNatClampNeg then -1 else nI (sp_jg S s.toNatClampNeg (S 51 2).toNatClampNeg (S 56 s.toNatClampNeg).toNatClampNeg (S 51 2).toNatClampNeg 0), S)
theorem ms_R57 (g : zz_G) : ms_S g 57 = g 57 := funext (ms_57 g)
def sp_zero (S : zz_G) (s m : Nat) : zz_G := fun a b => if a = 57 ∧ 40 * s ≤ b ∧ b < 40 * s + m then 0 else S a b
theorem sp_zero_0 (S : zz_G) (s : Nat) : sp_zero S s 0 = S := by
  funext a b
  unfold sp_zero
  rw [if_neg (by omega)]
theorem sp_zero_s (S : zz_G) (s m : Nat) : zz_u (sp_zero S s m) 57 (40 * s + m) 0 = sp_zero S s (m + 1) := by
  funext a b
  unfold zz_u sp_zero
  by_cases h : a = 57 ∧ b = 40 * s + m
  · rw [if_pos h, if_pos (by omega)]
  · rw [if_neg h]
    by_cases h2 : a = 57 ∧ 40 * s ≤ b ∧ b < 40 * s + m
    · rw [if_pos h2, if_pos (by omega)]
    · rw [if_neg h2, if_neg (by omega)]
theorem sp_zero_F {g g' S' : zz_G} {s m : Nat} (h : ms_F g g' S') : ms_F g (sp_zero g' s m) (sp_zero S' s m) := by
  induction m with
  | zero => rw [sp_zero_0, sp_zero_0]; exact h
  | succ m ih => rw [← sp_zero_s, ← sp_zero_s]; exact ih.u rfl (by decide)
def sp_okb (b : Int32) : Prop := b = 0 ∨ b = 8 ∨ b = 16 ∨ b = 32
def sp_sheetT (S : zz_G) (s : Nat) (b m : Int32) : Int32 × zz_G := (1, sp_zero (zz_u (zz_u S 55 s b) 56 s (if b = 0 then 0 else m)) s 40)
abbrev sp_sb (b : Int32) : Prop := b = 0 ∨ b = 8 ∨ b = 16 ∨ b = 32
def sp_sheet (S : zz_G) (s b m : Int32) : Int32 × zz_G := if sp_nosh s then sp_err S 1 else if ¬ sp_sb b then sp_err S 1 else if ¬ b = 0 ∧ ¬ 0 ≤ m then sp_err S 3 else if ¬ b = 0 ∧ ¬ m ≤ 40 then sp_err S 1 else sp_sheetT S s.toNatClampNeg b m
def sp_ec (R : Nat → Int32) (x : Int32) : Nat → Nat → Nat
  | 0, c => c
  | f + 1, c => if sp_counts R c ∧ R (46 + 6 * c + 1) = x then c else sp_ec R x f (c + 1)
def sp_ent1 (S : zz_G) (c : Nat) : Int32 × zz_G := (1, zz_u (zz_u (zz_u S 51 (46 + 6 * c + 5) 1) 51 15 (sp_held (S 51 15 + 1) 0 9999)) 51 13 0)
def sp_ent0 (S : zz_G) : Int32 × zz_G := if S 51 13 + 1 < S 51 10 then (0, zz_u S 51 13 (S 51 13 + 1)) else (0, zz_u (zz_u (zz_u S 51 13 (S 51 13 + 1)) 51 14 (S 51 0 + S 51 11)) 51 13 0)
def sp_enter (S : zz_G) (x : Int32) : Int32 × zz_G := if x < 0 ∨ 999999 < x then sp_err S 1 else if S 51 0 < S 51 14 then sp_err S 3 else if S 51 0 + 2 ≤ 999999 then (if sp_ec (zz_u S 51 0 (S 51 0 + 2) 51) x (S 51 7).toNatClampNeg 0 < (S 51 7).toNatClampNeg then sp_ent1 (zz_u S 51 0 (S 51 0 + 2)) (sp_ec (zz_u S 51 0 (S 51 0 + 2) 51) x (S 51 7).toNatClampNeg 0) else sp_ent0 (zz_u S 51 0 (S 51 0 + 2))) else sp_err S 3
set_option maxRecDepth 100000 in
set_option maxHeartbeats 4000000 in
theorem l_X12_judge {C : zz_C} {d n : Nat} {g : zz_G} {r : zz_R} {Q : zz_Q} (hn : 60 ≤ n) (hr : xr r) (mw : Nat) (hmw : g 51 2 = nI mw) (hmw6 : mw ≤ 6) {v : Int32} (s1 z1 : Nat) (hs1 : s1 < 4) (hz1 : z1 ≤ 40) (es1 : v = nI s1) (ez1 : g 56 s1 = nI z1) {res : Nat} (h : Q (some (.int (if nI res = g 51 2 ∧ nI res = g 56 s1 then -1 else nI res))) g r n) : ∀ (k : Nat) (f w : Nat), w ≤ mw → mw ≤ w + f → f < k → sp_jg g s1 mw z1 f w = res → zz_Z C mi_X12_judge (d + 2) 0 0 0 0 32 [some (.ref 50), some (.int v), some (.int (nI w))] [] g r n Q := by
  intro k
  induction k with
  | zero => intro f w hw hwf hk he; exact absurd hk (by omega)
  | succ k ih =>
    intro f w hw hwf hk he
    refine zz_iload_2 dX12_judge_32 ?_
    refine zz_aload_0 dX12_judge_33 ?_
    refine zz_getR fl_X12_7 rfl rfl (Nat.lt_of_lt_of_le (by decide) hn) (xr_50_0 hr) dX12_judge_34 ?_
    refine zz_iconst (2) dX12_judge_37 (by decide) ?_
    refine zz_iald 2 (by decide) (by decide) (by decide) rfl (Nat.lt_of_lt_of_le (by decide) hn) dX12_judge_38 ?_
    refine zz_icmp_ge 78 dX12_judge_39 (by decide) (fun c_39 => ?_) (fun c_39 => ?_)
    · skip
      refine zz_iload_2 dX12_judge_78 ?_
      refine zz_aload_0 dX12_judge_79 ?_
      refine zz_getR fl_X12_7 rfl rfl (Nat.lt_of_lt_of_le (by decide) hn) (xr_50_0 hr) dX12_judge_80 ?_
      refine zz_iconst (2) dX12_judge_83 (by decide) ?_
      refine zz_iald 2 (by decide) (by decide) (by decide) rfl (Nat.lt_of_lt_of_le (by decide) hn) dX12_judge_84 ?_
      refine zz_icmp_ne 102 dX12_judge_85 (by decide) (fun c_85 => ?_) (fun c_85 => ?_)
      · skip
        refine zz_iload_2 dX12_judge_102 ?_
        refine zz_iret rfl dX12_judge_103 (by decide) (by decide) ?_
        have hno : ¬ (w < mw ∧ w < z1 ∧ g 57 (40 * s1 + w) = g 51 (16 + 5 * w + 3)) := by
          first
            | exact fun q => c_69 q.2.2
            | (intro q; rw [ez1] at c_49; exact absurd (zz_gei c_49 (by omega) (by omega)) (by omega))
            | (intro q; rw [hmw] at c_39; exact absurd (zz_gei c_39 (by omega) (by omega)) (by omega))
        rw [sp_jg_no hno] at he
        subst he
        first
          | (rw [if_pos ⟨c_85, c_95⟩] at h; exact h)
          | (rw [if_neg (fun q => c_95 q.2)] at h; exact h)
          | (rw [if_neg (fun q => c_85 q.1)] at h; exact h)
      · skip
        refine zz_iload_2 dX12_judge_88 ?_
        refine zz_aload_0 dX12_judge_89 ?_
        refine zz_getR fl_X12_25 rfl rfl (Nat.lt_of_lt_of_le (by decide) hn) (xr_50_15 hr) dX12_judge_90 ?_
        refine zz_iload_1 dX12_judge_93 ?_
        refine zz_iaN s1 es1 (by omega) (by decide) rfl (Nat.lt_of_lt_of_le (by decide) hn) dX12_judge_94 ?_
        refine zz_icmp_ne 102 dX12_judge_95 (by decide) (fun c_95 => ?_) (fun c_95 => ?_)
        · skip
          refine zz_iload_2 dX12_judge_102 ?_
          refine zz_iret rfl dX12_judge_103 (by decide) (by decide) ?_
          have hno : ¬ (w < mw ∧ w < z1 ∧ g 57 (40 * s1 + w) = g 51 (16 + 5 * w + 3)) := by
            first
              | exact fun q => c_69 q.2.2
              | (intro q; rw [ez1] at c_49; exact absurd (zz_gei c_49 (by omega) (by omega)) (by omega))
              | (intro q; rw [hmw] at c_39; exact absurd (zz_gei c_39 (by omega) (by omega)) (by omega))
          rw [sp_jg_no hno] at he
          subst he
          first
            | (rw [if_pos ⟨c_85, c_95⟩] at h; exact h)
            | (rw [if_neg (fun q => c_95 q.2)] at h; exact h)
            | (rw [if_neg (fun q => c_85 q.1)] at h; exact h)
        · skip
          refine zz_iconst (-1) dX12_judge_98 (by decide) ?_
          refine zz_goto 103 dX12_judge_99 (by decide) ?_
          refine zz_iret rfl dX12_judge_103 (by decide) (by decide) ?_
          have hno : ¬ (w < mw ∧ w < z1 ∧ g 57 (40 * s1 + w) = g 51 (16 + 5 * w + 3)) := by
            first
              | exact fun q => c_69 q.2.2
              | (intro q; rw [ez1] at c_49; exact absurd (zz_gei c_49 (by omega) (by omega)) (by omega))
              | (intro q; rw [hmw] at c_39; exact absurd (zz_gei c_39 (by omega) (by omega)) (by omega))
          rw [sp_jg_no hno] at he
          subst he
          first
            | (rw [if_pos ⟨c_85, c_95⟩] at h; exact h)
            | (rw [if_neg (fun q => c_95 q.2)] at h; exact h)
            | (rw [if_neg (fun q => c_85 q.1)] at h; exact h)
    · skip
      refine zz_iload_2 dX12_judge_42 ?_
      refine zz_aload_0 dX12_judge_43 ?_
      refine zz_getR fl_X12_25 rfl rfl (Nat.lt_of_lt_of_le (by decide) hn) (xr_50_15 hr) dX12_judge_44 ?_
      refine zz_iload_1 dX12_judge_47 ?_
      refine zz_iaN s1 es1 (by omega) (by decide) rfl (Nat.lt_of_lt_of_le (by decide) hn) dX12_judge_48 ?_
      refine zz_icmp_ge 78 dX12_judge_49 (by decide) (fun c_49 => ?_) (fun c_49 => ?_)
      · skip
        refine zz_iload_2 dX12_judge_78 ?_
        refine zz_aload_0 dX12_judge_79 ?_
        refine zz_getR fl_X12_7 rfl rfl (Nat.lt_of_lt_of_le (by decide) hn) (xr_50_0 hr) dX12_judge_80 ?_
        refine zz_iconst (2) dX12_judge_83 (by decide) ?_
        refine zz_iald 2 (by decide) (by decide) (by decide) rfl (Nat.lt_of_lt_of_le (by decide) hn) dX12_judge_84 ?_
        refine zz_icmp_ne 102 dX12_judge_85 (by decide) (fun c_85 => ?_) (fun c_85 => ?_)
        · skip
          refine zz_iload_2 dX12_judge_102 ?_
          refine zz_iret rfl dX12_judge_103 (by decide) (by decide) ?_
          have hno : ¬ (w < mw ∧ w < z1 ∧ g 57 (40 * s1 + w) = g 51 (16 + 5 * w + 3)) := by
            first
              | exact fun q => c_69 q.2.2
              | (intro q; rw [ez1] at c_49; exact absurd (zz_gei c_49 (by omega) (by omega)) (by omega))
              | (intro q; rw [hmw] at c_39; exact absurd (zz_gei c_39 (by omega) (by omega)) (by omega))
          rw [sp_jg_no hno] at he
          subst he
          first
            | (rw [if_pos ⟨c_85, c_95⟩] at h; exact h)
            | (rw [if_neg (fun q => c_95 q.2)] at h; exact h)
            | (rw [if_neg (fun q => c_85 q.1)] at h; exact h)
        · skip
          refine zz_iload_2 dX12_judge_88 ?_
          refine zz_aload_0 dX12_judge_89 ?_
          refine zz_getR fl_X12_25 rfl rfl (Nat.lt_of_lt_of_le (by decide) hn) (xr_50_15 hr) dX12_judge_90 ?_
          refine zz_iload_1 dX12_judge_93 ?_
          refine zz_iaN s1 es1 (by omega) (by decide) rfl (Nat.lt_of_lt_of_le (by decide) hn) dX12_judge_94 ?_
          refine zz_icmp_ne 102 dX12_judge_95 (by decide) (fun c_95 => ?_) (fun c_95 => ?_)
          · skip
            refine zz_iload_2 dX12_judge_102 ?_
            refine zz_iret rfl dX12_judge_103 (by decide) (by decide) ?_
            have hno : ¬ (w < mw ∧ w < z1 ∧ g 57 (40 * s1 + w) = g 51 (16 + 5 * w + 3)) := by
              first
                | exact fun q => c_69 q.2.2
                | (intro q; rw [ez1] at c_49; exact absurd (zz_gei c_49 (by omega) (by omega)) (by omega))
                | (intro q; rw [hmw] at c_39; exact absurd (zz_gei c_39 (by omega) (by omega)) (by omega))
            rw [sp_jg_no hno] at he
            subst he
            first
              | (rw [if_pos ⟨c_85, c_95⟩] at h; exact h)
              | (rw [if_neg (fun q => c_95 q.2)] at h; exact h)
              | (rw [if_neg (fun q => c_85 q.1)] at h; exact h)
          · skip
            refine zz_iconst (-1) dX12_judge_98 (by decide) ?_
            refine zz_goto 103 dX12_judge_99 (by decide) ?_
            refine zz_iret rfl dX12_judge_103 (by decide) (by decide) ?_
            have hno : ¬ (w < mw ∧ w < z1 ∧ g 57 (40 * s1 + w) = g 51 (16 + 5 * w + 3)) := by
              first
                | exact fun q => c_69 q.2.2
                | (intro q; rw [ez1] at c_49; exact absurd (zz_gei c_49 (by omega) (by omega)) (by omega))
                | (intro q; rw [hmw] at c_39; exact absurd (zz_gei c_39 (by omega) (by omega)) (by omega))
            rw [sp_jg_no hno] at he
            subst he
            first
              | (rw [if_pos ⟨c_85, c_95⟩] at h; exact h)
              | (rw [if_neg (fun q => c_95 q.2)] at h; exact h)
              | (rw [if_neg (fun q => c_85 q.1)] at h; exact h)
      · skip
        refine zz_aload_0 dX12_judge_52 ?_
        refine zz_getR fl_X12_28 rfl rfl (Nat.lt_of_lt_of_le (by decide) hn) (xr_50_16 hr) dX12_judge_53 ?_
        refine zz_bipush (40) dX12_judge_56 (by decide) ?_
        refine zz_iload_1 dX12_judge_58 ?_
        refine zz_imul dX12_judge_59 ?_
        refine zz_iload_2 dX12_judge_60 ?_
        refine zz_iadd dX12_judge_61 ?_
        have hwm : w < mw := zz_lti (by rw [← hmw]; exact c_39) (by omega) (by omega)
        have hwz : w < z1 := zz_lti (by rw [← ez1]; exact c_49) (by omega) (by omega)
        refine zz_iaN (40 * s1 + w) (by rw [es1]; show nI 40 * nI s1 + nI w = _; rw [pk_mul, nI_add]) (by omega) (by decide) rfl (Nat.lt_of_lt_of_le (by decide) hn) dX12_judge_62 ?_
        refine zz_aload_0 dX12_judge_63 ?_
        refine zz_iload_2 dX12_judge_64 ?_
        refine zz_iconst (3) dX12_judge_65 (by decide) ?_
        refine zz_callV2i cv_X12_64 rfl (Nat.lt_of_lt_of_le (by decide) hn) (Nat.le_of_ble_eq_true rfl) (by decide) (by decide) dX12_judge_66 (t_X12_its hn hr w 3 rfl rfl (by omega) ⟨_, rfl, ?_⟩)
        refine zz_icmp_ne 78 dX12_judge_69 (by decide) (fun c_69 => ?_) (fun c_69 => ?_)
        · skip
          refine zz_iload_2 dX12_judge_78 ?_
          refine zz_aload_0 dX12_judge_79 ?_
          refine zz_getR fl_X12_7 rfl rfl (Nat.lt_of_lt_of_le (by decide) hn) (xr_50_0 hr) dX12_judge_80 ?_
          refine zz_iconst (2) dX12_judge_83 (by decide) ?_
          refine zz_iald 2 (by decide) (by decide) (by decide) rfl (Nat.lt_of_lt_of_le (by decide) hn) dX12_judge_84 ?_
          refine zz_icmp_ne 102 dX12_judge_85 (by decide) (fun c_85 => ?_) (fun c_85 => ?_)
          · skip
            refine zz_iload_2 dX12_judge_102 ?_
            refine zz_iret rfl dX12_judge_103 (by decide) (by decide) ?_
            have hno : ¬ (w < mw ∧ w < z1 ∧ g 57 (40 * s1 + w) = g 51 (16 + 5 * w + 3)) := by
              first
                | exact fun q => c_69 q.2.2
                | (intro q; rw [ez1] at c_49; exact absurd (zz_gei c_49 (by omega) (by omega)) (by omega))
                | (intro q; rw [hmw] at c_39; exact absurd (zz_gei c_39 (by omega) (by omega)) (by omega))
            rw [sp_jg_no hno] at he
            subst he
            first
              | (rw [if_pos ⟨c_85, c_95⟩] at h; exact h)
              | (rw [if_neg (fun q => c_95 q.2)] at h; exact h)
              | (rw [if_neg (fun q => c_85 q.1)] at h; exact h)
          · skip
            refine zz_iload_2 dX12_judge_88 ?_
            refine zz_aload_0 dX12_judge_89 ?_
            refine zz_getR fl_X12_25 rfl rfl (Nat.lt_of_lt_of_le (by decide) hn) (xr_50_15 hr) dX12_judge_90 ?_
            refine zz_iload_1 dX12_judge_93 ?_
            refine zz_iaN s1 es1 (by omega) (by decide) rfl (Nat.lt_of_lt_of_le (by decide) hn) dX12_judge_94 ?_
            refine zz_icmp_ne 102 dX12_judge_95 (by decide) (fun c_95 => ?_) (fun c_95 => ?_)
            · skip
              refine zz_iload_2 dX12_judge_102 ?_
              refine zz_iret rfl dX12_judge_103 (by decide) (by decide) ?_
              have hno : ¬ (w < mw ∧ w < z1 ∧ g 57 (40 * s1 + w) = g 51 (16 + 5 * w + 3)) := by
                first
                  | exact fun q => c_69 q.2.2
                  | (intro q; rw [ez1] at c_49; exact absurd (zz_gei c_49 (by omega) (by omega)) (by omega))
                  | (intro q; rw [hmw] at c_39; exact absurd (zz_gei c_39 (by omega) (by omega)) (by omega))
              rw [sp_jg_no hno] at he
              subst he
              first
                | (rw [if_pos ⟨c_85, c_95⟩] at h; exact h)
                | (rw [if_neg (fun q => c_95 q.2)] at h; exact h)
                | (rw [if_neg (fun q => c_85 q.1)] at h; exact h)
            · skip
              refine zz_iconst (-1) dX12_judge_98 (by decide) ?_
              refine zz_goto 103 dX12_judge_99 (by decide) ?_
              refine zz_iret rfl dX12_judge_103 (by decide) (by decide) ?_
              have hno : ¬ (w < mw ∧ w < z1 ∧ g 57 (40 * s1 + w) = g 51 (16 + 5 * w + 3)) := by
                first
                  | exact fun q => c_69 q.2.2
                  | (intro q; rw [ez1] at c_49; exact absurd (zz_gei c_49 (by omega) (by omega)) (by omega))
                  | (intro q; rw [hmw] at c_39; exact absurd (zz_gei c_39 (by omega) (by omega)) (by omega))
              rw [sp_jg_no hno] at he
              subst he
              first
                | (rw [if_pos ⟨c_85, c_95⟩] at h; exact h)
                | (rw [if_neg (fun q => c_95 q.2)] at h; exact h)
                | (rw [if_neg (fun q => c_85 q.1)] at h; exact h)
        · skip
          refine zz_iinc_2 (1) dX12_judge_72 rfl rfl (by decide) ?_
          refine zz_goto 32 dX12_judge_75 (by decide) ?_
          obtain ⟨f, rfl⟩ : ∃ f2, f = f2 + 1 := ⟨f - 1, by omega⟩
          rw [sp_jg, if_pos ⟨hwm, hwz, c_69⟩] at he
          rw [nI_1]
          exact ih f (w + 1) (by omega) (by omega) (by omega) he

set_option maxRecDepth 100000 in
set_option maxHeartbeats 4000000 in
theorem t_X12_judge {C : zz_C} {d n : Nat} {g : zz_G} {r : zz_R} {Q : zz_Q} (hn : 60 ≤ n) (hr : xr r) (mw : Nat) (hmw : g 51 2 = nI mw) (hmw6 : mw ≤ 6) {v : Int32} (hz : ∀ s : Nat, s < 4 → ∃ z : Nat, z ≤ 40 ∧ g 56 s = nI z) (h : ms_o g r n Q (sp_judge (ms_S g) v)) : zz_T C mi_X12_judge (d + 2) 0 0 [.ref 50, .int v] g r n Q := by
  refine zz_T.of [some (.ref 50), some (.int v), none] (by decide +kernel) rfl (Nat.le_of_ble_eq_true rfl) ?_
  refine zz_iload_1 dX12_judge_0 ?_
  refine zz_callS1i cs_X12_191 (Nat.le_of_ble_eq_true rfl) (by decide) (by decide) dX12_judge_1 (t_X12_isSheet (fun a_1 b_1 => ⟨_, rfl, ?_⟩) (fun o_1 => ⟨_, rfl, ?_⟩))
  · skip
    refine zz_if_ne 14 dX12_judge_4 (by decide) (fun _ => ?_) (fun h => absurd h (by decide))
    refine zz_aload_0 dX12_judge_14 ?_
    refine zz_getR fl_X12_22 rfl rfl (Nat.lt_of_lt_of_le (by decide) hn) (xr_50_14 hr) dX12_judge_15 ?_
    refine zz_iload_1 dX12_judge_18 ?_
    obtain ⟨s1, hs0, hs1, es1⟩ := zz_in0 (lo := 0) (hi := 3) rfl rfl (by decide) (by decide) a_1 b_1
    obtain ⟨z1, hz1, ez1⟩ := hz s1 (by omega)
    refine zz_iaN s1 es1 (by omega) (by decide) rfl (Nat.lt_of_lt_of_le (by decide) hn) dX12_judge_19 ?_
    refine zz_if_ne 30 dX12_judge_20 (by decide) (fun c_20 => ?_) (fun c_20 => ?_)
    · skip
      refine zz_iconst (0) dX12_judge_30 (by decide) ?_
      refine zz_istore_2 dX12_judge_31 rfl rfl ?_
      rw [sp_judge, if_neg (fun q => q.elim a_1 b_1), es1, ix_w (by omega), ms_55, if_neg c_20, ms_51, ms_56, hmw, ix_w (by omega), ez1, ix_w (by omega), sp_jg_congr (ms_R57 g) (ms_R g)] at h
      refine l_X12_judge (d := d) hn hr mw hmw hmw6 s1 z1 (by omega) hz1 es1 ez1 ?_ (mw + 1) mw 0 (by omega) (by omega) (by omega) rfl
      rw [hmw, ez1]
      exact ms_mj h mj_rf
    · skip
      refine zz_aload_0 dX12_judge_23 ?_
      refine zz_ldc dX12_judge_24 ct_X12_184 ?_
      refine zz_callV1i cv_X12_51 rfl (Nat.lt_of_lt_of_le (by decide) hn) (Nat.le_of_ble_eq_true rfl) (by decide) (by decide) dX12_judge_26 (t_X12_errs hn hr 2 (by decide) (by decide) ⟨_, rfl, ?_⟩)
      refine zz_iret rfl dX12_judge_29 (by decide) (by decide) ?_
      rw [sp_judge, if_neg (fun q => q.elim a_1 b_1), es1, ix_w (by omega), ms_55, if_pos c_20] at h
      exact ms_er (by decide) h
  · skip
    refine zz_if_ne 14 dX12_judge_4 (by decide) (fun h => absurd h (by decide)) (fun _ => ?_)
    refine zz_aload_0 dX12_judge_7 ?_
    refine zz_ldc dX12_judge_8 ct_X12_50 ?_
    refine zz_callV1i cv_X12_51 rfl (Nat.lt_of_lt_of_le (by decide) hn) (Nat.le_of_ble_eq_true rfl) (by decide) (by decide) dX12_judge_10 (t_X12_errs hn hr 1 (by decide) (by decide) ⟨_, rfl, ?_⟩)
    refine zz_iret rfl dX12_judge_13 (by decide) (by decide) ?_
    rw [sp_judge, if_pos o_1] at h
    exact ms_er (by decide) h

set_option maxRecDepth 100000 in
set_option maxHeartbeats 4000000 in
theorem l_X12_sheet {C : zz_C} {d n : Nat} {g : zz_G} {r : zz_R} {Q : zz_Q} (hn : 60 ≤ n) (hr : xr r) {v b m : Int32} (s1 : Nat) (hs1 : s1 < 4) (es1 : v = nI s1) (h : Q (some (.int 1)) (sp_zero g s1 40) r n) : ∀ (k : Nat) (j : Nat), j ≤ 40 → 40 - j < k → zz_Z C mi_X12_sheet (d + 2) 0 0 0 0 93 [some (.ref 50), some (.int v), some (.int b), some (.int m), some (.int (nI j))] [] (sp_zero g s1 j) r n Q := by
  intro k
  induction k with
  | zero => intro j hj hk; exact absurd hk (by omega)
  | succ k ih =>
    intro j hj hk
    refine zz_iload_4 dX12_sheet_93 ?_
    refine zz_bipush (40) dX12_sheet_95 (by decide) ?_
    refine zz_icmp_ge 119 dX12_sheet_97 (by decide) (fun c_97 => ?_) (fun c_97 => ?_)
    · skip
      refine zz_iconst (1) dX12_sheet_119 (by decide) ?_
      refine zz_iret rfl dX12_sheet_120 (by decide) (by decide) ?_
      have := zz_gei (b := 40) c_97 (by omega) (by omega)
      rw [show j = 40 by omega]
      exact h
    · skip
      refine zz_aload_0 dX12_sheet_100 ?_
      refine zz_getR fl_X12_28 rfl rfl (Nat.lt_of_lt_of_le (by decide) hn) (xr_50_16 hr) dX12_sheet_101 ?_
      refine zz_bipush (40) dX12_sheet_104 (by decide) ?_
      refine zz_iload_1 dX12_sheet_106 ?_
      refine zz_imul dX12_sheet_107 ?_
      refine zz_iload_4 dX12_sheet_108 ?_
      refine zz_iadd dX12_sheet_110 ?_
      refine zz_iconst (0) dX12_sheet_111 (by decide) ?_
      have hlt := zz_lti (b := 40) c_97 (by omega) (by omega)
      refine zz_isN (40 * s1 + j) (by rw [es1]; show nI 40 * nI s1 + nI j = _; rw [pk_mul, nI_add]) (by omega) (by decide) rfl (Nat.lt_of_lt_of_le (by decide) hn) dX12_sheet_112 ?_
      refine zz_iinc_4 (1) dX12_sheet_113 rfl rfl (by decide) ?_
      refine zz_goto 93 dX12_sheet_116 (by decide) ?_
      rw [sp_zero_s, nI_1]
      exact ih (j + 1) (by omega) (by omega)

set_option maxRecDepth 100000 in
set_option maxHeartbeats 4000000 in
theorem e_X12_sheet {C : zz_C} {d n : Nat} {g : zz_G} {r : zz_R} {Q : zz_Q} (hn : 60 ≤ n) (hr : xr r) {v b m : Int32} (s1 : Nat) (hs1 : s1 < 4) (es1 : v = nI s1) (h : ms_o g r n Q (sp_sheetT (ms_S g) s1 b m)) : zz_Z C mi_X12_sheet (d + 2) 0 0 0 0 68 [some (.ref 50), some (.int v), some (.int b), some (.int m), none] [] g r n Q := by
  refine zz_aload_0 dX12_sheet_68 ?_
  refine zz_getR fl_X12_22 rfl rfl (Nat.lt_of_lt_of_le (by decide) hn) (xr_50_14 hr) dX12_sheet_69 ?_
  refine zz_iload_1 dX12_sheet_72 ?_
  refine zz_iload_2 dX12_sheet_73 ?_
  refine zz_isN s1 es1 (by omega) (by decide) rfl (Nat.lt_of_lt_of_le (by decide) hn) dX12_sheet_74 ?_
  refine zz_aload_0 dX12_sheet_75 ?_
  refine zz_getR fl_X12_25 rfl rfl (Nat.lt_of_lt_of_le (by decide) hn) (xr_50_15 hr) dX12_sheet_76 ?_
  refine zz_iload_1 dX12_sheet_79 ?_
  refine zz_iload_2 dX12_sheet_80 ?_
  refine zz_if_ne 88 dX12_sheet_81 (by decide) (fun c_81 => ?_) (fun c_81 => ?_)
  · skip
    refine zz_iload_3 dX12_sheet_88 ?_
    refine zz_isN s1 es1 (by omega) (by decide) rfl (Nat.lt_of_lt_of_le (by decide) hn) dX12_sheet_89 ?_
    refine zz_iconst (0) dX12_sheet_90 (by decide) ?_
    refine zz_istore_4 dX12_sheet_91 rfl rfl ?_
    first
      | (rw [sp_sheetT, if_pos c_81] at h; rw [← sp_zero_0 (zz_u (zz_u g 55 s1 b) 56 s1 0) s1]; exact l_X12_sheet (d := d) hn hr s1 hs1 es1 (h _ (sp_zero_F ((ms_F.rf.u rfl (by decide)).u rfl (by decide)))) 41 0 (by omega) (by omega))
      | (rw [sp_sheetT, if_neg c_81] at h; rw [← sp_zero_0 (zz_u (zz_u g 55 s1 b) 56 s1 m) s1]; exact l_X12_sheet (d := d) hn hr s1 hs1 es1 (h _ (sp_zero_F ((ms_F.rf.u rfl (by decide)).u rfl (by decide)))) 41 0 (by omega) (by omega))
  · skip
    refine zz_iconst (0) dX12_sheet_84 (by decide) ?_
    refine zz_goto 89 dX12_sheet_85 (by decide) ?_
    refine zz_isN s1 es1 (by omega) (by decide) rfl (Nat.lt_of_lt_of_le (by decide) hn) dX12_sheet_89 ?_
    refine zz_iconst (0) dX12_sheet_90 (by decide) ?_
    refine zz_istore_4 dX12_sheet_91 rfl rfl ?_
    first
      | (rw [sp_sheetT, if_pos c_81] at h; rw [← sp_zero_0 (zz_u (zz_u g 55 s1 b) 56 s1 0) s1]; exact l_X12_sheet (d := d) hn hr s1 hs1 es1 (h _ (sp_zero_F ((ms_F.rf.u rfl (by decide)).u rfl (by decide)))) 41 0 (by omega) (by omega))
      | (rw [sp_sheetT, if_neg c_81] at h; rw [← sp_zero_0 (zz_u (zz_u g 55 s1 b) 56 s1 m) s1]; exact l_X12_sheet (d := d) hn hr s1 hs1 es1 (h _ (sp_zero_F ((ms_F.rf.u rfl (by decide)).u rfl (by decide)))) 41 0 (by omega) (by omega))

set_option maxRecDepth 100000 in
set_option maxHeartbeats 4000000 in
theorem t_X12_sheet {C : zz_C} {d n : Nat} {g : zz_G} {r : zz_R} {Q : zz_Q} (hn : 60 ≤ n) (hr : xr r) {v b m : Int32}  (h : ms_o g r n Q (sp_sheet (ms_S g) v b m)) : zz_T C mi_X12_sheet (d + 2) 0 0 [.ref 50, .int v, .int b, .int m] g r n Q := by
  refine zz_T.of [some (.ref 50), some (.int v), some (.int b), some (.int m), none] (by decide +kernel) rfl (Nat.le_of_ble_eq_true rfl) ?_
  refine zz_iload_1 dX12_sheet_0 ?_
  refine zz_callS1i cs_X12_191 (Nat.le_of_ble_eq_true rfl) (by decide) (by decide) dX12_sheet_1 (t_X12_isSheet (fun a_1 b_1 => ⟨_, rfl, ?_⟩) (fun o_1 => ⟨_, rfl, ?_⟩))
  · skip
    refine zz_if_eq 29 dX12_sheet_4 (by decide) (fun h => absurd h (by decide)) (fun _ => ?_)
    refine zz_iload_2 dX12_sheet_7 ?_
    refine zz_if_eq 36 dX12_sheet_8 (by decide) (fun c_8 => ?_) (fun c_8 => ?_)
    · skip
      refine zz_iload_2 dX12_sheet_36 ?_
      refine zz_if_eq 51 dX12_sheet_37 (by decide) (fun c_37 => ?_) (fun c_37 => ?_)
      · skip
        refine zz_iload_2 dX12_sheet_51 ?_
        refine zz_if_eq 68 dX12_sheet_52 (by decide) (fun c_52 => ?_) (fun c_52 => ?_)
        · skip
          obtain ⟨s1, hs0, hs1, es1⟩ := zz_in0 (lo := 0) (hi := 3) rfl rfl (by decide) (by decide) a_1 b_1
          first
            | exact absurd c_8 c_37
            | exact absurd c_37 c_8
            | exact absurd (c_8.symm.trans c_37) (by decide)
            | exact absurd c_8 c_52
            | exact absurd c_52 c_8
            | exact absurd (c_8.symm.trans c_52) (by decide)
            | exact absurd c_37 c_52
            | exact absurd c_52 c_37
            | exact absurd (c_37.symm.trans c_52) (by decide)
            | (rw [sp_sheet, if_neg (fun q => q.elim a_1 b_1), if_neg (fun q => q (by first | exact Or.inl c_8 | exact Or.inr (Or.inl c_14) | exact Or.inr (Or.inr (Or.inl c_20)) | exact Or.inr (Or.inr (Or.inr c_26)))), if_neg (fun q => by first | exact q.1 c_37 | exact q.2 c_41), if_neg (fun q => by first | exact q.1 c_52 | exact q.2 c_58), show v.toNatClampNeg = s1 from by rw [es1]; exact ix_w (by omega)] at h; exact e_X12_sheet (d := d) hn hr s1 (by omega) es1 h)
        · skip
          refine zz_iload_3 dX12_sheet_55 ?_
          refine zz_bipush (40) dX12_sheet_56 (by decide) ?_
          refine zz_icmp_le 68 dX12_sheet_58 (by decide) (fun c_58 => ?_) (fun c_58 => ?_)
          · skip
            obtain ⟨s1, hs0, hs1, es1⟩ := zz_in0 (lo := 0) (hi := 3) rfl rfl (by decide) (by decide) a_1 b_1
            first
              | exact absurd c_8 c_37
              | exact absurd c_37 c_8
              | exact absurd (c_8.symm.trans c_37) (by decide)
              | exact absurd c_8 c_52
              | exact absurd c_52 c_8
              | exact absurd (c_8.symm.trans c_52) (by decide)
              | exact absurd c_8 c_58
              | exact absurd c_58 c_8
              | exact absurd (c_8.symm.trans c_58) (by decide)
              | exact absurd c_37 c_52
              | exact absurd c_52 c_37
              | exact absurd (c_37.symm.trans c_52) (by decide)
              | exact absurd c_37 c_58
              | exact absurd c_58 c_37
              | exact absurd (c_37.symm.trans c_58) (by decide)
              | exact absurd c_52 c_58
              | exact absurd c_58 c_52
              | exact absurd (c_52.symm.trans c_58) (by decide)
              | (rw [sp_sheet, if_neg (fun q => q.elim a_1 b_1), if_neg (fun q => q (by first | exact Or.inl c_8 | exact Or.inr (Or.inl c_14) | exact Or.inr (Or.inr (Or.inl c_20)) | exact Or.inr (Or.inr (Or.inr c_26)))), if_neg (fun q => by first | exact q.1 c_37 | exact q.2 c_41), if_neg (fun q => by first | exact q.1 c_52 | exact q.2 c_58), show v.toNatClampNeg = s1 from by rw [es1]; exact ix_w (by omega)] at h; exact e_X12_sheet (d := d) hn hr s1 (by omega) es1 h)
          · skip
            refine zz_aload_0 dX12_sheet_61 ?_
            refine zz_ldc dX12_sheet_62 ct_X12_50 ?_
            refine zz_callV1i cv_X12_51 rfl (Nat.lt_of_lt_of_le (by decide) hn) (Nat.le_of_ble_eq_true rfl) (by decide) (by decide) dX12_sheet_64 (t_X12_errs hn hr 1 (by decide) (by decide) ⟨_, rfl, ?_⟩)
            refine zz_iret rfl dX12_sheet_67 (by decide) (by decide) ?_
            first
              | exact absurd c_8 c_37
              | exact absurd c_37 c_8
              | exact absurd (c_8.symm.trans c_37) (by decide)
              | exact absurd c_8 c_52
              | exact absurd c_52 c_8
              | exact absurd (c_8.symm.trans c_52) (by decide)
              | exact absurd c_8 c_58
              | exact absurd c_58 c_8
              | exact absurd (c_8.symm.trans c_58) (by decide)
              | exact absurd c_37 c_52
              | exact absurd c_52 c_37
              | exact absurd (c_37.symm.trans c_52) (by decide)
              | exact absurd c_37 c_58
              | exact absurd c_58 c_37
              | exact absurd (c_37.symm.trans c_58) (by decide)
              | exact absurd c_52 c_58
              | exact absurd c_58 c_52
              | exact absurd (c_52.symm.trans c_58) (by decide)
              | (rw [sp_sheet, if_neg (fun q => q.elim a_1 b_1), if_neg (fun q => q (by first | exact Or.inl c_8 | exact Or.inr (Or.inl c_14) | exact Or.inr (Or.inr (Or.inl c_20)) | exact Or.inr (Or.inr (Or.inr c_26)))), if_neg (fun q => q.2 c_41), if_pos ⟨c_52, c_58⟩] at h; exact ms_er (by decide) h)
      · skip
        refine zz_iload_3 dX12_sheet_40 ?_
        refine zz_if_ge 51 dX12_sheet_41 (by decide) (fun c_41 => ?_) (fun c_41 => ?_)
        · skip
          refine zz_iload_2 dX12_sheet_51 ?_
          refine zz_if_eq 68 dX12_sheet_52 (by decide) (fun c_52 => ?_) (fun c_52 => ?_)
          · skip
            obtain ⟨s1, hs0, hs1, es1⟩ := zz_in0 (lo := 0) (hi := 3) rfl rfl (by decide) (by decide) a_1 b_1
            first
              | exact absurd c_8 c_37
              | exact absurd c_37 c_8
              | exact absurd (c_8.symm.trans c_37) (by decide)
              | exact absurd c_8 c_41
              | exact absurd c_41 c_8
              | exact absurd (c_8.symm.trans c_41) (by decide)
              | exact absurd c_8 c_52
              | exact absurd c_52 c_8
              | exact absurd (c_8.symm.trans c_52) (by decide)
              | exact absurd c_37 c_41
              | exact absurd c_41 c_37
              | exact absurd (c_37.symm.trans c_41) (by decide)
              | exact absurd c_37 c_52
              | exact absurd c_52 c_37
              | exact absurd (c_37.symm.trans c_52) (by decide)
              | exact absurd c_41 c_52
              | exact absurd c_52 c_41
              | exact absurd (c_41.symm.trans c_52) (by decide)
              | (rw [sp_sheet, if_neg (fun q => q.elim a_1 b_1), if_neg (fun q => q (by first | exact Or.inl c_8 | exact Or.inr (Or.inl c_14) | exact Or.inr (Or.inr (Or.inl c_20)) | exact Or.inr (Or.inr (Or.inr c_26)))), if_neg (fun q => by first | exact q.1 c_37 | exact q.2 c_41), if_neg (fun q => by first | exact q.1 c_52 | exact q.2 c_58), show v.toNatClampNeg = s1 from by rw [es1]; exact ix_w (by omega)] at h; exact e_X12_sheet (d := d) hn hr s1 (by omega) es1 h)
          · skip
            refine zz_iload_3 dX12_sheet_55 ?_
            refine zz_bipush (40) dX12_sheet_56 (by decide) ?_
            refine zz_icmp_le 68 dX12_sheet_58 (by decide) (fun c_58 => ?_) (fun c_58 => ?_)
            · skip
              obtain ⟨s1, hs0, hs1, es1⟩ := zz_in0 (lo := 0) (hi := 3) rfl rfl (by decide) (by decide) a_1 b_1
              first
                | exact absurd c_8 c_37
                | exact absurd c_37 c_8
                | exact absurd (c_8.symm.trans c_37) (by decide)
                | exact absurd c_8 c_41
                | exact absurd c_41 c_8
                | exact absurd (c_8.symm.trans c_41) (by decide)
                | exact absurd c_8 c_52
                | exact absurd c_52 c_8
                | exact absurd (c_8.symm.trans c_52) (by decide)
                | exact absurd c_8 c_58
                | exact absurd c_58 c_8
                | exact absurd (c_8.symm.trans c_58) (by decide)
                | exact absurd c_37 c_41
                | exact absurd c_41 c_37
                | exact absurd (c_37.symm.trans c_41) (by decide)
                | exact absurd c_37 c_52
                | exact absurd c_52 c_37
                | exact absurd (c_37.symm.trans c_52) (by decide)
                | exact absurd c_37 c_58
                | exact absurd c_58 c_37
                | exact absurd (c_37.symm.trans c_58) (by decide)
                | exact absurd c_41 c_52
                | exact absurd c_52 c_41
                | exact absurd (c_41.symm.trans c_52) (by decide)
                | exact absurd c_41 c_58
                | exact absurd c_58 c_41
                | exact absurd (c_41.symm.trans c_58) (by decide)
                | exact absurd c_52 c_58
                | exact absurd c_58 c_52
                | exact absurd (c_52.symm.trans c_58) (by decide)
                | (rw [sp_sheet, if_neg (fun q => q.elim a_1 b_1), if_neg (fun q => q (by first | exact Or.inl c_8 | exact Or.inr (Or.inl c_14) | exact Or.inr (Or.inr (Or.inl c_20)) | exact Or.inr (Or.inr (Or.inr c_26)))), if_neg (fun q => by first | exact q.1 c_37 | exact q.2 c_41), if_neg (fun q => by first | exact q.1 c_52 | exact q.2 c_58), show v.toNatClampNeg = s1 from by rw [es1]; exact ix_w (by omega)] at h; exact e_X12_sheet (d := d) hn hr s1 (by omega) es1 h)
            · skip
              refine zz_aload_0 dX12_sheet_61 ?_
              refine zz_ldc dX12_sheet_62 ct_X12_50 ?_
              refine zz_callV1i cv_X12_51 rfl (Nat.lt_of_lt_of_le (by decide) hn) (Nat.le_of_ble_eq_true rfl) (by decide) (by decide) dX12_sheet_64 (t_X12_errs hn hr 1 (by decide) (by decide) ⟨_, rfl, ?_⟩)
              refine zz_iret rfl dX12_sheet_67 (by decide) (by decide) ?_
              first
                | exact absurd c_8 c_37
                | exact absurd c_37 c_8
                | exact absurd (c_8.symm.trans c_37) (by decide)
                | exact absurd c_8 c_41
                | exact absurd c_41 c_8
                | exact absurd (c_8.symm.trans c_41) (by decide)
                | exact absurd c_8 c_52
                | exact absurd c_52 c_8
                | exact absurd (c_8.symm.trans c_52) (by decide)
                | exact absurd c_8 c_58
                | exact absurd c_58 c_8
                | exact absurd (c_8.symm.trans c_58) (by decide)
                | exact absurd c_37 c_41
                | exact absurd c_41 c_37
                | exact absurd (c_37.symm.trans c_41) (by decide)
                | exact absurd c_37 c_52
                | exact absurd c_52 c_37
                | exact absurd (c_37.symm.trans c_52) (by decide)
                | exact absurd c_37 c_58
                | exact absurd c_58 c_37
                | exact absurd (c_37.symm.trans c_58) (by decide)
                | exact absurd c_41 c_52
                | exact absurd c_52 c_41
                | exact absurd (c_41.symm.trans c_52) (by decide)
                | exact absurd c_41 c_58
                | exact absurd c_58 c_41
                | exact absurd (c_41.symm.trans c_58) (by decide)
                | exact absurd c_52 c_58
                | exact absurd c_58 c_52
                | exact absurd (c_52.symm.trans c_58) (by decide)
                | (rw [sp_sheet, if_neg (fun q => q.elim a_1 b_1), if_neg (fun q => q (by first | exact Or.inl c_8 | exact Or.inr (Or.inl c_14) | exact Or.inr (Or.inr (Or.inl c_20)) | exact Or.inr (Or.inr (Or.inr c_26)))), if_neg (fun q => q.2 c_41), if_pos ⟨c_52, c_58⟩] at h; exact ms_er (by decide) h)
        · skip
          refine zz_aload_0 dX12_sheet_44 ?_
          refine zz_ldc dX12_sheet_45 ct_X12_161 ?_
          refine zz_callV1i cv_X12_51 rfl (Nat.lt_of_lt_of_le (by decide) hn) (Nat.le_of_ble_eq_true rfl) (by decide) (by decide) dX12_sheet_47 (t_X12_errs hn hr 3 (by decide) (by decide) ⟨_, rfl, ?_⟩)
          refine zz_iret rfl dX12_sheet_50 (by decide) (by decide) ?_
          first
            | exact absurd c_8 c_37
            | exact absurd c_37 c_8
            | exact absurd (c_8.symm.trans c_37) (by decide)
            | exact absurd c_8 c_41
            | exact absurd c_41 c_8
            | exact absurd (c_8.symm.trans c_41) (by decide)
            | exact absurd c_37 c_41
            | exact absurd c_41 c_37
            | exact absurd (c_37.symm.trans c_41) (by decide)
            | (rw [sp_sheet, if_neg (fun q => q.elim a_1 b_1), if_neg (fun q => q (by first | exact Or.inl c_8 | exact Or.inr (Or.inl c_14) | exact Or.inr (Or.inr (Or.inl c_20)) | exact Or.inr (Or.inr (Or.inr c_26)))), if_pos ⟨c_37, c_41⟩] at h; exact ms_er (by decide) h)
    · skip
      refine zz_iload_2 dX12_sheet_11 ?_
      refine zz_bipush (8) dX12_sheet_12 (by decide) ?_
      refine zz_icmp_eq 36 dX12_sheet_14 (by decide) (fun c_14 => ?_) (fun c_14 => ?_)
      · skip
        refine zz_iload_2 dX12_sheet_36 ?_
        refine zz_if_eq 51 dX12_sheet_37 (by decide) (fun c_37 => ?_) (fun c_37 => ?_)
        · skip
          refine zz_iload_2 dX12_sheet_51 ?_
          refine zz_if_eq 68 dX12_sheet_52 (by decide) (fun c_52 => ?_) (fun c_52 => ?_)
          · skip
            obtain ⟨s1, hs0, hs1, es1⟩ := zz_in0 (lo := 0) (hi := 3) rfl rfl (by decide) (by decide) a_1 b_1
            first
              | exact absurd c_8 c_14
              | exact absurd c_14 c_8
              | exact absurd (c_8.symm.trans c_14) (by decide)
              | exact absurd c_8 c_37
              | exact absurd c_37 c_8
              | exact absurd (c_8.symm.trans c_37) (by decide)
              | exact absurd c_8 c_52
              | exact absurd c_52 c_8
              | exact absurd (c_8.symm.trans c_52) (by decide)
              | exact absurd c_14 c_37
              | exact absurd c_37 c_14
              | exact absurd (c_14.symm.trans c_37) (by decide)
              | exact absurd c_14 c_52
              | exact absurd c_52 c_14
              | exact absurd (c_14.symm.trans c_52) (by decide)
              | exact absurd c_37 c_52
              | exact absurd c_52 c_37
              | exact absurd (c_37.symm.trans c_52) (by decide)
              | (rw [sp_sheet, if_neg (fun q => q.elim a_1 b_1), if_neg (fun q => q (by first | exact Or.inl c_8 | exact Or.inr (Or.inl c_14) | exact Or.inr (Or.inr (Or.inl c_20)) | exact Or.inr (Or.inr (Or.inr c_26)))), if_neg (fun q => by first | exact q.1 c_37 | exact q.2 c_41), if_neg (fun q => by first | exact q.1 c_52 | exact q.2 c_58), show v.toNatClampNeg = s1 from by rw [es1]; exact ix_w (by omega)] at h; exact e_X12_sheet (d := d) hn hr s1 (by omega) es1 h)
          · skip
            refine zz_iload_3 dX12_sheet_55 ?_
            refine zz_bipush (40) dX12_sheet_56 (by decide) ?_
            refine zz_icmp_le 68 dX12_sheet_58 (by decide) (fun c_58 => ?_) (fun c_58 => ?_)
            · skip
              obtain ⟨s1, hs0, hs1, es1⟩ := zz_in0 (lo := 0) (hi := 3) rfl rfl (by decide) (by decide) a_1 b_1
              first
                | exact absurd c_8 c_14
                | exact absurd c_14 c_8
                | exact absurd (c_8.symm.trans c_14) (by decide)
                | exact absurd c_8 c_37
                | exact absurd c_37 c_8
                | exact absurd (c_8.symm.trans c_37) (by decide)
                | exact absurd c_8 c_52
                | exact absurd c_52 c_8
                | exact absurd (c_8.symm.trans c_52) (by decide)
                | exact absurd c_8 c_58
                | exact absurd c_58 c_8
                | exact absurd (c_8.symm.trans c_58) (by decide)
                | exact absurd c_14 c_37
                | exact absurd c_37 c_14
                | exact absurd (c_14.symm.trans c_37) (by decide)
                | exact absurd c_14 c_52
                | exact absurd c_52 c_14
                | exact absurd (c_14.symm.trans c_52) (by decide)
                | exact absurd c_14 c_58
                | exact absurd c_58 c_14
                | exact absurd (c_14.symm.trans c_58) (by decide)
                | exact absurd c_37 c_52
                | exact absurd c_52 c_37
                | exact absurd (c_37.symm.trans c_52) (by decide)
                | exact absurd c_37 c_58
                | exact absurd c_58 c_37
                | exact absurd (c_37.symm.trans c_58) (by decide)
                | exact absurd c_52 c_58
                | exact absurd c_58 c_52
                | exact absurd (c_52.symm.trans c_58) (by decide)
                | (rw [sp_sheet, if_neg (fun q => q.elim a_1 b_1), if_neg (fun q => q (by first | exact Or.inl c_8 | exact Or.inr (Or.inl c_14) | exact Or.inr (Or.inr (Or.inl c_20)) | exact Or.inr (Or.inr (Or.inr c_26)))), if_neg (fun q => by first | exact q.1 c_37 | exact q.2 c_41), if_neg (fun q => by first | exact q.1 c_52 | exact q.2 c_58), show v.toNatClampNeg = s1 from by rw [es1]; exact ix_w (by omega)] at h; exact e_X12_sheet (d := d) hn hr s1 (by omega) es1 h)
            · skip
              refine zz_aload_0 dX12_sheet_61 ?_
              refine zz_ldc dX12_sheet_62 ct_X12_50 ?_
              refine zz_callV1i cv_X12_51 rfl (Nat.lt_of_lt_of_le (by decide) hn) (Nat.le_of_ble_eq_true rfl) (by decide) (by decide) dX12_sheet_64 (t_X12_errs hn hr 1 (by decide) (by decide) ⟨_, rfl, ?_⟩)
              refine zz_iret rfl dX12_sheet_67 (by decide) (by decide) ?_
              first
                | exact absurd c_8 c_14
                | exact absurd c_14 c_8
                | exact absurd (c_8.symm.trans c_14) (by decide)
                | exact absurd c_8 c_37
                | exact absurd c_37 c_8
                | exact absurd (c_8.symm.trans c_37) (by decide)
                | exact absurd c_8 c_52
                | exact absurd c_52 c_8
                | exact absurd (c_8.symm.trans c_52) (by decide)
                | exact absurd c_8 c_58
                | exact absurd c_58 c_8
                | exact absurd (c_8.symm.trans c_58) (by decide)
                | exact absurd c_14 c_37
                | exact absurd c_37 c_14
                | exact absurd (c_14.symm.trans c_37) (by decide)
                | exact absurd c_14 c_52
                | exact absurd c_52 c_14
                | exact absurd (c_14.symm.trans c_52) (by decide)
                | exact absurd c_14 c_58
                | exact absurd c_58 c_14
                | exact absurd (c_14.symm.trans c_58) (by decide)
                | exact absurd c_37 c_52
                | exact absurd c_52 c_37
                | exact absurd (c_37.symm.trans c_52) (by decide)
                | exact absurd c_37 c_58
                | exact absurd c_58 c_37
                | exact absurd (c_37.symm.trans c_58) (by decide)
                | exact absurd c_52 c_58
                | exact absurd c_58 c_52
                | exact absurd (c_52.symm.trans c_58) (by decide)
                | (rw [sp_sheet, if_neg (fun q => q.elim a_1 b_1), if_neg (fun q => q (by first | exact Or.inl c_8 | exact Or.inr (Or.inl c_14) | exact Or.inr (Or.inr (Or.inl c_20)) | exact Or.inr (Or.inr (Or.inr c_26)))), if_neg (fun q => q.2 c_41), if_pos ⟨c_52, c_58⟩] at h; exact ms_er (by decide) h)
        · skip
          refine zz_iload_3 dX12_sheet_40 ?_
          refine zz_if_ge 51 dX12_sheet_41 (by decide) (fun c_41 => ?_) (fun c_41 => ?_)
          · skip
            refine zz_iload_2 dX12_sheet_51 ?_
            refine zz_if_eq 68 dX12_sheet_52 (by decide) (fun c_52 => ?_) (fun c_52 => ?_)
            · skip
              obtain ⟨s1, hs0, hs1, es1⟩ := zz_in0 (lo := 0) (hi := 3) rfl rfl (by decide) (by decide) a_1 b_1
              first
                | exact absurd c_8 c_14
                | exact absurd c_14 c_8
                | exact absurd (c_8.symm.trans c_14) (by decide)
                | exact absurd c_8 c_37
                | exact absurd c_37 c_8
                | exact absurd (c_8.symm.trans c_37) (by decide)
                | exact absurd c_8 c_41
                | exact absurd c_41 c_8
                | exact absurd (c_8.symm.trans c_41) (by decide)
                | exact absurd c_8 c_52
                | exact absurd c_52 c_8
                | exact absurd (c_8.symm.trans c_52) (by decide)
                | exact absurd c_14 c_37
                | exact absurd c_37 c_14
                | exact absurd (c_14.symm.trans c_37) (by decide)
                | exact absurd c_14 c_41
                | exact absurd c_41 c_14
                | exact absurd (c_14.symm.trans c_41) (by decide)
                | exact absurd c_14 c_52
                | exact absurd c_52 c_14
                | exact absurd (c_14.symm.trans c_52) (by decide)
                | exact absurd c_37 c_41
                | exact absurd c_41 c_37
                | exact absurd (c_37.symm.trans c_41) (by decide)
                | exact absurd c_37 c_52
                | exact absurd c_52 c_37
                | exact absurd (c_37.symm.trans c_52) (by decide)
                | exact absurd c_41 c_52
                | exact absurd c_52 c_41
                | exact absurd (c_41.symm.trans c_52) (by decide)
                | (rw [sp_sheet, if_neg (fun q => q.elim a_1 b_1), if_neg (fun q => q (by first | exact Or.inl c_8 | exact Or.inr (Or.inl c_14) | exact Or.inr (Or.inr (Or.inl c_20)) | exact Or.inr (Or.inr (Or.inr c_26)))), if_neg (fun q => by first | exact q.1 c_37 | exact q.2 c_41), if_neg (fun q => by first | exact q.1 c_52 | exact q.2 c_58), show v.toNatClampNeg = s1 from by rw [es1]; exact ix_w (by omega)] at h; exact e_X12_sheet (d := d) hn hr s1 (by omega) es1 h)
            · skip
              refine zz_iload_3 dX12_sheet_55 ?_
              refine zz_bipush (40) dX12_sheet_56 (by decide) ?_
              refine zz_icmp_le 68 dX12_sheet_58 (by decide) (fun c_58 => ?_) (fun c_58 => ?_)
              · skip
                obtain ⟨s1, hs0, hs1, es1⟩ := zz_in0 (lo := 0) (hi := 3) rfl rfl (by decide) (by decide) a_1 b_1
                first
                  | exact absurd c_8 c_14
                  | exact absurd c_14 c_8
                  | exact absurd (c_8.symm.trans c_14) (by decide)
                  | exact absurd c_8 c_37
                  | exact absurd c_37 c_8
                  | exact absurd (c_8.symm.trans c_37) (by decide)
                  | exact absurd c_8 c_41
                  | exact absurd c_41 c_8
                  | exact absurd (c_8.symm.trans c_41) (by decide)
                  | exact absurd c_8 c_52
                  | exact absurd c_52 c_8
                  | exact absurd (c_8.symm.trans c_52) (by decide)
                  | exact absurd c_8 c_58
                  | exact absurd c_58 c_8
                  | exact absurd (c_8.symm.trans c_58) (by decide)
                  | exact absurd c_14 c_37
                  | exact absurd c_37 c_14
                  | exact absurd (c_14.symm.trans c_37) (by decide)
                  | exact absurd c_14 c_41
                  | exact absurd c_41 c_14
                  | exact absurd (c_14.symm.trans c_41) (by decide)
                  | exact absurd c_14 c_52
                  | exact absurd c_52 c_14
                  | exact absurd (c_14.symm.trans c_52) (by decide)
                  | exact absurd c_14 c_58
                  | exact absurd c_58 c_14
                  | exact absurd (c_14.symm.trans c_58) (by decide)
                  | exact absurd c_37 c_41
                  | exact absurd c_41 c_37
                  | exact absurd (c_37.symm.trans c_41) (by decide)
                  | exact absurd c_37 c_52
                  | exact absurd c_52 c_37
                  | exact absurd (c_37.symm.trans c_52) (by decide)
                  | exact absurd c_37 c_58
                  | exact absurd c_58 c_37
                  | exact absurd (c_37.symm.trans c_58) (by decide)
                  | exact absurd c_41 c_52
                  | exact absurd c_52 c_41
                  | exact absurd (c_41.symm.trans c_52) (by decide)
                  | exact absurd c_41 c_58
                  | exact absurd c_58 c_41
                  | exact absurd (c_41.symm.trans c_58) (by decide)
                  | exact absurd c_52 c_58
                  | exact absurd c_58 c_52
                  | exact absurd (c_52.symm.trans c_58) (by decide)
                  | (rw [sp_sheet, if_neg (fun q => q.elim a_1 b_1), if_neg (fun q => q (by first | exact Or.inl c_8 | exact Or.inr (Or.inl c_14) | exact Or.inr (Or.inr (Or.inl c_20)) | exact Or.inr (Or.inr (Or.inr c_26)))), if_neg (fun q => by first | exact q.1 c_37 | exact q.2 c_41), if_neg (fun q => by first | exact q.1 c_52 | exact q.2 c_58), show v.toNatClampNeg = s1 from by rw [es1]; exact ix_w (by omega)] at h; exact e_X12_sheet (d := d) hn hr s1 (by omega) es1 h)
              · skip
                refine zz_aload_0 dX12_sheet_61 ?_
                refine zz_ldc dX12_sheet_62 ct_X12_50 ?_
                refine zz_callV1i cv_X12_51 rfl (Nat.lt_of_lt_of_le (by decide) hn) (Nat.le_of_ble_eq_true rfl) (by decide) (by decide) dX12_sheet_64 (t_X12_errs hn hr 1 (by decide) (by decide) ⟨_, rfl, ?_⟩)
                refine zz_iret rfl dX12_sheet_67 (by decide) (by decide) ?_
                first
                  | exact absurd c_8 c_14
                  | exact absurd c_14 c_8
                  | exact absurd (c_8.symm.trans c_14) (by decide)
                  | exact absurd c_8 c_37
                  | exact absurd c_37 c_8
                  | exact absurd (c_8.symm.trans c_37) (by decide)
                  | exact absurd c_8 c_41
                  | exact absurd c_41 c_8
                  | exact absurd (c_8.symm.trans c_41) (by decide)
                  | exact absurd c_8 c_52
                  | exact absurd c_52 c_8
                  | exact absurd (c_8.symm.trans c_52) (by decide)
                  | exact absurd c_8 c_58
                  | exact absurd c_58 c_8
                  | exact absurd (c_8.symm.trans c_58) (by decide)
                  | exact absurd c_14 c_37
                  | exact absurd c_37 c_14
                  | exact absurd (c_14.symm.trans c_37) (by decide)
                  | exact absurd c_14 c_41
                  | exact absurd c_41 c_14
                  | exact absurd (c_14.symm.trans c_41) (by decide)
                  | exact absurd c_14 c_52
                  | exact absurd c_52 c_14
                  | exact absurd (c_14.symm.trans c_52) (by decide)
                  | exact absurd c_14 c_58
                  | exact absurd c_58 c_14
                  | exact absurd (c_14.symm.trans c_58) (by decide)
                  | exact absurd c_37 c_41
                  | exact absurd c_41 c_37
                  | exact absurd (c_37.symm.trans c_41) (by decide)
                  | exact absurd c_37 c_52
                  | exact absurd c_52 c_37
                  | exact absurd (c_37.symm.trans c_52) (by decide)
                  | exact absurd c_37 c_58
                  | exact absurd c_58 c_37
                  | exact absurd (c_37.symm.trans c_58) (by decide)
                  | exact absurd c_41 c_52
                  | exact absurd c_52 c_41
                  | exact absurd (c_41.symm.trans c_52) (by decide)
                  | exact absurd c_41 c_58
                  | exact absurd c_58 c_41
                  | exact absurd (c_41.symm.trans c_58) (by decide)
                  | exact absurd c_52 c_58
                  | exact absurd c_58 c_52
                  | exact absurd (c_52.symm.trans c_58) (by decide)
                  | (rw [sp_sheet, if_neg (fun q => q.elim a_1 b_1), if_neg (fun q => q (by first | exact Or.inl c_8 | exact Or.inr (Or.inl c_14) | exact Or.inr (Or.inr (Or.inl c_20)) | exact Or.inr (Or.inr (Or.inr c_26)))), if_neg (fun q => q.2 c_41), if_pos ⟨c_52, c_58⟩] at h; exact ms_er (by decide) h)
          · skip
            refine zz_aload_0 dX12_sheet_44 ?_
            refine zz_ldc dX12_sheet_45 ct_X12_161 ?_
            refine zz_callV1i cv_X12_51 rfl (Nat.lt_of_lt_of_le (by decide) hn) (Nat.le_of_ble_eq_true rfl) (by decide) (by decide) dX12_sheet_47 (t_X12_errs hn hr 3 (by decide) (by decide) ⟨_, rfl, ?_⟩)
            refine zz_iret rfl dX12_sheet_50 (by decide) (by decide) ?_
            first
              | exact absurd c_8 c_14
              | exact absurd c_14 c_8
              | exact absurd (c_8.symm.trans c_14) (by decide)
              | exact absurd c_8 c_37
              | exact absurd c_37 c_8
              | exact absurd (c_8.symm.trans c_37) (by decide)
              | exact absurd c_8 c_41
              | exact absurd c_41 c_8
              | exact absurd (c_8.symm.trans c_41) (by decide)
              | exact absurd c_14 c_37
              | exact absurd c_37 c_14
              | exact absurd (c_14.symm.trans c_37) (by decide)
              | exact absurd c_14 c_41
              | exact absurd c_41 c_14
              | exact absurd (c_14.symm.trans c_41) (by decide)
              | exact absurd c_37 c_41
              | exact absurd c_41 c_37
              | exact absurd (c_37.symm.trans c_41) (by decide)
              | (rw [sp_sheet, if_neg (fun q => q.elim a_1 b_1), if_neg (fun q => q (by first | exact Or.inl c_8 | exact Or.inr (Or.inl c_14) | exact Or.inr (Or.inr (Or.inl c_20)) | exact Or.inr (Or.inr (Or.inr c_26)))), if_pos ⟨c_37, c_41⟩] at h; exact ms_er (by decide) h)
      · skip
        refine zz_iload_2 dX12_sheet_17 ?_
        refine zz_bipush (16) dX12_sheet_18 (by decide) ?_
        refine zz_icmp_eq 36 dX12_sheet_20 (by decide) (fun c_20 => ?_) (fun c_20 => ?_)
        · skip
          refine zz_iload_2 dX12_sheet_36 ?_
          refine zz_if_eq 51 dX12_sheet_37 (by decide) (fun c_37 => ?_) (fun c_37 => ?_)
          · skip
            refine zz_iload_2 dX12_sheet_51 ?_
            refine zz_if_eq 68 dX12_sheet_52 (by decide) (fun c_52 => ?_) (fun c_52 => ?_)
            · skip
              obtain ⟨s1, hs0, hs1, es1⟩ := zz_in0 (lo := 0) (hi := 3) rfl rfl (by decide) (by decide) a_1 b_1
              first
                | exact absurd c_8 c_14
                | exact absurd c_14 c_8
                | exact absurd (c_8.symm.trans c_14) (by decide)
                | exact absurd c_8 c_20
                | exact absurd c_20 c_8
                | exact absurd (c_8.symm.trans c_20) (by decide)
                | exact absurd c_8 c_37
                | exact absurd c_37 c_8
                | exact absurd (c_8.symm.trans c_37) (by decide)
                | exact absurd c_8 c_52
                | exact absurd c_52 c_8
                | exact absurd (c_8.symm.trans c_52) (by decide)
                | exact absurd c_14 c_20
                | exact absurd c_20 c_14
                | exact absurd (c_14.symm.trans c_20) (by decide)
                | exact absurd c_14 c_37
                | exact absurd c_37 c_14
                | exact absurd (c_14.symm.trans c_37) (by decide)
                | exact absurd c_14 c_52
                | exact absurd c_52 c_14
                | exact absurd (c_14.symm.trans c_52) (by decide)
                | exact absurd c_20 c_37
                | exact absurd c_37 c_20
                | exact absurd (c_20.symm.trans c_37) (by decide)
                | exact absurd c_20 c_52
                | exact absurd c_52 c_20
                | exact absurd (c_20.symm.trans c_52) (by decide)
                | exact absurd c_37 c_52
                | exact absurd c_52 c_37
                | exact absurd (c_37.symm.trans c_52) (by decide)
                | (rw [sp_sheet, if_neg (fun q => q.elim a_1 b_1), if_neg (fun q => q (by first | exact Or.inl c_8 | exact Or.inr (Or.inl c_14) | exact Or.inr (Or.inr (Or.inl c_20)) | exact Or.inr (Or.inr (Or.inr c_26)))), if_neg (fun q => by first | exact q.1 c_37 | exact q.2 c_41), if_neg (fun q => by first | exact q.1 c_52 | exact q.2 c_58), show v.toNatClampNeg = s1 from by rw [es1]; exact ix_w (by omega)] at h; exact e_X12_sheet (d := d) hn hr s1 (by omega) es1 h)
            · skip
              refine zz_iload_3 dX12_sheet_55 ?_
              refine zz_bipush (40) dX12_sheet_56 (by decide) ?_
              refine zz_icmp_le 68 dX12_sheet_58 (by decide) (fun c_58 => ?_) (fun c_58 => ?_)
              · skip
                obtain ⟨s1, hs0, hs1, es1⟩ := zz_in0 (lo := 0) (hi := 3) rfl rfl (by decide) (by decide) a_1 b_1
                first
                  | exact absurd c_8 c_14
                  | exact absurd c_14 c_8
                  | exact absurd (c_8.symm.trans c_14) (by decide)
                  | exact absurd c_8 c_20
                  | exact absurd c_20 c_8
                  | exact absurd (c_8.symm.trans c_20) (by decide)
                  | exact absurd c_8 c_37
                  | exact absurd c_37 c_8
                  | exact absurd (c_8.symm.trans c_37) (by decide)
                  | exact absurd c_8 c_52
                  | exact absurd c_52 c_8
                  | exact absurd (c_8.symm.trans c_52) (by decide)
                  | exact absurd c_8 c_58
                  | exact absurd c_58 c_8
                  | exact absurd (c_8.symm.trans c_58) (by decide)
                  | exact absurd c_14 c_20
                  | exact absurd c_20 c_14
                  | exact absurd (c_14.symm.trans c_20) (by decide)
                  | exact absurd c_14 c_37
                  | exact absurd c_37 c_14
                  | exact absurd (c_14.symm.trans c_37) (by decide)
                  | exact absurd c_14 c_52
                  | exact absurd c_52 c_14
                  | exact absurd (c_14.symm.trans c_52) (by decide)
                  | exact absurd c_14 c_58
                  | exact absurd c_58 c_14
                  | exact absurd (c_14.symm.trans c_58) (by decide)
                  | exact absurd c_20 c_37
                  | exact absurd c_37 c_20
                  | exact absurd (c_20.symm.trans c_37) (by decide)
                  | exact absurd c_20 c_52
                  | exact absurd c_52 c_20
                  | exact absurd (c_20.symm.trans c_52) (by decide)
                  | exact absurd c_20 c_58
                  | exact absurd c_58 c_20
                  | exact absurd (c_20.symm.trans c_58) (by decide)
                  | exact absurd c_37 c_52
                  | exact absurd c_52 c_37
                  | exact absurd (c_37.symm.trans c_52) (by decide)
                  | exact absurd c_37 c_58
                  | exact absurd c_58 c_37
                  | exact absurd (c_37.symm.trans c_58) (by decide)
                  | exact absurd c_52 c_58
                  | exact absurd c_58 c_52
                  | exact absurd (c_52.symm.trans c_58) (by decide)
                  | (rw [sp_sheet, if_neg (fun q => q.elim a_1 b_1), if_neg (fun q => q (by first | exact Or.inl c_8 | exact Or.inr (Or.inl c_14) | exact Or.inr (Or.inr (Or.inl c_20)) | exact Or.inr (Or.inr (Or.inr c_26)))), if_neg (fun q => by first | exact q.1 c_37 | exact q.2 c_41), if_neg (fun q => by first | exact q.1 c_52 | exact q.2 c_58), show v.toNatClampNeg = s1 from by rw [es1]; exact ix_w (by omega)] at h; exact e_X12_sheet (d := d) hn hr s1 (by omega) es1 h)
              · skip
                refine zz_aload_0 dX12_sheet_61 ?_
                refine zz_ldc dX12_sheet_62 ct_X12_50 ?_
                refine zz_callV1i cv_X12_51 rfl (Nat.lt_of_lt_of_le (by decide) hn) (Nat.le_of_ble_eq_true rfl) (by decide) (by decide) dX12_sheet_64 (t_X12_errs hn hr 1 (by decide) (by decide) ⟨_, rfl, ?_⟩)
                refine zz_iret rfl dX12_sheet_67 (by decide) (by decide) ?_
                first
                  | exact absurd c_8 c_14
                  | exact absurd c_14 c_8
                  | exact absurd (c_8.symm.trans c_14) (by decide)
                  | exact absurd c_8 c_20
                  | exact absurd c_20 c_8
                  | exact absurd (c_8.symm.trans c_20) (by decide)
                  | exact absurd c_8 c_37
                  | exact absurd c_37 c_8
                  | exact absurd (c_8.symm.trans c_37) (by decide)
                  | exact absurd c_8 c_52
                  | exact absurd c_52 c_8
                  | exact absurd (c_8.symm.trans c_52) (by decide)
                  | exact absurd c_8 c_58
                  | exact absurd c_58 c_8
                  | exact absurd (c_8.symm.trans c_58) (by decide)
                  | exact absurd c_14 c_20
                  | exact absurd c_20 c_14
                  | exact absurd (c_14.symm.trans c_20) (by decide)
                  | exact absurd c_14 c_37
                  | exact absurd c_37 c_14
                  | exact absurd (c_14.symm.trans c_37) (by decide)
                  | exact absurd c_14 c_52
                  | exact absurd c_52 c_14
                  | exact absurd (c_14.symm.trans c_52) (by decide)
                  | exact absurd c_14 c_58
                  | exact absurd c_58 c_14
                  | exact absurd (c_14.symm.trans c_58) (by decide)
                  | exact absurd c_20 c_37
                  | exact absurd c_37 c_20
                  | exact absurd (c_20.symm.trans c_37) (by decide)
                  | exact absurd c_20 c_52
                  | exact absurd c_52 c_20
                  | exact absurd (c_20.symm.trans c_52) (by decide)
                  | exact absurd c_20 c_58
                  | exact absurd c_58 c_20
                  | exact absurd (c_20.symm.trans c_58) (by decide)
                  | exact absurd c_37 c_52
                  | exact absurd c_52 c_37
                  | exact absurd (c_37.symm.trans c_52) (by decide)
                  | exact absurd c_37 c_58
                  | exact absurd c_58 c_37
                  | exact absurd (c_37.symm.trans c_58) (by decide)
                  | exact absurd c_52 c_58
                  | exact absurd c_58 c_52
                  | exact absurd (c_52.symm.trans c_58) (by decide)
                  | (rw [sp_sheet, if_neg (fun q => q.elim a_1 b_1), if_neg (fun q => q (by first | exact Or.inl c_8 | exact Or.inr (Or.inl c_14) | exact Or.inr (Or.inr (Or.inl c_20)) | exact Or.inr (Or.inr (Or.inr c_26)))), if_neg (fun q => q.2 c_41), if_pos ⟨c_52, c_58⟩] at h; exact ms_er (by decide) h)
          · skip
            refine zz_iload_3 dX12_sheet_40 ?_
            refine zz_if_ge 51 dX12_sheet_41 (by decide) (fun c_41 => ?_) (fun c_41 => ?_)
            · skip
              refine zz_iload_2 dX12_sheet_51 ?_
              refine zz_if_eq 68 dX12_sheet_52 (by decide) (fun c_52 => ?_) (fun c_52 => ?_)
              · skip
                obtain ⟨s1, hs0, hs1, es1⟩ := zz_in0 (lo := 0) (hi := 3) rfl rfl (by decide) (by decide) a_1 b_1
                first
                  | exact absurd c_8 c_14
                  | exact absurd c_14 c_8
                  | exact absurd (c_8.symm.trans c_14) (by decide)
                  | exact absurd c_8 c_20
                  | exact absurd c_20 c_8
                  | exact absurd (c_8.symm.trans c_20) (by decide)
                  | exact absurd c_8 c_37
                  | exact absurd c_37 c_8
                  | exact absurd (c_8.symm.trans c_37) (by decide)
                  | exact absurd c_8 c_41
                  | exact absurd c_41 c_8
                  | exact absurd (c_8.symm.trans c_41) (by decide)
                  | exact absurd c_8 c_52
                  | exact absurd c_52 c_8
                  | exact absurd (c_8.symm.trans c_52) (by decide)
                  | exact absurd c_14 c_20
                  | exact absurd c_20 c_14
                  | exact absurd (c_14.symm.trans c_20) (by decide)
                  | exact absurd c_14 c_37
                  | exact absurd c_37 c_14
                  | exact absurd (c_14.symm.trans c_37) (by decide)
                  | exact absurd c_14 c_41
                  | exact absurd c_41 c_14
                  | exact absurd (c_14.symm.trans c_41) (by decide)
                  | exact absurd c_14 c_52
                  | exact absurd c_52 c_14
                  | exact absurd (c_14.symm.trans c_52) (by decide)
                  | exact absurd c_20 c_37
                  | exact absurd c_37 c_20
                  | exact absurd (c_20.symm.trans c_37) (by decide)
                  | exact absurd c_20 c_41
                  | exact absurd c_41 c_20
                  | exact absurd (c_20.symm.trans c_41) (by decide)
                  | exact absurd c_20 c_52
                  | exact absurd c_52 c_20
                  | exact absurd (c_20.symm.trans c_52) (by decide)
                  | exact absurd c_37 c_41
                  | exact absurd c_41 c_37
                  | exact absurd (c_37.symm.trans c_41) (by decide)
                  | exact absurd c_37 c_52
                  | exact absurd c_52 c_37
                  | exact absurd (c_37.symm.trans c_52) (by decide)
                  | exact absurd c_41 c_52
                  | exact absurd c_52 c_41
                  | exact absurd (c_41.symm.trans c_52) (by decide)
                  | (rw [sp_sheet, if_neg (fun q => q.elim a_1 b_1), if_neg (fun q => q (by first | exact Or.inl c_8 | exact Or.inr (Or.inl c_14) | exact Or.inr (Or.inr (Or.inl c_20)) | exact Or.inr (Or.inr (Or.inr c_26)))), if_neg (fun q => by first | exact q.1 c_37 | exact q.2 c_41), if_neg (fun q => by first | exact q.1 c_52 | exact q.2 c_58), show v.toNatClampNeg = s1 from by rw [es1]; exact ix_w (by omega)] at h; exact e_X12_sheet (d := d) hn hr s1 (by omega) es1 h)
              · skip
                refine zz_iload_3 dX12_sheet_55 ?_
                refine zz_bipush (40) dX12_sheet_56 (by decide) ?_
                refine zz_icmp_le 68 dX12_sheet_58 (by decide) (fun c_58 => ?_) (fun c_58 => ?_)
                · skip
                  obtain ⟨s1, hs0, hs1, es1⟩ := zz_in0 (lo := 0) (hi := 3) rfl rfl (by decide) (by decide) a_1 b_1
                  first
                    | exact absurd c_8 c_14
                    | exact absurd c_14 c_8
                    | exact absurd (c_8.symm.trans c_14) (by decide)
                    | exact absurd c_8 c_20
                    | exact absurd c_20 c_8
                    | exact absurd (c_8.symm.trans c_20) (by decide)
                    | exact absurd c_8 c_37
                    | exact absurd c_37 c_8
                    | exact absurd (c_8.symm.trans c_37) (by decide)
                    | exact absurd c_8 c_41
                    | exact absurd c_41 c_8
                    | exact absurd (c_8.symm.trans c_41) (by decide)
                    | exact absurd c_8 c_52
                    | exact absurd c_52 c_8
                    | exact absurd (c_8.symm.trans c_52) (by decide)
                    | exact absurd c_8 c_58
                    | exact absurd c_58 c_8
                    | exact absurd (c_8.symm.trans c_58) (by decide)
                    | exact absurd c_14 c_20
                    | exact absurd c_20 c_14
                    | exact absurd (c_14.symm.trans c_20) (by decide)
                    | exact absurd c_14 c_37
                    | exact absurd c_37 c_14
                    | exact absurd (c_14.symm.trans c_37) (by decide)
                    | exact absurd c_14 c_41
                    | exact absurd c_41 c_14
                    | exact absurd (c_14.symm.trans c_41) (by decide)
                    | exact absurd c_14 c_52
                    | exact absurd c_52 c_14
                    | exact absurd (c_14.symm.trans c_52) (by decide)
                    | exact absurd c_14 c_58
                    | exact absurd c_58 c_14
                    | exact absurd (c_14.symm.trans c_58) (by decide)
                    | exact absurd c_20 c_37
                    | exact absurd c_37 c_20
                    | exact absurd (c_20.symm.trans c_37) (by decide)
                    | exact absurd c_20 c_41
                    | exact absurd c_41 c_20
                    | exact absurd (c_20.symm.trans c_41) (by decide)
                    | exact absurd c_20 c_52
                    | exact absurd c_52 c_20
                    | exact absurd (c_20.symm.trans c_52) (by decide)
                    | exact absurd c_20 c_58
                    | exact absurd c_58 c_20
                    | exact absurd (c_20.symm.trans c_58) (by decide)
                    | exact absurd c_37 c_41
                    | exact absurd c_41 c_37
                    | exact absurd (c_37.symm.trans c_41) (by decide)
                    | exact absurd c_37 c_52
                    | exact absurd c_52 c_37
                    | exact absurd (c_37.symm.trans c_52) (by decide)
                    | exact absurd c_37 c_58
                    | exact absurd c_58 c_37
                    | exact absurd (c_37.symm.trans c_58) (by decide)
                    | exact absurd c_41 c_52
                    | exact absurd c_52 c_41
                    | exact absurd (c_41.symm.trans c_52) (by decide)
                    | exact absurd c_41 c_58
                    | exact absurd c_58 c_41
                    | exact absurd (c_41.symm.trans c_58) (by decide)
                    | exact absurd c_52 c_58
                    | exact absurd c_58 c_52
                    | exact absurd (c_52.symm.trans c_58) (by decide)
                    | (rw [sp_sheet, if_neg (fun q => q.elim a_1 b_1), if_neg (fun q => q (by first | exact Or.inl c_8 | exact Or.inr (Or.inl c_14) | exact Or.inr (Or.inr (Or.inl c_20)) | exact Or.inr (Or.inr (Or.inr c_26)))), if_neg (fun q => by first | exact q.1 c_37 | exact q.2 c_41), if_neg (fun q => by first | exact q.1 c_52 | exact q.2 c_58), show v.toNatClampNeg = s1 from by rw [es1]; exact ix_w (by omega)] at h; exact e_X12_sheet (d := d) hn hr s1 (by omega) es1 h)
                · skip
                  refine zz_aload_0 dX12_sheet_61 ?_
                  refine zz_ldc dX12_sheet_62 ct_X12_50 ?_
                  refine zz_callV1i cv_X12_51 rfl (Nat.lt_of_lt_of_le (by decide) hn) (Nat.le_of_ble_eq_true rfl) (by decide) (by decide) dX12_sheet_64 (t_X12_errs hn hr 1 (by decide) (by decide) ⟨_, rfl, ?_⟩)
                  refine zz_iret rfl dX12_sheet_67 (by decide) (by decide) ?_
                  first
                    | exact absurd c_8 c_14
                    | exact absurd c_14 c_8
                    | exact absurd (c_8.symm.trans c_14) (by decide)
                    | exact absurd c_8 c_20
                    | exact absurd c_20 c_8
                    | exact absurd (c_8.symm.trans c_20) (by decide)
                    | exact absurd c_8 c_37
                    | exact absurd c_37 c_8
                    | exact absurd (c_8.symm.trans c_37) (by decide)
                    | exact absurd c_8 c_41
                    | exact absurd c_41 c_8
                    | exact absurd (c_8.symm.trans c_41) (by decide)
                    | exact absurd c_8 c_52
                    | exact absurd c_52 c_8
                    | exact absurd (c_8.symm.trans c_52) (by decide)
                    | exact absurd c_8 c_58
                    | exact absurd c_58 c_8
                    | exact absurd (c_8.symm.trans c_58) (by decide)
                    | exact absurd c_14 c_20
                    | exact absurd c_20 c_14
                    | exact absurd (c_14.symm.trans c_20) (by decide)
                    | exact absurd c_14 c_37
                    | exact absurd c_37 c_14
                    | exact absurd (c_14.symm.trans c_37) (by decide)
                    | exact absurd c_14 c_41
                    | exact absurd c_41 c_14
                    | exact absurd (c_14.symm.trans c_41) (by decide)
                    | exact absurd c_14 c_52
                    | exact absurd c_52 c_14
                    | exact absurd (c_14.symm.trans c_52) (by decide)
                    | exact absurd c_14 c_58
                    | exact absurd c_58 c_14
                    | exact absurd (c_14.symm.trans c_58) (by decide)
                    | exact absurd c_20 c_37
                    | exact absurd c_37 c_20
                    | exact absurd (c_20.symm.trans c_37) (by decide)
                    | exact absurd c_20 c_41
                    | exact absurd c_41 c_20
                    | exact absurd (c_20.symm.trans c_41) (by decide)
                    | exact absurd c_20 c_52
                    | exact absurd c_52 c_20
                    | exact absurd (c_20.symm.trans c_52) (by decide)
                    | exact absurd c_20 c_58
                    | exact absurd c_58 c_20
                    | exact absurd (c_20.symm.trans c_58) (by decide)
                    | exact absurd c_37 c_41
                    | exact absurd c_41 c_37
                    | exact absurd (c_37.symm.trans c_41) (by decide)
                    | exact absurd c_37 c_52
                    | exact absurd c_52 c_37
                    | exact absurd (c_37.symm.trans c_52) (by decide)
                    | exact absurd c_37 c_58
                    | exact absurd c_58 c_37
                    | exact absurd (c_37.symm.trans c_58) (by decide)
                    | exact absurd c_41 c_52
                    | exact absurd c_52 c_41
                    | exact absurd (c_41.symm.trans c_52) (by decide)
                    | exact absurd c_41 c_58
                    | exact absurd c_58 c_41
                    | exact absurd (c_41.symm.trans c_58) (by decide)
                    | exact absurd c_52 c_58
                    | exact absurd c_58 c_52
                    | exact absurd (c_52.symm.trans c_58) (by decide)
                    | (rw [sp_sheet, if_neg (fun q => q.elim a_1 b_1), if_neg (fun q => q (by first | exact Or.inl c_8 | exact Or.inr (Or.inl c_14) | exact Or.inr (Or.inr (Or.inl c_20)) | exact Or.inr (Or.inr (Or.inr c_26)))), if_neg (fun q => q.2 c_41), if_pos ⟨c_52, c_58⟩] at h; exact ms_er (by decide) h)
            · skip
              refine zz_aload_0 dX12_sheet_44 ?_
              refine zz_ldc dX12_sheet_45 ct_X12_161 ?_
              refine zz_callV1i cv_X12_51 rfl (Nat.lt_of_lt_of_le (by decide) hn) (Nat.le_of_ble_eq_true rfl) (by decide) (by decide) dX12_sheet_47 (t_X12_errs hn hr 3 (by decide) (by decide) ⟨_, rfl, ?_⟩)
              refine zz_iret rfl dX12_sheet_50 (by decide) (by decide) ?_
              first
                | exact absurd c_8 c_14
                | exact absurd c_14 c_8
                | exact absurd (c_8.symm.trans c_14) (by decide)
                | exact absurd c_8 c_20
                | exact absurd c_20 c_8
                | exact absurd (c_8.symm.trans c_20) (by decide)
                | exact absurd c_8 c_37
                | exact absurd c_37 c_8
                | exact absurd (c_8.symm.trans c_37) (by decide)
                | exact absurd c_8 c_41
                | exact absurd c_41 c_8
                | exact absurd (c_8.symm.trans c_41) (by decide)
                | exact absurd c_14 c_20
                | exact absurd c_20 c_14
                | exact absurd (c_14.symm.trans c_20) (by decide)
                | exact absurd c_14 c_37
                | exact absurd c_37 c_14
                | exact absurd (c_14.symm.trans c_37) (by decide)
                | exact absurd c_14 c_41
                | exact absurd c_41 c_14
                | exact absurd (c_14.symm.trans c_41) (by decide)
                | exact absurd c_20 c_37
                | exact absurd c_37 c_20
                | exact absurd (c_20.symm.trans c_37) (by decide)
                | exact absurd c_20 c_41
                | exact absurd c_41 c_20
                | exact absurd (c_20.symm.trans c_41) (by decide)
                | exact absurd c_37 c_41
                | exact absurd c_41 c_37
                | exact absurd (c_37.symm.trans c_41) (by decide)
                | (rw [sp_sheet, if_neg (fun q => q.elim a_1 b_1), if_neg (fun q => q (by first | exact Or.inl c_8 | exact Or.inr (Or.inl c_14) | exact Or.inr (Or.inr (Or.inl c_20)) | exact Or.inr (Or.inr (Or.inr c_26)))), if_pos ⟨c_37, c_41⟩] at h; exact ms_er (by decide) h)
        · skip
          refine zz_iload_2 dX12_sheet_23 ?_
          refine zz_bipush (32) dX12_sheet_24 (by decide) ?_
          refine zz_icmp_eq 36 dX12_sheet_26 (by decide) (fun c_26 => ?_) (fun c_26 => ?_)
          · skip
            refine zz_iload_2 dX12_sheet_36 ?_
            refine zz_if_eq 51 dX12_sheet_37 (by decide) (fun c_37 => ?_) (fun c_37 => ?_)
            · skip
              refine zz_iload_2 dX12_sheet_51 ?_
              refine zz_if_eq 68 dX12_sheet_52 (by decide) (fun c_52 => ?_) (fun c_52 => ?_)
              · skip
                obtain ⟨s1, hs0, hs1, es1⟩ := zz_in0 (lo := 0) (hi := 3) rfl rfl (by decide) (by decide) a_1 b_1
                first
                  | exact absurd c_8 c_14
                  | exact absurd c_14 c_8
                  | exact absurd (c_8.symm.trans c_14) (by decide)
                  | exact absurd c_8 c_20
                  | exact absurd c_20 c_8
                  | exact absurd (c_8.symm.trans c_20) (by decide)
                  | exact absurd c_8 c_26
                  | exact absurd c_26 c_8
                  | exact absurd (c_8.symm.trans c_26) (by decide)
                  | exact absurd c_8 c_37
                  | exact absurd c_37 c_8
                  | exact absurd (c_8.symm.trans c_37) (by decide)
                  | exact absurd c_8 c_52
                  | exact absurd c_52 c_8
                  | exact absurd (c_8.symm.trans c_52) (by decide)
                  | exact absurd c_14 c_20
                  | exact absurd c_20 c_14
                  | exact absurd (c_14.symm.trans c_20) (by decide)
                  | exact absurd c_14 c_26
                  | exact absurd c_26 c_14
                  | exact absurd (c_14.symm.trans c_26) (by decide)
                  | exact absurd c_14 c_37
                  | exact absurd c_37 c_14
                  | exact absurd (c_14.symm.trans c_37) (by decide)
                  | exact absurd c_14 c_52
                  | exact absurd c_52 c_14
                  | exact absurd (c_14.symm.trans c_52) (by decide)
                  | exact absurd c_20 c_26
                  | exact absurd c_26 c_20
                  | exact absurd (c_20.symm.trans c_26) (by decide)
                  | exact absurd c_20 c_37
                  | exact absurd c_37 c_20
                  | exact absurd (c_20.symm.trans c_37) (by decide)
                  | exact absurd c_20 c_52
                  | exact absurd c_52 c_20
                  | exact absurd (c_20.symm.trans c_52) (by decide)
                  | exact absurd c_26 c_37
                  | exact absurd c_37 c_26
                  | exact absurd (c_26.symm.trans c_37) (by decide)
                  | exact absurd c_26 c_52
                  | exact absurd c_52 c_26
                  | exact absurd (c_26.symm.trans c_52) (by decide)
                  | exact absurd c_37 c_52
                  | exact absurd c_52 c_37
                  | exact absurd (c_37.symm.trans c_52) (by decide)
                  | (rw [sp_sheet, if_neg (fun q => q.elim a_1 b_1), if_neg (fun q => q (by first | exact Or.inl c_8 | exact Or.inr (Or.inl c_14) | exact Or.inr (Or.inr (Or.inl c_20)) | exact Or.inr (Or.inr (Or.inr c_26)))), if_neg (fun q => by first | exact q.1 c_37 | exact q.2 c_41), if_neg (fun q => by first | exact q.1 c_52 | exact q.2 c_58), show v.toNatClampNeg = s1 from by rw [es1]; exact ix_w (by omega)] at h; exact e_X12_sheet (d := d) hn hr s1 (by omega) es1 h)
              · skip
                refine zz_iload_3 dX12_sheet_55 ?_
                refine zz_bipush (40) dX12_sheet_56 (by decide) ?_
                refine zz_icmp_le 68 dX12_sheet_58 (by decide) (fun c_58 => ?_) (fun c_58 => ?_)
                · skip
                  obtain ⟨s1, hs0, hs1, es1⟩ := zz_in0 (lo := 0) (hi := 3) rfl rfl (by decide) (by decide) a_1 b_1
                  first
                    | exact absurd c_8 c_14
                    | exact absurd c_14 c_8
                    | exact absurd (c_8.symm.trans c_14) (by decide)
                    | exact absurd c_8 c_20
                    | exact absurd c_20 c_8
                    | exact absurd (c_8.symm.trans c_20) (by decide)
                    | exact absurd c_8 c_26
                    | exact absurd c_26 c_8
                    | exact absurd (c_8.symm.trans c_26) (by decide)
                    | exact absurd c_8 c_37
                    | exact absurd c_37 c_8
                    | exact absurd (c_8.symm.trans c_37) (by decide)
                    | exact absurd c_8 c_52
                    | exact absurd c_52 c_8
                    | exact absurd (c_8.symm.trans c_52) (by decide)
                    | exact absurd c_8 c_58
                    | exact absurd c_58 c_8
                    | exact absurd (c_8.symm.trans c_58) (by decide)
                    | exact absurd c_14 c_20
                    | exact absurd c_20 c_14
                    | exact absurd (c_14.symm.trans c_20) (by decide)
                    | exact absurd c_14 c_26
                    | exact absurd c_26 c_14
                    | exact absurd (c_14.symm.trans c_26) (by decide)
                    | exact absurd c_14 c_37
                    | exact absurd c_37 c_14
                    | exact absurd (c_14.symm.trans c_37) (by decide)
                    | exact absurd c_14 c_52
                    | exact absurd c_52 c_14
                    | exact absurd (c_14.symm.trans c_52) (by decide)
                    | exact absurd c_14 c_58
                    | exact absurd c_58 c_14
                    | exact absurd (c_14.symm.trans c_58) (by decide)
                    | exact absurd c_20 c_26
                    | exact absurd c_26 c_20
                    | exact absurd (c_20.symm.trans c_26) (by decide)
                    | exact absurd c_20 c_37
                    | exact absurd c_37 c_20
                    | exact absurd (c_20.symm.trans c_37) (by decide)
                    | exact absurd c_20 c_52
                    | exact absurd c_52 c_20
                    | exact absurd (c_20.symm.trans c_52) (by decide)
                    | exact absurd c_20 c_58
                    | exact absurd c_58 c_20
                    | exact absurd (c_20.symm.trans c_58) (by decide)
                    | exact absurd c_26 c_37
                    | exact absurd c_37 c_26
                    | exact absurd (c_26.symm.trans c_37) (by decide)
                    | exact absurd c_26 c_52
                    | exact absurd c_52 c_26
                    | exact absurd (c_26.symm.trans c_52) (by decide)
                    | exact absurd c_26 c_58
                    | exact absurd c_58 c_26
                    | exact absurd (c_26.symm.trans c_58) (by decide)
                    | exact absurd c_37 c_52
                    | exact absurd c_52 c_37
                    | exact absurd (c_37.symm.trans c_52) (by decide)
                    | exact absurd c_37 c_58
                    | exact absurd c_58 c_37
                    | exact absurd (c_37.symm.trans c_58) (by decide)
                    | exact absurd c_52 c_58
                    | exact absurd c_58 c_52
                    | exact absurd (c_52.symm.trans c_58) (by decide)
                    | (rw [sp_sheet, if_neg (fun q => q.elim a_1 b_1), if_neg (fun q => q (by first | exact Or.inl c_8 | exact Or.inr (Or.inl c_14) | exact Or.inr (Or.inr (Or.inl c_20)) | exact Or.inr (Or.inr (Or.inr c_26)))), if_neg (fun q => by first | exact q.1 c_37 | exact q.2 c_41), if_neg (fun q => by first | exact q.1 c_52 | exact q.2 c_58), show v.toNatClampNeg = s1 from by rw [es1]; exact ix_w (by omega)] at h; exact e_X12_sheet (d := d) hn hr s1 (by omega) es1 h)
                · skip
                  refine zz_aload_0 dX12_sheet_61 ?_
                  refine zz_ldc dX12_sheet_62 ct_X12_50 ?_
                  refine zz_callV1i cv_X12_51 rfl (Nat.lt_of_lt_of_le (by decide) hn) (Nat.le_of_ble_eq_true rfl) (by decide) (by decide) dX12_sheet_64 (t_X12_errs hn hr 1 (by decide) (by decide) ⟨_, rfl, ?_⟩)
                  refine zz_iret rfl dX12_sheet_67 (by decide) (by decide) ?_
                  first
                    | exact absurd c_8 c_14
                    | exact absurd c_14 c_8
                    | exact absurd (c_8.symm.trans c_14) (by decide)
                    | exact absurd c_8 c_20
                    | exact absurd c_20 c_8
                    | exact absurd (c_8.symm.trans c_20) (by decide)
                    | exact absurd c_8 c_26
                    | exact absurd c_26 c_8
                    | exact absurd (c_8.symm.trans c_26) (by decide)
                    | exact absurd c_8 c_37
                    | exact absurd c_37 c_8
                    | exact absurd (c_8.symm.trans c_37) (by decide)
                    | exact absurd c_8 c_52
                    | exact absurd c_52 c_8
                    | exact absurd (c_8.symm.trans c_52) (by decide)
                    | exact absurd c_8 c_58
                    | exact absurd c_58 c_8
                    | exact absurd (c_8.symm.trans c_58) (by decide)
                    | exact absurd c_14 c_20
                    | exact absurd c_20 c_14
                    | exact absurd (c_14.symm.trans c_20) (by decide)
                    | exact absurd c_14 c_26
                    | exact absurd c_26 c_14
                    | exact absurd (c_14.symm.trans c_26) (by decide)
                    | exact absurd c_14 c_37
                    | exact absurd c_37 c_14
                    | exact absurd (c_14.symm.trans c_37) (by decide)
                    | exact absurd c_14 c_52
                    | exact absurd c_52 c_14
                    | exact absurd (c_14.symm.trans c_52) (by decide)
                    | exact absurd c_14 c_58
                    | exact absurd c_58 c_14
                    | exact absurd (c_14.symm.trans c_58) (by decide)
                    | exact absurd c_20 c_26
                    | exact absurd c_26 c_20
                    | exact absurd (c_20.symm.trans c_26) (by decide)
                    | exact absurd c_20 c_37
                    | exact absurd c_37 c_20
                    | exact absurd (c_20.symm.trans c_37) (by decide)
                    | exact absurd c_20 c_52
                    | exact absurd c_52 c_20
                    | exact absurd (c_20.symm.trans c_52) (by decide)
                    | exact absurd c_20 c_58
                    | exact absurd c_58 c_20
                    | exact absurd (c_20.symm.trans c_58) (by decide)
                    | exact absurd c_26 c_37
                    | exact absurd c_37 c_26
                    | exact absurd (c_26.symm.trans c_37) (by decide)
                    | exact absurd c_26 c_52
                    | exact absurd c_52 c_26
                    | exact absurd (c_26.symm.trans c_52) (by decide)
                    | exact absurd c_26 c_58
                    | exact absurd c_58 c_26
                    | exact absurd (c_26.symm.trans c_58) (by decide)
                    | exact absurd c_37 c_52
                    | exact absurd c_52 c_37
                    | exact absurd (c_37.symm.trans c_52) (by decide)
                    | exact absurd c_37 c_58
                    | exact absurd c_58 c_37
                    | exact absurd (c_37.symm.trans c_58) (by decide)
                    | exact absurd c_52 c_58
                    | exact absurd c_58 c_52
                    | exact absurd (c_52.symm.trans c_58) (by decide)
                    | (rw [sp_sheet, if_neg (fun q => q.elim a_1 b_1), if_neg (fun q => q (by first | exact Or.inl c_8 | exact Or.inr (Or.inl c_14) | exact Or.inr (Or.inr (Or.inl c_20)) | exact Or.inr (Or.inr (Or.inr c_26)))), if_neg (fun q => q.2 c_41), if_pos ⟨c_52, c_58⟩] at h; exact ms_er (by decide) h)
            · skip
              refine zz_iload_3 dX12_sheet_40 ?_
              refine zz_if_ge 51 dX12_sheet_41 (by decide) (fun c_41 => ?_) (fun c_41 => ?_)
              · skip
                refine zz_iload_2 dX12_sheet_51 ?_
                refine zz_if_eq 68 dX12_sheet_52 (by decide) (fun c_52 => ?_) (fun c_52 => ?_)
                · skip
                  obtain ⟨s1, hs0, hs1, es1⟩ := zz_in0 (lo := 0) (hi := 3) rfl rfl (by decide) (by decide) a_1 b_1
                  first
                    | exact absurd c_8 c_14
                    | exact absurd c_14 c_8
                    | exact absurd (c_8.symm.trans c_14) (by decide)
                    | exact absurd c_8 c_20
                    | exact absurd c_20 c_8
                    | exact absurd (c_8.symm.trans c_20) (by decide)
                    | exact absurd c_8 c_26
                    | exact absurd c_26 c_8
                    | exact absurd (c_8.symm.trans c_26) (by decide)
                    | exact absurd c_8 c_37
                    | exact absurd c_37 c_8
                    | exact absurd (c_8.symm.trans c_37) (by decide)
                    | exact absurd c_8 c_41
                    | exact absurd c_41 c_8
                    | exact absurd (c_8.symm.trans c_41) (by decide)
                    | exact absurd c_8 c_52
                    | exact absurd c_52 c_8
                    | exact absurd (c_8.symm.trans c_52) (by decide)
                    | exact absurd c_14 c_20
                    | exact absurd c_20 c_14
                    | exact absurd (c_14.symm.trans c_20) (by decide)
                    | exact absurd c_14 c_26
                    | exact absurd c_26 c_14
                    | exact absurd (c_14.symm.trans c_26) (by decide)
                    | exact absurd c_14 c_37
                    | exact absurd c_37 c_14
                    | exact absurd (c_14.symm.trans c_37) (by decide)
                    | exact absurd c_14 c_41
                    | exact absurd c_41 c_14
                    | exact absurd (c_14.symm.trans c_41) (by decide)
                    | exact absurd c_14 c_52
                    | exact absurd c_52 c_14
                    | exact absurd (c_14.symm.trans c_52) (by decide)
                    | exact absurd c_20 c_26
                    | exact absurd c_26 c_20
                    | exact absurd (c_20.symm.trans c_26) (by decide)
                    | exact absurd c_20 c_37
                    | exact absurd c_37 c_20
                    | exact absurd (c_20.symm.trans c_37) (by decide)
                    | exact absurd c_20 c_41
                    | exact absurd c_41 c_20
                    | exact absurd (c_20.symm.trans c_41) (by decide)
                    | exact absurd c_20 c_52
                    | exact absurd c_52 c_20
                    | exact absurd (c_20.symm.trans c_52) (by decide)
                    | exact absurd c_26 c_37
                    | exact absurd c_37 c_26
                    | exact absurd (c_26.symm.trans c_37) (by decide)
                    | exact absurd c_26 c_41
                    | exact absurd c_41 c_26
                    | exact absurd (c_26.symm.trans c_41) (by decide)
                    | exact absurd c_26 c_52
                    | exact absurd c_52 c_26
                    | exact absurd (c_26.symm.trans c_52) (by decide)
                    | exact absurd c_37 c_41
                    | exact absurd c_41 c_37
                    | exact absurd (c_37.symm.trans c_41) (by decide)
                    | exact absurd c_37 c_52
                    | exact absurd c_52 c_37
                    | exact absurd (c_37.symm.trans c_52) (by decide)
                    | exact absurd c_41 c_52
                    | exact absurd c_52 c_41
                    | exact absurd (c_41.symm.trans c_52) (by decide)
                    | (rw [sp_sheet, if_neg (fun q => q.elim a_1 b_1), if_neg (fun q => q (by first | exact Or.inl c_8 | exact Or.inr (Or.inl c_14) | exact Or.inr (Or.inr (Or.inl c_20)) | exact Or.inr (Or.inr (Or.inr c_26)))), if_neg (fun q => by first | exact q.1 c_37 | exact q.2 c_41), if_neg (fun q => by first | exact q.1 c_52 | exact q.2 c_58), show v.toNatClampNeg = s1 from by rw [es1]; exact ix_w (by omega)] at h; exact e_X12_sheet (d := d) hn hr s1 (by omega) es1 h)
                · skip
                  refine zz_iload_3 dX12_sheet_55 ?_
                  refine zz_bipush (40) dX12_sheet_56 (by decide) ?_
                  refine zz_icmp_le 68 dX12_sheet_58 (by decide) (fun c_58 => ?_) (fun c_58 => ?_)
                  · skip
                    obtain ⟨s1, hs0, hs1, es1⟩ := zz_in0 (lo := 0) (hi := 3) rfl rfl (by decide) (by decide) a_1 b_1
                    first
                      | exact absurd c_8 c_14
                      | exact absurd c_14 c_8
                      | exact absurd (c_8.symm.trans c_14) (by decide)
                      | exact absurd c_8 c_20
                      | exact absurd c_20 c_8
                      | exact absurd (c_8.symm.trans c_20) (by decide)
                      | exact absurd c_8 c_26
                      | exact absurd c_26 c_8
                      | exact absurd (c_8.symm.trans c_26) (by decide)
                      | exact absurd c_8 c_37
                      | exact absurd c_37 c_8
                      | exact absurd (c_8.symm.trans c_37) (by decide)
                      | exact absurd c_8 c_41
                      | exact absurd c_41 c_8
                      | exact absurd (c_8.symm.trans c_41) (by decide)
                      | exact absurd c_8 c_52
                      | exact absurd c_52 c_8
                      | exact absurd (c_8.symm.trans c_52) (by decide)
                      | exact absurd c_8 c_58
                      | exact absurd c_58 c_8
                      | exact absurd (c_8.symm.trans c_58) (by decide)
                      | exact absurd c_14 c_20
                      | exact absurd c_20 c_14
                      | exact absurd (c_14.symm.trans c_20) (by decide)
                      | exact absurd c_14 c_26
                      | exact absurd c_26 c_14
                      | exact absurd (c_14.symm.trans c_26) (by decide)
                      | exact absurd c_14 c_37
                      | exact absurd c_37 c_14
                      | exact absurd (c_14.symm.trans c_37) (by decide)
                      | exact absurd c_14 c_41
                      | exact absurd c_41 c_14
                      | exact absurd (c_14.symm.trans c_41) (by decide)
                      | exact absurd c_14 c_52
                      | exact absurd c_52 c_14
                      | exact absurd (c_14.symm.trans c_52) (by decide)
                      | exact absurd c_14 c_58
                      | exact absurd c_58 c_14
                      | exact absurd (c_14.symm.trans c_58) (by decide)
                      | exact absurd c_20 c_26
                      | exact absurd c_26 c_20
                      | exact absurd (c_20.symm.trans c_26) (by decide)
                      | exact absurd c_20 c_37
                      | exact absurd c_37 c_20
                      | exact absurd (c_20.symm.trans c_37) (by decide)
                      | exact absurd c_20 c_41
                      | exact absurd c_41 c_20
                      | exact absurd (c_20.symm.trans c_41) (by decide)
                      | exact absurd c_20 c_52
                      | exact absurd c_52 c_20
                      | exact absurd (c_20.symm.trans c_52) (by decide)
                      | exact absurd c_20 c_58
                      | exact absurd c_58 c_20
                      | exact absurd (c_20.symm.trans c_58) (by decide)
                      | exact absurd c_26 c_37
                      | exact absurd c_37 c_26
                      | exact absurd (c_26.symm.trans c_37) (by decide)
                      | exact absurd c_26 c_41
                      | exact absurd c_41 c_26
                      | exact absurd (c_26.symm.trans c_41) (by decide)
                      | exact absurd c_26 c_52
                      | exact absurd c_52 c_26
                      | exact absurd (c_26.symm.trans c_52) (by decide)
                      | exact absurd c_26 c_58
                      | exact absurd c_58 c_26
                      | exact absurd (c_26.symm.trans c_58) (by decide)
                      | exact absurd c_37 c_41
                      | exact absurd c_41 c_37
                      | exact absurd (c_37.symm.trans c_41) (by decide)
                      | exact absurd c_37 c_52
                      | exact absurd c_52 c_37
                      | exact absurd (c_37.symm.trans c_52) (by decide)
                      | exact absurd c_37 c_58
                      | exact absurd c_58 c_37
                      | exact absurd (c_37.symm.trans c_58) (by decide)
                      | exact absurd c_41 c_52
                      | exact absurd c_52 c_41
                      | exact absurd (c_41.symm.trans c_52) (by decide)
                      | exact absurd c_41 c_58
                      | exact absurd c_58 c_41
                      | exact absurd (c_41.symm.trans c_58) (by decide)
                      | exact absurd c_52 c_58
                      | exact absurd c_58 c_52
                      | exact absurd (c_52.symm.trans c_58) (by decide)
                      | (rw [sp_sheet, if_neg (fun q => q.elim a_1 b_1), if_neg (fun q => q (by first | exact Or.inl c_8 | exact Or.inr (Or.inl c_14) | exact Or.inr (Or.inr (Or.inl c_20)) | exact Or.inr (Or.inr (Or.inr c_26)))), if_neg (fun q => by first | exact q.1 c_37 | exact q.2 c_41), if_neg (fun q => by first | exact q.1 c_52 | exact q.2 c_58), show v.toNatClampNeg = s1 from by rw [es1]; exact ix_w (by omega)] at h; exact e_X12_sheet (d := d) hn hr s1 (by omega) es1 h)
                  · skip
                    refine zz_aload_0 dX12_sheet_61 ?_
                    refine zz_ldc dX12_sheet_62 ct_X12_50 ?_
                    refine zz_callV1i cv_X12_51 rfl (Nat.lt_of_lt_of_le (by decide) hn) (Nat.le_of_ble_eq_true rfl) (by decide) (by decide) dX12_sheet_64 (t_X12_errs hn hr 1 (by decide) (by decide) ⟨_, rfl, ?_⟩)
                    refine zz_iret rfl dX12_sheet_67 (by decide) (by decide) ?_
                    first
                      | exact absurd c_8 c_14
                      | exact absurd c_14 c_8
                      | exact absurd (c_8.symm.trans c_14) (by decide)
                      | exact absurd c_8 c_20
                      | exact absurd c_20 c_8
                      | exact absurd (c_8.symm.trans c_20) (by decide)
                      | exact absurd c_8 c_26
                      | exact absurd c_26 c_8
                      | exact absurd (c_8.symm.trans c_26) (by decide)
                      | exact absurd c_8 c_37
                      | exact absurd c_37 c_8
                      | exact absurd (c_8.symm.trans c_37) (by decide)
                      | exact absurd c_8 c_41
                      | exact absurd c_41 c_8
                      | exact absurd (c_8.symm.trans c_41) (by decide)
                      | exact absurd c_8 c_52
                      | exact absurd c_52 c_8
                      | exact absurd (c_8.symm.trans c_52) (by decide)
                      | exact absurd c_8 c_58
                      | exact absurd c_58 c_8
                      | exact absurd (c_8.symm.trans c_58) (by decide)
                      | exact absurd c_14 c_20
                      | exact absurd c_20 c_14
                      | exact absurd (c_14.symm.trans c_20) (by decide)
                      | exact absurd c_14 c_26
                      | exact absurd c_26 c_14
                      | exact absurd (c_14.symm.trans c_26) (by decide)
                      | exact absurd c_14 c_37
                      | exact absurd c_37 c_14
                      | exact absurd (c_14.symm.trans c_37) (by decide)
                      | exact absurd c_14 c_41
                      | exact absurd c_41 c_14
                      | exact absurd (c_14.symm.trans c_41) (by decide)
                      | exact absurd c_14 c_52
                      | exact absurd c_52 c_14
                      | exact absurd (c_14.symm.trans c_52) (by decide)
                      | exact absurd c_14 c_58
                      | exact absurd c_58 c_14
                      | exact absurd (c_14.symm.trans c_58) (by decide)
                      | exact absurd c_20 c_26
                      | exact absurd c_26 c_20
                      | exact absurd (c_20.symm.trans c_26) (by decide)
                      | exact absurd c_20 c_37
                      | exact absurd c_37 c_20
                      | exact absurd (c_20.symm.trans c_37) (by decide)
                      | exact absurd c_20 c_41
                      | exact absurd c_41 c_20
                      | exact absurd (c_20.symm.trans c_41) (by decide)
                      | exact absurd c_20 c_52
                      | exact absurd c_52 c_20
                      | exact absurd (c_20.symm.trans c_52) (by decide)
                      | exact absurd c_20 c_58
                      | exact absurd c_58 c_20
                      | exact absurd (c_20.symm.trans c_58) (by decide)
                      | exact absurd c_26 c_37
                      | exact absurd c_37 c_26
                      | exact absurd (c_26.symm.trans c_37) (by decide)
                      | exact absurd c_26 c_41
                      | exact absurd c_41 c_26
                      | exact absurd (c_26.symm.trans c_41) (by decide)
                      | exact absurd c_26 c_52
                      | exact absurd c_52 c_26
                      | exact absurd (c_26.symm.trans c_52) (by decide)
                      | exact absurd c_26 c_58
                      | exact absurd c_58 c_26
                      | exact absurd (c_26.symm.trans c_58) (by decide)
                      | exact absurd c_37 c_41
                      | exact absurd c_41 c_37
                      | exact absurd (c_37.symm.trans c_41) (by decide)
                      | exact absurd c_37 c_52
                      | exact absurd c_52 c_37
                      | exact absurd (c_37.symm.trans c_52) (by decide)
                      | exact absurd c_37 c_58
                      | exact absurd c_58 c_37
                      | exact absurd (c_37.symm.trans c_58) (by decide)
                      | exact absurd c_41 c_52
                      | exact absurd c_52 c_41
                      | exact absurd (c_41.symm.trans c_52) (by decide)
                      | exact absurd c_41 c_58
                      | exact absurd c_58 c_41
                      | exact absurd (c_41.symm.trans c_58) (by decide)
                      | exact absurd c_52 c_58
                      | exact absurd c_58 c_52
                      | exact absurd (c_52.symm.trans c_58) (by decide)
                      | (rw [sp_sheet, if_neg (fun q => q.elim a_1 b_1), if_neg (fun q => q (by first | exact Or.inl c_8 | exact Or.inr (Or.inl c_14) | exact Or.inr (Or.inr (Or.inl c_20)) | exact Or.inr (Or.inr (Or.inr c_26)))), if_neg (fun q => q.2 c_41), if_pos ⟨c_52, c_58⟩] at h; exact ms_er (by decide) h)
              · skip
                refine zz_aload_0 dX12_sheet_44 ?_
                refine zz_ldc dX12_sheet_45 ct_X12_161 ?_
                refine zz_callV1i cv_X12_51 rfl (Nat.lt_of_lt_of_le (by decide) hn) (Nat.le_of_ble_eq_true rfl) (by decide) (by decide) dX12_sheet_47 (t_X12_errs hn hr 3 (by decide) (by decide) ⟨_, rfl, ?_⟩)
                refine zz_iret rfl dX12_sheet_50 (by decide) (by decide) ?_
                first
                  | exact absurd c_8 c_14
                  | exact absurd c_14 c_8
                  | exact absurd (c_8.symm.trans c_14) (by decide)
                  | exact absurd c_8 c_20
                  | exact absurd c_20 c_8
                  | exact absurd (c_8.symm.trans c_20) (by decide)
                  | exact absurd c_8 c_26
                  | exact absurd c_26 c_8
                  | exact absurd (c_8.symm.trans c_26) (by decide)
                  | exact absurd c_8 c_37
                  | exact absurd c_37 c_8
                  | exact absurd (c_8.symm.trans c_37) (by decide)
                  | exact absurd c_8 c_41
                  | exact absurd c_41 c_8
                  | exact absurd (c_8.symm.trans c_41) (by decide)
                  | exact absurd c_14 c_20
                  | exact absurd c_20 c_14
                  | exact absurd (c_14.symm.trans c_20) (by decide)
                  | exact absurd c_14 c_26
                  | exact absurd c_26 c_14
                  | exact absurd (c_14.symm.trans c_26) (by decide)
                  | exact absurd c_14 c_37
                  | exact absurd c_37 c_14
                  | exact absurd (c_14.symm.trans c_37) (by decide)
                  | exact absurd c_14 c_41
                  | exact absurd c_41 c_14
                  | exact absurd (c_14.symm.trans c_41) (by decide)
                  | exact absurd c_20 c_26
                  | exact absurd c_26 c_20
                  | exact absurd (c_20.symm.trans c_26) (by decide)
                  | exact absurd c_20 c_37
                  | exact absurd c_37 c_20
                  | exact absurd (c_20.symm.trans c_37) (by decide)
                  | exact absurd c_20 c_41
                  | exact absurd c_41 c_20
                  | exact absurd (c_20.symm.trans c_41) (by decide)
                  | exact absurd c_26 c_37
                  | exact absurd c_37 c_26
                  | exact absurd (c_26.symm.trans c_37) (by decide)
                  | exact absurd c_26 c_41
                  | exact absurd c_41 c_26
                  | exact absurd (c_26.symm.trans c_41) (by decide)
                  | exact absurd c_37 c_41
                  | exact absurd c_41 c_37
                  | exact absurd (c_37.symm.trans c_41) (by decide)
                  | (rw [sp_sheet, if_neg (fun q => q.elim a_1 b_1), if_neg (fun q => q (by first | exact Or.inl c_8 | exact Or.inr (Or.inl c_14) | exact Or.inr (Or.inr (Or.inl c_20)) | exact Or.inr (Or.inr (Or.inr c_26)))), if_pos ⟨c_37, c_41⟩] at h; exact ms_er (by decide) h)
          · skip
            refine zz_aload_0 dX12_sheet_29 ?_
            refine zz_ldc dX12_sheet_30 ct_X12_50 ?_
            refine zz_callV1i cv_X12_51 rfl (Nat.lt_of_lt_of_le (by decide) hn) (Nat.le_of_ble_eq_true rfl) (by decide) (by decide) dX12_sheet_32 (t_X12_errs hn hr 1 (by decide) (by decide) ⟨_, rfl, ?_⟩)
            refine zz_iret rfl dX12_sheet_35 (by decide) (by decide) ?_
            rw [sp_sheet, if_neg (fun q => q.elim a_1 b_1), if_pos (fun q => q.elim c_8 (fun q => q.elim c_14 (fun q => q.elim c_20 c_26)))] at h
            exact ms_er (by decide) h
  · skip
    refine zz_if_eq 29 dX12_sheet_4 (by decide) (fun _ => ?_) (fun h => absurd h (by decide))
    refine zz_aload_0 dX12_sheet_29 ?_
    refine zz_ldc dX12_sheet_30 ct_X12_50 ?_
    refine zz_callV1i cv_X12_51 rfl (Nat.lt_of_lt_of_le (by decide) hn) (Nat.le_of_ble_eq_true rfl) (by decide) (by decide) dX12_sheet_32 (t_X12_errs hn hr 1 (by decide) (by decide) ⟨_, rfl, ?_⟩)
    refine zz_iret rfl dX12_sheet_35 (by decide) (by decide) ?_
    rw [sp_sheet, if_pos o_1] at h
    exact ms_er (by decide) h
