def sp_cg (R : Nat → Int32) : Nat → Int32
  | 0 => 0
  | c + 1 => sp_cg R c ||| (if sp_counts R c then 1 <<< (nI c &&& 31) else 0)
theorem sp_cg_y {R : Nat → Int32} {c : Nat} (h : sp_counts R c) : sp_cg R c ||| 1 <<< (nI c &&& 31) = sp_cg R (c + 1) := by rw [sp_cg, if_pos h]
theorem sp_cg_n {R : Nat → Int32} {c : Nat} (h : ¬ sp_counts R c) : sp_cg R c ||| 0 = sp_cg R (c + 1) := by rw [sp_cg, if_neg h]
def sp_counting (S : zz_G) : Int32 × zz_G := (sp_cg (S 51) (S 51 7).toNatClampNeg, S)
abbrev sp_cx (R : Nat → Int32) (c q : Nat) : Prop := ¬ R (46 + 6 * q + 2) ≤ R (46 + 6 * c + 2) ∧ ¬ R (46 + 6 * c + 3) ≤ R (46 + 6 * q + 3)
def sp_ci (R : Nat → Int32) (c : Nat) (acc : Int32) : Nat → Int32
  | 0 => acc
  | q + 1 => sp_ci R c acc q + (if sp_cx R c q then 1 else 0)
theorem sp_ci_y {R : Nat → Int32} {c q : Nat} {acc : Int32} (h : sp_cx R c q) : sp_ci R c acc q + 1 = sp_ci R c acc (q + 1) := by rw [sp_ci, if_pos h]
theorem sp_ci_n {R : Nat → Int32} {c q : Nat} {acc : Int32} (h : ¬ sp_cx R c q) : sp_ci R c acc q + 0 = sp_ci R c acc (q + 1) := by rw [sp_ci, if_neg h]
def sp_co (R : Nat → Int32) (m : Nat) : Nat → Int32
  | 0 => 0
  | c + 1 => sp_ci R c (sp_co R m c) m
def sp_crossed (S : zz_G) : Int32 × zz_G := (sp_co (S 51) (S 51 7).toNatClampNeg (S 51 7).toNatClampNeg, S)
abbrev sp_lx (R : Nat → Int32) (pl : Int32) (w : Nat) : Prop := R (16 + 5 * w + 4) = 0 ∧ (pl >>> (R (16 + 5 * w + 3) &&& 31)) &&& 1 = 0
def sp_lb (R : Nat → Int32) (pl : Int32) : Nat → Int32
  | 0 => 0
  | w + 1 => sp_lb R pl w + (if sp_lx R pl w then 1 else 0)
theorem sp_lb_y {R : Nat → Int32} {pl : Int32} {w : Nat} (h : sp_lx R pl w) : sp_lb R pl w + 1 = sp_lb R pl (w + 1) := by rw [sp_lb, if_pos h]
theorem sp_lb_n {R : Nat → Int32} {pl : Int32} {w : Nat} (h : ¬ sp_lx R pl w) : sp_lb R pl w + 0 = sp_lb R pl (w + 1) := by rw [sp_lb, if_neg h]
def sp_tp (R : Nat → Int32) (w : Nat) : Int32 := if R (16 + 5 * w + 4) = 0 then 1 <<< (R (16 + 5 * w + 3) &&& 31) else 0
def sp_to (R : Nat → Int32) : Nat → Int32
  | 0 => 0
  | w + 1 => sp_to R w ||| sp_tp R w
def sp_ts (R : Nat → Int32) : Nat → Int32
  | 0 => 0
  | w + 1 => sp_ts R w ||| sp_to R w &&& sp_tp R w
def sp_together (S : zz_G) : Int32 × zz_G := (sp_ts (S 51) (S 51 2).toNatClampNeg, S)
def sp_wf (R : Nat → Int32) : Nat → Int32
  | 0 => -1
  | c + 1 => if R (46 + 6 * c + 5) = 0 ∧ ¬ R (46 + 6 * c + 3) - R 0 ≤ 0 ∧ (sp_wf R c < 0 ∨ ¬ sp_wf R c ≤ R (46 + 6 * c + 3) - R 0) then R (46 + 6 * c + 3) - R 0 else sp_wf R c
def sp_waitFor (S : zz_G) : Int32 × zz_G := if 0 ≤ sp_wf (S 51) (S 51 7).toNatClampNeg then (sp_wf (S 51) (S 51 7).toNatClampNeg, S) else sp_err S 2
def sp_ffk (R : Nat → Int32) (v : Int32) : Nat → Nat → Nat
  | 0, f => f
  | k + 1, f => if R 10 * v ≤ sp_tn f then f else sp_ffk R v k (f + 1)
def sp_figuresFor (S : zz_G) (v : Int32) : Int32 × zz_G := if v < 1 ∨ 999999 < v then sp_err S 1 else if sp_ffk (S 51) v 6 1 ≤ 6 then (nI (sp_ffk (S 51) v 6 1), S) else sp_err S 2
def sp_guess (S : zz_G) (part : Int32) : Int32 × zz_G := if part < 0 ∨ 1 < part then sp_err S 1 else if part = 0 then (S 51 10 / nI (Nat.gcd (S 51 10).toNatClampNeg (10 ^ (S 51 8).toNatClampNeg)), S) else (sp_tn (S 51 8).toNatClampNeg / nI (Nat.gcd (S 51 10).toNatClampNeg (10 ^ (S 51 8).toNatClampNeg)), S)
theorem sp_tn_pow : ∀ f : Nat, sp_tn f = nI (10 ^ f)
  | 0 => rfl
  | f + 1 => by
    rw [sp_tn, sp_tn_pow f, show (10 : Int32) = nI 10 from rfl, pk_mul, Nat.pow_succ]
set_option maxRecDepth 100000 in
set_option maxHeartbeats 4000000 in
theorem l_X12_counting {C : zz_C} {d n : Nat} {g : zz_G} {r : zz_R} {Q : zz_Q} (hn : 60 ≤ n) (hr : xr r) (cw : Nat) (hcw : g 51 7 = nI cw) (hcw6 : cw ≤ 10) (h : Q (some (.int (sp_cg (g 51) cw))) g r n) : ∀ (k : Nat) (j : Nat), j ≤ cw → cw - j < k → zz_Z C mi_X12_counting (d + 2) 0 0 0 0 4 [some (.ref 50), some (.int (sp_cg (g 51) j)), some (.int (nI j))] [] g r n Q := by
  intro k
  induction k with
  | zero => intro j hj hk; exact absurd hk (by omega)
  | succ k ih =>
    intro j hj hk
    refine zz_iload_2 dX12_counting_4 ?_
    refine zz_aload_0 dX12_counting_5 ?_
    refine zz_getR fl_X12_7 rfl rfl (Nat.lt_of_lt_of_le (by decide) hn) (xr_50_0 hr) dX12_counting_6 ?_
    refine zz_bipush (7) dX12_counting_9 (by decide) ?_
    refine zz_iald 7 (by decide) (by decide) (by decide) rfl (Nat.lt_of_lt_of_le (by decide) hn) dX12_counting_11 ?_
    refine zz_icmp_ge 39 dX12_counting_12 (by decide) (fun c_12 => ?_) (fun c_12 => ?_)
    · skip
      refine zz_iload_1 dX12_counting_39 ?_
      refine zz_iret rfl dX12_counting_40 (by decide) (by decide) ?_
      rw [hcw] at c_12
      have := zz_gei c_12 (by omega) (by omega)
      rw [show j = cw by omega]
      exact h
    · skip
      refine zz_iload_1 dX12_counting_15 ?_
      refine zz_aload_0 dX12_counting_16 ?_
      refine zz_iload_2 dX12_counting_17 ?_
      refine zz_callV1i cv_X12_171 rfl (Nat.lt_of_lt_of_le (by decide) hn) (Nat.le_of_ble_eq_true rfl) (by decide) (by decide) dX12_counting_18 (t_X12_counts hn hr j (by rw [hcw] at c_12; have := zz_lti c_12 (by omega) (by omega); omega) rfl (fun y_18 => ⟨_, rfl, ?_⟩) (fun y_18 => ⟨_, rfl, ?_⟩))
      · skip
        refine zz_if_eq 30 dX12_counting_21 (by decide) (fun h => absurd h (by decide)) (fun _ => ?_)
        refine zz_iconst (1) dX12_counting_24 (by decide) ?_
        refine zz_iload_2 dX12_counting_25 ?_
        refine zz_ishl dX12_counting_26 ?_
        refine zz_goto 31 dX12_counting_27 (by decide) ?_
        refine zz_ior dX12_counting_31 ?_
        refine zz_istore_1 dX12_counting_32 rfl rfl ?_
        refine zz_iinc_2 (1) dX12_counting_33 rfl rfl (by decide) ?_
        refine zz_goto 4 dX12_counting_36 (by decide) ?_
        rw [hcw] at c_12
        have hlt := zz_lti c_12 (by omega) (by omega)
        first
          | rw [sp_cg_y y_18]
          | rw [sp_cg_n y_18]
        rw [nI_1]
        exact ih (j + 1) (by omega) (by omega)
      · skip
        refine zz_if_eq 30 dX12_counting_21 (by decide) (fun _ => ?_) (fun h => absurd h (by decide))
        refine zz_iconst (0) dX12_counting_30 (by decide) ?_
        refine zz_ior dX12_counting_31 ?_
        refine zz_istore_1 dX12_counting_32 rfl rfl ?_
        refine zz_iinc_2 (1) dX12_counting_33 rfl rfl (by decide) ?_
        refine zz_goto 4 dX12_counting_36 (by decide) ?_
        rw [hcw] at c_12
        have hlt := zz_lti c_12 (by omega) (by omega)
        first
          | rw [sp_cg_y y_18]
          | rw [sp_cg_n y_18]
        rw [nI_1]
        exact ih (j + 1) (by omega) (by omega)

set_option maxRecDepth 100000 in
set_option maxHeartbeats 4000000 in
theorem t_X12_counting {C : zz_C} {d n : Nat} {g : zz_G} {r : zz_R} {Q : zz_Q} (hn : 60 ≤ n) (hr : xr r) (cw : Nat) (hcw : g 51 7 = nI cw) (hcw6 : cw ≤ 10) (h : ms_o g r n Q (sp_counting (ms_S g))) : zz_T C mi_X12_counting (d + 2) 0 0 [.ref 50] g r n Q := by
  refine zz_T.of [some (.ref 50), none, none] (by decide +kernel) rfl (Nat.le_of_ble_eq_true rfl) ?_
  refine zz_iconst (0) dX12_counting_0 (by decide) ?_
  refine zz_istore_1 dX12_counting_1 rfl rfl ?_
  refine zz_iconst (0) dX12_counting_2 (by decide) ?_
  refine zz_istore_2 dX12_counting_3 rfl rfl ?_
  rw [sp_counting, ms_R, hcw, ix_w (by omega)] at h
  exact l_X12_counting hn hr cw hcw hcw6 (ms_mj h mj_rf) 12 0 (by omega) (by omega)

set_option maxRecDepth 100000 in
set_option maxHeartbeats 4000000 in
theorem li_X12_crossed {C : zz_C} {d n : Nat} {g : zz_G} {r : zz_R} {Q : zz_Q} (hn : 60 ≤ n) (hr : xr r) (cw : Nat) (hcw : g 51 7 = nI cw) (hcw6 : cw ≤ 10) {c : Nat} (hc : c < cw) {acc : Int32} (h : zz_Z C mi_X12_crossed (d + 1) 0 0 0 0 72 [some (.ref 50), some (.int (sp_ci (g 51) c acc cw)), some (.int (nI c)), some (.int (nI cw))] [] g r n Q) : ∀ (k : Nat) (q : Nat), q ≤ cw → cw - q < k → zz_Z C mi_X12_crossed (d + 1) 0 0 0 0 17 [some (.ref 50), some (.int (sp_ci (g 51) c acc q)), some (.int (nI c)), some (.int (nI q))] [] g r n Q := by
  intro k
  induction k with
  | zero => intro q hj hk; exact absurd hk (by omega)
  | succ k ih =>
    intro q hj hk
    refine zz_iload_3 dX12_crossed_17 ?_
    refine zz_aload_0 dX12_crossed_18 ?_
    refine zz_getR fl_X12_7 rfl rfl (Nat.lt_of_lt_of_le (by decide) hn) (xr_50_0 hr) dX12_crossed_19 ?_
    refine zz_bipush (7) dX12_crossed_22 (by decide) ?_
    refine zz_iald 7 (by decide) (by decide) (by decide) rfl (Nat.lt_of_lt_of_le (by decide) hn) dX12_crossed_24 ?_
    refine zz_icmp_ge 72 dX12_crossed_25 (by decide) (fun c_25 => ?_) (fun c_25 => ?_)
    · skip
      rw [hcw] at c_25
      have := zz_gei c_25 (by omega) (by omega)
      rw [show q = cw by omega]
      exact h
    · skip
      refine zz_iload_1 dX12_crossed_28 ?_
      refine zz_aload_0 dX12_crossed_29 ?_
      refine zz_iload_2 dX12_crossed_30 ?_
      refine zz_iconst (2) dX12_crossed_31 (by decide) ?_
      have hlt : q < cw := zz_lti (by rw [← hcw]; exact c_25) (by omega) (by omega)
      refine zz_callV2i cv_X12_165 rfl (Nat.lt_of_lt_of_le (by decide) hn) (Nat.le_of_ble_eq_true rfl) (by decide) (by decide) dX12_crossed_32 (t_X12_of hn hr c 2 rfl rfl (by omega) ⟨_, rfl, ?_⟩)
      refine zz_aload_0 dX12_crossed_35 ?_
      refine zz_iload_3 dX12_crossed_36 ?_
      refine zz_iconst (2) dX12_crossed_37 (by decide) ?_
      refine zz_callV2i cv_X12_165 rfl (Nat.lt_of_lt_of_le (by decide) hn) (Nat.le_of_ble_eq_true rfl) (by decide) (by decide) dX12_crossed_38 (t_X12_of hn hr q 2 rfl rfl (by omega) ⟨_, rfl, ?_⟩)
      refine zz_icmp_ge 63 dX12_crossed_41 (by decide) (fun c_41 => ?_) (fun c_41 => ?_)
      · skip
        refine zz_iconst (0) dX12_crossed_63 (by decide) ?_
        refine zz_iadd dX12_crossed_64 ?_
        refine zz_istore_1 dX12_crossed_65 rfl rfl ?_
        refine zz_iinc_3 (1) dX12_crossed_66 rfl rfl (by decide) ?_
        refine zz_goto 17 dX12_crossed_69 (by decide) ?_
        first
          | rw [sp_ci_y ⟨c_41, c_56⟩]
          | rw [sp_ci_n (fun z => z.2 c_56)]
          | rw [sp_ci_n (fun z => z.1 c_41)]
        rw [nI_1]
        exact ih (q + 1) (by omega) (by omega)
      · skip
        refine zz_aload_0 dX12_crossed_44 ?_
        refine zz_iload_2 dX12_crossed_45 ?_
        refine zz_iconst (3) dX12_crossed_46 (by decide) ?_
        refine zz_callV2i cv_X12_165 rfl (Nat.lt_of_lt_of_le (by decide) hn) (Nat.le_of_ble_eq_true rfl) (by decide) (by decide) dX12_crossed_47 (t_X12_of hn hr c 3 rfl rfl (by omega) ⟨_, rfl, ?_⟩)
        refine zz_aload_0 dX12_crossed_50 ?_
        refine zz_iload_3 dX12_crossed_51 ?_
        refine zz_iconst (3) dX12_crossed_52 (by decide) ?_
        refine zz_callV2i cv_X12_165 rfl (Nat.lt_of_lt_of_le (by decide) hn) (Nat.le_of_ble_eq_true rfl) (by decide) (by decide) dX12_crossed_53 (t_X12_of hn hr q 3 rfl rfl (by omega) ⟨_, rfl, ?_⟩)
        refine zz_icmp_le 63 dX12_crossed_56 (by decide) (fun c_56 => ?_) (fun c_56 => ?_)
        · skip
          refine zz_iconst (0) dX12_crossed_63 (by decide) ?_
          refine zz_iadd dX12_crossed_64 ?_
          refine zz_istore_1 dX12_crossed_65 rfl rfl ?_
          refine zz_iinc_3 (1) dX12_crossed_66 rfl rfl (by decide) ?_
          refine zz_goto 17 dX12_crossed_69 (by decide) ?_
          first
            | rw [sp_ci_y ⟨c_41, c_56⟩]
            | rw [sp_ci_n (fun z => z.2 c_56)]
            | rw [sp_ci_n (fun z => z.1 c_41)]
          rw [nI_1]
          exact ih (q + 1) (by omega) (by omega)
        · skip
          refine zz_iconst (1) dX12_crossed_59 (by decide) ?_
          refine zz_goto 64 dX12_crossed_60 (by decide) ?_
          refine zz_iadd dX12_crossed_64 ?_
          refine zz_istore_1 dX12_crossed_65 rfl rfl ?_
          refine zz_iinc_3 (1) dX12_crossed_66 rfl rfl (by decide) ?_
          refine zz_goto 17 dX12_crossed_69 (by decide) ?_
          first
            | rw [sp_ci_y ⟨c_41, c_56⟩]
            | rw [sp_ci_n (fun z => z.2 c_56)]
            | rw [sp_ci_n (fun z => z.1 c_41)]
          rw [nI_1]
          exact ih (q + 1) (by omega) (by omega)

set_option maxRecDepth 100000 in
set_option maxHeartbeats 4000000 in
theorem l_X12_crossed {C : zz_C} {d n : Nat} {g : zz_G} {r : zz_R} {Q : zz_Q} (hn : 60 ≤ n) (hr : xr r) (cw : Nat) (hcw : g 51 7 = nI cw) (hcw6 : cw ≤ 10) (h : Q (some (.int (sp_co (g 51) cw cw))) g r n) : ∀ (k : Nat) (t3 : Option Value) (c : Nat), c ≤ cw → cw - c < k → zz_Z C mi_X12_crossed (d + 1) 0 0 0 0 4 [some (.ref 50), some (.int (sp_co (g 51) cw c)), some (.int (nI c)), t3] [] g r n Q := by
  intro k
  induction k with
  | zero => intro t3 c hj hk; exact absurd hk (by omega)
  | succ k ih =>
    intro t3 c hj hk
    refine zz_iload_2 dX12_crossed_4 ?_
    refine zz_aload_0 dX12_crossed_5 ?_
    refine zz_getR fl_X12_7 rfl rfl (Nat.lt_of_lt_of_le (by decide) hn) (xr_50_0 hr) dX12_crossed_6 ?_
    refine zz_bipush (7) dX12_crossed_9 (by decide) ?_
    refine zz_iald 7 (by decide) (by decide) (by decide) rfl (Nat.lt_of_lt_of_le (by decide) hn) dX12_crossed_11 ?_
    refine zz_icmp_ge 78 dX12_crossed_12 (by decide) (fun c_12 => ?_) (fun c_12 => ?_)
    · skip
      refine zz_iload_1 dX12_crossed_78 ?_
      refine zz_iret rfl dX12_crossed_79 (by decide) (by decide) ?_
      rw [hcw] at c_12
      have := zz_gei c_12 (by omega) (by omega)
      rw [show c = cw by omega]
      exact h
    · skip
      refine zz_iconst (0) dX12_crossed_15 (by decide) ?_
      refine zz_istore_3 dX12_crossed_16 rfl rfl ?_
      rw [hcw] at c_12
      have hlt := zz_lti c_12 (by omega) (by omega)
      refine li_X12_crossed (d := d) hn hr cw hcw hcw6 hlt (acc := sp_co (g 51) cw c) ?_ 12 0 (by omega) (by omega)
      refine zz_iinc_2 (1) dX12_crossed_72 rfl rfl (by decide) ?_
      refine zz_goto 4 dX12_crossed_75 (by decide) ?_
      rw [nI_1]
      exact ih _ (c + 1) (by omega) (by omega)

set_option maxRecDepth 100000 in
set_option maxHeartbeats 4000000 in
theorem t_X12_crossed {C : zz_C} {d n : Nat} {g : zz_G} {r : zz_R} {Q : zz_Q} (hn : 60 ≤ n) (hr : xr r) (cw : Nat) (hcw : g 51 7 = nI cw) (hcw6 : cw ≤ 10) (h : ms_o g r n Q (sp_crossed (ms_S g))) : zz_T C mi_X12_crossed (d + 1) 0 0 [.ref 50] g r n Q := by
  refine zz_T.of [some (.ref 50), none, none, none] (by decide +kernel) rfl (Nat.le_of_ble_eq_true rfl) ?_
  refine zz_iconst (0) dX12_crossed_0 (by decide) ?_
  refine zz_istore_1 dX12_crossed_1 rfl rfl ?_
  refine zz_iconst (0) dX12_crossed_2 (by decide) ?_
  refine zz_istore_2 dX12_crossed_3 rfl rfl ?_
  rw [sp_crossed, ms_R, hcw, ix_w (by omega)] at h
  exact l_X12_crossed hn hr cw hcw hcw6 (ms_mj h mj_rf) 12 _ 0 (by omega) (by omega)

set_option maxRecDepth 100000 in
set_option maxHeartbeats 4000000 in
theorem l_X12_leftBut {C : zz_C} {d n : Nat} {g : zz_G} {r : zz_R} {Q : zz_Q} (hn : 60 ≤ n) (hr : xr r) (mw : Nat) (hmw : g 51 2 = nI mw) (hmw6 : mw ≤ 6) {pl : Int32} (h : Q (some (.int (sp_lb (g 51) pl mw))) g r n) : ∀ (k : Nat) (j : Nat), j ≤ mw → mw - j < k → zz_Z C mi_X12_leftBut (d + 1) 0 0 0 0 4 [some (.ref 50), some (.int pl), some (.int (sp_lb (g 51) pl j)), some (.int (nI j))] [] g r n Q := by
  intro k
  induction k with
  | zero => intro j hj hk; exact absurd hk (by omega)
  | succ k ih =>
    intro j hj hk
    refine zz_iload_3 dX12_leftBut_4 ?_
    refine zz_aload_0 dX12_leftBut_5 ?_
    refine zz_getR fl_X12_7 rfl rfl (Nat.lt_of_lt_of_le (by decide) hn) (xr_50_0 hr) dX12_leftBut_6 ?_
    refine zz_iconst (2) dX12_leftBut_9 (by decide) ?_
    refine zz_iald 2 (by decide) (by decide) (by decide) rfl (Nat.lt_of_lt_of_le (by decide) hn) dX12_leftBut_10 ?_
    refine zz_icmp_ge 50 dX12_leftBut_11 (by decide) (fun c_11 => ?_) (fun c_11 => ?_)
    · skip
      refine zz_iload_2 dX12_leftBut_50 ?_
      refine zz_iret rfl dX12_leftBut_51 (by decide) (by decide) ?_
      rw [hmw] at c_11
      have := zz_gei c_11 (by omega) (by omega)
      rw [show j = mw by omega]
      exact h
    · skip
      refine zz_iload_2 dX12_leftBut_14 ?_
      refine zz_aload_0 dX12_leftBut_15 ?_
      refine zz_iload_3 dX12_leftBut_16 ?_
      refine zz_iconst (4) dX12_leftBut_17 (by decide) ?_
      have hlt : j < mw := zz_lti (by rw [← hmw]; exact c_11) (by omega) (by omega)
      refine zz_callV2i cv_X12_64 rfl (Nat.lt_of_lt_of_le (by decide) hn) (Nat.le_of_ble_eq_true rfl) (by decide) (by decide) dX12_leftBut_18 (t_X12_its hn hr j 4 rfl rfl (by omega) ⟨_, rfl, ?_⟩)
      refine zz_if_ne 41 dX12_leftBut_21 (by decide) (fun c_21 => ?_) (fun c_21 => ?_)
      · skip
        refine zz_iconst (0) dX12_leftBut_41 (by decide) ?_
        refine zz_iadd dX12_leftBut_42 ?_
        refine zz_istore_2 dX12_leftBut_43 rfl rfl ?_
        refine zz_iinc_3 (1) dX12_leftBut_44 rfl rfl (by decide) ?_
        refine zz_goto 4 dX12_leftBut_47 (by decide) ?_
        first
          | rw [sp_lb_y ⟨c_21, c_34⟩]
          | rw [sp_lb_n (fun z => c_34 z.2)]
          | rw [sp_lb_n (fun z => c_21 z.1)]
        rw [nI_1]
        exact ih (j + 1) (by omega) (by omega)
      · skip
        refine zz_iload_1 dX12_leftBut_24 ?_
        refine zz_aload_0 dX12_leftBut_25 ?_
        refine zz_iload_3 dX12_leftBut_26 ?_
        refine zz_iconst (3) dX12_leftBut_27 (by decide) ?_
        refine zz_callV2i cv_X12_64 rfl (Nat.lt_of_lt_of_le (by decide) hn) (Nat.le_of_ble_eq_true rfl) (by decide) (by decide) dX12_leftBut_28 (t_X12_its hn hr j 3 rfl rfl (by omega) ⟨_, rfl, ?_⟩)
        refine zz_ishr dX12_leftBut_31 ?_
        refine zz_iconst (1) dX12_leftBut_32 (by decide) ?_
        refine zz_iand dX12_leftBut_33 ?_
        refine zz_if_ne 41 dX12_leftBut_34 (by decide) (fun c_34 => ?_) (fun c_34 => ?_)
        · skip
          refine zz_iconst (0) dX12_leftBut_41 (by decide) ?_
          refine zz_iadd dX12_leftBut_42 ?_
          refine zz_istore_2 dX12_leftBut_43 rfl rfl ?_
          refine zz_iinc_3 (1) dX12_leftBut_44 rfl rfl (by decide) ?_
          refine zz_goto 4 dX12_leftBut_47 (by decide) ?_
          first
            | rw [sp_lb_y ⟨c_21, c_34⟩]
            | rw [sp_lb_n (fun z => c_34 z.2)]
            | rw [sp_lb_n (fun z => c_21 z.1)]
          rw [nI_1]
          exact ih (j + 1) (by omega) (by omega)
        · skip
          refine zz_iconst (1) dX12_leftBut_37 (by decide) ?_
          refine zz_goto 42 dX12_leftBut_38 (by decide) ?_
          refine zz_iadd dX12_leftBut_42 ?_
          refine zz_istore_2 dX12_leftBut_43 rfl rfl ?_
          refine zz_iinc_3 (1) dX12_leftBut_44 rfl rfl (by decide) ?_
          refine zz_goto 4 dX12_leftBut_47 (by decide) ?_
          first
            | rw [sp_lb_y ⟨c_21, c_34⟩]
            | rw [sp_lb_n (fun z => c_34 z.2)]
            | rw [sp_lb_n (fun z => c_21 z.1)]
          rw [nI_1]
          exact ih (j + 1) (by omega) (by omega)

set_option maxRecDepth 100000 in
set_option maxHeartbeats 4000000 in
theorem t_X12_leftBut {C : zz_C} {d n : Nat} {g : zz_G} {r : zz_R} {Q : zz_Q} (hn : 60 ≤ n) (hr : xr r) (mw : Nat) (hmw : g 51 2 = nI mw) (hmw6 : mw ≤ 6) {pl : Int32} (h : Q (some (.int (sp_lb (g 51) pl mw))) g r n) : zz_T C mi_X12_leftBut (d + 1) 0 0 [.ref 50, .int pl] g r n Q := by
  refine zz_T.of [some (.ref 50), some (.int pl), none, none] (by decide +kernel) rfl (Nat.le_of_ble_eq_true rfl) ?_
  refine zz_iconst (0) dX12_leftBut_0 (by decide) ?_
  refine zz_istore_2 dX12_leftBut_1 rfl rfl ?_
  refine zz_iconst (0) dX12_leftBut_2 (by decide) ?_
  refine zz_istore_3 dX12_leftBut_3 rfl rfl ?_
  exact l_X12_leftBut hn hr mw hmw hmw6 h 9 0 (by omega) (by omega)

set_option maxRecDepth 100000 in
set_option maxHeartbeats 4000000 in
theorem l_X12_together {C : zz_C} {d n : Nat} {g : zz_G} {r : zz_R} {Q : zz_Q} (hn : 60 ≤ n) (hr : xr r) (mw : Nat) (hmw : g 51 2 = nI mw) (hmw6 : mw ≤ 6) (h : Q (some (.int (sp_ts (g 51) mw))) g r n) : ∀ (k : Nat) (t4 : Option Value) (j : Nat), j ≤ mw → mw - j < k → zz_Z C mi_X12_together (d + 1) 0 0 0 0 6 [some (.ref 50), some (.int (sp_to (g 51) j)), some (.int (sp_ts (g 51) j)), some (.int (nI j)), t4] [] g r n Q := by
  intro k
  induction k with
  | zero => intro t4 j hj hk; exact absurd hk (by omega)
  | succ k ih =>
    intro t4 j hj hk
    refine zz_iload_3 dX12_together_6 ?_
    refine zz_aload_0 dX12_together_7 ?_
    refine zz_getR fl_X12_7 rfl rfl (Nat.lt_of_lt_of_le (by decide) hn) (xr_50_0 hr) dX12_together_8 ?_
    refine zz_iconst (2) dX12_together_11 (by decide) ?_
    refine zz_iald 2 (by decide) (by decide) (by decide) rfl (Nat.lt_of_lt_of_le (by decide) hn) dX12_together_12 ?_
    refine zz_icmp_ge 57 dX12_together_13 (by decide) (fun c_13 => ?_) (fun c_13 => ?_)
    · skip
      refine zz_iload_2 dX12_together_57 ?_
      refine zz_iret rfl dX12_together_58 (by decide) (by decide) ?_
      rw [hmw] at c_13
      have := zz_gei c_13 (by omega) (by omega)
      rw [show j = mw by omega]
      exact h
    · skip
      refine zz_aload_0 dX12_together_16 ?_
      refine zz_iload_3 dX12_together_17 ?_
      refine zz_iconst (4) dX12_together_18 (by decide) ?_
      have hlt : j < mw := zz_lti (by rw [← hmw]; exact c_13) (by omega) (by omega)
      refine zz_callV2i cv_X12_64 rfl (Nat.lt_of_lt_of_le (by decide) hn) (Nat.le_of_ble_eq_true rfl) (by decide) (by decide) dX12_together_19 (t_X12_its hn hr j 4 rfl rfl (by omega) ⟨_, rfl, ?_⟩)
      refine zz_if_ne 36 dX12_together_22 (by decide) (fun c_22 => ?_) (fun c_22 => ?_)
      · skip
        refine zz_iconst (0) dX12_together_36 (by decide) ?_
        refine zz_istore_4 dX12_together_37 rfl rfl ?_
        first
          | rw [show (1 : Int32) <<< (g 51 (16 + 5 * j + 3) &&& 31) = sp_tp (g 51) j from by rw [sp_tp, if_pos c_22]]
          | rw [show (some (Value.int 0) : Option Value) = some (Value.int (sp_tp (g 51) j)) from by rw [sp_tp, if_neg c_22]]
        refine zz_iload_2 dX12_together_39 ?_
        refine zz_iload_1 dX12_together_40 ?_
        refine zz_iload_4 dX12_together_41 ?_
        refine zz_iand dX12_together_43 ?_
        refine zz_ior dX12_together_44 ?_
        refine zz_istore_2 dX12_together_45 rfl rfl ?_
        refine zz_iload_1 dX12_together_46 ?_
        refine zz_iload_4 dX12_together_47 ?_
        refine zz_ior dX12_together_49 ?_
        refine zz_istore_1 dX12_together_50 rfl rfl ?_
        refine zz_iinc_3 (1) dX12_together_51 rfl rfl (by decide) ?_
        refine zz_goto 6 dX12_together_54 (by decide) ?_
        rw [nI_1]
        exact ih _ (j + 1) (by omega) (by omega)
      · skip
        refine zz_iconst (1) dX12_together_25 (by decide) ?_
        refine zz_aload_0 dX12_together_26 ?_
        refine zz_iload_3 dX12_together_27 ?_
        refine zz_iconst (3) dX12_together_28 (by decide) ?_
        refine zz_callV2i cv_X12_64 rfl (Nat.lt_of_lt_of_le (by decide) hn) (Nat.le_of_ble_eq_true rfl) (by decide) (by decide) dX12_together_29 (t_X12_its hn hr j 3 rfl rfl (by omega) ⟨_, rfl, ?_⟩)
        refine zz_ishl dX12_together_32 ?_
        refine zz_goto 37 dX12_together_33 (by decide) ?_
        refine zz_istore_4 dX12_together_37 rfl rfl ?_
        first
          | rw [show (1 : Int32) <<< (g 51 (16 + 5 * j + 3) &&& 31) = sp_tp (g 51) j from by rw [sp_tp, if_pos c_22]]
          | rw [show (some (Value.int 0) : Option Value) = some (Value.int (sp_tp (g 51) j)) from by rw [sp_tp, if_neg c_22]]
        refine zz_iload_2 dX12_together_39 ?_
        refine zz_iload_1 dX12_together_40 ?_
        refine zz_iload_4 dX12_together_41 ?_
        refine zz_iand dX12_together_43 ?_
        refine zz_ior dX12_together_44 ?_
        refine zz_istore_2 dX12_together_45 rfl rfl ?_
        refine zz_iload_1 dX12_together_46 ?_
        refine zz_iload_4 dX12_together_47 ?_
        refine zz_ior dX12_together_49 ?_
        refine zz_istore_1 dX12_together_50 rfl rfl ?_
        refine zz_iinc_3 (1) dX12_together_51 rfl rfl (by decide) ?_
        refine zz_goto 6 dX12_together_54 (by decide) ?_
        rw [nI_1]
        exact ih _ (j + 1) (by omega) (by omega)

set_option maxRecDepth 100000 in
set_option maxHeartbeats 4000000 in
theorem t_X12_together {C : zz_C} {d n : Nat} {g : zz_G} {r : zz_R} {Q : zz_Q} (hn : 60 ≤ n) (hr : xr r) (mw : Nat) (hmw : g 51 2 = nI mw) (hmw6 : mw ≤ 6)  (h : ms_o g r n Q (sp_together (ms_S g))) : zz_T C mi_X12_together (d + 1) 0 0 [.ref 50] g r n Q := by
  refine zz_T.of [some (.ref 50), none, none, none, none] (by decide +kernel) rfl (Nat.le_of_ble_eq_true rfl) ?_
  refine zz_iconst (0) dX12_together_0 (by decide) ?_
  refine zz_istore_1 dX12_together_1 rfl rfl ?_
  refine zz_iconst (0) dX12_together_2 (by decide) ?_
  refine zz_istore_2 dX12_together_3 rfl rfl ?_
  refine zz_iconst (0) dX12_together_4 (by decide) ?_
  refine zz_istore_3 dX12_together_5 rfl rfl ?_
  rw [sp_together, ms_R, hmw, ix_w (by omega)] at h
  exact l_X12_together hn hr mw hmw hmw6 (ms_mj h mj_rf) 9 _ 0 (by omega) (by omega)
