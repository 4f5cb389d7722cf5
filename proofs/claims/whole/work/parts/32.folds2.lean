theorem sp_wf_y {R : Nat → Int32} {c : Nat} (h : R (46 + 6 * c + 5) = 0 ∧ ¬ R (46 + 6 * c + 3) - R 0 ≤ 0 ∧ (sp_wf R c < 0 ∨ ¬ sp_wf R c ≤ R (46 + 6 * c + 3) - R 0)) : R (46 + 6 * c + 3) - R 0 = sp_wf R (c + 1) := by rw [sp_wf, if_pos h]
theorem sp_wf_n {R : Nat → Int32} {c : Nat} (h : ¬ (R (46 + 6 * c + 5) = 0 ∧ ¬ R (46 + 6 * c + 3) - R 0 ≤ 0 ∧ (sp_wf R c < 0 ∨ ¬ sp_wf R c ≤ R (46 + 6 * c + 3) - R 0))) : sp_wf R c = sp_wf R (c + 1) := by rw [sp_wf, if_neg h]
def sp_od (R : Nat → Int32) (w : Nat) (fr : Int32) : Nat → Nat
  | 0 => 0
  | j + 1 => sp_od R w fr j + (if sp_in R w (fr + nI j) (R 9) then 1 else 0)
theorem sp_od_le {R : Nat → Int32} {w : Nat} {fr : Int32} : ∀ j, sp_od R w fr j ≤ j
  | 0 => Nat.le_refl _
  | j + 1 => by
    have := sp_od_le (R := R) (w := w) (fr := fr) j
    rw [sp_od]
    split <;> omega
def sp_odds (S : zz_G) (w part : Int32) : Int32 × zz_G := if ¬ sp_isw S w then sp_err S 1 else if part < 0 ∨ 1 < part then sp_err S 1 else if S 51 (16 + 5 * w.toNatClampNeg + 4) = 1 then sp_err S 3
  else if part = 0 then (nI (sp_od (S 51) w.toNatClampNeg (S 51 0 - (S 51 0 - S 51 0 / 60 * 60)) 60) / nI (Nat.gcd (sp_od (S 51) w.toNatClampNeg (S 51 0 - (S 51 0 - S 51 0 / 60 * 60)) 60) 60), S) else (60 / nI (Nat.gcd (sp_od (S 51) w.toNatClampNeg (S 51 0 - (S 51 0 - S 51 0 / 60 * 60)) 60) 60), S)
def sp_fs (R : Nat → Int32) : Nat → Int32 × Int32
  | 0 => (-1, 0)
  | w + 1 => if R (16 + 5 * w + 4) = 0 ∧ sp_in R w (R 0) (R 9) ∧ ((sp_fs R w).1 < 0 ∨ ¬ (sp_fs R w).2 ≤ sp_takes R w) then (nI w, sp_takes R w) else sp_fs R w
theorem sp_fs_y {R : Nat → Int32} {w : Nat} (h : R (16 + 5 * w + 4) = 0 ∧ sp_in R w (R 0) (R 9) ∧ ((sp_fs R w).1 < 0 ∨ ¬ (sp_fs R w).2 ≤ sp_takes R w)) : sp_fs R (w + 1) = (nI w, sp_takes R w) := by rw [sp_fs, if_pos h]
theorem sp_fs_n {R : Nat → Int32} {w : Nat} (h : ¬ (R (16 + 5 * w + 4) = 0 ∧ sp_in R w (R 0) (R 9) ∧ ((sp_fs R w).1 < 0 ∨ ¬ (sp_fs R w).2 ≤ sp_takes R w))) : sp_fs R (w + 1) = sp_fs R w := by rw [sp_fs, if_neg h]
def sp_fastest (S : zz_G) (what : Int32) : Int32 × zz_G := if what < 0 ∨ 1 < what then sp_err S 1 else if 0 ≤ (sp_fs (S 51) (S 51 2).toNatClampNeg).1 then (if what = 0 then (sp_fs (S 51) (S 51 2).toNatClampNeg).1 else (sp_fs (S 51) (S 51 2).toNatClampNeg).2, S) else sp_err S 2
set_option maxRecDepth 100000 in
set_option maxHeartbeats 4000000 in
theorem l_X12_waitFor {C : zz_C} {d n : Nat} {g : zz_G} {r : zz_R} {Q : zz_Q} (hn : 60 ≤ n) (hr : xr r) (cw : Nat) (hcw : g 51 7 = nI cw) (hcw6 : cw ≤ 10) (h1 : 0 ≤ sp_wf (g 51) cw → Q (some (.int (sp_wf (g 51) cw))) g r n) (h0 : ¬ 0 ≤ sp_wf (g 51) cw → Q (some (.int (-1000000002))) (zz_u g 54 2 (g 54 2 + 1)) r n) : ∀ (k : Nat) (t3 : Option Value) (j : Nat), j ≤ cw → cw - j < k → zz_Z C mi_X12_waitFor (d + 1) 0 0 0 0 4 [some (.ref 50), some (.int (sp_wf (g 51) j)), some (.int (nI j)), t3] [] g r n Q := by
  intro k
  induction k with
  | zero => intro t3 j hj hk; exact absurd hk (by omega)
  | succ k ih =>
    intro t3 j hj hk
    refine zz_iload_2 dX12_waitFor_4 ?_
    refine zz_aload_0 dX12_waitFor_5 ?_
    refine zz_getR fl_X12_7 rfl rfl (Nat.lt_of_lt_of_le (by decide) hn) (xr_50_0 hr) dX12_waitFor_6 ?_
    refine zz_bipush (7) dX12_waitFor_9 (by decide) ?_
    refine zz_iald 7 (by decide) (by decide) (by decide) rfl (Nat.lt_of_lt_of_le (by decide) hn) dX12_waitFor_11 ?_
    refine zz_icmp_ge 59 dX12_waitFor_12 (by decide) (fun c_12 => ?_) (fun c_12 => ?_)
    · skip
      refine zz_iload_1 dX12_waitFor_59 ?_
      refine zz_if_ge 72 dX12_waitFor_60 (by decide) (fun c_60 => ?_) (fun c_60 => ?_)
      · skip
        refine zz_iload_1 dX12_waitFor_72 ?_
        refine zz_iret rfl dX12_waitFor_73 (by decide) (by decide) ?_
        rw [hcw] at c_12
        have := zz_gei c_12 (by omega) (by omega)
        rw [show j = cw by omega] at c_60 ⊢
        exact h1 c_60
      · skip
        refine zz_aload_0 dX12_waitFor_63 ?_
        refine zz_ldc dX12_waitFor_64 ct_X12_184 ?_
        refine zz_callV1i cv_X12_51 rfl (Nat.lt_of_lt_of_le (by decide) hn) (Nat.le_of_ble_eq_true rfl) (by decide) (by decide) dX12_waitFor_66 (t_X12_errs hn hr 2 (by decide) (by decide) ⟨_, rfl, ?_⟩)
        refine zz_goto 73 dX12_waitFor_69 (by decide) ?_
        refine zz_iret rfl dX12_waitFor_73 (by decide) (by decide) ?_
        rw [hcw] at c_12
        have := zz_gei c_12 (by omega) (by omega)
        rw [show j = cw by omega] at c_60
        exact h0 c_60
    · skip
      refine zz_aload_0 dX12_waitFor_15 ?_
      refine zz_iload_2 dX12_waitFor_16 ?_
      refine zz_iconst (3) dX12_waitFor_17 (by decide) ?_
      have hlt : j < cw := zz_lti (by rw [← hcw]; exact c_12) (by omega) (by omega)
      refine zz_callV2i cv_X12_165 rfl (Nat.lt_of_lt_of_le (by decide) hn) (Nat.le_of_ble_eq_true rfl) (by decide) (by decide) dX12_waitFor_18 (t_X12_of hn hr j 3 rfl rfl (by omega) ⟨_, rfl, ?_⟩)
      refine zz_aload_0 dX12_waitFor_21 ?_
      refine zz_getR fl_X12_7 rfl rfl (Nat.lt_of_lt_of_le (by decide) hn) (xr_50_0 hr) dX12_waitFor_22 ?_
      refine zz_iconst (0) dX12_waitFor_25 (by decide) ?_
      refine zz_iald 0 (by decide) (by decide) (by decide) rfl (Nat.lt_of_lt_of_le (by decide) hn) dX12_waitFor_26 ?_
      refine zz_isub dX12_waitFor_27 ?_
      refine zz_istore_3 dX12_waitFor_28 rfl rfl ?_
      refine zz_aload_0 dX12_waitFor_29 ?_
      refine zz_iload_2 dX12_waitFor_30 ?_
      refine zz_iconst (5) dX12_waitFor_31 (by decide) ?_
      refine zz_callV2i cv_X12_165 rfl (Nat.lt_of_lt_of_le (by decide) hn) (Nat.le_of_ble_eq_true rfl) (by decide) (by decide) dX12_waitFor_32 (t_X12_of hn hr j 5 rfl rfl (by omega) ⟨_, rfl, ?_⟩)
      refine zz_if_ne 53 dX12_waitFor_35 (by decide) (fun c_35 => ?_) (fun c_35 => ?_)
      · skip
        refine zz_iinc_2 (1) dX12_waitFor_53 rfl rfl (by decide) ?_
        refine zz_goto 4 dX12_waitFor_56 (by decide) ?_
        first
          | rw [sp_wf_y ⟨c_35, c_39, Or.inl c_43⟩]
          | rw [sp_wf_y ⟨c_35, c_39, Or.inr c_48⟩]
          | rw [sp_wf_n (fun z => c_35 z.1)]
          | rw [sp_wf_n (fun z => z.2.1 c_39)]
          | rw [sp_wf_n (fun z => z.2.2.elim c_43 (fun q => q c_48))]
        rw [nI_1]
        exact ih _ (j + 1) (by omega) (by omega)
      · skip
        refine zz_iload_3 dX12_waitFor_38 ?_
        refine zz_if_le 53 dX12_waitFor_39 (by decide) (fun c_39 => ?_) (fun c_39 => ?_)
        · skip
          refine zz_iinc_2 (1) dX12_waitFor_53 rfl rfl (by decide) ?_
          refine zz_goto 4 dX12_waitFor_56 (by decide) ?_
          first
            | rw [sp_wf_y ⟨c_35, c_39, Or.inl c_43⟩]
            | rw [sp_wf_y ⟨c_35, c_39, Or.inr c_48⟩]
            | rw [sp_wf_n (fun z => c_35 z.1)]
            | rw [sp_wf_n (fun z => z.2.1 c_39)]
            | rw [sp_wf_n (fun z => z.2.2.elim c_43 (fun q => q c_48))]
          rw [nI_1]
          exact ih _ (j + 1) (by omega) (by omega)
        · skip
          refine zz_iload_1 dX12_waitFor_42 ?_
          refine zz_if_lt 51 dX12_waitFor_43 (by decide) (fun c_43 => ?_) (fun c_43 => ?_)
          · skip
            refine zz_iload_3 dX12_waitFor_51 ?_
            refine zz_istore_1 dX12_waitFor_52 rfl rfl ?_
            refine zz_iinc_2 (1) dX12_waitFor_53 rfl rfl (by decide) ?_
            refine zz_goto 4 dX12_waitFor_56 (by decide) ?_
            first
              | rw [sp_wf_y ⟨c_35, c_39, Or.inl c_43⟩]
              | rw [sp_wf_y ⟨c_35, c_39, Or.inr c_48⟩]
              | rw [sp_wf_n (fun z => c_35 z.1)]
              | rw [sp_wf_n (fun z => z.2.1 c_39)]
              | rw [sp_wf_n (fun z => z.2.2.elim c_43 (fun q => q c_48))]
            rw [nI_1]
            exact ih _ (j + 1) (by omega) (by omega)
          · skip
            refine zz_iload_3 dX12_waitFor_46 ?_
            refine zz_iload_1 dX12_waitFor_47 ?_
            refine zz_icmp_ge 53 dX12_waitFor_48 (by decide) (fun c_48 => ?_) (fun c_48 => ?_)
            · skip
              refine zz_iinc_2 (1) dX12_waitFor_53 rfl rfl (by decide) ?_
              refine zz_goto 4 dX12_waitFor_56 (by decide) ?_
              first
                | rw [sp_wf_y ⟨c_35, c_39, Or.inl c_43⟩]
                | rw [sp_wf_y ⟨c_35, c_39, Or.inr c_48⟩]
                | rw [sp_wf_n (fun z => c_35 z.1)]
                | rw [sp_wf_n (fun z => z.2.1 c_39)]
                | rw [sp_wf_n (fun z => z.2.2.elim c_43 (fun q => q c_48))]
              rw [nI_1]
              exact ih _ (j + 1) (by omega) (by omega)
            · skip
              refine zz_iload_3 dX12_waitFor_51 ?_
              refine zz_istore_1 dX12_waitFor_52 rfl rfl ?_
              refine zz_iinc_2 (1) dX12_waitFor_53 rfl rfl (by decide) ?_
              refine zz_goto 4 dX12_waitFor_56 (by decide) ?_
              first
                | rw [sp_wf_y ⟨c_35, c_39, Or.inl c_43⟩]
                | rw [sp_wf_y ⟨c_35, c_39, Or.inr c_48⟩]
                | rw [sp_wf_n (fun z => c_35 z.1)]
                | rw [sp_wf_n (fun z => z.2.1 c_39)]
                | rw [sp_wf_n (fun z => z.2.2.elim c_43 (fun q => q c_48))]
              rw [nI_1]
              exact ih _ (j + 1) (by omega) (by omega)

set_option maxRecDepth 100000 in
set_option maxHeartbeats 4000000 in
theorem t_X12_waitFor {C : zz_C} {d n : Nat} {g : zz_G} {r : zz_R} {Q : zz_Q} (hn : 60 ≤ n) (hr : xr r) (cw : Nat) (hcw : g 51 7 = nI cw) (hcw6 : cw ≤ 10) (h : ms_o g r n Q (sp_waitFor (ms_S g))) : zz_T C mi_X12_waitFor (d + 1) 0 0 [.ref 50] g r n Q := by
  refine zz_T.of [some (.ref 50), none, none, none] (by decide +kernel) rfl (Nat.le_of_ble_eq_true rfl) ?_
  refine zz_iconst (-1) dX12_waitFor_0 (by decide) ?_
  refine zz_istore_1 dX12_waitFor_1 rfl rfl ?_
  refine zz_iconst (0) dX12_waitFor_2 (by decide) ?_
  refine zz_istore_2 dX12_waitFor_3 rfl rfl ?_
  rw [sp_waitFor, ms_R, hcw, ix_w (by omega)] at h
  exact l_X12_waitFor (d := d) hn hr cw hcw hcw6 (fun q => by rw [if_pos q] at h; exact ms_mj h mj_rf) (fun q => by rw [if_neg q] at h; exact ms_er (by decide) h) 12 _ 0 (by omega) (by omega)

set_option maxRecDepth 100000 in
set_option maxHeartbeats 4000000 in
theorem l_X12_figuresFor {C : zz_C} {d n : Nat} {g : zz_G} {r : zz_R} {Q : zz_Q} (hn : 60 ≤ n) (hr : xr r) {v : Int32} {res : Nat} (h1 : res ≤ 6 → Q (some (.int (nI res))) g r n) (h0 : ¬ res ≤ 6 → Q (some (.int (-1000000002))) (zz_u g 54 2 (g 54 2 + 1)) r n) : ∀ (k : Nat) (f : Nat), 1 ≤ f → f ≤ 7 → 7 - f < k → sp_ffk (g 51) v (7 - f) f = res → zz_Z C mi_X12_figuresFor (d + 1) 0 0 0 0 22 [some (.ref 50), some (.int v), some (.int (sp_tn f)), some (.int (nI f))] [] g r n Q := by
  intro k
  induction k with
  | zero => intro f hf1 hf7 hk he; exact absurd hk (by omega)
  | succ k ih =>
    intro f hf1 hf7 hk he
    refine zz_iload_3 dX12_figuresFor_22 ?_
    refine zz_bipush (6) dX12_figuresFor_23 (by decide) ?_
    refine zz_icmp_gt 52 dX12_figuresFor_25 (by decide) (fun c_25 => ?_) (fun c_25 => ?_)
    · skip
      refine zz_iload_3 dX12_figuresFor_52 ?_
      refine zz_bipush (6) dX12_figuresFor_53 (by decide) ?_
      refine zz_icmp_le 67 dX12_figuresFor_55 (by decide) (fun c_55 => ?_) (fun c_55 => ?_)
      · skip
        refine zz_iload_3 dX12_figuresFor_67 ?_
        refine zz_iret rfl dX12_figuresFor_68 (by decide) (by decide) ?_
        have hf6 : 6 < f := (nI_ltI (a := 6) (by omega) (by omega)).mp c_25
        rw [show 7 - f = 0 by omega, sp_ffk] at he
        subst he
        exact h1 ((nI_leI (b := 6) (by omega) (by omega)).mp c_55)
      · skip
        refine zz_aload_0 dX12_figuresFor_58 ?_
        refine zz_ldc dX12_figuresFor_59 ct_X12_184 ?_
        refine zz_callV1i cv_X12_51 rfl (Nat.lt_of_lt_of_le (by decide) hn) (Nat.le_of_ble_eq_true rfl) (by decide) (by decide) dX12_figuresFor_61 (t_X12_errs hn hr 2 (by decide) (by decide) ⟨_, rfl, ?_⟩)
        refine zz_goto 68 dX12_figuresFor_64 (by decide) ?_
        refine zz_iret rfl dX12_figuresFor_68 (by decide) (by decide) ?_
        have hf6 : 6 < f := (nI_ltI (a := 6) (by omega) (by omega)).mp c_25
        rw [show 7 - f = 0 by omega, sp_ffk] at he
        subst he
        exact h0 (fun q => c_55 (nI_le q (by decide)))
    · skip
      refine zz_aload_0 dX12_figuresFor_28 ?_
      refine zz_getR fl_X12_7 rfl rfl (Nat.lt_of_lt_of_le (by decide) hn) (xr_50_0 hr) dX12_figuresFor_29 ?_
      refine zz_bipush (10) dX12_figuresFor_32 (by decide) ?_
      refine zz_iald 10 (by decide) (by decide) (by decide) rfl (Nat.lt_of_lt_of_le (by decide) hn) dX12_figuresFor_34 ?_
      refine zz_iload_1 dX12_figuresFor_35 ?_
      refine zz_imul dX12_figuresFor_36 ?_
      refine zz_iload_2 dX12_figuresFor_37 ?_
      refine zz_icmp_le 52 dX12_figuresFor_38 (by decide) (fun c_38 => ?_) (fun c_38 => ?_)
      · skip
        refine zz_iload_3 dX12_figuresFor_52 ?_
        refine zz_bipush (6) dX12_figuresFor_53 (by decide) ?_
        refine zz_icmp_le 67 dX12_figuresFor_55 (by decide) (fun c_55 => ?_) (fun c_55 => ?_)
        · skip
          refine zz_iload_3 dX12_figuresFor_67 ?_
          refine zz_iret rfl dX12_figuresFor_68 (by decide) (by decide) ?_
          have hf6 : f ≤ 6 := Nat.not_lt.mp fun q => c_25 (nI_lt q (by omega))
          rw [show 7 - f = (7 - (f + 1)) + 1 by omega, sp_ffk, if_pos c_38] at he
          subst he
          exact h1 ((nI_leI (b := 6) (by omega) (by omega)).mp c_55)
        · skip
          refine zz_aload_0 dX12_figuresFor_58 ?_
          refine zz_ldc dX12_figuresFor_59 ct_X12_184 ?_
          refine zz_callV1i cv_X12_51 rfl (Nat.lt_of_lt_of_le (by decide) hn) (Nat.le_of_ble_eq_true rfl) (by decide) (by decide) dX12_figuresFor_61 (t_X12_errs hn hr 2 (by decide) (by decide) ⟨_, rfl, ?_⟩)
          refine zz_goto 68 dX12_figuresFor_64 (by decide) ?_
          refine zz_iret rfl dX12_figuresFor_68 (by decide) (by decide) ?_
          have hf6 : f ≤ 6 := Nat.not_lt.mp fun q => c_25 (nI_lt q (by omega))
          rw [show 7 - f = (7 - (f + 1)) + 1 by omega, sp_ffk, if_pos c_38] at he
          subst he
          exact h0 (fun q => c_55 (nI_le q (by decide)))
      · skip
        refine zz_iload_2 dX12_figuresFor_41 ?_
        refine zz_bipush (10) dX12_figuresFor_42 (by decide) ?_
        refine zz_imul dX12_figuresFor_44 ?_
        refine zz_istore_2 dX12_figuresFor_45 rfl rfl ?_
        refine zz_iinc_3 (1) dX12_figuresFor_46 rfl rfl (by decide) ?_
        refine zz_goto 22 dX12_figuresFor_49 (by decide) ?_
        have hf6 : f ≤ 6 := Nat.not_lt.mp fun q => c_25 (nI_lt q (by omega))
        rw [show 7 - f = (7 - (f + 1)) + 1 by omega, sp_ffk, if_neg c_38] at he
        rw [nI_1]
        exact ih (f + 1) (by omega) (by omega) (by omega) he

set_option maxRecDepth 100000 in
set_option maxHeartbeats 4000000 in
theorem t_X12_figuresFor {C : zz_C} {d n : Nat} {g : zz_G} {r : zz_R} {Q : zz_Q} (hn : 60 ≤ n) (hr : xr r) {v : Int32}  (h : ms_o g r n Q (sp_figuresFor (ms_S g) v)) : zz_T C mi_X12_figuresFor (d + 1) 0 0 [.ref 50, .int v] g r n Q := by
  refine zz_T.of [some (.ref 50), some (.int v), none, none] (by decide +kernel) rfl (Nat.le_of_ble_eq_true rfl) ?_
  refine zz_iload_1 dX12_figuresFor_0 ?_
  refine zz_iconst (1) dX12_figuresFor_1 (by decide) ?_
  refine zz_ldc dX12_figuresFor_2 ct_X12_174 ?_
  refine zz_callS3i cs_X12_38 (Nat.le_of_ble_eq_true rfl) (by decide) (by decide) dX12_figuresFor_4 (t_X12_in (fun a_4 b_4 => ⟨_, rfl, ?_⟩) (fun o_4 => ⟨_, rfl, ?_⟩))
  · skip
    refine zz_if_ne 17 dX12_figuresFor_7 (by decide) (fun _ => ?_) (fun h => absurd h (by decide))
    refine zz_bipush (10) dX12_figuresFor_17 (by decide) ?_
    refine zz_istore_2 dX12_figuresFor_19 rfl rfl ?_
    refine zz_iconst (1) dX12_figuresFor_20 (by decide) ?_
    refine zz_istore_3 dX12_figuresFor_21 rfl rfl ?_
    rw [sp_figuresFor, if_neg (fun q => q.elim a_4 b_4), ms_R] at h
    exact l_X12_figuresFor (d := d) hn hr (fun q => by rw [if_pos q] at h; exact ms_mj h mj_rf) (fun q => by rw [if_neg q] at h; exact ms_er (by decide) h) 8 1 (by omega) (by omega) (by omega) rfl
  · skip
    refine zz_if_ne 17 dX12_figuresFor_7 (by decide) (fun h => absurd h (by decide)) (fun _ => ?_)
    refine zz_aload_0 dX12_figuresFor_10 ?_
    refine zz_ldc dX12_figuresFor_11 ct_X12_50 ?_
    refine zz_callV1i cv_X12_51 rfl (Nat.lt_of_lt_of_le (by decide) hn) (Nat.le_of_ble_eq_true rfl) (by decide) (by decide) dX12_figuresFor_13 (t_X12_errs hn hr 1 (by decide) (by decide) ⟨_, rfl, ?_⟩)
    refine zz_iret rfl dX12_figuresFor_16 (by decide) (by decide) ?_
    rw [sp_figuresFor, if_pos o_4] at h
    exact ms_er (by decide) h

set_option maxRecDepth 100000 in
set_option maxHeartbeats 4000000 in
theorem t_X12_guess {C : zz_C} {d n : Nat} {g : zz_G} {r : zz_R} {Q : zz_Q} (hn : 60 ≤ n) (hr : xr r) {v : Int32} (tw fw : Nat) (htw : g 51 10 = nI tw) (htw0 : 0 < tw) (htw9 : tw ≤ 9) (hfw : g 51 8 = nI fw) (hfw6 : fw ≤ 6) (h : ms_o g r n Q (sp_guess (ms_S g) v)) : zz_T C mi_X12_guess (d + 1) 0 0 [.ref 50, .int v] g r n Q := by
  refine zz_T.of [some (.ref 50), some (.int v), none] (by decide +kernel) rfl (Nat.le_of_ble_eq_true rfl) ?_
  have hp6 : 10 ^ fw < 10000000 := Nat.lt_of_le_of_lt (Nat.pow_le_pow_right (by decide) hfw6) (by decide)
  refine zz_iload_1 dX12_guess_0 ?_
  refine zz_iconst (0) dX12_guess_1 (by decide) ?_
  refine zz_iconst (1) dX12_guess_2 (by decide) ?_
  refine zz_callS3i cs_X12_38 (Nat.le_of_ble_eq_true rfl) (by decide) (by decide) dX12_guess_3 (t_X12_in (fun a_3 b_3 => ⟨_, rfl, ?_⟩) (fun o_3 => ⟨_, rfl, ?_⟩))
  · skip
    refine zz_if_ne 16 dX12_guess_6 (by decide) (fun _ => ?_) (fun h => absurd h (by decide))
    refine zz_aload_0 dX12_guess_16 ?_
    refine zz_getR fl_X12_7 rfl rfl (Nat.lt_of_lt_of_le (by decide) hn) (xr_50_0 hr) dX12_guess_17 ?_
    refine zz_bipush (10) dX12_guess_20 (by decide) ?_
    refine zz_iald 10 (by decide) (by decide) (by decide) rfl (Nat.lt_of_lt_of_le (by decide) hn) dX12_guess_22 ?_
    refine zz_aload_0 dX12_guess_23 ?_
    refine zz_callV0i cv_X12_155 rfl (Nat.lt_of_lt_of_le (by decide) hn) (Nat.le_of_ble_eq_true rfl) (by decide) (by decide) dX12_guess_24 (t_X12_numbers hn hr fw hfw hfw6 ⟨_, rfl, ?_⟩)
    refine zz_callS2i cs_X12_194 (Nat.le_of_ble_eq_true rfl) (by decide) (by decide) dX12_guess_27 (t_X12_divisor tw (10 ^ fw) (by omega) hp6 htw (sp_tn_pow fw) ⟨_, rfl, ?_⟩)
    refine zz_istore_2 dX12_guess_30 rfl rfl ?_
    refine zz_iload_1 dX12_guess_31 ?_
    refine zz_if_ne 47 dX12_guess_32 (by decide) (fun c_32 => ?_) (fun c_32 => ?_)
    · skip
      refine zz_aload_0 dX12_guess_47 ?_
      refine zz_callV0i cv_X12_155 rfl (Nat.lt_of_lt_of_le (by decide) hn) (Nat.le_of_ble_eq_true rfl) (by decide) (by decide) dX12_guess_48 (t_X12_numbers hn hr fw hfw hfw6 ⟨_, rfl, ?_⟩)
      refine zz_iload_2 dX12_guess_51 ?_
      refine zz_idiv dX12_guess_52 (nI_ne0 (Nat.gcd_pos_of_pos_left _ htw0) (Nat.lt_of_le_of_lt (Nat.gcd_le_left _ htw0) (by omega))) ?_
      refine zz_iret rfl dX12_guess_53 (by decide) (by decide) ?_
      rw [sp_guess, if_neg (fun q => q.elim a_3 b_3), ms_51, ms_51, htw, hfw, ix_w (by omega), ix_w (by omega)] at h
      first
        | (rw [if_pos c_32] at h; rw [htw]; exact ms_mj h mj_rf)
        | (rw [if_neg c_32] at h; exact ms_mj h mj_rf)
    · skip
      refine zz_aload_0 dX12_guess_35 ?_
      refine zz_getR fl_X12_7 rfl rfl (Nat.lt_of_lt_of_le (by decide) hn) (xr_50_0 hr) dX12_guess_36 ?_
      refine zz_bipush (10) dX12_guess_39 (by decide) ?_
      refine zz_iald 10 (by decide) (by decide) (by decide) rfl (Nat.lt_of_lt_of_le (by decide) hn) dX12_guess_41 ?_
      refine zz_iload_2 dX12_guess_42 ?_
      refine zz_idiv dX12_guess_43 (nI_ne0 (Nat.gcd_pos_of_pos_left _ htw0) (Nat.lt_of_le_of_lt (Nat.gcd_le_left _ htw0) (by omega))) ?_
      refine zz_goto 53 dX12_guess_44 (by decide) ?_
      refine zz_iret rfl dX12_guess_53 (by decide) (by decide) ?_
      rw [sp_guess, if_neg (fun q => q.elim a_3 b_3), ms_51, ms_51, htw, hfw, ix_w (by omega), ix_w (by omega)] at h
      first
        | (rw [if_pos c_32] at h; rw [htw]; exact ms_mj h mj_rf)
        | (rw [if_neg c_32] at h; exact ms_mj h mj_rf)
  · skip
    refine zz_if_ne 16 dX12_guess_6 (by decide) (fun h => absurd h (by decide)) (fun _ => ?_)
    refine zz_aload_0 dX12_guess_9 ?_
    refine zz_ldc dX12_guess_10 ct_X12_50 ?_
    refine zz_callV1i cv_X12_51 rfl (Nat.lt_of_lt_of_le (by decide) hn) (Nat.le_of_ble_eq_true rfl) (by decide) (by decide) dX12_guess_12 (t_X12_errs hn hr 1 (by decide) (by decide) ⟨_, rfl, ?_⟩)
    refine zz_iret rfl dX12_guess_15 (by decide) (by decide) ?_
    rw [sp_guess, if_pos o_3] at h
    exact ms_er (by decide) h

set_option maxRecDepth 100000 in
set_option maxHeartbeats 4000000 in
theorem l_X12_odds {C : zz_C} {d n : Nat} {g : zz_G} {r : zz_R} {Q : zz_Q} (hn : 60 ≤ n) (hr : xr r) (hT0 : tx_ok (g 51) 0) (hT1 : tx_ok (g 51) 1) (w : Nat) (hw : w < 6) {part : Int32} (h : ∀ g1, mj_ g g1 → Q (some (.int (if part = 0 then nI (sp_od (g 51) w (g 51 0 - (g 51 0 - g 51 0 / 60 * 60)) 60) / nI (Nat.gcd (sp_od (g 51) w (g 51 0 - (g 51 0 - g 51 0 / 60 * 60)) 60) 60) else 60 / nI (Nat.gcd (sp_od (g 51) w (g 51 0 - (g 51 0 - g 51 0 / 60 * 60)) 60) 60)))) g1 r n) : ∀ (k : Nat) (j : Nat) (g1 : zz_G), mj_ g g1 → j ≤ 60 → 60 - j < k → zz_Z C mi_X12_odds (d + 44) 0 0 0 0 64 [some (.ref 50), some (.int (nI w)), some (.int part), some (.int (nI (sp_od (g 51) w (g 51 0 - (g 51 0 - g 51 0 / 60 * 60)) j))), some (.int (g 51 0 - (g 51 0 - g 51 0 / 60 * 60))), some (.int (nI j))] [] g1 r n Q := by
  intro k
  induction k with
  | zero => intro j g1 hj1 hj hk; exact absurd hk (by omega)
  | succ k ih =>
    intro j g1 hj1 hj hk
    refine zz_iload_5 dX12_odds_64 ?_
    refine zz_bipush (60) dX12_odds_66 (by decide) ?_
    refine zz_icmp_ge 98 dX12_odds_68 (by decide) (fun c_68 => ?_) (fun c_68 => ?_)
    · skip
      refine zz_iload_3 dX12_odds_98 ?_
      refine zz_bipush (60) dX12_odds_99 (by decide) ?_
      have hge := zz_gei (b := 60) c_68 (by omega) (by omega)
      obtain rfl : j = 60 := by omega
      have hle := sp_od_le (R := g 51) (w := w) (fr := (g 51 0 - (g 51 0 - g 51 0 / 60 * 60))) 60
      refine zz_callS2i cs_X12_194 (Nat.le_of_ble_eq_true rfl) (by decide) (by decide) dX12_odds_101 (t_X12_divisor (sp_od (g 51) w (g 51 0 - (g 51 0 - g 51 0 / 60 * 60)) 60) 60 (by omega) (by omega) rfl rfl ⟨_, rfl, ?_⟩)
      refine zz_istore_5 dX12_odds_104 rfl rfl ?_
      refine zz_iload_2 dX12_odds_106 ?_
      refine zz_if_ne 117 dX12_odds_107 (by decide) (fun c_107 => ?_) (fun c_107 => ?_)
      · skip
        refine zz_bipush (60) dX12_odds_117 (by decide) ?_
        refine zz_iload_5 dX12_odds_119 ?_
        refine zz_idiv dX12_odds_121 (nI_ne0 (Nat.gcd_pos_of_pos_right _ (by decide)) (Nat.lt_of_le_of_lt (Nat.gcd_le_right _ (by decide)) (by decide))) ?_
        refine zz_iret rfl dX12_odds_122 (by decide) (by decide) ?_
        first
          | (rw [if_pos c_107] at h; exact h _ hj1)
          | (rw [if_neg c_107] at h; exact h _ hj1)
      · skip
        refine zz_iload_3 dX12_odds_110 ?_
        refine zz_iload_5 dX12_odds_111 ?_
        refine zz_idiv dX12_odds_113 (nI_ne0 (Nat.gcd_pos_of_pos_right _ (by decide)) (Nat.lt_of_le_of_lt (Nat.gcd_le_right _ (by decide)) (by decide))) ?_
        refine zz_goto 122 dX12_odds_114 (by decide) ?_
        refine zz_iret rfl dX12_odds_122 (by decide) (by decide) ?_
        first
          | (rw [if_pos c_107] at h; exact h _ hj1)
          | (rw [if_neg c_107] at h; exact h _ hj1)
    · skip
      refine zz_iload_3 dX12_odds_71 ?_
      refine zz_aload_0 dX12_odds_72 ?_
      refine zz_iload_1 dX12_odds_73 ?_
      refine zz_iload_4 dX12_odds_74 ?_
      refine zz_iload_5 dX12_odds_76 ?_
      refine zz_iadd dX12_odds_78 ?_
      have hlt := zz_lti (b := 60) c_68 (by omega) (by omega)
      refine zz_callV2i cv_X12_181 rfl (Nat.lt_of_lt_of_le (by decide) hn) (Nat.le_of_ble_eq_true rfl) (by decide) (by decide) dX12_odds_79 (t_X12_getsInAt hn hr (mj_51 hj1) hT0 hT1 w hw rfl (fun y_79 g1_79 j1_79 => ⟨_, rfl, ?_⟩) (fun y_79 g1_79 j1_79 => ⟨_, rfl, ?_⟩))
      · skip
        refine zz_if_eq 89 dX12_odds_82 (by decide) (fun h => absurd h (by decide)) (fun _ => ?_)
        refine zz_iconst (1) dX12_odds_85 (by decide) ?_
        refine zz_goto 90 dX12_odds_86 (by decide) ?_
        refine zz_iadd dX12_odds_90 ?_
        refine zz_istore_3 dX12_odds_91 rfl rfl ?_
        refine zz_iinc_5 (1) dX12_odds_92 rfl rfl (by decide) ?_
        refine zz_goto 64 dX12_odds_95 (by decide) ?_
        first
          | rw [show nI (sp_od (g 51) w (g 51 0 - (g 51 0 - g 51 0 / 60 * 60)) j) + 1 = nI (sp_od (g 51) w (g 51 0 - (g 51 0 - g 51 0 / 60 * 60)) (j + 1)) from by rw [sp_od, if_pos y_79, nI_1]]
          | rw [show nI (sp_od (g 51) w (g 51 0 - (g 51 0 - g 51 0 / 60 * 60)) j) + 0 = nI (sp_od (g 51) w (g 51 0 - (g 51 0 - g 51 0 / 60 * 60)) (j + 1)) from by rw [sp_od, if_neg y_79, Nat.add_zero, show (0 : Int32) = nI 0 from rfl, nI_add, Nat.add_zero]]
        rw [nI_1]
        exact ih (j + 1) _ (mj_tr hj1 j1_79) (by omega) (by omega)
      · skip
        refine zz_if_eq 89 dX12_odds_82 (by decide) (fun _ => ?_) (fun h => absurd h (by decide))
        refine zz_iconst (0) dX12_odds_89 (by decide) ?_
        refine zz_iadd dX12_odds_90 ?_
        refine zz_istore_3 dX12_odds_91 rfl rfl ?_
        refine zz_iinc_5 (1) dX12_odds_92 rfl rfl (by decide) ?_
        refine zz_goto 64 dX12_odds_95 (by decide) ?_
        first
          | rw [show nI (sp_od (g 51) w (g 51 0 - (g 51 0 - g 51 0 / 60 * 60)) j) + 1 = nI (sp_od (g 51) w (g 51 0 - (g 51 0 - g 51 0 / 60 * 60)) (j + 1)) from by rw [sp_od, if_pos y_79, nI_1]]
          | rw [show nI (sp_od (g 51) w (g 51 0 - (g 51 0 - g 51 0 / 60 * 60)) j) + 0 = nI (sp_od (g 51) w (g 51 0 - (g 51 0 - g 51 0 / 60 * 60)) (j + 1)) from by rw [sp_od, if_neg y_79, Nat.add_zero, show (0 : Int32) = nI 0 from rfl, nI_add, Nat.add_zero]]
        rw [nI_1]
        exact ih (j + 1) _ (mj_tr hj1 j1_79) (by omega) (by omega)

set_option maxRecDepth 100000 in
set_option maxHeartbeats 4000000 in
theorem t_X12_odds {C : zz_C} {d n : Nat} {g : zz_G} {r : zz_R} {Q : zz_Q} (hn : 60 ≤ n) (hr : xr r) (mw : Nat) (hmw : g 51 2 = nI mw) (hmw6 : mw ≤ 6) {v part : Int32} (hT0 : tx_ok (g 51) 0) (hT1 : tx_ok (g 51) 1) (h : ms_o g r n Q (sp_odds (ms_S g) v part)) : zz_T C mi_X12_odds (d + 44) 0 0 [.ref 50, .int v, .int part] g r n Q := by
  refine zz_T.of [some (.ref 50), some (.int v), some (.int part), none, none, none] (by decide +kernel) rfl (Nat.le_of_ble_eq_true rfl) ?_
  refine zz_aload_0 dX12_odds_0 ?_
  refine zz_iload_1 dX12_odds_1 ?_
  refine zz_callV1i cv_X12_60 rfl (Nat.lt_of_lt_of_le (by decide) hn) (Nat.le_of_ble_eq_true rfl) (by decide) (by decide) dX12_odds_2 (t_X12_isWay hn hr mw hmw hmw6 (fun w_2 hw_2 ew_2 => ⟨_, rfl, ?_⟩) (fun nw_2 => ⟨_, rfl, ?_⟩))
  · skip
    subst ew_2
    have ia_2 := sp_isw_a (w := w_2) (Nat.lt_of_lt_of_le hw_2 hmw6)
    have ib_2 := sp_isw_b hmw hmw6 hw_2
    refine zz_if_eq 17 dX12_odds_5 (by decide) (fun h => absurd h (by decide)) (fun _ => ?_)
    refine zz_iload_2 dX12_odds_8 ?_
    refine zz_iconst (0) dX12_odds_9 (by decide) ?_
    refine zz_iconst (1) dX12_odds_10 (by decide) ?_
    refine zz_callS3i cs_X12_38 (Nat.le_of_ble_eq_true rfl) (by decide) (by decide) dX12_odds_11 (t_X12_in (fun a_11 b_11 => ⟨_, rfl, ?_⟩) (fun o_11 => ⟨_, rfl, ?_⟩))
    · skip
      refine zz_if_ne 24 dX12_odds_14 (by decide) (fun _ => ?_) (fun h => absurd h (by decide))
      refine zz_aload_0 dX12_odds_24 ?_
      refine zz_iload_1 dX12_odds_25 ?_
      refine zz_iconst (4) dX12_odds_26 (by decide) ?_
      refine zz_callV2i cv_X12_64 rfl (Nat.lt_of_lt_of_le (by decide) hn) (Nat.le_of_ble_eq_true rfl) (by decide) (by decide) dX12_odds_27 (t_X12_its hn hr w_2 4 rfl rfl (by omega) ⟨_, rfl, ?_⟩)
      refine zz_iconst (1) dX12_odds_30 (by decide) ?_
      refine zz_icmp_ne 41 dX12_odds_31 (by decide) (fun c_31 => ?_) (fun c_31 => ?_)
      · skip
        refine zz_iconst (0) dX12_odds_41 (by decide) ?_
        refine zz_istore_3 dX12_odds_42 rfl rfl ?_
        refine zz_aload_0 dX12_odds_43 ?_
        refine zz_getR fl_X12_7 rfl rfl (Nat.lt_of_lt_of_le (by decide) hn) (xr_50_0 hr) dX12_odds_44 ?_
        refine zz_iconst (0) dX12_odds_47 (by decide) ?_
        refine zz_iald 0 (by decide) (by decide) (by decide) rfl (Nat.lt_of_lt_of_le (by decide) hn) dX12_odds_48 ?_
        refine zz_aload_0 dX12_odds_49 ?_
        refine zz_getR fl_X12_7 rfl rfl (Nat.lt_of_lt_of_le (by decide) hn) (xr_50_0 hr) dX12_odds_50 ?_
        refine zz_iconst (0) dX12_odds_53 (by decide) ?_
        refine zz_iald 0 (by decide) (by decide) (by decide) rfl (Nat.lt_of_lt_of_le (by decide) hn) dX12_odds_54 ?_
        refine zz_bipush (60) dX12_odds_55 (by decide) ?_
        refine zz_irem dX12_odds_57 (by decide) ?_
        refine zz_isub dX12_odds_58 ?_
        refine zz_istore_4 dX12_odds_59 rfl rfl ?_
        refine zz_iconst (0) dX12_odds_61 (by decide) ?_
        refine zz_istore_5 dX12_odds_62 rfl rfl ?_
        rw [sp_odds, if_neg (fun q => q ⟨ia_2, by rw [ms_51]; exact ib_2⟩), if_neg (fun q => q.elim a_11 b_11), ix_w (by omega), ms_51, if_neg c_31, ms_R] at h
        refine l_X12_odds (d := d) hn hr hT0 hT1 w_2 (by omega) (fun g1 j1 => ?_) 61 0 g mj_rf (by omega) (by omega)
        split
        · rename_i hp; rw [if_pos hp] at h; exact ms_mj h j1
        · rename_i hp; rw [if_neg hp] at h; exact ms_mj h j1
      · skip
        refine zz_aload_0 dX12_odds_34 ?_
        refine zz_ldc dX12_odds_35 ct_X12_161 ?_
        refine zz_callV1i cv_X12_51 rfl (Nat.lt_of_lt_of_le (by decide) hn) (Nat.le_of_ble_eq_true rfl) (by decide) (by decide) dX12_odds_37 (t_X12_errs hn hr 3 (by decide) (by decide) ⟨_, rfl, ?_⟩)
        refine zz_iret rfl dX12_odds_40 (by decide) (by decide) ?_
        rw [sp_odds, if_neg (fun q => q ⟨ia_2, by rw [ms_51]; exact ib_2⟩), if_neg (fun q => q.elim a_11 b_11), ix_w (by omega), ms_51, if_pos c_31] at h
        exact ms_er (by decide) h
    · skip
      refine zz_if_ne 24 dX12_odds_14 (by decide) (fun h => absurd h (by decide)) (fun _ => ?_)
      refine zz_aload_0 dX12_odds_17 ?_
      refine zz_ldc dX12_odds_18 ct_X12_50 ?_
      refine zz_callV1i cv_X12_51 rfl (Nat.lt_of_lt_of_le (by decide) hn) (Nat.le_of_ble_eq_true rfl) (by decide) (by decide) dX12_odds_20 (t_X12_errs hn hr 1 (by decide) (by decide) ⟨_, rfl, ?_⟩)
      refine zz_iret rfl dX12_odds_23 (by decide) (by decide) ?_
      rw [sp_odds, if_neg (fun q => q ⟨ia_2, by rw [ms_51]; exact ib_2⟩), if_pos o_11] at h
      exact ms_er (by decide) h
  · skip
    have ic_2 := sp_isw_c hmw hmw6 nw_2
    refine zz_if_eq 17 dX12_odds_5 (by decide) (fun _ => ?_) (fun h => absurd h (by decide))
    refine zz_aload_0 dX12_odds_17 ?_
    refine zz_ldc dX12_odds_18 ct_X12_50 ?_
    refine zz_callV1i cv_X12_51 rfl (Nat.lt_of_lt_of_le (by decide) hn) (Nat.le_of_ble_eq_true rfl) (by decide) (by decide) dX12_odds_20 (t_X12_errs hn hr 1 (by decide) (by decide) ⟨_, rfl, ?_⟩)
    refine zz_iret rfl dX12_odds_23 (by decide) (by decide) ?_
    rw [sp_odds, if_pos (by rw [sp_isw, ms_51]; exact ic_2)] at h
    exact ms_er (by decide) h

set_option maxRecDepth 100000 in
set_option maxHeartbeats 4000000 in
theorem l_X12_fastest {C : zz_C} {d n : Nat} {g : zz_G} {r : zz_R} {Q : zz_Q} (hn : 60 ≤ n) (hr : xr r) (mw : Nat) (hmw : g 51 2 = nI mw) (hmw6 : mw ≤ 6) (hT0 : tx_ok (g 51) 0) (hT1 : tx_ok (g 51) 1) {what : Int32} (h1 : 0 ≤ (sp_fs (g 51) mw).1 → ∀ g1, mj_ g g1 → Q (some (.int (if what = 0 then (sp_fs (g 51) mw).1 else (sp_fs (g 51) mw).2))) g1 r n) (h0 : ¬ 0 ≤ (sp_fs (g 51) mw).1 → ∀ g1, mj_ g g1 → Q (some (.int (-1000000002))) (zz_u g1 54 2 (g1 54 2 + 1)) r n) : ∀ (k : Nat) (j : Nat) (bst lst : Int32) (g1 : zz_G), mj_ g g1 → j ≤ mw → mw - j < k → sp_fs (g 51) j = (bst, lst) → zz_Z C mi_X12_fastest (d + 44) 0 0 0 0 23 [some (.ref 50), some (.int what), some (.int bst), some (.int lst), some (.int (nI j))] [] g1 r n Q := by
  intro k
  induction k with
  | zero => intro j bst lst g1 hj1 hj hk hbl; exact absurd hk (by omega)
  | succ k ih =>
    intro j bst lst g1 hj1 hj hk hbl
    refine zz_iload_4 dX12_fastest_23 ?_
    refine zz_aload_0 dX12_fastest_25 ?_
    refine zz_getR fl_X12_7 rfl rfl (Nat.lt_of_lt_of_le (by decide) hn) (xr_50_0 hr) dX12_fastest_26 ?_
    refine zz_iconst (2) dX12_fastest_29 (by decide) ?_
    refine zz_iald 2 (by decide) (by decide) (by decide) rfl (Nat.lt_of_lt_of_le (by decide) hn) dX12_fastest_30 ?_
    refine zz_icmp_ge 89 dX12_fastest_31 (by decide) (fun c_31 => ?_) (fun c_31 => ?_)
    · skip
      refine zz_iload_2 dX12_fastest_89 ?_
      refine zz_if_ge 100 dX12_fastest_90 (by decide) (fun c_90 => ?_) (fun c_90 => ?_)
      · skip
        refine zz_iload_1 dX12_fastest_100 ?_
        refine zz_if_ne 108 dX12_fastest_101 (by decide) (fun c_101 => ?_) (fun c_101 => ?_)
        · skip
          refine zz_iload_3 dX12_fastest_108 ?_
          refine zz_iret rfl dX12_fastest_109 (by decide) (by decide) ?_
          rw [mj_51 hj1, hmw] at c_31
          have := zz_gei c_31 (by omega) (by omega)
          obtain rfl : j = mw := by omega
          rw [hbl] at h1 h0
          first
            | (rw [if_pos c_101] at h1; exact h1 c_90 _ hj1)
            | (rw [if_neg c_101] at h1; exact h1 c_90 _ hj1)
        · skip
          refine zz_iload_2 dX12_fastest_104 ?_
          refine zz_goto 109 dX12_fastest_105 (by decide) ?_
          refine zz_iret rfl dX12_fastest_109 (by decide) (by decide) ?_
          rw [mj_51 hj1, hmw] at c_31
          have := zz_gei c_31 (by omega) (by omega)
          obtain rfl : j = mw := by omega
          rw [hbl] at h1 h0
          first
            | (rw [if_pos c_101] at h1; exact h1 c_90 _ hj1)
            | (rw [if_neg c_101] at h1; exact h1 c_90 _ hj1)
      · skip
        refine zz_aload_0 dX12_fastest_93 ?_
        refine zz_ldc dX12_fastest_94 ct_X12_184 ?_
        refine zz_callV1i cv_X12_51 rfl (Nat.lt_of_lt_of_le (by decide) hn) (Nat.le_of_ble_eq_true rfl) (by decide) (by decide) dX12_fastest_96 (t_X12_errs hn hr 2 (by decide) (by decide) ⟨_, rfl, ?_⟩)
        refine zz_iret rfl dX12_fastest_99 (by decide) (by decide) ?_
        rw [mj_51 hj1, hmw] at c_31
        have := zz_gei c_31 (by omega) (by omega)
        obtain rfl : j = mw := by omega
        rw [hbl] at h1 h0
        exact h0 c_90 _ hj1
    · skip
      refine zz_aload_0 dX12_fastest_34 ?_
      refine zz_iload_4 dX12_fastest_35 ?_
      refine zz_iconst (4) dX12_fastest_37 (by decide) ?_
      have hlt : j < mw := zz_lti (by rw [← hmw, ← mj_51 hj1]; exact c_31) (by omega) (by omega)
      refine zz_callV2i cv_X12_64 rfl (Nat.lt_of_lt_of_le (by decide) hn) (Nat.le_of_ble_eq_true rfl) (by decide) (by decide) dX12_fastest_38 (t_X12_its hn hr j 4 rfl rfl (by omega) ⟨_, rfl, ?_⟩)
      refine zz_if_ne 83 dX12_fastest_41 (by decide) (fun c_41 => ?_) (fun c_41 => ?_)
      · skip
        refine zz_iinc_4 (1) dX12_fastest_83 rfl rfl (by decide) ?_
        refine zz_goto 23 dX12_fastest_86 (by decide) ?_
        rw [mj_51 hj1] at c_41
        rw [nI_1]
        exact ih (j + 1) _ _ _ hj1 (by omega) (by omega) (by rw [sp_fs_n (fun z => c_41 z.1)]; exact hbl)
      · skip
        refine zz_aload_0 dX12_fastest_44 ?_
        refine zz_iload_4 dX12_fastest_45 ?_
        refine zz_aload_0 dX12_fastest_47 ?_
        refine zz_getR fl_X12_7 rfl rfl (Nat.lt_of_lt_of_le (by decide) hn) (xr_50_0 hr) dX12_fastest_48 ?_
        refine zz_iconst (0) dX12_fastest_51 (by decide) ?_
        refine zz_iald 0 (by decide) (by decide) (by decide) rfl (Nat.lt_of_lt_of_le (by decide) hn) dX12_fastest_52 ?_
        rw [mj_51 hj1]
        refine zz_callV2i cv_X12_181 rfl (Nat.lt_of_lt_of_le (by decide) hn) (Nat.le_of_ble_eq_true rfl) (by decide) (by decide) dX12_fastest_53 (t_X12_getsInAt hn hr (mj_51 hj1) hT0 hT1 j (by omega) rfl (fun y_53 g1_53 j1_53 => ⟨_, rfl, ?_⟩) (fun y_53 g1_53 j1_53 => ⟨_, rfl, ?_⟩))
        · skip
          refine zz_if_eq 83 dX12_fastest_56 (by decide) (fun h => absurd h (by decide)) (fun _ => ?_)
          refine zz_iload_2 dX12_fastest_59 ?_
          refine zz_if_lt 73 dX12_fastest_60 (by decide) (fun c_60 => ?_) (fun c_60 => ?_)
          · skip
            refine zz_iload_4 dX12_fastest_73 ?_
            refine zz_istore_2 dX12_fastest_75 rfl rfl ?_
            refine zz_aload_0 dX12_fastest_76 ?_
            refine zz_iload_4 dX12_fastest_77 ?_
            refine zz_callV1i cv_X12_178 rfl (Nat.lt_of_lt_of_le (by decide) hn) (Nat.le_of_ble_eq_true rfl) (by decide) (by decide) dX12_fastest_79 (t_X12_takes hn hr (mj_51 (mj_tr hj1 j1_53)) hT0 j (by omega) rfl (fun g1_79 j1_79 => ⟨_, rfl, ?_⟩))
            refine zz_istore_3 dX12_fastest_82 rfl rfl ?_
            refine zz_iinc_4 (1) dX12_fastest_83 rfl rfl (by decide) ?_
            refine zz_goto 23 dX12_fastest_86 (by decide) ?_
            rw [mj_51 hj1] at c_41
            have hb1 : (sp_fs (g 51) j).1 = bst := by rw [hbl]
            have hb2 : (sp_fs (g 51) j).2 = lst := by rw [hbl]
            rw [nI_1]
            exact ih (j + 1) _ _ _ (mj_tr (mj_tr hj1 j1_53) j1_79) (by omega) (by omega) (sp_fs_y ⟨c_41, y_53, Or.inl (by rw [hb1]; exact c_60)⟩)
          · skip
            refine zz_aload_0 dX12_fastest_63 ?_
            refine zz_iload_4 dX12_fastest_64 ?_
            refine zz_callV1i cv_X12_178 rfl (Nat.lt_of_lt_of_le (by decide) hn) (Nat.le_of_ble_eq_true rfl) (by decide) (by decide) dX12_fastest_66 (t_X12_takes hn hr (mj_51 (mj_tr hj1 j1_53)) hT0 j (by omega) rfl (fun g1_66 j1_66 => ⟨_, rfl, ?_⟩))
            refine zz_iload_3 dX12_fastest_69 ?_
            refine zz_icmp_ge 83 dX12_fastest_70 (by decide) (fun c_70 => ?_) (fun c_70 => ?_)
            · skip
              refine zz_iinc_4 (1) dX12_fastest_83 rfl rfl (by decide) ?_
              refine zz_goto 23 dX12_fastest_86 (by decide) ?_
              rw [mj_51 hj1] at c_41
              have hb1 : (sp_fs (g 51) j).1 = bst := by rw [hbl]
              have hb2 : (sp_fs (g 51) j).2 = lst := by rw [hbl]
              rw [nI_1]
              first
                | exact ih (j + 1) _ _ _ (mj_tr (mj_tr hj1 j1_53) j1_66) (by omega) (by omega) (by rw [sp_fs_n (fun z => z.2.2.elim (fun q => c_60 (by rw [← hb1]; exact q)) (fun q => q (by rw [hb2]; exact c_70)))]; exact hbl)
                | exact ih (j + 1) _ _ _ (mj_tr (mj_tr (mj_tr hj1 j1_53) j1_66) j1_79) (by omega) (by omega) (sp_fs_y ⟨c_41, y_53, Or.inr (by rw [hb2]; exact c_70)⟩)
            · skip
              refine zz_iload_4 dX12_fastest_73 ?_
              refine zz_istore_2 dX12_fastest_75 rfl rfl ?_
              refine zz_aload_0 dX12_fastest_76 ?_
              refine zz_iload_4 dX12_fastest_77 ?_
              refine zz_callV1i cv_X12_178 rfl (Nat.lt_of_lt_of_le (by decide) hn) (Nat.le_of_ble_eq_true rfl) (by decide) (by decide) dX12_fastest_79 (t_X12_takes hn hr (mj_51 (mj_tr (mj_tr hj1 j1_53) j1_66)) hT0 j (by omega) rfl (fun g1_79 j1_79 => ⟨_, rfl, ?_⟩))
              refine zz_istore_3 dX12_fastest_82 rfl rfl ?_
              refine zz_iinc_4 (1) dX12_fastest_83 rfl rfl (by decide) ?_
              refine zz_goto 23 dX12_fastest_86 (by decide) ?_
              rw [mj_51 hj1] at c_41
              have hb1 : (sp_fs (g 51) j).1 = bst := by rw [hbl]
              have hb2 : (sp_fs (g 51) j).2 = lst := by rw [hbl]
              rw [nI_1]
              first
                | exact ih (j + 1) _ _ _ (mj_tr (mj_tr hj1 j1_53) j1_66) (by omega) (by omega) (by rw [sp_fs_n (fun z => z.2.2.elim (fun q => c_60 (by rw [← hb1]; exact q)) (fun q => q (by rw [hb2]; exact c_70)))]; exact hbl)
                | exact ih (j + 1) _ _ _ (mj_tr (mj_tr (mj_tr hj1 j1_53) j1_66) j1_79) (by omega) (by omega) (sp_fs_y ⟨c_41, y_53, Or.inr (by rw [hb2]; exact c_70)⟩)
        · skip
          refine zz_if_eq 83 dX12_fastest_56 (by decide) (fun _ => ?_) (fun h => absurd h (by decide))
          refine zz_iinc_4 (1) dX12_fastest_83 rfl rfl (by decide) ?_
          refine zz_goto 23 dX12_fastest_86 (by decide) ?_
          rw [mj_51 hj1] at c_41
          rw [nI_1]
          exact ih (j + 1) _ _ _ (mj_tr hj1 j1_53) (by omega) (by omega) (by rw [sp_fs_n (fun z => y_53 z.2.1)]; exact hbl)

set_option maxRecDepth 100000 in
set_option maxHeartbeats 4000000 in
theorem t_X12_fastest {C : zz_C} {d n : Nat} {g : zz_G} {r : zz_R} {Q : zz_Q} (hn : 60 ≤ n) (hr : xr r) (mw : Nat) (hmw : g 51 2 = nI mw) (hmw6 : mw ≤ 6) {what : Int32} (hT0 : tx_ok (g 51) 0) (hT1 : tx_ok (g 51) 1) (h : ms_o g r n Q (sp_fastest (ms_S g) what)) : zz_T C mi_X12_fastest (d + 44) 0 0 [.ref 50, .int what] g r n Q := by
  refine zz_T.of [some (.ref 50), some (.int what), none, none, none] (by decide +kernel) rfl (Nat.le_of_ble_eq_true rfl) ?_
  refine zz_iload_1 dX12_fastest_0 ?_
  refine zz_iconst (0) dX12_fastest_1 (by decide) ?_
  refine zz_iconst (1) dX12_fastest_2 (by decide) ?_
  refine zz_callS3i cs_X12_38 (Nat.le_of_ble_eq_true rfl) (by decide) (by decide) dX12_fastest_3 (t_X12_in (fun a_3 b_3 => ⟨_, rfl, ?_⟩) (fun o_3 => ⟨_, rfl, ?_⟩))
  · skip
    refine zz_if_ne 16 dX12_fastest_6 (by decide) (fun _ => ?_) (fun h => absurd h (by decide))
    refine zz_iconst (-1) dX12_fastest_16 (by decide) ?_
    refine zz_istore_2 dX12_fastest_17 rfl rfl ?_
    refine zz_iconst (0) dX12_fastest_18 (by decide) ?_
    refine zz_istore_3 dX12_fastest_19 rfl rfl ?_
    refine zz_iconst (0) dX12_fastest_20 (by decide) ?_
    refine zz_istore_4 dX12_fastest_21 rfl rfl ?_
    rw [sp_fastest, if_neg (fun q => q.elim a_3 b_3), ms_R, hmw, ix_w (by omega)] at h
    exact l_X12_fastest (d := d) hn hr mw hmw hmw6 hT0 hT1 (fun q g1 j1 => by rw [if_pos q] at h; exact ms_mj h j1) (fun q g1 j1 => by rw [if_neg q] at h; rw [show sp_err (ms_S g) 2 = sp_err (ms_S g1) 2 from by rw [j1.1]] at h; exact ms_er (by decide) (mj_o j1 h)) 9 0 _ _ g mj_rf (by omega) (by omega) rfl
  · skip
    refine zz_if_ne 16 dX12_fastest_6 (by decide) (fun h => absurd h (by decide)) (fun _ => ?_)
    refine zz_aload_0 dX12_fastest_9 ?_
    refine zz_ldc dX12_fastest_10 ct_X12_50 ?_
    refine zz_callV1i cv_X12_51 rfl (Nat.lt_of_lt_of_le (by decide) hn) (Nat.le_of_ble_eq_true rfl) (by decide) (by decide) dX12_fastest_12 (t_X12_errs hn hr 1 (by decide) (by decide) ⟨_, rfl, ?_⟩)
    refine zz_iret rfl dX12_fastest_15 (by decide) (by decide) ?_
    rw [sp_fastest, if_pos o_3] at h
    exact ms_er (by decide) h
