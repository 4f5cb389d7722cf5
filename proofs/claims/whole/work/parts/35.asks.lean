theorem pz_b_cg {R R' : Nat → Int32} {u len : Nat} (h : ∀ j, 176 ≤ j → R' j = R j) : pz_b R' u len = pz_b R u len := funext fun k => by
  unfold pz_b
  rw [h _ (by omega)]
theorem tx_ok_cg {R R' : Nat → Int32} {u : Nat} (h5 : R' (5 + u) = R (5 + u)) (ht : ∀ j, 176 ≤ j → R' j = R j) (h : tx_ok R u) : tx_ok R' u := by
  unfold tx_ok at h ⊢
  rw [h5]
  simp only [pz_b_cg ht]
  exact h
theorem sp_law_cg {R R' : Nat → Int32} {u : Nat} {x y z : Int32} (h5 : R' (5 + u) = R (5 + u)) (ht : ∀ j, 176 ≤ j → R' j = R j) : sp_law R' u x y z = sp_law R u x y z := by
  unfold sp_law sp_val
  rw [h5, pz_b_cg ht]
theorem sp_late_cg {R R' : Nat → Int32} {w : Nat} {s : Int32} (hw : w < 6) (h5 : R' 5 = R 5) (hy : ∀ j, 16 ≤ j → j < 46 → R' j = R j) (ht : ∀ j, 176 ≤ j → R' j = R j) : sp_late R' w s = sp_late R w s := by
  unfold sp_late
  rw [hy (16 + 5 * w) (by omega) (by omega), hy (16 + 5 * w + 1) (by omega) (by omega), sp_law_cg (u := 0) h5 ht]
theorem sp_lasts_cg {R R' : Nat → Int32} {w : Nat} {s : Int32} (hw : w < 6) (hy : ∀ j, 16 ≤ j → j < 46 → R' j = R j) : sp_lasts R' w s = sp_lasts R w s := by
  unfold sp_lasts
  rw [hy (16 + 5 * w) (by omega) (by omega)]
theorem zz_u51 (g : zz_G) (j : Nat) (x : Int32) {i : Nat} (h : i ≠ j) : zz_u g 51 j x 51 i = g 51 i := zz_u_ne2 g x h
theorem sp_ckk_no {R : Nat → Int32} {m f k : Nat} (h : ¬ (0 < m ∧ sp_late R 0 (R 0 + 1 + nI k) = R (156 + k))) : sp_ckk R m (f + 1) k = k := by rw [sp_ckk, if_neg h]
theorem sp_ckk_yes {R : Nat → Int32} {m f k : Nat} (h : 0 < m ∧ sp_late R 0 (R 0 + 1 + nI k) = R (156 + k)) : sp_ckk R m (f + 1) k = sp_ckk R m f (k + 1) := by rw [sp_ckk, if_pos h]
set_option maxRecDepth 100000 in
set_option maxHeartbeats 4000000 in
theorem x_X12_check {C : zz_C} {d n : Nat} {g : zz_G} {r : zz_R} {Q : zz_Q} {a b : Int32} (h : Q (some (.int (1 + b))) g r n) : zz_Z C mi_X12_check (d + 42) 0 0 0 0 18 [some (.ref 50), some (.int a), some (.int b), some (.int 0)] [] g r n Q := by
  refine zz_iload_2 dX12_check_18 ?_
  refine zz_iload_1 dX12_check_19 ?_
  refine zz_icmp_ge 85 dX12_check_20 (by decide) (fun c_20 => ?_) (fun c_20 => ?_)
  · skip
    refine zz_iload_3 dX12_check_85 ?_
    refine zz_if_eq 93 dX12_check_86 (by decide) (fun _ => ?_) (fun h => absurd h (by decide))
    refine zz_iconst (1) dX12_check_93 (by decide) ?_
    refine zz_iload_2 dX12_check_94 ?_
    refine zz_iadd dX12_check_95 ?_
    refine zz_iret rfl dX12_check_96 (by decide) (by decide) ?_
    exact h
  · skip
    refine zz_iload_3 dX12_check_23 ?_
    refine zz_if_eq 85 dX12_check_24 (by decide) (fun _ => ?_) (fun h => absurd h (by decide))
    refine zz_iload_3 dX12_check_85 ?_
    refine zz_if_eq 93 dX12_check_86 (by decide) (fun _ => ?_) (fun h => absurd h (by decide))
    refine zz_iconst (1) dX12_check_93 (by decide) ?_
    refine zz_iload_2 dX12_check_94 ?_
    refine zz_iadd dX12_check_95 ?_
    refine zz_iret rfl dX12_check_96 (by decide) (by decide) ?_
    exact h


theorem sp_frk_no {S : zz_G} {s m z f w : Nat} (h : ¬ (w < z ∧ w < m ∧ ¬ (S 57 (40 * s + w) < 0 ∨ 99 < S 57 (40 * s + w)))) : sp_frk S s m z f w = w := by
  cases f with
  | zero => rfl
  | succ f => rw [sp_frk, if_neg h]
theorem sp_frk_yes {S : zz_G} {s m z f w : Nat} (h : w < z ∧ w < m ∧ ¬ (S 57 (40 * s + w) < 0 ∨ 99 < S 57 (40 * s + w))) : sp_frk S s m z (f + 1) w = sp_frk S s m z f (w + 1) := by rw [sp_frk, if_pos h]
set_option maxRecDepth 100000 in
set_option maxHeartbeats 4000000 in
theorem l_X12_fars {C : zz_C} {d n : Nat} {g : zz_G} {r : zz_R} {Q : zz_Q} (hn : 60 ≤ n) (hr : xr r) (mw : Nat) (hmw : g 51 2 = nI mw) (hmw6 : mw ≤ 6) {v : Int32} (s1 z1 : Nat) (hs1 : s1 < 4) (hz1 : z1 ≤ 40) (es1 : v = nI s1) (ez1 : g 56 s1 = nI z1) {res : Nat} (h : Q (some (.int (nI res))) (sp_frw g s1 res) r n) : ∀ (k : Nat) (f w : Nat), w ≤ mw → mw ≤ w + f → f < k → sp_frk g s1 mw z1 f w = res → zz_Z C mi_X12_fars (d + 2) 0 0 0 0 32 [some (.ref 50), some (.int v), some (.int (nI w))] [] (sp_frw g s1 w) r n Q := by
  intro k
  induction k with
  | zero => intro f w hw hwf hk he; exact absurd hk (by omega)
  | succ k ih =>
    intro f w hw hwf hk he
    refine zz_iload_2 dX12_fars_32 ?_
    refine zz_aload_0 dX12_fars_33 ?_
    refine zz_getR fl_X12_25 rfl rfl (Nat.lt_of_lt_of_le (by decide) hn) (xr_50_15 hr) dX12_fars_34 ?_
    refine zz_iload_1 dX12_fars_37 ?_
    refine zz_iaN s1 es1 (by omega) (by decide) rfl (Nat.lt_of_lt_of_le (by decide) hn) dX12_fars_38 ?_
    rw [show sp_frw g s1 w 56 = g 56 from sp_frw_row (by decide) w, ez1]
    refine zz_icmp_ge 93 dX12_fars_39 (by decide) (fun c_39 => ?_) (fun c_39 => ?_)
    · skip
      refine zz_iload_2 dX12_fars_93 ?_
      refine zz_iret rfl dX12_fars_94 (by decide) (by decide) ?_
      have hno : ¬ (w < z1 ∧ w < mw ∧ ¬ (g 57 (40 * s1 + w) < 0 ∨ 99 < g 57 (40 * s1 + w))) := by
        first
          | exact fun q => q.2.2 o_64
          | exact fun q => nw_44 w q.2.1 rfl
          | (intro q; exact absurd (zz_gei c_39 (by omega) (by omega)) (by omega))
      rw [sp_frk_no hno] at he
      subst he
      exact h
    · skip
      refine zz_aload_0 dX12_fars_42 ?_
      refine zz_iload_2 dX12_fars_43 ?_
      refine zz_callV1i cv_X12_60 rfl (Nat.lt_of_lt_of_le (by decide) hn) (Nat.le_of_ble_eq_true rfl) (by decide) (by decide) dX12_fars_44 (t_X12_isWay hn hr mw (by rw [sp_frw_2]; exact hmw) hmw6 (fun w_44 hw_44 ew_44 => ⟨_, rfl, ?_⟩) (fun nw_44 => ⟨_, rfl, ?_⟩))
      · skip
        refine zz_if_eq 93 dX12_fars_47 (by decide) (fun h => absurd h (by decide)) (fun _ => ?_)
        refine zz_aload_0 dX12_fars_50 ?_
        refine zz_getR fl_X12_28 rfl rfl (Nat.lt_of_lt_of_le (by decide) hn) (xr_50_16 hr) dX12_fars_51 ?_
        refine zz_bipush (40) dX12_fars_54 (by decide) ?_
        refine zz_iload_1 dX12_fars_56 ?_
        refine zz_imul dX12_fars_57 ?_
        refine zz_iload_2 dX12_fars_58 ?_
        refine zz_iadd dX12_fars_59 ?_
        obtain rfl : w = w_44 := (nI_eq (by omega) (by omega)).mp ew_44
        have hwz : w < z1 := zz_lti c_39 (by omega) (by omega)
        refine zz_iaN (40 * s1 + w) (by rw [es1]; show nI 40 * nI s1 + nI w = _; rw [pk_mul, nI_add]) (by omega) (by decide) rfl (Nat.lt_of_lt_of_le (by decide) hn) dX12_fars_60 ?_
        rw [show sp_frw g s1 w 57 = g 57 from sp_frw_row (by decide) w]
        refine zz_iconst (0) dX12_fars_61 (by decide) ?_
        refine zz_bipush (99) dX12_fars_62 (by decide) ?_
        refine zz_callS3i cs_X12_38 (Nat.le_of_ble_eq_true rfl) (by decide) (by decide) dX12_fars_64 (t_X12_in (fun a_64 b_64 => ⟨_, rfl, ?_⟩) (fun o_64 => ⟨_, rfl, ?_⟩))
        · skip
          refine zz_if_eq 93 dX12_fars_67 (by decide) (fun h => absurd h (by decide)) (fun _ => ?_)
          refine zz_aload_0 dX12_fars_70 ?_
          refine zz_iload_2 dX12_fars_71 ?_
          refine zz_iconst (2) dX12_fars_72 (by decide) ?_
          refine zz_aload_0 dX12_fars_73 ?_
          refine zz_getR fl_X12_28 rfl rfl (Nat.lt_of_lt_of_le (by decide) hn) (xr_50_16 hr) dX12_fars_74 ?_
          refine zz_bipush (40) dX12_fars_77 (by decide) ?_
          refine zz_iload_1 dX12_fars_79 ?_
          refine zz_imul dX12_fars_80 ?_
          refine zz_iload_2 dX12_fars_81 ?_
          refine zz_iadd dX12_fars_82 ?_
          refine zz_iaN (40 * s1 + w) (by rw [es1]; show nI 40 * nI s1 + nI w = _; rw [pk_mul, nI_add]) (by omega) (by decide) rfl (Nat.lt_of_lt_of_le (by decide) hn) dX12_fars_83 ?_
          rw [show sp_frw g s1 w 57 = g 57 from sp_frw_row (by decide) w]
          refine zz_callV3v cv_X12_56 rfl (Nat.lt_of_lt_of_le (by decide) hn) (Nat.le_of_ble_eq_true rfl) (by decide) (by decide) dX12_fars_84 (t_X12_gets hn hr w 2 rfl rfl (by omega) ⟨rfl, ?_⟩)
          refine zz_iinc_2 (1) dX12_fars_87 rfl rfl (by decide) ?_
          refine zz_goto 32 dX12_fars_90 (by decide) ?_
          obtain ⟨f, rfl⟩ : ∃ f2, f = f2 + 1 := ⟨f - 1, by omega⟩
          rw [sp_frk_yes ⟨hwz, hw_44, fun q => q.elim a_64 b_64⟩] at he
          rw [nI_1]
          exact ih f (w + 1) (by omega) (by omega) (by omega) he
        · skip
          refine zz_if_eq 93 dX12_fars_67 (by decide) (fun _ => ?_) (fun h => absurd h (by decide))
          refine zz_iload_2 dX12_fars_93 ?_
          refine zz_iret rfl dX12_fars_94 (by decide) (by decide) ?_
          have hno : ¬ (w < z1 ∧ w < mw ∧ ¬ (g 57 (40 * s1 + w) < 0 ∨ 99 < g 57 (40 * s1 + w))) := by
            first
              | exact fun q => q.2.2 o_64
              | exact fun q => nw_44 w q.2.1 rfl
              | (intro q; exact absurd (zz_gei c_39 (by omega) (by omega)) (by omega))
          rw [sp_frk_no hno] at he
          subst he
          exact h
      · skip
        refine zz_if_eq 93 dX12_fars_47 (by decide) (fun _ => ?_) (fun h => absurd h (by decide))
        refine zz_iload_2 dX12_fars_93 ?_
        refine zz_iret rfl dX12_fars_94 (by decide) (by decide) ?_
        have hno : ¬ (w < z1 ∧ w < mw ∧ ¬ (g 57 (40 * s1 + w) < 0 ∨ 99 < g 57 (40 * s1 + w))) := by
          first
            | exact fun q => q.2.2 o_64
            | exact fun q => nw_44 w q.2.1 rfl
            | (intro q; exact absurd (zz_gei c_39 (by omega) (by omega)) (by omega))
        rw [sp_frk_no hno] at he
        subst he
        exact h

set_option maxRecDepth 100000 in
set_option maxHeartbeats 4000000 in
theorem t_X12_fars {C : zz_C} {d n : Nat} {g : zz_G} {r : zz_R} {Q : zz_Q} (hn : 60 ≤ n) (hr : xr r) (mw : Nat) (hmw : g 51 2 = nI mw) (hmw6 : mw ≤ 6) {v : Int32} (hz : ∀ s : Nat, s < 4 → ∃ z : Nat, z ≤ 40 ∧ g 56 s = nI z) (h : ms_o g r n Q (sp_fars (ms_S g) v)) : zz_T C mi_X12_fars (d + 2) 0 0 [.ref 50, .int v] g r n Q := by
  refine zz_T.of [some (.ref 50), some (.int v), none] (by decide +kernel) rfl (Nat.le_of_ble_eq_true rfl) ?_
  refine zz_iload_1 dX12_fars_0 ?_
  refine zz_callS1i cs_X12_191 (Nat.le_of_ble_eq_true rfl) (by decide) (by decide) dX12_fars_1 (t_X12_isSheet (fun a_1 b_1 => ⟨_, rfl, ?_⟩) (fun o_1 => ⟨_, rfl, ?_⟩))
  · skip
    refine zz_if_ne 14 dX12_fars_4 (by decide) (fun _ => ?_) (fun h => absurd h (by decide))
    refine zz_aload_0 dX12_fars_14 ?_
    refine zz_getR fl_X12_22 rfl rfl (Nat.lt_of_lt_of_le (by decide) hn) (xr_50_14 hr) dX12_fars_15 ?_
    refine zz_iload_1 dX12_fars_18 ?_
    obtain ⟨s1, hs0, hs1, es1⟩ := zz_in0 (lo := 0) (hi := 3) rfl rfl (by decide) (by decide) a_1 b_1
    obtain ⟨z1, hz1, ez1⟩ := hz s1 (by omega)
    refine zz_iaN s1 es1 (by omega) (by decide) rfl (Nat.lt_of_lt_of_le (by decide) hn) dX12_fars_19 ?_
    refine zz_if_ne 30 dX12_fars_20 (by decide) (fun c_20 => ?_) (fun c_20 => ?_)
    · skip
      refine zz_iconst (0) dX12_fars_30 (by decide) ?_
      refine zz_istore_2 dX12_fars_31 rfl rfl ?_
      rw [sp_fars, if_neg (fun q => q.elim a_1 b_1), es1, ix_w (by omega), ms_55, if_neg c_20, ms_51, ms_56, hmw, ix_w (by omega), ez1, ix_w (by omega), sp_frk_congr (ms_R57 g)] at h
      exact l_X12_fars (d := d) hn hr mw hmw hmw6 s1 z1 (by omega) hz1 es1 ez1 (h _ (sp_frw_F _)) (mw + 1) mw 0 (by omega) (by omega) (by omega) rfl
    · skip
      refine zz_aload_0 dX12_fars_23 ?_
      refine zz_ldc dX12_fars_24 ct_X12_184 ?_
      refine zz_callV1i cv_X12_51 rfl (Nat.lt_of_lt_of_le (by decide) hn) (Nat.le_of_ble_eq_true rfl) (by decide) (by decide) dX12_fars_26 (t_X12_errs hn hr 2 (by decide) (by decide) ⟨_, rfl, ?_⟩)
      refine zz_iret rfl dX12_fars_29 (by decide) (by decide) ?_
      rw [sp_fars, if_neg (fun q => q.elim a_1 b_1), es1, ix_w (by omega), ms_55, if_pos c_20] at h
      exact ms_er (by decide) h
  · skip
    refine zz_if_ne 14 dX12_fars_4 (by decide) (fun h => absurd h (by decide)) (fun _ => ?_)
    refine zz_aload_0 dX12_fars_7 ?_
    refine zz_ldc dX12_fars_8 ct_X12_50 ?_
    refine zz_callV1i cv_X12_51 rfl (Nat.lt_of_lt_of_le (by decide) hn) (Nat.le_of_ble_eq_true rfl) (by decide) (by decide) dX12_fars_10 (t_X12_errs hn hr 1 (by decide) (by decide) ⟨_, rfl, ?_⟩)
    refine zz_iret rfl dX12_fars_13 (by decide) (by decide) ?_
    rw [sp_fars, if_pos o_1] at h
    exact ms_er (by decide) h
