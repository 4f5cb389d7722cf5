theorem x_o.g {g g1 : zz_G} {Q : zz_Q} {sp : Int32 × zz_G} (h : x_o g Q sp) (e : ∀ k, 50 ≤ k → k < 60 → g1 k = g k) : x_o g1 Q sp := fun g' r' n' hr hk => h g' r' n' hr (fun k h1 h2 => (hk k h1 h2).trans (e k h1 h2))
theorem sp_ckk_cg {R R' : Nat → Int32} {m : Nat} (h : ∀ j, j ≠ 4 → R' j = R j) : ∀ f k, sp_ckk R' m f k = sp_ckk R m f k
  | 0, k => rfl
  | f + 1, k => by
    rw [sp_ckk, sp_ckk, sp_ckk_cg h f (k + 1), sp_late_cg (w := 0) (by decide) (h 5 (by decide)) (fun j h1 h2 => h j (by omega)) (fun j h1 => h j (by omega)), h 0 (by decide), h (156 + k) (by omega)]
theorem wr.u4 {S : zz_G} {x : Int32} (h : wr (S 51)) (hx : wi x 0 20) : wr (zz_u S 51 4 x 51) := by
  obtain ⟨⟨a0, a2, a3, a4, a7, a8, a9, a10, a11⟩, b, c⟩ := h
  have e : ∀ j, j ≠ 4 → zz_u S 51 4 x 51 j = S 51 j := fun j hj => zz_u_ne2 _ _ hj
  refine ⟨⟨?_, ?_, ?_, ?_, ?_, ?_, ?_, ?_, ?_⟩, fun w hw => ?_, fun j hj => ?_⟩
  · rw [e _ (by decide)]; exact a0
  · rw [e _ (by decide)]; exact a2
  · rw [e _ (by decide)]; exact a3
  · rw [zz_u_same]; exact hx
  · rw [e _ (by decide)]; exact a7
  · rw [e _ (by decide)]; exact a8
  · rw [e _ (by decide)]; exact a9
  · rw [e _ (by decide)]; exact a10
  · rw [e _ (by decide)]; exact a11
  · unfold ww
    rw [e _ (by omega), e _ (by omega), e _ (by omega), e _ (by omega), e _ (by omega)]
    exact b w hw
  · rw [e _ (by omega)]
    exact c j hj
set_option maxRecDepth 100000 in
set_option maxHeartbeats 4000000 in
theorem l_X11_check {C : zz_C} {d n : Nat} {g : zz_G} {r : zz_R} {Q : zz_Q} {S : zz_G} (hx : x_rel S g r n) (hW : wr (S 51)) (mw : Nat) (hmw : S 51 2 = nI mw) (hmw6 : mw ≤ 6) (nw : Nat) (hnw2 : nw ≤ 20) {K : Nat} (h : x_o g Q (if K = nw then 0 else 1 + nI K, S)) : ∀ (k : Nat) (q : Nat) (g1 : zz_G), q ≤ nw → sp_ckk (S 51) mw (nw - q) q = K → xj g g1 → nw - q < k → zz_Z C mi_X11_check (d + 4) 0 0 0 0 18 [some (.ref 0), some (.int (nI nw)), some (.int (nI q))] [] g1 r n Q := by
  intro k
  induction k with
  | zero => intro q g1 hq hK hj hk; exact absurd hk (by omega)
  | succ k ih =>
    intro q g1 hq hK hj hk
    have hn := hx.nn
    have hr := hx.1
    have hx1 := hx.j hj
    have hmw1 : g1 1 7 = nI mw := (x_s2 hx1).symm.trans hmw
    refine zz_iload_2 dX11_check_18 ?_
    refine zz_iload_1 dX11_check_19 ?_
    refine zz_icmp_ge 71 dX11_check_20 (by decide) (fun c_20 => ?_) (fun c_20 => ?_)
    · skip
      refine zz_iconst (0) dX11_check_71 (by decide) ?_
      refine zz_iret rfl dX11_check_72 (by decide) (by decide) ?_
      have := zz_gei c_20 (by omega) (by omega)
      obtain rfl : q = nw := by omega
      rw [Nat.sub_self, sp_ckk] at hK
      rw [if_pos hK.symm] at h
      exact (h.j hj).e (x_F.rf hx1)
    · skip
      have hlt := zz_lti c_20 (by omega) (by omega)
      rw [show nw - q = (nw - (q + 1)) + 1 by omega, sp_ckk] at hK
      refine zz_aload_0 dX11_check_23 ?_
      refine zz_getR fl_X11_10 rfl rfl (Nat.lt_of_lt_of_le (by decide) hn) (xr_0_0 hr) dX11_check_24 ?_
      refine zz_getI fl_X11_101 rfl rfl (Nat.lt_of_lt_of_le (by decide) hn) dX11_check_27 ?_
      refine zz_if_eq 61 dX11_check_30 (by decide) (fun c_30 => ?_) (fun c_30 => ?_)
      · skip
        refine zz_iconst (1) dX11_check_61 (by decide) ?_
        refine zz_iload_2 dX11_check_62 ?_
        refine zz_iadd dX11_check_63 ?_
        refine zz_iret rfl dX11_check_64 (by decide) (by decide) ?_
        rw [if_neg (fun z9 => absurd z9.1 (by rw [hmw1] at c_30; have := (nI_eq (a := mw) (b := 0) (by omega) (by omega)).mp c_30; omega))] at hK
        subst hK
        rw [if_neg (by omega)] at h
        exact (h.j hj).e (x_F.rf hx1)
      · skip
        refine zz_aload_0 dX11_check_33 ?_
        refine zz_getR fl_X11_10 rfl rfl (Nat.lt_of_lt_of_le (by decide) hn) (xr_0_0 hr) dX11_check_34 ?_
        refine zz_getR fl_X11_315 rfl rfl (Nat.lt_of_lt_of_le (by decide) hn) (xr_1_13 hr) dX11_check_37 ?_
        refine zz_iload_2 dX11_check_40 ?_
        refine zz_iaN q rfl (by omega) (by decide) rfl (Nat.lt_of_lt_of_le (by decide) hn) dX11_check_41 ?_
        refine zz_aload_0 dX11_check_42 ?_
        refine zz_iconst (0) dX11_check_43 (by decide) ?_
        refine zz_aload_0 dX11_check_44 ?_
        refine zz_getR fl_X11_10 rfl rfl (Nat.lt_of_lt_of_le (by decide) hn) (xr_0_0 hr) dX11_check_45 ?_
        refine zz_getI fl_X11_110 rfl rfl (Nat.lt_of_lt_of_le (by decide) hn) dX11_check_48 ?_
        refine zz_iconst (1) dX11_check_51 (by decide) ?_
        refine zz_iadd dX11_check_52 ?_
        refine zz_iload_2 dX11_check_53 ?_
        refine zz_iadd dX11_check_54 ?_
        refine zz_callV2i cv_X11_113 rfl (Nat.lt_of_lt_of_le (by decide) hn) (Nat.le_of_ble_eq_true rfl) (by decide) (by decide) dX11_check_55 (t_X11_lateAt hx1 hW 0 (by decide) rfl (fun g1_55 j1_55 => ⟨_, rfl, ?_⟩))
        refine zz_icmp_eq 65 dX11_check_58 (by decide) (fun c_58 => ?_) (fun c_58 => ?_)
        · skip
          refine zz_iinc_2 (1) dX11_check_65 rfl rfl (by decide) ?_
          refine zz_goto 18 dX11_check_68 (by decide) ?_
          rw [← x_wt hx1 (by omega), ← x_s0 hx1] at c_58
          rw [if_pos ⟨Nat.pos_of_ne_zero (fun z9 => c_30 (by rw [hmw1, z9]; rfl)), c_58.symm⟩] at hK
          rw [nI_1]
          exact ih (q + 1) _ (by omega) hK (hj.tr j1_55) (by omega)
        · skip
          refine zz_iconst (1) dX11_check_61 (by decide) ?_
          refine zz_iload_2 dX11_check_62 ?_
          refine zz_iadd dX11_check_63 ?_
          refine zz_iret rfl dX11_check_64 (by decide) (by decide) ?_
          rw [← x_wt hx1 (by omega), ← x_s0 hx1] at c_58
          rw [if_neg (fun z9 => c_58 z9.2.symm)] at hK
          subst hK
          rw [if_neg (by omega)] at h
          exact (h.j hj).e ((x_F.rf hx1).j j1_55)

set_option maxRecDepth 100000 in
set_option maxHeartbeats 4000000 in
theorem t_X11_check {C : zz_C} {d n : Nat} {g : zz_G} {r : zz_R} {Q : zz_Q} {S : zz_G} (hx : x_rel S g r n) (mw : Nat) (hmw : S 51 2 = nI mw) (hmw6 : mw ≤ 6) (hW : wr (S 51)) (h : x_o g Q (sp_check S)) : zz_T C mi_X11_check (d + 4) 0 0 [.ref 0] g r n Q := by
  have hn := hx.nn
  have hr := hx.1
  obtain ⟨nw, hnw0, hnw2, enw⟩ := hW.1.2.2.2.1
  refine zz_T.of [some (.ref 0), none, none] (by decide +kernel) rfl (Nat.le_of_ble_eq_true rfl) ?_
  refine zz_aload_0 dX11_check_0 ?_
  refine zz_getR fl_X11_10 rfl rfl (Nat.lt_of_lt_of_le (by decide) hn) (xr_0_0 hr) dX11_check_1 ?_
  refine zz_getI fl_X11_312 rfl rfl (Nat.lt_of_lt_of_le (by decide) hn) dX11_check_4 ?_
  refine zz_istore_1 dX11_check_7 rfl rfl ?_
  refine zz_aload_0 dX11_check_8 ?_
  refine zz_getR fl_X11_10 rfl rfl (Nat.lt_of_lt_of_le (by decide) hn) (xr_0_0 hr) dX11_check_9 ?_
  refine zz_iconst (0) dX11_check_12 (by decide) ?_
  refine zz_putI fl_X11_312 rfl rfl (Nat.lt_of_lt_of_le (by decide) hn) dX11_check_13 ?_
  refine zz_iconst (0) dX11_check_16 (by decide) ?_
  refine zz_istore_2 dX11_check_17 rfl rfl ?_
  have hF1 : x_F g (zz_u g 1 14 0) r n (zz_u S 51 4 0) := (x_F.rf hx).s4
  have ec : sp_ckk (S 51) mw nw 0 = sp_ckk (zz_u S 51 4 0 51) mw nw 0 := (sp_ckk_cg (fun j hj => zz_u_ne2 _ _ hj) nw 0).symm
  rw [sp_check, hmw, enw, ix_w (by omega), ix_w (by omega), ec] at h
  rw [show g 1 14 = nI nw from (x_s4 hx).symm.trans enw]
  exact l_X11_check (d := d) hF1.1 (hW.u4 ⟨0, by decide, by decide, rfl⟩) mw (by rw [zz_u_ne2 _ _ (by decide)]; exact hmw) hmw6 nw hnw2 (h.g hF1.2) 22 0 _ (by omega) rfl xj.rf (by omega)

theorem sp_wi_all {S : zz_G} {w s : Nat} : ∀ z, sp_wi S w s z ↔ S 51 (16 + 5 * w + 4) = 0 ∧ ∀ j, j < z → sp_late (S 51) w (S 51 0 + nI j) = S 57 (40 * s + j)
  | 0 => ⟨fun h => ⟨h, fun j hj => by omega⟩, fun h => h.1⟩
  | z + 1 => by
    rw [sp_wi, sp_wi_all z]
    constructor
    · rintro ⟨⟨h1, h2⟩, h3⟩
      refine ⟨h1, fun j hj => ?_⟩
      rcases Nat.lt_or_ge j z with q | q
      · exact h2 j q
      · obtain rfl : j = z := by omega
        exact h3
    · rintro ⟨h1, h2⟩
      exact ⟨⟨h1, fun j hj => h2 j (by omega)⟩, h2 z (by omega)⟩
set_option maxRecDepth 100000 in
set_option maxHeartbeats 4000000 in
theorem l_X11_tellsLateOf {C : zz_C} {d n : Nat} {g : zz_G} {r : zz_R} {Q : zz_Q} {S : zz_G} (hx : x_rel S g r n) (hW : wr (S 51)) {v1 v2 : Int32} (s w z : Nat) (hs : s < 4) (hw : w < 6) (hz4 : z ≤ 40) (ez : S 56 s = nI z) (e1 : v1 = nI s) (e2 : v2 = nI w) (h1 : (∀ j, j < z → sp_late (S 51) w (S 51 0 + nI j) = S 57 (40 * s + j)) → ∀ g', xj g g' → Q (some (.int 1)) g' r n) (h0 : ¬ (∀ j, j < z → sp_late (S 51) w (S 51 0 + nI j) = S 57 (40 * s + j)) → ∀ g', xj g g' → Q (some (.int 0)) g' r n) : ∀ (k : Nat) (q : Nat) (g1 : zz_G), q ≤ z → (∀ j, j < q → sp_late (S 51) w (S 51 0 + nI j) = S 57 (40 * s + j)) → xj g g1 → z - q < k → zz_Z C mi_X11_tellsLateOf (d + 4) 0 0 0 0 2 [some (.ref 0), some (.int v1), some (.int v2), some (.int (nI q))] [] g1 r n Q := by
  intro k
  induction k with
  | zero => intro q g1 hq hA hj hk; exact absurd hk (by omega)
  | succ k ih =>
    intro q g1 hq hA hj hk
    have hn := hx.nn
    have hr := hx.1
    have hx1 := hx.j hj
    have ez1 : g1 49 s = nI z := (x_sz hx1 hs).symm.trans ez
    refine zz_iload_3 dX11_tellsLateOf_2 ?_
    refine zz_aload_0 dX11_tellsLateOf_3 ?_
    refine zz_getR fl_X11_77 rfl rfl (Nat.lt_of_lt_of_le (by decide) hn) (xr_0_10 hr) dX11_tellsLateOf_4 ?_
    refine zz_iload_1 dX11_tellsLateOf_7 ?_
    refine zz_iaN s e1 hs (by decide) rfl (Nat.lt_of_lt_of_le (by decide) hn) dX11_tellsLateOf_8 ?_
    refine zz_icmp_ge 45 dX11_tellsLateOf_9 (by decide) (fun c_9 => ?_) (fun c_9 => ?_)
    · skip
      refine zz_iconst (1) dX11_tellsLateOf_45 (by decide) ?_
      refine zz_zret rfl (by rfl) dX11_tellsLateOf_46 (by decide) (by decide) ?_
      rw [ez1] at c_9
      have := zz_gei c_9 (by omega) (by omega)
      obtain rfl : q = z := by omega
      exact h1 hA _ hj
    · skip
      rw [ez1] at c_9
      have hlt := zz_lti c_9 (by omega) (by omega)
      refine zz_aload_0 dX11_tellsLateOf_12 ?_
      refine zz_getR fl_X11_71 rfl rfl (Nat.lt_of_lt_of_le (by decide) hn) (xr_0_8 hr) dX11_tellsLateOf_13 ?_
      refine zz_iload_1 dX11_tellsLateOf_16 ?_
      refine zz_aaN s e1 hs (by decide) (by decide) rfl (Nat.lt_of_lt_of_le (by decide) hn) (xr_sheet hr s hs) dX11_tellsLateOf_17 ?_
      refine zz_iload_3 dX11_tellsLateOf_18 ?_
      refine zz_iaN q rfl (by omega) (by decide) (xs_sheet s hs) (by omega) dX11_tellsLateOf_19 ?_
      refine zz_aload_0 dX11_tellsLateOf_20 ?_
      refine zz_iload_2 dX11_tellsLateOf_21 ?_
      refine zz_aload_0 dX11_tellsLateOf_22 ?_
      refine zz_getR fl_X11_10 rfl rfl (Nat.lt_of_lt_of_le (by decide) hn) (xr_0_0 hr) dX11_tellsLateOf_23 ?_
      refine zz_getI fl_X11_110 rfl rfl (Nat.lt_of_lt_of_le (by decide) hn) dX11_tellsLateOf_26 ?_
      refine zz_iload_3 dX11_tellsLateOf_29 ?_
      refine zz_iadd dX11_tellsLateOf_30 ?_
      refine zz_callV2i cv_X11_113 rfl (Nat.lt_of_lt_of_le (by decide) hn) (Nat.le_of_ble_eq_true rfl) (by decide) (by decide) dX11_tellsLateOf_31 (t_X11_lateAt hx1 hW w hw e2 (fun g1_31 j1_31 => ⟨_, rfl, ?_⟩))
      refine zz_icmp_eq 39 dX11_tellsLateOf_34 (by decide) (fun c_34 => ?_) (fun c_34 => ?_)
      · skip
        refine zz_iinc_3 (1) dX11_tellsLateOf_39 rfl rfl (by decide) ?_
        refine zz_goto 2 dX11_tellsLateOf_42 (by decide) ?_
        rw [← x_sh hx1 hs (by omega), ← x_s0 hx1] at c_34
        rw [nI_1]
        refine ih (q + 1) _ (by omega) (fun j h9 => ?_) (hj.tr j1_31) (by omega)
        rcases Nat.lt_or_ge j q with z9 | z9
        · exact hA j z9
        · obtain rfl : j = q := by omega
          exact c_34.symm
      · skip
        refine zz_iconst (0) dX11_tellsLateOf_37 (by decide) ?_
        refine zz_zret rfl (by rfl) dX11_tellsLateOf_38 (by decide) (by decide) ?_
        rw [← x_sh hx1 hs (by omega), ← x_s0 hx1] at c_34
        exact h0 (fun z9 => c_34 (z9 q hlt).symm) _ (hj.tr j1_31)

set_option maxRecDepth 100000 in
set_option maxHeartbeats 4000000 in
theorem t_X11_tellsLateOf {C : zz_C} {d n : Nat} {g : zz_G} {r : zz_R} {Q : zz_Q} {S : zz_G} (hx : x_rel S g r n) (hW : wr (S 51)) {v1 v2 : Int32} (s w z : Nat) (hs : s < 4) (hw : w < 6) (hz4 : z ≤ 40) (ez : S 56 s = nI z) (e1 : v1 = nI s) (e2 : v2 = nI w) (h1 : (∀ j, j < z → sp_late (S 51) w (S 51 0 + nI j) = S 57 (40 * s + j)) → ∀ g', xj g g' → Q (some (.int 1)) g' r n) (h0 : ¬ (∀ j, j < z → sp_late (S 51) w (S 51 0 + nI j) = S 57 (40 * s + j)) → ∀ g', xj g g' → Q (some (.int 0)) g' r n) : zz_T C mi_X11_tellsLateOf (d + 4) 0 0 [.ref 0, .int v1, .int v2] g r n Q := by
  refine zz_T.of [some (.ref 0), some (.int v1), some (.int v2), none] (by decide +kernel) rfl (Nat.le_of_ble_eq_true rfl) ?_
  refine zz_iconst (0) dX11_tellsLateOf_0 (by decide) ?_
  refine zz_istore_3 dX11_tellsLateOf_1 rfl rfl ?_
  exact l_X11_tellsLateOf (d := d) hx hW s w z hs hw hz4 ez e1 e2 h1 h0 42 0 g (by omega) (fun j hj => absurd hj (by omega)) xj.rf (by omega)

set_option maxRecDepth 100000 in
set_option maxHeartbeats 4000000 in
theorem l_X11_which {C : zz_C} {d n : Nat} {g : zz_G} {r : zz_R} {Q : zz_Q} {S : zz_G} (hx : x_rel S g r n) (hW : wr (S 51)) (mw : Nat) (hmw : S 51 2 = nI mw) (hmw6 : mw ≤ 6) {l2 : Int32} (s z : Nat) (hs : s < 4) (hz4 : z ≤ 40) (ez : S 56 s = nI z) (h : x_o g Q (sp_wh S s z mw, S)) : ∀ (k : Nat) (q : Nat) (g1 : zz_G), q ≤ mw → xj g g1 → mw - q < k → zz_Z C mi_X11_which (d + 5) 0 0 0 0 21 [some (.ref 0), some (.int (nI s)), some (.int l2), some (.int (sp_wh S s z q)), some (.int (nI q))] [] g1 r n Q := by
  intro k
  induction k with
  | zero => intro q g1 hq hj hk; exact absurd hk (by omega)
  | succ k ih =>
    intro q g1 hq hj hk
    have hn := hx.nn
    have hr := hx.1
    have hx1 := hx.j hj
    have hmw1 : g1 1 7 = nI mw := (x_s2 hx1).symm.trans hmw
    refine zz_iload_4 dX11_which_21 ?_
    refine zz_aload_0 dX11_which_23 ?_
    refine zz_getR fl_X11_10 rfl rfl (Nat.lt_of_lt_of_le (by decide) hn) (xr_0_0 hr) dX11_which_24 ?_
    refine zz_getI fl_X11_101 rfl rfl (Nat.lt_of_lt_of_le (by decide) hn) dX11_which_27 ?_
    refine zz_icmp_ge 65 dX11_which_30 (by decide) (fun c_30 => ?_) (fun c_30 => ?_)
    · skip
      refine zz_iload_3 dX11_which_65 ?_
      refine zz_iret rfl dX11_which_66 (by decide) (by decide) ?_
      rw [hmw1] at c_30
      have := zz_gei c_30 (by omega) (by omega)
      obtain rfl : q = mw := by omega
      exact (h.j hj).e (x_F.rf hx1)
    · skip
      rw [hmw1] at c_30
      have hlt := zz_lti c_30 (by omega) (by omega)
      refine zz_aload_0 dX11_which_33 ?_
      refine zz_iload_4 dX11_which_34 ?_
      refine zz_callV1i cv_X11_225 rfl (Nat.lt_of_lt_of_le (by decide) hn) (Nat.le_of_ble_eq_true rfl) (by decide) (by decide) dX11_which_36 (t_X11_isLost hn hr q (by omega) rfl (fun c_36 => ⟨_, rfl, ?_⟩) (fun c_36 => ⟨_, rfl, ?_⟩))
      · skip
        refine zz_if_ne 59 dX11_which_39 (by decide) (fun _ => ?_) (fun h => absurd h (by decide))
        refine zz_iinc_4 (1) dX11_which_59 rfl rfl (by decide) ?_
        refine zz_goto 21 dX11_which_62 (by decide) ?_
        rw [show sp_wh S s z q = sp_wh S s z (q + 1) from by rw [← sp_wh_n (fun z9 => absurd ((sp_wi_all z).mp z9).1 (by rw [x_wy hx1 (by omega) (by decide)]; exact c_36))]; exact (Int32.or_zero).symm, nI_1]
        exact ih (q + 1) _ (by omega) hj (by omega)
      · skip
        refine zz_if_ne 59 dX11_which_39 (by decide) (fun h => absurd h (by decide)) (fun _ => ?_)
        refine zz_aload_0 dX11_which_42 ?_
        refine zz_iload_1 dX11_which_43 ?_
        refine zz_iload_4 dX11_which_44 ?_
        refine zz_callV2i cv_X11_262 rfl (Nat.lt_of_lt_of_le (by decide) hn) (Nat.le_of_ble_eq_true rfl) (by decide) (by decide) dX11_which_46 (t_X11_tellsLateOf hx1 hW s q z hs (by omega) hz4 ez rfl rfl (fun y_46 g1_46 j1_46 => ⟨_, rfl, ?_⟩) (fun y_46 g1_46 j1_46 => ⟨_, rfl, ?_⟩))
        · skip
          refine zz_if_eq 59 dX11_which_49 (by decide) (fun h => absurd h (by decide)) (fun _ => ?_)
          refine zz_iload_3 dX11_which_52 ?_
          refine zz_iconst (1) dX11_which_53 (by decide) ?_
          refine zz_iload_4 dX11_which_54 ?_
          refine zz_ishl dX11_which_56 ?_
          refine zz_ior dX11_which_57 ?_
          refine zz_istore_3 dX11_which_58 rfl rfl ?_
          refine zz_iinc_4 (1) dX11_which_59 rfl rfl (by decide) ?_
          refine zz_goto 21 dX11_which_62 (by decide) ?_
          rw [sp_wh_y ((sp_wi_all z).mpr ⟨by rw [x_wy hx1 (by omega) (by decide)]; exact c_36, y_46⟩), nI_1]
          exact ih (q + 1) _ (by omega) (hj.tr j1_46) (by omega)
        · skip
          refine zz_if_eq 59 dX11_which_49 (by decide) (fun _ => ?_) (fun h => absurd h (by decide))
          refine zz_iinc_4 (1) dX11_which_59 rfl rfl (by decide) ?_
          refine zz_goto 21 dX11_which_62 (by decide) ?_
          rw [show sp_wh S s z q = sp_wh S s z (q + 1) from by rw [← sp_wh_n (fun z9 => y_46 ((sp_wi_all z).mp z9).2)]; exact (Int32.or_zero).symm, nI_1]
          exact ih (q + 1) _ (by omega) (hj.tr j1_46) (by omega)

set_option maxRecDepth 100000 in
set_option maxHeartbeats 4000000 in
theorem t_X11_which {C : zz_C} {d n : Nat} {g : zz_G} {r : zz_R} {Q : zz_Q} {S : zz_G} (hx : x_rel S g r n) {v : Int32} (mw : Nat) (hmw : S 51 2 = nI mw) (hmw6 : mw ≤ 6) (hz : ∀ s : Nat, s < 4 → ∃ z : Nat, z ≤ 40 ∧ S 56 s = nI z) (hW : wr (S 51)) (h : x_o g Q (sp_which S v)) : zz_T C mi_X11_which (d + 5) 0 0 [.ref 0, .int v] g r n Q := by
  have hn := hx.nn
  have hr := hx.1
  have hmw1 : g 1 7 = nI mw := (x_s2 hx).symm.trans hmw
  refine zz_T.of [some (.ref 0), some (.int v), none, none, none] (by decide +kernel) rfl (Nat.le_of_ble_eq_true rfl) ?_
  refine zz_aload_0 dX11_which_0 ?_
  refine zz_iload_1 dX11_which_1 ?_
  refine zz_callV1i cv_X11_259 rfl (Nat.lt_of_lt_of_le (by decide) hn) (Nat.le_of_ble_eq_true rfl) (by decide) (by decide) dX11_which_2 (t_X11_refusalOfSheet hn hr (fun o_2 => ⟨_, rfl, ?_⟩) (fun s_2 hs_2 es_2 c_2 => ⟨_, rfl, ?_⟩) (fun s_2 hs_2 es_2 c_2 => ⟨_, rfl, ?_⟩))
  · skip
    refine zz_istore_2 dX11_which_5 rfl rfl ?_
    refine zz_iload_2 dX11_which_6 ?_
    refine zz_if_eq 16 dX11_which_7 (by decide) (fun h => absurd h (by decide)) (fun _ => ?_)
    refine zz_aload_0 dX11_which_10 ?_
    refine zz_iload_2 dX11_which_11 ?_
    refine zz_callV1i cv_X11_86 rfl (Nat.lt_of_lt_of_le (by decide) hn) (Nat.le_of_ble_eq_true rfl) (by decide) (by decide) dX11_which_12 (t_X11_error hn hr 1 rfl (by decide) ⟨_, rfl, ?_⟩)
    refine zz_iret rfl dX11_which_15 (by decide) (by decide) ?_
    first
      | (rw [sp_which, if_pos o_2] at h; exact x_er hx (by decide) h)
      | (rw [sp_which, if_neg (sp_nosh_f hs_2), ix_w (by omega), x_sb hx hs_2, if_pos c_2] at h; exact x_er hx (by decide) h)
  · skip
    subst es_2
    refine zz_istore_2 dX11_which_5 rfl rfl ?_
    refine zz_iload_2 dX11_which_6 ?_
    refine zz_if_eq 16 dX11_which_7 (by decide) (fun h => absurd h (by decide)) (fun _ => ?_)
    refine zz_aload_0 dX11_which_10 ?_
    refine zz_iload_2 dX11_which_11 ?_
    refine zz_callV1i cv_X11_86 rfl (Nat.lt_of_lt_of_le (by decide) hn) (Nat.le_of_ble_eq_true rfl) (by decide) (by decide) dX11_which_12 (t_X11_error hn hr 2 rfl (by decide) ⟨_, rfl, ?_⟩)
    refine zz_iret rfl dX11_which_15 (by decide) (by decide) ?_
    first
      | (rw [sp_which, if_pos o_2] at h; exact x_er hx (by decide) h)
      | (rw [sp_which, if_neg (sp_nosh_f hs_2), ix_w (by omega), x_sb hx hs_2, if_pos c_2] at h; exact x_er hx (by decide) h)
  · skip
    subst es_2
    refine zz_istore_2 dX11_which_5 rfl rfl ?_
    refine zz_iload_2 dX11_which_6 ?_
    refine zz_if_eq 16 dX11_which_7 (by decide) (fun _ => ?_) (fun h => absurd h (by decide))
    refine zz_iconst (0) dX11_which_16 (by decide) ?_
    refine zz_istore_3 dX11_which_17 rfl rfl ?_
    refine zz_iconst (0) dX11_which_18 (by decide) ?_
    refine zz_istore_4 dX11_which_19 rfl rfl ?_
    obtain ⟨z1, hz1, ez0⟩ := hz s_2 hs_2
    rw [sp_which, if_neg (sp_nosh_f hs_2), ix_w (by omega), x_sb hx hs_2, if_neg c_2, hmw, ez0, ix_w (by omega), ix_w (by omega)] at h
    exact l_X11_which (d := d) hx hW mw hmw hmw6 s_2 z1 hs_2 hz1 ez0 h 8 0 g (by omega) xj.rf (by omega)
