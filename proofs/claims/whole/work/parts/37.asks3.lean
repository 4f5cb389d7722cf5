set_option maxRecDepth 100000 in
set_option maxHeartbeats 4000000 in
theorem l_X12_asks {C : zz_C} {d n : Nat} {g : zz_G} {r : zz_R} {Q : zz_Q} (hn : 60 ≤ n) (hr : xr r) {w num : Int32} (h : zz_Z C mi_X12_asks (d + 42) 0 0 0 0 51 [some (.ref 50), some (.int w), some (.int num), some (.int (nI 100))] [] (sp_sh g 100) r n Q) : ∀ (k : Nat) (j : Nat), 46 ≤ j → j ≤ 100 → 100 - j < k → zz_Z C mi_X12_asks (d + 42) 0 0 0 0 24 [some (.ref 50), some (.int w), some (.int num), some (.int (nI j))] [] (sp_sh g j) r n Q := by
  intro k
  induction k with
  | zero => intro j hj4 hj hk; exact absurd hk (by omega)
  | succ k ih =>
    intro j hj4 hj hk
    refine zz_iload_3 dX12_asks_24 ?_
    refine zz_bipush (100) dX12_asks_25 (by decide) ?_
    refine zz_icmp_ge 51 dX12_asks_27 (by decide) (fun c_27 => ?_) (fun c_27 => ?_)
    · skip
      have := zz_gei (b := 100) c_27 (by omega) (by omega)
      obtain rfl : j = 100 := by omega
      exact h
    · skip
      refine zz_aload_0 dX12_asks_30 ?_
      refine zz_getR fl_X12_7 rfl rfl (Nat.lt_of_lt_of_le (by decide) hn) (xr_50_0 hr) dX12_asks_31 ?_
      refine zz_iload_3 dX12_asks_34 ?_
      refine zz_aload_0 dX12_asks_35 ?_
      refine zz_getR fl_X12_7 rfl rfl (Nat.lt_of_lt_of_le (by decide) hn) (xr_50_0 hr) dX12_asks_36 ?_
      refine zz_iload_3 dX12_asks_39 ?_
      refine zz_bipush (6) dX12_asks_40 (by decide) ?_
      refine zz_iadd dX12_asks_42 ?_
      have hlt := zz_lti (b := 100) c_27 (by omega) (by omega)
      refine zz_iaN (j + 6) (by show nI j + nI 6 = _; rw [nI_add]) (by omega) (by decide) rfl (Nat.lt_of_lt_of_le (by decide) hn) dX12_asks_43 ?_
      refine zz_isN j rfl (by omega) (by decide) rfl (Nat.lt_of_lt_of_le (by decide) hn) dX12_asks_44 ?_
      refine zz_iinc_3 (1) dX12_asks_45 rfl rfl (by decide) ?_
      refine zz_goto 24 dX12_asks_48 (by decide) ?_
      rw [sp_sh_s hj4, nI_1]
      exact ih (j + 1) (by omega) (by omega) (by omega)

set_option maxRecDepth 100000 in
set_option maxHeartbeats 4000000 in
theorem t_X12_asks {C : zz_C} {d n : Nat} {g : zz_G} {r : zz_R} {Q : zz_Q} (hn : 60 ≤ n) (hr : xr r) (cw : Nat) (hcw : g 51 7 = nI cw) (hcw6 : cw ≤ 10) (fw : Nat) (hfw : g 51 8 = nI fw) (hfw6 : fw ≤ 6) (hT0 : tx_ok (g 51) 0) {v : Int32} (wn : Nat) (hw : wn < 6) (hv : v = nI wn) (h : ms_o g r n Q (sp_asks (ms_S g) wn)) : zz_T C mi_X12_asks (d + 42) 0 0 [.ref 50, .int v] g r n Q := by
  subst hv
  have hnum : sp_num (ms_S g) = (sp_dr (g 51 1) - sp_dr (g 51 1) / sp_tn fw * sp_tn fw) := by rw [sp_num, ms_51, ms_51, hfw, ix_w (by omega)]
  have hz1 : sp_z1 (ms_S g) = zz_u (ms_S g) 51 1 (g 51 1 * 1103515245 + 12345) := by rw [sp_z1, ms_51]
  refine zz_T.of [some (.ref 50), some (.int (nI wn)), none, none] (by decide +kernel) rfl (Nat.le_of_ble_eq_true rfl) ?_
  refine zz_aload_0 dX12_asks_0 ?_
  refine zz_aload_0 dX12_asks_1 ?_
  refine zz_callV0i cv_X12_155 rfl (Nat.lt_of_lt_of_le (by decide) hn) (Nat.le_of_ble_eq_true rfl) (by decide) (by decide) dX12_asks_2 (t_X12_numbers hn hr fw hfw hfw6 ⟨_, rfl, ?_⟩)
  refine zz_callV1i cv_X12_158 rfl (Nat.lt_of_lt_of_le (by decide) hn) (Nat.le_of_ble_eq_true rfl) (by decide) (by decide) dX12_asks_5 (t_X12_drawn hn hr (by rw [sp_tn_pow]; exact nI_ne0 (Nat.pow_pos (by decide)) (Nat.lt_of_le_of_lt (Nat.pow_le_pow_right (by decide) hfw6) (by decide))) ⟨_, rfl, ?_⟩)
  refine zz_istore_2 dX12_asks_8 rfl rfl ?_
  refine zz_aload_0 dX12_asks_9 ?_
  refine zz_getR fl_X12_7 rfl rfl (Nat.lt_of_lt_of_le (by decide) hn) (xr_50_0 hr) dX12_asks_10 ?_
  refine zz_bipush (7) dX12_asks_13 (by decide) ?_
  refine zz_iald 7 (by decide) (by decide) (by decide) rfl (Nat.lt_of_lt_of_le (by decide) hn) dX12_asks_15 ?_
  refine zz_bipush (10) dX12_asks_16 (by decide) ?_
  refine zz_icmp_ne 62 dX12_asks_18 (by decide) (fun c_18 => ?_) (fun c_18 => ?_)
  · skip
    rw [zz_u51 g 1 _ (by decide)] at c_18
    have hlt := zz_ltm hcw hcw6 c_18
    rw [sp_asks, if_neg (by rw [ms_51]; exact c_18), hnum, hz1, ms_51, hcw, ix_w (by omega)] at h
    have hF : ms_F g (zz_u g 51 1 (g 51 1 * 1103515245 + 12345)) (zz_u (ms_S g) 51 1 (g 51 1 * 1103515245 + 12345)) := ms_F.rf.u rfl (by decide)
    refine e_X12_asks (d := d) hn hr (tx_ok_cg (zz_u51 g 1 _ (by decide)) (fun j hj => zz_u51 g 1 _ (by omega)) hT0) wn cw hw (by omega) ((zz_u51 g 1 _ (by decide)).trans hcw) (fun g2 h2 => h g2 ?_)
    rw [hF.1] at h2
    exact ⟨h2.1, fun k hk => (h2.2 k hk).trans (hF.2 k hk)⟩
  · skip
    refine zz_bipush (46) dX12_asks_21 (by decide) ?_
    refine zz_istore_3 dX12_asks_23 rfl rfl ?_
    rw [zz_u51 g 1 _ (by decide)] at c_18
    rw [sp_asks, if_pos (by rw [ms_51]; exact c_18), hnum, hz1] at h
    rw [← sp_sh_0 (zz_u g 51 1 (g 51 1 * 1103515245 + 12345))]
    refine l_X12_asks (d := d) hn hr ?_ 55 46 (by omega) (by omega) (by omega)
    refine zz_aload_0 dX12_asks_51 ?_
    refine zz_getR fl_X12_7 rfl rfl (Nat.lt_of_lt_of_le (by decide) hn) (xr_50_0 hr) dX12_asks_52 ?_
    refine zz_bipush (7) dX12_asks_55 (by decide) ?_
    refine zz_dup2 dX12_asks_57 rfl rfl ?_
    refine zz_iald 7 (by decide) (by decide) (by decide) rfl (Nat.lt_of_lt_of_le (by decide) hn) dX12_asks_58 ?_
    refine zz_iconst (1) dX12_asks_59 (by decide) ?_
    refine zz_isub dX12_asks_60 ?_
    refine zz_iast 7 (by decide) (by decide) (by decide) rfl (Nat.lt_of_lt_of_le (by decide) hn) dX12_asks_61 ?_
    have e7 : sp_sh (zz_u g 51 1 (g 51 1 * 1103515245 + 12345)) 100 51 7 - 1 = 9 := by
      rw [show sp_sh (zz_u g 51 1 (g 51 1 * 1103515245 + 12345)) 100 51 7 = (zz_u g 51 1 (g 51 1 * 1103515245 + 12345)) 51 7 from if_neg (by omega), zz_u51 g 1 _ (by decide), c_18]
      decide
    rw [e7]
    have rs : ∀ j, ¬ j = 1 → ¬ j = 7 → (j < 46 ∨ 100 ≤ j) → zz_u (sp_sh (zz_u g 51 1 (g 51 1 * 1103515245 + 12345)) 100) 51 7 9 51 j = g 51 j := fun j h1 h7 hj => by
      rw [zz_u51 _ _ _ h7, show sp_sh (zz_u g 51 1 (g 51 1 * 1103515245 + 12345)) 100 51 j = (zz_u g 51 1 (g 51 1 * 1103515245 + 12345)) 51 j from if_neg (by omega), zz_u51 _ _ _ h1]
    have hF : ms_F g (zz_u (sp_sh (zz_u g 51 1 (g 51 1 * 1103515245 + 12345)) 100) 51 7 9) (zz_u (sp_sh (zz_u (ms_S g) 51 1 (g 51 1 * 1103515245 + 12345)) 100) 51 7 9) := (sp_sh_F (ms_F.rf.u rfl (by decide))).u rfl (by decide)
    refine e_X12_asks (d := d) hn hr (tx_ok_cg (rs 5 (by decide) (by decide) (by decide)) (fun j hj => rs j (by omega) (by omega) (by omega)) hT0) wn 9 hw (by decide) (zz_u_same _ _ _ _) (fun g2 h2 => h g2 ?_)
    rw [hF.1] at h2
    exact ⟨h2.1, fun k hk => (h2.2 k hk).trans (hF.2 k hk)⟩

set_option maxRecDepth 100000 in
set_option maxHeartbeats 4000000 in
theorem t_X12_ask {C : zz_C} {d n : Nat} {g : zz_G} {r : zz_R} {Q : zz_Q} (hn : 60 ≤ n) (hr : xr r) (mw : Nat) (hmw : g 51 2 = nI mw) (hmw6 : mw ≤ 6) (cw : Nat) (hcw : g 51 7 = nI cw) (hcw6 : cw ≤ 10) (fw : Nat) (hfw : g 51 8 = nI fw) (hfw6 : fw ≤ 6) (hT0 : tx_ok (g 51) 0) {v : Int32} (h : ms_o g r n Q (sp_ask (ms_S g) v)) : zz_T C mi_X12_ask (d + 43) 0 0 [.ref 50, .int v] g r n Q := by
  refine zz_T.of [some (.ref 50), some (.int v)] (by decide +kernel) rfl (Nat.le_of_ble_eq_true rfl) ?_
  refine zz_aload_0 dX12_ask_0 ?_
  refine zz_iload_1 dX12_ask_1 ?_
  refine zz_callV1i cv_X12_60 rfl (Nat.lt_of_lt_of_le (by decide) hn) (Nat.le_of_ble_eq_true rfl) (by decide) (by decide) dX12_ask_2 (t_X12_isWay hn hr mw hmw hmw6 (fun w_2 hw_2 ew_2 => ⟨_, rfl, ?_⟩) (fun nw_2 => ⟨_, rfl, ?_⟩))
  · skip
    subst ew_2
    have ia_2 := sp_isw_a (w := w_2) (Nat.lt_of_lt_of_le hw_2 hmw6)
    have ib_2 := sp_isw_b hmw hmw6 hw_2
    refine zz_if_ne 15 dX12_ask_5 (by decide) (fun _ => ?_) (fun h => absurd h (by decide))
    refine zz_aload_0 dX12_ask_15 ?_
    refine zz_iload_1 dX12_ask_16 ?_
    refine zz_iconst (4) dX12_ask_17 (by decide) ?_
    refine zz_callV2i cv_X12_64 rfl (Nat.lt_of_lt_of_le (by decide) hn) (Nat.le_of_ble_eq_true rfl) (by decide) (by decide) dX12_ask_18 (t_X12_its hn hr w_2 4 rfl rfl (by omega) ⟨_, rfl, ?_⟩)
    refine zz_iconst (1) dX12_ask_21 (by decide) ?_
    refine zz_icmp_ne 34 dX12_ask_22 (by decide) (fun c_22 => ?_) (fun c_22 => ?_)
    · skip
      refine zz_aload_0 dX12_ask_34 ?_
      refine zz_iload_1 dX12_ask_35 ?_
      refine zz_callV1i cv_X12_162 rfl (Nat.lt_of_lt_of_le (by decide) hn) (Nat.le_of_ble_eq_true rfl) (by decide) (by decide) dX12_ask_36 (t_X12_asks hn hr cw hcw hcw6 fw hfw hfw6 hT0 w_2 (by omega) rfl (fun g2 h2 => ⟨_, rfl, ?_⟩))
      refine zz_iret rfl dX12_ask_39 (by decide) (by decide) ?_
      rw [sp_ask, if_neg (fun q => q ⟨ia_2, by rw [ms_51]; exact ib_2⟩), ix_w (by omega), ms_51] at h
      first
        | (rw [if_pos c_22] at h; exact ms_er (by decide) h)
        | (rw [if_neg c_22] at h; exact h _ h2)
    · skip
      refine zz_aload_0 dX12_ask_25 ?_
      refine zz_ldc dX12_ask_26 ct_X12_161 ?_
      refine zz_callV1i cv_X12_51 rfl (Nat.lt_of_lt_of_le (by decide) hn) (Nat.le_of_ble_eq_true rfl) (by decide) (by decide) dX12_ask_28 (t_X12_errs hn hr 3 (by decide) (by decide) ⟨_, rfl, ?_⟩)
      refine zz_goto 39 dX12_ask_31 (by decide) ?_
      refine zz_iret rfl dX12_ask_39 (by decide) (by decide) ?_
      rw [sp_ask, if_neg (fun q => q ⟨ia_2, by rw [ms_51]; exact ib_2⟩), ix_w (by omega), ms_51] at h
      first
        | (rw [if_pos c_22] at h; exact ms_er (by decide) h)
        | (rw [if_neg c_22] at h; exact h _ h2)
  · skip
    have ic_2 := sp_isw_c hmw hmw6 nw_2
    refine zz_if_ne 15 dX12_ask_5 (by decide) (fun h => absurd h (by decide)) (fun _ => ?_)
    refine zz_aload_0 dX12_ask_8 ?_
    refine zz_ldc dX12_ask_9 ct_X12_50 ?_
    refine zz_callV1i cv_X12_51 rfl (Nat.lt_of_lt_of_le (by decide) hn) (Nat.le_of_ble_eq_true rfl) (by decide) (by decide) dX12_ask_11 (t_X12_errs hn hr 1 (by decide) (by decide) ⟨_, rfl, ?_⟩)
    refine zz_iret rfl dX12_ask_14 (by decide) (by decide) ?_
    rw [sp_ask, if_pos (by rw [sp_isw, ms_51]; exact ic_2)] at h
    exact ms_er (by decide) h
