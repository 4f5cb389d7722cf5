set_option maxRecDepth 100000 in
set_option maxHeartbeats 4000000 in
theorem t_X11_ask {C : zz_C} {d n : Nat} {g : zz_G} {r : zz_R} {Q : zz_Q} {S : zz_G} (hx : x_rel S g r n) {v : Int32} (hW : wr (S 51)) (mw : Nat) (hmw : S 51 2 = nI mw) (hmw6 : mw ≤ 6) (cw : Nat) (hcw : S 51 7 = nI cw) (hcw6 : cw ≤ 10) (h : x_o g Q (sp_ask S v)) : zz_T C mi_X11_ask (d + 5) 0 0 [.ref 0, .int v] g r n Q := by
  have hn := hx.nn
  have hr := hx.1
  have hmw1 : g 1 7 = nI mw := (x_s2 hx).symm.trans hmw
  refine zz_T.of [some (.ref 0), some (.int v), none] (by decide +kernel) rfl (Nat.le_of_ble_eq_true rfl) ?_
  refine zz_aload_0 dX11_ask_0 ?_
  refine zz_iload_1 dX11_ask_1 ?_
  refine zz_callV1i cv_X11_189 rfl (Nat.lt_of_lt_of_le (by decide) hn) (Nat.le_of_ble_eq_true rfl) (by decide) (by decide) dX11_ask_2 (t_X11_refusalOfAsking hx hW mw hmw hmw6 (fun nw_2 => ⟨_, rfl, ?_⟩) (fun w_2 hw_2 ew_2 iw_2 l_2 => ⟨_, rfl, ?_⟩) (fun w_2 hw_2 ew_2 iw_2 l_2 => ⟨_, rfl, ?_⟩))
  · skip
    refine zz_istore_2 dX11_ask_5 rfl rfl ?_
    refine zz_iload_2 dX11_ask_6 ?_
    refine zz_if_eq 16 dX11_ask_7 (by decide) (fun h => absurd h (by decide)) (fun _ => ?_)
    refine zz_aload_0 dX11_ask_10 ?_
    refine zz_iload_2 dX11_ask_11 ?_
    refine zz_callV1i cv_X11_86 rfl (Nat.lt_of_lt_of_le (by decide) hn) (Nat.le_of_ble_eq_true rfl) (by decide) (by decide) dX11_ask_12 (t_X11_error hn hr 1 rfl (by decide) ⟨_, rfl, ?_⟩)
    refine zz_iret rfl dX11_ask_15 (by decide) (by decide) ?_
    first
      | (rw [sp_ask, if_pos nw_2] at h; exact x_er hx (by decide) h)
      | (rw [sp_ask, if_neg (fun z9 => z9 iw_2), ix_w (by omega), if_pos l_2] at h; exact x_er hx (by decide) h)
  · skip
    subst ew_2
    refine zz_istore_2 dX11_ask_5 rfl rfl ?_
    refine zz_iload_2 dX11_ask_6 ?_
    refine zz_if_eq 16 dX11_ask_7 (by decide) (fun h => absurd h (by decide)) (fun _ => ?_)
    refine zz_aload_0 dX11_ask_10 ?_
    refine zz_iload_2 dX11_ask_11 ?_
    refine zz_callV1i cv_X11_86 rfl (Nat.lt_of_lt_of_le (by decide) hn) (Nat.le_of_ble_eq_true rfl) (by decide) (by decide) dX11_ask_12 (t_X11_error hn hr 3 rfl (by decide) ⟨_, rfl, ?_⟩)
    refine zz_iret rfl dX11_ask_15 (by decide) (by decide) ?_
    first
      | (rw [sp_ask, if_pos nw_2] at h; exact x_er hx (by decide) h)
      | (rw [sp_ask, if_neg (fun z9 => z9 iw_2), ix_w (by omega), if_pos l_2] at h; exact x_er hx (by decide) h)
  · skip
    subst ew_2
    refine zz_istore_2 dX11_ask_5 rfl rfl ?_
    refine zz_iload_2 dX11_ask_6 ?_
    refine zz_if_eq 16 dX11_ask_7 (by decide) (fun _ => ?_) (fun h => absurd h (by decide))
    refine zz_aload_0 dX11_ask_16 ?_
    refine zz_iload_1 dX11_ask_17 ?_
    rw [sp_ask, if_neg (fun z9 => z9 iw_2), ix_w (by omega), if_neg l_2] at h
    refine zz_callV1i cv_X11_192 rfl (Nat.lt_of_lt_of_le (by decide) hn) (Nat.le_of_ble_eq_true rfl) (by decide) (by decide) dX11_ask_18 (t_X11_send hx hW cw hcw hcw6 w_2 hw_2 rfl (fun g1_18 r1_18 x1_18 k1_18 => ⟨_, rfl, ?_⟩))
    refine zz_iret rfl dX11_ask_21 (by decide) (by decide) ?_
    exact h _ _ _ x1_18 k1_18

/-- a second by draws, ahead of its end -/
def sp_l0 (S : zz_G) : Nat × zz_G := if sp_lf S then (if S 51 (16 + 5 * sp_lw S + 4) = 0 then (1, (sp_asks (sp_z1 (sp_z1 S)) (sp_lw S)).2) else (0, sp_z1 (sp_z1 S))) else (0, sp_z1 S)
theorem sp_l1_l0 (S : zz_G) : sp_l1 S = ((sp_l0 S).1, sp_tick (sp_l0 S).2) := by
  unfold sp_l1 sp_l0
  split
  · split <;> rfl
  · rfl
theorem wr_z1 {S : zz_G} (h : wr (S 51)) : wr (sp_z1 S 51) := wr_cg h fun j hj => zz_u_ne2 _ _ (by omega)
set_option maxRecDepth 100000 in
set_option maxHeartbeats 4000000 in
theorem t_X11_asksByDraws {C : zz_C} {d n : Nat} {g : zz_G} {r : zz_R} {Q : zz_Q} {S : zz_G} (hx : x_rel S g r n) (hW : wr (S 51)) (mw : Nat) (hmw : S 51 2 = nI mw) (hmw6 : mw ≤ 6) (cw : Nat) (hcw : S 51 7 = nI cw) (hcw6 : cw ≤ 10) (h1 : (sp_l0 S).1 = 1 → ∀ g' r', x_rel (sp_l0 S).2 g' r' n → (∀ k, 50 ≤ k → k < 60 → g' k = g k) → Q (some (.int 1)) g' r' n) (h0 : (sp_l0 S).1 = 0 → ∀ g' r', x_rel (sp_l0 S).2 g' r' n → (∀ k, 50 ≤ k → k < 60 → g' k = g k) → Q (some (.int 0)) g' r' n) : zz_T C mi_X11_asksByDraws (d + 5) 0 0 [.ref 0] g r n Q := by
  refine zz_T.of [some (.ref 0), none, none] (by decide +kernel) rfl (Nat.le_of_ble_eq_true rfl) ?_
  have hn := hx.nn
  have hr := hx.1
  refine zz_aload_0 dX11_asksByDraws_0 ?_
  refine zz_callV0i cv_X11_221 rfl (Nat.lt_of_lt_of_le (by decide) hn) (Nat.le_of_ble_eq_true rfl) (by decide) (by decide) dX11_asksByDraws_1 (t_X11_draw hx (fun g1_1 f1_1 => ⟨_, rfl, ?_⟩))
  have hr := f1_1.1.1
  have e7 : g1_1 1 7 = nI mw := (x_s2 f1_1.1).symm.trans ((zz_u_ne2 _ _ (by decide)).trans hmw)
  refine zz_istore_1 dX11_asksByDraws_4 rfl rfl ?_
  refine zz_aload_0 dX11_asksByDraws_5 ?_
  refine zz_getR fl_X11_10 rfl rfl (Nat.lt_of_lt_of_le (by decide) hn) (xr_0_0 hr) dX11_asksByDraws_6 ?_
  refine zz_getI fl_X11_101 rfl rfl (Nat.lt_of_lt_of_le (by decide) hn) dX11_asksByDraws_9 ?_
  refine zz_if_le 21 dX11_asksByDraws_12 (by decide) (fun c_12 => ?_) (fun c_12 => ?_)
  · skip
    refine zz_iconst (0) dX11_asksByDraws_21 (by decide) ?_
    refine zz_zret rfl (by rfl) dX11_asksByDraws_22 (by decide) (by decide) ?_
    have hlf : ¬ sp_lf S := by
      intro z9
      first
        | exact z9.1 (by rw [hmw, ← e7]; exact c_12)
        | exact c_18 z9.2
    have e0 : sp_l0 S = (0, sp_z1 S) := by rw [sp_l0, if_neg hlf]
    exact h0 (by rw [e0]) _ _ (by rw [e0]; exact f1_1.1) f1_1.2
  · skip
    refine zz_iload_1 dX11_asksByDraws_15 ?_
    refine zz_iconst (4) dX11_asksByDraws_16 (by decide) ?_
    refine zz_irem dX11_asksByDraws_17 (by decide) ?_
    refine zz_if_eq 23 dX11_asksByDraws_18 (by decide) (fun c_18 => ?_) (fun c_18 => ?_)
    · skip
      refine zz_aload_0 dX11_asksByDraws_23 ?_
      have hm0 : 0 < mw := Nat.pos_of_ne_zero fun z9 => c_12 (by rw [e7, z9]; decide)
      have hlf : sp_lf S := ⟨by rw [hmw]; exact fun z9 => c_12 (by rw [e7]; exact z9), c_18⟩
      refine zz_callV0i cv_X11_221 rfl (Nat.lt_of_lt_of_le (by decide) hn) (Nat.le_of_ble_eq_true rfl) (by decide) (by decide) dX11_asksByDraws_24 (t_X11_draw f1_1.1 (fun g1_24 f1_24 => ⟨_, rfl, ?_⟩))
      have hr := f1_24.1.1
      have e72 : g1_24 1 7 = nI mw := (x_s2 f1_24.1).symm.trans ((zz_u_ne2 _ _ (by decide)).trans ((zz_u_ne2 _ _ (by decide)).trans hmw))
      refine zz_aload_0 dX11_asksByDraws_27 ?_
      refine zz_getR fl_X11_10 rfl rfl (Nat.lt_of_lt_of_le (by decide) hn) (xr_0_0 hr) dX11_asksByDraws_28 ?_
      refine zz_getI fl_X11_101 rfl rfl (Nat.lt_of_lt_of_le (by decide) hn) dX11_asksByDraws_31 ?_
      obtain ⟨w1, hw1, ew1⟩ := sp_dr_m (sp_z1 S 51 1) hm0 (show mw < 2147483648 by omega)
      have elw : sp_lw S = w1 := by rw [sp_lw, hmw, ew1]; exact ix_w (by omega)
      rw [e72]
      refine zz_irem dX11_asksByDraws_34 (nI_ne0 hm0 (by omega)) ?_
      refine zz_istore_2 dX11_asksByDraws_35 rfl rfl ?_
      rw [ew1]
      refine zz_aload_0 dX11_asksByDraws_36 ?_
      refine zz_iload_2 dX11_asksByDraws_37 ?_
      refine zz_callV1i cv_X11_225 rfl (Nat.lt_of_lt_of_le (by decide) hn) (Nat.le_of_ble_eq_true rfl) (by decide) (by decide) dX11_asksByDraws_38 (t_X11_isLost hn hr w1 (by omega) rfl (fun c_38 => ⟨_, rfl, ?_⟩) (fun c_38 => ⟨_, rfl, ?_⟩))
      · skip
        have e4 : g1_24 (4 + w1) 4 = S 51 (16 + 5 * w1 + 4) := (x_wy f1_24.1 (by omega) (by decide)).symm.trans ((zz_u_ne2 _ _ (by omega)).trans (zz_u_ne2 _ _ (by omega)))
        rw [e4] at c_38
        refine zz_if_eq 46 dX11_asksByDraws_41 (by decide) (fun h => absurd h (by decide)) (fun _ => ?_)
        refine zz_iconst (0) dX11_asksByDraws_44 (by decide) ?_
        refine zz_zret rfl (by rfl) dX11_asksByDraws_45 (by decide) (by decide) ?_
        have e0 : sp_l0 S = (0, sp_z1 (sp_z1 S)) := by rw [sp_l0, if_pos hlf, elw, if_neg c_38]
        exact h0 (by rw [e0]) _ _ (by rw [e0]; exact f1_24.1) (f1_1.and2 f1_24).2
      · skip
        have e4 : g1_24 (4 + w1) 4 = S 51 (16 + 5 * w1 + 4) := (x_wy f1_24.1 (by omega) (by decide)).symm.trans ((zz_u_ne2 _ _ (by omega)).trans (zz_u_ne2 _ _ (by omega)))
        rw [e4] at c_38
        refine zz_if_eq 46 dX11_asksByDraws_41 (by decide) (fun _ => ?_) (fun h => absurd h (by decide))
        refine zz_aload_0 dX11_asksByDraws_46 ?_
        refine zz_iload_2 dX11_asksByDraws_47 ?_
        have hW2 := wr_z1 (wr_z1 hW)
        refine zz_callV1i cv_X11_192 rfl (Nat.lt_of_lt_of_le (by decide) hn) (Nat.le_of_ble_eq_true rfl) (by decide) (by decide) dX11_asksByDraws_48 (t_X11_send f1_24.1 hW2 cw ((zz_u_ne2 _ _ (by decide)).trans ((zz_u_ne2 _ _ (by decide)).trans hcw)) hcw6 w1 (by omega) rfl (fun g1_48 r1_48 x1_48 k1_48 => ⟨_, rfl, ?_⟩))
        refine zz_pop dX11_asksByDraws_51 rfl ?_
        refine zz_iconst (1) dX11_asksByDraws_52 (by decide) ?_
        refine zz_zret rfl (by rfl) dX11_asksByDraws_53 (by decide) (by decide) ?_
        have e0 : sp_l0 S = (1, (sp_asks (sp_z1 (sp_z1 S)) w1).2) := by rw [sp_l0, if_pos hlf, elw, if_pos c_38]
        exact h1 (by rw [e0]) _ _ (by rw [e0]; exact x1_48) (fun k q1 q2 => (k1_48 k q1 q2).trans ((f1_1.and2 f1_24).2 k q1 q2))
    · skip
      refine zz_iconst (0) dX11_asksByDraws_21 (by decide) ?_
      refine zz_zret rfl (by rfl) dX11_asksByDraws_22 (by decide) (by decide) ?_
      have hlf : ¬ sp_lf S := by
        intro z9
        first
          | exact z9.1 (by rw [hmw, ← e7]; exact c_12)
          | exact c_18 z9.2
      have e0 : sp_l0 S = (0, sp_z1 S) := by rw [sp_l0, if_neg hlf]
      exact h0 (by rw [e0]) _ _ (by rw [e0]; exact f1_1.1) f1_1.2

theorem lok_ww {S0 S' : zz_G} (h : lo_k S0 S') (hW : wr (S0 51)) {t : Nat} (ht : t ≤ 999999) (e0 : S' 51 0 = nI t) : wr (S' 51) := by
  obtain ⟨⟨a0, a2, a3, a4, a7, a8, a9, a10, a11⟩, b, c⟩ := hW
  have e : ∀ j, ¬ (j = 0 ∨ j = 1 ∨ j = 7 ∨ (46 ≤ j ∧ j < 106)) → S' 51 j = S0 51 j := fun j hj => h.1 51 j (fun z9 => hj z9.2)
  obtain ⟨cw, hc, ec⟩ := h.2
  refine ⟨⟨⟨t, by omega, ht, e0⟩, by rw [e _ (by decide)]; exact a2, by rw [e _ (by decide)]; exact a3, by rw [e _ (by decide)]; exact a4, ⟨cw, by omega, hc, ec⟩, by rw [e _ (by decide)]; exact a8, by rw [e _ (by decide)]; exact a9, by rw [e _ (by decide)]; exact a10, by rw [e _ (by decide)]; exact a11⟩, fun w hw => ?_, fun j hj => ?_⟩
  · unfold ww
    rw [e _ (by omega), e _ (by omega), e _ (by omega), e _ (by omega), e _ (by omega)]
    exact b w hw
  · rw [e _ (by omega)]
    exact c j hj
theorem sp_asks_0 {S : zz_G} {w cw : Nat} (hc : cw ≤ 10) (ec : S 51 7 = nI cw) : (sp_asks S w).2 51 0 = S 51 0 := by
  by_cases h7 : S 51 7 = 10
  · rw [sp_asks, if_pos h7]
    show zz_u (sp_wr (zz_u (sp_sh (sp_z1 S) 100) 51 7 9) 9 w (sp_num S)) 51 7 (nI (9 + 1)) 51 0 = _
    unfold sp_wr
    rw [zz_u_ne2 _ _ (by omega), zz_u_ne2 _ _ (by omega), zz_u_ne2 _ _ (by omega), zz_u_ne2 _ _ (by omega), zz_u_ne2 _ _ (by omega), zz_u_ne2 _ _ (by omega), zz_u_ne2 _ _ (by omega), zz_u_ne2 _ _ (by omega), show sp_sh (sp_z1 S) 100 51 0 = sp_z1 S 51 0 from if_neg (by omega)]
    exact zz_u_ne2 _ _ (by omega)
  · rw [sp_asks, if_neg h7]
    show zz_u (sp_wr (sp_z1 S) (S 51 7).toNatClampNeg w (sp_num S)) 51 7 (nI ((S 51 7).toNatClampNeg + 1)) 51 0 = _
    unfold sp_wr
    rw [zz_u_ne2 _ _ (by omega), zz_u_ne2 _ _ (by omega), zz_u_ne2 _ _ (by omega), zz_u_ne2 _ _ (by omega), zz_u_ne2 _ _ (by omega), zz_u_ne2 _ _ (by omega), zz_u_ne2 _ _ (by omega)]
    exact zz_u_ne2 _ _ (by omega)
theorem sp_l0_0 {S : zz_G} {cw : Nat} (hc : cw ≤ 10) (ec : S 51 7 = nI cw) : (sp_l0 S).2 51 0 = S 51 0 := by
  have z : ∀ T : zz_G, sp_z1 T 51 0 = T 51 0 := fun T => zz_u_ne2 _ _ (by omega)
  by_cases h1 : sp_lf S
  · by_cases h2 : S 51 (16 + 5 * sp_lw S + 4) = 0
    · rw [sp_l0, if_pos h1, if_pos h2]
      generalize sp_lw S = lw
      have z7 : sp_z1 (sp_z1 S) 51 7 = nI cw := by
        unfold sp_z1
        rw [zz_u_ne2 _ _ (by omega), zz_u_ne2 _ _ (by omega)]
        exact ec
      have h3 := sp_asks_0 (w := lw) hc z7
      rw [z, z] at h3
      exact h3
    · rw [sp_l0, if_pos h1, if_neg h2]
      show sp_z1 (sp_z1 S) 51 0 = S 51 0
      rw [z, z]
  · rw [sp_l0, if_neg h1]
    show sp_z1 S 51 0 = S 51 0
    rw [z]
theorem sp_lo_0 {S : zz_G} {cw t : Nat} (hc : cw ≤ 10) (ec : S 51 7 = nI cw) (e0 : S 51 0 = nI t) : ∀ k, (sp_lo S k).2 51 0 = nI (t + k)
  | 0 => e0
  | k + 1 => by
    obtain ⟨c2, h2, e2⟩ := (lo_k.lo hc ec k).2
    show (sp_l1 (sp_lo S k).2).2 51 0 = _
    rw [sp_l1_l0]
    show zz_u (sp_l0 (sp_lo S k).2).2 51 0 ((sp_l0 (sp_lo S k).2).2 51 0 + 1) 51 0 = _
    rw [zz_u_same, sp_l0_0 h2 e2, sp_lo_0 hc ec e0 k, nI_1]
    rfl
theorem sp_l0_01 (S : zz_G) : (sp_l0 S).1 = 0 ∨ (sp_l0 S).1 = 1 := by
  unfold sp_l0
  split
  · split
    · exact Or.inr rfl
    · exact Or.inl rfl
  · exact Or.inl rfl
set_option maxRecDepth 100000 in
set_option maxHeartbeats 4000000 in
theorem l_X11_loose {C : zz_C} {d n : Nat} {g : zz_G} {r : zz_R} {Q : zz_Q} {S : zz_G} (hx : x_rel S g r n) (hW : wr (S 51)) (mw : Nat) (hmw : S 51 2 = nI mw) (hmw6 : mw ≤ 6) (cw : Nat) (hcw : S 51 7 = nI cw) (hcw6 : cw ≤ 10) (t b : Nat) (et : S 51 0 = nI t) (hb : b ≤ 60) (htb : t + b ≤ 999999) (h : x_o g Q (nI (sp_lo S b).1, (sp_lo S b).2)) : ∀ (k : Nat) (q : Nat) (g1 : zz_G) (r1 : zz_R), q ≤ b → x_rel (sp_lo S q).2 g1 r1 n → (∀ k, 50 ≤ k → k < 60 → g1 k = g k) → b - q < k → zz_Z C mi_X11_loose (d + 6) 0 0 0 0 41 [some (.ref 0), some (.int (nI b)), some (.int (nI (sp_lo S q).1)), some (.int (nI q))] [] g1 r1 n Q := by
  intro k
  induction k with
  | zero => intro q g1 r1 hq hx1 hk1 hk; exact absurd hk (by omega)
  | succ k ih =>
    intro q g1 r1 hq hx1 hk1 hk
    have hn := hx1.nn
    have hr := hx1.1
    have hlo := lo_k.lo hcw6 hcw q
    have hW1 := lok_ww hlo hW (t := t + q) (by omega) (sp_lo_0 hcw6 hcw et q)
    obtain ⟨c2, hc2, ec2⟩ := hlo.2
    have hm2 : (sp_lo S q).2 51 2 = nI mw := (hlo.1 51 2 (by omega)).trans hmw
    refine zz_iload_3 dX11_loose_41 ?_
    refine zz_iload_1 dX11_loose_42 ?_
    refine zz_icmp_ge 75 dX11_loose_43 (by decide) (fun c_43 => ?_) (fun c_43 => ?_)
    · skip
      refine zz_iload_2 dX11_loose_75 ?_
      refine zz_iret rfl dX11_loose_76 (by decide) (by decide) ?_
      have := zz_gei c_43 (by omega) (by omega)
      obtain rfl : q = b := by omega
      exact h _ _ _ hx1 hk1
    · skip
      have hlt := zz_lti c_43 (by omega) (by omega)
      refine zz_aload_0 dX11_loose_46 ?_
      refine zz_callV0i cv_X11_217 rfl (Nat.lt_of_lt_of_le (by decide) hn) (Nat.le_of_ble_eq_true rfl) (by decide) (by decide) dX11_loose_47 (t_X11_asksByDraws hx1 hW1 mw hm2 hmw6 c2 ec2 hc2 (fun y_47 g1_47 r1_47 x1_47 k1_47 => ⟨_, rfl, ?_⟩) (fun y_47 g1_47 r1_47 x1_47 k1_47 => ⟨_, rfl, ?_⟩))
      · skip
        refine zz_if_eq 56 dX11_loose_50 (by decide) (fun h => absurd h (by decide)) (fun _ => ?_)
        refine zz_iinc_2 (1) dX11_loose_53 rfl rfl (by decide) ?_
        have hr := x1_47.1
        refine zz_aload_0 dX11_loose_56 ?_
        refine zz_getR fl_X11_10 rfl rfl (Nat.lt_of_lt_of_le (by decide) hn) (xr_0_0 hr) dX11_loose_57 ?_
        refine zz_dup dX11_loose_60 rfl ?_
        refine zz_getI fl_X11_110 rfl rfl (Nat.lt_of_lt_of_le (by decide) hn) dX11_loose_61 ?_
        refine zz_iconst (1) dX11_loose_64 (by decide) ?_
        refine zz_iadd dX11_loose_65 ?_
        refine zz_putI fl_X11_110 rfl rfl (Nat.lt_of_lt_of_le (by decide) hn) dX11_loose_66 ?_
        refine zz_iinc_3 (1) dX11_loose_69 rfl rfl (by decide) ?_
        refine zz_goto 41 dX11_loose_72 (by decide) ?_
        have e9 : sp_lo S (q + 1) = ((sp_lo S q).1 + (sp_l0 (sp_lo S q).2).1, sp_tick (sp_l0 (sp_lo S q).2).2) := by rw [sp_lo, sp_l1_l0]
        rw [y_47] at e9
        have hF9 : x_F g1_47 (zz_u g1_47 1 1 (g1_47 1 1 + 1)) r1_47 n (sp_lo S (q + 1)).2 := by
          rw [e9]
          show x_F _ _ _ _ (zz_u _ 51 0 ((sp_l0 (sp_lo S q).2).2 51 0 + 1))
          rw [x_s0 x1_47]
          exact (x_F.rf x1_47).s0
        have ih9 := ih (q + 1) _ _ (by omega) hF9.1 (fun k q1 q2 => (hF9.2 k q1 q2).trans ((k1_47 k q1 q2).trans (hk1 k q1 q2))) (by omega)
        rw [show (sp_lo S (q + 1)).1 = (sp_lo S q).1 + 1 from by rw [e9]] at ih9
        rw [nI_1, nI_1]
        exact ih9
      · skip
        refine zz_if_eq 56 dX11_loose_50 (by decide) (fun _ => ?_) (fun h => absurd h (by decide))
        have hr := x1_47.1
        refine zz_aload_0 dX11_loose_56 ?_
        refine zz_getR fl_X11_10 rfl rfl (Nat.lt_of_lt_of_le (by decide) hn) (xr_0_0 hr) dX11_loose_57 ?_
        refine zz_dup dX11_loose_60 rfl ?_
        refine zz_getI fl_X11_110 rfl rfl (Nat.lt_of_lt_of_le (by decide) hn) dX11_loose_61 ?_
        refine zz_iconst (1) dX11_loose_64 (by decide) ?_
        refine zz_iadd dX11_loose_65 ?_
        refine zz_putI fl_X11_110 rfl rfl (Nat.lt_of_lt_of_le (by decide) hn) dX11_loose_66 ?_
        refine zz_iinc_3 (1) dX11_loose_69 rfl rfl (by decide) ?_
        refine zz_goto 41 dX11_loose_72 (by decide) ?_
        have e9 : sp_lo S (q + 1) = ((sp_lo S q).1 + (sp_l0 (sp_lo S q).2).1, sp_tick (sp_l0 (sp_lo S q).2).2) := by rw [sp_lo, sp_l1_l0]
        rw [y_47] at e9
        have hF9 : x_F g1_47 (zz_u g1_47 1 1 (g1_47 1 1 + 1)) r1_47 n (sp_lo S (q + 1)).2 := by
          rw [e9]
          show x_F _ _ _ _ (zz_u _ 51 0 ((sp_l0 (sp_lo S q).2).2 51 0 + 1))
          rw [x_s0 x1_47]
          exact (x_F.rf x1_47).s0
        have ih9 := ih (q + 1) _ _ (by omega) hF9.1 (fun k q1 q2 => (hF9.2 k q1 q2).trans ((k1_47 k q1 q2).trans (hk1 k q1 q2))) (by omega)
        rw [show (sp_lo S (q + 1)).1 = (sp_lo S q).1 from by rw [e9]; rfl] at ih9
        rw [nI_1]
        exact ih9

set_option maxRecDepth 100000 in
set_option maxHeartbeats 4000000 in
theorem t_X11_loose {C : zz_C} {d n : Nat} {g : zz_G} {r : zz_R} {Q : zz_Q} {S : zz_G} (hx : x_rel S g r n) {m : Int32} (hW : wr (S 51)) (mw : Nat) (hmw : S 51 2 = nI mw) (hmw6 : mw ≤ 6) (cw : Nat) (hcw : S 51 7 = nI cw) (hcw6 : cw ≤ 10) (h : x_o g Q (sp_loose S m)) : zz_T C mi_X11_loose (d + 6) 0 0 [.ref 0, .int m] g r n Q := by
  have hn := hx.nn
  have hr := hx.1
  refine zz_T.of [some (.ref 0), some (.int m), none, none] (by decide +kernel) rfl (Nat.le_of_ble_eq_true rfl) ?_
  refine zz_iload_1 dX11_loose_0 ?_
  refine zz_iconst (1) dX11_loose_1 (by decide) ?_
  refine zz_icmp_lt 11 dX11_loose_2 (by decide) (fun c_2 => ?_) (fun c_2 => ?_)
  · skip
    refine zz_aload_0 dX11_loose_11 ?_
    refine zz_iconst (1) dX11_loose_12 (by decide) ?_
    refine zz_callV1i cv_X11_86 rfl (Nat.lt_of_lt_of_le (by decide) hn) (Nat.le_of_ble_eq_true rfl) (by decide) (by decide) dX11_loose_13 (t_X11_error hn hr 1 rfl (by decide) ⟨_, rfl, ?_⟩)
    refine zz_iret rfl dX11_loose_16 (by decide) (by decide) ?_
    first
      | (rw [sp_loose, if_pos (Or.inl c_2)] at h; exact x_er hx (by decide) h)
      | (rw [sp_loose, if_pos (Or.inr (Int32.not_le.mp c_8))] at h; exact x_er hx (by decide) h)
  · skip
    refine zz_iload_1 dX11_loose_5 ?_
    refine zz_bipush (60) dX11_loose_6 (by decide) ?_
    refine zz_icmp_le 17 dX11_loose_8 (by decide) (fun c_8 => ?_) (fun c_8 => ?_)
    · skip
      refine zz_aload_0 dX11_loose_17 ?_
      refine zz_getR fl_X11_10 rfl rfl (Nat.lt_of_lt_of_le (by decide) hn) (xr_0_0 hr) dX11_loose_18 ?_
      refine zz_getI fl_X11_110 rfl rfl (Nat.lt_of_lt_of_le (by decide) hn) dX11_loose_21 ?_
      refine zz_iload_1 dX11_loose_24 ?_
      refine zz_iadd dX11_loose_25 ?_
      refine zz_ldc dX11_loose_26 ct_X11_204 ?_
      refine zz_icmp_le 37 dX11_loose_28 (by decide) (fun c_28 => ?_) (fun c_28 => ?_)
      · skip
        refine zz_iconst (0) dX11_loose_37 (by decide) ?_
        refine zz_istore_2 dX11_loose_38 rfl rfl ?_
        refine zz_iconst (0) dX11_loose_39 (by decide) ?_
        refine zz_istore_3 dX11_loose_40 rfl rfl ?_
        obtain ⟨b, hb0, hb8, eb⟩ := zz_in0 (lo := 1) (hi := 60) rfl rfl (by decide) (by decide) c_2 (fun z8 => absurd c_8 (Int32.not_le.mpr z8))
        obtain ⟨t0, ht00, ht0, et0⟩ := hW.1.1
        have htb : t0 + b ≤ 999999 := by
          rw [← x_s0 hx, et0, eb, nI_add] at c_28
          exact (nI_leI (a := t0 + b) (b := 999999) (by omega) (by omega)).mp c_28
        rw [sp_loose, if_neg (fun z9 => z9.elim c_2 (fun z8 => absurd c_8 (Int32.not_le.mpr z8))), if_pos (by rw [x_s0 hx]; exact c_28), eb, ix_w (by omega)] at h
        rw [eb]
        exact l_X11_loose (d := d) hx hW mw hmw hmw6 cw hcw hcw6 t0 b et0 hb8 htb h 61 0 g r (by omega) hx (fun _ _ _ => rfl) (by omega)
      · skip
        refine zz_aload_0 dX11_loose_31 ?_
        refine zz_iconst (3) dX11_loose_32 (by decide) ?_
        refine zz_callV1i cv_X11_86 rfl (Nat.lt_of_lt_of_le (by decide) hn) (Nat.le_of_ble_eq_true rfl) (by decide) (by decide) dX11_loose_33 (t_X11_error hn hr 3 rfl (by decide) ⟨_, rfl, ?_⟩)
        refine zz_iret rfl dX11_loose_36 (by decide) (by decide) ?_
        rw [sp_loose, if_neg (fun z9 => z9.elim c_2 (fun z8 => absurd c_8 (Int32.not_le.mpr z8))), if_neg (by rw [x_s0 hx]; exact c_28)] at h
        exact x_er hx (by decide) h
    · skip
      refine zz_aload_0 dX11_loose_11 ?_
      refine zz_iconst (1) dX11_loose_12 (by decide) ?_
      refine zz_callV1i cv_X11_86 rfl (Nat.lt_of_lt_of_le (by decide) hn) (Nat.le_of_ble_eq_true rfl) (by decide) (by decide) dX11_loose_13 (t_X11_error hn hr 1 rfl (by decide) ⟨_, rfl, ?_⟩)
      refine zz_iret rfl dX11_loose_16 (by decide) (by decide) ?_
      first
        | (rw [sp_loose, if_pos (Or.inl c_2)] at h; exact x_er hx (by decide) h)
        | (rw [sp_loose, if_pos (Or.inr (Int32.not_le.mp c_8))] at h; exact x_er hx (by decide) h)
