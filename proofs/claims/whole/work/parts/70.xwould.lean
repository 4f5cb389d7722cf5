theorem x_o.j {g g1 : zz_G} {Q : zz_Q} {sp : Int32 × zz_G} (h : x_o g Q sp) (e : xj g g1) : x_o g1 Q sp := fun g' r' n' hr hk => h g' r' n' hr (fun k h1 h2 => (hk k h1 h2).trans (e k (by omega)))
theorem sp_hfk_no {R : Nat → Int32} {w : Nat} {s : Int32} : ∀ f v, (∀ q, v ≤ q → q < v + f → ¬ sp_in R w s (nI q)) → sp_hfk R w s f v = v + f
  | 0, v, _ => rfl
  | f + 1, v, h => by
    rw [sp_hfk, if_neg (h v (Nat.le_refl _) (by omega)), sp_hfk_no f (v + 1) (fun q h1 h2 => h q (by omega) (by omega))]
    omega
set_option maxRecDepth 100000 in
set_option maxHeartbeats 4000000 in
theorem l_X11_holdFor {C : zz_C} {d n : Nat} {g : zz_G} {r : zz_R} {Q : zz_Q} {S : zz_G} (hx : x_rel S g r n) (hW : wr (S 51)) {l2 : Int32} (w : Nat) (hw : w < 6) (hE : ¬ S 51 0 + sp_sec (S 51) w (S 51 0) - 2 < S 51 14 ∧ sp_law (S 51) 1 (S 51 (16 + 5 * w + 2)) (S 51 8) (S 51 13) = 0) {K : Nat} (h : x_o g Q (if K ≤ 300 then (nI K, S) else sp_err S 2)) : ∀ (k : Nat) (q f : Nat), q + f = 301 → 1 ≤ q → sp_hfk (S 51) w (S 51 0) f q = K → 301 - q < k → zz_Z C mi_X11_holdFor (d + 5) 0 0 0 0 53 [some (.ref 0), some (.int (nI w)), some (.int l2), some (.int (sp_sec (S 51) w (S 51 0))), some (.int (nI q))] [] g r n Q := by
  intro k
  induction k with
  | zero => intro q f hqf hq1 hK hk; exact absurd hk (by omega)
  | succ k ih =>
    intro q f hqf hq1 hK hk
    have hn := hx.nn
    have hr := hx.1
    obtain ⟨t0, ht00, ht0, et0⟩ := hW.1.1
    refine zz_iload_4 dX11_holdFor_53 ?_
    refine zz_gs (i := 1) gz_1 gs_X11_83 dX11_holdFor_55 ?_
    refine zz_iconst (1) dX11_holdFor_58 (by decide) ?_
    refine zz_tald gt_1 1 (by decide) (by decide) (by decide) dX11_holdFor_59 ?_
    refine zz_icmp_gt 83 dX11_holdFor_60 (by decide) (fun c_60 => ?_) (fun c_60 => ?_)
    · skip
      refine zz_aload_0 dX11_holdFor_83 ?_
      refine zz_iconst (2) dX11_holdFor_84 (by decide) ?_
      refine zz_callV1i cv_X11_86 rfl (Nat.lt_of_lt_of_le (by decide) hn) (Nat.le_of_ble_eq_true rfl) (by decide) (by decide) dX11_holdFor_85 (t_X11_error hn hr 2 rfl (by decide) ⟨_, rfl, ?_⟩)
      refine zz_iret rfl dX11_holdFor_88 (by decide) (by decide) ?_
      have hq3 := (nI_ltI (a := 300) (b := q) (by omega) (by omega)).mp c_60
      obtain rfl : f = 0 := by omega
      rw [sp_hfk] at hK
      rw [if_neg (by omega)] at h
      exact x_er hx (by decide) h
    · skip
      have hq3 : q ≤ 300 := Nat.not_lt.mp fun z9 => c_60 (nI_lt (a := 300) (b := q) z9 (by omega))
      have key := sp_in_sec (t := t0) (a := q) (hW.2.1 w hw) (by omega) hq3
      rw [← et0] at key
      obtain ⟨f, rfl⟩ : ∃ f1, f = f1 + 1 := ⟨f - 1, by omega⟩
      rw [sp_hfk] at hK
      refine zz_iload_3 dX11_holdFor_63 ?_
      refine zz_aload_0 dX11_holdFor_64 ?_
      refine zz_iload_1 dX11_holdFor_65 ?_
      refine zz_iload_4 dX11_holdFor_66 ?_
      refine zz_callV2i cv_X11_117 rfl (Nat.lt_of_lt_of_le (by decide) hn) (Nat.le_of_ble_eq_true rfl) (by decide) (by decide) dX11_holdFor_68 (t_X11_lastsWith hx hW w hw rfl ⟨_, rfl, ?_⟩)
      refine zz_icmp_gt 77 dX11_holdFor_71 (by decide) (fun c_71 => ?_) (fun c_71 => ?_)
      · skip
        refine zz_iinc_4 (1) dX11_holdFor_77 rfl rfl (by decide) ?_
        refine zz_goto 53 dX11_holdFor_80 (by decide) ?_
        rw [if_neg (fun z9 => (key.mp z9).1 c_71)] at hK
        rw [nI_1]
        exact ih (q + 1) f (by omega) (by omega) hK (by omega)
      · skip
        refine zz_iload_4 dX11_holdFor_74 ?_
        refine zz_iret rfl dX11_holdFor_76 (by decide) (by decide) ?_
        rw [if_pos (key.mpr ⟨c_71, hE⟩)] at hK
        subst hK
        rw [if_pos hq3] at h
        exact h.e (x_F.rf hx)

set_option maxRecDepth 100000 in
set_option maxHeartbeats 4000000 in
theorem t_X11_holdFor {C : zz_C} {d n : Nat} {g : zz_G} {r : zz_R} {Q : zz_Q} {S : zz_G} (hx : x_rel S g r n) {v : Int32} (mw : Nat) (hmw : S 51 2 = nI mw) (hmw6 : mw ≤ 6) (hW : wr (S 51)) (h : x_o g Q (sp_holdFor S v)) : zz_T C mi_X11_holdFor (d + 5) 0 0 [.ref 0, .int v] g r n Q := by
  have hn := hx.nn
  have hr := hx.1
  have hmw1 : g 1 7 = nI mw := (x_s2 hx).symm.trans hmw
  obtain ⟨t0, ht00, ht0, et0⟩ := hW.1.1
  refine zz_T.of [some (.ref 0), some (.int v), none, none, none] (by decide +kernel) rfl (Nat.le_of_ble_eq_true rfl) ?_
  refine zz_aload_0 dX11_holdFor_0 ?_
  refine zz_iload_1 dX11_holdFor_1 ?_
  refine zz_callV1i cv_X11_189 rfl (Nat.lt_of_lt_of_le (by decide) hn) (Nat.le_of_ble_eq_true rfl) (by decide) (by decide) dX11_holdFor_2 (t_X11_refusalOfAsking hx hW mw hmw hmw6 (fun nw_2 => ⟨_, rfl, ?_⟩) (fun w_2 hw_2 ew_2 iw_2 l_2 => ⟨_, rfl, ?_⟩) (fun w_2 hw_2 ew_2 iw_2 l_2 => ⟨_, rfl, ?_⟩))
  · skip
    refine zz_istore_2 dX11_holdFor_5 rfl rfl ?_
    refine zz_iload_2 dX11_holdFor_6 ?_
    refine zz_if_eq 16 dX11_holdFor_7 (by decide) (fun h => absurd h (by decide)) (fun _ => ?_)
    refine zz_aload_0 dX11_holdFor_10 ?_
    refine zz_iload_2 dX11_holdFor_11 ?_
    refine zz_callV1i cv_X11_86 rfl (Nat.lt_of_lt_of_le (by decide) hn) (Nat.le_of_ble_eq_true rfl) (by decide) (by decide) dX11_holdFor_12 (t_X11_error hn hr 1 rfl (by decide) ⟨_, rfl, ?_⟩)
    refine zz_iret rfl dX11_holdFor_15 (by decide) (by decide) ?_
    first
      | (rw [sp_holdFor, if_pos nw_2] at h; exact x_er hx (by decide) h)
      | (rw [sp_holdFor, if_neg (fun z9 => z9 iw_2), ix_w (by omega), if_pos l_2] at h; exact x_er hx (by decide) h)
  · skip
    subst ew_2
    refine zz_istore_2 dX11_holdFor_5 rfl rfl ?_
    refine zz_iload_2 dX11_holdFor_6 ?_
    refine zz_if_eq 16 dX11_holdFor_7 (by decide) (fun h => absurd h (by decide)) (fun _ => ?_)
    refine zz_aload_0 dX11_holdFor_10 ?_
    refine zz_iload_2 dX11_holdFor_11 ?_
    refine zz_callV1i cv_X11_86 rfl (Nat.lt_of_lt_of_le (by decide) hn) (Nat.le_of_ble_eq_true rfl) (by decide) (by decide) dX11_holdFor_12 (t_X11_error hn hr 3 rfl (by decide) ⟨_, rfl, ?_⟩)
    refine zz_iret rfl dX11_holdFor_15 (by decide) (by decide) ?_
    first
      | (rw [sp_holdFor, if_pos nw_2] at h; exact x_er hx (by decide) h)
      | (rw [sp_holdFor, if_neg (fun z9 => z9 iw_2), ix_w (by omega), if_pos l_2] at h; exact x_er hx (by decide) h)
  · skip
    subst ew_2
    refine zz_istore_2 dX11_holdFor_5 rfl rfl ?_
    refine zz_iload_2 dX11_holdFor_6 ?_
    refine zz_if_eq 16 dX11_holdFor_7 (by decide) (fun _ => ?_) (fun h => absurd h (by decide))
    refine zz_aload_0 dX11_holdFor_16 ?_
    refine zz_iload_1 dX11_holdFor_17 ?_
    refine zz_aload_0 dX11_holdFor_18 ?_
    refine zz_getR fl_X11_10 rfl rfl (Nat.lt_of_lt_of_le (by decide) hn) (xr_0_0 hr) dX11_holdFor_19 ?_
    refine zz_getI fl_X11_110 rfl rfl (Nat.lt_of_lt_of_le (by decide) hn) dX11_holdFor_22 ?_
    refine zz_callV2i cv_X11_239 rfl (Nat.lt_of_lt_of_le (by decide) hn) (Nat.le_of_ble_eq_true rfl) (by decide) (by decide) dX11_holdFor_25 (t_X11_secondsToEnter hx hW w_2 hw_2 rfl (fun g1_25 j1_25 => ⟨_, rfl, ?_⟩))
    have hx2 := hx.j j1_25
    rw [← x_s0 hx]
    refine zz_istore_3 dX11_holdFor_28 rfl rfl ?_
    refine zz_aload_0 dX11_holdFor_29 ?_
    refine zz_iload_1 dX11_holdFor_30 ?_
    refine zz_aload_0 dX11_holdFor_31 ?_
    refine zz_getR fl_X11_10 rfl rfl (Nat.lt_of_lt_of_le (by decide) hn) (xr_0_0 hr) dX11_holdFor_32 ?_
    refine zz_getI fl_X11_110 rfl rfl (Nat.lt_of_lt_of_le (by decide) hn) dX11_holdFor_35 ?_
    refine zz_iload_3 dX11_holdFor_38 ?_
    refine zz_iadd dX11_holdFor_39 ?_
    refine zz_callV2i cv_X11_245 rfl (Nat.lt_of_lt_of_le (by decide) hn) (Nat.le_of_ble_eq_true rfl) (by decide) (by decide) dX11_holdFor_40 (t_X11_isEntered hx2 hW w_2 hw_2 rfl (fun e_40 l_40 g1_40 j1_40 => ⟨_, rfl, ?_⟩) (fun e_40 g1_40 j1_40 => ⟨_, rfl, ?_⟩))
    · skip
      rw [← x_s0 hx2] at e_40
      rw [sp_holdFor, if_neg (fun z9 => z9 iw_2), ix_w (by omega), if_neg l_2] at h
      refine zz_if_eq 83 dX11_holdFor_43 (by decide) (fun h => absurd h (by decide)) (fun _ => ?_)
      refine zz_gs (i := 0) gz_0 gs_X11_80 dX11_holdFor_46 ?_
      refine zz_iconst (1) dX11_holdFor_49 (by decide) ?_
      refine zz_tald gt_0 1 (by decide) (by decide) (by decide) dX11_holdFor_50 ?_
      refine zz_istore_4 dX11_holdFor_51 rfl rfl ?_
      exact l_X11_holdFor (d := d) (hx2.j j1_40) hW w_2 hw_2 ⟨e_40, l_40⟩ ((h.j j1_25).j j1_40) 301 1 300 (by omega) (by omega) rfl (by omega)
    · skip
      rw [← x_s0 hx2] at e_40
      rw [sp_holdFor, if_neg (fun z9 => z9 iw_2), ix_w (by omega), if_neg l_2] at h
      refine zz_if_eq 83 dX11_holdFor_43 (by decide) (fun _ => ?_) (fun h => absurd h (by decide))
      refine zz_aload_0 dX11_holdFor_83 ?_
      refine zz_iconst (2) dX11_holdFor_84 (by decide) ?_
      refine zz_callV1i cv_X11_86 rfl (Nat.lt_of_lt_of_le (by decide) hn) (Nat.le_of_ble_eq_true rfl) (by decide) (by decide) dX11_holdFor_85 (t_X11_error hn hr 2 rfl (by decide) ⟨_, rfl, ?_⟩)
      refine zz_iret rfl dX11_holdFor_88 (by decide) (by decide) ?_
      rw [sp_hfk_no 300 1 (fun q h1 h2 z9 => e_40 (by
        have key := sp_in_sec (t := t0) (a := q) (hW.2.1 w_2 hw_2) (by omega) (by omega)
        rw [← et0] at key
        exact (key.mp z9).2)), if_neg (by omega)] at h
      have h := (h.j j1_25).j j1_40
      have hx := hx2.j j1_40
      exact x_er hx (by decide) h

set_option maxRecDepth 100000 in
set_option maxHeartbeats 4000000 in
theorem l_X11_fastest {C : zz_C} {d n : Nat} {g : zz_G} {r : zz_R} {Q : zz_Q} {S : zz_G} (hx : x_rel S g r n) (hW : wr (S 51)) (mw : Nat) (hmw : S 51 2 = nI mw) (hmw6 : mw ≤ 6) {what : Int32} (h : x_o g Q (if 0 ≤ (sp_fs (S 51) mw).1 then (if what = 0 then (sp_fs (S 51) mw).1 else (sp_fs (S 51) mw).2, S) else sp_err S 2)) : ∀ (k : Nat) (q : Nat) (g1 : zz_G) (l5 : Option Value), q ≤ mw → xj g g1 → mw - q < k → zz_Z C mi_X11_fastest (d + 6) 0 0 0 0 21 [some (.ref 0), some (.int what), some (.int (sp_fs (S 51) q).1), some (.int (sp_fs (S 51) q).2), some (.int (nI q)), l5] [] g1 r n Q := by
  intro k
  induction k with
  | zero => intro q g1 l5 hq hj hk; exact absurd hk (by omega)
  | succ k ih =>
    intro q g1 l5 hq hj hk
    have hn := hx.nn
    have hr := hx.1
    have hx1 := hx.j hj
    have hmw1 : g1 1 7 = nI mw := (x_s2 hx1).symm.trans hmw
    obtain ⟨t0, ht00, ht0, et0⟩ := hW.1.1
    refine zz_iload_4 dX11_fastest_21 ?_
    refine zz_aload_0 dX11_fastest_23 ?_
    refine zz_getR fl_X11_10 rfl rfl (Nat.lt_of_lt_of_le (by decide) hn) (xr_0_0 hr) dX11_fastest_24 ?_
    refine zz_getI fl_X11_101 rfl rfl (Nat.lt_of_lt_of_le (by decide) hn) dX11_fastest_27 ?_
    refine zz_icmp_ge 95 dX11_fastest_30 (by decide) (fun c_30 => ?_) (fun c_30 => ?_)
    · skip
      rw [hmw1] at c_30
      have := zz_gei c_30 (by omega) (by omega)
      obtain rfl : q = mw := by omega
      have h := h.j hj
      have hx := hx1
      refine zz_iload_2 dX11_fastest_95 ?_
      refine zz_if_ge 105 dX11_fastest_96 (by decide) (fun c_96 => ?_) (fun c_96 => ?_)
      · skip
        refine zz_iload_1 dX11_fastest_105 ?_
        refine zz_if_ne 113 dX11_fastest_106 (by decide) (fun c_106 => ?_) (fun c_106 => ?_)
        · skip
          refine zz_iload_3 dX11_fastest_113 ?_
          refine zz_iret rfl dX11_fastest_114 (by decide) (by decide) ?_
          rw [if_pos c_96] at h
          first
            | (rw [if_pos c_106] at h; exact h.e (x_F.rf hx))
            | (rw [if_neg c_106] at h; exact h.e (x_F.rf hx))
        · skip
          refine zz_iload_2 dX11_fastest_109 ?_
          refine zz_goto 114 dX11_fastest_110 (by decide) ?_
          refine zz_iret rfl dX11_fastest_114 (by decide) (by decide) ?_
          rw [if_pos c_96] at h
          first
            | (rw [if_pos c_106] at h; exact h.e (x_F.rf hx))
            | (rw [if_neg c_106] at h; exact h.e (x_F.rf hx))
      · skip
        refine zz_aload_0 dX11_fastest_99 ?_
        refine zz_iconst (2) dX11_fastest_100 (by decide) ?_
        refine zz_callV1i cv_X11_86 rfl (Nat.lt_of_lt_of_le (by decide) hn) (Nat.le_of_ble_eq_true rfl) (by decide) (by decide) dX11_fastest_101 (t_X11_error hn hr 2 rfl (by decide) ⟨_, rfl, ?_⟩)
        refine zz_iret rfl dX11_fastest_104 (by decide) (by decide) ?_
        rw [if_neg c_96] at h
        exact x_er hx (by decide) h
    · skip
      rw [hmw1] at c_30
      have hlt := zz_lti c_30 (by omega) (by omega)
      refine zz_aload_0 dX11_fastest_33 ?_
      refine zz_iload_4 dX11_fastest_34 ?_
      refine zz_callV1i cv_X11_225 rfl (Nat.lt_of_lt_of_le (by decide) hn) (Nat.le_of_ble_eq_true rfl) (by decide) (by decide) dX11_fastest_36 (t_X11_isLost hn hr q (by omega) rfl (fun c_36 => ⟨_, rfl, ?_⟩) (fun c_36 => ⟨_, rfl, ?_⟩))
      · skip
        refine zz_if_ne 89 dX11_fastest_39 (by decide) (fun _ => ?_) (fun h => absurd h (by decide))
        refine zz_iinc_4 (1) dX11_fastest_89 rfl rfl (by decide) ?_
        refine zz_goto 21 dX11_fastest_92 (by decide) ?_
        rw [show sp_fs (S 51) q = sp_fs (S 51) (q + 1) from (sp_fs_n (fun z9 => absurd z9.1 (by rw [x_wy hx1 (by omega) (by decide)]; exact c_36))).symm, nI_1]
        exact ih (q + 1) _ _ (by omega) hj (by omega)
      · skip
        refine zz_if_ne 89 dX11_fastest_39 (by decide) (fun h => absurd h (by decide)) (fun _ => ?_)
        refine zz_aload_0 dX11_fastest_42 ?_
        refine zz_iload_4 dX11_fastest_43 ?_
        refine zz_aload_0 dX11_fastest_45 ?_
        refine zz_getR fl_X11_10 rfl rfl (Nat.lt_of_lt_of_le (by decide) hn) (xr_0_0 hr) dX11_fastest_46 ?_
        refine zz_getI fl_X11_110 rfl rfl (Nat.lt_of_lt_of_le (by decide) hn) dX11_fastest_49 ?_
        refine zz_callV2i cv_X11_242 rfl (Nat.lt_of_lt_of_le (by decide) hn) (Nat.le_of_ble_eq_true rfl) (by decide) (by decide) dX11_fastest_52 (t_X11_getsIn hx1 hW q t0 (by omega) rfl (by rw [← x_s0 hx1]; exact et0) (by omega) (fun y_52 g1_52 j1_52 => ⟨_, rfl, ?_⟩) (fun y_52 g1_52 j1_52 => ⟨_, rfl, ?_⟩))
        · skip
          rw [← x_s0 hx1] at y_52
          have hx2 := hx1.j j1_52
          refine zz_if_eq 89 dX11_fastest_55 (by decide) (fun h => absurd h (by decide)) (fun _ => ?_)
          refine zz_aload_0 dX11_fastest_58 ?_
          refine zz_iload_4 dX11_fastest_59 ?_
          refine zz_aload_0 dX11_fastest_61 ?_
          refine zz_getR fl_X11_10 rfl rfl (Nat.lt_of_lt_of_le (by decide) hn) (xr_0_0 hr) dX11_fastest_62 ?_
          refine zz_getI fl_X11_110 rfl rfl (Nat.lt_of_lt_of_le (by decide) hn) dX11_fastest_65 ?_
          refine zz_callV2i cv_X11_239 rfl (Nat.lt_of_lt_of_le (by decide) hn) (Nat.le_of_ble_eq_true rfl) (by decide) (by decide) dX11_fastest_68 (t_X11_secondsToEnter hx2 hW q (by omega) rfl (fun g1_68 j1_68 => ⟨_, rfl, ?_⟩))
          rw [← x_s0 hx2]
          refine zz_istore_5 dX11_fastest_71 rfl rfl ?_
          refine zz_iload_2 dX11_fastest_73 ?_
          refine zz_if_lt 83 dX11_fastest_74 (by decide) (fun c_74 => ?_) (fun c_74 => ?_)
          · skip
            refine zz_iload_4 dX11_fastest_83 ?_
            refine zz_istore_2 dX11_fastest_85 rfl rfl ?_
            refine zz_iload_5 dX11_fastest_86 ?_
            refine zz_istore_3 dX11_fastest_88 rfl rfl ?_
            refine zz_iinc_4 (1) dX11_fastest_89 rfl rfl (by decide) ?_
            refine zz_goto 21 dX11_fastest_92 (by decide) ?_
            have e9 := sp_fs_y (R := S 51) (w := q) ⟨by rw [x_wy hx1 (by omega) (by decide)]; exact c_36, y_52, Or.inl c_74⟩
            rw [sp_takes_sec hW (by omega)] at e9
            have ih9 := ih (q + 1) _ (some (.int (sp_sec (S 51) q (S 51 0)))) (by omega) ((hj.tr j1_52).tr j1_68) (by omega)
            rw [e9] at ih9
            rw [nI_1]
            exact ih9
          · skip
            refine zz_iload_5 dX11_fastest_77 ?_
            refine zz_iload_3 dX11_fastest_79 ?_
            refine zz_icmp_ge 89 dX11_fastest_80 (by decide) (fun c_80 => ?_) (fun c_80 => ?_)
            · skip
              refine zz_iinc_4 (1) dX11_fastest_89 rfl rfl (by decide) ?_
              refine zz_goto 21 dX11_fastest_92 (by decide) ?_
              first
                | (rw [show sp_fs (S 51) q = sp_fs (S 51) (q + 1) from (sp_fs_n (fun z9 => z9.2.2.elim c_74 (fun z8 => z8 (by rw [sp_takes_sec hW (by omega)]; exact c_80)))).symm, nI_1]
                   exact ih (q + 1) _ _ (by omega) ((hj.tr j1_52).tr j1_68) (by omega))
                | (have e9 := sp_fs_y (R := S 51) (w := q) ⟨by rw [x_wy hx1 (by omega) (by decide)]; exact c_36, y_52, Or.inr (by rw [sp_takes_sec hW (by omega)]; exact c_80)⟩
                   rw [sp_takes_sec hW (by omega)] at e9
                   have ih9 := ih (q + 1) _ (some (.int (sp_sec (S 51) q (S 51 0)))) (by omega) ((hj.tr j1_52).tr j1_68) (by omega)
                   rw [e9] at ih9
                   rw [nI_1]
                   exact ih9)
            · skip
              refine zz_iload_4 dX11_fastest_83 ?_
              refine zz_istore_2 dX11_fastest_85 rfl rfl ?_
              refine zz_iload_5 dX11_fastest_86 ?_
              refine zz_istore_3 dX11_fastest_88 rfl rfl ?_
              refine zz_iinc_4 (1) dX11_fastest_89 rfl rfl (by decide) ?_
              refine zz_goto 21 dX11_fastest_92 (by decide) ?_
              first
                | (rw [show sp_fs (S 51) q = sp_fs (S 51) (q + 1) from (sp_fs_n (fun z9 => z9.2.2.elim c_74 (fun z8 => z8 (by rw [sp_takes_sec hW (by omega)]; exact c_80)))).symm, nI_1]
                   exact ih (q + 1) _ _ (by omega) ((hj.tr j1_52).tr j1_68) (by omega))
                | (have e9 := sp_fs_y (R := S 51) (w := q) ⟨by rw [x_wy hx1 (by omega) (by decide)]; exact c_36, y_52, Or.inr (by rw [sp_takes_sec hW (by omega)]; exact c_80)⟩
                   rw [sp_takes_sec hW (by omega)] at e9
                   have ih9 := ih (q + 1) _ (some (.int (sp_sec (S 51) q (S 51 0)))) (by omega) ((hj.tr j1_52).tr j1_68) (by omega)
                   rw [e9] at ih9
                   rw [nI_1]
                   exact ih9)
        · skip
          rw [← x_s0 hx1] at y_52
          have hx2 := hx1.j j1_52
          refine zz_if_eq 89 dX11_fastest_55 (by decide) (fun _ => ?_) (fun h => absurd h (by decide))
          refine zz_iinc_4 (1) dX11_fastest_89 rfl rfl (by decide) ?_
          refine zz_goto 21 dX11_fastest_92 (by decide) ?_
          rw [show sp_fs (S 51) q = sp_fs (S 51) (q + 1) from (sp_fs_n (fun z9 => y_52 z9.2.1)).symm, nI_1]
          exact ih (q + 1) _ _ (by omega) (hj.tr j1_52) (by omega)

set_option maxRecDepth 100000 in
set_option maxHeartbeats 4000000 in
theorem t_X11_fastest {C : zz_C} {d n : Nat} {g : zz_G} {r : zz_R} {Q : zz_Q} {S : zz_G} (hx : x_rel S g r n) {what : Int32} (mw : Nat) (hmw : S 51 2 = nI mw) (hmw6 : mw ≤ 6) (hW : wr (S 51)) (h : x_o g Q (sp_fastest S what)) : zz_T C mi_X11_fastest (d + 6) 0 0 [.ref 0, .int what] g r n Q := by
  have hn := hx.nn
  have hr := hx.1
  refine zz_T.of [some (.ref 0), some (.int what), none, none, none, none] (by decide +kernel) rfl (Nat.le_of_ble_eq_true rfl) ?_
  refine zz_iload_1 dX11_fastest_0 ?_
  refine zz_iconst (1) dX11_fastest_1 (by decide) ?_
  refine zz_callS2i cs_X11_93 (Nat.le_of_ble_eq_true rfl) (by decide) (by decide) dX11_fastest_2 (t_X11_within (fun a_2 b_2 => ⟨_, rfl, ?_⟩) (fun o_2 => ⟨_, rfl, ?_⟩))
  · skip
    refine zz_if_ne 14 dX11_fastest_5 (by decide) (fun _ => ?_) (fun h => absurd h (by decide))
    refine zz_iconst (-1) dX11_fastest_14 (by decide) ?_
    refine zz_istore_2 dX11_fastest_15 rfl rfl ?_
    refine zz_iconst (0) dX11_fastest_16 (by decide) ?_
    refine zz_istore_3 dX11_fastest_17 rfl rfl ?_
    refine zz_iconst (0) dX11_fastest_18 (by decide) ?_
    refine zz_istore_4 dX11_fastest_19 rfl rfl ?_
    rw [sp_fastest, if_neg (fun z9 => z9.elim a_2 b_2), hmw, ix_w (by omega)] at h
    exact l_X11_fastest (d := d) hx hW mw hmw hmw6 h 8 0 g _ (by omega) xj.rf (by omega)
  · skip
    refine zz_if_ne 14 dX11_fastest_5 (by decide) (fun h => absurd h (by decide)) (fun _ => ?_)
    refine zz_aload_0 dX11_fastest_8 ?_
    refine zz_iconst (1) dX11_fastest_9 (by decide) ?_
    refine zz_callV1i cv_X11_86 rfl (Nat.lt_of_lt_of_le (by decide) hn) (Nat.le_of_ble_eq_true rfl) (by decide) (by decide) dX11_fastest_10 (t_X11_error hn hr 1 rfl (by decide) ⟨_, rfl, ?_⟩)
    refine zz_iret rfl dX11_fastest_13 (by decide) (by decide) ?_
    rw [sp_fastest, if_pos o_2] at h
    exact x_er hx (by decide) h

set_option maxRecDepth 100000 in
set_option maxHeartbeats 4000000 in
theorem l_X11_tens {C : zz_C} {d n : Nat} {g : zz_G} {r : zz_R} {Q : zz_Q} {m : Int32} (f : Nat) (hf : f ≤ 6) (em : m = nI f) (h : Q (some (.int (sp_tn f))) g r n) : ∀ (k : Nat) (q : Nat), q ≤ f → f - q < k → zz_Z C mi_X11_tens d 0 0 0 0 4 [some (.int m), some (.int (sp_tn q)), some (.int (nI q))] [] g r n Q := by
  intro k
  induction k with
  | zero => intro q hq hk; exact absurd hk (by omega)
  | succ k ih =>
    intro q hq hk
    refine zz_iload_2 dX11_tens_4 ?_
    refine zz_iload_0 dX11_tens_5 ?_
    refine zz_icmp_ge 20 dX11_tens_6 (by decide) (fun c_6 => ?_) (fun c_6 => ?_)
    · skip
      refine zz_iload_1 dX11_tens_20 ?_
      refine zz_iret rfl dX11_tens_21 (by decide) (by decide) ?_
      rw [em] at c_6
      have := zz_gei c_6 (by omega) (by omega)
      obtain rfl : q = f := by omega
      exact h
    · skip
      rw [em] at c_6
      have hlt := zz_lti c_6 (by omega) (by omega)
      refine zz_iload_1 dX11_tens_9 ?_
      refine zz_bipush (10) dX11_tens_10 (by decide) ?_
      refine zz_imul dX11_tens_12 ?_
      refine zz_istore_1 dX11_tens_13 rfl rfl ?_
      refine zz_iinc_2 (1) dX11_tens_14 rfl rfl (by decide) ?_
      refine zz_goto 4 dX11_tens_17 (by decide) ?_
      rw [nI_1]
      exact ih (q + 1) (by omega) (by omega)

set_option maxRecDepth 100000 in
set_option maxHeartbeats 4000000 in
theorem t_X11_tens {C : zz_C} {d n : Nat} {g : zz_G} {r : zz_R} {Q : zz_Q} {m : Int32} (f : Nat) (hf : f ≤ 6) (em : m = nI f) (h : Q (some (.int (sp_tn f))) g r n) : zz_T C mi_X11_tens d 0 0 [.int m] g r n Q := by
  refine zz_T.of [some (.int m), none, none] (by decide +kernel) rfl (Nat.le_of_ble_eq_true rfl) ?_
  refine zz_iconst (1) dX11_tens_0 (by decide) ?_
  refine zz_istore_1 dX11_tens_1 rfl rfl ?_
  refine zz_iconst (0) dX11_tens_2 (by decide) ?_
  refine zz_istore_2 dX11_tens_3 rfl rfl ?_
  exact l_X11_tens f hf em h 7 0 (by omega) (by omega)

set_option maxRecDepth 100000 in
set_option maxHeartbeats 4000000 in
theorem l_X11_figuresFor {C : zz_C} {d n : Nat} {g : zz_G} {r : zz_R} {Q : zz_Q} {S : zz_G} (hx : x_rel S g r n) {v : Int32} {K : Nat} (h : x_o g Q (if K ≤ 6 then (nI K, S) else sp_err S 2)) : ∀ (k : Nat) (q f : Nat), q + f = 7 → 1 ≤ q → sp_ffk (S 51) v f q = K → 7 - q < k → zz_Z C mi_X11_figuresFor (d + 1) 0 0 0 0 23 [some (.ref 0), some (.int v), some (.int (nI q))] [] g r n Q := by
  intro k
  induction k with
  | zero => intro q f hqf hq1 hK hk; exact absurd hk (by omega)
  | succ k ih =>
    intro q f hqf hq1 hK hk
    have hn := hx.nn
    have hr := hx.1
    refine zz_iload_2 dX11_figuresFor_23 ?_
    refine zz_gs (i := 1) gz_1 gs_X11_83 dX11_figuresFor_24 ?_
    refine zz_iconst (0) dX11_figuresFor_27 (by decide) ?_
    refine zz_tald gt_1 0 (by decide) (by decide) (by decide) dX11_figuresFor_28 ?_
    refine zz_icmp_gt 58 dX11_figuresFor_29 (by decide) (fun c_29 => ?_) (fun c_29 => ?_)
    · skip
      refine zz_aload_0 dX11_figuresFor_58 ?_
      refine zz_iconst (2) dX11_figuresFor_59 (by decide) ?_
      refine zz_callV1i cv_X11_86 rfl (Nat.lt_of_lt_of_le (by decide) hn) (Nat.le_of_ble_eq_true rfl) (by decide) (by decide) dX11_figuresFor_60 (t_X11_error hn hr 2 rfl (by decide) ⟨_, rfl, ?_⟩)
      refine zz_iret rfl dX11_figuresFor_63 (by decide) (by decide) ?_
      have hq3 := (nI_ltI (a := 6) (b := q) (by omega) (by omega)).mp c_29
      obtain rfl : f = 0 := by omega
      rw [sp_ffk] at hK
      rw [if_neg (by omega)] at h
      exact x_er hx (by decide) h
    · skip
      have hq3 : q ≤ 6 := Nat.not_lt.mp fun z9 => c_29 (nI_lt (a := 6) (b := q) z9 (by omega))
      obtain ⟨f, rfl⟩ : ∃ f1, f = f1 + 1 := ⟨f - 1, by omega⟩
      rw [sp_ffk] at hK
      refine zz_aload_0 dX11_figuresFor_32 ?_
      refine zz_getR fl_X11_10 rfl rfl (Nat.lt_of_lt_of_le (by decide) hn) (xr_0_0 hr) dX11_figuresFor_33 ?_
      refine zz_getR fl_X11_90 rfl rfl (Nat.lt_of_lt_of_le (by decide) hn) (xr_1_0 hr) dX11_figuresFor_36 ?_
      refine zz_iconst (2) dX11_figuresFor_39 (by decide) ?_
      refine zz_iald 2 (by decide) (by decide) (by decide) rfl (Nat.lt_of_lt_of_le (by decide) hn) dX11_figuresFor_40 ?_
      refine zz_iload_1 dX11_figuresFor_41 ?_
      refine zz_imul dX11_figuresFor_42 ?_
      refine zz_iload_2 dX11_figuresFor_43 ?_
      refine zz_callS1i cs_X11_236 (Nat.le_of_ble_eq_true rfl) (by decide) (by decide) dX11_figuresFor_44 (t_X11_tens q (by omega) rfl ⟨_, rfl, ?_⟩)
      refine zz_icmp_gt 52 dX11_figuresFor_47 (by decide) (fun c_47 => ?_) (fun c_47 => ?_)
      · skip
        refine zz_iinc_2 (1) dX11_figuresFor_52 rfl rfl (by decide) ?_
        refine zz_goto 23 dX11_figuresFor_55 (by decide) ?_
        rw [if_neg (by rw [x_s10 hx]; exact Int32.not_le.mpr c_47)] at hK
        rw [nI_1]
        exact ih (q + 1) f (by omega) (by omega) hK (by omega)
      · skip
        refine zz_iload_2 dX11_figuresFor_50 ?_
        refine zz_iret rfl dX11_figuresFor_51 (by decide) (by decide) ?_
        rw [if_pos (by rw [x_s10 hx]; exact Int32.not_lt.mp c_47)] at hK
        subst hK
        rw [if_pos hq3] at h
        exact h.e (x_F.rf hx)

set_option maxRecDepth 100000 in
set_option maxHeartbeats 4000000 in
theorem t_X11_figuresFor {C : zz_C} {d n : Nat} {g : zz_G} {r : zz_R} {Q : zz_Q} {S : zz_G} (hx : x_rel S g r n) {v : Int32}  (h : x_o g Q (sp_figuresFor S v)) : zz_T C mi_X11_figuresFor (d + 1) 0 0 [.ref 0, .int v] g r n Q := by
  have hn := hx.nn
  have hr := hx.1
  refine zz_T.of [some (.ref 0), some (.int v), none] (by decide +kernel) rfl (Nat.le_of_ble_eq_true rfl) ?_
  refine zz_iload_1 dX11_figuresFor_0 ?_
  refine zz_iconst (1) dX11_figuresFor_1 (by decide) ?_
  refine zz_icmp_lt 11 dX11_figuresFor_2 (by decide) (fun c_2 => ?_) (fun c_2 => ?_)
  · skip
    refine zz_aload_0 dX11_figuresFor_11 ?_
    refine zz_iconst (1) dX11_figuresFor_12 (by decide) ?_
    refine zz_callV1i cv_X11_86 rfl (Nat.lt_of_lt_of_le (by decide) hn) (Nat.le_of_ble_eq_true rfl) (by decide) (by decide) dX11_figuresFor_13 (t_X11_error hn hr 1 rfl (by decide) ⟨_, rfl, ?_⟩)
    refine zz_iret rfl dX11_figuresFor_16 (by decide) (by decide) ?_
    first
      | (rw [sp_figuresFor, if_pos (Or.inl c_2)] at h; exact x_er hx (by decide) h)
      | (rw [sp_figuresFor, if_pos (Or.inr (Int32.not_le.mp c_8))] at h; exact x_er hx (by decide) h)
  · skip
    refine zz_iload_1 dX11_figuresFor_5 ?_
    refine zz_ldc dX11_figuresFor_6 ct_X11_204 ?_
    refine zz_icmp_le 17 dX11_figuresFor_8 (by decide) (fun c_8 => ?_) (fun c_8 => ?_)
    · skip
      refine zz_gs (i := 0) gz_0 gs_X11_80 dX11_figuresFor_17 ?_
      refine zz_iconst (0) dX11_figuresFor_20 (by decide) ?_
      refine zz_tald gt_0 0 (by decide) (by decide) (by decide) dX11_figuresFor_21 ?_
      refine zz_istore_2 dX11_figuresFor_22 rfl rfl ?_
      rw [sp_figuresFor, if_neg (fun z9 => z9.elim c_2 (fun z8 => absurd c_8 (Int32.not_le.mpr z8)))] at h
      exact l_X11_figuresFor (d := d) hx h 8 1 6 (by omega) (by omega) rfl (by omega)
    · skip
      refine zz_aload_0 dX11_figuresFor_11 ?_
      refine zz_iconst (1) dX11_figuresFor_12 (by decide) ?_
      refine zz_callV1i cv_X11_86 rfl (Nat.lt_of_lt_of_le (by decide) hn) (Nat.le_of_ble_eq_true rfl) (by decide) (by decide) dX11_figuresFor_13 (t_X11_error hn hr 1 rfl (by decide) ⟨_, rfl, ?_⟩)
      refine zz_iret rfl dX11_figuresFor_16 (by decide) (by decide) ?_
      first
        | (rw [sp_figuresFor, if_pos (Or.inl c_2)] at h; exact x_er hx (by decide) h)
        | (rw [sp_figuresFor, if_pos (Or.inr (Int32.not_le.mp c_8))] at h; exact x_er hx (by decide) h)

set_option maxRecDepth 100000 in
set_option maxHeartbeats 4000000 in
theorem l_X11_partOfFraction {C : zz_C} {d n : Nat} {g : zz_G} {r : zz_R} {Q : zz_Q} {x y p : Int32} (a b : Nat) (ha : a ≤ 60) (hb0 : 0 < b) (hb : b ≤ 1000000) (ex : x = nI a) (ey : y = nI b) (h : Q (some (.int (if p = 0 then nI a / nI (Nat.gcd a b) else nI b / nI (Nat.gcd a b)))) g r n) : ∀ (k : Nat) (q u v : Nat) (l6 : Option Value), q + v ≤ 60 → u ≤ 1000000 → Nat.gcd v u = Nat.gcd a b → 61 - q < k → zz_Z C mi_X11_partOfFraction d 0 0 0 0 8 [some (.int x), some (.int y), some (.int p), some (.int (nI u)), some (.int (nI v)), some (.int (nI q)), l6] [] g r n Q := by
  intro k
  induction k with
  | zero => intro q u v l6 hq hu hg hk; exact absurd hk (by omega)
  | succ k ih =>
    intro q u v l6 hq hu hg hk
    refine zz_iload_5 dX11_partOfFraction_8 ?_
    refine zz_bipush (64) dX11_partOfFraction_10 (by decide) ?_
    refine zz_icmp_ge 39 dX11_partOfFraction_12 (by decide) (fun c_12 => ?_) (fun c_12 => ?_)
    · skip
      exact absurd ((nI_leI (a := 64) (b := q) (by omega) (by omega)).mp c_12) (by omega)
    · skip
      refine zz_iload_4 dX11_partOfFraction_15 ?_
      refine zz_if_eq 39 dX11_partOfFraction_17 (by decide) (fun c_17 => ?_) (fun c_17 => ?_)
      · skip
        obtain rfl : v = 0 := Nat.eq_zero_of_not_pos fun z9 => nI_ne0 z9 (by omega) c_17
        rw [Nat.gcd_zero_left] at hg
        have hu0 : 0 < u := by rw [hg]; exact Nat.gcd_pos_of_pos_right a hb0
        rw [← hg, ← ex, ← ey] at h
        refine zz_iload_2 dX11_partOfFraction_39 ?_
        refine zz_if_ne 47 dX11_partOfFraction_40 (by decide) (fun c_40 => ?_) (fun c_40 => ?_)
        · skip
          refine zz_iload_1 dX11_partOfFraction_47 ?_
          refine zz_istore_5 dX11_partOfFraction_48 rfl rfl ?_
          refine zz_iload_3 dX11_partOfFraction_50 ?_
          refine zz_if_ne 59 dX11_partOfFraction_51 (by decide) (fun c_51 => ?_) (fun c_51 => ?_)
          · skip
            refine zz_iload_5 dX11_partOfFraction_59 ?_
            refine zz_iload_3 dX11_partOfFraction_61 ?_
            refine zz_idiv dX11_partOfFraction_62 c_51 ?_
            refine zz_iret rfl dX11_partOfFraction_63 (by decide) (by decide) ?_
            first
              | exact absurd c_51 (nI_ne0 hu0 (by omega))
              | (rw [if_pos c_40] at h; exact h)
              | (rw [if_neg c_40] at h; exact h)
          · skip
            refine zz_iload_5 dX11_partOfFraction_54 ?_
            refine zz_goto 63 dX11_partOfFraction_56 (by decide) ?_
            refine zz_iret rfl dX11_partOfFraction_63 (by decide) (by decide) ?_
            first
              | exact absurd c_51 (nI_ne0 hu0 (by omega))
              | (rw [if_pos c_40] at h; exact h)
              | (rw [if_neg c_40] at h; exact h)
        · skip
          refine zz_iload_0 dX11_partOfFraction_43 ?_
          refine zz_goto 48 dX11_partOfFraction_44 (by decide) ?_
          refine zz_istore_5 dX11_partOfFraction_48 rfl rfl ?_
          refine zz_iload_3 dX11_partOfFraction_50 ?_
          refine zz_if_ne 59 dX11_partOfFraction_51 (by decide) (fun c_51 => ?_) (fun c_51 => ?_)
          · skip
            refine zz_iload_5 dX11_partOfFraction_59 ?_
            refine zz_iload_3 dX11_partOfFraction_61 ?_
            refine zz_idiv dX11_partOfFraction_62 c_51 ?_
            refine zz_iret rfl dX11_partOfFraction_63 (by decide) (by decide) ?_
            first
              | exact absurd c_51 (nI_ne0 hu0 (by omega))
              | (rw [if_pos c_40] at h; exact h)
              | (rw [if_neg c_40] at h; exact h)
          · skip
            refine zz_iload_5 dX11_partOfFraction_54 ?_
            refine zz_goto 63 dX11_partOfFraction_56 (by decide) ?_
            refine zz_iret rfl dX11_partOfFraction_63 (by decide) (by decide) ?_
            first
              | exact absurd c_51 (nI_ne0 hu0 (by omega))
              | (rw [if_pos c_40] at h; exact h)
              | (rw [if_neg c_40] at h; exact h)
      · skip
        refine zz_iload_3 dX11_partOfFraction_20 ?_
        refine zz_iload_4 dX11_partOfFraction_21 ?_
        have hv0 : 0 < v := Nat.pos_of_ne_zero fun z9 => c_17 (by rw [z9]; rfl)
        refine zz_irem dX11_partOfFraction_23 c_17 ?_
        refine zz_istore_6 dX11_partOfFraction_24 rfl rfl ?_
        refine zz_iload_4 dX11_partOfFraction_26 ?_
        refine zz_istore_3 dX11_partOfFraction_28 rfl rfl ?_
        refine zz_iload_6 dX11_partOfFraction_29 ?_
        refine zz_istore_4 dX11_partOfFraction_31 rfl rfl ?_
        refine zz_iinc_5 (1) dX11_partOfFraction_33 rfl rfl (by decide) ?_
        refine zz_goto 8 dX11_partOfFraction_36 (by decide) ?_
        rw [pk_rem (by omega) hv0 (by omega), nI_1]
        have hlt := Nat.mod_lt u hv0
        exact ih (q + 1) v (u % v) _ (by omega) (by omega) (by rw [← hg]; exact (Nat.gcd_rec v u).symm) (by omega)

set_option maxRecDepth 100000 in
set_option maxHeartbeats 4000000 in
theorem t_X11_partOfFraction {C : zz_C} {d n : Nat} {g : zz_G} {r : zz_R} {Q : zz_Q} {x y p : Int32} (a b : Nat) (ha : a ≤ 60) (hb0 : 0 < b) (hb : b ≤ 1000000) (ex : x = nI a) (ey : y = nI b) (h : Q (some (.int (if p = 0 then nI a / nI (Nat.gcd a b) else nI b / nI (Nat.gcd a b)))) g r n) : zz_T C mi_X11_partOfFraction d 0 0 [.int x, .int y, .int p] g r n Q := by
  refine zz_T.of [some (.int x), some (.int y), some (.int p), none, none, none, none] (by decide +kernel) rfl (Nat.le_of_ble_eq_true rfl) ?_
  refine zz_iload_1 dX11_partOfFraction_0 ?_
  refine zz_istore_3 dX11_partOfFraction_1 rfl rfl ?_
  refine zz_iload_0 dX11_partOfFraction_2 ?_
  refine zz_istore_4 dX11_partOfFraction_3 rfl rfl ?_
  refine zz_iconst (0) dX11_partOfFraction_5 (by decide) ?_
  refine zz_istore_5 dX11_partOfFraction_6 rfl rfl ?_
  have := l_X11_partOfFraction (C := C) (d := d) (r := r) (g := g) (n := n) a b ha hb0 hb ex ey h 62 0 b a none (by omega) hb rfl (by omega)
  rw [← ex, ← ey] at this
  exact this

set_option maxRecDepth 100000 in
set_option maxHeartbeats 4000000 in
theorem t_X11_guess {C : zz_C} {d n : Nat} {g : zz_G} {r : zz_R} {Q : zz_Q} {S : zz_G} (hx : x_rel S g r n) {p : Int32} (hW : wr (S 51)) (h : x_o g Q (sp_guess S p)) : zz_T C mi_X11_guess (d + 1) 0 0 [.ref 0, .int p] g r n Q := by
  have hn := hx.nn
  have hr := hx.1
  obtain ⟨f0, hf00, hf0, ef0⟩ := hW.1.2.2.2.2.2.1
  obtain ⟨k0, hk00, hk0, ek0⟩ := hW.1.2.2.2.2.2.2.2.1
  refine zz_T.of [some (.ref 0), some (.int p)] (by decide +kernel) rfl (Nat.le_of_ble_eq_true rfl) ?_
  refine zz_iload_1 dX11_guess_0 ?_
  refine zz_iconst (1) dX11_guess_1 (by decide) ?_
  refine zz_callS2i cs_X11_93 (Nat.le_of_ble_eq_true rfl) (by decide) (by decide) dX11_guess_2 (t_X11_within (fun a_2 b_2 => ⟨_, rfl, ?_⟩) (fun o_2 => ⟨_, rfl, ?_⟩))
  · skip
    refine zz_if_ne 14 dX11_guess_5 (by decide) (fun _ => ?_) (fun h => absurd h (by decide))
    refine zz_aload_0 dX11_guess_14 ?_
    refine zz_getR fl_X11_10 rfl rfl (Nat.lt_of_lt_of_le (by decide) hn) (xr_0_0 hr) dX11_guess_15 ?_
    refine zz_getR fl_X11_90 rfl rfl (Nat.lt_of_lt_of_le (by decide) hn) (xr_1_0 hr) dX11_guess_18 ?_
    refine zz_iconst (2) dX11_guess_21 (by decide) ?_
    refine zz_iald 2 (by decide) (by decide) (by decide) rfl (Nat.lt_of_lt_of_le (by decide) hn) dX11_guess_22 ?_
    refine zz_aload_0 dX11_guess_23 ?_
    refine zz_getR fl_X11_10 rfl rfl (Nat.lt_of_lt_of_le (by decide) hn) (xr_0_0 hr) dX11_guess_24 ?_
    refine zz_getR fl_X11_90 rfl rfl (Nat.lt_of_lt_of_le (by decide) hn) (xr_1_0 hr) dX11_guess_27 ?_
    refine zz_iconst (0) dX11_guess_30 (by decide) ?_
    refine zz_iald 0 (by decide) (by decide) (by decide) rfl (Nat.lt_of_lt_of_le (by decide) hn) dX11_guess_31 ?_
    refine zz_callS1i cs_X11_236 (Nat.le_of_ble_eq_true rfl) (by decide) (by decide) dX11_guess_32 (t_X11_tens f0 hf0 (by rw [← x_s8 hx]; exact ef0) ⟨_, rfl, ?_⟩)
    refine zz_iload_1 dX11_guess_35 ?_
    refine zz_callS3i cs_X11_265 (Nat.le_of_ble_eq_true rfl) (by decide) (by decide) dX11_guess_36 (t_X11_partOfFraction k0 (10 ^ f0) (by omega) (Nat.pow_pos (by decide)) (Nat.le_trans (Nat.pow_le_pow_right (by decide) hf0) (by decide)) (by rw [← x_s10 hx]; exact ek0) (sp_tn_pow f0) ⟨_, rfl, ?_⟩)
    refine zz_iret rfl dX11_guess_39 (by decide) (by decide) ?_
    rw [sp_guess, if_neg (fun z9 => z9.elim a_2 b_2), ef0, ek0, ix_w (by omega), ix_w (by omega), sp_tn_pow] at h
    by_cases hp : p = 0
    · rw [if_pos hp] at h ⊢
      exact h.e (x_F.rf hx)
    · rw [if_neg hp] at h ⊢
      exact h.e (x_F.rf hx)
  · skip
    refine zz_if_ne 14 dX11_guess_5 (by decide) (fun h => absurd h (by decide)) (fun _ => ?_)
    refine zz_aload_0 dX11_guess_8 ?_
    refine zz_iconst (1) dX11_guess_9 (by decide) ?_
    refine zz_callV1i cv_X11_86 rfl (Nat.lt_of_lt_of_le (by decide) hn) (Nat.le_of_ble_eq_true rfl) (by decide) (by decide) dX11_guess_10 (t_X11_error hn hr 1 rfl (by decide) ⟨_, rfl, ?_⟩)
    refine zz_iret rfl dX11_guess_13 (by decide) (by decide) ?_
    rw [sp_guess, if_pos o_2] at h
    exact x_er hx (by decide) h

set_option maxRecDepth 100000 in
set_option maxHeartbeats 4000000 in
theorem l_X11_odds {C : zz_C} {d n : Nat} {g : zz_G} {r : zz_R} {Q : zz_Q} {S : zz_G} (hx : x_rel S g r n) (hW : wr (S 51)) {l3 p : Int32} (w m0 : Nat) (hw : w < 6) (hm0 : m0 ≤ 1000000) (h : x_o g Q (if p = 0 then nI (sp_od (S 51) w (nI m0) 60) / nI (Nat.gcd (sp_od (S 51) w (nI m0) 60) 60) else 60 / nI (Nat.gcd (sp_od (S 51) w (nI m0) 60) 60), S)) : ∀ (k : Nat) (q : Nat) (g1 : zz_G), q ≤ 60 → xj g g1 → 60 - q < k → zz_Z C mi_X11_odds (d + 6) 0 0 0 0 54 [some (.ref 0), some (.int (nI w)), some (.int p), some (.int l3), some (.int (nI m0)), some (.int (nI (sp_od (S 51) w (nI m0) q))), some (.int (nI q))] [] g1 r n Q := by
  intro k
  induction k with
  | zero => intro q g1 hq hj hk; exact absurd hk (by omega)
  | succ k ih =>
    intro q g1 hq hj hk
    have hn := hx.nn
    have hr := hx.1
    have hx1 := hx.j hj
    refine zz_iload_6 dX11_odds_54 ?_
    refine zz_bipush (60) dX11_odds_56 (by decide) ?_
    refine zz_icmp_ge 83 dX11_odds_58 (by decide) (fun c_58 => ?_) (fun c_58 => ?_)
    · skip
      have := zz_gei (b := 60) c_58 (by omega) (by omega)
      obtain rfl : q = 60 := by omega
      have h := h.j hj
      have hx := hx1
      refine zz_iload_5 dX11_odds_83 ?_
      refine zz_bipush (60) dX11_odds_85 (by decide) ?_
      refine zz_iload_2 dX11_odds_87 ?_
      refine zz_callS3i cs_X11_265 (Nat.le_of_ble_eq_true rfl) (by decide) (by decide) dX11_odds_88 (t_X11_partOfFraction (sp_od (S 51) w (nI m0) 60) 60 (sp_od_le 60) (by decide) (by decide) rfl rfl ⟨_, rfl, ?_⟩)
      refine zz_iret rfl dX11_odds_91 (by decide) (by decide) ?_
      exact h.e (x_F.rf hx)
    · skip
      have hlt := zz_lti (b := 60) c_58 (by omega) (by omega)
      refine zz_aload_0 dX11_odds_61 ?_
      refine zz_iload_1 dX11_odds_62 ?_
      refine zz_iload_4 dX11_odds_63 ?_
      refine zz_iload_6 dX11_odds_65 ?_
      refine zz_iadd dX11_odds_67 ?_
      refine zz_callV2i cv_X11_242 rfl (Nat.lt_of_lt_of_le (by decide) hn) (Nat.le_of_ble_eq_true rfl) (by decide) (by decide) dX11_odds_68 (t_X11_getsIn hx1 hW w (m0 + q) hw rfl (nI_add m0 q) (by omega) (fun y_68 g1_68 j1_68 => ⟨_, rfl, ?_⟩) (fun y_68 g1_68 j1_68 => ⟨_, rfl, ?_⟩))
      · skip
        refine zz_if_eq 77 dX11_odds_71 (by decide) (fun h => absurd h (by decide)) (fun _ => ?_)
        refine zz_iinc_5 (1) dX11_odds_74 rfl rfl (by decide) ?_
        refine zz_iinc_6 (1) dX11_odds_77 rfl rfl (by decide) ?_
        refine zz_goto 54 dX11_odds_80 (by decide) ?_
        rw [show nI (sp_od (S 51) w (nI m0) q) + 1 = nI (sp_od (S 51) w (nI m0) (q + 1)) from by rw [sp_od, if_pos y_68, nI_1], nI_1]
        exact ih (q + 1) _ (by omega) (hj.tr j1_68) (by omega)
      · skip
        refine zz_if_eq 77 dX11_odds_71 (by decide) (fun _ => ?_) (fun h => absurd h (by decide))
        refine zz_iinc_6 (1) dX11_odds_77 rfl rfl (by decide) ?_
        refine zz_goto 54 dX11_odds_80 (by decide) ?_
        rw [show sp_od (S 51) w (nI m0) q = sp_od (S 51) w (nI m0) (q + 1) from by rw [sp_od, if_neg y_68]; rfl, nI_1]
        exact ih (q + 1) _ (by omega) (hj.tr j1_68) (by omega)

set_option maxRecDepth 100000 in
set_option maxHeartbeats 4000000 in
theorem t_X11_odds {C : zz_C} {d n : Nat} {g : zz_G} {r : zz_R} {Q : zz_Q} {S : zz_G} (hx : x_rel S g r n) {v p : Int32} (mw : Nat) (hmw : S 51 2 = nI mw) (hmw6 : mw ≤ 6) (hW : wr (S 51)) (h : x_o g Q (sp_odds S v p)) : zz_T C mi_X11_odds (d + 6) 0 0 [.ref 0, .int v, .int p] g r n Q := by
  have hn := hx.nn
  have hr := hx.1
  have hmw1 : g 1 7 = nI mw := (x_s2 hx).symm.trans hmw
  obtain ⟨t0, ht00, ht0, et0⟩ := hW.1.1
  refine zz_T.of [some (.ref 0), some (.int v), some (.int p), none, none, none, none] (by decide +kernel) rfl (Nat.le_of_ble_eq_true rfl) ?_
  refine zz_iload_2 dX11_odds_0 ?_
  refine zz_iconst (1) dX11_odds_1 (by decide) ?_
  refine zz_callS2i cs_X11_93 (Nat.le_of_ble_eq_true rfl) (by decide) (by decide) dX11_odds_2 (t_X11_within (fun a_2 b_2 => ⟨_, rfl, ?_⟩) (fun o_2 => ⟨_, rfl, ?_⟩))
  · skip
    refine zz_if_eq 16 dX11_odds_5 (by decide) (fun h => absurd h (by decide)) (fun _ => ?_)
    refine zz_aload_0 dX11_odds_8 ?_
    refine zz_iload_1 dX11_odds_9 ?_
    refine zz_callV1i cv_X11_189 rfl (Nat.lt_of_lt_of_le (by decide) hn) (Nat.le_of_ble_eq_true rfl) (by decide) (by decide) dX11_odds_10 (t_X11_refusalOfAsking hx hW mw hmw hmw6 (fun nw_10 => ⟨_, rfl, ?_⟩) (fun w_10 hw_10 ew_10 iw_10 l_10 => ⟨_, rfl, ?_⟩) (fun w_10 hw_10 ew_10 iw_10 l_10 => ⟨_, rfl, ?_⟩))
    · skip
      refine zz_goto 17 dX11_odds_13 (by decide) ?_
      refine zz_istore_3 dX11_odds_17 rfl rfl ?_
      refine zz_iload_3 dX11_odds_18 ?_
      refine zz_if_eq 28 dX11_odds_19 (by decide) (fun h => absurd h (by decide)) (fun _ => ?_)
      refine zz_aload_0 dX11_odds_22 ?_
      refine zz_iload_3 dX11_odds_23 ?_
      refine zz_callV1i cv_X11_86 rfl (Nat.lt_of_lt_of_le (by decide) hn) (Nat.le_of_ble_eq_true rfl) (by decide) (by decide) dX11_odds_24 (t_X11_error hn hr 1 rfl (by decide) ⟨_, rfl, ?_⟩)
      refine zz_iret rfl dX11_odds_27 (by decide) (by decide) ?_
      first
        | (rw [sp_odds, if_pos nw_10] at h; exact x_er hx (by decide) h)
        | (rw [sp_odds, if_neg (fun z9 => z9 iw_10), if_neg (fun z9 => z9.elim a_2 b_2), ix_w (by omega), if_pos l_10] at h; exact x_er hx (by decide) h)
    · skip
      subst ew_10
      refine zz_goto 17 dX11_odds_13 (by decide) ?_
      refine zz_istore_3 dX11_odds_17 rfl rfl ?_
      refine zz_iload_3 dX11_odds_18 ?_
      refine zz_if_eq 28 dX11_odds_19 (by decide) (fun h => absurd h (by decide)) (fun _ => ?_)
      refine zz_aload_0 dX11_odds_22 ?_
      refine zz_iload_3 dX11_odds_23 ?_
      refine zz_callV1i cv_X11_86 rfl (Nat.lt_of_lt_of_le (by decide) hn) (Nat.le_of_ble_eq_true rfl) (by decide) (by decide) dX11_odds_24 (t_X11_error hn hr 3 rfl (by decide) ⟨_, rfl, ?_⟩)
      refine zz_iret rfl dX11_odds_27 (by decide) (by decide) ?_
      first
        | (rw [sp_odds, if_pos nw_10] at h; exact x_er hx (by decide) h)
        | (rw [sp_odds, if_neg (fun z9 => z9 iw_10), if_neg (fun z9 => z9.elim a_2 b_2), ix_w (by omega), if_pos l_10] at h; exact x_er hx (by decide) h)
    · skip
      subst ew_10
      refine zz_goto 17 dX11_odds_13 (by decide) ?_
      refine zz_istore_3 dX11_odds_17 rfl rfl ?_
      refine zz_iload_3 dX11_odds_18 ?_
      refine zz_if_eq 28 dX11_odds_19 (by decide) (fun _ => ?_) (fun h => absurd h (by decide))
      refine zz_aload_0 dX11_odds_28 ?_
      refine zz_getR fl_X11_10 rfl rfl (Nat.lt_of_lt_of_le (by decide) hn) (xr_0_0 hr) dX11_odds_29 ?_
      refine zz_getI fl_X11_110 rfl rfl (Nat.lt_of_lt_of_le (by decide) hn) dX11_odds_32 ?_
      refine zz_aload_0 dX11_odds_35 ?_
      refine zz_getR fl_X11_10 rfl rfl (Nat.lt_of_lt_of_le (by decide) hn) (xr_0_0 hr) dX11_odds_36 ?_
      refine zz_getI fl_X11_110 rfl rfl (Nat.lt_of_lt_of_le (by decide) hn) dX11_odds_39 ?_
      refine zz_bipush (60) dX11_odds_42 (by decide) ?_
      refine zz_irem dX11_odds_44 (by decide) ?_
      refine zz_isub dX11_odds_45 ?_
      refine zz_istore_4 dX11_odds_46 rfl rfl ?_
      refine zz_iconst (0) dX11_odds_48 (by decide) ?_
      refine zz_istore_5 dX11_odds_49 rfl rfl ?_
      refine zz_iconst (0) dX11_odds_51 (by decide) ?_
      refine zz_istore_6 dX11_odds_52 rfl rfl ?_
      have em0 : S 51 0 - (S 51 0 - S 51 0 / 60 * 60) = nI (t0 - t0 % 60) := by
        rw [et0, show (60 : Int32) = nI 60 from rfl, pk_rem (by omega) (by decide) (by decide), pk_sub (Nat.mod_le _ _)]
      rw [← x_s0 hx, em0]
      rw [sp_odds, if_neg (fun z9 => z9 iw_10), if_neg (fun z9 => z9.elim a_2 b_2), ix_w (by omega), if_neg l_10, em0] at h
      have h2 : x_o g Q (if p = 0 then nI (sp_od (S 51) w_10 (nI (t0 - t0 % 60)) 60) / nI (Nat.gcd (sp_od (S 51) w_10 (nI (t0 - t0 % 60)) 60) 60) else 60 / nI (Nat.gcd (sp_od (S 51) w_10 (nI (t0 - t0 % 60)) 60) 60), S) := by
        by_cases hp : p = 0
        · rw [if_pos hp] at h ⊢
          exact h
        · rw [if_neg hp] at h ⊢
          exact h
      exact l_X11_odds (d := d) hx hW w_10 (t0 - t0 % 60) hw_10 (by omega) h2 61 0 g (by omega) xj.rf (by omega)
  · skip
    refine zz_if_eq 16 dX11_odds_5 (by decide) (fun _ => ?_) (fun h => absurd h (by decide))
    refine zz_iconst (1) dX11_odds_16 (by decide) ?_
    refine zz_istore_3 dX11_odds_17 rfl rfl ?_
    refine zz_iload_3 dX11_odds_18 ?_
    refine zz_if_eq 28 dX11_odds_19 (by decide) (fun h => absurd h (by decide)) (fun _ => ?_)
    refine zz_aload_0 dX11_odds_22 ?_
    refine zz_iload_3 dX11_odds_23 ?_
    refine zz_callV1i cv_X11_86 rfl (Nat.lt_of_lt_of_le (by decide) hn) (Nat.le_of_ble_eq_true rfl) (by decide) (by decide) dX11_odds_24 (t_X11_error hn hr 1 rfl (by decide) ⟨_, rfl, ?_⟩)
    refine zz_iret rfl dX11_odds_27 (by decide) (by decide) ?_
    by_cases hq : sp_isw S v
    · rw [sp_odds, if_neg (fun z9 => z9 hq), if_pos o_2] at h
      exact x_er hx (by decide) h
    · rw [sp_odds, if_pos hq] at h
      exact x_er hx (by decide) h
