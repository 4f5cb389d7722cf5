theorem ms_row (g : zz_G) (j : Nat) (x : Int32) : zz_u (ms_S g) 51 j x 51 = zz_u g 51 j x 51 := by
  rw [← ms_u x (show ms_k 51 j = true from rfl)]
  exact ms_R _
theorem zz_u_u (g : zz_G) (k j : Nat) (x y : Int32) : zz_u (zz_u g k j x) k j y = zz_u g k j y := by
  funext a b
  unfold zz_u
  by_cases h : a = k ∧ b = j
  · rw [if_pos h, if_pos h]
  · rw [if_neg h, if_neg h, if_neg h]
theorem zz_u_id (g : zz_G) (k j : Nat) : zz_u g k j (g k j) = g := by
  funext a b
  unfold zz_u
  by_cases h : a = k ∧ b = j
  · rw [if_pos h, h.1, h.2]
  · rw [if_neg h]
theorem sp_in_cg {R R' : Nat → Int32} {w : Nat} {s hd : Int32} (hw : w < 6) (h : ∀ j, j ≠ 9 → R' j = R j) : sp_in R' w s hd ↔ sp_in R w s hd := by
  unfold sp_in sp_back
  rw [h 14 (by decide), h 8 (by decide), h 13 (by decide), h (16 + 5 * w + 2) (by omega), sp_late_cg hw (h 5 (by decide)) (fun j h1 h2 => h j (by omega)) (fun j h1 => h j (by omega)), sp_lasts_cg hw (fun j h1 h2 => h j (by omega)), sp_law_cg (u := 1) (h 6 (by decide)) (fun j h1 => h j (by omega))]
def sp_hfk (R : Nat → Int32) (w : Nat) (s : Int32) : Nat → Nat → Nat
  | 0, v => v
  | f + 1, v => if sp_in R w s (nI v) then v else sp_hfk R w s f (v + 1)
def sp_holdFor (S : zz_G) (w : Int32) : Int32 × zz_G := if ¬ sp_isw S w then sp_err S 1 else if S 51 (16 + 5 * w.toNatClampNeg + 4) = 1 then sp_err S 3 else if sp_hfk (S 51) w.toNatClampNeg (S 51 0) 300 1 ≤ 300 then (nI (sp_hfk (S 51) w.toNatClampNeg (S 51 0) 300 1), S) else sp_err S 2
set_option maxRecDepth 100000 in
set_option maxHeartbeats 4000000 in
theorem t_X12_text {C : zz_C} {d n : Nat} {g : zz_G} {r : zz_R} {Q : zz_Q} (hn : 60 ≤ n) (hr : xr r) {v : Int32} (tw : Nat) (htw : g 51 3 = nI tw) (htw5 : tw ≤ 50) (h : ms_o g r n Q (sp_text (ms_S g) v)) : zz_T C mi_X12_text (d + 40) 0 0 [.ref 50, .int v] g r n Q := by
  refine zz_T.of [some (.ref 50), some (.int v), none, none, none] (by decide +kernel) rfl (Nat.le_of_ble_eq_true rfl) ?_
  refine zz_iload_1 dX12_text_0 ?_
  refine zz_iconst (0) dX12_text_1 (by decide) ?_
  refine zz_iconst (1) dX12_text_2 (by decide) ?_
  refine zz_callS3i cs_X12_38 (Nat.le_of_ble_eq_true rfl) (by decide) (by decide) dX12_text_3 (t_X12_in (fun a_3 b_3 => ⟨_, rfl, ?_⟩) (fun o_3 => ⟨_, rfl, ?_⟩))
  · skip
    refine zz_if_ne 16 dX12_text_6 (by decide) (fun _ => ?_) (fun h => absurd h (by decide))
    refine zz_aload_0 dX12_text_16 ?_
    refine zz_aload_0 dX12_text_17 ?_
    refine zz_getR fl_X12_7 rfl rfl (Nat.lt_of_lt_of_le (by decide) hn) (xr_50_0 hr) dX12_text_18 ?_
    refine zz_aload_0 dX12_text_21 ?_
    refine zz_getR fl_X12_16 rfl rfl (Nat.lt_of_lt_of_le (by decide) hn) (xr_50_2 hr) dX12_text_22 ?_
    refine zz_callV2v cv_X12_150 rfl (Nat.lt_of_lt_of_le (by decide) hn) (Nat.le_of_ble_eq_true rfl) (by decide) (by decide) dX12_text_25 (t_X12_moveAll hn (a := 51) (b := 53) rfl rfl (by decide) (by decide) (by decide) ⟨rfl, ?_⟩)
    refine zz_iconst (0) dX12_text_28 (by decide) ?_
    refine zz_istore_2 dX12_text_29 rfl rfl ?_
    rw [sp_text, if_neg (fun q => q.elim a_3 b_3), ms_51, htw, ix_w (by omega)] at h
    obtain ⟨w1, hw0, hw1, ew1⟩ := zz_in0 (lo := 0) (hi := 1) rfl rfl (by decide) (by decide) a_3 b_3
    rcases (show w1 = 0 ∨ w1 = 1 by omega) with rfl | rfl
    · subst ew1
      rw [show (nI 0).toNatClampNeg = 0 from ix_w (by decide)] at h
      rw [← sp_tc_0 (zz_cp g 51 53 276) 0]
      refine l_X12_text0 (d := d) hn hr ?_ 51 0 (by omega) (by omega)
      have hB : ms_S (zz_cp g 51 53 276) = ms_S g := (ms_F.rf.cpj (fun _ => rfl) (by decide) : ms_F g (zz_cp g 51 53 276) (ms_S g)).1
      have hBk : ∀ k, k < 50 ∨ 60 ≤ k → (zz_cp g 51 53 276) k = g k := fun k hk => zz_cp_row (by omega)
      have hF : ms_F (zz_cp g 51 53 276) (zz_u (sp_tc (zz_cp g 51 53 276) 0 50) 51 5 (sp_tc (zz_cp g 51 53 276) 0 50 51 3)) (zz_u (sp_tc (ms_S (zz_cp g 51 53 276)) 0 50) 51 5 (ms_S (zz_cp g 51 53 276) 51 3)) := by
        rw [ms_51, sp_tc_lo (by decide)]
        exact (sp_tc_F ms_F.rf).u rfl (by decide)
      have hrow : (zz_u (sp_tc (zz_cp g 51 53 276) 0 50) 51 5 (sp_tc (zz_cp g 51 53 276) 0 50 51 3)) 51 = sp_tx (ms_S g) 0 51 := (ms_R _).symm.trans ((congrFun hF.1 51).trans (by rw [hB]; rfl))
      refine e_X12_text0 (d := d) (g := (zz_cp g 51 53 276)) hn hr (len := tw) (by rw [zz_cp_row (by decide)]; exact htw) htw5 (fun j hj => by rw [show (zz_cp g 51 53 276) 51 = g 51 from zz_cp_row (by decide)]; exact if_pos ⟨rfl, hj⟩) (fun q g2 h2 => ?_) (fun q g2 h2 => ?_)
      · rw [hrow] at q
        rw [sp_textT, if_pos q] at h
        rw [hB] at h2
        exact h g2 ⟨h2.1, fun k hk => (h2.2 k hk).trans (hBk k hk)⟩
      · rw [hrow] at q ⊢
        rw [sp_textT, if_neg q] at h
        rw [hB] at h2
        exact h g2 ⟨h2.1, fun k hk => (h2.2 k hk).trans (hBk k hk)⟩
    · subst ew1
      rw [show (nI 1).toNatClampNeg = 1 from ix_w (by decide)] at h
      rw [← sp_tc_0 (zz_cp g 51 53 276) 1]
      refine l_X12_text1 (d := d) hn hr ?_ 51 0 (by omega) (by omega)
      have hB : ms_S (zz_cp g 51 53 276) = ms_S g := (ms_F.rf.cpj (fun _ => rfl) (by decide) : ms_F g (zz_cp g 51 53 276) (ms_S g)).1
      have hBk : ∀ k, k < 50 ∨ 60 ≤ k → (zz_cp g 51 53 276) k = g k := fun k hk => zz_cp_row (by omega)
      have hF : ms_F (zz_cp g 51 53 276) (zz_u (sp_tc (zz_cp g 51 53 276) 1 50) 51 6 (sp_tc (zz_cp g 51 53 276) 1 50 51 3)) (zz_u (sp_tc (ms_S (zz_cp g 51 53 276)) 1 50) 51 6 (ms_S (zz_cp g 51 53 276) 51 3)) := by
        rw [ms_51, sp_tc_lo (by decide)]
        exact (sp_tc_F ms_F.rf).u rfl (by decide)
      have hrow : (zz_u (sp_tc (zz_cp g 51 53 276) 1 50) 51 6 (sp_tc (zz_cp g 51 53 276) 1 50 51 3)) 51 = sp_tx (ms_S g) 1 51 := (ms_R _).symm.trans ((congrFun hF.1 51).trans (by rw [hB]; rfl))
      refine e_X12_text1 (d := d) (g := (zz_cp g 51 53 276)) hn hr (len := tw) (by rw [zz_cp_row (by decide)]; exact htw) htw5 (fun j hj => by rw [show (zz_cp g 51 53 276) 51 = g 51 from zz_cp_row (by decide)]; exact if_pos ⟨rfl, hj⟩) (fun q g2 h2 => ?_) (fun q g2 h2 => ?_)
      · rw [hrow] at q
        rw [sp_textT, if_pos q] at h
        rw [hB] at h2
        exact h g2 ⟨h2.1, fun k hk => (h2.2 k hk).trans (hBk k hk)⟩
      · rw [hrow] at q ⊢
        rw [sp_textT, if_neg q] at h
        rw [hB] at h2
        exact h g2 ⟨h2.1, fun k hk => (h2.2 k hk).trans (hBk k hk)⟩
  · skip
    refine zz_if_ne 16 dX12_text_6 (by decide) (fun h => absurd h (by decide)) (fun _ => ?_)
    refine zz_aload_0 dX12_text_9 ?_
    refine zz_ldc dX12_text_10 ct_X12_50 ?_
    refine zz_callV1i cv_X12_51 rfl (Nat.lt_of_lt_of_le (by decide) hn) (Nat.le_of_ble_eq_true rfl) (by decide) (by decide) dX12_text_12 (t_X12_errs hn hr 1 (by decide) (by decide) ⟨_, rfl, ?_⟩)
    refine zz_iret rfl dX12_text_15 (by decide) (by decide) ?_
    rw [sp_text, if_pos o_3] at h
    exact ms_er (by decide) h

set_option maxRecDepth 100000 in
set_option maxHeartbeats 4000000 in
theorem e_X12_holdFor {C : zz_C} {d n : Nat} {g : zz_G} {r : zz_R} {Q : zz_Q} (hn : 60 ≤ n) (hr : xr r) {v was : Int32} {q : Nat} (hq : q ≤ 1000) (h1 : q ≤ 300 → Q (some (.int (nI q))) (zz_u g 51 9 was) r n) (h0 : ¬ q ≤ 300 → Q (some (.int (-1000000002))) (zz_u (zz_u g 51 9 was) 54 2 (zz_u g 51 9 was 54 2 + 1)) r n) : zz_Z C mi_X12_holdFor (d + 44) 0 0 0 0 85 [some (.ref 50), some (.int v), some (.int was), some (.int (nI q))] [] g r n Q := by
  refine zz_aload_0 dX12_holdFor_85 ?_
  refine zz_getR fl_X12_7 rfl rfl (Nat.lt_of_lt_of_le (by decide) hn) (xr_50_0 hr) dX12_holdFor_86 ?_
  refine zz_bipush (9) dX12_holdFor_89 (by decide) ?_
  refine zz_iload_2 dX12_holdFor_91 ?_
  refine zz_iast 9 (by decide) (by decide) (by decide) rfl (Nat.lt_of_lt_of_le (by decide) hn) dX12_holdFor_92 ?_
  refine zz_iload_3 dX12_holdFor_93 ?_
  refine zz_sipush (300) dX12_holdFor_94 (by decide) ?_
  refine zz_icmp_le 109 dX12_holdFor_97 (by decide) (fun c_97 => ?_) (fun c_97 => ?_)
  · skip
    refine zz_iload_3 dX12_holdFor_109 ?_
    refine zz_iret rfl dX12_holdFor_110 (by decide) (by decide) ?_
    exact h1 ((nI_leI (b := 300) (by omega) (by omega)).mp c_97)
  · skip
    refine zz_aload_0 dX12_holdFor_100 ?_
    refine zz_ldc dX12_holdFor_101 ct_X12_184 ?_
    refine zz_callV1i cv_X12_51 rfl (Nat.lt_of_lt_of_le (by decide) hn) (Nat.le_of_ble_eq_true rfl) (by decide) (by decide) dX12_holdFor_103 (t_X12_errs hn hr 2 (by decide) (by decide) ⟨_, rfl, ?_⟩)
    refine zz_goto 110 dX12_holdFor_106 (by decide) ?_
    refine zz_iret rfl dX12_holdFor_110 (by decide) (by decide) ?_
    exact h0 (fun q => c_97 (nI_le q (by decide)))

set_option maxRecDepth 100000 in
set_option maxHeartbeats 4000000 in
theorem l_X12_holdFor {C : zz_C} {d n : Nat} {g : zz_G} {r : zz_R} {Q : zz_Q} (hn : 60 ≤ n) (hr : xr r) (hT0 : tx_ok (g 51) 0) (hT1 : tx_ok (g 51) 1) (w : Nat) (hw : w < 6) {res : Nat} (hh1 : res ≤ 300 → ∀ g2, mj_ g g2 → Q (some (.int (nI res))) g2 r n) (hh0 : ¬ res ≤ 300 → ∀ g2, mj_ g g2 → Q (some (.int (-1000000002))) (zz_u g2 54 2 (g2 54 2 + 1)) r n) : ∀ (k : Nat) (f q : Nat) (g1 : zz_G), ms_F g g1 (zz_u (ms_S g) 51 9 (nI q)) → q + f = 301 → f < k → sp_hfk (g 51) w (g 51 0) f q = res → zz_Z C mi_X12_holdFor (d + 44) 0 0 0 0 50 [some (.ref 50), some (.int (nI w)), some (.int (g 51 9)), some (.int (nI q))] [] g1 r n Q := by
  intro k
  induction k with
  | zero => intro f q g1 hg1 hqf hk he; exact absurd hk (by omega)
  | succ k ih =>
    intro f q g1 hg1 hqf hk he
    have hrow : g1 51 = zz_u g 51 9 (nI q) 51 := (ms_R g1).symm.trans ((congrFun hg1.1 51).trans (ms_row g 9 _))
    refine zz_iload_3 dX12_holdFor_50 ?_
    refine zz_sipush (300) dX12_holdFor_51 (by decide) ?_
    refine zz_icmp_gt 85 dX12_holdFor_54 (by decide) (fun c_54 => ?_) (fun c_54 => ?_)
    · skip
      have hgt : 300 < q := (nI_ltI (a := 300) (by omega) (by omega)).mp c_54
      obtain rfl : f = 0 := by omega
      rw [sp_hfk] at he
      subst he
      have G : mj_ g (zz_u g1 51 9 (g 51 9)) := by
        have hu := (hg1).u (k := 51) (j := 9) (x := g 51 9) rfl (by decide)
        rw [zz_u_u, show zz_u (ms_S g) 51 9 (g 51 9) = ms_S g from by rw [← ms_51 g 9]; exact zz_u_id _ _ _] at hu
        exact hu
      refine e_X12_holdFor (d := d) hn hr (by omega) (fun q => hh1 q _ G) (fun q => hh0 q _ G)
    · skip
      refine zz_aload_0 dX12_holdFor_57 ?_
      refine zz_iload_1 dX12_holdFor_58 ?_
      refine zz_aload_0 dX12_holdFor_59 ?_
      refine zz_getR fl_X12_7 rfl rfl (Nat.lt_of_lt_of_le (by decide) hn) (xr_50_0 hr) dX12_holdFor_60 ?_
      refine zz_iconst (0) dX12_holdFor_63 (by decide) ?_
      refine zz_iald 0 (by decide) (by decide) (by decide) rfl (Nat.lt_of_lt_of_le (by decide) hn) dX12_holdFor_64 ?_
      have hq3 : q ≤ 300 := Nat.not_lt.mp fun z9 => c_54 (nI_lt z9 (by omega))
      obtain ⟨f, rfl⟩ : ∃ f2, f = f2 + 1 := ⟨f - 1, by omega⟩
      rw [hrow, zz_u51 g 9 _ (by decide)]
      refine zz_callV2i cv_X12_181 rfl (Nat.lt_of_lt_of_le (by decide) hn) (Nat.le_of_ble_eq_true rfl) (by decide) (by decide) dX12_holdFor_65 (t_X12_getsInAt hn hr hrow (tx_ok_cg (zz_u51 g 9 _ (by decide)) (fun j hj => zz_u51 g 9 _ (by omega)) hT0) (tx_ok_cg (zz_u51 g 9 _ (by decide)) (fun j hj => zz_u51 g 9 _ (by omega)) hT1) w hw rfl (fun y_65 g1_65 j1_65 => ⟨_, rfl, ?_⟩) (fun y_65 g1_65 j1_65 => ⟨_, rfl, ?_⟩))
      · skip
        rw [zz_u_same, sp_in_cg hw (fun j hj => zz_u51 g 9 _ hj)] at y_65
        have hin := y_65
        have hg2 : ms_F g g1_65 (zz_u (ms_S g) 51 9 (nI q)) := ⟨j1_65.1.trans hg1.1, fun k hk => (j1_65.2 k hk).trans (hg1.2 k hk)⟩
        refine zz_if_ne 85 dX12_holdFor_68 (by decide) (fun _ => ?_) (fun h => absurd h (by decide))
        rw [sp_hfk, if_pos hin] at he
        subst he
        have G : mj_ g (zz_u g1_65 51 9 (g 51 9)) := by
          have hu := (hg2).u (k := 51) (j := 9) (x := g 51 9) rfl (by decide)
          rw [zz_u_u, show zz_u (ms_S g) 51 9 (g 51 9) = ms_S g from by rw [← ms_51 g 9]; exact zz_u_id _ _ _] at hu
          exact hu
        refine e_X12_holdFor (d := d) hn hr (by omega) (fun q => hh1 q _ G) (fun q => hh0 q _ G)
      · skip
        rw [zz_u_same, sp_in_cg hw (fun j hj => zz_u51 g 9 _ hj)] at y_65
        have hin := y_65
        have hg2 : ms_F g g1_65 (zz_u (ms_S g) 51 9 (nI q)) := ⟨j1_65.1.trans hg1.1, fun k hk => (j1_65.2 k hk).trans (hg1.2 k hk)⟩
        refine zz_if_ne 85 dX12_holdFor_68 (by decide) (fun h => absurd h (by decide)) (fun _ => ?_)
        refine zz_iinc_3 (1) dX12_holdFor_71 rfl rfl (by decide) ?_
        refine zz_aload_0 dX12_holdFor_74 ?_
        refine zz_getR fl_X12_7 rfl rfl (Nat.lt_of_lt_of_le (by decide) hn) (xr_50_0 hr) dX12_holdFor_75 ?_
        refine zz_bipush (9) dX12_holdFor_78 (by decide) ?_
        refine zz_iload_3 dX12_holdFor_80 ?_
        refine zz_iast 9 (by decide) (by decide) (by decide) rfl (Nat.lt_of_lt_of_le (by decide) hn) dX12_holdFor_81 ?_
        refine zz_goto 50 dX12_holdFor_82 (by decide) ?_
        rw [sp_hfk, if_neg hin] at he
        rw [nI_1]
        have hg3 := hg2.u (k := 51) (j := 9) (x := nI (q + 1)) rfl (by decide)
        rw [zz_u_u] at hg3
        exact ih f (q + 1) _ hg3 (by omega) (by omega) he

set_option maxRecDepth 100000 in
set_option maxHeartbeats 4000000 in
theorem t_X12_holdFor {C : zz_C} {d n : Nat} {g : zz_G} {r : zz_R} {Q : zz_Q} (hn : 60 ≤ n) (hr : xr r) (mw : Nat) (hmw : g 51 2 = nI mw) (hmw6 : mw ≤ 6) {v : Int32} (hT0 : tx_ok (g 51) 0) (hT1 : tx_ok (g 51) 1) (h : ms_o g r n Q (sp_holdFor (ms_S g) v)) : zz_T C mi_X12_holdFor (d + 44) 0 0 [.ref 50, .int v] g r n Q := by
  refine zz_T.of [some (.ref 50), some (.int v), none, none] (by decide +kernel) rfl (Nat.le_of_ble_eq_true rfl) ?_
  refine zz_aload_0 dX12_holdFor_0 ?_
  refine zz_iload_1 dX12_holdFor_1 ?_
  refine zz_callV1i cv_X12_60 rfl (Nat.lt_of_lt_of_le (by decide) hn) (Nat.le_of_ble_eq_true rfl) (by decide) (by decide) dX12_holdFor_2 (t_X12_isWay hn hr mw hmw hmw6 (fun w_2 hw_2 ew_2 => ⟨_, rfl, ?_⟩) (fun nw_2 => ⟨_, rfl, ?_⟩))
  · skip
    subst ew_2
    have ia_2 := sp_isw_a (w := w_2) (Nat.lt_of_lt_of_le hw_2 hmw6)
    have ib_2 := sp_isw_b hmw hmw6 hw_2
    refine zz_if_ne 15 dX12_holdFor_5 (by decide) (fun _ => ?_) (fun h => absurd h (by decide))
    refine zz_aload_0 dX12_holdFor_15 ?_
    refine zz_iload_1 dX12_holdFor_16 ?_
    refine zz_iconst (4) dX12_holdFor_17 (by decide) ?_
    refine zz_callV2i cv_X12_64 rfl (Nat.lt_of_lt_of_le (by decide) hn) (Nat.le_of_ble_eq_true rfl) (by decide) (by decide) dX12_holdFor_18 (t_X12_its hn hr w_2 4 rfl rfl (by omega) ⟨_, rfl, ?_⟩)
    refine zz_iconst (1) dX12_holdFor_21 (by decide) ?_
    refine zz_icmp_ne 32 dX12_holdFor_22 (by decide) (fun c_22 => ?_) (fun c_22 => ?_)
    · skip
      refine zz_aload_0 dX12_holdFor_32 ?_
      refine zz_getR fl_X12_7 rfl rfl (Nat.lt_of_lt_of_le (by decide) hn) (xr_50_0 hr) dX12_holdFor_33 ?_
      refine zz_bipush (9) dX12_holdFor_36 (by decide) ?_
      refine zz_iald 9 (by decide) (by decide) (by decide) rfl (Nat.lt_of_lt_of_le (by decide) hn) dX12_holdFor_38 ?_
      refine zz_istore_2 dX12_holdFor_39 rfl rfl ?_
      refine zz_iconst (1) dX12_holdFor_40 (by decide) ?_
      refine zz_istore_3 dX12_holdFor_41 rfl rfl ?_
      refine zz_aload_0 dX12_holdFor_42 ?_
      refine zz_getR fl_X12_7 rfl rfl (Nat.lt_of_lt_of_le (by decide) hn) (xr_50_0 hr) dX12_holdFor_43 ?_
      refine zz_bipush (9) dX12_holdFor_46 (by decide) ?_
      refine zz_iload_3 dX12_holdFor_48 ?_
      refine zz_iast 9 (by decide) (by decide) (by decide) rfl (Nat.lt_of_lt_of_le (by decide) hn) dX12_holdFor_49 ?_
      rw [sp_holdFor, if_neg (fun q => q ⟨ia_2, by rw [ms_51]; exact ib_2⟩), ix_w (by omega), ms_51, if_neg c_22, ms_R] at h
      exact l_X12_holdFor (d := d) hn hr hT0 hT1 w_2 (by omega) (fun q g2 j2 => by rw [if_pos q] at h; exact ms_mj h j2) (fun q g2 j2 => by rw [if_neg q] at h; rw [show sp_err (ms_S g) 2 = sp_err (ms_S g2) 2 from by rw [j2.1]] at h; exact ms_er (by decide) (mj_o j2 h)) 301 300 1 _ (ms_F.rf.u rfl (by decide)) (by omega) (by omega) rfl
    · skip
      refine zz_aload_0 dX12_holdFor_25 ?_
      refine zz_ldc dX12_holdFor_26 ct_X12_161 ?_
      refine zz_callV1i cv_X12_51 rfl (Nat.lt_of_lt_of_le (by decide) hn) (Nat.le_of_ble_eq_true rfl) (by decide) (by decide) dX12_holdFor_28 (t_X12_errs hn hr 3 (by decide) (by decide) ⟨_, rfl, ?_⟩)
      refine zz_iret rfl dX12_holdFor_31 (by decide) (by decide) ?_
      rw [sp_holdFor, if_neg (fun q => q ⟨ia_2, by rw [ms_51]; exact ib_2⟩), ix_w (by omega), ms_51, if_pos c_22] at h
      exact ms_er (by decide) h
  · skip
    have ic_2 := sp_isw_c hmw hmw6 nw_2
    refine zz_if_ne 15 dX12_holdFor_5 (by decide) (fun h => absurd h (by decide)) (fun _ => ?_)
    refine zz_aload_0 dX12_holdFor_8 ?_
    refine zz_ldc dX12_holdFor_9 ct_X12_50 ?_
    refine zz_callV1i cv_X12_51 rfl (Nat.lt_of_lt_of_le (by decide) hn) (Nat.le_of_ble_eq_true rfl) (by decide) (by decide) dX12_holdFor_11 (t_X12_errs hn hr 1 (by decide) (by decide) ⟨_, rfl, ?_⟩)
    refine zz_iret rfl dX12_holdFor_14 (by decide) (by decide) ?_
    rw [sp_holdFor, if_pos (by rw [sp_isw, ms_51]; exact ic_2)] at h
    exact ms_er (by decide) h
