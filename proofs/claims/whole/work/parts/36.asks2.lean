set_option maxRecDepth 100000 in
set_option maxHeartbeats 4000000 in
theorem l_X12_check {C : zz_C} {d n : Nat} {g : zz_G} {r : zz_R} {Q : zz_Q} (hn : 60 ≤ n) (hr : xr r) (mw : Nat) (hmw : g 51 2 = nI mw) (hmw6 : mw ≤ 6) (hT0 : tx_ok (g 51) 0) (nw : Nat) (hnw : nw ≤ 20) {res : Nat} (h : ∀ g1, mj_ (zz_u g 51 4 0) g1 → Q (some (.int (if res = nw then 0 else 1 + nI res))) g1 r n) : ∀ (k : Nat) (f q : Nat) (g1 : zz_G), mj_ (zz_u g 51 4 0) g1 → q + f = nw → f < k → sp_ckk (g 51) mw f q = res → zz_Z C mi_X12_check (d + 42) 0 0 0 0 18 [some (.ref 50), some (.int (nI nw)), some (.int (nI q)), some (.int 1)] [] g1 r n Q := by
  intro k
  induction k with
  | zero => intro f q g1 hj1 hqf hk he; exact absurd hk (by omega)
  | succ k ih =>
    intro f q g1 hj1 hqf hk he
    have r0 : ∀ {g2 : zz_G}, mj_ (zz_u g 51 4 0) g2 → ∀ i, i ≠ 4 → g2 51 i = g 51 i := fun {g2} hj i hi => (congrFun (mj_51 hj) i).trans (zz_u51 g 4 0 hi)
    have lt9 : ∀ s : Int32, sp_late (zz_u g 51 4 0 51) 0 s = sp_late (g 51) 0 s := fun s => sp_late_cg (by decide) (zz_u51 g 4 0 (by decide)) (fun j h1 h2 => zz_u51 g 4 0 (by omega)) (fun j h1 => zz_u51 g 4 0 (by omega))
    refine zz_iload_2 dX12_check_18 ?_
    refine zz_iload_1 dX12_check_19 ?_
    refine zz_icmp_ge 85 dX12_check_20 (by decide) (fun c_20 => ?_) (fun c_20 => ?_)
    · skip
      refine zz_iload_3 dX12_check_85 ?_
      refine zz_if_eq 93 dX12_check_86 (by decide) (fun h => absurd h (by decide)) (fun _ => ?_)
      refine zz_iconst (0) dX12_check_89 (by decide) ?_
      refine zz_goto 96 dX12_check_90 (by decide) ?_
      refine zz_iret rfl dX12_check_96 (by decide) (by decide) ?_
      have hge := zz_gei c_20 (by omega) (by omega)
      obtain rfl : f = 0 := by omega
      rw [sp_ckk] at he
      subst he
      rw [if_pos (by omega)] at h
      exact h _ hj1
    · skip
      refine zz_iload_3 dX12_check_23 ?_
      refine zz_if_eq 85 dX12_check_24 (by decide) (fun h => absurd h (by decide)) (fun _ => ?_)
      have hqn := zz_lti c_20 (by omega) (by omega)
      refine zz_aload_0 dX12_check_27 ?_
      refine zz_getR fl_X12_7 rfl rfl (Nat.lt_of_lt_of_le (by decide) hn) (xr_50_0 hr) dX12_check_28 ?_
      refine zz_iconst (2) dX12_check_31 (by decide) ?_
      refine zz_iald 2 (by decide) (by decide) (by decide) rfl (Nat.lt_of_lt_of_le (by decide) hn) dX12_check_32 ?_
      refine zz_if_le 68 dX12_check_33 (by decide) (fun c_33 => ?_) (fun c_33 => ?_)
      · skip
        refine zz_iconst (0) dX12_check_68 (by decide) ?_
        refine zz_istore_3 dX12_check_69 rfl rfl ?_
        refine zz_iload_2 dX12_check_70 ?_
        refine zz_iload_3 dX12_check_71 ?_
        refine zz_if_eq 79 dX12_check_72 (by decide) (fun _ => ?_) (fun h => absurd h (by decide))
        refine zz_iconst (0) dX12_check_79 (by decide) ?_
        refine zz_iadd dX12_check_80 ?_
        refine zz_istore_2 dX12_check_81 rfl rfl ?_
        refine zz_goto 18 dX12_check_82 (by decide) ?_
        have hno : ¬ (0 < mw ∧ sp_late (g 51) 0 (g 51 0 + 1 + nI q) = g 51 (156 + q)) := by
          first
            | (intro z9; rw [r0 hj1 2 (by decide), hmw] at c_33; exact absurd c_33 (nI_nle z9.1 (by omega)))
            | (intro z9; rw [r0 (mj_tr hj1 j1_48) (156 + q) (by omega), lt9] at c_61; exact c_61 z9.2)
        obtain ⟨f, rfl⟩ : ∃ f2, f = f2 + 1 := ⟨f - 1, by omega⟩
        rw [sp_ckk_no hno] at he
        subst he
        rw [show nI q + 0 = nI q from by rw [show (0 : Int32) = nI 0 from rfl, nI_add, Nat.add_zero]]
        refine x_X12_check ?_
        rw [if_neg (by omega)] at h
        first
          | exact h _ (mj_tr hj1 j1_48)
          | exact h _ hj1
      · skip
        refine zz_aload_0 dX12_check_36 ?_
        refine zz_iconst (0) dX12_check_37 (by decide) ?_
        refine zz_aload_0 dX12_check_38 ?_
        refine zz_getR fl_X12_7 rfl rfl (Nat.lt_of_lt_of_le (by decide) hn) (xr_50_0 hr) dX12_check_39 ?_
        refine zz_iconst (0) dX12_check_42 (by decide) ?_
        refine zz_iald 0 (by decide) (by decide) (by decide) rfl (Nat.lt_of_lt_of_le (by decide) hn) dX12_check_43 ?_
        refine zz_iconst (1) dX12_check_44 (by decide) ?_
        refine zz_iadd dX12_check_45 ?_
        refine zz_iload_2 dX12_check_46 ?_
        refine zz_iadd dX12_check_47 ?_
        rw [r0 hj1 0 (by decide)]
        refine zz_callV2i cv_X12_67 rfl (Nat.lt_of_lt_of_le (by decide) hn) (Nat.le_of_ble_eq_true rfl) (by decide) (by decide) dX12_check_48 (t_X12_lateAt hn hr (mj_51 hj1) (tx_ok_cg (zz_u51 g 4 0 (by decide)) (fun j hj => zz_u51 g 4 0 (by omega)) hT0) 0 (by decide) rfl (fun g1_48 j1_48 => ⟨_, rfl, ?_⟩))
        refine zz_aload_0 dX12_check_51 ?_
        refine zz_getR fl_X12_7 rfl rfl (Nat.lt_of_lt_of_le (by decide) hn) (xr_50_0 hr) dX12_check_52 ?_
        refine zz_sipush (156) dX12_check_55 (by decide) ?_
        refine zz_iload_2 dX12_check_58 ?_
        refine zz_iadd dX12_check_59 ?_
        refine zz_iaN (156 + q) (by show nI 156 + nI q = _; rw [nI_add]) (by omega) (by decide) rfl (Nat.lt_of_lt_of_le (by decide) hn) dX12_check_60 ?_
        refine zz_icmp_ne 68 dX12_check_61 (by decide) (fun c_61 => ?_) (fun c_61 => ?_)
        · skip
          refine zz_iconst (0) dX12_check_68 (by decide) ?_
          refine zz_istore_3 dX12_check_69 rfl rfl ?_
          refine zz_iload_2 dX12_check_70 ?_
          refine zz_iload_3 dX12_check_71 ?_
          refine zz_if_eq 79 dX12_check_72 (by decide) (fun _ => ?_) (fun h => absurd h (by decide))
          refine zz_iconst (0) dX12_check_79 (by decide) ?_
          refine zz_iadd dX12_check_80 ?_
          refine zz_istore_2 dX12_check_81 rfl rfl ?_
          refine zz_goto 18 dX12_check_82 (by decide) ?_
          have hno : ¬ (0 < mw ∧ sp_late (g 51) 0 (g 51 0 + 1 + nI q) = g 51 (156 + q)) := by
            first
              | (intro z9; rw [r0 hj1 2 (by decide), hmw] at c_33; exact absurd c_33 (nI_nle z9.1 (by omega)))
              | (intro z9; rw [r0 (mj_tr hj1 j1_48) (156 + q) (by omega), lt9] at c_61; exact c_61 z9.2)
          obtain ⟨f, rfl⟩ : ∃ f2, f = f2 + 1 := ⟨f - 1, by omega⟩
          rw [sp_ckk_no hno] at he
          subst he
          rw [show nI q + 0 = nI q from by rw [show (0 : Int32) = nI 0 from rfl, nI_add, Nat.add_zero]]
          refine x_X12_check ?_
          rw [if_neg (by omega)] at h
          first
            | exact h _ (mj_tr hj1 j1_48)
            | exact h _ hj1
        · skip
          refine zz_iconst (1) dX12_check_64 (by decide) ?_
          refine zz_goto 69 dX12_check_65 (by decide) ?_
          refine zz_istore_3 dX12_check_69 rfl rfl ?_
          refine zz_iload_2 dX12_check_70 ?_
          refine zz_iload_3 dX12_check_71 ?_
          refine zz_if_eq 79 dX12_check_72 (by decide) (fun h => absurd h (by decide)) (fun _ => ?_)
          refine zz_iconst (1) dX12_check_75 (by decide) ?_
          refine zz_goto 80 dX12_check_76 (by decide) ?_
          refine zz_iadd dX12_check_80 ?_
          refine zz_istore_2 dX12_check_81 rfl rfl ?_
          refine zz_goto 18 dX12_check_82 (by decide) ?_
          have hyes : 0 < mw ∧ sp_late (g 51) 0 (g 51 0 + 1 + nI q) = g 51 (156 + q) := by
            refine ⟨?_, ?_⟩
            · rw [r0 hj1 2 (by decide), hmw] at c_33
              exact Nat.pos_of_ne_zero fun z9 => c_33 (by rw [z9]; decide)
            · rw [r0 (mj_tr hj1 j1_48) (156 + q) (by omega), lt9] at c_61
              exact c_61
          obtain ⟨f, rfl⟩ : ∃ f2, f = f2 + 1 := ⟨f - 1, by omega⟩
          rw [sp_ckk_yes hyes] at he
          rw [nI_1]
          exact ih f (q + 1) _ (mj_tr hj1 j1_48) (by omega) (by omega) he

theorem mj_step {g g1 : zz_G} {j : Nat} {x : Int32} (h : mj_ (zz_u g 51 j x) g1) : ms_F g g1 (zz_u (ms_S g) 51 j x) := ⟨h.1.trans (ms_u x rfl), fun k hk => (h.2 k hk).trans (zz_u_row g x (by omega))⟩
set_option maxRecDepth 100000 in
set_option maxHeartbeats 4000000 in
theorem t_X12_check {C : zz_C} {d n : Nat} {g : zz_G} {r : zz_R} {Q : zz_Q} (hn : 60 ≤ n) (hr : xr r) (mw : Nat) (hmw : g 51 2 = nI mw) (hmw6 : mw ≤ 6) (hT0 : tx_ok (g 51) 0) (nw : Nat) (hnw : g 51 4 = nI nw) (hnw2 : nw ≤ 20) (h : ms_o g r n Q (sp_check (ms_S g))) : zz_T C mi_X12_check (d + 42) 0 0 [.ref 50] g r n Q := by
  refine zz_T.of [some (.ref 50), none, none, none] (by decide +kernel) rfl (Nat.le_of_ble_eq_true rfl) ?_
  refine zz_aload_0 dX12_check_0 ?_
  refine zz_getR fl_X12_7 rfl rfl (Nat.lt_of_lt_of_le (by decide) hn) (xr_50_0 hr) dX12_check_1 ?_
  refine zz_iconst (4) dX12_check_4 (by decide) ?_
  refine zz_iald 4 (by decide) (by decide) (by decide) rfl (Nat.lt_of_lt_of_le (by decide) hn) dX12_check_5 ?_
  refine zz_istore_1 dX12_check_6 rfl rfl ?_
  refine zz_aload_0 dX12_check_7 ?_
  refine zz_getR fl_X12_7 rfl rfl (Nat.lt_of_lt_of_le (by decide) hn) (xr_50_0 hr) dX12_check_8 ?_
  refine zz_iconst (4) dX12_check_11 (by decide) ?_
  refine zz_iconst (0) dX12_check_12 (by decide) ?_
  refine zz_iast 4 (by decide) (by decide) (by decide) rfl (Nat.lt_of_lt_of_le (by decide) hn) dX12_check_13 ?_
  refine zz_iconst (0) dX12_check_14 (by decide) ?_
  refine zz_istore_2 dX12_check_15 rfl rfl ?_
  refine zz_iconst (1) dX12_check_16 (by decide) ?_
  refine zz_istore_3 dX12_check_17 rfl rfl ?_
  rw [sp_check, ms_R, hmw, hnw, ix_w (by omega), ix_w (by omega)] at h
  rw [hnw]
  exact l_X12_check (d := d) hn hr mw hmw hmw6 hT0 nw hnw2 (fun g1 j1 => h g1 (mj_step j1)) (nw + 1) nw 0 _ mj_rf (by omega) (by omega) rfl

def sp_sh (S : zz_G) (m : Nat) : zz_G := fun a b => if a = 51 ∧ 46 ≤ b ∧ b < m then S 51 (b + 6) else S a b
theorem sp_sh_0 (S : zz_G) : sp_sh S 46 = S := by
  funext a b
  unfold sp_sh
  rw [if_neg (by omega)]
theorem sp_sh_s {S : zz_G} {m : Nat} (hm : 46 ≤ m) : zz_u (sp_sh S m) 51 m (sp_sh S m 51 (m + 6)) = sp_sh S (m + 1) := by
  funext a b
  have e : sp_sh S m 51 (m + 6) = S 51 (m + 6) := if_neg (by omega)
  rw [e]
  unfold zz_u sp_sh
  by_cases h : a = 51 ∧ b = m
  · obtain ⟨rfl, rfl⟩ := h
    rw [if_pos ⟨rfl, rfl⟩, if_pos (by omega)]
  · rw [if_neg h]
    by_cases h2 : a = 51 ∧ 46 ≤ b ∧ b < m
    · rw [if_pos h2, if_pos (by omega)]
    · rw [if_neg h2, if_neg (by omega)]
theorem sp_sh_F {g g' S' : zz_G} (h : ms_F g g' S') {m : Nat} : ms_F g (sp_sh g' m) (sp_sh S' m) := by
  refine ⟨?_, fun k hk => ?_⟩
  · rw [← h.1]
    funext a b
    unfold ms_S sp_sh
    by_cases h2 : a = 51 ∧ 46 ≤ b ∧ b < m
    · obtain ⟨rfl, h3⟩ := h2
      rw [if_pos (show ms_k 51 b = true from rfl), if_pos ⟨rfl, h3⟩, if_pos ⟨rfl, h3⟩]
      exact (if_pos (show ms_k 51 (b + 6) = true from rfl)).symm
    · rw [if_neg h2, if_neg h2]
  · rw [show sp_sh g' m k = g' k from funext fun b => if_neg (by omega)]
    exact h.2 k hk
def sp_wr (S : zz_G) (c w : Nat) (num : Int32) : zz_G := zz_u (zz_u (zz_u (zz_u (zz_u (zz_u S 51 (46 + 6 * c) (nI w)) 51 (46 + 6 * c + 1) num) 51 (46 + 6 * c + 2) (S 51 0)) 51 (46 + 6 * c + 3) (S 51 0 + sp_late (S 51) w (S 51 0))) 51 (46 + 6 * c + 4) (S 51 0 + sp_lasts (S 51) w (S 51 9))) 51 (46 + 6 * c + 5) 0
def sp_wrt (S : zz_G) (c w : Nat) (num : Int32) : Int32 × zz_G := (nI c, zz_u (sp_wr S c w num) 51 7 (nI (c + 1)))
def sp_num (S : zz_G) : Int32 := sp_dr (S 51 1) - sp_dr (S 51 1) / sp_tn (S 51 8).toNatClampNeg * sp_tn (S 51 8).toNatClampNeg
def sp_z1 (S : zz_G) : zz_G := zz_u S 51 1 (S 51 1 * 1103515245 + 12345)
def sp_asks (S : zz_G) (w : Nat) : Int32 × zz_G := if S 51 7 = 10 then sp_wrt (zz_u (sp_sh (sp_z1 S) 100) 51 7 9) 9 w (sp_num S) else sp_wrt (sp_z1 S) (S 51 7).toNatClampNeg w (sp_num S)
def sp_ask (S : zz_G) (w : Int32) : Int32 × zz_G := if ¬ sp_isw S w then sp_err S 1 else if S 51 (16 + 5 * w.toNatClampNeg + 4) = 1 then sp_err S 3 else sp_asks S w.toNatClampNeg
set_option maxRecDepth 100000 in
set_option maxHeartbeats 4000000 in
theorem e_X12_asks {C : zz_C} {d n : Nat} {g : zz_G} {r : zz_R} {Q : zz_Q} (hn : 60 ≤ n) (hr : xr r) (hT0 : tx_ok (g 51) 0) {num : Int32} {t3 : Option Value} (w c : Nat) (hw : w < 6) (hc : c ≤ 9) (hc7 : g 51 7 = nI c) (h : ms_o g r n Q (sp_wrt (ms_S g) c w num)) : zz_Z C mi_X12_asks (d + 42) 0 0 0 0 62 [some (.ref 50), some (.int (nI w)), some (.int num), t3] [] g r n Q := by
  have ra : ∀ j, j < 46 ∨ 106 ≤ j → (zz_u (zz_u (zz_u g 51 (46 + 6 * c) (nI w)) 51 (46 + 6 * c + 1) num) 51 (46 + 6 * c + 2) (g 51 0)) 51 j = g 51 j := fun j hj => by rw [zz_u51 _ _ _ (by omega), zz_u51 _ _ _ (by omega), zz_u51 _ _ _ (by omega)]
  have lta : sp_late ((zz_u (zz_u (zz_u g 51 (46 + 6 * c) (nI w)) 51 (46 + 6 * c + 1) num) 51 (46 + 6 * c + 2) (g 51 0)) 51) w (g 51 0) = sp_late (g 51) w (g 51 0) := sp_late_cg hw (ra 5 (by decide)) (fun j h1 h2 => ra j (by omega)) (fun j h1 => ra j (by omega))
  refine zz_bipush (46) dX12_asks_62 (by decide) ?_
  refine zz_bipush (6) dX12_asks_64 (by decide) ?_
  refine zz_aload_0 dX12_asks_66 ?_
  refine zz_getR fl_X12_7 rfl rfl (Nat.lt_of_lt_of_le (by decide) hn) (xr_50_0 hr) dX12_asks_67 ?_
  refine zz_bipush (7) dX12_asks_70 (by decide) ?_
  refine zz_iald 7 (by decide) (by decide) (by decide) rfl (Nat.lt_of_lt_of_le (by decide) hn) dX12_asks_72 ?_
  refine zz_imul dX12_asks_73 ?_
  refine zz_iadd dX12_asks_74 ?_
  rw [hc7]
  refine zz_istore_3 dX12_asks_75 rfl rfl ?_
  refine zz_aload_0 dX12_asks_76 ?_
  refine zz_getR fl_X12_7 rfl rfl (Nat.lt_of_lt_of_le (by decide) hn) (xr_50_0 hr) dX12_asks_77 ?_
  refine zz_iload_3 dX12_asks_80 ?_
  refine zz_iload_1 dX12_asks_81 ?_
  refine zz_isN (46 + 6 * c) (by show nI 46 + nI 6 * nI c = _; rw [pk_mul, nI_add]) (by omega) (by decide) rfl (Nat.lt_of_lt_of_le (by decide) hn) dX12_asks_82 ?_
  refine zz_aload_0 dX12_asks_83 ?_
  refine zz_getR fl_X12_7 rfl rfl (Nat.lt_of_lt_of_le (by decide) hn) (xr_50_0 hr) dX12_asks_84 ?_
  refine zz_iload_3 dX12_asks_87 ?_
  refine zz_iconst (1) dX12_asks_88 (by decide) ?_
  refine zz_iadd dX12_asks_89 ?_
  refine zz_iload_2 dX12_asks_90 ?_
  refine zz_isN (46 + 6 * c + 1) (by show nI 46 + nI 6 * nI c + nI 1 = _; rw [pk_mul, nI_add, nI_add]) (by omega) (by decide) rfl (Nat.lt_of_lt_of_le (by decide) hn) dX12_asks_91 ?_
  refine zz_aload_0 dX12_asks_92 ?_
  refine zz_getR fl_X12_7 rfl rfl (Nat.lt_of_lt_of_le (by decide) hn) (xr_50_0 hr) dX12_asks_93 ?_
  refine zz_iload_3 dX12_asks_96 ?_
  refine zz_iconst (2) dX12_asks_97 (by decide) ?_
  refine zz_iadd dX12_asks_98 ?_
  refine zz_aload_0 dX12_asks_99 ?_
  refine zz_getR fl_X12_7 rfl rfl (Nat.lt_of_lt_of_le (by decide) hn) (xr_50_0 hr) dX12_asks_100 ?_
  refine zz_iconst (0) dX12_asks_103 (by decide) ?_
  refine zz_iald 0 (by decide) (by decide) (by decide) rfl (Nat.lt_of_lt_of_le (by decide) hn) dX12_asks_104 ?_
  simp (disch := omega) only [zz_u_ne2, zz_u_same]
  refine zz_isN (46 + 6 * c + 2) (by show nI 46 + nI 6 * nI c + nI 2 = _; rw [pk_mul, nI_add, nI_add]) (by omega) (by decide) rfl (Nat.lt_of_lt_of_le (by decide) hn) dX12_asks_105 ?_
  refine zz_aload_0 dX12_asks_106 ?_
  refine zz_getR fl_X12_7 rfl rfl (Nat.lt_of_lt_of_le (by decide) hn) (xr_50_0 hr) dX12_asks_107 ?_
  refine zz_iload_3 dX12_asks_110 ?_
  refine zz_iconst (3) dX12_asks_111 (by decide) ?_
  refine zz_iadd dX12_asks_112 ?_
  refine zz_aload_0 dX12_asks_113 ?_
  refine zz_getR fl_X12_7 rfl rfl (Nat.lt_of_lt_of_le (by decide) hn) (xr_50_0 hr) dX12_asks_114 ?_
  refine zz_iconst (0) dX12_asks_117 (by decide) ?_
  refine zz_iald 0 (by decide) (by decide) (by decide) rfl (Nat.lt_of_lt_of_le (by decide) hn) dX12_asks_118 ?_
  refine zz_aload_0 dX12_asks_119 ?_
  refine zz_iload_1 dX12_asks_120 ?_
  refine zz_aload_0 dX12_asks_121 ?_
  refine zz_getR fl_X12_7 rfl rfl (Nat.lt_of_lt_of_le (by decide) hn) (xr_50_0 hr) dX12_asks_122 ?_
  refine zz_iconst (0) dX12_asks_125 (by decide) ?_
  refine zz_iald 0 (by decide) (by decide) (by decide) rfl (Nat.lt_of_lt_of_le (by decide) hn) dX12_asks_126 ?_
  simp (disch := omega) only [zz_u_ne2, zz_u_same]
  refine zz_callV2i cv_X12_67 rfl (Nat.lt_of_lt_of_le (by decide) hn) (Nat.le_of_ble_eq_true rfl) (by decide) (by decide) dX12_asks_127 (t_X12_lateAt hn hr rfl (tx_ok_cg (ra 5 (by decide)) (fun j hj => ra j (by omega)) hT0) w (by omega) rfl (fun g1_127 j1_127 => ⟨_, rfl, ?_⟩))
  refine zz_iadd dX12_asks_130 ?_
  refine zz_isN (46 + 6 * c + 3) (by show nI 46 + nI 6 * nI c + nI 3 = _; rw [pk_mul, nI_add, nI_add]) (by omega) (by decide) rfl (Nat.lt_of_lt_of_le (by decide) hn) dX12_asks_131 ?_
  refine zz_aload_0 dX12_asks_132 ?_
  refine zz_getR fl_X12_7 rfl rfl (Nat.lt_of_lt_of_le (by decide) hn) (xr_50_0 hr) dX12_asks_133 ?_
  refine zz_iload_3 dX12_asks_136 ?_
  refine zz_iconst (4) dX12_asks_137 (by decide) ?_
  refine zz_iadd dX12_asks_138 ?_
  refine zz_aload_0 dX12_asks_139 ?_
  refine zz_getR fl_X12_7 rfl rfl (Nat.lt_of_lt_of_le (by decide) hn) (xr_50_0 hr) dX12_asks_140 ?_
  refine zz_iconst (0) dX12_asks_143 (by decide) ?_
  refine zz_iald 0 (by decide) (by decide) (by decide) rfl (Nat.lt_of_lt_of_le (by decide) hn) dX12_asks_144 ?_
  refine zz_aload_0 dX12_asks_145 ?_
  refine zz_iload_1 dX12_asks_146 ?_
  rw [lta]
  refine zz_callV1i cv_X12_70 rfl (Nat.lt_of_lt_of_le (by decide) hn) (Nat.le_of_ble_eq_true rfl) (by decide) (by decide) dX12_asks_147 (t_X12_lasts hn hr w (by omega) rfl ⟨_, rfl, ?_⟩)
  refine zz_iadd dX12_asks_150 ?_
  refine zz_isN (46 + 6 * c + 4) (by show nI 46 + nI 6 * nI c + nI 4 = _; rw [pk_mul, nI_add, nI_add]) (by omega) (by decide) rfl (Nat.lt_of_lt_of_le (by decide) hn) dX12_asks_151 ?_
  refine zz_aload_0 dX12_asks_152 ?_
  refine zz_getR fl_X12_7 rfl rfl (Nat.lt_of_lt_of_le (by decide) hn) (xr_50_0 hr) dX12_asks_153 ?_
  refine zz_iload_3 dX12_asks_156 ?_
  refine zz_iconst (5) dX12_asks_157 (by decide) ?_
  refine zz_iadd dX12_asks_158 ?_
  refine zz_iconst (0) dX12_asks_159 (by decide) ?_
  refine zz_isN (46 + 6 * c + 5) (by show nI 46 + nI 6 * nI c + nI 5 = _; rw [pk_mul, nI_add, nI_add]) (by omega) (by decide) rfl (Nat.lt_of_lt_of_le (by decide) hn) dX12_asks_160 ?_
  refine zz_aload_0 dX12_asks_161 ?_
  refine zz_getR fl_X12_7 rfl rfl (Nat.lt_of_lt_of_le (by decide) hn) (xr_50_0 hr) dX12_asks_162 ?_
  refine zz_bipush (7) dX12_asks_165 (by decide) ?_
  refine zz_dup2 dX12_asks_167 rfl rfl ?_
  refine zz_iald 7 (by decide) (by decide) (by decide) rfl (Nat.lt_of_lt_of_le (by decide) hn) dX12_asks_168 ?_
  refine zz_iconst (1) dX12_asks_169 (by decide) ?_
  refine zz_iadd dX12_asks_170 ?_
  refine zz_iast 7 (by decide) (by decide) (by decide) rfl (Nat.lt_of_lt_of_le (by decide) hn) dX12_asks_171 ?_
  refine zz_aload_0 dX12_asks_172 ?_
  refine zz_getR fl_X12_7 rfl rfl (Nat.lt_of_lt_of_le (by decide) hn) (xr_50_0 hr) dX12_asks_173 ?_
  refine zz_bipush (7) dX12_asks_176 (by decide) ?_
  refine zz_iald 7 (by decide) (by decide) (by decide) rfl (Nat.lt_of_lt_of_le (by decide) hn) dX12_asks_178 ?_
  refine zz_iconst (1) dX12_asks_179 (by decide) ?_
  refine zz_isub dX12_asks_180 ?_
  refine zz_iret rfl dX12_asks_181 (by decide) (by decide) ?_
  have e51 : ∀ j, g1_127 51 j = (zz_u (zz_u (zz_u g 51 (46 + 6 * c) (nI w)) 51 (46 + 6 * c + 1) num) 51 (46 + 6 * c + 2) (g 51 0)) 51 j := fun j => congrFun (mj_51 j1_127) j
  simp (disch := omega) only [zz_u_ne2, zz_u_same, e51]
  rw [hc7, nI_1, nI_pred]
  have hls : sp_lasts (zz_u g1_127 51 (46 + 6 * c + 3) (g 51 0 + sp_late (g 51) w (g 51 0)) 51) w (g 51 9) = sp_lasts (g 51) w (g 51 9) := sp_lasts_cg hw (fun j h1 h2 => by rw [zz_u51 _ _ _ (by omega), e51]; exact ra j (by omega))
  rw [hls]
  rw [sp_wrt, sp_wr, ms_51, ms_51, ms_R] at h
  have hF : ms_F g g1_127 (zz_u (zz_u (zz_u (ms_S g) 51 (46 + 6 * c) (nI w)) 51 (46 + 6 * c + 1) num) 51 (46 + 6 * c + 2) (g 51 0)) := by
    have hA : ms_F g (zz_u (zz_u (zz_u g 51 (46 + 6 * c) (nI w)) 51 (46 + 6 * c + 1) num) 51 (46 + 6 * c + 2) (g 51 0)) (zz_u (zz_u (zz_u (ms_S g) 51 (46 + 6 * c) (nI w)) 51 (46 + 6 * c + 1) num) 51 (46 + 6 * c + 2) (g 51 0)) := ((ms_F.rf.u rfl (by decide)).u rfl (by decide)).u rfl (by decide)
    exact ⟨j1_127.1.trans hA.1, fun k hk => (j1_127.2 k hk).trans (hA.2 k hk)⟩
  exact h _ ((((hF.u rfl (by decide)).u rfl (by decide)).u rfl (by decide)).u rfl (by decide))
