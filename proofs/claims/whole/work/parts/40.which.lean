def sp_bc (s : Nat) : Int32 := sp_bl 7 (nI s) 0
def sp_ao (R : Nat → Int32) (v : Int32) (m : Nat) : Nat → Nat
  | 0 => 63
  | k + 1 => if sp_lb R (nI (63 - k)) m ≤ v ∧ sp_bc (63 - k) ≤ sp_bc (sp_ao R v m k) then 63 - k else sp_ao R v m k
theorem sp_ao_lt {R : Nat → Int32} {v : Int32} {m : Nat} : ∀ k, sp_ao R v m k < 64
  | 0 => show 63 < 64 by decide
  | k + 1 => by
    rw [sp_ao]
    split
    · omega
    · exact sp_ao_lt k
def sp_atOnce (S : zz_G) (v what : Int32) : Int32 × zz_G := if v < 0 ∨ 6 < v then sp_err S 1 else if what < 0 ∨ 1 < what then sp_err S 1 else (if what = 0 then sp_bc (sp_ao (S 51) v (S 51 2).toNatClampNeg 64) else nI (sp_ao (S 51) v (S 51 2).toNatClampNeg 64), S)
def sp_wi (S : zz_G) (w s : Nat) : Nat → Prop
  | 0 => S 51 (16 + 5 * w + 4) = 0
  | k + 1 => sp_wi S w s k ∧ sp_late (S 51) w (S 51 0 + nI k) = S 57 (40 * s + k)
theorem sp_wi_le {S : zz_G} {w s k : Nat} : ∀ z, k ≤ z → sp_wi S w s z → sp_wi S w s k := by
  intro z hz h
  induction z with
  | zero => rw [show k = 0 by omega]; exact h
  | succ z ih =>
    rcases Nat.lt_or_ge k (z + 1) with q | q
    · exact ih (by omega) h.1
    · rw [show k = z + 1 by omega]; exact h
noncomputable def sp_wh (S : zz_G) (s z : Nat) : Nat → Int32
  | 0 => 0
  | w + 1 => sp_wh S s z w ||| (haveI := Classical.propDecidable (sp_wi S w s z); if sp_wi S w s z then 1 <<< (nI w &&& 31) else 0)
theorem sp_wh_y {S : zz_G} {s z w : Nat} (h : sp_wi S w s z) : sp_wh S s z w ||| 1 <<< (nI w &&& 31) = sp_wh S s z (w + 1) := by rw [sp_wh, if_pos h]
theorem sp_wh_n {S : zz_G} {s z w : Nat} (h : ¬ sp_wi S w s z) : sp_wh S s z w ||| 0 = sp_wh S s z (w + 1) := by rw [sp_wh, if_neg h]
noncomputable def sp_which (S : zz_G) (s : Int32) : Int32 × zz_G := if sp_nosh s then sp_err S 1 else if S 55 s.toNatClampNeg = 0 then sp_err S 2 else (sp_wh S s.toNatClampNeg (S 56 s.toNatClampNeg).toNatClampNeg (S 51 2).toNatClampNeg, S)
theorem sp_wi_cg {S S' : zz_G} {w s : Nat} (h1 : S' 51 = S 51) (h2 : S' 57 = S 57) : ∀ k, sp_wi S' w s k ↔ sp_wi S w s k := by
  intro k
  induction k with
  | zero => rw [sp_wi, sp_wi, h1]
  | succ k ih => rw [sp_wi, sp_wi, h1, h2, ih]
theorem sp_wh_cg {S S' : zz_G} {s z : Nat} (h1 : S' 51 = S 51) (h2 : S' 57 = S 57) : ∀ w, sp_wh S' s z w = sp_wh S s z w := by
  intro w
  induction w with
  | zero => rfl
  | succ w ih =>
    by_cases h : sp_wi S w s z
    · rw [← sp_wh_y h, ← sp_wh_y ((sp_wi_cg h1 h2 z).mpr h), ih]
    · rw [← sp_wh_n h, ← sp_wh_n (fun q => h ((sp_wi_cg h1 h2 z).mp q)), ih]
set_option maxRecDepth 100000 in
set_option maxHeartbeats 4000000 in
theorem l_X12_atOnce {C : zz_C} {d n : Nat} {g : zz_G} {r : zz_R} {Q : zz_Q} (hn : 60 ≤ n) (hr : xr r) (mw : Nat) (hmw : g 51 2 = nI mw) (hmw6 : mw ≤ 6) {v what : Int32} (h : Q (some (.int (if what = 0 then sp_bc (sp_ao (g 51) v mw 64) else nI (sp_ao (g 51) v mw 64)))) g r n) : ∀ (k : Nat) (q : Nat), q ≤ 64 → 64 - q < k → zz_Z C mi_X12_atOnce (d + 2) 0 0 0 0 32 [some (.ref 50), some (.int v), some (.int what), some (.int (nI (sp_ao (g 51) v mw q))), some (.int (if q ≤ 63 then nI (63 - q) else -1))] [] g r n Q := by
  intro k
  induction k with
  | zero => intro q hq hk; exact absurd hk (by omega)
  | succ k ih =>
    intro q hq hk
    refine zz_iload_4 dX12_atOnce_32 ?_
    refine zz_if_lt 72 dX12_atOnce_34 (by decide) (fun c_34 => ?_) (fun c_34 => ?_)
    · skip
      refine zz_iload_2 dX12_atOnce_72 ?_
      refine zz_if_ne 83 dX12_atOnce_73 (by decide) (fun c_73 => ?_) (fun c_73 => ?_)
      · skip
        refine zz_iload_3 dX12_atOnce_83 ?_
        refine zz_iret rfl dX12_atOnce_84 (by decide) (by decide) ?_
        have hq4 : q = 64 := by
          rcases Nat.lt_or_ge q 64 with z9 | z9
          · rw [if_pos (by omega)] at c_34
            exact absurd c_34 (nI_pos (by omega))
          · omega
        subst hq4
        first
          | (rw [if_pos c_73] at h; exact h)
          | (rw [if_neg c_73] at h; exact h)
      · skip
        refine zz_iload_3 dX12_atOnce_76 ?_
        refine zz_callS1i cs_X12_188 (Nat.le_of_ble_eq_true rfl) (by decide) (by decide) dX12_atOnce_77 (t_X12_bits (sp_ao (g 51) v mw q) (sp_ao_lt q) rfl ⟨_, rfl, ?_⟩)
        refine zz_goto 84 dX12_atOnce_80 (by decide) ?_
        refine zz_iret rfl dX12_atOnce_84 (by decide) (by decide) ?_
        have hq4 : q = 64 := by
          rcases Nat.lt_or_ge q 64 with z9 | z9
          · rw [if_pos (by omega)] at c_34
            exact absurd c_34 (nI_pos (by omega))
          · omega
        subst hq4
        first
          | (rw [if_pos c_73] at h; exact h)
          | (rw [if_neg c_73] at h; exact h)
    · skip
      have hq3 : q ≤ 63 := Nat.not_lt.mp fun z9 => c_34 (by rw [if_neg (by omega)]; decide)
      rw [if_pos hq3]
      refine zz_aload_0 dX12_atOnce_37 ?_
      refine zz_iload_4 dX12_atOnce_38 ?_
      refine zz_callV1i cv_X12_185 rfl (Nat.lt_of_lt_of_le (by decide) hn) (Nat.le_of_ble_eq_true rfl) (by decide) (by decide) dX12_atOnce_40 (t_X12_leftBut hn hr mw hmw hmw6 ⟨_, rfl, ?_⟩)
      refine zz_iload_1 dX12_atOnce_43 ?_
      refine zz_icmp_gt 64 dX12_atOnce_44 (by decide) (fun c_44 => ?_) (fun c_44 => ?_)
      · skip
        refine zz_iload_3 dX12_atOnce_64 ?_
        refine zz_istore_3 dX12_atOnce_65 rfl rfl ?_
        refine zz_iinc_4 (-1) dX12_atOnce_66 rfl rfl (by decide) ?_
        refine zz_goto 32 dX12_atOnce_69 (by decide) ?_
        have hnx : nI (63 - q) + -1 = (if q + 1 ≤ 63 then nI (63 - (q + 1)) else -1) := by
          split
          · rw [show 63 - q = (63 - (q + 1)) + 1 by omega, pk_m1]
          · rw [show 63 - q = 0 by omega]; decide
        rw [hnx]
        first
          | rw [show nI (63 - q) = nI (sp_ao (g 51) v mw (q + 1)) from by rw [sp_ao, if_pos ⟨Int32.not_lt.mp c_44, Int32.not_lt.mp c_56⟩]]
          | rw [show sp_ao (g 51) v mw q = sp_ao (g 51) v mw (q + 1) from by rw [sp_ao, if_neg (fun z9 => Int32.not_lt.mpr z9.2 c_56)]]
          | rw [show sp_ao (g 51) v mw q = sp_ao (g 51) v mw (q + 1) from by rw [sp_ao, if_neg (fun z9 => Int32.not_lt.mpr z9.1 c_44)]]
        exact ih (q + 1) (by omega) (by omega)
      · skip
        refine zz_iload_4 dX12_atOnce_47 ?_
        refine zz_callS1i cs_X12_188 (Nat.le_of_ble_eq_true rfl) (by decide) (by decide) dX12_atOnce_49 (t_X12_bits (63 - q) (by omega) rfl ⟨_, rfl, ?_⟩)
        refine zz_iload_3 dX12_atOnce_52 ?_
        refine zz_callS1i cs_X12_188 (Nat.le_of_ble_eq_true rfl) (by decide) (by decide) dX12_atOnce_53 (t_X12_bits (sp_ao (g 51) v mw q) (sp_ao_lt q) rfl ⟨_, rfl, ?_⟩)
        refine zz_icmp_gt 64 dX12_atOnce_56 (by decide) (fun c_56 => ?_) (fun c_56 => ?_)
        · skip
          refine zz_iload_3 dX12_atOnce_64 ?_
          refine zz_istore_3 dX12_atOnce_65 rfl rfl ?_
          refine zz_iinc_4 (-1) dX12_atOnce_66 rfl rfl (by decide) ?_
          refine zz_goto 32 dX12_atOnce_69 (by decide) ?_
          have hnx : nI (63 - q) + -1 = (if q + 1 ≤ 63 then nI (63 - (q + 1)) else -1) := by
            split
            · rw [show 63 - q = (63 - (q + 1)) + 1 by omega, pk_m1]
            · rw [show 63 - q = 0 by omega]; decide
          rw [hnx]
          first
            | rw [show nI (63 - q) = nI (sp_ao (g 51) v mw (q + 1)) from by rw [sp_ao, if_pos ⟨Int32.not_lt.mp c_44, Int32.not_lt.mp c_56⟩]]
            | rw [show sp_ao (g 51) v mw q = sp_ao (g 51) v mw (q + 1) from by rw [sp_ao, if_neg (fun z9 => Int32.not_lt.mpr z9.2 c_56)]]
            | rw [show sp_ao (g 51) v mw q = sp_ao (g 51) v mw (q + 1) from by rw [sp_ao, if_neg (fun z9 => Int32.not_lt.mpr z9.1 c_44)]]
          exact ih (q + 1) (by omega) (by omega)
        · skip
          refine zz_iload_4 dX12_atOnce_59 ?_
          refine zz_goto 65 dX12_atOnce_61 (by decide) ?_
          refine zz_istore_3 dX12_atOnce_65 rfl rfl ?_
          refine zz_iinc_4 (-1) dX12_atOnce_66 rfl rfl (by decide) ?_
          refine zz_goto 32 dX12_atOnce_69 (by decide) ?_
          have hnx : nI (63 - q) + -1 = (if q + 1 ≤ 63 then nI (63 - (q + 1)) else -1) := by
            split
            · rw [show 63 - q = (63 - (q + 1)) + 1 by omega, pk_m1]
            · rw [show 63 - q = 0 by omega]; decide
          rw [hnx]
          first
            | rw [show nI (63 - q) = nI (sp_ao (g 51) v mw (q + 1)) from by rw [sp_ao, if_pos ⟨Int32.not_lt.mp c_44, Int32.not_lt.mp c_56⟩]]
            | rw [show sp_ao (g 51) v mw q = sp_ao (g 51) v mw (q + 1) from by rw [sp_ao, if_neg (fun z9 => Int32.not_lt.mpr z9.2 c_56)]]
            | rw [show sp_ao (g 51) v mw q = sp_ao (g 51) v mw (q + 1) from by rw [sp_ao, if_neg (fun z9 => Int32.not_lt.mpr z9.1 c_44)]]
          exact ih (q + 1) (by omega) (by omega)

set_option maxRecDepth 100000 in
set_option maxHeartbeats 4000000 in
theorem t_X12_atOnce {C : zz_C} {d n : Nat} {g : zz_G} {r : zz_R} {Q : zz_Q} (hn : 60 ≤ n) (hr : xr r) (mw : Nat) (hmw : g 51 2 = nI mw) (hmw6 : mw ≤ 6) {v what : Int32}  (h : ms_o g r n Q (sp_atOnce (ms_S g) v what)) : zz_T C mi_X12_atOnce (d + 2) 0 0 [.ref 50, .int v, .int what] g r n Q := by
  refine zz_T.of [some (.ref 50), some (.int v), some (.int what), none, none] (by decide +kernel) rfl (Nat.le_of_ble_eq_true rfl) ?_
  refine zz_iload_1 dX12_atOnce_0 ?_
  refine zz_iconst (0) dX12_atOnce_1 (by decide) ?_
  refine zz_bipush (6) dX12_atOnce_2 (by decide) ?_
  refine zz_callS3i cs_X12_38 (Nat.le_of_ble_eq_true rfl) (by decide) (by decide) dX12_atOnce_4 (t_X12_in (fun a_4 b_4 => ⟨_, rfl, ?_⟩) (fun o_4 => ⟨_, rfl, ?_⟩))
  · skip
    refine zz_if_eq 19 dX12_atOnce_7 (by decide) (fun h => absurd h (by decide)) (fun _ => ?_)
    refine zz_iload_2 dX12_atOnce_10 ?_
    refine zz_iconst (0) dX12_atOnce_11 (by decide) ?_
    refine zz_iconst (1) dX12_atOnce_12 (by decide) ?_
    refine zz_callS3i cs_X12_38 (Nat.le_of_ble_eq_true rfl) (by decide) (by decide) dX12_atOnce_13 (t_X12_in (fun a_13 b_13 => ⟨_, rfl, ?_⟩) (fun o_13 => ⟨_, rfl, ?_⟩))
    · skip
      refine zz_if_ne 26 dX12_atOnce_16 (by decide) (fun _ => ?_) (fun h => absurd h (by decide))
      refine zz_bipush (63) dX12_atOnce_26 (by decide) ?_
      refine zz_istore_3 dX12_atOnce_28 rfl rfl ?_
      refine zz_iload_3 dX12_atOnce_29 ?_
      refine zz_istore_4 dX12_atOnce_30 rfl rfl ?_
      rw [sp_atOnce, if_neg (fun q => q.elim a_4 b_4), if_neg (fun q => q.elim a_13 b_13), ms_R, hmw, ix_w (by omega)] at h
      exact l_X12_atOnce (d := d) hn hr mw hmw hmw6 (ms_mj h mj_rf) 65 0 (by omega) (by omega)
    · skip
      refine zz_if_ne 26 dX12_atOnce_16 (by decide) (fun h => absurd h (by decide)) (fun _ => ?_)
      refine zz_aload_0 dX12_atOnce_19 ?_
      refine zz_ldc dX12_atOnce_20 ct_X12_50 ?_
      refine zz_callV1i cv_X12_51 rfl (Nat.lt_of_lt_of_le (by decide) hn) (Nat.le_of_ble_eq_true rfl) (by decide) (by decide) dX12_atOnce_22 (t_X12_errs hn hr 1 (by decide) (by decide) ⟨_, rfl, ?_⟩)
      refine zz_iret rfl dX12_atOnce_25 (by decide) (by decide) ?_
      first
        | (rw [sp_atOnce, if_pos o_4] at h; exact ms_er (by decide) h)
        | (rw [sp_atOnce, if_neg (fun q => q.elim a_4 b_4), if_pos o_13] at h; exact ms_er (by decide) h)
  · skip
    refine zz_if_eq 19 dX12_atOnce_7 (by decide) (fun _ => ?_) (fun h => absurd h (by decide))
    refine zz_aload_0 dX12_atOnce_19 ?_
    refine zz_ldc dX12_atOnce_20 ct_X12_50 ?_
    refine zz_callV1i cv_X12_51 rfl (Nat.lt_of_lt_of_le (by decide) hn) (Nat.le_of_ble_eq_true rfl) (by decide) (by decide) dX12_atOnce_22 (t_X12_errs hn hr 1 (by decide) (by decide) ⟨_, rfl, ?_⟩)
    refine zz_iret rfl dX12_atOnce_25 (by decide) (by decide) ?_
    first
      | (rw [sp_atOnce, if_pos o_4] at h; exact ms_er (by decide) h)
      | (rw [sp_atOnce, if_neg (fun q => q.elim a_4 b_4), if_pos o_13] at h; exact ms_er (by decide) h)

set_option maxRecDepth 100000 in
set_option maxHeartbeats 4000000 in
theorem li_X12_which {C : zz_C} {d n : Nat} {g : zz_G} {r : zz_R} {Q : zz_Q} (hn : 60 ≤ n) (hr : xr r) (mw : Nat) (hmw : g 51 2 = nI mw) (hmw6 : mw ≤ 6) (hT0 : tx_ok (g 51) 0) (hT1 : tx_ok (g 51) 1) {v : Int32} (s1 z1 : Nat) (hs1 : s1 < 4) (hz1 : z1 ≤ 40) (es1 : v = nI s1) (ez1 : g 56 s1 = nI z1) (w : Nat) (hw : w < 6) {st2 : Int32} (hk1 : ∀ g2, mj_ g g2 → ∀ is : Int32, (is = 1 ∧ sp_wi g w s1 z1) ∨ (is = 0 ∧ ¬ sp_wi g w s1 z1) → ∀ t5 : Option Value, zz_Z C mi_X12_which (d + 42) 0 0 0 0 121 [some (.ref 50), some (.int v), some (.int st2), some (.int (nI w)), some (.int is), t5] [] g2 r n Q) : ∀ (k : Nat) (q : Nat) (is : Int32), (is = 1 ∧ sp_wi g w s1 q) ∨ (is = 0 ∧ ¬ sp_wi g w s1 z1) → ∀ g1 : zz_G, mj_ g g1 → q ≤ z1 → z1 - q < k → zz_Z C mi_X12_which (d + 42) 0 0 0 0 63 [some (.ref 50), some (.int v), some (.int st2), some (.int (nI w)), some (.int is), some (.int (nI q))] [] g1 r n Q := by
  intro k
  induction k with
  | zero => intro q is his g1 hj1 hq hk; exact absurd hk (by omega)
  | succ k ih =>
    intro q is his g1 hj1 hq hk
    have r57 : ∀ {g2 : zz_G}, mj_ g g2 → g2 57 = g 57 := fun {g2} hj => funext fun j => mj_at hj rfl
    refine zz_iload_5 dX12_which_63 ?_
    refine zz_aload_0 dX12_which_65 ?_
    refine zz_getR fl_X12_25 rfl rfl (Nat.lt_of_lt_of_le (by decide) hn) (xr_50_15 hr) dX12_which_66 ?_
    refine zz_iload_1 dX12_which_69 ?_
    refine zz_iaN s1 es1 (by omega) (by decide) rfl (Nat.lt_of_lt_of_le (by decide) hn) dX12_which_70 ?_
    rw [show g1 56 = g 56 from funext fun j => mj_at hj1 rfl, ez1]
    refine zz_icmp_ge 121 dX12_which_71 (by decide) (fun c_71 => ?_) (fun c_71 => ?_)
    · skip
      have hge := zz_gei c_71 (by omega) (by omega)
      obtain rfl : q = z1 := by omega
      exact hk1 _ hj1 _ his _
    · skip
      refine zz_iload_4 dX12_which_74 ?_
      refine zz_if_eq 121 dX12_which_76 (by decide) (fun c_76 => ?_) (fun c_76 => ?_)
      · skip
        refine hk1 _ hj1 _ ?_ _
        rcases his with z9 | z9
        · exact absurd (c_76.symm.trans z9.1) (by decide)
        · exact Or.inr z9
      · skip
        have hqz := zz_lti c_71 (by omega) (by omega)
        obtain ⟨his1, hw1⟩ := his.resolve_right (fun z9 => c_76 z9.1)
        refine zz_aload_0 dX12_which_79 ?_
        refine zz_iload_3 dX12_which_80 ?_
        refine zz_aload_0 dX12_which_81 ?_
        refine zz_getR fl_X12_7 rfl rfl (Nat.lt_of_lt_of_le (by decide) hn) (xr_50_0 hr) dX12_which_82 ?_
        refine zz_iconst (0) dX12_which_85 (by decide) ?_
        refine zz_iald 0 (by decide) (by decide) (by decide) rfl (Nat.lt_of_lt_of_le (by decide) hn) dX12_which_86 ?_
        refine zz_iload_5 dX12_which_87 ?_
        refine zz_iadd dX12_which_89 ?_
        rw [show g1 51 0 = g 51 0 from mj_at hj1 rfl]
        refine zz_callV2i cv_X12_67 rfl (Nat.lt_of_lt_of_le (by decide) hn) (Nat.le_of_ble_eq_true rfl) (by decide) (by decide) dX12_which_90 (t_X12_lateAt hn hr (mj_51 hj1) hT0 w hw rfl (fun g1_90 j1_90 => ⟨_, rfl, ?_⟩))
        refine zz_aload_0 dX12_which_93 ?_
        refine zz_getR fl_X12_28 rfl rfl (Nat.lt_of_lt_of_le (by decide) hn) (xr_50_16 hr) dX12_which_94 ?_
        refine zz_bipush (40) dX12_which_97 (by decide) ?_
        refine zz_iload_1 dX12_which_99 ?_
        refine zz_imul dX12_which_100 ?_
        refine zz_iload_5 dX12_which_101 ?_
        refine zz_iadd dX12_which_103 ?_
        refine zz_iaN (40 * s1 + q) (by rw [es1]; show nI 40 * nI s1 + nI q = _; rw [pk_mul, nI_add]) (by omega) (by decide) rfl (Nat.lt_of_lt_of_le (by decide) hn) dX12_which_104 ?_
        refine zz_icmp_ne 112 dX12_which_105 (by decide) (fun c_105 => ?_) (fun c_105 => ?_)
        · skip
          refine zz_iconst (0) dX12_which_112 (by decide) ?_
          refine zz_istore_4 dX12_which_113 rfl rfl ?_
          refine zz_iinc_5 (1) dX12_which_115 rfl rfl (by decide) ?_
          refine zz_goto 63 dX12_which_118 (by decide) ?_
          rw [nI_1]
          exact ih (q + 1) _ (Or.inr ⟨rfl, fun z9 => c_105 (by rw [r57 (mj_tr hj1 j1_90)]; exact (sp_wi_le z1 (show q + 1 ≤ z1 by omega) z9).2)⟩) _ (mj_tr hj1 j1_90) (by omega) (by omega)
        · skip
          refine zz_iconst (1) dX12_which_108 (by decide) ?_
          refine zz_goto 113 dX12_which_109 (by decide) ?_
          refine zz_istore_4 dX12_which_113 rfl rfl ?_
          refine zz_iinc_5 (1) dX12_which_115 rfl rfl (by decide) ?_
          refine zz_goto 63 dX12_which_118 (by decide) ?_
          rw [nI_1]
          exact ih (q + 1) _ (Or.inl ⟨rfl, hw1, by rw [r57 (mj_tr hj1 j1_90)] at c_105; exact c_105⟩) _ (mj_tr hj1 j1_90) (by omega) (by omega)

set_option maxRecDepth 100000 in
set_option maxHeartbeats 4000000 in
theorem x_X12_which {C : zz_C} {d n : Nat} {g : zz_G} {r : zz_R} {Q : zz_Q} {v st2 is : Int32} {w : Nat} {t5 : Option Value} (h1 : ¬ is = 0 → zz_Z C mi_X12_which (d + 42) 0 0 0 0 34 [some (.ref 50), some (.int v), some (.int (st2 ||| 1 <<< (nI w &&& 31))), some (.int (nI w + 1)), some (.int is), t5] [] g r n Q) (h0 : is = 0 → zz_Z C mi_X12_which (d + 42) 0 0 0 0 34 [some (.ref 50), some (.int v), some (.int (st2 ||| 0)), some (.int (nI w + 1)), some (.int is), t5] [] g r n Q) : zz_Z C mi_X12_which (d + 42) 0 0 0 0 121 [some (.ref 50), some (.int v), some (.int st2), some (.int (nI w)), some (.int is), t5] [] g r n Q := by
  refine zz_iload_2 dX12_which_121 ?_
  refine zz_iload_4 dX12_which_122 ?_
  refine zz_if_eq 133 dX12_which_124 (by decide) (fun c_124 => ?_) (fun c_124 => ?_)
  · skip
    refine zz_iconst (0) dX12_which_133 (by decide) ?_
    refine zz_ior dX12_which_134 ?_
    refine zz_istore_2 dX12_which_135 rfl rfl ?_
    refine zz_iinc_3 (1) dX12_which_136 rfl rfl (by decide) ?_
    refine zz_goto 34 dX12_which_139 (by decide) ?_
    first
      | exact h1 c_124
      | exact h0 c_124
  · skip
    refine zz_iconst (1) dX12_which_127 (by decide) ?_
    refine zz_iload_3 dX12_which_128 ?_
    refine zz_ishl dX12_which_129 ?_
    refine zz_goto 134 dX12_which_130 (by decide) ?_
    refine zz_ior dX12_which_134 ?_
    refine zz_istore_2 dX12_which_135 rfl rfl ?_
    refine zz_iinc_3 (1) dX12_which_136 rfl rfl (by decide) ?_
    refine zz_goto 34 dX12_which_139 (by decide) ?_
    first
      | exact h1 c_124
      | exact h0 c_124

set_option maxRecDepth 100000 in
set_option maxHeartbeats 4000000 in
theorem l_X12_which {C : zz_C} {d n : Nat} {g : zz_G} {r : zz_R} {Q : zz_Q} (hn : 60 ≤ n) (hr : xr r) (mw : Nat) (hmw : g 51 2 = nI mw) (hmw6 : mw ≤ 6) (hT0 : tx_ok (g 51) 0) (hT1 : tx_ok (g 51) 1) {v : Int32} (s1 z1 : Nat) (hs1 : s1 < 4) (hz1 : z1 ≤ 40) (es1 : v = nI s1) (ez1 : g 56 s1 = nI z1) (h : ∀ g2, mj_ g g2 → Q (some (.int (sp_wh g s1 z1 mw))) g2 r n) : ∀ (k : Nat) (t4 t5 : Option Value) (w : Nat) (g1 : zz_G), mj_ g g1 → w ≤ mw → mw - w < k → zz_Z C mi_X12_which (d + 42) 0 0 0 0 34 [some (.ref 50), some (.int v), some (.int (sp_wh g s1 z1 w)), some (.int (nI w)), t4, t5] [] g1 r n Q := by
  intro k
  induction k with
  | zero => intro t4 t5 w g1 hj1 hw hk; exact absurd hk (by omega)
  | succ k ih =>
    intro t4 t5 w g1 hj1 hw hk
    refine zz_iload_3 dX12_which_34 ?_
    refine zz_aload_0 dX12_which_35 ?_
    refine zz_getR fl_X12_7 rfl rfl (Nat.lt_of_lt_of_le (by decide) hn) (xr_50_0 hr) dX12_which_36 ?_
    refine zz_iconst (2) dX12_which_39 (by decide) ?_
    refine zz_iald 2 (by decide) (by decide) (by decide) rfl (Nat.lt_of_lt_of_le (by decide) hn) dX12_which_40 ?_
    rw [show g1 51 = g 51 from mj_51 hj1, hmw]
    refine zz_icmp_ge 142 dX12_which_41 (by decide) (fun c_41 => ?_) (fun c_41 => ?_)
    · skip
      refine zz_iload_2 dX12_which_142 ?_
      refine zz_iret rfl dX12_which_143 (by decide) (by decide) ?_
      have hge := zz_gei c_41 (by omega) (by omega)
      obtain rfl : w = mw := by omega
      exact h _ hj1
    · skip
      refine zz_aload_0 dX12_which_44 ?_
      refine zz_iload_3 dX12_which_45 ?_
      refine zz_iconst (4) dX12_which_46 (by decide) ?_
      have hwm := zz_lti c_41 (by omega) (by omega)
      refine zz_callV2i cv_X12_64 rfl (Nat.lt_of_lt_of_le (by decide) hn) (Nat.le_of_ble_eq_true rfl) (by decide) (by decide) dX12_which_47 (t_X12_its hn hr w 4 rfl rfl (by omega) ⟨_, rfl, ?_⟩)
      rw [show g1 51 = g 51 from mj_51 hj1]
      refine zz_if_ne 57 dX12_which_50 (by decide) (fun c_50 => ?_) (fun c_50 => ?_)
      · skip
        refine zz_iconst (0) dX12_which_57 (by decide) ?_
        refine zz_istore_4 dX12_which_58 rfl rfl ?_
        refine zz_iconst (0) dX12_which_60 (by decide) ?_
        refine zz_istore_5 dX12_which_61 rfl rfl ?_
        refine li_X12_which (d := d) hn hr mw hmw hmw6 hT0 hT1 s1 z1 hs1 hz1 es1 ez1 w (by omega) (fun g2 j2 is his t9 => ?_) 41 0 _ (Or.inr ⟨rfl, fun z9 => c_50 (sp_wi_le z1 (Nat.zero_le _) z9)⟩) g1 hj1 (by omega) (by omega)
        exact x_X12_which (d := d) (fun y9 => by rw [sp_wh_y (his.resolve_right (fun z9 => y9 z9.1)).2, nI_1]; exact ih _ _ (w + 1) _ j2 (by omega) (by omega)) (fun y9 => by rw [sp_wh_n (his.resolve_left (fun z9 => absurd (z9.1.symm.trans y9) (by decide))).2, nI_1]; exact ih _ _ (w + 1) _ j2 (by omega) (by omega))
      · skip
        refine zz_iconst (1) dX12_which_53 (by decide) ?_
        refine zz_goto 58 dX12_which_54 (by decide) ?_
        refine zz_istore_4 dX12_which_58 rfl rfl ?_
        refine zz_iconst (0) dX12_which_60 (by decide) ?_
        refine zz_istore_5 dX12_which_61 rfl rfl ?_
        refine li_X12_which (d := d) hn hr mw hmw hmw6 hT0 hT1 s1 z1 hs1 hz1 es1 ez1 w (by omega) (fun g2 j2 is his t9 => ?_) 41 0 _ (Or.inl ⟨rfl, c_50⟩) g1 hj1 (by omega) (by omega)
        exact x_X12_which (d := d) (fun y9 => by rw [sp_wh_y (his.resolve_right (fun z9 => y9 z9.1)).2, nI_1]; exact ih _ _ (w + 1) _ j2 (by omega) (by omega)) (fun y9 => by rw [sp_wh_n (his.resolve_left (fun z9 => absurd (z9.1.symm.trans y9) (by decide))).2, nI_1]; exact ih _ _ (w + 1) _ j2 (by omega) (by omega))

set_option maxRecDepth 100000 in
set_option maxHeartbeats 4000000 in
theorem t_X12_which {C : zz_C} {d n : Nat} {g : zz_G} {r : zz_R} {Q : zz_Q} (hn : 60 ≤ n) (hr : xr r) (mw : Nat) (hmw : g 51 2 = nI mw) (hmw6 : mw ≤ 6) {v : Int32} (hz : ∀ s : Nat, s < 4 → ∃ z : Nat, z ≤ 40 ∧ g 56 s = nI z) (hT0 : tx_ok (g 51) 0) (hT1 : tx_ok (g 51) 1) (h : ms_o g r n Q (sp_which (ms_S g) v)) : zz_T C mi_X12_which (d + 42) 0 0 [.ref 50, .int v] g r n Q := by
  refine zz_T.of [some (.ref 50), some (.int v), none, none, none, none] (by decide +kernel) rfl (Nat.le_of_ble_eq_true rfl) ?_
  refine zz_iload_1 dX12_which_0 ?_
  refine zz_callS1i cs_X12_191 (Nat.le_of_ble_eq_true rfl) (by decide) (by decide) dX12_which_1 (t_X12_isSheet (fun a_1 b_1 => ⟨_, rfl, ?_⟩) (fun o_1 => ⟨_, rfl, ?_⟩))
  · skip
    refine zz_if_ne 14 dX12_which_4 (by decide) (fun _ => ?_) (fun h => absurd h (by decide))
    refine zz_aload_0 dX12_which_14 ?_
    refine zz_getR fl_X12_22 rfl rfl (Nat.lt_of_lt_of_le (by decide) hn) (xr_50_14 hr) dX12_which_15 ?_
    refine zz_iload_1 dX12_which_18 ?_
    obtain ⟨s1, hs0, hs1, es1⟩ := zz_in0 (lo := 0) (hi := 3) rfl rfl (by decide) (by decide) a_1 b_1
    obtain ⟨z1, hz1, ez1⟩ := hz s1 (by omega)
    refine zz_iaN s1 es1 (by omega) (by decide) rfl (Nat.lt_of_lt_of_le (by decide) hn) dX12_which_19 ?_
    refine zz_if_ne 30 dX12_which_20 (by decide) (fun c_20 => ?_) (fun c_20 => ?_)
    · skip
      refine zz_iconst (0) dX12_which_30 (by decide) ?_
      refine zz_istore_2 dX12_which_31 rfl rfl ?_
      refine zz_iconst (0) dX12_which_32 (by decide) ?_
      refine zz_istore_3 dX12_which_33 rfl rfl ?_
      rw [sp_which, if_neg (fun q => q.elim a_1 b_1), es1, ix_w (by omega), ms_55, if_neg c_20, ms_51, ms_56, hmw, ix_w (by omega), ez1, ix_w (by omega), sp_wh_cg (ms_R g) (ms_R57 g)] at h
      exact l_X12_which (d := d) hn hr mw hmw hmw6 hT0 hT1 s1 z1 (by omega) hz1 es1 ez1 (fun g2 j2 => ms_mj h j2) (mw + 1) _ _ 0 g mj_rf (by omega) (by omega)
    · skip
      refine zz_aload_0 dX12_which_23 ?_
      refine zz_ldc dX12_which_24 ct_X12_184 ?_
      refine zz_callV1i cv_X12_51 rfl (Nat.lt_of_lt_of_le (by decide) hn) (Nat.le_of_ble_eq_true rfl) (by decide) (by decide) dX12_which_26 (t_X12_errs hn hr 2 (by decide) (by decide) ⟨_, rfl, ?_⟩)
      refine zz_iret rfl dX12_which_29 (by decide) (by decide) ?_
      rw [sp_which, if_neg (fun q => q.elim a_1 b_1), es1, ix_w (by omega), ms_55, if_pos c_20] at h
      exact ms_er (by decide) h
  · skip
    refine zz_if_ne 14 dX12_which_4 (by decide) (fun h => absurd h (by decide)) (fun _ => ?_)
    refine zz_aload_0 dX12_which_7 ?_
    refine zz_ldc dX12_which_8 ct_X12_50 ?_
    refine zz_callV1i cv_X12_51 rfl (Nat.lt_of_lt_of_le (by decide) hn) (Nat.le_of_ble_eq_true rfl) (by decide) (by decide) dX12_which_10 (t_X12_errs hn hr 1 (by decide) (by decide) ⟨_, rfl, ?_⟩)
    refine zz_iret rfl dX12_which_13 (by decide) (by decide) ?_
    rw [sp_which, if_pos o_1] at h
    exact ms_er (by decide) h
