/-! only the model's own scratch has changed -/
def mj_ (g g' : zz_G) : Prop := ms_F g g' (ms_S g)
theorem mj_rf {g : zz_G} : mj_ g g := ms_F.rf
theorem mj_tr {g g1 g2 : zz_G} (h : mj_ g g1) (h2 : mj_ g1 g2) : mj_ g g2 := ⟨h2.1.trans h.1, fun k hk => (h2.2 k hk).trans (h.2 k hk)⟩
theorem mj_at {g g' : zz_G} (h : mj_ g g') {k j : Nat} (hk : ms_k k j = true) : g' k j = g k j := by
  have := congrFun (congrFun h.1 k) j
  rwa [ms_at hk, ms_at hk] at this
theorem mj_51 {g g' : zz_G} (h : mj_ g g') : g' 51 = g 51 := funext fun j => mj_at h rfl
theorem mj_F {g g' g2 S' : zz_G} (h : mj_ g g') (h2 : ms_F g' g2 S') : ms_F g g2 S' := ⟨h2.1, fun k hk => (h2.2 k hk).trans (h.2 k hk)⟩
theorem mj_o {g g' : zz_G} {r : zz_R} {n : Nat} {Q : zz_Q} {sp : Int32 × zz_G} (h : mj_ g g') (ho : ms_o g r n Q sp) : ms_o g' r n Q sp := fun g2 h2 => ho g2 (mj_F h h2)
def pm0 (g : zz_G) (w e x y z : Int32) : zz_G := zz_u (zz_u (zz_u (zz_u (zz_u g 50 6 w) 50 8 e) 50 10 x) 50 11 y) 50 12 z
theorem pm_start (g : zz_G) (w e x y z : Int32) : zz_u (zz_u (zz_u (zz_u (zz_u (zz_u (zz_u (zz_u g 50 6 w) 50 7 0) 50 8 e) 50 9 0) 50 13 1) 50 10 x) 50 11 y) 50 12 z = pm_ (pm0 g w e x y z) 0 0 1 := by
  funext a b
  by_cases ha : a = 50
  · subst ha
    by_cases h6 : b = 6
    · subst h6; rfl
    by_cases h7 : b = 7
    · subst h7; rfl
    by_cases h8 : b = 8
    · subst h8; rfl
    by_cases h9 : b = 9
    · subst h9; rfl
    by_cases h10 : b = 10
    · subst h10; rfl
    by_cases h11 : b = 11
    · subst h11; rfl
    by_cases h12 : b = 12
    · subst h12; rfl
    by_cases h13 : b = 13
    · subst h13; rfl
    simp [zz_u, pm_, pm0, h6, h7, h8, h9, h10, h11, h12, h13]
  · simp [zz_u, pm_, pm0, ha]
theorem pm0_51 (g : zz_G) (w e x y z : Int32) : pm0 g w e x y z 51 = g 51 := by
  unfold pm0
  rw [zz_u_row _ _ (by decide), zz_u_row _ _ (by decide), zz_u_row _ _ (by decide), zz_u_row _ _ (by decide), zz_u_row _ _ (by decide)]
theorem pm0_mj (g : zz_G) (w e x y z : Int32) (k o : Nat) (gd : Int32) : mj_ g (pm_ (pm0 g w e x y z) k o gd) := by
  have h0 : mj_ g (pm0 g w e x y z) := ((((ms_F.rf.j rfl (by decide)).j rfl (by decide)).j rfl (by decide)).j rfl (by decide)).j rfl (by decide)
  have h1 : pm_ (pm0 g w e x y z) k o gd = zz_u (zz_u (zz_u (pm0 g w e x y z) 50 13 gd) 50 9 (nI o)) 50 7 (nI k) := by
    funext a b
    simp only [pm_, zz_u]
  rw [h1]
  exact mj_tr h0 (((ms_F.rf.j rfl (by decide)).j rfl (by decide)).j rfl (by decide))
theorem pm0_k (g : zz_G) (w e x y z : Int32) (k o : Nat) (gd : Int32) : ∀ a, a ≠ 50 → pm_ (pm0 g w e x y z) k o gd a = g a := by
  intro a ha
  funext b
  simp [pm_, pm0, zz_u, ha]
/-- a text that is kept reads well, whatever its names stand for -/
def tx_ok (R : Nat → Int32) (u : Nat) : Prop := R (5 + u) < 0 ∨ ∃ len : Nat, len ≤ 50 ∧ R (5 + u) = nI len ∧ ∀ x y z : Int32, (pz_run (pz_b R u len) u x y z).1 = true

set_option maxRecDepth 100000 in
set_option maxHeartbeats 4000000 in
theorem t_X12_walks0 {C : zz_C} {d n : Nat} {g : zz_G} {r : zz_R} {Q : zz_Q} (hn : 60 ≤ n) (hr : xr r) {x y z : Int32} {len : Nat} (hlen : g 51 5 = nI len) (hl5 : len ≤ 50) (h1 : (pz_run (pz_b (g 51) 0 len) 0 x y z).1 = true ∧ (pz_run (pz_b (g 51) 0 len) 0 x y z).2.1 = len → ∀ g', mj_ g g' → (∀ k, k ≠ 50 → g' k = g k) → g' 50 7 = nI (pz_run (pz_b (g 51) 0 len) 0 x y z).2.1 → g' 50 13 = 1 → Q (some (.int (pz_run (pz_b (g 51) 0 len) 0 x y z).2.2.1)) g' r n) (h0 : ¬ ((pz_run (pz_b (g 51) 0 len) 0 x y z).1 = true ∧ (pz_run (pz_b (g 51) 0 len) 0 x y z).2.1 = len) → ∀ g' v, mj_ g g' → (∀ k, k ≠ 50 → g' k = g k) → g' 50 7 = nI (pz_run (pz_b (g 51) 0 len) 0 x y z).2.1 → g' 50 13 = 0 → ((pz_run (pz_b (g 51) 0 len) 0 x y z).1 = true → v = (pz_run (pz_b (g 51) 0 len) 0 x y z).2.2.1) → Q (some (.int v)) g' r n) : zz_T C mi_X12_walks (d + 39) 0 0 [.ref 50, .int 0, .int x, .int y, .int z] g r n Q := by
  refine zz_T.of [some (.ref 50), some (.int 0), some (.int x), some (.int y), some (.int z), none] (by decide +kernel) rfl (Nat.le_of_ble_eq_true rfl) ?_
  refine zz_aload_0 dX12_walks_0 ?_
  refine zz_iload_1 dX12_walks_1 ?_
  refine zz_putI fl_X12_81 rfl rfl (Nat.lt_of_lt_of_le (by decide) hn) dX12_walks_2 ?_
  refine zz_aload_0 dX12_walks_5 ?_
  refine zz_iconst (0) dX12_walks_6 (by decide) ?_
  refine zz_putI fl_X12_88 rfl rfl (Nat.lt_of_lt_of_le (by decide) hn) dX12_walks_7 ?_
  refine zz_aload_0 dX12_walks_10 ?_
  refine zz_aload_0 dX12_walks_11 ?_
  refine zz_getR fl_X12_7 rfl rfl (Nat.lt_of_lt_of_le (by decide) hn) (xr_50_0 hr) dX12_walks_12 ?_
  refine zz_iconst (5) dX12_walks_15 (by decide) ?_
  refine zz_iload_1 dX12_walks_16 ?_
  refine zz_iadd dX12_walks_17 ?_
  refine zz_iaN 5 (by decide) (by decide) (by decide) rfl (Nat.lt_of_lt_of_le (by decide) hn) dX12_walks_18 ?_
  refine zz_putI fl_X12_77 rfl rfl (Nat.lt_of_lt_of_le (by decide) hn) dX12_walks_19 ?_
  refine zz_aload_0 dX12_walks_22 ?_
  refine zz_iconst (0) dX12_walks_23 (by decide) ?_
  refine zz_putI fl_X12_116 rfl rfl (Nat.lt_of_lt_of_le (by decide) hn) dX12_walks_24 ?_
  refine zz_aload_0 dX12_walks_27 ?_
  refine zz_iconst (1) dX12_walks_28 (by decide) ?_
  refine zz_putZ fl_X12_84 rfl rfl (Nat.lt_of_lt_of_le (by decide) hn) (by decide) dX12_walks_29 ?_
  refine zz_aload_0 dX12_walks_32 ?_
  refine zz_iload_2 dX12_walks_33 ?_
  refine zz_putI fl_X12_101 rfl rfl (Nat.lt_of_lt_of_le (by decide) hn) dX12_walks_34 ?_
  refine zz_aload_0 dX12_walks_37 ?_
  refine zz_iload_3 dX12_walks_38 ?_
  refine zz_putI fl_X12_104 rfl rfl (Nat.lt_of_lt_of_le (by decide) hn) dX12_walks_39 ?_
  refine zz_aload_0 dX12_walks_42 ?_
  refine zz_iload_4 dX12_walks_43 ?_
  refine zz_putI fl_X12_107 rfl rfl (Nat.lt_of_lt_of_le (by decide) hn) dX12_walks_45 ?_
  rw [pm_start, show zz_u (zz_u g 50 6 0) 50 7 0 51 5 = nI len from hlen]
  have hwh := (a_X12_factor0 (C := C) (g := pm0 g 0 (nI len) x y z) hn hr rfl rfl hl5 5 (Nat.le_refl _)).2
  rw [pm0_51, show pm0 g 0 (nI len) x y z 50 10 = x from rfl, show pm0 g 0 (nI len) x y z 50 11 = y from rfl, show pm0 g 0 (nI len) x y z 50 12 = z from rfl] at hwh
  refine zz_aload_0 dX12_walks_48 ?_
  refine zz_callV0i cv_X12_122 rfl (Nat.lt_of_lt_of_le (by decide) hn) (Nat.le_of_ble_eq_true rfl) (by decide) (by decide) dX12_walks_49 (hwh _ 0 _ (by omega) (Nat.zero_le _) (fun s_49 => ⟨_, rfl, ?_⟩) (fun s_49 v_49 => ⟨_, rfl, ?_⟩))
  · skip
    refine zz_istore_5 dX12_walks_52 rfl rfl ?_
    refine zz_aload_0 dX12_walks_54 ?_
    refine zz_aload_0 dX12_walks_55 ?_
    refine zz_getI fl_X12_84 rfl rfl (Nat.lt_of_lt_of_le (by decide) hn) dX12_walks_56 ?_
    rw [pm_g]
    refine zz_if_eq 77 dX12_walks_59 (by decide) (fun h => absurd h (by decide)) (fun _ => ?_)
    refine zz_aload_0 dX12_walks_62 ?_
    refine zz_getI fl_X12_88 rfl rfl (Nat.lt_of_lt_of_le (by decide) hn) dX12_walks_63 ?_
    refine zz_aload_0 dX12_walks_66 ?_
    refine zz_getI fl_X12_77 rfl rfl (Nat.lt_of_lt_of_le (by decide) hn) dX12_walks_67 ?_
    refine zz_icmp_ne 77 dX12_walks_70 (by decide) (fun c_70 => ?_) (fun c_70 => ?_)
    · skip
      refine zz_iconst (0) dX12_walks_77 (by decide) ?_
      refine zz_putZ fl_X12_84 rfl rfl (Nat.lt_of_lt_of_le (by decide) hn) (by decide) dX12_walks_78 ?_
      refine zz_iload_5 dX12_walks_81 ?_
      refine zz_iret rfl dX12_walks_83 (by decide) (by decide) ?_
      have hle : (pz_run (pz_b (g 51) 0 len) 0 x y z).2.1 ≤ len := (pz_up_ok (R := g 51) (u := 0) (pz_f_ok (R := g 51) (u := 0) (x := x) (y := y) (z := z) 5) 5 0 (Nat.zero_le _)).2.1
      have hle2 : (pz_up (pz_b (g 51) 0 len) (pz_f (pz_b (g 51) 0 len) 0 x y z 5) 5 0).2.1 ≤ len := hle
      rw [pm_ug]
      rw [pm_k, pm_8, show pm0 g 0 (nI len) x y z 50 8 = nI len from rfl] at c_70
      first
        | exact h1 ⟨s_49, (nI_eq (by omega) (by omega)).mp c_70⟩ _ (pm0_mj _ _ _ _ _ _ _ _ _) (pm0_k _ _ _ _ _ _ _ _ _) rfl rfl
        | exact h0 (fun q => c_70 ((nI_eq (by omega) (by omega)).mpr q.2)) _ _ (pm0_mj _ _ _ _ _ _ _ _ _) (pm0_k _ _ _ _ _ _ _ _ _) rfl rfl (fun _ => rfl)
    · skip
      refine zz_iconst (1) dX12_walks_73 (by decide) ?_
      refine zz_goto 78 dX12_walks_74 (by decide) ?_
      refine zz_putZ fl_X12_84 rfl rfl (Nat.lt_of_lt_of_le (by decide) hn) (by decide) dX12_walks_78 ?_
      refine zz_iload_5 dX12_walks_81 ?_
      refine zz_iret rfl dX12_walks_83 (by decide) (by decide) ?_
      have hle : (pz_run (pz_b (g 51) 0 len) 0 x y z).2.1 ≤ len := (pz_up_ok (R := g 51) (u := 0) (pz_f_ok (R := g 51) (u := 0) (x := x) (y := y) (z := z) 5) 5 0 (Nat.zero_le _)).2.1
      have hle2 : (pz_up (pz_b (g 51) 0 len) (pz_f (pz_b (g 51) 0 len) 0 x y z 5) 5 0).2.1 ≤ len := hle
      rw [pm_ug]
      rw [pm_k, pm_8, show pm0 g 0 (nI len) x y z 50 8 = nI len from rfl] at c_70
      first
        | exact h1 ⟨s_49, (nI_eq (by omega) (by omega)).mp c_70⟩ _ (pm0_mj _ _ _ _ _ _ _ _ _) (pm0_k _ _ _ _ _ _ _ _ _) rfl rfl
        | exact h0 (fun q => c_70 ((nI_eq (by omega) (by omega)).mpr q.2)) _ _ (pm0_mj _ _ _ _ _ _ _ _ _) (pm0_k _ _ _ _ _ _ _ _ _) rfl rfl (fun _ => rfl)
  · skip
    refine zz_istore_5 dX12_walks_52 rfl rfl ?_
    refine zz_aload_0 dX12_walks_54 ?_
    refine zz_aload_0 dX12_walks_55 ?_
    refine zz_getI fl_X12_84 rfl rfl (Nat.lt_of_lt_of_le (by decide) hn) dX12_walks_56 ?_
    rw [pm_g]
    refine zz_if_eq 77 dX12_walks_59 (by decide) (fun _ => ?_) (fun h => absurd h (by decide))
    refine zz_iconst (0) dX12_walks_77 (by decide) ?_
    refine zz_putZ fl_X12_84 rfl rfl (Nat.lt_of_lt_of_le (by decide) hn) (by decide) dX12_walks_78 ?_
    refine zz_iload_5 dX12_walks_81 ?_
    refine zz_iret rfl dX12_walks_83 (by decide) (by decide) ?_
    rw [pm_ug]
    exact h0 (fun q => by rw [show (pz_run (pz_b (g 51) 0 len) 0 x y z).1 = false from s_49] at q; exact absurd q.1 (by decide)) _ _ (pm0_mj _ _ _ _ _ _ _ _ _) (pm0_k _ _ _ _ _ _ _ _ _) rfl rfl (fun q => by rw [show (pz_run (pz_b (g 51) 0 len) 0 x y z).1 = false from s_49] at q; cases q)

set_option maxRecDepth 100000 in
set_option maxHeartbeats 4000000 in
theorem t_X12_lawOf0 {C : zz_C} {d n : Nat} {g : zz_G} {r : zz_R} {Q : zz_Q} (hn : 60 ≤ n) (hr : xr r) {Rw : Nat → Int32} (hR : g 51 = Rw) (hT : tx_ok Rw 0) {x y z : Int32} (h : ∀ g', mj_ g g' → Q (some (.int (sp_law Rw 0 x y z))) g' r n) : zz_T C mi_X12_lawOf (d + 40) 0 0 [.ref 50, .int 0, .int x, .int y, .int z] g r n Q := by
  subst hR
  refine zz_T.of [some (.ref 50), some (.int 0), some (.int x), some (.int y), some (.int z), none] (by decide +kernel) rfl (Nat.le_of_ble_eq_true rfl) ?_
  refine zz_iload_1 dX12_lawOf_0 ?_
  refine zz_if_ne 10 dX12_lawOf_1 (by decide) (fun h => absurd h (by decide)) (fun _ => ?_)
  refine zz_sipush (300) dX12_lawOf_4 (by decide) ?_
  refine zz_goto 11 dX12_lawOf_7 (by decide) ?_
  refine zz_istore_5 dX12_lawOf_11 rfl rfl ?_
  refine zz_aload_0 dX12_lawOf_13 ?_
  refine zz_getR fl_X12_7 rfl rfl (Nat.lt_of_lt_of_le (by decide) hn) (xr_50_0 hr) dX12_lawOf_14 ?_
  refine zz_iconst (5) dX12_lawOf_17 (by decide) ?_
  refine zz_iload_1 dX12_lawOf_18 ?_
  refine zz_iadd dX12_lawOf_19 ?_
  refine zz_iaN 5 (by decide) (by decide) (by decide) rfl (Nat.lt_of_lt_of_le (by decide) hn) dX12_lawOf_20 ?_
  refine zz_if_lt 40 dX12_lawOf_21 (by decide) (fun c_21 => ?_) (fun c_21 => ?_)
  · skip
    refine zz_iload_1 dX12_lawOf_40 ?_
    refine zz_if_ne 56 dX12_lawOf_41 (by decide) (fun h => absurd h (by decide)) (fun _ => ?_)
    refine zz_iconst (3) dX12_lawOf_44 (by decide) ?_
    refine zz_iload_2 dX12_lawOf_45 ?_
    refine zz_iadd dX12_lawOf_46 ?_
    refine zz_iconst (0) dX12_lawOf_47 (by decide) ?_
    refine zz_iload_5 dX12_lawOf_48 ?_
    refine zz_callS3i cs_X12_141 (Nat.le_of_ble_eq_true rfl) (by decide) (by decide) dX12_lawOf_50 (t_X12_held ⟨_, rfl, ?_⟩)
    refine zz_goto 67 dX12_lawOf_53 (by decide) ?_
    refine zz_iret rfl dX12_lawOf_67 (by decide) (by decide) ?_
    rw [sp_law, if_pos (by rw [show 5 + 0 = 5 from rfl]; exact c_21)] at h
    rw [if_pos rfl] at h
    exact h _ mj_rf
  · skip
    refine zz_aload_0 dX12_lawOf_24 ?_
    refine zz_iload_1 dX12_lawOf_25 ?_
    refine zz_iload_2 dX12_lawOf_26 ?_
    refine zz_iload_3 dX12_lawOf_27 ?_
    refine zz_iload_4 dX12_lawOf_28 ?_
    obtain ⟨len, hl5, hlen, hgood⟩ := hT.resolve_left c_21
    refine zz_callV4i cv_X12_137 rfl (Nat.lt_of_lt_of_le (by decide) hn) (Nat.le_of_ble_eq_true rfl) (by decide) (by decide) dX12_lawOf_30 (t_X12_walks0 hn hr hlen hl5 (fun q_30 g1_30 j1_30 _ k1_30 e1_30 => ⟨_, rfl, ?_⟩) (fun q_30 g1_30 v_30 j1_30 _ k1_30 e1_30 ev_30 => ⟨_, rfl, ?_⟩))
    · skip
      refine zz_iconst (0) dX12_lawOf_33 (by decide) ?_
      refine zz_iload_5 dX12_lawOf_34 ?_
      refine zz_callS3i cs_X12_141 (Nat.le_of_ble_eq_true rfl) (by decide) (by decide) dX12_lawOf_36 (t_X12_held ⟨_, rfl, ?_⟩)
      refine zz_iret rfl dX12_lawOf_39 (by decide) (by decide) ?_
      rw [sp_law, if_neg (by rw [show 5 + 0 = 5 from rfl]; exact c_21), sp_val, show (g 51 (5 + 0)).toNatClampNeg = len from by rw [hlen]; exact ix_w (by omega)] at h
      exact h _ j1_30
    · skip
      refine zz_iconst (0) dX12_lawOf_33 (by decide) ?_
      refine zz_iload_5 dX12_lawOf_34 ?_
      refine zz_callS3i cs_X12_141 (Nat.le_of_ble_eq_true rfl) (by decide) (by decide) dX12_lawOf_36 (t_X12_held ⟨_, rfl, ?_⟩)
      refine zz_iret rfl dX12_lawOf_39 (by decide) (by decide) ?_
      rw [sp_law, if_neg (by rw [show 5 + 0 = 5 from rfl]; exact c_21), sp_val, show (g 51 (5 + 0)).toNatClampNeg = len from by rw [hlen]; exact ix_w (by omega)] at h
      rw [← ev_30 (hgood _ _ _)] at h
      exact h _ j1_30

set_option maxRecDepth 100000 in
set_option maxHeartbeats 4000000 in
theorem t_X12_walks1 {C : zz_C} {d n : Nat} {g : zz_G} {r : zz_R} {Q : zz_Q} (hn : 60 ≤ n) (hr : xr r) {x y z : Int32} {len : Nat} (hlen : g 51 6 = nI len) (hl5 : len ≤ 50) (h1 : (pz_run (pz_b (g 51) 1 len) 1 x y z).1 = true ∧ (pz_run (pz_b (g 51) 1 len) 1 x y z).2.1 = len → ∀ g', mj_ g g' → (∀ k, k ≠ 50 → g' k = g k) → g' 50 7 = nI (pz_run (pz_b (g 51) 1 len) 1 x y z).2.1 → g' 50 13 = 1 → Q (some (.int (pz_run (pz_b (g 51) 1 len) 1 x y z).2.2.1)) g' r n) (h0 : ¬ ((pz_run (pz_b (g 51) 1 len) 1 x y z).1 = true ∧ (pz_run (pz_b (g 51) 1 len) 1 x y z).2.1 = len) → ∀ g' v, mj_ g g' → (∀ k, k ≠ 50 → g' k = g k) → g' 50 7 = nI (pz_run (pz_b (g 51) 1 len) 1 x y z).2.1 → g' 50 13 = 0 → ((pz_run (pz_b (g 51) 1 len) 1 x y z).1 = true → v = (pz_run (pz_b (g 51) 1 len) 1 x y z).2.2.1) → Q (some (.int v)) g' r n) : zz_T C mi_X12_walks (d + 39) 0 0 [.ref 50, .int 1, .int x, .int y, .int z] g r n Q := by
  refine zz_T.of [some (.ref 50), some (.int 1), some (.int x), some (.int y), some (.int z), none] (by decide +kernel) rfl (Nat.le_of_ble_eq_true rfl) ?_
  refine zz_aload_0 dX12_walks_0 ?_
  refine zz_iload_1 dX12_walks_1 ?_
  refine zz_putI fl_X12_81 rfl rfl (Nat.lt_of_lt_of_le (by decide) hn) dX12_walks_2 ?_
  refine zz_aload_0 dX12_walks_5 ?_
  refine zz_iconst (0) dX12_walks_6 (by decide) ?_
  refine zz_putI fl_X12_88 rfl rfl (Nat.lt_of_lt_of_le (by decide) hn) dX12_walks_7 ?_
  refine zz_aload_0 dX12_walks_10 ?_
  refine zz_aload_0 dX12_walks_11 ?_
  refine zz_getR fl_X12_7 rfl rfl (Nat.lt_of_lt_of_le (by decide) hn) (xr_50_0 hr) dX12_walks_12 ?_
  refine zz_iconst (5) dX12_walks_15 (by decide) ?_
  refine zz_iload_1 dX12_walks_16 ?_
  refine zz_iadd dX12_walks_17 ?_
  refine zz_iaN 6 (by decide) (by decide) (by decide) rfl (Nat.lt_of_lt_of_le (by decide) hn) dX12_walks_18 ?_
  refine zz_putI fl_X12_77 rfl rfl (Nat.lt_of_lt_of_le (by decide) hn) dX12_walks_19 ?_
  refine zz_aload_0 dX12_walks_22 ?_
  refine zz_iconst (0) dX12_walks_23 (by decide) ?_
  refine zz_putI fl_X12_116 rfl rfl (Nat.lt_of_lt_of_le (by decide) hn) dX12_walks_24 ?_
  refine zz_aload_0 dX12_walks_27 ?_
  refine zz_iconst (1) dX12_walks_28 (by decide) ?_
  refine zz_putZ fl_X12_84 rfl rfl (Nat.lt_of_lt_of_le (by decide) hn) (by decide) dX12_walks_29 ?_
  refine zz_aload_0 dX12_walks_32 ?_
  refine zz_iload_2 dX12_walks_33 ?_
  refine zz_putI fl_X12_101 rfl rfl (Nat.lt_of_lt_of_le (by decide) hn) dX12_walks_34 ?_
  refine zz_aload_0 dX12_walks_37 ?_
  refine zz_iload_3 dX12_walks_38 ?_
  refine zz_putI fl_X12_104 rfl rfl (Nat.lt_of_lt_of_le (by decide) hn) dX12_walks_39 ?_
  refine zz_aload_0 dX12_walks_42 ?_
  refine zz_iload_4 dX12_walks_43 ?_
  refine zz_putI fl_X12_107 rfl rfl (Nat.lt_of_lt_of_le (by decide) hn) dX12_walks_45 ?_
  rw [pm_start, show zz_u (zz_u g 50 6 1) 50 7 0 51 6 = nI len from hlen]
  have hwh := (a_X12_factor1 (C := C) (g := pm0 g 1 (nI len) x y z) hn hr rfl rfl hl5 5 (Nat.le_refl _)).2
  rw [pm0_51, show pm0 g 1 (nI len) x y z 50 10 = x from rfl, show pm0 g 1 (nI len) x y z 50 11 = y from rfl, show pm0 g 1 (nI len) x y z 50 12 = z from rfl] at hwh
  refine zz_aload_0 dX12_walks_48 ?_
  refine zz_callV0i cv_X12_122 rfl (Nat.lt_of_lt_of_le (by decide) hn) (Nat.le_of_ble_eq_true rfl) (by decide) (by decide) dX12_walks_49 (hwh _ 0 _ (by omega) (Nat.zero_le _) (fun s_49 => ⟨_, rfl, ?_⟩) (fun s_49 v_49 => ⟨_, rfl, ?_⟩))
  · skip
    refine zz_istore_5 dX12_walks_52 rfl rfl ?_
    refine zz_aload_0 dX12_walks_54 ?_
    refine zz_aload_0 dX12_walks_55 ?_
    refine zz_getI fl_X12_84 rfl rfl (Nat.lt_of_lt_of_le (by decide) hn) dX12_walks_56 ?_
    rw [pm_g]
    refine zz_if_eq 77 dX12_walks_59 (by decide) (fun h => absurd h (by decide)) (fun _ => ?_)
    refine zz_aload_0 dX12_walks_62 ?_
    refine zz_getI fl_X12_88 rfl rfl (Nat.lt_of_lt_of_le (by decide) hn) dX12_walks_63 ?_
    refine zz_aload_0 dX12_walks_66 ?_
    refine zz_getI fl_X12_77 rfl rfl (Nat.lt_of_lt_of_le (by decide) hn) dX12_walks_67 ?_
    refine zz_icmp_ne 77 dX12_walks_70 (by decide) (fun c_70 => ?_) (fun c_70 => ?_)
    · skip
      refine zz_iconst (0) dX12_walks_77 (by decide) ?_
      refine zz_putZ fl_X12_84 rfl rfl (Nat.lt_of_lt_of_le (by decide) hn) (by decide) dX12_walks_78 ?_
      refine zz_iload_5 dX12_walks_81 ?_
      refine zz_iret rfl dX12_walks_83 (by decide) (by decide) ?_
      have hle : (pz_run (pz_b (g 51) 1 len) 1 x y z).2.1 ≤ len := (pz_up_ok (R := g 51) (u := 1) (pz_f_ok (R := g 51) (u := 1) (x := x) (y := y) (z := z) 5) 5 0 (Nat.zero_le _)).2.1
      have hle2 : (pz_up (pz_b (g 51) 1 len) (pz_f (pz_b (g 51) 1 len) 1 x y z 5) 5 0).2.1 ≤ len := hle
      rw [pm_ug]
      rw [pm_k, pm_8, show pm0 g 1 (nI len) x y z 50 8 = nI len from rfl] at c_70
      first
        | exact h1 ⟨s_49, (nI_eq (by omega) (by omega)).mp c_70⟩ _ (pm0_mj _ _ _ _ _ _ _ _ _) (pm0_k _ _ _ _ _ _ _ _ _) rfl rfl
        | exact h0 (fun q => c_70 ((nI_eq (by omega) (by omega)).mpr q.2)) _ _ (pm0_mj _ _ _ _ _ _ _ _ _) (pm0_k _ _ _ _ _ _ _ _ _) rfl rfl (fun _ => rfl)
    · skip
      refine zz_iconst (1) dX12_walks_73 (by decide) ?_
      refine zz_goto 78 dX12_walks_74 (by decide) ?_
      refine zz_putZ fl_X12_84 rfl rfl (Nat.lt_of_lt_of_le (by decide) hn) (by decide) dX12_walks_78 ?_
      refine zz_iload_5 dX12_walks_81 ?_
      refine zz_iret rfl dX12_walks_83 (by decide) (by decide) ?_
      have hle : (pz_run (pz_b (g 51) 1 len) 1 x y z).2.1 ≤ len := (pz_up_ok (R := g 51) (u := 1) (pz_f_ok (R := g 51) (u := 1) (x := x) (y := y) (z := z) 5) 5 0 (Nat.zero_le _)).2.1
      have hle2 : (pz_up (pz_b (g 51) 1 len) (pz_f (pz_b (g 51) 1 len) 1 x y z 5) 5 0).2.1 ≤ len := hle
      rw [pm_ug]
      rw [pm_k, pm_8, show pm0 g 1 (nI len) x y z 50 8 = nI len from rfl] at c_70
      first
        | exact h1 ⟨s_49, (nI_eq (by omega) (by omega)).mp c_70⟩ _ (pm0_mj _ _ _ _ _ _ _ _ _) (pm0_k _ _ _ _ _ _ _ _ _) rfl rfl
        | exact h0 (fun q => c_70 ((nI_eq (by omega) (by omega)).mpr q.2)) _ _ (pm0_mj _ _ _ _ _ _ _ _ _) (pm0_k _ _ _ _ _ _ _ _ _) rfl rfl (fun _ => rfl)
  · skip
    refine zz_istore_5 dX12_walks_52 rfl rfl ?_
    refine zz_aload_0 dX12_walks_54 ?_
    refine zz_aload_0 dX12_walks_55 ?_
    refine zz_getI fl_X12_84 rfl rfl (Nat.lt_of_lt_of_le (by decide) hn) dX12_walks_56 ?_
    rw [pm_g]
    refine zz_if_eq 77 dX12_walks_59 (by decide) (fun _ => ?_) (fun h => absurd h (by decide))
    refine zz_iconst (0) dX12_walks_77 (by decide) ?_
    refine zz_putZ fl_X12_84 rfl rfl (Nat.lt_of_lt_of_le (by decide) hn) (by decide) dX12_walks_78 ?_
    refine zz_iload_5 dX12_walks_81 ?_
    refine zz_iret rfl dX12_walks_83 (by decide) (by decide) ?_
    rw [pm_ug]
    exact h0 (fun q => by rw [show (pz_run (pz_b (g 51) 1 len) 1 x y z).1 = false from s_49] at q; exact absurd q.1 (by decide)) _ _ (pm0_mj _ _ _ _ _ _ _ _ _) (pm0_k _ _ _ _ _ _ _ _ _) rfl rfl (fun q => by rw [show (pz_run (pz_b (g 51) 1 len) 1 x y z).1 = false from s_49] at q; cases q)

set_option maxRecDepth 100000 in
set_option maxHeartbeats 4000000 in
theorem t_X12_lawOf1 {C : zz_C} {d n : Nat} {g : zz_G} {r : zz_R} {Q : zz_Q} (hn : 60 ≤ n) (hr : xr r) {Rw : Nat → Int32} (hR : g 51 = Rw) (hT : tx_ok Rw 1) {x y z : Int32} (h : ∀ g', mj_ g g' → Q (some (.int (sp_law Rw 1 x y z))) g' r n) : zz_T C mi_X12_lawOf (d + 40) 0 0 [.ref 50, .int 1, .int x, .int y, .int z] g r n Q := by
  subst hR
  refine zz_T.of [some (.ref 50), some (.int 1), some (.int x), some (.int y), some (.int z), none] (by decide +kernel) rfl (Nat.le_of_ble_eq_true rfl) ?_
  refine zz_iload_1 dX12_lawOf_0 ?_
  refine zz_if_ne 10 dX12_lawOf_1 (by decide) (fun _ => ?_) (fun h => absurd h (by decide))
  refine zz_iconst (1) dX12_lawOf_10 (by decide) ?_
  refine zz_istore_5 dX12_lawOf_11 rfl rfl ?_
  refine zz_aload_0 dX12_lawOf_13 ?_
  refine zz_getR fl_X12_7 rfl rfl (Nat.lt_of_lt_of_le (by decide) hn) (xr_50_0 hr) dX12_lawOf_14 ?_
  refine zz_iconst (5) dX12_lawOf_17 (by decide) ?_
  refine zz_iload_1 dX12_lawOf_18 ?_
  refine zz_iadd dX12_lawOf_19 ?_
  refine zz_iaN 6 (by decide) (by decide) (by decide) rfl (Nat.lt_of_lt_of_le (by decide) hn) dX12_lawOf_20 ?_
  refine zz_if_lt 40 dX12_lawOf_21 (by decide) (fun c_21 => ?_) (fun c_21 => ?_)
  · skip
    refine zz_iload_1 dX12_lawOf_40 ?_
    refine zz_if_ne 56 dX12_lawOf_41 (by decide) (fun _ => ?_) (fun h => absurd h (by decide))
    refine zz_iload_2 dX12_lawOf_56 ?_
    refine zz_bipush (60) dX12_lawOf_57 (by decide) ?_
    refine zz_icmp_le 66 dX12_lawOf_59 (by decide) (fun c_59 => ?_) (fun c_59 => ?_)
    · skip
      refine zz_iconst (0) dX12_lawOf_66 (by decide) ?_
      refine zz_iret rfl dX12_lawOf_67 (by decide) (by decide) ?_
      rw [sp_law, if_pos (by rw [show 5 + 1 = 6 from rfl]; exact c_21)] at h
      rw [if_neg (by decide)] at h
      first
        | (rw [if_neg (Int32.not_lt.mpr c_59)] at h; exact h _ mj_rf)
        | (rw [if_pos (Int32.not_le.mp c_59)] at h; exact h _ mj_rf)
    · skip
      refine zz_iconst (1) dX12_lawOf_62 (by decide) ?_
      refine zz_goto 67 dX12_lawOf_63 (by decide) ?_
      refine zz_iret rfl dX12_lawOf_67 (by decide) (by decide) ?_
      rw [sp_law, if_pos (by rw [show 5 + 1 = 6 from rfl]; exact c_21)] at h
      rw [if_neg (by decide)] at h
      first
        | (rw [if_neg (Int32.not_lt.mpr c_59)] at h; exact h _ mj_rf)
        | (rw [if_pos (Int32.not_le.mp c_59)] at h; exact h _ mj_rf)
  · skip
    refine zz_aload_0 dX12_lawOf_24 ?_
    refine zz_iload_1 dX12_lawOf_25 ?_
    refine zz_iload_2 dX12_lawOf_26 ?_
    refine zz_iload_3 dX12_lawOf_27 ?_
    refine zz_iload_4 dX12_lawOf_28 ?_
    obtain ⟨len, hl5, hlen, hgood⟩ := hT.resolve_left c_21
    refine zz_callV4i cv_X12_137 rfl (Nat.lt_of_lt_of_le (by decide) hn) (Nat.le_of_ble_eq_true rfl) (by decide) (by decide) dX12_lawOf_30 (t_X12_walks1 hn hr hlen hl5 (fun q_30 g1_30 j1_30 _ k1_30 e1_30 => ⟨_, rfl, ?_⟩) (fun q_30 g1_30 v_30 j1_30 _ k1_30 e1_30 ev_30 => ⟨_, rfl, ?_⟩))
    · skip
      refine zz_iconst (0) dX12_lawOf_33 (by decide) ?_
      refine zz_iload_5 dX12_lawOf_34 ?_
      refine zz_callS3i cs_X12_141 (Nat.le_of_ble_eq_true rfl) (by decide) (by decide) dX12_lawOf_36 (t_X12_held ⟨_, rfl, ?_⟩)
      refine zz_iret rfl dX12_lawOf_39 (by decide) (by decide) ?_
      rw [sp_law, if_neg (by rw [show 5 + 1 = 6 from rfl]; exact c_21), sp_val, show (g 51 (5 + 1)).toNatClampNeg = len from by rw [hlen]; exact ix_w (by omega)] at h
      exact h _ j1_30
    · skip
      refine zz_iconst (0) dX12_lawOf_33 (by decide) ?_
      refine zz_iload_5 dX12_lawOf_34 ?_
      refine zz_callS3i cs_X12_141 (Nat.le_of_ble_eq_true rfl) (by decide) (by decide) dX12_lawOf_36 (t_X12_held ⟨_, rfl, ?_⟩)
      refine zz_iret rfl dX12_lawOf_39 (by decide) (by decide) ?_
      rw [sp_law, if_neg (by rw [show 5 + 1 = 6 from rfl]; exact c_21), sp_val, show (g 51 (5 + 1)).toNatClampNeg = len from by rw [hlen]; exact ix_w (by omega)] at h
      rw [← ev_30 (hgood _ _ _)] at h
      exact h _ j1_30

theorem t_X12_its0 {C : zz_C} {d n : Nat} {g : zz_G} {r : zz_R} {Q : zz_Q} (hn : 60 ≤ n) (hr : xr r) {v : Int32} (w : Nat) (hv : v = nI w) (hb : 16 + 5 * w < 276) (h : Q (some (.int (g 51 (16 + 5 * w)))) g r n) : zz_T C mi_X12_its d 0 0 [.ref 50, .int v, .int 0] g r n Q := t_X12_its hn hr w 0 hv rfl hb h
set_option maxRecDepth 100000 in
set_option maxHeartbeats 4000000 in
theorem t_X12_lateAt {C : zz_C} {d n : Nat} {g : zz_G} {r : zz_R} {Q : zz_Q} (hn : 60 ≤ n) (hr : xr r) {Rw : Nat → Int32} (hR : g 51 = Rw) (hT0 : tx_ok Rw 0) {v s : Int32} (w : Nat) (hw : w < 6) (hv : v = nI w) (h : ∀ g', mj_ g g' → Q (some (.int (sp_late Rw w s))) g' r n) : zz_T C mi_X12_lateAt (d + 41) 0 0 [.ref 50, .int v, .int s] g r n Q := by
  refine zz_T.of [some (.ref 50), some (.int v), some (.int s), none, none] (by decide +kernel) rfl (Nat.le_of_ble_eq_true rfl) ?_
  refine zz_aload_0 dX12_lateAt_0 ?_
  refine zz_iload_1 dX12_lateAt_1 ?_
  refine zz_iconst (1) dX12_lateAt_2 (by decide) ?_
  refine zz_callV2i cv_X12_64 rfl (Nat.lt_of_lt_of_le (by decide) hn) (Nat.le_of_ble_eq_true rfl) (by decide) (by decide) dX12_lateAt_3 (t_X12_its hn hr w 1 hv rfl (by omega) ⟨_, rfl, ?_⟩)
  rw [hR]
  refine zz_istore_3 dX12_lateAt_6 rfl rfl ?_
  refine zz_aload_0 dX12_lateAt_7 ?_
  refine zz_iconst (0) dX12_lateAt_8 (by decide) ?_
  refine zz_iload_3 dX12_lateAt_9 ?_
  refine zz_aload_0 dX12_lateAt_10 ?_
  refine zz_iload_1 dX12_lateAt_11 ?_
  refine zz_iconst (0) dX12_lateAt_12 (by decide) ?_
  refine zz_callV2i cv_X12_64 rfl (Nat.lt_of_lt_of_le (by decide) hn) (Nat.le_of_ble_eq_true rfl) (by decide) (by decide) dX12_lateAt_13 (t_X12_its0 hn hr w hv (by omega) ⟨_, rfl, ?_⟩)
  rw [hR]
  refine zz_iload_2 dX12_lateAt_16 ?_
  refine zz_bipush (60) dX12_lateAt_17 (by decide) ?_
  refine zz_irem dX12_lateAt_19 (by decide) ?_
  refine zz_callV4i cv_X12_145 rfl (Nat.lt_of_lt_of_le (by decide) hn) (Nat.le_of_ble_eq_true rfl) (by decide) (by decide) dX12_lateAt_20 (t_X12_lawOf0 hn hr hR hT0 (fun g1_20 j1_20 => ⟨_, rfl, ?_⟩))
  have hR := (mj_51 j1_20).trans hR
  refine zz_istore_4 dX12_lateAt_23 rfl rfl ?_
  refine zz_aload_0 dX12_lateAt_25 ?_
  refine zz_iload_1 dX12_lateAt_26 ?_
  refine zz_iconst (0) dX12_lateAt_27 (by decide) ?_
  refine zz_callV2i cv_X12_64 rfl (Nat.lt_of_lt_of_le (by decide) hn) (Nat.le_of_ble_eq_true rfl) (by decide) (by decide) dX12_lateAt_28 (t_X12_its0 hn hr w hv (by omega) ⟨_, rfl, ?_⟩)
  rw [hR]
  refine zz_tsw5 (2) (3) (4) (5) (6) 64 68 73 66 64 78 dX12_lateAt_31 (by decide) (fun e_31 => ?_) (fun e_31 => ?_) (fun e_31 => ?_) (fun e_31 => ?_) (fun e_31 => ?_) (fun e0_31 e1_31 e2_31 e3_31 e4_31 => ?_)
  · skip
    refine zz_iconst (0) dX12_lateAt_64 (by decide) ?_
    refine zz_iret rfl dX12_lateAt_65 (by decide) (by decide) ?_
    simp (decide := true) only [sp_late, e_31, or_self, or_false, false_or, or_true, true_or, and_true, true_and, and_false, false_and, and_self, not_true_eq_false, not_false_eq_true, ↓reduceIte] at h ⊢
    exact h _ j1_20
  · skip
    refine zz_iload_4 dX12_lateAt_68 ?_
    refine zz_iconst (2) dX12_lateAt_70 (by decide) ?_
    refine zz_idiv dX12_lateAt_71 (by decide) ?_
    refine zz_iret rfl dX12_lateAt_72 (by decide) (by decide) ?_
    simp (decide := true) only [sp_late, e_31, or_self, or_false, false_or, or_true, true_or, and_true, true_and, and_false, false_and, and_self, not_true_eq_false, not_false_eq_true, ↓reduceIte] at h ⊢
    exact h _ j1_20
  · skip
    refine zz_iload_4 dX12_lateAt_73 ?_
    refine zz_iload_3 dX12_lateAt_75 ?_
    refine zz_iadd dX12_lateAt_76 ?_
    refine zz_iret rfl dX12_lateAt_77 (by decide) (by decide) ?_
    simp (decide := true) only [sp_late, e_31, or_self, or_false, false_or, or_true, true_or, and_true, true_and, and_false, false_and, and_self, not_true_eq_false, not_false_eq_true, ↓reduceIte] at h ⊢
    exact h _ j1_20
  · skip
    refine zz_iconst (1) dX12_lateAt_66 (by decide) ?_
    refine zz_iret rfl dX12_lateAt_67 (by decide) (by decide) ?_
    simp (decide := true) only [sp_late, e_31, or_self, or_false, false_or, or_true, true_or, and_true, true_and, and_false, false_and, and_self, not_true_eq_false, not_false_eq_true, ↓reduceIte] at h ⊢
    exact h _ j1_20
  · skip
    refine zz_iconst (0) dX12_lateAt_64 (by decide) ?_
    refine zz_iret rfl dX12_lateAt_65 (by decide) (by decide) ?_
    simp (decide := true) only [sp_late, e_31, or_self, or_false, false_or, or_true, true_or, and_true, true_and, and_false, false_and, and_self, not_true_eq_false, not_false_eq_true, ↓reduceIte] at h ⊢
    exact h _ j1_20
  · skip
    refine zz_iload_4 dX12_lateAt_78 ?_
    refine zz_iret rfl dX12_lateAt_80 (by decide) (by decide) ?_
    simp (decide := true) only [sp_late, e0_31, e1_31, e2_31, e3_31, e4_31, or_self, or_false, false_or, or_true, true_or, and_true, true_and, and_false, false_and, and_self, not_true_eq_false, not_false_eq_true, ↓reduceIte] at h ⊢
    exact h _ j1_20
