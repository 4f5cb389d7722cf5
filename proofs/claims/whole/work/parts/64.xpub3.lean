/-- a class's sheet with its first q numbers 0 -/
def xz_ (g : zz_G) (s q : Nat) : zz_G := fun a b => if a = 44 + s ∧ b < q then 0 else g a b
theorem xz_0 (g : zz_G) (s : Nat) : xz_ g s 0 = g := by
  funext a b
  unfold xz_
  rw [if_neg (by omega)]
theorem xz_s (g : zz_G) (s q : Nat) : zz_u (xz_ g s q) (44 + s) q 0 = xz_ g s (q + 1) := by
  funext a b
  unfold zz_u xz_
  by_cases h : a = 44 + s ∧ b = q
  · rw [if_pos h, if_pos (by omega)]
  · rw [if_neg h]
    by_cases h2 : a = 44 + s ∧ b < q
    · rw [if_pos h2, if_pos (by omega)]
    · rw [if_neg h2, if_neg (by omega)]
theorem x_F.zero {g g1 S1 : zz_G} {r : zz_R} {n s : Nat} (h : x_F g g1 r n S1) (hs : s < 4) : x_F g (xz_ g1 s 40) r n (sp_zero S1 s 40) := by
  refine h.shs (fun k hk => funext fun b => if_neg (by omega)) (fun k hk => funext fun b => if_neg (by omega)) (fun t i ht hi => ?_)
  unfold xz_ sp_zero
  by_cases e : t = s
  · subst e
    rw [if_pos ⟨rfl, hi⟩, if_pos ⟨rfl, by omega⟩]
  · rw [if_neg (by omega), if_neg (by omega)]
    exact (x_sh h.1 ht hi).symm
set_option maxRecDepth 100000 in
set_option maxHeartbeats 4000000 in
theorem l_X11_sheet {C : zz_C} {d n : Nat} {g : zz_G} {r : zz_R} {Q : zz_Q} (hn : 60 ≤ n) (hr : xr r) {v b m : Int32} (s1 : Nat) (hs1 : s1 < 4) (es1 : v = nI s1) (h : Q (some (.int 1)) (xz_ g s1 40) r n) : ∀ (k : Nat) (q : Nat), q ≤ 40 → 40 - q < k → zz_Z C mi_X11_sheet (d + 2) 0 0 0 0 90 [some (.ref 0), some (.int v), some (.int b), some (.int m), some (.int (nI q))] [] (xz_ g s1 q) r n Q := by
  intro k
  induction k with
  | zero => intro q hq hk; exact absurd hk (by omega)
  | succ k ih =>
    intro q hq hk
    refine zz_iload_4 dX11_sheet_90 ?_
    refine zz_bipush (40) dX11_sheet_92 (by decide) ?_
    refine zz_icmp_ge 113 dX11_sheet_94 (by decide) (fun c_94 => ?_) (fun c_94 => ?_)
    · skip
      refine zz_iconst (1) dX11_sheet_113 (by decide) ?_
      refine zz_iret rfl dX11_sheet_114 (by decide) (by decide) ?_
      have := zz_gei (b := 40) c_94 (by omega) (by omega)
      obtain rfl : q = 40 := by omega
      exact h
    · skip
      have hlt := zz_lti (b := 40) c_94 (by omega) (by omega)
      refine zz_aload_0 dX11_sheet_97 ?_
      refine zz_getR fl_X11_71 rfl rfl (Nat.lt_of_lt_of_le (by decide) hn) (xr_0_8 hr) dX11_sheet_98 ?_
      refine zz_iload_1 dX11_sheet_101 ?_
      refine zz_aaN s1 es1 hs1 (by decide) (by decide) rfl (Nat.lt_of_lt_of_le (by decide) hn) (xr_sheet hr s1 hs1) dX11_sheet_102 ?_
      refine zz_iload_4 dX11_sheet_103 ?_
      refine zz_iconst (0) dX11_sheet_105 (by decide) ?_
      refine zz_isN q rfl hlt (by decide) (xs_sheet s1 hs1) (by omega) dX11_sheet_106 ?_
      refine zz_iinc_4 (1) dX11_sheet_107 rfl rfl (by decide) ?_
      refine zz_goto 90 dX11_sheet_110 (by decide) ?_
      rw [xz_s, nI_1]
      exact ih (q + 1) (by omega) (by omega)

set_option maxRecDepth 100000 in
set_option maxHeartbeats 4000000 in
theorem e2_X11_sheet {C : zz_C} {d n : Nat} {g : zz_G} {r : zz_R} {Q : zz_Q} {S : zz_G} (hx : x_rel S g r n) {v b m : Int32} (s1 : Nat) (hs1 : s1 < 4) (es1 : v = nI s1) (h : x_o g Q (sp_sheetT S s1 b m)) : zz_Z C mi_X11_sheet (d + 2) 0 0 0 0 65 [some (.ref 0), some (.int v), some (.int b), some (.int m), none] [] g r n Q := by
  have hn := hx.nn
  have hr := hx.1
  refine zz_aload_0 dX11_sheet_65 ?_
  refine zz_getR fl_X11_74 rfl rfl (Nat.lt_of_lt_of_le (by decide) hn) (xr_0_9 hr) dX11_sheet_66 ?_
  refine zz_iload_1 dX11_sheet_69 ?_
  refine zz_iload_2 dX11_sheet_70 ?_
  refine zz_isN s1 es1 hs1 (by decide) rfl (Nat.lt_of_lt_of_le (by decide) hn) dX11_sheet_71 ?_
  refine zz_aload_0 dX11_sheet_72 ?_
  refine zz_getR fl_X11_77 rfl rfl (Nat.lt_of_lt_of_le (by decide) hn) (xr_0_10 hr) dX11_sheet_73 ?_
  refine zz_iload_1 dX11_sheet_76 ?_
  refine zz_iload_2 dX11_sheet_77 ?_
  refine zz_if_ne 85 dX11_sheet_78 (by decide) (fun c_78 => ?_) (fun c_78 => ?_)
  · skip
    refine zz_iload_3 dX11_sheet_85 ?_
    refine zz_isN s1 es1 hs1 (by decide) rfl (Nat.lt_of_lt_of_le (by decide) hn) dX11_sheet_86 ?_
    refine zz_iconst (0) dX11_sheet_87 (by decide) ?_
    refine zz_istore_4 dX11_sheet_88 rfl rfl ?_
    first
      | (rw [sp_sheetT, if_neg c_78] at h
         rw [← xz_0 (zz_u (zz_u g 48 s1 b) 49 s1 m) s1]
         exact l_X11_sheet (d := d) hn hr s1 hs1 es1 (h.e ((((x_F.rf hx).sb hs1).sz hs1).zero hs1)) 41 0 (by omega) (by omega))
      | (rw [sp_sheetT, if_pos c_78] at h
         rw [← xz_0 (zz_u (zz_u g 48 s1 b) 49 s1 0) s1]
         exact l_X11_sheet (d := d) hn hr s1 hs1 es1 (h.e ((((x_F.rf hx).sb hs1).sz hs1).zero hs1)) 41 0 (by omega) (by omega))
  · skip
    refine zz_iconst (0) dX11_sheet_81 (by decide) ?_
    refine zz_goto 86 dX11_sheet_82 (by decide) ?_
    refine zz_isN s1 es1 hs1 (by decide) rfl (Nat.lt_of_lt_of_le (by decide) hn) dX11_sheet_86 ?_
    refine zz_iconst (0) dX11_sheet_87 (by decide) ?_
    refine zz_istore_4 dX11_sheet_88 rfl rfl ?_
    first
      | (rw [sp_sheetT, if_neg c_78] at h
         rw [← xz_0 (zz_u (zz_u g 48 s1 b) 49 s1 m) s1]
         exact l_X11_sheet (d := d) hn hr s1 hs1 es1 (h.e ((((x_F.rf hx).sb hs1).sz hs1).zero hs1)) 41 0 (by omega) (by omega))
      | (rw [sp_sheetT, if_pos c_78] at h
         rw [← xz_0 (zz_u (zz_u g 48 s1 b) 49 s1 0) s1]
         exact l_X11_sheet (d := d) hn hr s1 hs1 es1 (h.e ((((x_F.rf hx).sb hs1).sz hs1).zero hs1)) 41 0 (by omega) (by omega))

abbrev sh_c (b m : Int32) : Nat := if ¬ b = 0 ∧ ¬ 0 ≤ m then 3 else if ¬ b = 0 ∧ ¬ m ≤ 40 then 1 else 0
set_option maxRecDepth 100000 in
set_option maxHeartbeats 4000000 in
theorem e1_X11_sheet {C : zz_C} {d n : Nat} {g : zz_G} {r : zz_R} {Q : zz_Q} {S : zz_G} (hx : x_rel S g r n) {v b m : Int32} (s1 : Nat) (hs1 : s1 < 4) (es1 : v = nI s1) (h : x_o g Q (if ¬ b = 0 ∧ ¬ 0 ≤ m then sp_err S 3 else if ¬ b = 0 ∧ ¬ m ≤ 40 then sp_err S 1 else sp_sheetT S s1 b m)) : zz_Z C mi_X11_sheet (d + 2) 0 0 0 0 35 [some (.ref 0), some (.int v), some (.int b), some (.int m), none] [] g r n Q := by
  have hn := hx.nn
  have hr := hx.1
  refine zz_iload_2 dX11_sheet_35 ?_
  refine zz_if_eq 49 dX11_sheet_36 (by decide) (fun c_36 => ?_) (fun c_36 => ?_)
  · skip
    refine zz_iload_2 dX11_sheet_49 ?_
    refine zz_if_eq 65 dX11_sheet_50 (by decide) (fun c_50 => ?_) (fun c_50 => ?_)
    · skip
      rw [if_neg (fun z9 => z9.1 c_36), if_neg (fun z9 => z9.1 c_36)] at h
      exact e2_X11_sheet (d := d) hx s1 hs1 es1 h
    · skip
      refine zz_iload_3 dX11_sheet_53 ?_
      refine zz_bipush (40) dX11_sheet_54 (by decide) ?_
      refine zz_icmp_le 65 dX11_sheet_56 (by decide) (fun c_56 => ?_) (fun c_56 => ?_)
      · skip
        exact absurd c_36 c_50
      · skip
        refine zz_aload_0 dX11_sheet_59 ?_
        refine zz_iconst (1) dX11_sheet_60 (by decide) ?_
        refine zz_callV1i cv_X11_86 rfl (Nat.lt_of_lt_of_le (by decide) hn) (Nat.le_of_ble_eq_true rfl) (by decide) (by decide) dX11_sheet_61 (t_X11_error hn hr 1 rfl (by decide) ⟨_, rfl, ?_⟩)
        refine zz_iret rfl dX11_sheet_64 (by decide) (by decide) ?_
        first
          | exact absurd c_36 c_50
          | (rw [if_neg (fun z9 => z9.2 c_40), if_pos ⟨c_50, c_56⟩] at h; exact x_er hx (by decide) h)
  · skip
    refine zz_iload_3 dX11_sheet_39 ?_
    refine zz_if_ge 49 dX11_sheet_40 (by decide) (fun c_40 => ?_) (fun c_40 => ?_)
    · skip
      refine zz_iload_2 dX11_sheet_49 ?_
      refine zz_if_eq 65 dX11_sheet_50 (by decide) (fun c_50 => ?_) (fun c_50 => ?_)
      · skip
        exact absurd c_50 c_36
      · skip
        refine zz_iload_3 dX11_sheet_53 ?_
        refine zz_bipush (40) dX11_sheet_54 (by decide) ?_
        refine zz_icmp_le 65 dX11_sheet_56 (by decide) (fun c_56 => ?_) (fun c_56 => ?_)
        · skip
          rw [if_neg (fun z9 => z9.2 c_40), if_neg (fun z9 => z9.2 c_56)] at h
          exact e2_X11_sheet (d := d) hx s1 hs1 es1 h
        · skip
          refine zz_aload_0 dX11_sheet_59 ?_
          refine zz_iconst (1) dX11_sheet_60 (by decide) ?_
          refine zz_callV1i cv_X11_86 rfl (Nat.lt_of_lt_of_le (by decide) hn) (Nat.le_of_ble_eq_true rfl) (by decide) (by decide) dX11_sheet_61 (t_X11_error hn hr 1 rfl (by decide) ⟨_, rfl, ?_⟩)
          refine zz_iret rfl dX11_sheet_64 (by decide) (by decide) ?_
          first
            | exact absurd c_36 c_50
            | (rw [if_neg (fun z9 => z9.2 c_40), if_pos ⟨c_50, c_56⟩] at h; exact x_er hx (by decide) h)
    · skip
      refine zz_aload_0 dX11_sheet_43 ?_
      refine zz_iconst (3) dX11_sheet_44 (by decide) ?_
      refine zz_callV1i cv_X11_86 rfl (Nat.lt_of_lt_of_le (by decide) hn) (Nat.le_of_ble_eq_true rfl) (by decide) (by decide) dX11_sheet_45 (t_X11_error hn hr 3 rfl (by decide) ⟨_, rfl, ?_⟩)
      refine zz_iret rfl dX11_sheet_48 (by decide) (by decide) ?_
      rw [if_pos ⟨c_36, c_40⟩] at h
      exact x_er hx (by decide) h

set_option maxRecDepth 100000 in
set_option maxHeartbeats 4000000 in
theorem t_X11_sheet {C : zz_C} {d n : Nat} {g : zz_G} {r : zz_R} {Q : zz_Q} {S : zz_G} (hx : x_rel S g r n) {v b m : Int32}  (h : x_o g Q (sp_sheet S v b m)) : zz_T C mi_X11_sheet (d + 2) 0 0 [.ref 0, .int v, .int b, .int m] g r n Q := by
  have hn := hx.nn
  have hr := hx.1
  refine zz_T.of [some (.ref 0), some (.int v), some (.int b), some (.int m), none] (by decide +kernel) rfl (Nat.le_of_ble_eq_true rfl) ?_
  refine zz_iload_1 dX11_sheet_0 ?_
  refine zz_callS1i cs_X11_290 (Nat.le_of_ble_eq_true rfl) (by decide) (by decide) dX11_sheet_1 (t_X11_isSheet (fun a_1 b_1 => ⟨_, rfl, ?_⟩) (fun o_1 => ⟨_, rfl, ?_⟩))
  · skip
    refine zz_if_eq 29 dX11_sheet_4 (by decide) (fun h => absurd h (by decide)) (fun _ => ?_)
    refine zz_iload_2 dX11_sheet_7 ?_
    refine zz_if_eq 35 dX11_sheet_8 (by decide) (fun c_8 => ?_) (fun c_8 => ?_)
    · skip
      obtain ⟨s1, hs0, hs3, es1⟩ := zz_in0 (lo := 0) (hi := 3) rfl rfl (by decide) (by decide) a_1 b_1
      have hb : sp_sb b := by first | exact Or.inl c_8 | exact Or.inr (Or.inl c_14) | exact Or.inr (Or.inr (Or.inl c_20)) | exact Or.inr (Or.inr (Or.inr c_26))
      rw [sp_sheet, if_neg (fun z9 => z9.elim a_1 b_1), if_neg (fun z9 => z9 hb), show v.toNatClampNeg = s1 from by rw [es1]; exact ix_w (by omega)] at h
      exact e1_X11_sheet (d := d) hx s1 (by omega) es1 h
    · skip
      refine zz_iload_2 dX11_sheet_11 ?_
      refine zz_bipush (8) dX11_sheet_12 (by decide) ?_
      refine zz_icmp_eq 35 dX11_sheet_14 (by decide) (fun c_14 => ?_) (fun c_14 => ?_)
      · skip
        obtain ⟨s1, hs0, hs3, es1⟩ := zz_in0 (lo := 0) (hi := 3) rfl rfl (by decide) (by decide) a_1 b_1
        have hb : sp_sb b := by first | exact Or.inl c_8 | exact Or.inr (Or.inl c_14) | exact Or.inr (Or.inr (Or.inl c_20)) | exact Or.inr (Or.inr (Or.inr c_26))
        rw [sp_sheet, if_neg (fun z9 => z9.elim a_1 b_1), if_neg (fun z9 => z9 hb), show v.toNatClampNeg = s1 from by rw [es1]; exact ix_w (by omega)] at h
        exact e1_X11_sheet (d := d) hx s1 (by omega) es1 h
      · skip
        refine zz_iload_2 dX11_sheet_17 ?_
        refine zz_bipush (16) dX11_sheet_18 (by decide) ?_
        refine zz_icmp_eq 35 dX11_sheet_20 (by decide) (fun c_20 => ?_) (fun c_20 => ?_)
        · skip
          obtain ⟨s1, hs0, hs3, es1⟩ := zz_in0 (lo := 0) (hi := 3) rfl rfl (by decide) (by decide) a_1 b_1
          have hb : sp_sb b := by first | exact Or.inl c_8 | exact Or.inr (Or.inl c_14) | exact Or.inr (Or.inr (Or.inl c_20)) | exact Or.inr (Or.inr (Or.inr c_26))
          rw [sp_sheet, if_neg (fun z9 => z9.elim a_1 b_1), if_neg (fun z9 => z9 hb), show v.toNatClampNeg = s1 from by rw [es1]; exact ix_w (by omega)] at h
          exact e1_X11_sheet (d := d) hx s1 (by omega) es1 h
        · skip
          refine zz_iload_2 dX11_sheet_23 ?_
          refine zz_bipush (32) dX11_sheet_24 (by decide) ?_
          refine zz_icmp_eq 35 dX11_sheet_26 (by decide) (fun c_26 => ?_) (fun c_26 => ?_)
          · skip
            obtain ⟨s1, hs0, hs3, es1⟩ := zz_in0 (lo := 0) (hi := 3) rfl rfl (by decide) (by decide) a_1 b_1
            have hb : sp_sb b := by first | exact Or.inl c_8 | exact Or.inr (Or.inl c_14) | exact Or.inr (Or.inr (Or.inl c_20)) | exact Or.inr (Or.inr (Or.inr c_26))
            rw [sp_sheet, if_neg (fun z9 => z9.elim a_1 b_1), if_neg (fun z9 => z9 hb), show v.toNatClampNeg = s1 from by rw [es1]; exact ix_w (by omega)] at h
            exact e1_X11_sheet (d := d) hx s1 (by omega) es1 h
          · skip
            refine zz_aload_0 dX11_sheet_29 ?_
            refine zz_iconst (1) dX11_sheet_30 (by decide) ?_
            refine zz_callV1i cv_X11_86 rfl (Nat.lt_of_lt_of_le (by decide) hn) (Nat.le_of_ble_eq_true rfl) (by decide) (by decide) dX11_sheet_31 (t_X11_error hn hr 1 rfl (by decide) ⟨_, rfl, ?_⟩)
            refine zz_iret rfl dX11_sheet_34 (by decide) (by decide) ?_
            rw [sp_sheet, if_neg (fun z9 => z9.elim a_1 b_1), if_pos (fun z9 : sp_sb b => z9.elim c_8 (fun z8 => z8.elim c_14 (fun z7 => z7.elim c_20 c_26)))] at h
            exact x_er hx (by decide) h
  · skip
    refine zz_if_eq 29 dX11_sheet_4 (by decide) (fun _ => ?_) (fun h => absurd h (by decide))
    refine zz_aload_0 dX11_sheet_29 ?_
    refine zz_iconst (1) dX11_sheet_30 (by decide) ?_
    refine zz_callV1i cv_X11_86 rfl (Nat.lt_of_lt_of_le (by decide) hn) (Nat.le_of_ble_eq_true rfl) (by decide) (by decide) dX11_sheet_31 (t_X11_error hn hr 1 rfl (by decide) ⟨_, rfl, ?_⟩)
    refine zz_iret rfl dX11_sheet_34 (by decide) (by decide) ?_
    rw [sp_sheet, if_pos o_1] at h
    exact x_er hx (by decide) h

theorem zz_min {a b : Nat} (ha : a < 1000000) (hb : b < 1000000) : (if nI b < nI a then nI b else nI a) = nI (min a b) := by
  by_cases h : b < a
  · rw [if_pos ((nI_ltI (by omega) (by omega)).mpr h), Nat.min_eq_right (by omega)]
  · rw [if_neg (fun z9 => h ((nI_ltI (by omega) (by omega)).mp z9)), Nat.min_eq_left (by omega)]
set_option maxRecDepth 100000 in
set_option maxHeartbeats 4000000 in
theorem l_X11_fars {C : zz_C} {d n : Nat} {g : zz_G} {r : zz_R} {Q : zz_Q} {S : zz_G} (hx : x_rel S g r n) (mw : Nat) (hmw : S 51 2 = nI mw) (hmw6 : mw ≤ 6) (s1 z1 : Nat) (hs1 : s1 < 4) (hz1 : z1 ≤ 40) (ez1 : S 56 s1 = nI z1) {K : Nat} (h : x_o g Q (nI K, sp_frw S s1 K)) : ∀ (k : Nat) (q : Nat) (g1 : zz_G), q ≤ min z1 mw → sp_frk S s1 mw z1 (mw - q) q = K → x_F g g1 r n (sp_frw S s1 q) → min z1 mw - q < k → zz_Z C mi_X11_fars (d + 3) 0 0 0 0 36 [some (.ref 0), some (.int (nI s1)), some (.int 0), some (.int (nI (min z1 mw))), some (.int (nI q))] [] g1 r n Q := by
  intro k
  induction k with
  | zero => intro q g1 hq hK hF hk; exact absurd hk (by omega)
  | succ k ih =>
    intro q g1 hq hK hF hk
    have hn := hx.nn
    have hr := hx.1
    refine zz_iload_4 dX11_fars_36 ?_
    refine zz_iload_3 dX11_fars_38 ?_
    refine zz_icmp_ge 89 dX11_fars_39 (by decide) (fun c_39 => ?_) (fun c_39 => ?_)
    · skip
      refine zz_iload_3 dX11_fars_89 ?_
      refine zz_iret rfl dX11_fars_90 (by decide) (by decide) ?_
      have := zz_gei c_39 (by omega) (by omega)
      have hqm : q = min z1 mw := by omega
      have hK2 : K = q := by
        rw [← hK]
        cases hf : mw - q with
        | zero => rfl
        | succ f => rw [sp_frk, if_neg (by omega)]
      rw [← hqm]
      rw [hK2] at h
      exact h.e hF
    · skip
      have hlt := zz_lti c_39 (by omega) (by omega)
      have ev : g1 (44 + s1) q = S 57 (40 * s1 + q) := by rw [← x_sh hF.1 hs1 (by omega), sp_frw_row (by decide)]
      refine zz_aload_0 dX11_fars_42 ?_
      refine zz_getR fl_X11_71 rfl rfl (Nat.lt_of_lt_of_le (by decide) hn) (xr_0_8 hr) dX11_fars_43 ?_
      refine zz_iload_1 dX11_fars_46 ?_
      refine zz_aaN s1 rfl hs1 (by decide) (by decide) rfl (Nat.lt_of_lt_of_le (by decide) hn) (xr_sheet hr s1 hs1) dX11_fars_47 ?_
      refine zz_iload_4 dX11_fars_48 ?_
      refine zz_iaN q rfl (by omega) (by decide) (xs_sheet s1 hs1) (by omega) dX11_fars_50 ?_
      refine zz_bipush (99) dX11_fars_51 (by decide) ?_
      refine zz_callS2i cs_X11_93 (Nat.le_of_ble_eq_true rfl) (by decide) (by decide) dX11_fars_53 (t_X11_within (fun a_53 b_53 => ⟨_, rfl, ?_⟩) (fun o_53 => ⟨_, rfl, ?_⟩))
      · skip
        refine zz_if_ne 62 dX11_fars_56 (by decide) (fun _ => ?_) (fun h => absurd h (by decide))
        refine zz_aload_0 dX11_fars_62 ?_
        refine zz_getR fl_X11_10 rfl rfl (Nat.lt_of_lt_of_le (by decide) hn) (xr_0_0 hr) dX11_fars_63 ?_
        refine zz_getR fl_X11_104 rfl rfl (Nat.lt_of_lt_of_le (by decide) hn) (xr_1_6 hr) dX11_fars_66 ?_
        refine zz_iload_4 dX11_fars_69 ?_
        refine zz_aaN q rfl (by omega) (by decide) (by decide) rfl (Nat.lt_of_lt_of_le (by decide) hn) (xr_way hr q (by omega)) dX11_fars_71 ?_
        refine zz_iconst (2) dX11_fars_72 (by decide) ?_
        refine zz_aload_0 dX11_fars_73 ?_
        refine zz_getR fl_X11_71 rfl rfl (Nat.lt_of_lt_of_le (by decide) hn) (xr_0_8 hr) dX11_fars_74 ?_
        refine zz_iload_1 dX11_fars_77 ?_
        refine zz_aaN s1 rfl hs1 (by decide) (by decide) rfl (Nat.lt_of_lt_of_le (by decide) hn) (xr_sheet hr s1 hs1) dX11_fars_78 ?_
        refine zz_iload_4 dX11_fars_79 ?_
        refine zz_iaN q rfl (by omega) (by decide) (xs_sheet s1 hs1) (by omega) dX11_fars_81 ?_
        refine zz_iast 2 (by decide) (by decide) (by decide) (xs_way q (by omega)) (by omega) dX11_fars_82 ?_
        refine zz_iinc_4 (1) dX11_fars_83 rfl rfl (by decide) ?_
        refine zz_goto 36 dX11_fars_86 (by decide) ?_
        rw [ev] at a_53 b_53 ⊢
        rw [nI_1]
        have hK2 : sp_frk S s1 mw z1 (mw - (q + 1)) (q + 1) = K := by
          rw [show mw - q = (mw - (q + 1)) + 1 by omega, sp_frk, if_pos ⟨by omega, by omega, fun z9 => z9.elim a_53 b_53⟩] at hK
          exact hK
        exact ih (q + 1) _ (by omega) hK2 (hF.wy (w := q) (j := 2) (by omega) (by decide)) (by omega)
      · skip
        refine zz_if_ne 62 dX11_fars_56 (by decide) (fun h => absurd h (by decide)) (fun _ => ?_)
        refine zz_iload_4 dX11_fars_59 ?_
        refine zz_iret rfl dX11_fars_61 (by decide) (by decide) ?_
        rw [ev] at o_53
        rw [show mw - q = (mw - (q + 1)) + 1 by omega, sp_frk, if_neg (fun z9 => z9.2.2 o_53)] at hK
        subst hK
        exact h.e hF

set_option maxRecDepth 100000 in
set_option maxHeartbeats 4000000 in
theorem t_X11_fars {C : zz_C} {d n : Nat} {g : zz_G} {r : zz_R} {Q : zz_Q} {S : zz_G} (hx : x_rel S g r n) {v : Int32} (mw : Nat) (hmw : S 51 2 = nI mw) (hmw6 : mw ≤ 6) (hz : ∀ s : Nat, s < 4 → ∃ z : Nat, z ≤ 40 ∧ S 56 s = nI z) (h : x_o g Q (sp_fars S v)) : zz_T C mi_X11_fars (d + 3) 0 0 [.ref 0, .int v] g r n Q := by
  have hn := hx.nn
  have hr := hx.1
  have hmw1 : g 1 7 = nI mw := (x_s2 hx).symm.trans hmw
  refine zz_T.of [some (.ref 0), some (.int v), none, none, none] (by decide +kernel) rfl (Nat.le_of_ble_eq_true rfl) ?_
  refine zz_aload_0 dX11_fars_0 ?_
  refine zz_iload_1 dX11_fars_1 ?_
  refine zz_callV1i cv_X11_259 rfl (Nat.lt_of_lt_of_le (by decide) hn) (Nat.le_of_ble_eq_true rfl) (by decide) (by decide) dX11_fars_2 (t_X11_refusalOfSheet hn hr (fun o_2 => ⟨_, rfl, ?_⟩) (fun s_2 hs_2 es_2 c_2 => ⟨_, rfl, ?_⟩) (fun s_2 hs_2 es_2 c_2 => ⟨_, rfl, ?_⟩))
  · skip
    refine zz_istore_2 dX11_fars_5 rfl rfl ?_
    refine zz_iload_2 dX11_fars_6 ?_
    refine zz_if_eq 16 dX11_fars_7 (by decide) (fun h => absurd h (by decide)) (fun _ => ?_)
    refine zz_aload_0 dX11_fars_10 ?_
    refine zz_iload_2 dX11_fars_11 ?_
    refine zz_callV1i cv_X11_86 rfl (Nat.lt_of_lt_of_le (by decide) hn) (Nat.le_of_ble_eq_true rfl) (by decide) (by decide) dX11_fars_12 (t_X11_error hn hr 1 rfl (by decide) ⟨_, rfl, ?_⟩)
    refine zz_iret rfl dX11_fars_15 (by decide) (by decide) ?_
    first
      | (rw [sp_fars, if_pos o_2] at h; exact x_er hx (by decide) h)
      | (rw [sp_fars, if_neg (sp_nosh_f hs_2), ix_w (by omega), x_sb hx hs_2, if_pos c_2] at h; exact x_er hx (by decide) h)
  · skip
    subst es_2
    refine zz_istore_2 dX11_fars_5 rfl rfl ?_
    refine zz_iload_2 dX11_fars_6 ?_
    refine zz_if_eq 16 dX11_fars_7 (by decide) (fun h => absurd h (by decide)) (fun _ => ?_)
    refine zz_aload_0 dX11_fars_10 ?_
    refine zz_iload_2 dX11_fars_11 ?_
    refine zz_callV1i cv_X11_86 rfl (Nat.lt_of_lt_of_le (by decide) hn) (Nat.le_of_ble_eq_true rfl) (by decide) (by decide) dX11_fars_12 (t_X11_error hn hr 2 rfl (by decide) ⟨_, rfl, ?_⟩)
    refine zz_iret rfl dX11_fars_15 (by decide) (by decide) ?_
    first
      | (rw [sp_fars, if_pos o_2] at h; exact x_er hx (by decide) h)
      | (rw [sp_fars, if_neg (sp_nosh_f hs_2), ix_w (by omega), x_sb hx hs_2, if_pos c_2] at h; exact x_er hx (by decide) h)
  · skip
    subst es_2
    refine zz_istore_2 dX11_fars_5 rfl rfl ?_
    refine zz_iload_2 dX11_fars_6 ?_
    refine zz_if_eq 16 dX11_fars_7 (by decide) (fun _ => ?_) (fun h => absurd h (by decide))
    refine zz_aload_0 dX11_fars_16 ?_
    refine zz_getR fl_X11_77 rfl rfl (Nat.lt_of_lt_of_le (by decide) hn) (xr_0_10 hr) dX11_fars_17 ?_
    refine zz_iload_1 dX11_fars_20 ?_
    refine zz_iaN s_2 rfl hs_2 (by decide) rfl (Nat.lt_of_lt_of_le (by decide) hn) dX11_fars_21 ?_
    refine zz_aload_0 dX11_fars_22 ?_
    refine zz_getR fl_X11_10 rfl rfl (Nat.lt_of_lt_of_le (by decide) hn) (xr_0_0 hr) dX11_fars_23 ?_
    refine zz_getI fl_X11_101 rfl rfl (Nat.lt_of_lt_of_le (by decide) hn) dX11_fars_26 ?_
    refine zz_mmin cs_X11_181 (Nat.le_of_ble_eq_true rfl) (by decide) (by decide) dX11_fars_29 ?_
    refine zz_istore_3 dX11_fars_32 rfl rfl ?_
    refine zz_iconst (0) dX11_fars_33 (by decide) ?_
    refine zz_istore_4 dX11_fars_34 rfl rfl ?_
    obtain ⟨z1, hz1, ez0⟩ := hz s_2 hs_2
    have ez1 : g 49 s_2 = nI z1 := (x_sz hx hs_2).symm.trans ez0
    rw [sp_fars, if_neg (sp_nosh_f hs_2), ix_w (by omega), x_sb hx hs_2, if_neg c_2, hmw, ez0, ix_w (by omega), ix_w (by omega)] at h
    rw [ez1, hmw1, zz_min (by omega) (by omega)]
    exact l_X11_fars (d := d) hx mw hmw hmw6 s_2 z1 hs_2 hz1 ez0 h 50 0 g (by omega) rfl (x_F.rf hx) (by omega)

set_option maxRecDepth 100000 in
set_option maxHeartbeats 4000000 in
theorem l_X11_judge {C : zz_C} {d n : Nat} {g : zz_G} {r : zz_R} {Q : zz_Q} {S : zz_G} (hx : x_rel S g r n) (mw : Nat) (hmw : S 51 2 = nI mw) (hmw6 : mw ≤ 6) (s1 z1 : Nat) (hs1 : s1 < 4) (hz1 : z1 ≤ 40) (ez1 : S 56 s1 = nI z1) {K : Nat} (h : x_o g Q (if nI K = S 51 2 ∧ nI K = S 56 s1 then -1 else nI K, S)) : ∀ (k : Nat) (q : Nat), q ≤ min z1 mw → sp_jg S s1 mw z1 (mw - q) q = K → min z1 mw - q < k → zz_Z C mi_X11_judge (d + 3) 0 0 0 0 36 [some (.ref 0), some (.int (nI s1)), some (.int 0), some (.int (nI (min z1 mw))), some (.int (nI q))] [] g r n Q := by
  intro k
  induction k with
  | zero => intro q hq hK hk; exact absurd hk (by omega)
  | succ k ih =>
    intro q hq hK hk
    have hn := hx.nn
    have hr := hx.1
    have hmw1 : g 1 7 = nI mw := (x_s2 hx).symm.trans hmw
    have ezg : g 49 s1 = nI z1 := (x_sz hx hs1).symm.trans ez1
    refine zz_iload_4 dX11_judge_36 ?_
    refine zz_iload_3 dX11_judge_38 ?_
    refine zz_icmp_ge 75 dX11_judge_39 (by decide) (fun c_39 => ?_) (fun c_39 => ?_)
    · skip
      refine zz_aload_0 dX11_judge_75 ?_
      refine zz_getR fl_X11_77 rfl rfl (Nat.lt_of_lt_of_le (by decide) hn) (xr_0_10 hr) dX11_judge_76 ?_
      refine zz_iload_1 dX11_judge_79 ?_
      refine zz_iaN s1 rfl hs1 (by decide) rfl (Nat.lt_of_lt_of_le (by decide) hn) dX11_judge_80 ?_
      refine zz_aload_0 dX11_judge_81 ?_
      refine zz_getR fl_X11_10 rfl rfl (Nat.lt_of_lt_of_le (by decide) hn) (xr_0_0 hr) dX11_judge_82 ?_
      refine zz_getI fl_X11_101 rfl rfl (Nat.lt_of_lt_of_le (by decide) hn) dX11_judge_85 ?_
      refine zz_icmp_ne 95 dX11_judge_88 (by decide) (fun c_88 => ?_) (fun c_88 => ?_)
      · skip
        refine zz_iload_3 dX11_judge_95 ?_
        refine zz_iret rfl dX11_judge_96 (by decide) (by decide) ?_
        have := zz_gei c_39 (by omega) (by omega)
        have hqm : q = min z1 mw := by omega
        rw [sp_jg_no (by omega)] at hK
        subst hK
        rw [ezg, hmw1] at c_88
        rw [hmw, ez1, hqm] at h
        first
          | (have hzm : z1 = mw := (nI_eq (by omega) (by omega)).mp c_88
             rw [if_pos ⟨by rw [hzm, Nat.min_self], by rw [hzm, Nat.min_self]⟩] at h
             exact h.e (x_F.rf hx))
          | (rw [if_neg (fun z9 => c_88 (z9.2.symm.trans z9.1))] at h
             exact h.e (x_F.rf hx))
      · skip
        refine zz_iconst (-1) dX11_judge_91 (by decide) ?_
        refine zz_goto 96 dX11_judge_92 (by decide) ?_
        refine zz_iret rfl dX11_judge_96 (by decide) (by decide) ?_
        have := zz_gei c_39 (by omega) (by omega)
        have hqm : q = min z1 mw := by omega
        rw [sp_jg_no (by omega)] at hK
        subst hK
        rw [ezg, hmw1] at c_88
        rw [hmw, ez1, hqm] at h
        first
          | (have hzm : z1 = mw := (nI_eq (by omega) (by omega)).mp c_88
             rw [if_pos ⟨by rw [hzm, Nat.min_self], by rw [hzm, Nat.min_self]⟩] at h
             exact h.e (x_F.rf hx))
          | (rw [if_neg (fun z9 => c_88 (z9.2.symm.trans z9.1))] at h
             exact h.e (x_F.rf hx))
    · skip
      have hlt := zz_lti c_39 (by omega) (by omega)
      have ev : g (44 + s1) q = S 57 (40 * s1 + q) := (x_sh hx hs1 (by omega)).symm
      have ew : g (4 + q) 3 = S 51 (16 + 5 * q + 3) := (x_wy hx (by omega) (by decide)).symm
      refine zz_aload_0 dX11_judge_42 ?_
      refine zz_getR fl_X11_71 rfl rfl (Nat.lt_of_lt_of_le (by decide) hn) (xr_0_8 hr) dX11_judge_43 ?_
      refine zz_iload_1 dX11_judge_46 ?_
      refine zz_aaN s1 rfl hs1 (by decide) (by decide) rfl (Nat.lt_of_lt_of_le (by decide) hn) (xr_sheet hr s1 hs1) dX11_judge_47 ?_
      refine zz_iload_4 dX11_judge_48 ?_
      refine zz_iaN q rfl (by omega) (by decide) (xs_sheet s1 hs1) (by omega) dX11_judge_50 ?_
      refine zz_aload_0 dX11_judge_51 ?_
      refine zz_getR fl_X11_10 rfl rfl (Nat.lt_of_lt_of_le (by decide) hn) (xr_0_0 hr) dX11_judge_52 ?_
      refine zz_getR fl_X11_104 rfl rfl (Nat.lt_of_lt_of_le (by decide) hn) (xr_1_6 hr) dX11_judge_55 ?_
      refine zz_iload_4 dX11_judge_58 ?_
      refine zz_aaN q rfl (by omega) (by decide) (by decide) rfl (Nat.lt_of_lt_of_le (by decide) hn) (xr_way hr q (by omega)) dX11_judge_60 ?_
      refine zz_iconst (3) dX11_judge_61 (by decide) ?_
      refine zz_iald 3 (by decide) (by decide) (by decide) (xs_way q (by omega)) (by omega) dX11_judge_62 ?_
      refine zz_icmp_eq 69 dX11_judge_63 (by decide) (fun c_63 => ?_) (fun c_63 => ?_)
      · skip
        refine zz_iinc_4 (1) dX11_judge_69 rfl rfl (by decide) ?_
        refine zz_goto 36 dX11_judge_72 (by decide) ?_
        rw [ev, ew] at c_63
        rw [nI_1]
        have hK2 : sp_jg S s1 mw z1 (mw - (q + 1)) (q + 1) = K := by
          rw [show mw - q = (mw - (q + 1)) + 1 by omega, sp_jg, if_pos ⟨by omega, by omega, c_63⟩] at hK
          exact hK
        exact ih (q + 1) (by omega) hK2 (by omega)
      · skip
        refine zz_iload_4 dX11_judge_66 ?_
        refine zz_iret rfl dX11_judge_68 (by decide) (by decide) ?_
        rw [ev, ew] at c_63
        rw [sp_jg_no (fun z9 => c_63 z9.2.2)] at hK
        subst hK
        rw [if_neg (fun z9 => absurd ((nI_eq (by omega) (by omega)).mp (z9.1.trans hmw)) (by omega))] at h
        exact h.e (x_F.rf hx)

set_option maxRecDepth 100000 in
set_option maxHeartbeats 4000000 in
theorem t_X11_judge {C : zz_C} {d n : Nat} {g : zz_G} {r : zz_R} {Q : zz_Q} {S : zz_G} (hx : x_rel S g r n) {v : Int32} (mw : Nat) (hmw : S 51 2 = nI mw) (hmw6 : mw ≤ 6) (hz : ∀ s : Nat, s < 4 → ∃ z : Nat, z ≤ 40 ∧ S 56 s = nI z) (h : x_o g Q (sp_judge S v)) : zz_T C mi_X11_judge (d + 3) 0 0 [.ref 0, .int v] g r n Q := by
  have hn := hx.nn
  have hr := hx.1
  have hmw1 : g 1 7 = nI mw := (x_s2 hx).symm.trans hmw
  refine zz_T.of [some (.ref 0), some (.int v), none, none, none] (by decide +kernel) rfl (Nat.le_of_ble_eq_true rfl) ?_
  refine zz_aload_0 dX11_judge_0 ?_
  refine zz_iload_1 dX11_judge_1 ?_
  refine zz_callV1i cv_X11_259 rfl (Nat.lt_of_lt_of_le (by decide) hn) (Nat.le_of_ble_eq_true rfl) (by decide) (by decide) dX11_judge_2 (t_X11_refusalOfSheet hn hr (fun o_2 => ⟨_, rfl, ?_⟩) (fun s_2 hs_2 es_2 c_2 => ⟨_, rfl, ?_⟩) (fun s_2 hs_2 es_2 c_2 => ⟨_, rfl, ?_⟩))
  · skip
    refine zz_istore_2 dX11_judge_5 rfl rfl ?_
    refine zz_iload_2 dX11_judge_6 ?_
    refine zz_if_eq 16 dX11_judge_7 (by decide) (fun h => absurd h (by decide)) (fun _ => ?_)
    refine zz_aload_0 dX11_judge_10 ?_
    refine zz_iload_2 dX11_judge_11 ?_
    refine zz_callV1i cv_X11_86 rfl (Nat.lt_of_lt_of_le (by decide) hn) (Nat.le_of_ble_eq_true rfl) (by decide) (by decide) dX11_judge_12 (t_X11_error hn hr 1 rfl (by decide) ⟨_, rfl, ?_⟩)
    refine zz_iret rfl dX11_judge_15 (by decide) (by decide) ?_
    first
      | (rw [sp_judge, if_pos o_2] at h; exact x_er hx (by decide) h)
      | (rw [sp_judge, if_neg (sp_nosh_f hs_2), ix_w (by omega), x_sb hx hs_2, if_pos c_2] at h; exact x_er hx (by decide) h)
  · skip
    subst es_2
    refine zz_istore_2 dX11_judge_5 rfl rfl ?_
    refine zz_iload_2 dX11_judge_6 ?_
    refine zz_if_eq 16 dX11_judge_7 (by decide) (fun h => absurd h (by decide)) (fun _ => ?_)
    refine zz_aload_0 dX11_judge_10 ?_
    refine zz_iload_2 dX11_judge_11 ?_
    refine zz_callV1i cv_X11_86 rfl (Nat.lt_of_lt_of_le (by decide) hn) (Nat.le_of_ble_eq_true rfl) (by decide) (by decide) dX11_judge_12 (t_X11_error hn hr 2 rfl (by decide) ⟨_, rfl, ?_⟩)
    refine zz_iret rfl dX11_judge_15 (by decide) (by decide) ?_
    first
      | (rw [sp_judge, if_pos o_2] at h; exact x_er hx (by decide) h)
      | (rw [sp_judge, if_neg (sp_nosh_f hs_2), ix_w (by omega), x_sb hx hs_2, if_pos c_2] at h; exact x_er hx (by decide) h)
  · skip
    subst es_2
    refine zz_istore_2 dX11_judge_5 rfl rfl ?_
    refine zz_iload_2 dX11_judge_6 ?_
    refine zz_if_eq 16 dX11_judge_7 (by decide) (fun _ => ?_) (fun h => absurd h (by decide))
    refine zz_aload_0 dX11_judge_16 ?_
    refine zz_getR fl_X11_77 rfl rfl (Nat.lt_of_lt_of_le (by decide) hn) (xr_0_10 hr) dX11_judge_17 ?_
    refine zz_iload_1 dX11_judge_20 ?_
    refine zz_iaN s_2 rfl hs_2 (by decide) rfl (Nat.lt_of_lt_of_le (by decide) hn) dX11_judge_21 ?_
    refine zz_aload_0 dX11_judge_22 ?_
    refine zz_getR fl_X11_10 rfl rfl (Nat.lt_of_lt_of_le (by decide) hn) (xr_0_0 hr) dX11_judge_23 ?_
    refine zz_getI fl_X11_101 rfl rfl (Nat.lt_of_lt_of_le (by decide) hn) dX11_judge_26 ?_
    refine zz_mmin cs_X11_181 (Nat.le_of_ble_eq_true rfl) (by decide) (by decide) dX11_judge_29 ?_
    refine zz_istore_3 dX11_judge_32 rfl rfl ?_
    refine zz_iconst (0) dX11_judge_33 (by decide) ?_
    refine zz_istore_4 dX11_judge_34 rfl rfl ?_
    obtain ⟨z1, hz1, ez0⟩ := hz s_2 hs_2
    have ez1 : g 49 s_2 = nI z1 := (x_sz hx hs_2).symm.trans ez0
    rw [sp_judge, if_neg (sp_nosh_f hs_2), ix_w (by omega), x_sb hx hs_2, if_neg c_2, show (S 51 2).toNatClampNeg = mw from by rw [hmw]; exact ix_w (by omega), show (S 56 s_2).toNatClampNeg = z1 from by rw [ez0]; exact ix_w (by omega)] at h
    rw [ez1, hmw1, zz_min (by omega) (by omega)]
    exact l_X11_judge (d := d) hx mw hmw hmw6 s_2 z1 hs_2 hz1 ez0 h 50 0 (by omega) rfl (by omega)
