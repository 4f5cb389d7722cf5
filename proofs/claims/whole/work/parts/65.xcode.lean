theorem x_cd {S g : zz_G} {r : zz_R} {n : Nat} (h : x_rel S g r n) : ∃ pi : Nat → Nat, (∀ c, c < 10 → pi c < 10 ∧ r 10 c = some (11 + pi c)) ∧ (∀ c c', c < 10 → c' < 10 → pi c = pi c' → c = c') ∧ ∀ c j, c < 10 → j < 6 → S 51 (46 + 6 * c + j) = g (11 + pi c) j := by
  obtain ⟨pi, a, b, c⟩ := h.2.2.1
  exact ⟨pi, a, b, fun q j hq hj => (c q j hq hj).symm⟩
theorem x_rel.genC {S S' g g' : zz_G} {r r' : zz_R} {n : Nat} (h : x_rel S g r n) (hq : xq_P S' g') (hc : xb_c 1 (S' 51) g' r') (er : ∀ k, k ≠ 10 → r' k = r k) (eg : ∀ k, (23 ≤ k ∧ k ≤ 26) ∨ 60 ≤ k → g' k = g k) (e51 : ∀ j, j = 5 ∨ j = 6 ∨ 176 ≤ j → S' 51 j = S 51 j) (e52 : S' 52 = S 52) (e50 : S' 50 3 = S 50 3) : x_rel S' g' r' n := by
  obtain ⟨h1, h2, h3, h4, h5⟩ := h
  have d1 : ∀ q ∈ xr_l, q.1 ≠ 10 := by decide
  have d2 : ∀ q ∈ xk_l, q.1 ≠ 10 := by decide
  refine ⟨fun q hq => by rw [er _ (d1 q hq)]; exact h1 q hq, hq, hc, fun u hu => ?_, ?_⟩
  · rw [eg (23 + 2 * u) (by omega), eg (24 + 2 * u) (by omega)]
    exact xb_t_congr (e51 _ (by omega)) (fun j hj => e51 j (by omega)) (h4 u hu)
  · rw [e50, e52, er 0 (by decide)]
    rcases h5 with h5 | ⟨k1, k2, k3, k4, k5, k6, k7⟩
    · exact Or.inl h5
    · refine Or.inr ⟨k1, k2, k3, fun q hq => by rw [er _ (d2 q hq)]; exact k4 q hq, ?_, ?_, fun u hu => ?_⟩
      · unfold xk_P at k5 ⊢
        rw [eg 60 (by omega), eg 61 (by omega), eg 80 (by omega), eg 86 (by omega)]
        exact ⟨k5.1, k5.2.1, fun w j hw hj => by rw [eg _ (by omega)]; exact k5.2.2.1 w j hw hj, k5.2.2.2⟩
      · obtain ⟨pi, c1, c2, c3⟩ := k6
        refine ⟨pi, fun c hc => ?_, c2, fun c j hc hj => ?_⟩
        · rw [er _ (by omega)]
          exact c1 c hc
        · rw [eg _ (by omega)]
          exact c3 c j hc hj
      · rw [eg (82 + 2 * u) (by omega), eg (83 + 2 * u) (by omega)]
        exact k7 u hu
/-- plain places do not see the codes -/
theorem xq_cod {S S' g g' : zz_G} (h : xq_P S g) (eg : ∀ k, k < 11 ∨ 20 < k → g' k = g k) (es : ∀ a j, ¬ (a = 51 ∧ 46 ≤ j ∧ j < 106) → S' a j = S a j) : xq_P S' g' := by
  intro q hq i hi
  have dj : ∀ q ∈ xq_l, (q.1 < 11 ∨ 20 < q.1) ∧ (q.2.2.2.1 = 51 → (q.2.2.2.2 + q.2.2.1 ≤ 46 ∨ 106 ≤ q.2.2.2.2)) := by decide
  obtain ⟨d1, d2⟩ := dj q hq
  rw [eg _ d1, es _ _ (fun z9 => by have := d2 z9.1; omega)]
  exact h q hq i hi
theorem x_rel.cd {S g : zz_G} {r : zz_R} {n c q j : Nat} {x : Int32} (h : x_rel S g r n) (hc : c < 10) (hj : j < 6) (hrc : r 10 c = some (11 + q)) : x_rel (zz_u S 51 (46 + 6 * c + j) x) (zz_u g (11 + q) j x) r n := by
  have hxb := h.2.2.1
  have hqq : q < 10 := by
    obtain ⟨pi, c1, c2, c3⟩ := hxb
    have := c1 c hc
    have e : some (11 + q) = some (1 + 10 + pi c) := hrc.symm.trans this.2
    have := Option.some.inj e
    omega
  refine h.genC (xq_cod h.2.1 (fun k hk => zz_u_row g x (by omega)) (fun a b hb => if_neg (fun z9 => hb ⟨z9.1, by omega⟩))) ?_ (fun _ _ => rfl) (fun k hk => zz_u_row g x (by omega)) (fun b hb => zz_u_ne2 _ _ (by omega)) (zz_u_row _ _ (by decide)) (zz_u_ne1 _ _ (by decide))
  obtain ⟨pi, c1, c2, c3⟩ := hxb
  have hpi : pi c = q := by
    have e : some (11 + q) = some (1 + 10 + pi c) := hrc.symm.trans (c1 c hc).2
    have := Option.some.inj e
    omega
  refine ⟨pi, c1, c2, fun a b ha hb => ?_⟩
  by_cases hac : a = c
  · subst hac
    by_cases hbj : b = j
    · subst hbj
      rw [hpi, zz_u_same]
      exact (zz_u_same _ _ _ _).symm
    · rw [zz_u_ne2 _ _ hbj, zz_u_ne2 _ _ (by omega)]
      exact c3 a b ha hb
  · have hne : pi a ≠ q := fun e => hac (c2 a c ha hc (e.trans hpi.symm))
    rw [zz_u_ne1 _ _ (by omega), zz_u_ne2 _ _ (by omega)]
    exact c3 a b ha hb
theorem x_F.cd {g g' S' : zz_G} {r : zz_R} {n c q j : Nat} {x : Int32} (h : x_F g g' r n S') (hc : c < 10) (hj : j < 6) (hq : q < 10) (hrc : r 10 c = some (11 + q)) : x_F g (zz_u g' (11 + q) j x) r n (zz_u S' 51 (46 + 6 * c + j) x) :=
  ⟨h.1.cd hc hj hrc, fun k h1 h2 => (zz_u_row g' x (by omega)).trans (h.2 k h1 h2)⟩
set_option maxRecDepth 100000 in
set_option maxHeartbeats 4000000 in
theorem t_X11_isCounting {C : zz_C} {d n : Nat} {g : zz_G} {r : zz_R} {Q : zz_Q} {S : zz_G} (hx : x_rel S g r n) {v : Int32} (c : Nat) (hc : c < 10) (ev : v = nI c) (h1 : sp_counts (S 51) c → Q (some (.int 1)) g r n) (h0 : ¬ sp_counts (S 51) c → Q (some (.int 0)) g r n) : zz_T C mi_X11_isCounting d 0 0 [.ref 0, .int v] g r n Q := by
  refine zz_T.of [some (.ref 0), some (.int v), none] (by decide +kernel) rfl (Nat.le_of_ble_eq_true rfl) ?_
  have hn := hx.nn
  have hr := hx.1
  obtain ⟨pi, p1, p2, p3⟩ := x_cd hx
  refine zz_aload_0 dX11_isCounting_0 ?_
  refine zz_getR fl_X11_10 rfl rfl (Nat.lt_of_lt_of_le (by decide) hn) (xr_0_0 hr) dX11_isCounting_1 ?_
  refine zz_getR fl_X11_201 rfl rfl (Nat.lt_of_lt_of_le (by decide) hn) (xr_1_8 hr) dX11_isCounting_4 ?_
  refine zz_iload_1 dX11_isCounting_7 ?_
  refine zz_aaN c ev hc (by decide) (by decide) rfl (Nat.lt_of_lt_of_le (by decide) hn) (p1 c hc).2 dX11_isCounting_8 ?_
  refine zz_astore_2 dX11_isCounting_9 rfl rfl ?_
  refine zz_aload_2 dX11_isCounting_10 ?_
  refine zz_iconst (5) dX11_isCounting_11 (by decide) ?_
  refine zz_iald 5 (by decide) (by decide) (by decide) (xs_code (pi c) (p1 c hc).1) (by have := (p1 c hc).1; omega) dX11_isCounting_12 ?_
  refine zz_if_ne 71 dX11_isCounting_13 (by decide) (fun c_13 => ?_) (fun c_13 => ?_)
  · skip
    refine zz_iconst (0) dX11_isCounting_71 (by decide) ?_
    refine zz_zret rfl (by rfl) dX11_isCounting_72 (by decide) (by decide) ?_
    exact h0 (by rw [sp_counts, p3 c 5 hc (by decide), p3 c 3 hc (by decide), p3 c 4 hc (by decide), x_s0 hx, x_s12 hx, x_s7 hx]; exact fun z9 => c_13 z9.1)
  · skip
    refine zz_aload_0 dX11_isCounting_16 ?_
    refine zz_getR fl_X11_10 rfl rfl (Nat.lt_of_lt_of_le (by decide) hn) (xr_0_0 hr) dX11_isCounting_17 ?_
    refine zz_getI fl_X11_110 rfl rfl (Nat.lt_of_lt_of_le (by decide) hn) dX11_isCounting_20 ?_
    refine zz_aload_2 dX11_isCounting_23 ?_
    refine zz_iconst (3) dX11_isCounting_24 (by decide) ?_
    refine zz_iald 3 (by decide) (by decide) (by decide) (xs_code (pi c) (p1 c hc).1) (by have := (p1 c hc).1; omega) dX11_isCounting_25 ?_
    refine zz_icmp_lt 71 dX11_isCounting_26 (by decide) (fun c_26 => ?_) (fun c_26 => ?_)
    · skip
      refine zz_iconst (0) dX11_isCounting_71 (by decide) ?_
      refine zz_zret rfl (by rfl) dX11_isCounting_72 (by decide) (by decide) ?_
      exact h0 (by rw [sp_counts, p3 c 5 hc (by decide), p3 c 3 hc (by decide), p3 c 4 hc (by decide), x_s0 hx, x_s12 hx, x_s7 hx]; exact fun z9 => z9.2.1 (Or.inl c_26))
    · skip
      refine zz_aload_0 dX11_isCounting_29 ?_
      refine zz_getR fl_X11_10 rfl rfl (Nat.lt_of_lt_of_le (by decide) hn) (xr_0_0 hr) dX11_isCounting_30 ?_
      refine zz_getI fl_X11_110 rfl rfl (Nat.lt_of_lt_of_le (by decide) hn) dX11_isCounting_33 ?_
      refine zz_aload_2 dX11_isCounting_36 ?_
      refine zz_iconst (4) dX11_isCounting_37 (by decide) ?_
      refine zz_iald 4 (by decide) (by decide) (by decide) (xs_code (pi c) (p1 c hc).1) (by have := (p1 c hc).1; omega) dX11_isCounting_38 ?_
      refine zz_icmp_gt 71 dX11_isCounting_39 (by decide) (fun c_39 => ?_) (fun c_39 => ?_)
      · skip
        refine zz_iconst (0) dX11_isCounting_71 (by decide) ?_
        refine zz_zret rfl (by rfl) dX11_isCounting_72 (by decide) (by decide) ?_
        exact h0 (by rw [sp_counts, p3 c 5 hc (by decide), p3 c 3 hc (by decide), p3 c 4 hc (by decide), x_s0 hx, x_s12 hx, x_s7 hx]; exact fun z9 => z9.2.1 (Or.inr c_39))
      · skip
        refine zz_aload_0 dX11_isCounting_42 ?_
        refine zz_getR fl_X11_10 rfl rfl (Nat.lt_of_lt_of_le (by decide) hn) (xr_0_0 hr) dX11_isCounting_43 ?_
        refine zz_getR fl_X11_90 rfl rfl (Nat.lt_of_lt_of_le (by decide) hn) (xr_1_0 hr) dX11_isCounting_46 ?_
        refine zz_iconst (4) dX11_isCounting_49 (by decide) ?_
        refine zz_iald 4 (by decide) (by decide) (by decide) rfl (Nat.lt_of_lt_of_le (by decide) hn) dX11_isCounting_50 ?_
        refine zz_if_eq 67 dX11_isCounting_51 (by decide) (fun c_51 => ?_) (fun c_51 => ?_)
        · skip
          refine zz_iconst (1) dX11_isCounting_67 (by decide) ?_
          refine zz_goto 72 dX11_isCounting_68 (by decide) ?_
          refine zz_zret rfl (by rfl) dX11_isCounting_72 (by decide) (by decide) ?_
          exact h1 (by rw [sp_counts, p3 c 5 hc (by decide), p3 c 3 hc (by decide), p3 c 4 hc (by decide), x_s0 hx, x_s12 hx, x_s7 hx]; exact ⟨c_13, fun z9 => z9.elim c_26 c_39, Or.inl c_51⟩)
        · skip
          refine zz_iload_1 dX11_isCounting_54 ?_
          refine zz_aload_0 dX11_isCounting_55 ?_
          refine zz_getR fl_X11_10 rfl rfl (Nat.lt_of_lt_of_le (by decide) hn) (xr_0_0 hr) dX11_isCounting_56 ?_
          refine zz_getI fl_X11_195 rfl rfl (Nat.lt_of_lt_of_le (by decide) hn) dX11_isCounting_59 ?_
          refine zz_iconst (1) dX11_isCounting_62 (by decide) ?_
          refine zz_isub dX11_isCounting_63 ?_
          refine zz_icmp_ne 71 dX11_isCounting_64 (by decide) (fun c_64 => ?_) (fun c_64 => ?_)
          · skip
            refine zz_iconst (0) dX11_isCounting_71 (by decide) ?_
            refine zz_zret rfl (by rfl) dX11_isCounting_72 (by decide) (by decide) ?_
            exact h0 (by rw [sp_counts, p3 c 5 hc (by decide), p3 c 3 hc (by decide), p3 c 4 hc (by decide), x_s0 hx, x_s12 hx, x_s7 hx]; exact fun z9 => z9.2.2.elim c_51 (fun z8 => c_64 (by rw [ev]; exact z8)))
          · skip
            refine zz_iconst (1) dX11_isCounting_67 (by decide) ?_
            refine zz_goto 72 dX11_isCounting_68 (by decide) ?_
            refine zz_zret rfl (by rfl) dX11_isCounting_72 (by decide) (by decide) ?_
            exact h1 (by rw [sp_counts, p3 c 5 hc (by decide), p3 c 3 hc (by decide), p3 c 4 hc (by decide), x_s0 hx, x_s12 hx, x_s7 hx]; exact ⟨c_13, fun z9 => z9.elim c_26 c_39, Or.inr (by rw [← ev]; exact c_64)⟩)

set_option maxRecDepth 100000 in
set_option maxHeartbeats 4000000 in
theorem t_X11_ofCode {C : zz_C} {d n : Nat} {g : zz_G} {r : zz_R} {Q : zz_Q} {S : zz_G} (hx : x_rel S g r n) {v what : Int32} (cw : Nat) (hcw : S 51 7 = nI cw) (hcw6 : cw ≤ 10) (h : x_o g Q (sp_ofCode S v what)) : zz_T C mi_X11_ofCode (d + 1) 0 0 [.ref 0, .int v, .int what] g r n Q := by
  have hn := hx.nn
  have hr := hx.1
  have hcw1 : g 1 9 = nI cw := (x_s7 hx).symm.trans hcw
  obtain ⟨pi, p1, p2, p3⟩ := x_cd hx
  refine zz_T.of [some (.ref 0), some (.int v), some (.int what)] (by decide +kernel) rfl (Nat.le_of_ble_eq_true rfl) ?_
  refine zz_iload_1 dX11_ofCode_0 ?_
  refine zz_if_lt 24 dX11_ofCode_1 (by decide) (fun c_1 => ?_) (fun c_1 => ?_)
  · skip
    refine zz_aload_0 dX11_ofCode_24 ?_
    refine zz_iconst (1) dX11_ofCode_25 (by decide) ?_
    refine zz_callV1i cv_X11_86 rfl (Nat.lt_of_lt_of_le (by decide) hn) (Nat.le_of_ble_eq_true rfl) (by decide) (by decide) dX11_ofCode_26 (t_X11_error hn hr 1 rfl (by decide) ⟨_, rfl, ?_⟩)
    refine zz_iret rfl dX11_ofCode_29 (by decide) (by decide) ?_
    rw [sp_ofCode, if_pos (fun q => q.1 c_1)] at h
    exact x_er hx (by decide) h
  · skip
    refine zz_iload_1 dX11_ofCode_4 ?_
    refine zz_aload_0 dX11_ofCode_5 ?_
    refine zz_getR fl_X11_10 rfl rfl (Nat.lt_of_lt_of_le (by decide) hn) (xr_0_0 hr) dX11_ofCode_6 ?_
    refine zz_getI fl_X11_195 rfl rfl (Nat.lt_of_lt_of_le (by decide) hn) dX11_ofCode_9 ?_
    refine zz_icmp_ge 24 dX11_ofCode_12 (by decide) (fun c_12 => ?_) (fun c_12 => ?_)
    · skip
      refine zz_aload_0 dX11_ofCode_24 ?_
      refine zz_iconst (1) dX11_ofCode_25 (by decide) ?_
      refine zz_callV1i cv_X11_86 rfl (Nat.lt_of_lt_of_le (by decide) hn) (Nat.le_of_ble_eq_true rfl) (by decide) (by decide) dX11_ofCode_26 (t_X11_error hn hr 1 rfl (by decide) ⟨_, rfl, ?_⟩)
      refine zz_iret rfl dX11_ofCode_29 (by decide) (by decide) ?_
      rw [sp_ofCode, if_pos (fun q => absurd c_12 (Int32.not_le.mpr (by rw [← x_s7 hx]; exact q.2)))] at h
      exact x_er hx (by decide) h
    · skip
      refine zz_iload_2 dX11_ofCode_15 ?_
      refine zz_bipush (6) dX11_ofCode_16 (by decide) ?_
      refine zz_callS2i cs_X11_93 (Nat.le_of_ble_eq_true rfl) (by decide) (by decide) dX11_ofCode_18 (t_X11_within (fun a_18 b_18 => ⟨_, rfl, ?_⟩) (fun o_18 => ⟨_, rfl, ?_⟩))
      · skip
        refine zz_if_ne 30 dX11_ofCode_21 (by decide) (fun _ => ?_) (fun h => absurd h (by decide))
        refine zz_iload_2 dX11_ofCode_30 ?_
        refine zz_bipush (6) dX11_ofCode_31 (by decide) ?_
        refine zz_icmp_ne 50 dX11_ofCode_33 (by decide) (fun c_33 => ?_) (fun c_33 => ?_)
        · skip
          refine zz_aload_0 dX11_ofCode_50 ?_
          refine zz_getR fl_X11_10 rfl rfl (Nat.lt_of_lt_of_le (by decide) hn) (xr_0_0 hr) dX11_ofCode_51 ?_
          refine zz_getR fl_X11_201 rfl rfl (Nat.lt_of_lt_of_le (by decide) hn) (xr_1_8 hr) dX11_ofCode_54 ?_
          refine zz_iload_1 dX11_ofCode_57 ?_
          obtain ⟨c1, hc1, ec1⟩ := zz_nat (Int32.not_lt.mp c_1) (by rw [← hcw1]; exact Int32.not_le.mp c_12) (by omega)
          obtain ⟨j1, hj0, hj1, ej1⟩ := zz_in0 (lo := 0) (hi := 6) rfl rfl (by decide) (by decide) a_18 b_18
          have hj6 : j1 < 6 := zz_ltm ej1 hj1 c_33
          refine zz_aaN c1 ec1 (by omega) (by decide) (by decide) rfl (Nat.lt_of_lt_of_le (by decide) hn) (p1 c1 (by omega)).2 dX11_ofCode_58 ?_
          refine zz_iload_2 dX11_ofCode_59 ?_
          refine zz_iaN j1 ej1 hj6 (by decide) (xs_code (pi c1) (p1 c1 (by omega)).1) (by have := (p1 c1 (by omega)).1; omega) dX11_ofCode_60 ?_
          refine zz_iret rfl dX11_ofCode_61 (by decide) (by decide) ?_
          rw [sp_ofCode, if_neg (fun q => q ⟨c_1, by rw [x_s7 hx]; exact Int32.not_le.mp c_12⟩), if_neg (fun z9 => z9.elim a_18 b_18), if_pos (by rw [ej1]; exact nI_lt (b := 6) hj6 (by omega)), show v.toNatClampNeg = c1 from by rw [ec1]; exact ix_w (by omega), show what.toNatClampNeg = j1 from by rw [ej1]; exact ix_w (by omega), p3 c1 j1 (by omega) hj6] at h
          exact h.e (x_F.rf hx)
        · skip
          refine zz_aload_0 dX11_ofCode_36 ?_
          refine zz_iload_1 dX11_ofCode_37 ?_
          obtain ⟨c1, hc1, ec1⟩ := zz_nat (Int32.not_lt.mp c_1) (by rw [← hcw1]; exact Int32.not_le.mp c_12) (by omega)
          refine zz_callV1i cv_X11_198 rfl (Nat.lt_of_lt_of_le (by decide) hn) (Nat.le_of_ble_eq_true rfl) (by decide) (by decide) dX11_ofCode_38 (t_X11_isCounting hx c1 (by omega) ec1 (fun y_38 => ⟨_, rfl, ?_⟩) (fun y_38 => ⟨_, rfl, ?_⟩))
          · skip
            refine zz_if_eq 48 dX11_ofCode_41 (by decide) (fun h => absurd h (by decide)) (fun _ => ?_)
            refine zz_iconst (1) dX11_ofCode_44 (by decide) ?_
            refine zz_goto 49 dX11_ofCode_45 (by decide) ?_
            refine zz_iret rfl dX11_ofCode_49 (by decide) (by decide) ?_
            rw [sp_ofCode, if_neg (fun q => q ⟨c_1, by rw [x_s7 hx]; exact Int32.not_le.mp c_12⟩), if_neg (fun z9 => z9.elim a_18 b_18), if_neg (by rw [c_33]; decide), show v.toNatClampNeg = c1 from by rw [ec1]; exact ix_w (by omega)] at h
            first
              | (rw [if_pos y_38] at h; exact h.e (x_F.rf hx))
              | (rw [if_neg y_38] at h; exact h.e (x_F.rf hx))
          · skip
            refine zz_if_eq 48 dX11_ofCode_41 (by decide) (fun _ => ?_) (fun h => absurd h (by decide))
            refine zz_iconst (0) dX11_ofCode_48 (by decide) ?_
            refine zz_iret rfl dX11_ofCode_49 (by decide) (by decide) ?_
            rw [sp_ofCode, if_neg (fun q => q ⟨c_1, by rw [x_s7 hx]; exact Int32.not_le.mp c_12⟩), if_neg (fun z9 => z9.elim a_18 b_18), if_neg (by rw [c_33]; decide), show v.toNatClampNeg = c1 from by rw [ec1]; exact ix_w (by omega)] at h
            first
              | (rw [if_pos y_38] at h; exact h.e (x_F.rf hx))
              | (rw [if_neg y_38] at h; exact h.e (x_F.rf hx))
      · skip
        refine zz_if_ne 30 dX11_ofCode_21 (by decide) (fun h => absurd h (by decide)) (fun _ => ?_)
        refine zz_aload_0 dX11_ofCode_24 ?_
        refine zz_iconst (1) dX11_ofCode_25 (by decide) ?_
        refine zz_callV1i cv_X11_86 rfl (Nat.lt_of_lt_of_le (by decide) hn) (Nat.le_of_ble_eq_true rfl) (by decide) (by decide) dX11_ofCode_26 (t_X11_error hn hr 1 rfl (by decide) ⟨_, rfl, ?_⟩)
        refine zz_iret rfl dX11_ofCode_29 (by decide) (by decide) ?_
        rw [sp_ofCode, if_neg (fun q => q ⟨c_1, by rw [x_s7 hx]; exact Int32.not_le.mp c_12⟩), if_pos o_18] at h
        exact x_er hx (by decide) h

set_option maxRecDepth 100000 in
set_option maxHeartbeats 4000000 in
theorem l_X11_counting {C : zz_C} {d n : Nat} {g : zz_G} {r : zz_R} {Q : zz_Q} {S : zz_G} (hx : x_rel S g r n) (cw : Nat) (hcw : S 51 7 = nI cw) (hcw6 : cw ≤ 10) (h : x_o g Q (sp_counting S)) : ∀ (k : Nat) (q : Nat), q ≤ cw → cw - q < k → zz_Z C mi_X11_counting (d + 1) 0 0 0 0 4 [some (.ref 0), some (.int (sp_cg (S 51) q)), some (.int (nI q))] [] g r n Q := by
  intro k
  induction k with
  | zero => intro q hq hk; exact absurd hk (by omega)
  | succ k ih =>
    intro q hq hk
    have hn := hx.nn
    have hr := hx.1
    have hcw1 : g 1 9 = nI cw := (x_s7 hx).symm.trans hcw
    refine zz_iload_2 dX11_counting_4 ?_
    refine zz_aload_0 dX11_counting_5 ?_
    refine zz_getR fl_X11_10 rfl rfl (Nat.lt_of_lt_of_le (by decide) hn) (xr_0_0 hr) dX11_counting_6 ?_
    refine zz_getI fl_X11_195 rfl rfl (Nat.lt_of_lt_of_le (by decide) hn) dX11_counting_9 ?_
    refine zz_icmp_ge 35 dX11_counting_12 (by decide) (fun c_12 => ?_) (fun c_12 => ?_)
    · skip
      refine zz_iload_1 dX11_counting_35 ?_
      refine zz_iret rfl dX11_counting_36 (by decide) (by decide) ?_
      rw [hcw1] at c_12
      have := zz_gei c_12 (by omega) (by omega)
      obtain rfl : q = cw := by omega
      rw [sp_counting, hcw, ix_w (by omega)] at h
      exact h.e (x_F.rf hx)
    · skip
      rw [hcw1] at c_12
      have hlt := zz_lti c_12 (by omega) (by omega)
      refine zz_aload_0 dX11_counting_15 ?_
      refine zz_iload_2 dX11_counting_16 ?_
      refine zz_callV1i cv_X11_198 rfl (Nat.lt_of_lt_of_le (by decide) hn) (Nat.le_of_ble_eq_true rfl) (by decide) (by decide) dX11_counting_17 (t_X11_isCounting hx q (by omega) rfl (fun y_17 => ⟨_, rfl, ?_⟩) (fun y_17 => ⟨_, rfl, ?_⟩))
      · skip
        refine zz_if_eq 29 dX11_counting_20 (by decide) (fun h => absurd h (by decide)) (fun _ => ?_)
        refine zz_iload_1 dX11_counting_23 ?_
        refine zz_iconst (1) dX11_counting_24 (by decide) ?_
        refine zz_iload_2 dX11_counting_25 ?_
        refine zz_ishl dX11_counting_26 ?_
        refine zz_ior dX11_counting_27 ?_
        refine zz_istore_1 dX11_counting_28 rfl rfl ?_
        refine zz_iinc_2 (1) dX11_counting_29 rfl rfl (by decide) ?_
        refine zz_goto 4 dX11_counting_32 (by decide) ?_
        first
          | (rw [sp_cg_y y_17, nI_1]; exact ih (q + 1) (by omega) (by omega))
          | (rw [show sp_cg (S 51) q = sp_cg (S 51) (q + 1) from by rw [← sp_cg_n y_17]; exact (Int32.or_zero).symm, nI_1]; exact ih (q + 1) (by omega) (by omega))
      · skip
        refine zz_if_eq 29 dX11_counting_20 (by decide) (fun _ => ?_) (fun h => absurd h (by decide))
        refine zz_iinc_2 (1) dX11_counting_29 rfl rfl (by decide) ?_
        refine zz_goto 4 dX11_counting_32 (by decide) ?_
        first
          | (rw [sp_cg_y y_17, nI_1]; exact ih (q + 1) (by omega) (by omega))
          | (rw [show sp_cg (S 51) q = sp_cg (S 51) (q + 1) from by rw [← sp_cg_n y_17]; exact (Int32.or_zero).symm, nI_1]; exact ih (q + 1) (by omega) (by omega))

set_option maxRecDepth 100000 in
set_option maxHeartbeats 4000000 in
theorem t_X11_counting {C : zz_C} {d n : Nat} {g : zz_G} {r : zz_R} {Q : zz_Q} {S : zz_G} (hx : x_rel S g r n) (cw : Nat) (hcw : S 51 7 = nI cw) (hcw6 : cw ≤ 10) (h : x_o g Q (sp_counting S)) : zz_T C mi_X11_counting (d + 1) 0 0 [.ref 0] g r n Q := by
  have hn := hx.nn
  have hr := hx.1
  refine zz_T.of [some (.ref 0), none, none] (by decide +kernel) rfl (Nat.le_of_ble_eq_true rfl) ?_
  refine zz_iconst (0) dX11_counting_0 (by decide) ?_
  refine zz_istore_1 dX11_counting_1 rfl rfl ?_
  refine zz_iconst (0) dX11_counting_2 (by decide) ?_
  refine zz_istore_2 dX11_counting_3 rfl rfl ?_
  exact l_X11_counting (d := d) hx cw hcw hcw6 h 11 0 (by omega) (by omega)

set_option maxRecDepth 100000 in
set_option maxHeartbeats 4000000 in
theorem l2_X11_crossed {C : zz_C} {d n : Nat} {g : zz_G} {r : zz_R} {Q : zz_Q} {S : zz_G} (hx : x_rel S g r n) (cw : Nat) (hcw : S 51 7 = nI cw) (hcw6 : cw ≤ 10) {acc : Int32} (c : Nat) (hc : c < cw) (h : zz_Z C mi_X11_crossed d 0 0 0 0 87 [some (.ref 0), some (.int (sp_ci (S 51) c acc cw)), some (.int (nI c)), some (.int (nI cw))] [] g r n Q) : ∀ (k : Nat) (q : Nat), q ≤ cw → cw - q < k → zz_Z C mi_X11_crossed d 0 0 0 0 17 [some (.ref 0), some (.int (sp_ci (S 51) c acc q)), some (.int (nI c)), some (.int (nI q))] [] g r n Q := by
  intro k
  induction k with
  | zero => intro q hq hk; exact absurd hk (by omega)
  | succ k ih =>
    intro q hq hk
    have hn := hx.nn
    have hr := hx.1
    have hcw1 : g 1 9 = nI cw := (x_s7 hx).symm.trans hcw
    obtain ⟨pi, p1, p2, p3⟩ := x_cd hx
    refine zz_iload_3 dX11_crossed_17 ?_
    refine zz_aload_0 dX11_crossed_18 ?_
    refine zz_getR fl_X11_10 rfl rfl (Nat.lt_of_lt_of_le (by decide) hn) (xr_0_0 hr) dX11_crossed_19 ?_
    refine zz_getI fl_X11_195 rfl rfl (Nat.lt_of_lt_of_le (by decide) hn) dX11_crossed_22 ?_
    refine zz_icmp_ge 87 dX11_crossed_25 (by decide) (fun c_25 => ?_) (fun c_25 => ?_)
    · skip
      rw [hcw1] at c_25
      have := zz_gei c_25 (by omega) (by omega)
      obtain rfl : q = cw := by omega
      exact h
    · skip
      rw [hcw1] at c_25
      have hlt := zz_lti c_25 (by omega) (by omega)
      refine zz_aload_0 dX11_crossed_28 ?_
      refine zz_getR fl_X11_10 rfl rfl (Nat.lt_of_lt_of_le (by decide) hn) (xr_0_0 hr) dX11_crossed_29 ?_
      refine zz_getR fl_X11_201 rfl rfl (Nat.lt_of_lt_of_le (by decide) hn) (xr_1_8 hr) dX11_crossed_32 ?_
      refine zz_iload_2 dX11_crossed_35 ?_
      refine zz_aaN c rfl (by omega) (by decide) (by decide) rfl (Nat.lt_of_lt_of_le (by decide) hn) (p1 c (by omega)).2 dX11_crossed_36 ?_
      refine zz_iconst (2) dX11_crossed_37 (by decide) ?_
      refine zz_iald 2 (by decide) (by decide) (by decide) (xs_code (pi c) (p1 c (by omega)).1) (by have := (p1 c (by omega)).1; omega) dX11_crossed_38 ?_
      refine zz_aload_0 dX11_crossed_39 ?_
      refine zz_getR fl_X11_10 rfl rfl (Nat.lt_of_lt_of_le (by decide) hn) (xr_0_0 hr) dX11_crossed_40 ?_
      refine zz_getR fl_X11_201 rfl rfl (Nat.lt_of_lt_of_le (by decide) hn) (xr_1_8 hr) dX11_crossed_43 ?_
      refine zz_iload_3 dX11_crossed_46 ?_
      refine zz_aaN q rfl (by omega) (by decide) (by decide) rfl (Nat.lt_of_lt_of_le (by decide) hn) (p1 q (by omega)).2 dX11_crossed_47 ?_
      refine zz_iconst (2) dX11_crossed_48 (by decide) ?_
      refine zz_iald 2 (by decide) (by decide) (by decide) (xs_code (pi q) (p1 q (by omega)).1) (by have := (p1 q (by omega)).1; omega) dX11_crossed_49 ?_
      refine zz_icmp_ge 81 dX11_crossed_50 (by decide) (fun c_50 => ?_) (fun c_50 => ?_)
      · skip
        refine zz_iinc_3 (1) dX11_crossed_81 rfl rfl (by decide) ?_
        refine zz_goto 17 dX11_crossed_84 (by decide) ?_
        first
          | (rw [sp_ci_y (by rw [sp_cx, p3 q 2 (by omega) (by decide), p3 c 2 (by omega) (by decide), p3 c 3 (by omega) (by decide), p3 q 3 (by omega) (by decide)]; exact ⟨c_50, c_75⟩), nI_1]; exact ih (q + 1) (by omega) (by omega))
          | (rw [show sp_ci (S 51) c acc q = sp_ci (S 51) c acc (q + 1) from by rw [← sp_ci_n (show ¬ sp_cx (S 51) c q from by rw [sp_cx, p3 q 2 (by omega) (by decide), p3 c 2 (by omega) (by decide), p3 c 3 (by omega) (by decide), p3 q 3 (by omega) (by decide)]; exact fun z9 => z9.1 c_50)]; exact (Int32.add_zero _).symm, nI_1]; exact ih (q + 1) (by omega) (by omega))
      · skip
        refine zz_aload_0 dX11_crossed_53 ?_
        refine zz_getR fl_X11_10 rfl rfl (Nat.lt_of_lt_of_le (by decide) hn) (xr_0_0 hr) dX11_crossed_54 ?_
        refine zz_getR fl_X11_201 rfl rfl (Nat.lt_of_lt_of_le (by decide) hn) (xr_1_8 hr) dX11_crossed_57 ?_
        refine zz_iload_2 dX11_crossed_60 ?_
        refine zz_aaN c rfl (by omega) (by decide) (by decide) rfl (Nat.lt_of_lt_of_le (by decide) hn) (p1 c (by omega)).2 dX11_crossed_61 ?_
        refine zz_iconst (3) dX11_crossed_62 (by decide) ?_
        refine zz_iald 3 (by decide) (by decide) (by decide) (xs_code (pi c) (p1 c (by omega)).1) (by have := (p1 c (by omega)).1; omega) dX11_crossed_63 ?_
        refine zz_aload_0 dX11_crossed_64 ?_
        refine zz_getR fl_X11_10 rfl rfl (Nat.lt_of_lt_of_le (by decide) hn) (xr_0_0 hr) dX11_crossed_65 ?_
        refine zz_getR fl_X11_201 rfl rfl (Nat.lt_of_lt_of_le (by decide) hn) (xr_1_8 hr) dX11_crossed_68 ?_
        refine zz_iload_3 dX11_crossed_71 ?_
        refine zz_aaN q rfl (by omega) (by decide) (by decide) rfl (Nat.lt_of_lt_of_le (by decide) hn) (p1 q (by omega)).2 dX11_crossed_72 ?_
        refine zz_iconst (3) dX11_crossed_73 (by decide) ?_
        refine zz_iald 3 (by decide) (by decide) (by decide) (xs_code (pi q) (p1 q (by omega)).1) (by have := (p1 q (by omega)).1; omega) dX11_crossed_74 ?_
        refine zz_icmp_le 81 dX11_crossed_75 (by decide) (fun c_75 => ?_) (fun c_75 => ?_)
        · skip
          refine zz_iinc_3 (1) dX11_crossed_81 rfl rfl (by decide) ?_
          refine zz_goto 17 dX11_crossed_84 (by decide) ?_
          first
            | (rw [sp_ci_y (by rw [sp_cx, p3 q 2 (by omega) (by decide), p3 c 2 (by omega) (by decide), p3 c 3 (by omega) (by decide), p3 q 3 (by omega) (by decide)]; exact ⟨c_50, c_75⟩), nI_1]; exact ih (q + 1) (by omega) (by omega))
            | (rw [show sp_ci (S 51) c acc q = sp_ci (S 51) c acc (q + 1) from by rw [← sp_ci_n (show ¬ sp_cx (S 51) c q from by rw [sp_cx, p3 q 2 (by omega) (by decide), p3 c 2 (by omega) (by decide), p3 c 3 (by omega) (by decide), p3 q 3 (by omega) (by decide)]; exact fun z9 => z9.2 c_75)]; exact (Int32.add_zero _).symm, nI_1]; exact ih (q + 1) (by omega) (by omega))
        · skip
          refine zz_iinc_1 (1) dX11_crossed_78 rfl rfl (by decide) ?_
          refine zz_iinc_3 (1) dX11_crossed_81 rfl rfl (by decide) ?_
          refine zz_goto 17 dX11_crossed_84 (by decide) ?_
          first
            | (rw [sp_ci_y (by rw [sp_cx, p3 q 2 (by omega) (by decide), p3 c 2 (by omega) (by decide), p3 c 3 (by omega) (by decide), p3 q 3 (by omega) (by decide)]; exact ⟨c_50, c_75⟩), nI_1]; exact ih (q + 1) (by omega) (by omega))
            | (rw [show sp_ci (S 51) c acc q = sp_ci (S 51) c acc (q + 1) from by rw [← sp_ci_n (show ¬ sp_cx (S 51) c q from by rw [sp_cx, p3 q 2 (by omega) (by decide), p3 c 2 (by omega) (by decide), p3 c 3 (by omega) (by decide), p3 q 3 (by omega) (by decide)]; exact fun z9 => z9.2 c_75)]; exact (Int32.add_zero _).symm, nI_1]; exact ih (q + 1) (by omega) (by omega))

set_option maxRecDepth 100000 in
set_option maxHeartbeats 4000000 in
theorem l_X11_crossed {C : zz_C} {d n : Nat} {g : zz_G} {r : zz_R} {Q : zz_Q} {S : zz_G} (hx : x_rel S g r n) (cw : Nat) (hcw : S 51 7 = nI cw) (hcw6 : cw ≤ 10) (h : x_o g Q (sp_crossed S)) : ∀ (k : Nat) (q : Nat) (l3 : Option Value), q ≤ cw → cw - q < k → zz_Z C mi_X11_crossed d 0 0 0 0 4 [some (.ref 0), some (.int (sp_co (S 51) cw q)), some (.int (nI q)), l3] [] g r n Q := by
  intro k
  induction k with
  | zero => intro q l3 hq hk; exact absurd hk (by omega)
  | succ k ih =>
    intro q l3 hq hk
    have hn := hx.nn
    have hr := hx.1
    have hcw1 : g 1 9 = nI cw := (x_s7 hx).symm.trans hcw
    refine zz_iload_2 dX11_crossed_4 ?_
    refine zz_aload_0 dX11_crossed_5 ?_
    refine zz_getR fl_X11_10 rfl rfl (Nat.lt_of_lt_of_le (by decide) hn) (xr_0_0 hr) dX11_crossed_6 ?_
    refine zz_getI fl_X11_195 rfl rfl (Nat.lt_of_lt_of_le (by decide) hn) dX11_crossed_9 ?_
    refine zz_icmp_ge 93 dX11_crossed_12 (by decide) (fun c_12 => ?_) (fun c_12 => ?_)
    · skip
      refine zz_iload_1 dX11_crossed_93 ?_
      refine zz_iret rfl dX11_crossed_94 (by decide) (by decide) ?_
      rw [hcw1] at c_12
      have := zz_gei c_12 (by omega) (by omega)
      obtain rfl : q = cw := by omega
      rw [sp_crossed, hcw, ix_w (by omega)] at h
      exact h.e (x_F.rf hx)
    · skip
      rw [hcw1] at c_12
      have hlt := zz_lti c_12 (by omega) (by omega)
      refine zz_iconst (0) dX11_crossed_15 (by decide) ?_
      refine zz_istore_3 dX11_crossed_16 rfl rfl ?_
      refine l2_X11_crossed (acc := sp_co (S 51) cw q) hx cw hcw hcw6 q hlt ?_ 11 0 (by omega) (by omega)
      refine zz_iinc_2 (1) dX11_crossed_87 rfl rfl (by decide) ?_
      refine zz_goto 4 dX11_crossed_90 (by decide) ?_
      rw [show sp_ci (S 51) q (sp_co (S 51) cw q) cw = sp_co (S 51) cw (q + 1) from rfl, nI_1]
      exact ih (q + 1) _ (by omega) (by omega)

set_option maxRecDepth 100000 in
set_option maxHeartbeats 4000000 in
theorem t_X11_crossed {C : zz_C} {d n : Nat} {g : zz_G} {r : zz_R} {Q : zz_Q} {S : zz_G} (hx : x_rel S g r n) (cw : Nat) (hcw : S 51 7 = nI cw) (hcw6 : cw ≤ 10) (h : x_o g Q (sp_crossed S)) : zz_T C mi_X11_crossed (d + 0) 0 0 [.ref 0] g r n Q := by
  have hn := hx.nn
  have hr := hx.1
  refine zz_T.of [some (.ref 0), none, none, none] (by decide +kernel) rfl (Nat.le_of_ble_eq_true rfl) ?_
  refine zz_iconst (0) dX11_crossed_0 (by decide) ?_
  refine zz_istore_1 dX11_crossed_1 rfl rfl ?_
  refine zz_iconst (0) dX11_crossed_2 (by decide) ?_
  refine zz_istore_2 dX11_crossed_3 rfl rfl ?_
  exact l_X11_crossed (d := d) hx cw hcw hcw6 h 11 0 _ (by omega) (by omega)

set_option maxRecDepth 100000 in
set_option maxHeartbeats 4000000 in
theorem l_X11_waitFor {C : zz_C} {d n : Nat} {g : zz_G} {r : zz_R} {Q : zz_Q} {S : zz_G} (hx : x_rel S g r n) (cw : Nat) (hcw : S 51 7 = nI cw) (hcw6 : cw ≤ 10) (h : x_o g Q (sp_waitFor S)) : ∀ (k : Nat) (q : Nat) (l3 l4 : Option Value), q ≤ cw → cw - q < k → zz_Z C mi_X11_waitFor (d + 1) 0 0 0 0 4 [some (.ref 0), some (.int (sp_wf (S 51) q)), some (.int (nI q)), l3, l4] [] g r n Q := by
  intro k
  induction k with
  | zero => intro q l3 l4 hq hk; exact absurd hk (by omega)
  | succ k ih =>
    intro q l3 l4 hq hk
    have hn := hx.nn
    have hr := hx.1
    have hcw1 : g 1 9 = nI cw := (x_s7 hx).symm.trans hcw
    obtain ⟨pi, p1, p2, p3⟩ := x_cd hx
    refine zz_iload_2 dX11_waitFor_4 ?_
    refine zz_aload_0 dX11_waitFor_5 ?_
    refine zz_getR fl_X11_10 rfl rfl (Nat.lt_of_lt_of_le (by decide) hn) (xr_0_0 hr) dX11_waitFor_6 ?_
    refine zz_getI fl_X11_195 rfl rfl (Nat.lt_of_lt_of_le (by decide) hn) dX11_waitFor_9 ?_
    refine zz_icmp_ge 68 dX11_waitFor_12 (by decide) (fun c_12 => ?_) (fun c_12 => ?_)
    · skip
      rw [hcw1] at c_12
      have := zz_gei c_12 (by omega) (by omega)
      obtain rfl : q = cw := by omega
      rw [sp_waitFor, hcw, ix_w (by omega)] at h
      refine zz_iload_1 dX11_waitFor_68 ?_
      refine zz_if_ge 80 dX11_waitFor_69 (by decide) (fun c_69 => ?_) (fun c_69 => ?_)
      · skip
        refine zz_iload_1 dX11_waitFor_80 ?_
        refine zz_iret rfl dX11_waitFor_81 (by decide) (by decide) ?_
        first
          | (rw [if_pos c_69] at h; exact h.e (x_F.rf hx))
          | (rw [if_neg c_69] at h; exact x_er hx (by decide) h)
      · skip
        refine zz_aload_0 dX11_waitFor_72 ?_
        refine zz_iconst (2) dX11_waitFor_73 (by decide) ?_
        refine zz_callV1i cv_X11_86 rfl (Nat.lt_of_lt_of_le (by decide) hn) (Nat.le_of_ble_eq_true rfl) (by decide) (by decide) dX11_waitFor_74 (t_X11_error hn hr 2 rfl (by decide) ⟨_, rfl, ?_⟩)
        refine zz_goto 81 dX11_waitFor_77 (by decide) ?_
        refine zz_iret rfl dX11_waitFor_81 (by decide) (by decide) ?_
        first
          | (rw [if_pos c_69] at h; exact h.e (x_F.rf hx))
          | (rw [if_neg c_69] at h; exact x_er hx (by decide) h)
    · skip
      rw [hcw1] at c_12
      have hlt := zz_lti c_12 (by omega) (by omega)
      refine zz_aload_0 dX11_waitFor_15 ?_
      refine zz_getR fl_X11_10 rfl rfl (Nat.lt_of_lt_of_le (by decide) hn) (xr_0_0 hr) dX11_waitFor_16 ?_
      refine zz_getR fl_X11_201 rfl rfl (Nat.lt_of_lt_of_le (by decide) hn) (xr_1_8 hr) dX11_waitFor_19 ?_
      refine zz_iload_2 dX11_waitFor_22 ?_
      refine zz_aaN q rfl (by omega) (by decide) (by decide) rfl (Nat.lt_of_lt_of_le (by decide) hn) (p1 q (by omega)).2 dX11_waitFor_23 ?_
      refine zz_astore_3 dX11_waitFor_24 rfl rfl ?_
      refine zz_aload_3 dX11_waitFor_25 ?_
      refine zz_iconst (3) dX11_waitFor_26 (by decide) ?_
      refine zz_iald 3 (by decide) (by decide) (by decide) (xs_code (pi q) (p1 q (by omega)).1) (by have := (p1 q (by omega)).1; omega) dX11_waitFor_27 ?_
      refine zz_aload_0 dX11_waitFor_28 ?_
      refine zz_getR fl_X11_10 rfl rfl (Nat.lt_of_lt_of_le (by decide) hn) (xr_0_0 hr) dX11_waitFor_29 ?_
      refine zz_getI fl_X11_110 rfl rfl (Nat.lt_of_lt_of_le (by decide) hn) dX11_waitFor_32 ?_
      refine zz_isub dX11_waitFor_35 ?_
      refine zz_istore_4 dX11_waitFor_36 rfl rfl ?_
      refine zz_aload_3 dX11_waitFor_38 ?_
      refine zz_iconst (5) dX11_waitFor_39 (by decide) ?_
      refine zz_iald 5 (by decide) (by decide) (by decide) (xs_code (pi q) (p1 q (by omega)).1) (by have := (p1 q (by omega)).1; omega) dX11_waitFor_40 ?_
      refine zz_if_ne 62 dX11_waitFor_41 (by decide) (fun c_41 => ?_) (fun c_41 => ?_)
      · skip
        refine zz_iinc_2 (1) dX11_waitFor_62 rfl rfl (by decide) ?_
        refine zz_goto 4 dX11_waitFor_65 (by decide) ?_
        rw [show sp_wf (S 51) q = sp_wf (S 51) (q + 1) from by rw [sp_wf, if_neg (by rw [p3 q 5 (by omega) (by decide), p3 q 3 (by omega) (by decide), x_s0 hx]; exact fun z9 => c_41 z9.1)], nI_1]
        exact ih (q + 1) _ _ (by omega) (by omega)
      · skip
        refine zz_iload_4 dX11_waitFor_44 ?_
        refine zz_if_le 62 dX11_waitFor_46 (by decide) (fun c_46 => ?_) (fun c_46 => ?_)
        · skip
          refine zz_iinc_2 (1) dX11_waitFor_62 rfl rfl (by decide) ?_
          refine zz_goto 4 dX11_waitFor_65 (by decide) ?_
          rw [show sp_wf (S 51) q = sp_wf (S 51) (q + 1) from by rw [sp_wf, if_neg (by rw [p3 q 5 (by omega) (by decide), p3 q 3 (by omega) (by decide), x_s0 hx]; exact fun z9 => z9.2.1 c_46)], nI_1]
          exact ih (q + 1) _ _ (by omega) (by omega)
        · skip
          refine zz_iload_1 dX11_waitFor_49 ?_
          refine zz_if_lt 59 dX11_waitFor_50 (by decide) (fun c_50 => ?_) (fun c_50 => ?_)
          · skip
            refine zz_iload_4 dX11_waitFor_59 ?_
            refine zz_istore_1 dX11_waitFor_61 rfl rfl ?_
            refine zz_iinc_2 (1) dX11_waitFor_62 rfl rfl (by decide) ?_
            refine zz_goto 4 dX11_waitFor_65 (by decide) ?_
            rw [show g (11 + pi q) 3 - g 1 1 = sp_wf (S 51) (q + 1) from by rw [sp_wf, if_pos (by rw [p3 q 5 (by omega) (by decide), p3 q 3 (by omega) (by decide), x_s0 hx]; exact ⟨c_41, c_46, Or.inl c_50⟩), p3 q 3 (by omega) (by decide), x_s0 hx], nI_1]
            exact ih (q + 1) _ _ (by omega) (by omega)
          · skip
            refine zz_iload_4 dX11_waitFor_53 ?_
            refine zz_iload_1 dX11_waitFor_55 ?_
            refine zz_icmp_ge 62 dX11_waitFor_56 (by decide) (fun c_56 => ?_) (fun c_56 => ?_)
            · skip
              refine zz_iinc_2 (1) dX11_waitFor_62 rfl rfl (by decide) ?_
              refine zz_goto 4 dX11_waitFor_65 (by decide) ?_
              first
                | (rw [show g (11 + pi q) 3 - g 1 1 = sp_wf (S 51) (q + 1) from by rw [sp_wf, if_pos (by rw [p3 q 5 (by omega) (by decide), p3 q 3 (by omega) (by decide), x_s0 hx]; exact ⟨c_41, c_46, Or.inr c_56⟩), p3 q 3 (by omega) (by decide), x_s0 hx], nI_1]; exact ih (q + 1) _ _ (by omega) (by omega))
                | (rw [show sp_wf (S 51) q = sp_wf (S 51) (q + 1) from by rw [sp_wf, if_neg (by rw [p3 q 5 (by omega) (by decide), p3 q 3 (by omega) (by decide), x_s0 hx]; exact fun z9 => z9.2.2.elim c_50 (fun z8 => z8 c_56))], nI_1]; exact ih (q + 1) _ _ (by omega) (by omega))
            · skip
              refine zz_iload_4 dX11_waitFor_59 ?_
              refine zz_istore_1 dX11_waitFor_61 rfl rfl ?_
              refine zz_iinc_2 (1) dX11_waitFor_62 rfl rfl (by decide) ?_
              refine zz_goto 4 dX11_waitFor_65 (by decide) ?_
              first
                | (rw [show g (11 + pi q) 3 - g 1 1 = sp_wf (S 51) (q + 1) from by rw [sp_wf, if_pos (by rw [p3 q 5 (by omega) (by decide), p3 q 3 (by omega) (by decide), x_s0 hx]; exact ⟨c_41, c_46, Or.inr c_56⟩), p3 q 3 (by omega) (by decide), x_s0 hx], nI_1]; exact ih (q + 1) _ _ (by omega) (by omega))
                | (rw [show sp_wf (S 51) q = sp_wf (S 51) (q + 1) from by rw [sp_wf, if_neg (by rw [p3 q 5 (by omega) (by decide), p3 q 3 (by omega) (by decide), x_s0 hx]; exact fun z9 => z9.2.2.elim c_50 (fun z8 => z8 c_56))], nI_1]; exact ih (q + 1) _ _ (by omega) (by omega))

set_option maxRecDepth 100000 in
set_option maxHeartbeats 4000000 in
theorem t_X11_waitFor {C : zz_C} {d n : Nat} {g : zz_G} {r : zz_R} {Q : zz_Q} {S : zz_G} (hx : x_rel S g r n) (cw : Nat) (hcw : S 51 7 = nI cw) (hcw6 : cw ≤ 10) (h : x_o g Q (sp_waitFor S)) : zz_T C mi_X11_waitFor (d + 1) 0 0 [.ref 0] g r n Q := by
  have hn := hx.nn
  have hr := hx.1
  refine zz_T.of [some (.ref 0), none, none, none, none] (by decide +kernel) rfl (Nat.le_of_ble_eq_true rfl) ?_
  refine zz_iconst (-1) dX11_waitFor_0 (by decide) ?_
  refine zz_istore_1 dX11_waitFor_1 rfl rfl ?_
  refine zz_iconst (0) dX11_waitFor_2 (by decide) ?_
  refine zz_istore_2 dX11_waitFor_3 rfl rfl ?_
  exact l_X11_waitFor (d := d) hx cw hcw hcw6 h 11 0 _ _ (by omega) (by omega)

set_option maxRecDepth 100000 in
set_option maxHeartbeats 4000000 in
theorem l_X11_codeThatOpens {C : zz_C} {d n : Nat} {g : zz_G} {r : zz_R} {Q : zz_Q} {S : zz_G} (hx : x_rel S g r n) (cw : Nat) (hcw : S 51 7 = nI cw) (hcw6 : cw ≤ 10) {x : Int32} {K : Nat} (h1 : K < cw → Q (some (.int (nI K))) g r n) (h0 : ¬ K < cw → Q (some (.int (-1))) g r n) : ∀ (k : Nat) (q : Nat), q ≤ cw → sp_ec (S 51) x (cw - q) q = K → cw - q < k → zz_Z C mi_X11_codeThatOpens (d + 1) 0 0 0 0 2 [some (.ref 0), some (.int x), some (.int (nI q))] [] g r n Q := by
  intro k
  induction k with
  | zero => intro q hq hK hk; exact absurd hk (by omega)
  | succ k ih =>
    intro q hq hK hk
    have hn := hx.nn
    have hr := hx.1
    have hcw1 : g 1 9 = nI cw := (x_s7 hx).symm.trans hcw
    obtain ⟨pi, p1, p2, p3⟩ := x_cd hx
    refine zz_iload_2 dX11_codeThatOpens_2 ?_
    refine zz_aload_0 dX11_codeThatOpens_3 ?_
    refine zz_getR fl_X11_10 rfl rfl (Nat.lt_of_lt_of_le (by decide) hn) (xr_0_0 hr) dX11_codeThatOpens_4 ?_
    refine zz_getI fl_X11_195 rfl rfl (Nat.lt_of_lt_of_le (by decide) hn) dX11_codeThatOpens_7 ?_
    refine zz_icmp_ge 44 dX11_codeThatOpens_10 (by decide) (fun c_10 => ?_) (fun c_10 => ?_)
    · skip
      refine zz_iconst (-1) dX11_codeThatOpens_44 (by decide) ?_
      refine zz_iret rfl dX11_codeThatOpens_45 (by decide) (by decide) ?_
      rw [hcw1] at c_10
      have := zz_gei c_10 (by omega) (by omega)
      rw [show cw - q = 0 by omega, sp_ec] at hK
      exact h0 (by omega)
    · skip
      rw [hcw1] at c_10
      have hlt := zz_lti c_10 (by omega) (by omega)
      refine zz_aload_0 dX11_codeThatOpens_13 ?_
      refine zz_getR fl_X11_10 rfl rfl (Nat.lt_of_lt_of_le (by decide) hn) (xr_0_0 hr) dX11_codeThatOpens_14 ?_
      refine zz_getR fl_X11_201 rfl rfl (Nat.lt_of_lt_of_le (by decide) hn) (xr_1_8 hr) dX11_codeThatOpens_17 ?_
      refine zz_iload_2 dX11_codeThatOpens_20 ?_
      refine zz_aaN q rfl (by omega) (by decide) (by decide) rfl (Nat.lt_of_lt_of_le (by decide) hn) (p1 q (by omega)).2 dX11_codeThatOpens_21 ?_
      refine zz_iconst (1) dX11_codeThatOpens_22 (by decide) ?_
      refine zz_iald 1 (by decide) (by decide) (by decide) (xs_code (pi q) (p1 q (by omega)).1) (by have := (p1 q (by omega)).1; omega) dX11_codeThatOpens_23 ?_
      refine zz_iload_1 dX11_codeThatOpens_24 ?_
      refine zz_icmp_ne 38 dX11_codeThatOpens_25 (by decide) (fun c_25 => ?_) (fun c_25 => ?_)
      · skip
        refine zz_iinc_2 (1) dX11_codeThatOpens_38 rfl rfl (by decide) ?_
        refine zz_goto 2 dX11_codeThatOpens_41 (by decide) ?_
        rw [show cw - q = (cw - (q + 1)) + 1 by omega, sp_ec_no (fun z9 => c_25 (by rw [p3 q 1 (by omega) (by decide)] at z9; exact z9.2))] at hK
        rw [nI_1]
        exact ih (q + 1) (by omega) hK (by omega)
      · skip
        refine zz_aload_0 dX11_codeThatOpens_28 ?_
        refine zz_iload_2 dX11_codeThatOpens_29 ?_
        refine zz_callV1i cv_X11_198 rfl (Nat.lt_of_lt_of_le (by decide) hn) (Nat.le_of_ble_eq_true rfl) (by decide) (by decide) dX11_codeThatOpens_30 (t_X11_isCounting hx q (by omega) rfl (fun y_30 => ⟨_, rfl, ?_⟩) (fun y_30 => ⟨_, rfl, ?_⟩))
        · skip
          refine zz_if_eq 38 dX11_codeThatOpens_33 (by decide) (fun h => absurd h (by decide)) (fun _ => ?_)
          refine zz_iload_2 dX11_codeThatOpens_36 ?_
          refine zz_iret rfl dX11_codeThatOpens_37 (by decide) (by decide) ?_
          rw [show cw - q = (cw - (q + 1)) + 1 by omega, sp_ec_yes ⟨y_30, by rw [p3 q 1 (by omega) (by decide)]; exact c_25⟩] at hK
          subst hK
          exact h1 hlt
        · skip
          refine zz_if_eq 38 dX11_codeThatOpens_33 (by decide) (fun _ => ?_) (fun h => absurd h (by decide))
          refine zz_iinc_2 (1) dX11_codeThatOpens_38 rfl rfl (by decide) ?_
          refine zz_goto 2 dX11_codeThatOpens_41 (by decide) ?_
          rw [show cw - q = (cw - (q + 1)) + 1 by omega, sp_ec_no (fun z9 => y_30 z9.1)] at hK
          rw [nI_1]
          exact ih (q + 1) (by omega) hK (by omega)

set_option maxRecDepth 100000 in
set_option maxHeartbeats 4000000 in
theorem t_X11_codeThatOpens {C : zz_C} {d n : Nat} {g : zz_G} {r : zz_R} {Q : zz_Q} {S : zz_G} (hx : x_rel S g r n) (cw : Nat) (hcw : S 51 7 = nI cw) (hcw6 : cw ≤ 10) {x : Int32} {K : Nat} (h1 : K < cw → Q (some (.int (nI K))) g r n) (h0 : ¬ K < cw → Q (some (.int (-1))) g r n) (hK : sp_ec (S 51) x cw 0 = K) : zz_T C mi_X11_codeThatOpens (d + 1) 0 0 [.ref 0, .int x] g r n Q := by
  refine zz_T.of [some (.ref 0), some (.int x), none] (by decide +kernel) rfl (Nat.le_of_ble_eq_true rfl) ?_
  refine zz_iconst (0) dX11_codeThatOpens_0 (by decide) ?_
  refine zz_istore_2 dX11_codeThatOpens_1 rfl rfl ?_
  exact l_X11_codeThatOpens (d := d) hx cw hcw hcw6 h1 h0 11 0 (by omega) hK (by omega)

set_option maxRecDepth 100000 in
set_option maxHeartbeats 4000000 in
theorem t_X11_enter {C : zz_C} {d n : Nat} {g : zz_G} {r : zz_R} {Q : zz_Q} {S : zz_G} (hx : x_rel S g r n) {x : Int32} (cw : Nat) (hcw : S 51 7 = nI cw) (hcw6 : cw ≤ 10) (hin : ∃ m : Nat, m < 9999 ∧ S 51 15 = nI m) (h : x_o g Q (sp_enter S x)) : zz_T C mi_X11_enter (d + 2) 0 0 [.ref 0, .int x] g r n Q := by
  have hn := hx.nn
  have hr := hx.1
  refine zz_T.of [some (.ref 0), some (.int x), none] (by decide +kernel) rfl (Nat.le_of_ble_eq_true rfl) ?_
  refine zz_iload_1 dX11_enter_0 ?_
  refine zz_ldc dX11_enter_1 ct_X11_204 ?_
  refine zz_callS2i cs_X11_93 (Nat.le_of_ble_eq_true rfl) (by decide) (by decide) dX11_enter_3 (t_X11_within (fun a_3 b_3 => ⟨_, rfl, ?_⟩) (fun o_3 => ⟨_, rfl, ?_⟩))
  · skip
    refine zz_if_ne 15 dX11_enter_6 (by decide) (fun _ => ?_) (fun h => absurd h (by decide))
    refine zz_aload_0 dX11_enter_15 ?_
    refine zz_getR fl_X11_10 rfl rfl (Nat.lt_of_lt_of_le (by decide) hn) (xr_0_0 hr) dX11_enter_16 ?_
    refine zz_getI fl_X11_110 rfl rfl (Nat.lt_of_lt_of_le (by decide) hn) dX11_enter_19 ?_
    refine zz_aload_0 dX11_enter_22 ?_
    refine zz_getR fl_X11_10 rfl rfl (Nat.lt_of_lt_of_le (by decide) hn) (xr_0_0 hr) dX11_enter_23 ?_
    refine zz_getI fl_X11_205 rfl rfl (Nat.lt_of_lt_of_le (by decide) hn) dX11_enter_26 ?_
    refine zz_icmp_lt 46 dX11_enter_29 (by decide) (fun c_29 => ?_) (fun c_29 => ?_)
    · skip
      refine zz_aload_0 dX11_enter_46 ?_
      refine zz_iconst (3) dX11_enter_47 (by decide) ?_
      refine zz_callV1i cv_X11_86 rfl (Nat.lt_of_lt_of_le (by decide) hn) (Nat.le_of_ble_eq_true rfl) (by decide) (by decide) dX11_enter_48 (t_X11_error hn hr 3 rfl (by decide) ⟨_, rfl, ?_⟩)
      refine zz_iret rfl dX11_enter_51 (by decide) (by decide) ?_
      rw [sp_enter, if_neg (fun z9 => z9.elim a_3 b_3), if_pos (by rw [x_s0 hx, x_s14 hx]; exact c_29)] at h
      exact x_er hx (by decide) h
    · skip
      refine zz_aload_0 dX11_enter_32 ?_
      refine zz_getR fl_X11_10 rfl rfl (Nat.lt_of_lt_of_le (by decide) hn) (xr_0_0 hr) dX11_enter_33 ?_
      refine zz_getI fl_X11_110 rfl rfl (Nat.lt_of_lt_of_le (by decide) hn) dX11_enter_36 ?_
      refine zz_iconst (2) dX11_enter_39 (by decide) ?_
      refine zz_iadd dX11_enter_40 ?_
      refine zz_ldc dX11_enter_41 ct_X11_204 ?_
      refine zz_icmp_le 52 dX11_enter_43 (by decide) (fun c_43 => ?_) (fun c_43 => ?_)
      · skip
        refine zz_aload_0 dX11_enter_52 ?_
        refine zz_getR fl_X11_10 rfl rfl (Nat.lt_of_lt_of_le (by decide) hn) (xr_0_0 hr) dX11_enter_53 ?_
        refine zz_dup dX11_enter_56 rfl ?_
        refine zz_getI fl_X11_110 rfl rfl (Nat.lt_of_lt_of_le (by decide) hn) dX11_enter_57 ?_
        refine zz_iconst (2) dX11_enter_60 (by decide) ?_
        refine zz_iadd dX11_enter_61 ?_
        refine zz_putI fl_X11_110 rfl rfl (Nat.lt_of_lt_of_le (by decide) hn) dX11_enter_62 ?_
        have hF1 : x_F g (zz_u g 1 1 (g 1 1 + 2)) r n (zz_u S 51 0 (S 51 0 + 2)) := by rw [x_s0 hx]; exact (x_F.rf hx).s0
        have hcw2 : (zz_u S 51 0 (S 51 0 + 2)) 51 7 = nI cw := by rw [zz_u51 _ _ _ (by decide)]; exact hcw
        obtain ⟨K, eK⟩ : ∃ K, sp_ec ((zz_u S 51 0 (S 51 0 + 2)) 51) x cw 0 = K := ⟨_, rfl⟩
        rw [sp_enter, if_neg (fun z9 => z9.elim a_3 b_3), if_neg (by rw [x_s0 hx, x_s14 hx]; exact c_29), if_pos (by rw [x_s0 hx]; exact c_43), hcw, ix_w (by omega), eK] at h
        have hx1 := hF1.1
        obtain ⟨pi, p1, p2, p3⟩ := x_cd hx1
        refine zz_aload_0 dX11_enter_65 ?_
        refine zz_iload_1 dX11_enter_66 ?_
        refine zz_callV1i cv_X11_208 rfl (Nat.lt_of_lt_of_le (by decide) hn) (Nat.le_of_ble_eq_true rfl) (by decide) (by decide) dX11_enter_67 (t_X11_codeThatOpens hx1 cw hcw2 hcw6 (fun lt_67 => ⟨_, rfl, ?_⟩) (fun lt_67 => ⟨_, rfl, ?_⟩) eK)
        · skip
          refine zz_istore_2 dX11_enter_70 rfl rfl ?_
          refine zz_iload_2 dX11_enter_71 ?_
          refine zz_if_lt 110 dX11_enter_72 (by decide) (fun c_72 => ?_) (fun c_72 => ?_)
          · skip
            exact absurd c_72 (nI_pos (by omega))
          · skip
            refine zz_aload_0 dX11_enter_75 ?_
            refine zz_getR fl_X11_10 rfl rfl (Nat.lt_of_lt_of_le (by decide) hn) (xr_0_0 hr) dX11_enter_76 ?_
            refine zz_getR fl_X11_201 rfl rfl (Nat.lt_of_lt_of_le (by decide) hn) (xr_1_8 hr) dX11_enter_79 ?_
            refine zz_iload_2 dX11_enter_82 ?_
            refine zz_aaN K rfl (by omega) (by decide) (by decide) rfl (Nat.lt_of_lt_of_le (by decide) hn) (p1 K (by omega)).2 dX11_enter_83 ?_
            refine zz_iconst (5) dX11_enter_84 (by decide) ?_
            refine zz_iconst (1) dX11_enter_85 (by decide) ?_
            refine zz_iast 5 (by decide) (by decide) (by decide) (xs_code (pi K) (p1 K (by omega)).1) (by have := (p1 K (by omega)).1; omega) dX11_enter_86 ?_
            refine zz_aload_0 dX11_enter_87 ?_
            refine zz_getR fl_X11_10 rfl rfl (Nat.lt_of_lt_of_le (by decide) hn) (xr_0_0 hr) dX11_enter_88 ?_
            refine zz_dup dX11_enter_91 rfl ?_
            refine zz_getI fl_X11_211 rfl rfl (Nat.lt_of_lt_of_le (by decide) hn) dX11_enter_92 ?_
            refine zz_iconst (1) dX11_enter_95 (by decide) ?_
            refine zz_iadd dX11_enter_96 ?_
            refine zz_putI fl_X11_211 rfl rfl (Nat.lt_of_lt_of_le (by decide) hn) dX11_enter_97 ?_
            refine zz_aload_0 dX11_enter_100 ?_
            refine zz_getR fl_X11_10 rfl rfl (Nat.lt_of_lt_of_le (by decide) hn) (xr_0_0 hr) dX11_enter_101 ?_
            refine zz_iconst (0) dX11_enter_104 (by decide) ?_
            refine zz_putI fl_X11_214 rfl rfl (Nat.lt_of_lt_of_le (by decide) hn) dX11_enter_105 ?_
            refine zz_iconst (1) dX11_enter_108 (by decide) ?_
            refine zz_iret rfl dX11_enter_109 (by decide) (by decide) ?_
            have hp := (p1 K (by omega)).1
            obtain ⟨im, him, eim⟩ := hin
            rw [if_pos lt_67, sp_ent1, zz_u51 _ _ _ (by decide), eim, nI_1, show sp_held (nI (im + 1)) 0 9999 = nI (im + 1) from by rw [sp_held, if_pos (show (0 : Int32) ≤ nI (im + 1) from nI_le (a := 0) (by omega) (by omega)), if_pos (show nI (im + 1) ≤ (9999 : Int32) from nI_le (b := 9999) (by omega) (by omega))]] at h
            simp only [zz_u_ne1 _ _ (show (1 : Nat) ≠ 11 + pi K by omega), zz_u_ne2 _ _ (show (4 : Nat) ≠ 1 by decide)]
            rw [← x_s15 hx, eim, nI_1]
            exact h.e (((hF1.cd (j := 5) (show K < 10 by omega) (by decide) hp (p1 K (by omega)).2).s15).s13)
        · skip
          refine zz_istore_2 dX11_enter_70 rfl rfl ?_
          refine zz_iload_2 dX11_enter_71 ?_
          refine zz_if_lt 110 dX11_enter_72 (by decide) (fun _ => ?_) (fun h => absurd h (by decide))
          refine zz_aload_0 dX11_enter_110 ?_
          refine zz_getR fl_X11_10 rfl rfl (Nat.lt_of_lt_of_le (by decide) hn) (xr_0_0 hr) dX11_enter_111 ?_
          refine zz_dup dX11_enter_114 rfl ?_
          refine zz_getI fl_X11_214 rfl rfl (Nat.lt_of_lt_of_le (by decide) hn) dX11_enter_115 ?_
          refine zz_iconst (1) dX11_enter_118 (by decide) ?_
          refine zz_iadd dX11_enter_119 ?_
          refine zz_putI fl_X11_214 rfl rfl (Nat.lt_of_lt_of_le (by decide) hn) dX11_enter_120 ?_
          refine zz_aload_0 dX11_enter_123 ?_
          refine zz_getR fl_X11_10 rfl rfl (Nat.lt_of_lt_of_le (by decide) hn) (xr_0_0 hr) dX11_enter_124 ?_
          refine zz_getI fl_X11_214 rfl rfl (Nat.lt_of_lt_of_le (by decide) hn) dX11_enter_127 ?_
          refine zz_aload_0 dX11_enter_130 ?_
          refine zz_getR fl_X11_10 rfl rfl (Nat.lt_of_lt_of_le (by decide) hn) (xr_0_0 hr) dX11_enter_131 ?_
          refine zz_getR fl_X11_90 rfl rfl (Nat.lt_of_lt_of_le (by decide) hn) (xr_1_0 hr) dX11_enter_134 ?_
          refine zz_iconst (2) dX11_enter_137 (by decide) ?_
          refine zz_iald 2 (by decide) (by decide) (by decide) rfl (Nat.lt_of_lt_of_le (by decide) hn) dX11_enter_138 ?_
          refine zz_icmp_lt 174 dX11_enter_139 (by decide) (fun c_139 => ?_) (fun c_139 => ?_)
          · skip
            refine zz_iconst (0) dX11_enter_174 (by decide) ?_
            refine zz_iret rfl dX11_enter_175 (by decide) (by decide) ?_
            simp only [zz_u_same, zz_u_ne1 _ _ (show (2 : Nat) ≠ 1 by decide), zz_u_ne2 _ _ (show (2 : Nat) ≠ 1 by decide), zz_u_ne2 _ _ (show (1 : Nat) ≠ 2 by decide)] at c_139 ⊢
            rw [if_neg lt_67, sp_ent0, zz_u51 _ _ _ (by decide), zz_u51 _ _ _ (by decide), x_s13 hx, x_s10 hx] at h
            first
              | (rw [if_pos c_139] at h; exact h.e hF1.s13)
              | (rw [if_neg c_139, zz_u_same, zz_u51 _ _ _ (by decide), x_s11 hx, x_s0 hx] at h; rw [x_s0 hx] at hF1; exact h.e ((hF1.s13.s14).s13))
          · skip
            refine zz_aload_0 dX11_enter_142 ?_
            refine zz_getR fl_X11_10 rfl rfl (Nat.lt_of_lt_of_le (by decide) hn) (xr_0_0 hr) dX11_enter_143 ?_
            refine zz_aload_0 dX11_enter_146 ?_
            refine zz_getR fl_X11_10 rfl rfl (Nat.lt_of_lt_of_le (by decide) hn) (xr_0_0 hr) dX11_enter_147 ?_
            refine zz_getI fl_X11_110 rfl rfl (Nat.lt_of_lt_of_le (by decide) hn) dX11_enter_150 ?_
            refine zz_aload_0 dX11_enter_153 ?_
            refine zz_getR fl_X11_10 rfl rfl (Nat.lt_of_lt_of_le (by decide) hn) (xr_0_0 hr) dX11_enter_154 ?_
            refine zz_getR fl_X11_90 rfl rfl (Nat.lt_of_lt_of_le (by decide) hn) (xr_1_0 hr) dX11_enter_157 ?_
            refine zz_iconst (3) dX11_enter_160 (by decide) ?_
            refine zz_iald 3 (by decide) (by decide) (by decide) rfl (Nat.lt_of_lt_of_le (by decide) hn) dX11_enter_161 ?_
            refine zz_iadd dX11_enter_162 ?_
            refine zz_putI fl_X11_205 rfl rfl (Nat.lt_of_lt_of_le (by decide) hn) dX11_enter_163 ?_
            refine zz_aload_0 dX11_enter_166 ?_
            refine zz_getR fl_X11_10 rfl rfl (Nat.lt_of_lt_of_le (by decide) hn) (xr_0_0 hr) dX11_enter_167 ?_
            refine zz_iconst (0) dX11_enter_170 (by decide) ?_
            refine zz_putI fl_X11_214 rfl rfl (Nat.lt_of_lt_of_le (by decide) hn) dX11_enter_171 ?_
            refine zz_iconst (0) dX11_enter_174 (by decide) ?_
            refine zz_iret rfl dX11_enter_175 (by decide) (by decide) ?_
            simp only [zz_u_same, zz_u_ne1 _ _ (show (2 : Nat) ≠ 1 by decide), zz_u_ne2 _ _ (show (2 : Nat) ≠ 1 by decide), zz_u_ne2 _ _ (show (1 : Nat) ≠ 2 by decide)] at c_139 ⊢
            rw [if_neg lt_67, sp_ent0, zz_u51 _ _ _ (by decide), zz_u51 _ _ _ (by decide), x_s13 hx, x_s10 hx] at h
            first
              | (rw [if_pos c_139] at h; exact h.e hF1.s13)
              | (rw [if_neg c_139, zz_u_same, zz_u51 _ _ _ (by decide), x_s11 hx, x_s0 hx] at h; rw [x_s0 hx] at hF1; exact h.e ((hF1.s13.s14).s13))
      · skip
        refine zz_aload_0 dX11_enter_46 ?_
        refine zz_iconst (3) dX11_enter_47 (by decide) ?_
        refine zz_callV1i cv_X11_86 rfl (Nat.lt_of_lt_of_le (by decide) hn) (Nat.le_of_ble_eq_true rfl) (by decide) (by decide) dX11_enter_48 (t_X11_error hn hr 3 rfl (by decide) ⟨_, rfl, ?_⟩)
        refine zz_iret rfl dX11_enter_51 (by decide) (by decide) ?_
        rw [sp_enter, if_neg (fun z9 => z9.elim a_3 b_3), if_neg (by rw [x_s0 hx, x_s14 hx]; exact c_29), if_neg (by rw [x_s0 hx]; exact c_43)] at h
        exact x_er hx (by decide) h
  · skip
    refine zz_if_ne 15 dX11_enter_6 (by decide) (fun h => absurd h (by decide)) (fun _ => ?_)
    refine zz_aload_0 dX11_enter_9 ?_
    refine zz_iconst (1) dX11_enter_10 (by decide) ?_
    refine zz_callV1i cv_X11_86 rfl (Nat.lt_of_lt_of_le (by decide) hn) (Nat.le_of_ble_eq_true rfl) (by decide) (by decide) dX11_enter_11 (t_X11_error hn hr 1 rfl (by decide) ⟨_, rfl, ?_⟩)
    refine zz_iret rfl dX11_enter_14 (by decide) (by decide) ?_
    rw [sp_enter, if_pos o_3] at h
    exact x_er hx (by decide) h
