theorem x_rel.gen {S S' g g' : zz_G} {r : zz_R} {n : Nat} (h : x_rel S g r n) (hq : xq_P S' g') (eg : ∀ k, (11 ≤ k ∧ k ≤ 20) ∨ (23 ≤ k ∧ k ≤ 26) ∨ 60 ≤ k → g' k = g k) (e51 : ∀ j, j = 5 ∨ j = 6 ∨ (46 ≤ j ∧ j < 106) ∨ 176 ≤ j → S' 51 j = S 51 j) (e52 : S' 52 = S 52) (e50 : S' 50 3 = S 50 3) : x_rel S' g' r n := by
  obtain ⟨h1, h2, h3, h4, h5⟩ := h
  refine ⟨h1, hq, ?_, fun u hu => ?_, ?_⟩
  · obtain ⟨pi, c1, c2, c3⟩ := h3
    refine ⟨pi, c1, c2, fun c j hc hj => ?_⟩
    have := (c1 c hc).1
    rw [eg _ (by omega), e51 _ (by omega)]
    exact c3 c j hc hj
  · rw [eg (23 + 2 * u) (by omega), eg (24 + 2 * u) (by omega)]
    exact xb_t_congr (e51 _ (by omega)) (fun j hj => e51 j (by omega)) (h4 u hu)
  · rw [e50, e52]
    rcases h5 with h5 | ⟨k1, k2, k3, k4, k5, k6, k7⟩
    · exact Or.inl h5
    · refine Or.inr ⟨k1, k2, k3, k4, ?_, ?_, fun u hu => ?_⟩
      · unfold xk_P at k5 ⊢
        rw [eg 60 (by omega), eg 61 (by omega), eg 80 (by omega), eg 86 (by omega)]
        exact ⟨k5.1, k5.2.1, fun w j hw hj => by rw [eg _ (by omega)]; exact k5.2.2.1 w j hw hj, k5.2.2.2⟩
      · obtain ⟨pi, c1, c2, c3⟩ := k6
        refine ⟨pi, c1, c2, fun c j hc hj => ?_⟩
        rw [eg _ (by omega)]
        exact c3 c j hc hj
      · rw [eg (82 + 2 * u) (by omega), eg (83 + 2 * u) (by omega)]
        exact k7 u hu
/-- the sheets alone have changed, on both sides alike -/
theorem x_F.shs {g g1 g' S1 S' : zz_G} {r : zz_R} {n : Nat} (h : x_F g g1 r n S1) (eg : ∀ k, k < 44 ∨ 47 < k → g' k = g1 k) (es : ∀ k, k ≠ 57 → S' k = S1 k) (hs : ∀ s i, s < 4 → i < 40 → g' (44 + s) i = S' 57 (40 * s + i)) : x_F g g' r n S' := by
  refine ⟨h.1.gen ?_ (fun k hk => eg k (by omega)) (fun j hj => by rw [es 51 (by decide)]) (es 52 (by decide)) (by rw [es 50 (by decide)]), fun k h1 h2 => (eg k (by omega)).trans (h.2 k h1 h2)⟩
  intro q hq i hi
  have dj : ∀ q ∈ xq_l, ((q.1 < 44 ∨ 47 < q.1) ∧ q.2.2.2.1 ≠ 57) ∨ ∃ s : Fin 4, q = (44 + s.1, 0, 40, 57, 40 * s.1) := by decide
  rcases dj q hq with ⟨d1, d2⟩ | ⟨s, d1⟩
  · rw [eg _ d1, es _ d2]
    exact h.1.2.1 q hq i hi
  · subst d1
    simp only [Nat.zero_add]
    exact hs s.1 i s.2 hi
def ux : Nat → Int32 → Int32 → Bool
  | 0, _, _ => false
  | f + 1, y, v => if y < 0 ∨ 7 ≤ y then false else if y = v then true else ux f (([-1, 0, 0, 0, 1, 2, 3] : List Int32).getD y.toNatClampNeg 0) v
theorem ux_ok : ∀ k v : Fin 7, (ux 7 (nI k.1) (nI v.1) = true) = sp_under (nI k.1) (nI v.1) := by
  have h : ∀ k v : Fin 7, (ux 7 (nI k.1) (nI v.1) = true) ↔ sp_under (nI k.1) (nI v.1) := by decide +kernel
  exact fun k v => propext (h k v)
set_option maxRecDepth 100000 in
set_option maxHeartbeats 4000000 in
theorem l_X11_isUnder {C : zz_C} {d n : Nat} {g : zz_G} {r : zz_R} {Q : zz_Q} {v a0 : Int32} : ∀ (k : Nat) (i : Nat) (y : Int32), i ≤ 7 → 7 - i < k → (ux (7 - i) y v = true → Q (some (.int 1)) g r n) → (¬ ux (7 - i) y v = true → Q (some (.int 0)) g r n) → zz_Z C mi_X11_isUnder d 0 0 0 0 4 [some (.int a0), some (.int v), some (.int y), some (.int (nI i))] [] g r n Q := by
  intro k
  induction k with
  | zero => intro i y hi hk q1 q0; exact absurd hk (by omega)
  | succ k ih =>
    intro i y hi hk q1 q0
    refine zz_iload_3 dX11_isUnder_4 ?_
    refine zz_gs (i := 2) gz_2 gs_X11_123 dX11_isUnder_5 ?_
    refine zz_tlen gt_2 (v := 7) (by decide) dX11_isUnder_8 ?_
    refine zz_icmp_ge 43 dX11_isUnder_9 (by decide) (fun c_9 => ?_) (fun c_9 => ?_)
    · skip
      refine zz_iconst (0) dX11_isUnder_43 (by decide) ?_
      refine zz_zret rfl (by rfl) dX11_isUnder_44 (by decide) (by decide) ?_
      have := zz_gei (b := 7) c_9 (by omega) (by omega)
      rw [show 7 - i = 0 by omega, ux] at q0
      exact q0 (by decide)
    · skip
      have hlt := zz_lti (b := 7) c_9 (by omega) (by omega)
      rw [show 7 - i = (7 - (i + 1)) + 1 by omega, ux] at q1 q0
      refine zz_iload_2 dX11_isUnder_12 ?_
      refine zz_if_lt 43 dX11_isUnder_13 (by decide) (fun c_13 => ?_) (fun c_13 => ?_)
      · skip
        refine zz_iconst (0) dX11_isUnder_43 (by decide) ?_
        refine zz_zret rfl (by rfl) dX11_isUnder_44 (by decide) (by decide) ?_
        rw [if_pos (Or.inl c_13)] at q0
        exact q0 (by decide)
      · skip
        refine zz_iload_2 dX11_isUnder_16 ?_
        refine zz_gs (i := 2) gz_2 gs_X11_123 dX11_isUnder_17 ?_
        refine zz_tlen gt_2 (v := 7) (by decide) dX11_isUnder_20 ?_
        refine zz_icmp_ge 43 dX11_isUnder_21 (by decide) (fun c_21 => ?_) (fun c_21 => ?_)
        · skip
          refine zz_iconst (0) dX11_isUnder_43 (by decide) ?_
          refine zz_zret rfl (by rfl) dX11_isUnder_44 (by decide) (by decide) ?_
          rw [if_pos (Or.inr c_21)] at q0
          exact q0 (by decide)
        · skip
          refine zz_iload_2 dX11_isUnder_24 ?_
          refine zz_iload_1 dX11_isUnder_25 ?_
          refine zz_icmp_ne 31 dX11_isUnder_26 (by decide) (fun c_26 => ?_) (fun c_26 => ?_)
          · skip
            refine zz_gs (i := 2) gz_2 gs_X11_123 dX11_isUnder_31 ?_
            refine zz_iload_2 dX11_isUnder_34 ?_
            obtain ⟨a, ha, ea⟩ := zz_nat (m := 7) (Int32.not_lt.mp c_13) (Int32.not_le.mp c_21) (by omega)
            refine zz_tald gt_2 a ea ha (by decide) dX11_isUnder_35 ?_
            refine zz_istore_2 dX11_isUnder_36 rfl rfl ?_
            refine zz_iinc_3 (1) dX11_isUnder_37 rfl rfl (by decide) ?_
            refine zz_goto 4 dX11_isUnder_40 (by decide) ?_
            rw [nI_1]
            rw [if_neg (fun z9 => z9.elim c_13 c_21), if_neg c_26, show y.toNatClampNeg = a from by rw [ea]; exact ix_w (by omega)] at q1 q0
            exact ih (i + 1) _ (by omega) (by omega) q1 q0
          · skip
            refine zz_iconst (1) dX11_isUnder_29 (by decide) ?_
            refine zz_zret rfl (by rfl) dX11_isUnder_30 (by decide) (by decide) ?_
            rw [if_neg (fun z9 => z9.elim c_13 c_21), if_pos c_26] at q1
            exact q1 rfl

set_option maxRecDepth 100000 in
set_option maxHeartbeats 4000000 in
theorem t_X11_isUnder {C : zz_C} {d n : Nat} {g : zz_G} {r : zz_R} {Q : zz_Q} {a v : Int32} (k1 v1 : Nat) (hk1 : k1 < 7) (hv1 : v1 < 7) (ea : a = nI k1) (ev : v = nI v1) (h1 : sp_under a v → Q (some (.int 1)) g r n) (h0 : ¬ sp_under a v → Q (some (.int 0)) g r n) : zz_T C mi_X11_isUnder d 0 0 [.int a, .int v] g r n Q := by
  refine zz_T.of [some (.int a), some (.int v), none, none] (by decide +kernel) rfl (Nat.le_of_ble_eq_true rfl) ?_
  refine zz_iload_0 dX11_isUnder_0 ?_
  refine zz_istore_2 dX11_isUnder_1 rfl rfl ?_
  refine zz_iconst (0) dX11_isUnder_2 (by decide) ?_
  refine zz_istore_3 dX11_isUnder_3 rfl rfl ?_
  have hu : (ux 7 a v = true) = sp_under a v := by rw [ea, ev]; exact ux_ok ⟨k1, hk1⟩ ⟨v1, hv1⟩
  rw [← hu] at h1 h0
  exact l_X11_isUnder 8 0 a (by omega) (by omega) h1 h0

set_option maxRecDepth 100000 in
set_option maxHeartbeats 4000000 in
theorem t_X11_as {C : zz_C} {d n : Nat} {g : zz_G} {r : zz_R} {Q : zz_Q} {S : zz_G} (hx : x_rel S g r n) {v kind : Int32} (mw : Nat) (hmw : S 51 2 = nI mw) (hmw6 : mw ≤ 6) (hkd : ∀ w : Nat, w < 6 → ∃ j : Nat, j < 7 ∧ S 51 (16 + 5 * w) = nI j) (h : x_o g Q (sp_asT S v kind)) : zz_T C mi_X11_as (d + 1) 0 0 [.ref 0, .int v, .int kind] g r n Q := by
  have hn := hx.nn
  have hr := hx.1
  have hmw1 : g 1 7 = nI mw := (x_s2 hx).symm.trans hmw
  refine zz_T.of [some (.ref 0), some (.int v), some (.int kind)] (by decide +kernel) rfl (Nat.le_of_ble_eq_true rfl) ?_
  refine zz_aload_0 dX11_as_0 ?_
  refine zz_iload_1 dX11_as_1 ?_
  refine zz_callV1i cv_X11_107 rfl (Nat.lt_of_lt_of_le (by decide) hn) (Nat.le_of_ble_eq_true rfl) (by decide) (by decide) dX11_as_2 (t_X11_isWay hn hr mw hmw1 hmw6 (fun w_2 hw_2 ew_2 => ⟨_, rfl, ?_⟩) (fun nw_2 => ⟨_, rfl, ?_⟩))
  · skip
    subst ew_2
    have ia_2 := sp_isw_a (w := w_2) (Nat.lt_of_lt_of_le hw_2 hmw6)
    have ib_2 := sp_isw_b hmw hmw6 hw_2
    refine zz_if_eq 21 dX11_as_5 (by decide) (fun h => absurd h (by decide)) (fun _ => ?_)
    refine zz_iload_2 dX11_as_8 ?_
    refine zz_gs (i := 2) gz_2 gs_X11_123 dX11_as_9 ?_
    refine zz_tlen gt_2 (v := 7) (by decide) dX11_as_12 ?_
    refine zz_iconst (1) dX11_as_13 (by decide) ?_
    refine zz_isub dX11_as_14 ?_
    rw [show (7 : Int32) - 1 = 6 from by decide]
    refine zz_callS2i cs_X11_93 (Nat.le_of_ble_eq_true rfl) (by decide) (by decide) dX11_as_15 (t_X11_within (fun a_15 b_15 => ⟨_, rfl, ?_⟩) (fun o_15 => ⟨_, rfl, ?_⟩))
    · skip
      refine zz_if_ne 27 dX11_as_18 (by decide) (fun _ => ?_) (fun h => absurd h (by decide))
      refine zz_aload_0 dX11_as_27 ?_
      refine zz_getR fl_X11_10 rfl rfl (Nat.lt_of_lt_of_le (by decide) hn) (xr_0_0 hr) dX11_as_28 ?_
      refine zz_getR fl_X11_104 rfl rfl (Nat.lt_of_lt_of_le (by decide) hn) (xr_1_6 hr) dX11_as_31 ?_
      refine zz_iload_1 dX11_as_34 ?_
      refine zz_aaN w_2 rfl (by omega) (by decide) (by decide) rfl (Nat.lt_of_lt_of_le (by decide) hn) (xr_way hr w_2 (by omega)) dX11_as_35 ?_
      refine zz_iconst (0) dX11_as_36 (by decide) ?_
      refine zz_iald 0 (by decide) (by decide) (by decide) (xs_way w_2 (by omega)) (by omega) dX11_as_37 ?_
      obtain ⟨k1, hk1, ek0⟩ := hkd w_2 (by omega)
      have ek1 : g (4 + w_2) 0 = nI k1 := (x_wy0 hx (by omega)).symm.trans ek0
      obtain ⟨v1, hv0, hv1, ev1⟩ := zz_in0 (lo := 0) (hi := 6) rfl rfl (by decide) (by decide) a_15 b_15
      refine zz_iload_2 dX11_as_38 ?_
      refine zz_callS2i cs_X11_126 (Nat.le_of_ble_eq_true rfl) (by decide) (by decide) dX11_as_39 (t_X11_isUnder k1 v1 hk1 (by omega) ek1 ev1 (fun u_39 => ⟨_, rfl, ?_⟩) (fun u_39 => ⟨_, rfl, ?_⟩))
      · skip
        refine zz_if_ne 51 dX11_as_42 (by decide) (fun _ => ?_) (fun h => absurd h (by decide))
        refine zz_aload_0 dX11_as_51 ?_
        refine zz_getR fl_X11_10 rfl rfl (Nat.lt_of_lt_of_le (by decide) hn) (xr_0_0 hr) dX11_as_52 ?_
        refine zz_getR fl_X11_104 rfl rfl (Nat.lt_of_lt_of_le (by decide) hn) (xr_1_6 hr) dX11_as_55 ?_
        refine zz_iload_1 dX11_as_58 ?_
        refine zz_aaN w_2 rfl (by omega) (by decide) (by decide) rfl (Nat.lt_of_lt_of_le (by decide) hn) (xr_way hr w_2 (by omega)) dX11_as_59 ?_
        refine zz_iconst (1) dX11_as_60 (by decide) ?_
        refine zz_iald 1 (by decide) (by decide) (by decide) (xs_way w_2 (by omega)) (by omega) dX11_as_61 ?_
        refine zz_iret rfl dX11_as_62 (by decide) (by decide) ?_
        rw [sp_asT, if_neg (fun q => q ⟨ia_2, ib_2⟩), if_neg (fun z9 => z9.elim a_15 b_15), ix_w (by omega), x_wy0 hx (by omega), if_pos u_39, x_wy hx (by omega) (by decide)] at h
        exact h.e (x_F.rf hx)
      · skip
        refine zz_if_ne 51 dX11_as_42 (by decide) (fun h => absurd h (by decide)) (fun _ => ?_)
        refine zz_aload_0 dX11_as_45 ?_
        refine zz_iconst (5) dX11_as_46 (by decide) ?_
        refine zz_callV1i cv_X11_86 rfl (Nat.lt_of_lt_of_le (by decide) hn) (Nat.le_of_ble_eq_true rfl) (by decide) (by decide) dX11_as_47 (t_X11_error hn hr 5 rfl (by decide) ⟨_, rfl, ?_⟩)
        refine zz_iret rfl dX11_as_50 (by decide) (by decide) ?_
        rw [sp_asT, if_neg (fun q => q ⟨ia_2, ib_2⟩), if_neg (fun z9 => z9.elim a_15 b_15), ix_w (by omega), x_wy0 hx (by omega), if_neg u_39] at h
        exact x_er hx (by decide) h
    · skip
      refine zz_if_ne 27 dX11_as_18 (by decide) (fun h => absurd h (by decide)) (fun _ => ?_)
      refine zz_aload_0 dX11_as_21 ?_
      refine zz_iconst (1) dX11_as_22 (by decide) ?_
      refine zz_callV1i cv_X11_86 rfl (Nat.lt_of_lt_of_le (by decide) hn) (Nat.le_of_ble_eq_true rfl) (by decide) (by decide) dX11_as_23 (t_X11_error hn hr 1 rfl (by decide) ⟨_, rfl, ?_⟩)
      refine zz_iret rfl dX11_as_26 (by decide) (by decide) ?_
      first
        | (rw [sp_asT, if_pos ic_2] at h; exact x_er hx (by decide) h)
        | (rw [sp_asT, if_neg (fun q => q ⟨ia_2, ib_2⟩), if_pos o_15] at h; exact x_er hx (by decide) h)
  · skip
    have ic_2 := sp_isw_c hmw hmw6 nw_2
    refine zz_if_eq 21 dX11_as_5 (by decide) (fun _ => ?_) (fun h => absurd h (by decide))
    refine zz_aload_0 dX11_as_21 ?_
    refine zz_iconst (1) dX11_as_22 (by decide) ?_
    refine zz_callV1i cv_X11_86 rfl (Nat.lt_of_lt_of_le (by decide) hn) (Nat.le_of_ble_eq_true rfl) (by decide) (by decide) dX11_as_23 (t_X11_error hn hr 1 rfl (by decide) ⟨_, rfl, ?_⟩)
    refine zz_iret rfl dX11_as_26 (by decide) (by decide) ?_
    first
      | (rw [sp_asT, if_pos ic_2] at h; exact x_er hx (by decide) h)
      | (rw [sp_asT, if_neg (fun q => q ⟨ia_2, ib_2⟩), if_pos o_15] at h; exact x_er hx (by decide) h)

set_option maxRecDepth 100000 in
set_option maxHeartbeats 4000000 in
theorem t_X11_count {C : zz_C} {d n : Nat} {g : zz_G} {r : zz_R} {Q : zz_Q} {S : zz_G} (hx : x_rel S g r n) {v : Int32}  (h : x_o g Q (sp_count S v)) : zz_T C mi_X11_count (d + 1) 0 0 [.ref 0, .int v] g r n Q := by
  have hn := hx.nn
  have hr := hx.1
  refine zz_T.of [some (.ref 0), some (.int v)] (by decide +kernel) rfl (Nat.le_of_ble_eq_true rfl) ?_
  refine zz_iload_1 dX11_count_0 ?_
  refine zz_tsw15 (0) (1) (2) (3) (4) (5) (6) (7) (8) (9) (10) (11) (12) (13) (14) 76 84 92 100 108 116 124 124 124 124 124 137 145 153 161 169 dX11_count_1 (by decide) (fun e_1 => ?_) (fun e_1 => ?_) (fun e_1 => ?_) (fun e_1 => ?_) (fun e_1 => ?_) (fun e_1 => ?_) (fun e_1 => ?_) (fun e_1 => ?_) (fun e_1 => ?_) (fun e_1 => ?_) (fun e_1 => ?_) (fun e_1 => ?_) (fun e_1 => ?_) (fun e_1 => ?_) (fun e_1 => ?_) (fun e0_1 e1_1 e2_1 e3_1 e4_1 e5_1 e6_1 e7_1 e8_1 e9_1 e10_1 e11_1 e12_1 e13_1 e14_1 => ?_)
  · skip
    refine zz_aload_0 dX11_count_76 ?_
    refine zz_getR fl_X11_10 rfl rfl (Nat.lt_of_lt_of_le (by decide) hn) (xr_0_0 hr) dX11_count_77 ?_
    refine zz_getI fl_X11_101 rfl rfl (Nat.lt_of_lt_of_le (by decide) hn) dX11_count_80 ?_
    refine zz_iret rfl dX11_count_83 (by decide) (by decide) ?_
    rw [sp_count, if_pos e_1, x_s2 hx] at h
    exact h.e (x_F.rf hx)
  · skip
    refine zz_aload_0 dX11_count_84 ?_
    refine zz_getR fl_X11_10 rfl rfl (Nat.lt_of_lt_of_le (by decide) hn) (xr_0_0 hr) dX11_count_85 ?_
    refine zz_getI fl_X11_195 rfl rfl (Nat.lt_of_lt_of_le (by decide) hn) dX11_count_88 ?_
    refine zz_iret rfl dX11_count_91 (by decide) (by decide) ?_
    rw [sp_count, if_neg (by rw [e_1]; decide), if_pos e_1, x_s7 hx] at h
    exact h.e (x_F.rf hx)
  · skip
    refine zz_aload_0 dX11_count_92 ?_
    refine zz_getR fl_X11_10 rfl rfl (Nat.lt_of_lt_of_le (by decide) hn) (xr_0_0 hr) dX11_count_93 ?_
    refine zz_getI fl_X11_110 rfl rfl (Nat.lt_of_lt_of_le (by decide) hn) dX11_count_96 ?_
    refine zz_iret rfl dX11_count_99 (by decide) (by decide) ?_
    rw [sp_count, if_neg (by rw [e_1]; decide), if_neg (by rw [e_1]; decide), if_pos e_1, x_s0 hx] at h
    exact h.e (x_F.rf hx)
  · skip
    refine zz_aload_0 dX11_count_100 ?_
    refine zz_getR fl_X11_10 rfl rfl (Nat.lt_of_lt_of_le (by decide) hn) (xr_0_0 hr) dX11_count_101 ?_
    refine zz_getI fl_X11_214 rfl rfl (Nat.lt_of_lt_of_le (by decide) hn) dX11_count_104 ?_
    refine zz_iret rfl dX11_count_107 (by decide) (by decide) ?_
    rw [sp_count, if_neg (by rw [e_1]; decide), if_neg (by rw [e_1]; decide), if_neg (by rw [e_1]; decide), if_pos e_1, x_s13 hx] at h
    exact h.e (x_F.rf hx)
  · skip
    refine zz_aload_0 dX11_count_108 ?_
    refine zz_getR fl_X11_10 rfl rfl (Nat.lt_of_lt_of_le (by decide) hn) (xr_0_0 hr) dX11_count_109 ?_
    refine zz_getI fl_X11_205 rfl rfl (Nat.lt_of_lt_of_le (by decide) hn) dX11_count_112 ?_
    refine zz_iret rfl dX11_count_115 (by decide) (by decide) ?_
    rw [sp_count, if_neg (by rw [e_1]; decide), if_neg (by rw [e_1]; decide), if_neg (by rw [e_1]; decide), if_neg (by rw [e_1]; decide), if_pos e_1, x_s14 hx] at h
    exact h.e (x_F.rf hx)
  · skip
    refine zz_aload_0 dX11_count_116 ?_
    refine zz_getR fl_X11_10 rfl rfl (Nat.lt_of_lt_of_le (by decide) hn) (xr_0_0 hr) dX11_count_117 ?_
    refine zz_getI fl_X11_211 rfl rfl (Nat.lt_of_lt_of_le (by decide) hn) dX11_count_120 ?_
    refine zz_iret rfl dX11_count_123 (by decide) (by decide) ?_
    rw [sp_count, if_neg (by rw [e_1]; decide), if_neg (by rw [e_1]; decide), if_neg (by rw [e_1]; decide), if_neg (by rw [e_1]; decide), if_neg (by rw [e_1]; decide), if_pos e_1, x_s15 hx] at h
    exact h.e (x_F.rf hx)
  · skip
    refine zz_aload_0 dX11_count_124 ?_
    refine zz_getR fl_X11_10 rfl rfl (Nat.lt_of_lt_of_le (by decide) hn) (xr_0_0 hr) dX11_count_125 ?_
    refine zz_getR fl_X11_90 rfl rfl (Nat.lt_of_lt_of_le (by decide) hn) (xr_1_0 hr) dX11_count_128 ?_
    refine zz_iload_1 dX11_count_131 ?_
    refine zz_bipush (6) dX11_count_132 (by decide) ?_
    refine zz_isub dX11_count_134 ?_
    refine zz_iaN 0 (by rw [e_1]; decide) (by decide) (by decide) rfl (Nat.lt_of_lt_of_le (by decide) hn) dX11_count_135 ?_
    refine zz_iret rfl dX11_count_136 (by decide) (by decide) ?_
    rw [sp_count, if_neg (by rw [e_1]; decide), if_neg (by rw [e_1]; decide), if_neg (by rw [e_1]; decide), if_neg (by rw [e_1]; decide), if_neg (by rw [e_1]; decide), if_neg (by rw [e_1]; decide), if_pos e_1, x_s8 hx] at h
    exact h.e (x_F.rf hx)
  · skip
    refine zz_aload_0 dX11_count_124 ?_
    refine zz_getR fl_X11_10 rfl rfl (Nat.lt_of_lt_of_le (by decide) hn) (xr_0_0 hr) dX11_count_125 ?_
    refine zz_getR fl_X11_90 rfl rfl (Nat.lt_of_lt_of_le (by decide) hn) (xr_1_0 hr) dX11_count_128 ?_
    refine zz_iload_1 dX11_count_131 ?_
    refine zz_bipush (6) dX11_count_132 (by decide) ?_
    refine zz_isub dX11_count_134 ?_
    refine zz_iaN 1 (by rw [e_1]; decide) (by decide) (by decide) rfl (Nat.lt_of_lt_of_le (by decide) hn) dX11_count_135 ?_
    refine zz_iret rfl dX11_count_136 (by decide) (by decide) ?_
    rw [sp_count, if_neg (by rw [e_1]; decide), if_neg (by rw [e_1]; decide), if_neg (by rw [e_1]; decide), if_neg (by rw [e_1]; decide), if_neg (by rw [e_1]; decide), if_neg (by rw [e_1]; decide), if_neg (by rw [e_1]; decide), if_pos e_1, x_s9 hx] at h
    exact h.e (x_F.rf hx)
  · skip
    refine zz_aload_0 dX11_count_124 ?_
    refine zz_getR fl_X11_10 rfl rfl (Nat.lt_of_lt_of_le (by decide) hn) (xr_0_0 hr) dX11_count_125 ?_
    refine zz_getR fl_X11_90 rfl rfl (Nat.lt_of_lt_of_le (by decide) hn) (xr_1_0 hr) dX11_count_128 ?_
    refine zz_iload_1 dX11_count_131 ?_
    refine zz_bipush (6) dX11_count_132 (by decide) ?_
    refine zz_isub dX11_count_134 ?_
    refine zz_iaN 2 (by rw [e_1]; decide) (by decide) (by decide) rfl (Nat.lt_of_lt_of_le (by decide) hn) dX11_count_135 ?_
    refine zz_iret rfl dX11_count_136 (by decide) (by decide) ?_
    rw [sp_count, if_neg (by rw [e_1]; decide), if_neg (by rw [e_1]; decide), if_neg (by rw [e_1]; decide), if_neg (by rw [e_1]; decide), if_neg (by rw [e_1]; decide), if_neg (by rw [e_1]; decide), if_neg (by rw [e_1]; decide), if_neg (by rw [e_1]; decide), if_pos e_1, x_s10 hx] at h
    exact h.e (x_F.rf hx)
  · skip
    refine zz_aload_0 dX11_count_124 ?_
    refine zz_getR fl_X11_10 rfl rfl (Nat.lt_of_lt_of_le (by decide) hn) (xr_0_0 hr) dX11_count_125 ?_
    refine zz_getR fl_X11_90 rfl rfl (Nat.lt_of_lt_of_le (by decide) hn) (xr_1_0 hr) dX11_count_128 ?_
    refine zz_iload_1 dX11_count_131 ?_
    refine zz_bipush (6) dX11_count_132 (by decide) ?_
    refine zz_isub dX11_count_134 ?_
    refine zz_iaN 3 (by rw [e_1]; decide) (by decide) (by decide) rfl (Nat.lt_of_lt_of_le (by decide) hn) dX11_count_135 ?_
    refine zz_iret rfl dX11_count_136 (by decide) (by decide) ?_
    rw [sp_count, if_neg (by rw [e_1]; decide), if_neg (by rw [e_1]; decide), if_neg (by rw [e_1]; decide), if_neg (by rw [e_1]; decide), if_neg (by rw [e_1]; decide), if_neg (by rw [e_1]; decide), if_neg (by rw [e_1]; decide), if_neg (by rw [e_1]; decide), if_neg (by rw [e_1]; decide), if_pos e_1, x_s11 hx] at h
    exact h.e (x_F.rf hx)
  · skip
    refine zz_aload_0 dX11_count_124 ?_
    refine zz_getR fl_X11_10 rfl rfl (Nat.lt_of_lt_of_le (by decide) hn) (xr_0_0 hr) dX11_count_125 ?_
    refine zz_getR fl_X11_90 rfl rfl (Nat.lt_of_lt_of_le (by decide) hn) (xr_1_0 hr) dX11_count_128 ?_
    refine zz_iload_1 dX11_count_131 ?_
    refine zz_bipush (6) dX11_count_132 (by decide) ?_
    refine zz_isub dX11_count_134 ?_
    refine zz_iaN 4 (by rw [e_1]; decide) (by decide) (by decide) rfl (Nat.lt_of_lt_of_le (by decide) hn) dX11_count_135 ?_
    refine zz_iret rfl dX11_count_136 (by decide) (by decide) ?_
    rw [sp_count, if_neg (by rw [e_1]; decide), if_neg (by rw [e_1]; decide), if_neg (by rw [e_1]; decide), if_neg (by rw [e_1]; decide), if_neg (by rw [e_1]; decide), if_neg (by rw [e_1]; decide), if_neg (by rw [e_1]; decide), if_neg (by rw [e_1]; decide), if_neg (by rw [e_1]; decide), if_neg (by rw [e_1]; decide), if_pos e_1, x_s12 hx] at h
    exact h.e (x_F.rf hx)
  · skip
    refine zz_aload_0 dX11_count_137 ?_
    refine zz_getR fl_X11_10 rfl rfl (Nat.lt_of_lt_of_le (by decide) hn) (xr_0_0 hr) dX11_count_138 ?_
    refine zz_getI fl_X11_140 rfl rfl (Nat.lt_of_lt_of_le (by decide) hn) dX11_count_141 ?_
    refine zz_iret rfl dX11_count_144 (by decide) (by decide) ?_
    rw [sp_count, if_neg (by rw [e_1]; decide), if_neg (by rw [e_1]; decide), if_neg (by rw [e_1]; decide), if_neg (by rw [e_1]; decide), if_neg (by rw [e_1]; decide), if_neg (by rw [e_1]; decide), if_neg (by rw [e_1]; decide), if_neg (by rw [e_1]; decide), if_neg (by rw [e_1]; decide), if_neg (by rw [e_1]; decide), if_neg (by rw [e_1]; decide), if_pos e_1, x_s3 hx] at h
    exact h.e (x_F.rf hx)
  · skip
    refine zz_aload_0 dX11_count_145 ?_
    refine zz_getR fl_X11_10 rfl rfl (Nat.lt_of_lt_of_le (by decide) hn) (xr_0_0 hr) dX11_count_146 ?_
    refine zz_getI fl_X11_312 rfl rfl (Nat.lt_of_lt_of_le (by decide) hn) dX11_count_149 ?_
    refine zz_iret rfl dX11_count_152 (by decide) (by decide) ?_
    rw [sp_count, if_neg (by rw [e_1]; decide), if_neg (by rw [e_1]; decide), if_neg (by rw [e_1]; decide), if_neg (by rw [e_1]; decide), if_neg (by rw [e_1]; decide), if_neg (by rw [e_1]; decide), if_neg (by rw [e_1]; decide), if_neg (by rw [e_1]; decide), if_neg (by rw [e_1]; decide), if_neg (by rw [e_1]; decide), if_neg (by rw [e_1]; decide), if_neg (by rw [e_1]; decide), if_pos e_1, x_s4 hx] at h
    exact h.e (x_F.rf hx)
  · skip
    refine zz_aload_0 dX11_count_153 ?_
    refine zz_getR fl_X11_65 rfl rfl (Nat.lt_of_lt_of_le (by decide) hn) (xr_0_7 hr) dX11_count_154 ?_
    refine zz_getI fl_X11_286 rfl rfl (Nat.lt_of_lt_of_le (by decide) hn) dX11_count_157 ?_
    refine zz_iret rfl dX11_count_160 (by decide) (by decide) ?_
    rw [sp_count, if_neg (by rw [e_1]; decide), if_neg (by rw [e_1]; decide), if_neg (by rw [e_1]; decide), if_neg (by rw [e_1]; decide), if_neg (by rw [e_1]; decide), if_neg (by rw [e_1]; decide), if_neg (by rw [e_1]; decide), if_neg (by rw [e_1]; decide), if_neg (by rw [e_1]; decide), if_neg (by rw [e_1]; decide), if_neg (by rw [e_1]; decide), if_neg (by rw [e_1]; decide), if_neg (by rw [e_1]; decide), if_pos e_1, x_tm hx] at h
    exact h.e (x_F.rf hx)
  · skip
    refine zz_aload_0 dX11_count_161 ?_
    refine zz_getR fl_X11_10 rfl rfl (Nat.lt_of_lt_of_le (by decide) hn) (xr_0_0 hr) dX11_count_162 ?_
    refine zz_getI fl_X11_228 rfl rfl (Nat.lt_of_lt_of_le (by decide) hn) dX11_count_165 ?_
    refine zz_iret rfl dX11_count_168 (by decide) (by decide) ?_
    rw [sp_count, if_neg (by rw [e_1]; decide), if_neg (by rw [e_1]; decide), if_neg (by rw [e_1]; decide), if_neg (by rw [e_1]; decide), if_neg (by rw [e_1]; decide), if_neg (by rw [e_1]; decide), if_neg (by rw [e_1]; decide), if_neg (by rw [e_1]; decide), if_neg (by rw [e_1]; decide), if_neg (by rw [e_1]; decide), if_neg (by rw [e_1]; decide), if_neg (by rw [e_1]; decide), if_neg (by rw [e_1]; decide), if_neg (by rw [e_1]; decide), if_pos e_1, x_s1 hx] at h
    exact h.e (x_F.rf hx)
  · skip
    refine zz_aload_0 dX11_count_169 ?_
    refine zz_iconst (1) dX11_count_170 (by decide) ?_
    refine zz_callV1i cv_X11_86 rfl (Nat.lt_of_lt_of_le (by decide) hn) (Nat.le_of_ble_eq_true rfl) (by decide) (by decide) dX11_count_171 (t_X11_error hn hr 1 rfl (by decide) ⟨_, rfl, ?_⟩)
    refine zz_iret rfl dX11_count_174 (by decide) (by decide) ?_
    rw [sp_count, if_neg e0_1, if_neg e1_1, if_neg e2_1, if_neg e3_1, if_neg e4_1, if_neg e5_1, if_neg e6_1, if_neg e7_1, if_neg e8_1, if_neg e9_1, if_neg e10_1, if_neg e11_1, if_neg e12_1, if_neg e13_1, if_neg e14_1] at h
    exact x_er hx (by decide) h

set_option maxRecDepth 100000 in
set_option maxHeartbeats 4000000 in
theorem t_X11_isMissing {C : zz_C} {d n : Nat} {g : zz_G} {r : zz_R} {Q : zz_Q} (hn : 60 ≤ n) (hr : xr r) {v : Int32} (s : Nat) (hs : s < 4) (hv : v = nI s) (h1 : g 48 s = 0 → Q (some (.int 1)) g r n) (h0 : ¬ g 48 s = 0 → Q (some (.int 0)) g r n) : zz_T C mi_X11_isMissing d 0 0 [.ref 0, .int v] g r n Q := by
  refine zz_T.of [some (.ref 0), some (.int v)] (by decide +kernel) rfl (Nat.le_of_ble_eq_true rfl) ?_
  refine zz_aload_0 dX11_isMissing_0 ?_
  refine zz_getR fl_X11_74 rfl rfl (Nat.lt_of_lt_of_le (by decide) hn) (xr_0_9 hr) dX11_isMissing_1 ?_
  refine zz_iload_1 dX11_isMissing_4 ?_
  refine zz_iaN s hv hs (by decide) rfl (Nat.lt_of_lt_of_le (by decide) hn) dX11_isMissing_5 ?_
  refine zz_if_ne 13 dX11_isMissing_6 (by decide) (fun c_6 => ?_) (fun c_6 => ?_)
  · skip
    refine zz_iconst (0) dX11_isMissing_13 (by decide) ?_
    refine zz_zret rfl (by rfl) dX11_isMissing_14 (by decide) (by decide) ?_
    exact h0 c_6
  · skip
    refine zz_iconst (1) dX11_isMissing_9 (by decide) ?_
    refine zz_goto 14 dX11_isMissing_10 (by decide) ?_
    refine zz_zret rfl (by rfl) dX11_isMissing_14 (by decide) (by decide) ?_
    exact h1 c_6

set_option maxRecDepth 100000 in
set_option maxHeartbeats 4000000 in
theorem t_X11_refusalOfSheet {C : zz_C} {d n : Nat} {g : zz_G} {r : zz_R} {Q : zz_Q} (hn : 60 ≤ n) (hr : xr r) {v : Int32} (h1 : sp_nosh v → Q (some (.int 1)) g r n) (h2 : ∀ s : Nat, s < 4 → v = nI s → g 48 s = 0 → Q (some (.int 2)) g r n) (h0 : ∀ s : Nat, s < 4 → v = nI s → ¬ g 48 s = 0 → Q (some (.int 0)) g r n) : zz_T C mi_X11_refusalOfSheet (d + 2) 0 0 [.ref 0, .int v] g r n Q := by
  refine zz_T.of [some (.ref 0), some (.int v)] (by decide +kernel) rfl (Nat.le_of_ble_eq_true rfl) ?_
  refine zz_iload_1 dX11_refusalOfSheet_0 ?_
  refine zz_callS1i cs_X11_290 (Nat.le_of_ble_eq_true rfl) (by decide) (by decide) dX11_refusalOfSheet_1 (t_X11_isSheet (fun a_1 b_1 => ⟨_, rfl, ?_⟩) (fun o_1 => ⟨_, rfl, ?_⟩))
  · skip
    refine zz_if_ne 9 dX11_refusalOfSheet_4 (by decide) (fun _ => ?_) (fun h => absurd h (by decide))
    obtain ⟨s1, hs0, hs1, es1⟩ := zz_in0 (lo := 0) (hi := 3) rfl rfl (by decide) (by decide) a_1 b_1
    refine zz_aload_0 dX11_refusalOfSheet_9 ?_
    refine zz_iload_1 dX11_refusalOfSheet_10 ?_
    refine zz_callV1i cv_X11_296 rfl (Nat.lt_of_lt_of_le (by decide) hn) (Nat.le_of_ble_eq_true rfl) (by decide) (by decide) dX11_refusalOfSheet_11 (t_X11_isMissing hn hr s1 (by omega) es1 (fun c_11 => ⟨_, rfl, ?_⟩) (fun c_11 => ⟨_, rfl, ?_⟩))
    · skip
      refine zz_if_eq 21 dX11_refusalOfSheet_14 (by decide) (fun h => absurd h (by decide)) (fun _ => ?_)
      refine zz_iconst (2) dX11_refusalOfSheet_17 (by decide) ?_
      refine zz_goto 22 dX11_refusalOfSheet_18 (by decide) ?_
      refine zz_iret rfl dX11_refusalOfSheet_22 (by decide) (by decide) ?_
      exact h2 s1 (by omega) es1 c_11
    · skip
      refine zz_if_eq 21 dX11_refusalOfSheet_14 (by decide) (fun _ => ?_) (fun h => absurd h (by decide))
      refine zz_iconst (0) dX11_refusalOfSheet_21 (by decide) ?_
      refine zz_iret rfl dX11_refusalOfSheet_22 (by decide) (by decide) ?_
      exact h0 s1 (by omega) es1 c_11
  · skip
    refine zz_if_ne 9 dX11_refusalOfSheet_4 (by decide) (fun h => absurd h (by decide)) (fun _ => ?_)
    refine zz_iconst (1) dX11_refusalOfSheet_7 (by decide) ?_
    refine zz_iret rfl dX11_refusalOfSheet_8 (by decide) (by decide) ?_
    exact h1 o_1

set_option maxRecDepth 100000 in
set_option maxHeartbeats 4000000 in
theorem t_X11_lowestBits {C : zz_C} {d n : Nat} {g : zz_G} {r : zz_R} {Q : zz_Q} {v b : Int32} (h : Q (some (.int (sp_nar b v))) g r n) : zz_T C mi_X11_lowestBits d 0 0 [.int v, .int b] g r n Q := by
  refine zz_T.of [some (.int v), some (.int b)] (by decide +kernel) rfl (Nat.le_of_ble_eq_true rfl) ?_
  refine zz_iload_1 dX11_lowestBits_0 ?_
  refine zz_bipush (8) dX11_lowestBits_1 (by decide) ?_
  refine zz_icmp_ne 9 dX11_lowestBits_3 (by decide) (fun c_3 => ?_) (fun c_3 => ?_)
  · skip
    refine zz_iload_1 dX11_lowestBits_9 ?_
    refine zz_bipush (16) dX11_lowestBits_10 (by decide) ?_
    refine zz_icmp_ne 20 dX11_lowestBits_12 (by decide) (fun c_12 => ?_) (fun c_12 => ?_)
    · skip
      refine zz_iload_0 dX11_lowestBits_20 ?_
      refine zz_iret rfl dX11_lowestBits_21 (by decide) (by decide) ?_
      first
        | (rw [sp_nar, if_pos c_3] at h; exact h)
        | (rw [sp_nar, if_neg c_3, if_pos c_12] at h; exact h)
        | (rw [sp_nar, if_neg c_3, if_neg c_12] at h; exact h)
    · skip
      refine zz_iload_0 dX11_lowestBits_15 ?_
      refine zz_i2s dX11_lowestBits_16 ?_
      refine zz_goto 21 dX11_lowestBits_17 (by decide) ?_
      refine zz_iret rfl dX11_lowestBits_21 (by decide) (by decide) ?_
      first
        | (rw [sp_nar, if_pos c_3] at h; exact h)
        | (rw [sp_nar, if_neg c_3, if_pos c_12] at h; exact h)
        | (rw [sp_nar, if_neg c_3, if_neg c_12] at h; exact h)
  · skip
    refine zz_iload_0 dX11_lowestBits_6 ?_
    refine zz_i2b dX11_lowestBits_7 ?_
    refine zz_iret rfl dX11_lowestBits_8 (by decide) (by decide) ?_
    first
      | (rw [sp_nar, if_pos c_3] at h; exact h)
      | (rw [sp_nar, if_neg c_3, if_pos c_12] at h; exact h)
      | (rw [sp_nar, if_neg c_3, if_neg c_12] at h; exact h)

theorem sp_nosh_f {s : Nat} (h : s < 4) : ¬ sp_nosh (nI s) := fun z9 => z9.elim (nI_pos (by omega)) (fun z8 => absurd ((nI_ltI (a := 3) (b := s) (by omega) (by omega)).mp z8) (by omega))
set_option maxRecDepth 100000 in
set_option maxHeartbeats 4000000 in
theorem t_X11_put {C : zz_C} {d n : Nat} {g : zz_G} {r : zz_R} {Q : zz_Q} {S : zz_G} (hx : x_rel S g r n) {v i x : Int32} (hz : ∀ s : Nat, s < 4 → ∃ z : Nat, z ≤ 40 ∧ S 56 s = nI z) (h : x_o g Q (sp_put S v i x)) : zz_T C mi_X11_put (d + 3) 0 0 [.ref 0, .int v, .int i, .int x] g r n Q := by
  have hn := hx.nn
  have hr := hx.1
  refine zz_T.of [some (.ref 0), some (.int v), some (.int i), some (.int x), none] (by decide +kernel) rfl (Nat.le_of_ble_eq_true rfl) ?_
  refine zz_aload_0 dX11_put_0 ?_
  refine zz_iload_1 dX11_put_1 ?_
  refine zz_callV1i cv_X11_259 rfl (Nat.lt_of_lt_of_le (by decide) hn) (Nat.le_of_ble_eq_true rfl) (by decide) (by decide) dX11_put_2 (t_X11_refusalOfSheet hn hr (fun o_2 => ⟨_, rfl, ?_⟩) (fun s_2 hs_2 es_2 c_2 => ⟨_, rfl, ?_⟩) (fun s_2 hs_2 es_2 c_2 => ⟨_, rfl, ?_⟩))
  · skip
    refine zz_istore_4 dX11_put_5 rfl rfl ?_
    refine zz_iload_4 dX11_put_7 ?_
    refine zz_if_eq 19 dX11_put_9 (by decide) (fun h => absurd h (by decide)) (fun _ => ?_)
    refine zz_aload_0 dX11_put_12 ?_
    refine zz_iload_4 dX11_put_13 ?_
    refine zz_callV1i cv_X11_86 rfl (Nat.lt_of_lt_of_le (by decide) hn) (Nat.le_of_ble_eq_true rfl) (by decide) (by decide) dX11_put_15 (t_X11_error hn hr 1 rfl (by decide) ⟨_, rfl, ?_⟩)
    refine zz_iret rfl dX11_put_18 (by decide) (by decide) ?_
    first
      | (rw [sp_put, if_pos o_2] at h; exact x_er hx (by decide) h)
      | (rw [sp_put, if_neg (sp_nosh_f hs_2), ix_w (by omega), x_sb hx hs_2, if_pos c_2] at h; exact x_er hx (by decide) h)
  · skip
    subst es_2
    refine zz_istore_4 dX11_put_5 rfl rfl ?_
    refine zz_iload_4 dX11_put_7 ?_
    refine zz_if_eq 19 dX11_put_9 (by decide) (fun h => absurd h (by decide)) (fun _ => ?_)
    refine zz_aload_0 dX11_put_12 ?_
    refine zz_iload_4 dX11_put_13 ?_
    refine zz_callV1i cv_X11_86 rfl (Nat.lt_of_lt_of_le (by decide) hn) (Nat.le_of_ble_eq_true rfl) (by decide) (by decide) dX11_put_15 (t_X11_error hn hr 2 rfl (by decide) ⟨_, rfl, ?_⟩)
    refine zz_iret rfl dX11_put_18 (by decide) (by decide) ?_
    first
      | (rw [sp_put, if_pos o_2] at h; exact x_er hx (by decide) h)
      | (rw [sp_put, if_neg (sp_nosh_f hs_2), ix_w (by omega), x_sb hx hs_2, if_pos c_2] at h; exact x_er hx (by decide) h)
  · skip
    subst es_2
    refine zz_istore_4 dX11_put_5 rfl rfl ?_
    refine zz_iload_4 dX11_put_7 ?_
    refine zz_if_eq 19 dX11_put_9 (by decide) (fun _ => ?_) (fun h => absurd h (by decide))
    refine zz_iload_2 dX11_put_19 ?_
    refine zz_if_lt 33 dX11_put_20 (by decide) (fun c_20 => ?_) (fun c_20 => ?_)
    · skip
      refine zz_aload_0 dX11_put_33 ?_
      refine zz_iconst (1) dX11_put_34 (by decide) ?_
      refine zz_callV1i cv_X11_86 rfl (Nat.lt_of_lt_of_le (by decide) hn) (Nat.le_of_ble_eq_true rfl) (by decide) (by decide) dX11_put_35 (t_X11_error hn hr 1 rfl (by decide) ⟨_, rfl, ?_⟩)
      refine zz_iret rfl dX11_put_38 (by decide) (by decide) ?_
      rw [sp_put, if_neg (sp_nosh_f hs_2), ix_w (by omega), x_sb hx hs_2, if_neg c_2, x_sz hx hs_2, if_neg (fun z9 => z9.1 c_20)] at h
      exact x_er hx (by decide) h
    · skip
      refine zz_iload_2 dX11_put_23 ?_
      refine zz_aload_0 dX11_put_24 ?_
      refine zz_getR fl_X11_77 rfl rfl (Nat.lt_of_lt_of_le (by decide) hn) (xr_0_10 hr) dX11_put_25 ?_
      refine zz_iload_1 dX11_put_28 ?_
      refine zz_iaN s_2 rfl hs_2 (by decide) rfl (Nat.lt_of_lt_of_le (by decide) hn) dX11_put_29 ?_
      refine zz_icmp_lt 39 dX11_put_30 (by decide) (fun c_30 => ?_) (fun c_30 => ?_)
      · skip
        refine zz_aload_0 dX11_put_39 ?_
        refine zz_getR fl_X11_71 rfl rfl (Nat.lt_of_lt_of_le (by decide) hn) (xr_0_8 hr) dX11_put_40 ?_
        refine zz_iload_1 dX11_put_43 ?_
        obtain ⟨z1, hz1, ez0⟩ := hz s_2 hs_2
        have ez1 : g 49 s_2 = nI z1 := (x_sz hx hs_2).symm.trans ez0
        obtain ⟨i1, hi1, ei1⟩ := zz_nat (Int32.not_lt.mp c_20) (by rw [← ez1]; exact c_30) (by omega)
        refine zz_aaN s_2 rfl hs_2 (by decide) (by decide) rfl (Nat.lt_of_lt_of_le (by decide) hn) (xr_sheet hr s_2 hs_2) dX11_put_44 ?_
        refine zz_iload_2 dX11_put_45 ?_
        refine zz_iload_3 dX11_put_46 ?_
        refine zz_aload_0 dX11_put_47 ?_
        refine zz_getR fl_X11_74 rfl rfl (Nat.lt_of_lt_of_le (by decide) hn) (xr_0_9 hr) dX11_put_48 ?_
        refine zz_iload_1 dX11_put_51 ?_
        refine zz_iaN s_2 rfl hs_2 (by decide) rfl (Nat.lt_of_lt_of_le (by decide) hn) dX11_put_52 ?_
        refine zz_callS2i cs_X11_293 (Nat.le_of_ble_eq_true rfl) (by decide) (by decide) dX11_put_53 (t_X11_lowestBits ⟨_, rfl, ?_⟩)
        refine zz_isN i1 ei1 (by omega) (by decide) (xs_sheet s_2 hs_2) (by omega) dX11_put_56 ?_
        refine zz_iconst (1) dX11_put_57 (by decide) ?_
        refine zz_iret rfl dX11_put_58 (by decide) (by decide) ?_
        rw [sp_put, if_neg (sp_nosh_f hs_2), ix_w (by omega), x_sb hx hs_2, if_neg c_2, x_sz hx hs_2, if_pos ⟨c_20, c_30⟩, show i.toNatClampNeg = i1 from by rw [ei1]; exact ix_w (by omega)] at h
        exact h.e ((x_F.rf hx).sh hs_2 (by omega))
      · skip
        refine zz_aload_0 dX11_put_33 ?_
        refine zz_iconst (1) dX11_put_34 (by decide) ?_
        refine zz_callV1i cv_X11_86 rfl (Nat.lt_of_lt_of_le (by decide) hn) (Nat.le_of_ble_eq_true rfl) (by decide) (by decide) dX11_put_35 (t_X11_error hn hr 1 rfl (by decide) ⟨_, rfl, ?_⟩)
        refine zz_iret rfl dX11_put_38 (by decide) (by decide) ?_
        rw [sp_put, if_neg (sp_nosh_f hs_2), ix_w (by omega), x_sb hx hs_2, if_neg c_2, x_sz hx hs_2, if_neg (fun z9 => c_30 z9.2)] at h
        exact x_er hx (by decide) h
