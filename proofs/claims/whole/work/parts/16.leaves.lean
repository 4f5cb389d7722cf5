set_option maxRecDepth 100000 in
set_option maxHeartbeats 4000000 in
theorem t_X11_within {C : zz_C} {d n : Nat} {g : zz_G} {r : zz_R} {Q : zz_Q} {v most : Int32} (h1 : ¬ v < 0 → ¬ most < v → Q (some (.int 1)) g r n) (h0 : v < 0 ∨ most < v → Q (some (.int 0)) g r n) : zz_T C mi_X11_within d 0 0 [.int v, .int most] g r n Q := by
  refine zz_T.of [some (.int v), some (.int most)] (by decide +kernel) rfl (Nat.le_of_ble_eq_true rfl) ?_
  refine zz_iload_0 dX11_within_0 ?_
  refine zz_if_lt 13 dX11_within_1 (by decide) (fun c_1 => ?_) (fun c_1 => ?_)
  · skip
    refine zz_iconst (0) dX11_within_13 (by decide) ?_
    refine zz_zret rfl (by rfl) dX11_within_14 (by decide) (by decide) ?_
    exact h0 (by first | exact Or.inl c_1 | exact Or.inr c_6)
  · skip
    refine zz_iload_0 dX11_within_4 ?_
    refine zz_iload_1 dX11_within_5 ?_
    refine zz_icmp_gt 13 dX11_within_6 (by decide) (fun c_6 => ?_) (fun c_6 => ?_)
    · skip
      refine zz_iconst (0) dX11_within_13 (by decide) ?_
      refine zz_zret rfl (by rfl) dX11_within_14 (by decide) (by decide) ?_
      exact h0 (by first | exact Or.inl c_1 | exact Or.inr c_6)
    · skip
      refine zz_iconst (1) dX11_within_9 (by decide) ?_
      refine zz_goto 14 dX11_within_10 (by decide) ?_
      refine zz_zret rfl (by rfl) dX11_within_14 (by decide) (by decide) ?_
      exact h1 c_1 c_6

set_option maxRecDepth 100000 in
set_option maxHeartbeats 4000000 in
theorem t_X11_isPlace {C : zz_C} {d n : Nat} {g : zz_G} {r : zz_R} {Q : zz_Q} {v : Int32} (h1 : ¬ v < 0 → ¬ 5 < v → Q (some (.int 1)) g r n) (h0 : v < 0 ∨ 5 < v → Q (some (.int 0)) g r n) : zz_T C mi_X11_isPlace (d + 1) 0 0 [.int v] g r n Q := by
  refine zz_T.of [some (.int v)] (by decide +kernel) rfl (Nat.le_of_ble_eq_true rfl) ?_
  refine zz_iload_0 dX11_isPlace_0 ?_
  refine zz_iconst (5) dX11_isPlace_1 (by decide) ?_
  refine zz_callS2i cs_X11_93 (Nat.le_of_ble_eq_true rfl) (by decide) (by decide) dX11_isPlace_2 (t_X11_within (fun a_2 b_2 => ⟨_, rfl, ?_⟩) (fun o_2 => ⟨_, rfl, ?_⟩))
  · skip
    refine zz_zret rfl (by rfl) dX11_isPlace_5 (by decide) (by decide) ?_
    exact h1 a_2 b_2
  · skip
    refine zz_zret rfl (by rfl) dX11_isPlace_5 (by decide) (by decide) ?_
    exact h0 o_2

set_option maxRecDepth 100000 in
set_option maxHeartbeats 4000000 in
theorem t_X11_isSheet {C : zz_C} {d n : Nat} {g : zz_G} {r : zz_R} {Q : zz_Q} {v : Int32} (h1 : ¬ v < 0 → ¬ 3 < v → Q (some (.int 1)) g r n) (h0 : v < 0 ∨ 3 < v → Q (some (.int 0)) g r n) : zz_T C mi_X11_isSheet (d + 1) 0 0 [.int v] g r n Q := by
  refine zz_T.of [some (.int v)] (by decide +kernel) rfl (Nat.le_of_ble_eq_true rfl) ?_
  refine zz_iload_0 dX11_isSheet_0 ?_
  refine zz_iconst (3) dX11_isSheet_1 (by decide) ?_
  refine zz_callS2i cs_X11_93 (Nat.le_of_ble_eq_true rfl) (by decide) (by decide) dX11_isSheet_2 (t_X11_within (fun a_2 b_2 => ⟨_, rfl, ?_⟩) (fun o_2 => ⟨_, rfl, ?_⟩))
  · skip
    refine zz_zret rfl (by rfl) dX11_isSheet_5 (by decide) (by decide) ?_
    exact h1 a_2 b_2
  · skip
    refine zz_zret rfl (by rfl) dX11_isSheet_5 (by decide) (by decide) ?_
    exact h0 o_2

set_option maxRecDepth 100000 in
set_option maxHeartbeats 4000000 in
theorem t_X11_error {C : zz_C} {d n : Nat} {g : zz_G} {r : zz_R} {Q : zz_Q} (hn : 60 ≤ n) (hr : xr r) {k : Int32} (e : Nat) (hk : k = nI e) (he : e < 6) (h : Q (some (.int (-1000000000 - k))) (zz_u g 28 e (g 28 e + 1)) r n) : zz_T C mi_X11_error d 0 0 [.ref 0, .int k] g r n Q := by
  refine zz_T.of [some (.ref 0), some (.int k)] (by decide +kernel) rfl (Nat.le_of_ble_eq_true rfl) ?_
  refine zz_aload_0 dX11_error_0 ?_
  refine zz_getR fl_X11_23 rfl rfl (Nat.lt_of_lt_of_le (by decide) hn) (xr_0_3 hr) dX11_error_1 ?_
  refine zz_iload_1 dX11_error_4 ?_
  refine zz_dup2 dX11_error_5 rfl rfl ?_
  refine zz_iaN e hk he (by decide) rfl (Nat.lt_of_lt_of_le (by decide) hn) dX11_error_6 ?_
  refine zz_iconst (1) dX11_error_7 (by decide) ?_
  refine zz_iadd dX11_error_8 ?_
  refine zz_isN e hk he (by decide) rfl (Nat.lt_of_lt_of_le (by decide) hn) dX11_error_9 ?_
  refine zz_ldc dX11_error_10 ct_X11_139 ?_
  refine zz_iload_1 dX11_error_12 ?_
  refine zz_isub dX11_error_13 ?_
  refine zz_iret rfl dX11_error_14 (by decide) (by decide) ?_
  exact h

set_option maxRecDepth 100000 in
set_option maxHeartbeats 4000000 in
theorem t_X11_isWay {C : zz_C} {d n : Nat} {g : zz_G} {r : zz_R} {Q : zz_Q} (hn : 60 ≤ n) (hr : xr r) {v : Int32} (m : Nat) (hm : g 1 7 = nI m) (hm6 : m ≤ 6) (h1 : ∀ w : Nat, w < m → v = nI w → Q (some (.int 1)) g r n) (h0 : (∀ w : Nat, w < m → ¬ v = nI w) → Q (some (.int 0)) g r n) : zz_T C mi_X11_isWay d 0 0 [.ref 0, .int v] g r n Q := by
  refine zz_T.of [some (.ref 0), some (.int v)] (by decide +kernel) rfl (Nat.le_of_ble_eq_true rfl) ?_
  refine zz_iload_1 dX11_isWay_0 ?_
  refine zz_if_lt 19 dX11_isWay_1 (by decide) (fun c_1 => ?_) (fun c_1 => ?_)
  · skip
    refine zz_iconst (0) dX11_isWay_19 (by decide) ?_
    refine zz_zret rfl (by rfl) dX11_isWay_20 (by decide) (by decide) ?_
    refine h0 fun w hw hv => ?_
    first
      | (rw [hv] at c_1; exact nI_pos (by omega) c_1)
      | (rw [hv, hm] at c_12; exact absurd ((nI_leI (by omega) (by omega)).mp c_12) (by omega))
  · skip
    refine zz_iload_1 dX11_isWay_4 ?_
    refine zz_aload_0 dX11_isWay_5 ?_
    refine zz_getR fl_X11_10 rfl rfl (Nat.lt_of_lt_of_le (by decide) hn) (xr_0_0 hr) dX11_isWay_6 ?_
    refine zz_getI fl_X11_101 rfl rfl (Nat.lt_of_lt_of_le (by decide) hn) dX11_isWay_9 ?_
    refine zz_icmp_ge 19 dX11_isWay_12 (by decide) (fun c_12 => ?_) (fun c_12 => ?_)
    · skip
      refine zz_iconst (0) dX11_isWay_19 (by decide) ?_
      refine zz_zret rfl (by rfl) dX11_isWay_20 (by decide) (by decide) ?_
      refine h0 fun w hw hv => ?_
      first
        | (rw [hv] at c_1; exact nI_pos (by omega) c_1)
        | (rw [hv, hm] at c_12; exact absurd ((nI_leI (by omega) (by omega)).mp c_12) (by omega))
    · skip
      refine zz_iconst (1) dX11_isWay_15 (by decide) ?_
      refine zz_goto 20 dX11_isWay_16 (by decide) ?_
      refine zz_zret rfl (by rfl) dX11_isWay_20 (by decide) (by decide) ?_
      rw [hm] at c_12
      obtain ⟨w, hw, hv⟩ := zz_nat (Int32.not_lt.mp c_1) (Int32.not_le.mp c_12) (by omega)
      exact h1 w hw hv

set_option maxRecDepth 100000 in
set_option maxHeartbeats 4000000 in
theorem t_X12_in {C : zz_C} {d n : Nat} {g : zz_G} {r : zz_R} {Q : zz_Q} {v lo hi : Int32} (h1 : ¬ v < lo → ¬ hi < v → Q (some (.int 1)) g r n) (h0 : v < lo ∨ hi < v → Q (some (.int 0)) g r n) : zz_T C mi_X12_in d 0 0 [.int v, .int lo, .int hi] g r n Q := by
  refine zz_T.of [some (.int v), some (.int lo), some (.int hi)] (by decide +kernel) rfl (Nat.le_of_ble_eq_true rfl) ?_
  refine zz_iload_0 dX12_in_0 ?_
  refine zz_iload_1 dX12_in_1 ?_
  refine zz_icmp_lt 14 dX12_in_2 (by decide) (fun c_2 => ?_) (fun c_2 => ?_)
  · skip
    refine zz_iconst (0) dX12_in_14 (by decide) ?_
    refine zz_zret rfl (by rfl) dX12_in_15 (by decide) (by decide) ?_
    exact h0 (by first | exact Or.inl c_2 | exact Or.inr c_7)
  · skip
    refine zz_iload_0 dX12_in_5 ?_
    refine zz_iload_2 dX12_in_6 ?_
    refine zz_icmp_gt 14 dX12_in_7 (by decide) (fun c_7 => ?_) (fun c_7 => ?_)
    · skip
      refine zz_iconst (0) dX12_in_14 (by decide) ?_
      refine zz_zret rfl (by rfl) dX12_in_15 (by decide) (by decide) ?_
      exact h0 (by first | exact Or.inl c_2 | exact Or.inr c_7)
    · skip
      refine zz_iconst (1) dX12_in_10 (by decide) ?_
      refine zz_goto 15 dX12_in_11 (by decide) ?_
      refine zz_zret rfl (by rfl) dX12_in_15 (by decide) (by decide) ?_
      exact h1 c_2 c_7

set_option maxRecDepth 100000 in
set_option maxHeartbeats 4000000 in
theorem t_X12_errs {C : zz_C} {d n : Nat} {g : zz_G} {r : zz_R} {Q : zz_Q} (hn : 60 ≤ n) (hr : xr r) {k : Int32} (e : Nat) (hk : -1000000000 - k = nI e) (he : e < 6) (h : Q (some (.int k)) (zz_u g 54 e (g 54 e + 1)) r n) : zz_T C mi_X12_errs d 0 0 [.ref 50, .int k] g r n Q := by
  refine zz_T.of [some (.ref 50), some (.int k)] (by decide +kernel) rfl (Nat.le_of_ble_eq_true rfl) ?_
  refine zz_aload_0 dX12_errs_0 ?_
  refine zz_getR fl_X12_19 rfl rfl (Nat.lt_of_lt_of_le (by decide) hn) (xr_50_5 hr) dX12_errs_1 ?_
  refine zz_ldc dX12_errs_4 ct_X12_37 ?_
  refine zz_iload_1 dX12_errs_6 ?_
  refine zz_isub dX12_errs_7 ?_
  refine zz_dup2 dX12_errs_8 rfl rfl ?_
  refine zz_iaN e hk he (by decide) rfl (Nat.lt_of_lt_of_le (by decide) hn) dX12_errs_9 ?_
  refine zz_iconst (1) dX12_errs_10 (by decide) ?_
  refine zz_iadd dX12_errs_11 ?_
  refine zz_isN e hk he (by decide) rfl (Nat.lt_of_lt_of_le (by decide) hn) dX12_errs_12 ?_
  refine zz_iload_1 dX12_errs_13 ?_
  refine zz_iret rfl dX12_errs_14 (by decide) (by decide) ?_
  exact h

set_option maxRecDepth 100000 in
set_option maxHeartbeats 4000000 in
theorem t_X12_its {C : zz_C} {d n : Nat} {g : zz_G} {r : zz_R} {Q : zz_Q} (hn : 60 ≤ n) (hr : xr r) {v z : Int32} (w j : Nat) (hv : v = nI w) (hz : z = nI j) (hb : 16 + 5 * w + j < 276) (h : Q (some (.int (g 51 (16 + 5 * w + j)))) g r n) : zz_T C mi_X12_its d 0 0 [.ref 50, .int v, .int z] g r n Q := by
  refine zz_T.of [some (.ref 50), some (.int v), some (.int z)] (by decide +kernel) rfl (Nat.le_of_ble_eq_true rfl) ?_
  refine zz_aload_0 dX12_its_0 ?_
  refine zz_getR fl_X12_7 rfl rfl (Nat.lt_of_lt_of_le (by decide) hn) (xr_50_0 hr) dX12_its_1 ?_
  refine zz_bipush (16) dX12_its_4 (by decide) ?_
  refine zz_iconst (5) dX12_its_6 (by decide) ?_
  refine zz_iload_1 dX12_its_7 ?_
  refine zz_imul dX12_its_8 ?_
  refine zz_iadd dX12_its_9 ?_
  refine zz_iload_2 dX12_its_10 ?_
  refine zz_iadd dX12_its_11 ?_
  refine zz_iaN (16 + 5 * w + j) (by rw [hv, hz]; show nI 16 + nI 5 * nI w + nI j = _; rw [pk_mul, nI_add, nI_add]) hb (by decide) rfl (Nat.lt_of_lt_of_le (by decide) hn) dX12_its_12 ?_
  refine zz_iret rfl dX12_its_13 (by decide) (by decide) ?_
  exact h

set_option maxRecDepth 100000 in
set_option maxHeartbeats 4000000 in
theorem t_X12_isWay {C : zz_C} {d n : Nat} {g : zz_G} {r : zz_R} {Q : zz_Q} (hn : 60 ≤ n) (hr : xr r) {v : Int32} (m : Nat) (hm : g 51 2 = nI m) (hm6 : m ≤ 6) (h1 : ∀ w : Nat, w < m → v = nI w → Q (some (.int 1)) g r n) (h0 : (∀ w : Nat, w < m → ¬ v = nI w) → Q (some (.int 0)) g r n) : zz_T C mi_X12_isWay (d + 1) 0 0 [.ref 50, .int v] g r n Q := by
  refine zz_T.of [some (.ref 50), some (.int v)] (by decide +kernel) rfl (Nat.le_of_ble_eq_true rfl) ?_
  refine zz_iload_1 dX12_isWay_0 ?_
  refine zz_iconst (0) dX12_isWay_1 (by decide) ?_
  refine zz_aload_0 dX12_isWay_2 ?_
  refine zz_getR fl_X12_7 rfl rfl (Nat.lt_of_lt_of_le (by decide) hn) (xr_50_0 hr) dX12_isWay_3 ?_
  refine zz_iconst (2) dX12_isWay_6 (by decide) ?_
  refine zz_iald 2 (by decide) (by decide) (by decide) rfl (Nat.lt_of_lt_of_le (by decide) hn) dX12_isWay_7 ?_
  refine zz_iconst (1) dX12_isWay_8 (by decide) ?_
  refine zz_isub dX12_isWay_9 ?_
  refine zz_callS3i cs_X12_38 (Nat.le_of_ble_eq_true rfl) (by decide) (by decide) dX12_isWay_10 (t_X12_in (fun a_10 b_10 => ⟨_, rfl, ?_⟩) (fun o_10 => ⟨_, rfl, ?_⟩))
  · skip
    refine zz_zret rfl (by rfl) dX12_isWay_13 (by decide) (by decide) ?_
    rw [hm] at b_10
    rcases m with _ | m
    · exact absurd (Int32.le_trans (Int32.not_lt.mp a_10) (Int32.not_lt.mp b_10)) (by decide)
    · rw [show nI (m + 1) - 1 = nI m from nI_pred m] at b_10
      obtain ⟨w, hw, hv⟩ := zz_natle (Int32.not_lt.mp a_10) (Int32.not_lt.mp b_10) (by omega)
      exact h1 w (by omega) hv
  · skip
    refine zz_zret rfl (by rfl) dX12_isWay_13 (by decide) (by decide) ?_
    refine h0 fun w hw hv => ?_
    rcases m with _ | m
    · omega
    · rw [hm, show nI (m + 1) - 1 = nI m from nI_pred m, hv] at o_10
      rcases o_10 with q | q
      · exact nI_pos (by omega) q
      · exact absurd ((nI_ltI (by omega) (by omega)).mp q) (by omega)

set_option maxRecDepth 100000 in
set_option maxHeartbeats 4000000 in
theorem t_X11_mostOf {C : zz_C} {d n : Nat} {g : zz_G} {r : zz_R} {Q : zz_Q} {v : Int32} (h2 : v = 2 → Q (some (.int 99)) g r n) (h3 : v = 3 → Q (some (.int 5)) g r n) (h4 : ¬ v = 2 → ¬ v = 3 → Q (some (.int 1)) g r n) : zz_T C mi_X11_mostOf d 0 0 [.int v] g r n Q := by
  refine zz_T.of [some (.int v)] (by decide +kernel) rfl (Nat.le_of_ble_eq_true rfl) ?_
  refine zz_iload_0 dX11_mostOf_0 ?_
  refine zz_iconst (2) dX11_mostOf_1 (by decide) ?_
  refine zz_icmp_ne 8 dX11_mostOf_2 (by decide) (fun c_2 => ?_) (fun c_2 => ?_)
  · skip
    refine zz_iload_0 dX11_mostOf_8 ?_
    refine zz_iconst (3) dX11_mostOf_9 (by decide) ?_
    refine zz_icmp_ne 17 dX11_mostOf_10 (by decide) (fun c_10 => ?_) (fun c_10 => ?_)
    · skip
      refine zz_iconst (1) dX11_mostOf_17 (by decide) ?_
      refine zz_iret rfl dX11_mostOf_18 (by decide) (by decide) ?_
      exact h4 c_2 c_10
    · skip
      refine zz_iconst (5) dX11_mostOf_13 (by decide) ?_
      refine zz_goto 18 dX11_mostOf_14 (by decide) ?_
      refine zz_iret rfl dX11_mostOf_18 (by decide) (by decide) ?_
      exact h3 c_10
  · skip
    refine zz_bipush (99) dX11_mostOf_5 (by decide) ?_
    refine zz_iret rfl dX11_mostOf_7 (by decide) (by decide) ?_
    exact h2 c_2

set_option maxRecDepth 100000 in
set_option maxHeartbeats 4000000 in
theorem t_X11_isLost {C : zz_C} {d n : Nat} {g : zz_G} {r : zz_R} {Q : zz_Q} (hn : 60 ≤ n) (hr : xr r) {v : Int32} (w : Nat) (hw : w < 6) (hv : v = nI w) (h1 : ¬ g (4 + w) 4 = 0 → Q (some (.int 1)) g r n) (h0 : g (4 + w) 4 = 0 → Q (some (.int 0)) g r n) : zz_T C mi_X11_isLost d 0 0 [.ref 0, .int v] g r n Q := by
  refine zz_T.of [some (.ref 0), some (.int v)] (by decide +kernel) rfl (Nat.le_of_ble_eq_true rfl) ?_
  refine zz_aload_0 dX11_isLost_0 ?_
  refine zz_getR fl_X11_10 rfl rfl (Nat.lt_of_lt_of_le (by decide) hn) (xr_0_0 hr) dX11_isLost_1 ?_
  refine zz_getR fl_X11_104 rfl rfl (Nat.lt_of_lt_of_le (by decide) hn) (xr_1_6 hr) dX11_isLost_4 ?_
  refine zz_iload_1 dX11_isLost_7 ?_
  refine zz_aaN w hv hw (by decide) (by decide) rfl (Nat.lt_of_lt_of_le (by decide) hn) (xr_way hr w hw) dX11_isLost_8 ?_
  refine zz_iconst (4) dX11_isLost_9 (by decide) ?_
  refine zz_iald 4 (by decide) (by decide) (by decide) (xs_way w hw) (by omega) dX11_isLost_10 ?_
  refine zz_if_eq 18 dX11_isLost_11 (by decide) (fun c_11 => ?_) (fun c_11 => ?_)
  · skip
    refine zz_iconst (0) dX11_isLost_18 (by decide) ?_
    refine zz_zret rfl (by rfl) dX11_isLost_19 (by decide) (by decide) ?_
    exact h0 c_11
  · skip
    refine zz_iconst (1) dX11_isLost_14 (by decide) ?_
    refine zz_goto 19 dX11_isLost_15 (by decide) ?_
    refine zz_zret rfl (by rfl) dX11_isLost_19 (by decide) (by decide) ?_
    exact h1 c_11
