def k_es : List (Int32 × Nat) := [(0, 208), (1, 241), (2, 284), (3, 317), (4, 360), (5, 393), (6, 426), (7, 489), (8, 512), (9, 565), (10, 588), (11, 621), (12, 644), (13, 667), (14, 690), (15, 723), (16, 746), (17, 769), (18, 792), (19, 805), (20, 818), (21, 851), (22, 864), (23, 877), (24, 900), (25, 923), (26, 956), (27, 979), (28, 1022), (29, 1045), (30, 1088), (31, 1131), (32, 1194), (33, 1217), (34, 1240), (35, 1253), (36, 1266), (37, 1289), (38, 1302), (39, 1325)]
abbrev k_Q : zz_Q := fun v _ _ _ => v = some (.int 1)
set_option maxRecDepth 100000 in
set_option maxHeartbeats 4000000 in
theorem law_loop {C : zz_C} {d Ls : Nat} {xs : Nat → Int32} (hs : zz_sx C Ls xs) (hL : Ls ≤ 3072) : ∀ (f i j kc ks n : Nat) (S g : zz_G) (r : zz_R), Ls < i + 6 * f + 6 → i ≤ Ls → kc + 27 * f ≤ 600000 → ks + 302 * f ≤ 7302250 → j + f ≤ 9999 → x_rel S g r n → ms_S g = S → iv S j → zz_Z C mi_L (d + 60) 600000 7302250 kc ks 18 [some (.ref (1000000 + 30)), some (.ref 0), some (.ref 50), some (.int (nI i))] [] g r n k_Q := by
  intro f
  induction f with
  | zero =>
    intro i j kc ks n S g r hf hi hc hk hj hx hS hv
    have hcmp : (nI Ls - 6 < nI i) ↔ Ls < i + 6 := by
      rw [Int32.lt_iff_toInt_lt, show (6 : Int32) = nI 6 from rfl, zz_subI (by omega) (by omega), nI_toInt (by omega)]
      omega
    refine zz_iload_3 dL_law_18 ?_
    refine zz_aload_0 dL_law_19 ?_
    refine zz_slen hs dL_law_20 ?_
    refine zz_bipush 6 dL_law_21 (by decide) ?_
    refine zz_isub dL_law_23 ?_
    refine zz_icmp_gt 1354 dL_law_24 (by decide) (fun _ => ?_) (fun h => absurd (hcmp.mpr (by omega)) h)
    refine zz_iconst 1 dL_law_1354 (by decide) ?_
    exact zz_zret rfl rfl dL_law_1355 (by omega) (by omega) rfl
  | succ f ih =>
    intro i j kc ks n S g r hf hi hc hk hj hx hS hv
    have hcmp : (nI Ls - 6 < nI i) ↔ Ls < i + 6 := by
      rw [Int32.lt_iff_toInt_lt, show (6 : Int32) = nI 6 from rfl, zz_subI (by omega) (by omega), nI_toInt (by omega)]
      omega
    refine zz_iload_3 dL_law_18 ?_
    refine zz_aload_0 dL_law_19 ?_
    refine zz_slen hs dL_law_20 ?_
    refine zz_bipush 6 dL_law_21 (by decide) ?_
    refine zz_isub dL_law_23 ?_
    refine zz_icmp_gt 1354 dL_law_24 (by decide) (fun _ => ?_) (fun h => ?_)
    · refine zz_iconst 1 dL_law_1354 (by decide) ?_
      exact zz_zret rfl rfl dL_law_1355 (by omega) (by omega) rfl
    have hi6 : i + 6 ≤ Ls := by
      rcases Nat.lt_or_ge Ls (i + 6) with q | q
      · exact absurd (hcmp.mpr q) h
      · exact q
    have hZ : ∀ S' g' r' n', x_rel S' g' r' n' → ms_S g' = S' → iv S' (j + 1) → zz_Z C mi_L (d + 60) 600000 7302250 (kc + 27) (ks + 302) 1348 [some (.ref (1000000 + 30)), some (.ref 0), some (.ref 50), some (.int (nI i))] [] g' r' n' k_Q := by
      intro S' g' r' n' a b c
      refine zz_iinc_3 6 dL_law_1348 rfl rfl (by decide) ?_
      refine zz_goto 18 dL_law_1351 (by decide) ?_
      rw [show nI i + 6 = nI (i + 6) from sx_i]
      exact ih (i + 6) (j + 1) (kc + 27) (ks + 302) n' S' g' r' (by omega) hi6 (by omega) (by omega) (by omega) a b c
    have hc' : kc + 27 ≤ 600000 := by omega
    have hk' : ks + 302 ≤ 7302250 := by omega
    have hj' : j < 9999 := by omega
    refine zz_aload_0 dL_law_27 ?_
    refine zz_iload_3 dL_law_28 ?_
    refine zz_sld hs i rfl (by omega) hL dL_law_29 ?_
    refine zz_bipush 63 dL_law_30 (by decide) ?_
    refine zz_iand dL_law_32 ?_
    refine zz_tswg k_es 1348 dL_law_33 (by decide +kernel) (fun q hq _ => ?_) (fun _ => zz_widen (by omega) (by omega) (hZ _ _ _ _ hx hS hv.p))
    revert q
    unfold k_es
    refine List.forall_mem_cons.mpr ⟨fun _ => k_rule hs hi6 hL hc' hk' hj' hx hS hv hZ, ?_⟩
    refine List.forall_mem_cons.mpr ⟨fun _ => k_way hs hi6 hL hc' hk' hj' hx hS hv hZ, ?_⟩
    refine List.forall_mem_cons.mpr ⟨fun _ => k_ofWay hs hi6 hL hc' hk' hj' hx hS hv hZ, ?_⟩
    refine List.forall_mem_cons.mpr ⟨fun _ => k_change hs hi6 hL hc' hk' hj' hx hS hv hZ, ?_⟩
    refine List.forall_mem_cons.mpr ⟨fun _ => k_become hs hi6 hL hc' hk' hj' hx hS hv hZ, ?_⟩
    refine List.forall_mem_cons.mpr ⟨fun _ => k_as hs hi6 hL hc' hk' hj' hx hS hv hZ, ?_⟩
    refine List.forall_mem_cons.mpr ⟨fun _ => k_feed hs hi6 hL hc' hk' hj' hx hS hv hZ, ?_⟩
    refine List.forall_mem_cons.mpr ⟨fun _ => k_text hs hi6 hL hc' hk' hj' hx hS hv hZ, ?_⟩
    refine List.forall_mem_cons.mpr ⟨fun _ => k_law hs hi6 hL hc' hk' hj' hx hS hv hZ, ?_⟩
    refine List.forall_mem_cons.mpr ⟨fun _ => k_ask hs hi6 hL hc' hk' hj' hx hS hv hZ, ?_⟩
    refine List.forall_mem_cons.mpr ⟨fun _ => k_ofCode hs hi6 hL hc' hk' hj' hx hS hv hZ, ?_⟩
    refine List.forall_mem_cons.mpr ⟨fun _ => k_enter hs hi6 hL hc' hk' hj' hx hS hv hZ, ?_⟩
    refine List.forall_mem_cons.mpr ⟨fun _ => k_pass hs hi6 hL hc' hk' hj' hx hS hv hZ, ?_⟩
    refine List.forall_mem_cons.mpr ⟨fun _ => k_loose hs hi6 hL hc' hk' hj' hx hS hv hZ, ?_⟩
    refine List.forall_mem_cons.mpr ⟨fun _ => k_fetched hs hi6 hL hc' hk' hj' hx hS hv hZ, ?_⟩
    refine List.forall_mem_cons.mpr ⟨fun _ => k_holdFor hs hi6 hL hc' hk' hj' hx hS hv hZ, ?_⟩
    refine List.forall_mem_cons.mpr ⟨fun _ => k_fastest hs hi6 hL hc' hk' hj' hx hS hv hZ, ?_⟩
    refine List.forall_mem_cons.mpr ⟨fun _ => k_figuresFor hs hi6 hL hc' hk' hj' hx hS hv hZ, ?_⟩
    refine List.forall_mem_cons.mpr ⟨fun _ => k_counting hs hi6 hL hc' hk' hj' hx hS hv hZ, ?_⟩
    refine List.forall_mem_cons.mpr ⟨fun _ => k_crossed hs hi6 hL hc' hk' hj' hx hS hv hZ, ?_⟩
    refine List.forall_mem_cons.mpr ⟨fun _ => k_atOnce hs hi6 hL hc' hk' hj' hx hS hv hZ, ?_⟩
    refine List.forall_mem_cons.mpr ⟨fun _ => k_together hs hi6 hL hc' hk' hj' hx hS hv hZ, ?_⟩
    refine List.forall_mem_cons.mpr ⟨fun _ => k_waitFor hs hi6 hL hc' hk' hj' hx hS hv hZ, ?_⟩
    refine List.forall_mem_cons.mpr ⟨fun _ => k_which hs hi6 hL hc' hk' hj' hx hS hv hZ, ?_⟩
    refine List.forall_mem_cons.mpr ⟨fun _ => k_guess hs hi6 hL hc' hk' hj' hx hS hv hZ, ?_⟩
    refine List.forall_mem_cons.mpr ⟨fun _ => k_odds hs hi6 hL hc' hk' hj' hx hS hv hZ, ?_⟩
    refine List.forall_mem_cons.mpr ⟨fun _ => k_seed hs hi6 hL hc' hk' hj' hx hS hv hZ, ?_⟩
    refine List.forall_mem_cons.mpr ⟨fun _ => k_voice hs hi6 hL hc' hk' hj' hx hS hv hZ, ?_⟩
    refine List.forall_mem_cons.mpr ⟨fun _ => k_trace hs hi6 hL hc' hk' hj' hx hS hv hZ, ?_⟩
    refine List.forall_mem_cons.mpr ⟨fun _ => k_sheet hs hi6 hL hc' hk' hj' hx hS hv hZ, ?_⟩
    refine List.forall_mem_cons.mpr ⟨fun _ => k_put hs hi6 hL hc' hk' hj' hx hS hv hZ, ?_⟩
    refine List.forall_mem_cons.mpr ⟨fun _ => k_move hs hi6 hL hc' hk' hj' hx hS hv hZ, ?_⟩
    refine List.forall_mem_cons.mpr ⟨fun _ => k_fars hs hi6 hL hc' hk' hj' hx hS hv hZ, ?_⟩
    refine List.forall_mem_cons.mpr ⟨fun _ => k_judge hs hi6 hL hc' hk' hj' hx hS hv hZ, ?_⟩
    refine List.forall_mem_cons.mpr ⟨fun _ => k_image hs hi6 hL hc' hk' hj' hx hS hv hZ, ?_⟩
    refine List.forall_mem_cons.mpr ⟨fun _ => k_restore hs hi6 hL hc' hk' hj' hx hS hv hZ, ?_⟩
    refine List.forall_mem_cons.mpr ⟨fun _ => k_tell hs hi6 hL hc' hk' hj' hx hS hv hZ, ?_⟩
    refine List.forall_mem_cons.mpr ⟨fun _ => k_check hs hi6 hL hc' hk' hj' hx hS hv hZ, ?_⟩
    refine List.forall_mem_cons.mpr ⟨fun _ => k_count hs hi6 hL hc' hk' hj' hx hS hv hZ, ?_⟩
    refine List.forall_mem_cons.mpr ⟨fun _ => k_told hs hi6 hL hc' hk' hj' hx hS hv hZ, ?_⟩
    exact fun _ h => absurd h List.not_mem_nil
theorem wi_0 {x : Int32} {hi : Nat} (h : x = 0) : wi x 0 hi := ⟨0, Nat.le_refl _, Nat.zero_le _, h⟩
theorem iv_si : iv si_ 0 := by
  refine ⟨⟨⟨wi_0 rfl, wi_0 rfl, wi_0 rfl, wi_0 rfl, wi_0 rfl, ⟨6, by decide, by decide, rfl⟩, ⟨30, by decide, by decide, rfl⟩, ⟨3, by decide, by decide, rfl⟩, ⟨3600, by decide, by decide, rfl⟩⟩, fun w hw => ⟨wi_0 (si_z (by omega)), wi_0 (si_z (by omega)), wi_0 (si_z (by omega)), wi_0 (si_z (by omega)), wi_0 (si_z (by omega))⟩, fun j hj => wi_0 (si_z (by omega))⟩, fun s hs => ⟨0, Nat.zero_le _, si_o (by decide)⟩, ⟨0, Nat.zero_le _, si_o (by decide)⟩, ⟨0, Nat.le_refl _, si_z (by decide)⟩, fun h => absurd (si_o (by decide)) h⟩
set_option maxRecDepth 100000 in
set_option maxHeartbeats 4000000 in
theorem law_in {C : zz_C} {d Ls : Nat} {xs : Nat → Int32} (hs : zz_sx C Ls xs) (hL : Ls ≤ 3072) : zz_Z C mi_L (d + 60) 600000 7302250 0 0 0 [some (.ref (1000000 + 30)), none, none, none] [] (fun _ _ => 0) (fun _ _ => none) 0 k_Q := by
  refine zz_newO cf_X11 dv_X11 kl_L_7 ki_X11 kn_X11 (by decide) rfl (by decide) (by decide) dL_law_0 ?_
  refine zz_dup dL_law_3 rfl ?_
  refine zz_callI0 (Or.inr kc_L_9) (Nat.le_of_ble_eq_true rfl) (by decide) (by decide) dL_law_4 (t_X11_init rfl fun g1 r1 h1 => ⟨rfl, ?_⟩)
  refine zz_astore_1 dL_law_7 rfl rfl ?_
  refine zz_newO cf_X12 dv_X12 kl_L_10 ki_X12 kn_X12 (by decide) rfl (by decide) (by decide) dL_law_8 ?_
  refine zz_dup dL_law_11 rfl ?_
  refine zz_callI0 (Or.inr kc_L_12) (Nat.le_of_ble_eq_true rfl) (by decide) (by decide) dL_law_12 (t_X12_init fun g2 r2 h2 => ⟨rfl, ?_⟩)
  refine zz_astore_2 dL_law_15 rfl rfl ?_
  refine zz_iconst 0 dL_law_16 (by decide) ?_
  refine zz_istore_3 dL_law_17 rfl rfl ?_
  obtain ⟨p1, p2, p3, p4, p5, p6, p7⟩ := h1
  obtain ⟨q1, ⟨s0, s1, s2, s5, s14, s15, s16, s17, s18⟩, q3, q4, q5⟩ := h2
  have eg : ∀ k, k < 50 → g2 k = g1 k := fun k hk => (q1 k (Or.inl hk)).1.trans (zz_n0_row _ (by omega))
  have er : ∀ k, (k < 50 ∨ k = 998) → r2 k = r1 k := fun k hk => (q1 k hk).2.trans (zz_nr_row _ (by omega))
  have hx : x_rel si_ g2 r2 60 := by
    refine ⟨?_, ?_, ⟨fun c => c, fun c hc => ⟨hc, ?_⟩, fun c c' _ _ e => e, fun c j hc hj => ?_⟩, fun u hu => Or.inl ?_, Or.inl ⟨si_o (by decide), ?_, rfl⟩⟩
    · intro q hq
      have h5 := List.all_eq_true.mp (show xr_l.all (fun q => decide (q.1 < 50 ∨ q.1 = 998) || decide (q ∈ ([(50, 0, 51), (50, 1, 52), (50, 2, 53), (50, 5, 54), (50, 14, 55), (50, 15, 56), (50, 16, 57), (50, 17, 58), (50, 18, 59)] : List (Nat × Nat × Nat)))) = true by decide +kernel) q hq
      rw [Bool.or_eq_true, decide_eq_true_eq, decide_eq_true_eq] at h5
      rcases h5 with h5 | h5
      · rw [er _ h5]
        exact p2 q hq h5
      · simp only [List.mem_cons, List.not_mem_nil, or_false] at h5
        rcases h5 with rfl | rfl | rfl | rfl | rfl | rfl | rfl | rfl | rfl <;> assumption
    · intro q hq i hi
      have hq5 : q.1 < 50 := of_decide_eq_true (List.all_eq_true.mp (show xq_l.all (fun p => decide (p.1 < 50)) = true by decide +kernel) q hq)
      rw [eg _ hq5]
      exact p1 q hq i hi
    · show r2 10 c = some (11 + c)
      rw [er 10 (by decide)]
      exact p4 c hc
    · show g2 (11 + c) j = _
      rw [eg _ (by omega), p5 c j hc, si_z (by omega)]
    · rcases (show u = 0 ∨ u = 1 by omega) with rfl | rfl
      · exact ⟨by decide, by rw [eg _ (by decide)]; exact p6⟩
      · exact ⟨by decide, by rw [eg _ (by decide)]; exact p7⟩
    · rw [er 0 (by decide)]
      exact p3
  have hS : ms_S g2 = si_ := by
    funext k j
    by_cases e : ms_k k j = true
    · rw [ms_at e]
      by_cases h51 : k = 51
      · subst h51
        exact q3 j
      · rw [si_o h51]
        by_cases h50 : k = 50
        · subst h50
          rw [q4, zz_n0_same]
        · refine q5 k j ?_
          simp only [ms_k, Bool.or_eq_true, Bool.and_eq_true, beq_iff_eq] at e
          omega
    · have h51 : k ≠ 51 := by
        intro h
        subst h
        exact e rfl
      rw [si_o h51]
      exact if_neg e
  exact law_loop hs hL 512 0 0 _ _ 60 si_ g2 r2 (by omega) (by omega) (by decide) (by decide) (by decide) hx hS iv_si