theorem pz_lp_no {b : Nat → Int32} {step : Nat → pz_T} {lv f q : Nat} {v : Int32} {cs : List Int32} (h : ¬ pz_is lv (b q)) : pz_lp b step lv f q v cs = (true, q, v, cs) := by
  cases f with
  | zero => rfl
  | succ f => rw [pz_lp, if_neg h]
theorem pz_lp_go {b : Nat → Int32} {step : Nat → pz_T} {lv f q : Nat} {v V : Int32} {cs : List Int32} {res : pz_T} (hop : pz_is lv (b q)) (hs : (step (q + 1)).1 = true) (he : pz_lp b step lv (f + 1) q v cs = res) (hV : pz_op (b q) v (step (q + 1)).2.2.1 = V) : pz_lp b step lv f (step (q + 1)).2.1 V (cs ++ ((step (q + 1)).2.2.2 ++ [-(b q)])) = res := by
  subst hV
  rw [← he, pz_lp, if_pos hop, if_pos hs]
theorem pz_lp_bad {b : Nat → Int32} {step : Nat → pz_T} {lv f q : Nat} {v : Int32} {cs : List Int32} {res : pz_T} (hop : pz_is lv (b q)) (hs : (step (q + 1)).1 = false) (he : pz_lp b step lv (f + 1) q v cs = res) : res = (false, (step (q + 1)).2.1, 0, []) := by
  rw [← he, pz_lp, if_pos hop, if_neg (by rw [hs]; decide)]
/-- what a method that reads does, from any place -/
def pz_S (C : zz_C) (M : zz_M) (D : Nat) (g : zz_G) (r : zz_R) (n o len : Nat) (step : Nat → pz_T) : Prop := ∀ (d k : Nat) (Q : zz_Q), D ≤ d → k ≤ len → ((step k).1 = true → Q (some (.int (step k).2.2.1)) (pm_ g (step k).2.1 o 1) r n) → ((step k).1 = false → ∀ v, Q (some (.int v)) (pm_ g (step k).2.1 o 0) r n) → zz_T C M d 0 0 [.ref 50] (pm_ g k o 1) r n Q

set_option maxRecDepth 100000 in
set_option maxHeartbeats 4000000 in
theorem x_X12_product {C : zz_C} {d n : Nat} {g : zz_G} {r : zz_R} {Q : zz_Q} (hn : 60 ≤ n) {v : Int32} {q o : Nat} {t2 t3 : Option Value} (h : Q (some (.int v)) (pm_ g q o 0) r n) : zz_Z C mi_X12_product (d + 1) 0 0 0 0 5 [some (.ref 50), some (.int v), t2, t3] [] (pm_ g q o 0) r n Q := by
  refine zz_aload_0 dX12_product_5 ?_
  refine zz_getI fl_X12_84 rfl rfl (Nat.lt_of_lt_of_le (by decide) hn) dX12_product_6 ?_
  rw [pm_g]
  refine zz_if_eq 114 dX12_product_9 (by decide) (fun _ => ?_) (fun h => absurd h (by decide))
  refine zz_iload_1 dX12_product_114 ?_
  refine zz_iret rfl dX12_product_115 (by decide) (by decide) ?_
  exact h

set_option maxRecDepth 100000 in
set_option maxHeartbeats 4000000 in
theorem l_X12_product {C : zz_C} {d n : Nat} {g : zz_G} {r : zz_R} {Q : zz_Q} (hn : 60 ≤ n) (hr : xr r) {u len : Nat} (hu : g 50 6 = nI u) (hu2 : u < 2) (hl : g 50 8 = nI len) (hl5 : len ≤ 50) {D o : Nat} (hD : D ≤ d) {step : Nat → pz_T} (hs : pz_ok len step) (hf : pz_S C mi_X12_factor D g r n o len step) {res : pz_T} (h1 : res.1 = true → Q (some (.int res.2.2.1)) (pm_ g res.2.1 o 1) r n) (h0 : res.1 = false → ∀ v, Q (some (.int v)) (pm_ g res.2.1 o 0) r n) : ∀ (k : Nat) (t2 t3 : Option Value) (f q : Nat) (v : Int32) (cs : List Int32), q ≤ len → 51 ≤ q + f → f < k → pz_lp (pz_b (g 51) u len) step 4 f q v cs = res → zz_Z C mi_X12_product (d + 1) 0 0 0 0 5 [some (.ref 50), some (.int v), t2, t3] [] (pm_ g q o 1) r n Q := by
  intro k
  induction k with
  | zero => intro t2 t3 f q v cs hq hqf hk he; exact absurd hk (by omega)
  | succ k ih =>
    intro t2 t3 f q v cs hq hqf hk he
    refine zz_aload_0 dX12_product_5 ?_
    refine zz_getI fl_X12_84 rfl rfl (Nat.lt_of_lt_of_le (by decide) hn) dX12_product_6 ?_
    rw [pm_g]
    refine zz_if_eq 114 dX12_product_9 (by decide) (fun h => absurd h (by decide)) (fun _ => ?_)
    refine zz_aload_0 dX12_product_12 ?_
    refine zz_aload_0 dX12_product_13 ?_
    refine zz_getI fl_X12_88 rfl rfl (Nat.lt_of_lt_of_le (by decide) hn) dX12_product_14 ?_
    refine zz_callV1i cv_X12_91 rfl (Nat.lt_of_lt_of_le (by decide) hn) (Nat.le_of_ble_eq_true rfl) (by decide) (by decide) dX12_product_17 (t_X12_byteAt hn hr hu hu2 hl hl5 q (pm_k g q o 1) (by omega) ⟨_, rfl, ?_⟩)
    refine zz_bipush (42) dX12_product_20 (by decide) ?_
    refine zz_icmp_eq 51 dX12_product_22 (by decide) (fun c_22 => ?_) (fun c_22 => ?_)
    · skip
      refine zz_aload_0 dX12_product_51 ?_
      refine zz_aload_0 dX12_product_52 ?_
      refine zz_getI fl_X12_88 rfl rfl (Nat.lt_of_lt_of_le (by decide) hn) dX12_product_53 ?_
      refine zz_callV1i cv_X12_91 rfl (Nat.lt_of_lt_of_le (by decide) hn) (Nat.le_of_ble_eq_true rfl) (by decide) (by decide) dX12_product_56 (t_X12_byteAt hn hr hu hu2 hl hl5 q (pm_k g q o 1) (by omega) ⟨_, rfl, ?_⟩)
      refine zz_istore_2 dX12_product_59 rfl rfl ?_
      refine zz_aload_0 dX12_product_60 ?_
      have hop : pz_is 4 (pz_b (g 51) u len q) := by simp (decide := true) only [pz_is, c_22, or_self, or_false, false_or, or_true, true_or, and_true, true_and, and_false, false_and, and_self, not_true_eq_false, not_false_eq_true, ↓reduceIte]
      have hqlt : q + 1 ≤ len := pz_is_in hop
      obtain ⟨f, rfl⟩ : ∃ f2, f = f2 + 1 := ⟨f - 1, by omega⟩
      refine zz_dup dX12_product_61 rfl ?_
      refine zz_getI fl_X12_88 rfl rfl (Nat.lt_of_lt_of_le (by decide) hn) dX12_product_62 ?_
      refine zz_iconst (1) dX12_product_65 (by decide) ?_
      refine zz_iadd dX12_product_66 ?_
      refine zz_putI fl_X12_88 rfl rfl (Nat.lt_of_lt_of_le (by decide) hn) dX12_product_67 ?_
      rw [pm_k, nI_1, pm_uk]
      refine zz_aload_0 dX12_product_70 ?_
      refine zz_callV0i cv_X12_119 rfl (Nat.lt_of_lt_of_le (by decide) hn) (Nat.le_of_ble_eq_true rfl) (by decide) (by decide) dX12_product_71 (hf d (q + 1) _ hD hqlt (fun s_71 => ⟨_, rfl, ?_⟩) (fun s_71 v_71 => ⟨_, rfl, ?_⟩))
      · skip
        refine zz_istore_3 dX12_product_74 rfl rfl ?_
        refine zz_iload_2 dX12_product_75 ?_
        refine zz_bipush (42) dX12_product_76 (by decide) ?_
        refine zz_icmp_ne 87 dX12_product_78 (by decide) (fun c_78 => ?_) (fun c_78 => ?_)
        · skip
          refine zz_iload_3 dX12_product_87 ?_
          refine zz_if_ne 95 dX12_product_88 (by decide) (fun c_88 => ?_) (fun c_88 => ?_)
          · skip
            refine zz_iload_2 dX12_product_95 ?_
            refine zz_bipush (47) dX12_product_96 (by decide) ?_
            refine zz_icmp_ne 107 dX12_product_98 (by decide) (fun c_98 => ?_) (fun c_98 => ?_)
            · skip
              refine zz_iload_1 dX12_product_107 ?_
              refine zz_iload_3 dX12_product_108 ?_
              refine zz_irem dX12_product_109 c_88 ?_
              refine zz_istore_1 dX12_product_110 rfl rfl ?_
              refine zz_goto 5 dX12_product_111 (by decide) ?_
              first
                | exact absurd c_22 c_78
                | exact absurd c_78 c_22
                | exact absurd (c_22.symm.trans c_78) (by decide)
                | exact absurd c_22 c_88
                | exact absurd c_88 c_22
                | exact absurd (c_22.symm.trans c_88) (by decide)
                | exact absurd c_22 c_98
                | exact absurd c_98 c_22
                | exact absurd (c_22.symm.trans c_98) (by decide)
                | exact absurd c_78 c_88
                | exact absurd c_88 c_78
                | exact absurd (c_78.symm.trans c_88) (by decide)
                | exact absurd c_78 c_98
                | exact absurd c_98 c_78
                | exact absurd (c_78.symm.trans c_98) (by decide)
                | exact absurd c_88 c_98
                | exact absurd c_98 c_88
                | exact absurd (c_88.symm.trans c_98) (by decide)
                | exact ih _ _ f _ _ _ (hs (q + 1) hqlt).2.1 (by have := (hs (q + 1) hqlt).1; omega) (by omega) (pz_lp_go hop s_71 he (by simp (decide := true) only [pz_op, c_22, c_78, c_88, c_98, or_self, or_false, false_or, or_true, true_or, and_true, true_and, and_false, false_and, and_self, not_true_eq_false, not_false_eq_true, ↓reduceIte]))
            · skip
              refine zz_iload_1 dX12_product_101 ?_
              refine zz_iload_3 dX12_product_102 ?_
              refine zz_idiv dX12_product_103 c_88 ?_
              refine zz_goto 110 dX12_product_104 (by decide) ?_
              refine zz_istore_1 dX12_product_110 rfl rfl ?_
              refine zz_goto 5 dX12_product_111 (by decide) ?_
              first
                | exact absurd c_22 c_78
                | exact absurd c_78 c_22
                | exact absurd (c_22.symm.trans c_78) (by decide)
                | exact absurd c_22 c_88
                | exact absurd c_88 c_22
                | exact absurd (c_22.symm.trans c_88) (by decide)
                | exact absurd c_22 c_98
                | exact absurd c_98 c_22
                | exact absurd (c_22.symm.trans c_98) (by decide)
                | exact absurd c_78 c_88
                | exact absurd c_88 c_78
                | exact absurd (c_78.symm.trans c_88) (by decide)
                | exact absurd c_78 c_98
                | exact absurd c_98 c_78
                | exact absurd (c_78.symm.trans c_98) (by decide)
                | exact absurd c_88 c_98
                | exact absurd c_98 c_88
                | exact absurd (c_88.symm.trans c_98) (by decide)
                | exact ih _ _ f _ _ _ (hs (q + 1) hqlt).2.1 (by have := (hs (q + 1) hqlt).1; omega) (by omega) (pz_lp_go hop s_71 he (by simp (decide := true) only [pz_op, c_22, c_78, c_88, c_98, or_self, or_false, false_or, or_true, true_or, and_true, true_and, and_false, false_and, and_self, not_true_eq_false, not_false_eq_true, ↓reduceIte]))
          · skip
            refine zz_iconst (0) dX12_product_91 (by decide) ?_
            refine zz_goto 110 dX12_product_92 (by decide) ?_
            refine zz_istore_1 dX12_product_110 rfl rfl ?_
            refine zz_goto 5 dX12_product_111 (by decide) ?_
            first
              | exact absurd c_22 c_78
              | exact absurd c_78 c_22
              | exact absurd (c_22.symm.trans c_78) (by decide)
              | exact absurd c_22 c_88
              | exact absurd c_88 c_22
              | exact absurd (c_22.symm.trans c_88) (by decide)
              | exact absurd c_78 c_88
              | exact absurd c_88 c_78
              | exact absurd (c_78.symm.trans c_88) (by decide)
              | exact ih _ _ f _ _ _ (hs (q + 1) hqlt).2.1 (by have := (hs (q + 1) hqlt).1; omega) (by omega) (pz_lp_go hop s_71 he (by simp (decide := true) only [pz_op, c_22, c_78, c_88, or_self, or_false, false_or, or_true, true_or, and_true, true_and, and_false, false_and, and_self, not_true_eq_false, not_false_eq_true, ↓reduceIte]))
        · skip
          refine zz_iload_1 dX12_product_81 ?_
          refine zz_iload_3 dX12_product_82 ?_
          refine zz_imul dX12_product_83 ?_
          refine zz_goto 110 dX12_product_84 (by decide) ?_
          refine zz_istore_1 dX12_product_110 rfl rfl ?_
          refine zz_goto 5 dX12_product_111 (by decide) ?_
          first
            | exact absurd c_22 c_78
            | exact absurd c_78 c_22
            | exact absurd (c_22.symm.trans c_78) (by decide)
            | exact ih _ _ f _ _ _ (hs (q + 1) hqlt).2.1 (by have := (hs (q + 1) hqlt).1; omega) (by omega) (pz_lp_go hop s_71 he (by simp (decide := true) only [pz_op, c_22, c_78, or_self, or_false, false_or, or_true, true_or, and_true, true_and, and_false, false_and, and_self, not_true_eq_false, not_false_eq_true, ↓reduceIte]))
      · skip
        refine zz_istore_3 dX12_product_74 rfl rfl ?_
        refine zz_iload_2 dX12_product_75 ?_
        refine zz_bipush (42) dX12_product_76 (by decide) ?_
        refine zz_icmp_ne 87 dX12_product_78 (by decide) (fun c_78 => ?_) (fun c_78 => ?_)
        · skip
          refine zz_iload_3 dX12_product_87 ?_
          refine zz_if_ne 95 dX12_product_88 (by decide) (fun c_88 => ?_) (fun c_88 => ?_)
          · skip
            refine zz_iload_2 dX12_product_95 ?_
            refine zz_bipush (47) dX12_product_96 (by decide) ?_
            refine zz_icmp_ne 107 dX12_product_98 (by decide) (fun c_98 => ?_) (fun c_98 => ?_)
            · skip
              refine zz_iload_1 dX12_product_107 ?_
              refine zz_iload_3 dX12_product_108 ?_
              refine zz_irem dX12_product_109 c_88 ?_
              refine zz_istore_1 dX12_product_110 rfl rfl ?_
              refine zz_goto 5 dX12_product_111 (by decide) ?_
              refine x_X12_product hn ?_
              rw [pz_lp_bad hop s_71 he] at h0
              exact h0 rfl _
            · skip
              refine zz_iload_1 dX12_product_101 ?_
              refine zz_iload_3 dX12_product_102 ?_
              refine zz_idiv dX12_product_103 c_88 ?_
              refine zz_goto 110 dX12_product_104 (by decide) ?_
              refine zz_istore_1 dX12_product_110 rfl rfl ?_
              refine zz_goto 5 dX12_product_111 (by decide) ?_
              refine x_X12_product hn ?_
              rw [pz_lp_bad hop s_71 he] at h0
              exact h0 rfl _
          · skip
            refine zz_iconst (0) dX12_product_91 (by decide) ?_
            refine zz_goto 110 dX12_product_92 (by decide) ?_
            refine zz_istore_1 dX12_product_110 rfl rfl ?_
            refine zz_goto 5 dX12_product_111 (by decide) ?_
            refine x_X12_product hn ?_
            rw [pz_lp_bad hop s_71 he] at h0
            exact h0 rfl _
        · skip
          refine zz_iload_1 dX12_product_81 ?_
          refine zz_iload_3 dX12_product_82 ?_
          refine zz_imul dX12_product_83 ?_
          refine zz_goto 110 dX12_product_84 (by decide) ?_
          refine zz_istore_1 dX12_product_110 rfl rfl ?_
          refine zz_goto 5 dX12_product_111 (by decide) ?_
          refine x_X12_product hn ?_
          rw [pz_lp_bad hop s_71 he] at h0
          exact h0 rfl _
    · skip
      refine zz_aload_0 dX12_product_25 ?_
      refine zz_aload_0 dX12_product_26 ?_
      refine zz_getI fl_X12_88 rfl rfl (Nat.lt_of_lt_of_le (by decide) hn) dX12_product_27 ?_
      refine zz_callV1i cv_X12_91 rfl (Nat.lt_of_lt_of_le (by decide) hn) (Nat.le_of_ble_eq_true rfl) (by decide) (by decide) dX12_product_30 (t_X12_byteAt hn hr hu hu2 hl hl5 q (pm_k g q o 1) (by omega) ⟨_, rfl, ?_⟩)
      refine zz_bipush (47) dX12_product_33 (by decide) ?_
      refine zz_icmp_eq 51 dX12_product_35 (by decide) (fun c_35 => ?_) (fun c_35 => ?_)
      · skip
        refine zz_aload_0 dX12_product_51 ?_
        refine zz_aload_0 dX12_product_52 ?_
        refine zz_getI fl_X12_88 rfl rfl (Nat.lt_of_lt_of_le (by decide) hn) dX12_product_53 ?_
        refine zz_callV1i cv_X12_91 rfl (Nat.lt_of_lt_of_le (by decide) hn) (Nat.le_of_ble_eq_true rfl) (by decide) (by decide) dX12_product_56 (t_X12_byteAt hn hr hu hu2 hl hl5 q (pm_k g q o 1) (by omega) ⟨_, rfl, ?_⟩)
        refine zz_istore_2 dX12_product_59 rfl rfl ?_
        refine zz_aload_0 dX12_product_60 ?_
        have hop : pz_is 4 (pz_b (g 51) u len q) := by simp (decide := true) only [pz_is, c_22, c_35, or_self, or_false, false_or, or_true, true_or, and_true, true_and, and_false, false_and, and_self, not_true_eq_false, not_false_eq_true, ↓reduceIte]
        have hqlt : q + 1 ≤ len := pz_is_in hop
        obtain ⟨f, rfl⟩ : ∃ f2, f = f2 + 1 := ⟨f - 1, by omega⟩
        refine zz_dup dX12_product_61 rfl ?_
        refine zz_getI fl_X12_88 rfl rfl (Nat.lt_of_lt_of_le (by decide) hn) dX12_product_62 ?_
        refine zz_iconst (1) dX12_product_65 (by decide) ?_
        refine zz_iadd dX12_product_66 ?_
        refine zz_putI fl_X12_88 rfl rfl (Nat.lt_of_lt_of_le (by decide) hn) dX12_product_67 ?_
        rw [pm_k, nI_1, pm_uk]
        refine zz_aload_0 dX12_product_70 ?_
        refine zz_callV0i cv_X12_119 rfl (Nat.lt_of_lt_of_le (by decide) hn) (Nat.le_of_ble_eq_true rfl) (by decide) (by decide) dX12_product_71 (hf d (q + 1) _ hD hqlt (fun s_71 => ⟨_, rfl, ?_⟩) (fun s_71 v_71 => ⟨_, rfl, ?_⟩))
        · skip
          refine zz_istore_3 dX12_product_74 rfl rfl ?_
          refine zz_iload_2 dX12_product_75 ?_
          refine zz_bipush (42) dX12_product_76 (by decide) ?_
          refine zz_icmp_ne 87 dX12_product_78 (by decide) (fun c_78 => ?_) (fun c_78 => ?_)
          · skip
            refine zz_iload_3 dX12_product_87 ?_
            refine zz_if_ne 95 dX12_product_88 (by decide) (fun c_88 => ?_) (fun c_88 => ?_)
            · skip
              refine zz_iload_2 dX12_product_95 ?_
              refine zz_bipush (47) dX12_product_96 (by decide) ?_
              refine zz_icmp_ne 107 dX12_product_98 (by decide) (fun c_98 => ?_) (fun c_98 => ?_)
              · skip
                refine zz_iload_1 dX12_product_107 ?_
                refine zz_iload_3 dX12_product_108 ?_
                refine zz_irem dX12_product_109 c_88 ?_
                refine zz_istore_1 dX12_product_110 rfl rfl ?_
                refine zz_goto 5 dX12_product_111 (by decide) ?_
                first
                  | exact absurd c_22 c_35
                  | exact absurd c_35 c_22
                  | exact absurd (c_22.symm.trans c_35) (by decide)
                  | exact absurd c_22 c_78
                  | exact absurd c_78 c_22
                  | exact absurd (c_22.symm.trans c_78) (by decide)
                  | exact absurd c_22 c_88
                  | exact absurd c_88 c_22
                  | exact absurd (c_22.symm.trans c_88) (by decide)
                  | exact absurd c_22 c_98
                  | exact absurd c_98 c_22
                  | exact absurd (c_22.symm.trans c_98) (by decide)
                  | exact absurd c_35 c_78
                  | exact absurd c_78 c_35
                  | exact absurd (c_35.symm.trans c_78) (by decide)
                  | exact absurd c_35 c_88
                  | exact absurd c_88 c_35
                  | exact absurd (c_35.symm.trans c_88) (by decide)
                  | exact absurd c_35 c_98
                  | exact absurd c_98 c_35
                  | exact absurd (c_35.symm.trans c_98) (by decide)
                  | exact absurd c_78 c_88
                  | exact absurd c_88 c_78
                  | exact absurd (c_78.symm.trans c_88) (by decide)
                  | exact absurd c_78 c_98
                  | exact absurd c_98 c_78
                  | exact absurd (c_78.symm.trans c_98) (by decide)
                  | exact absurd c_88 c_98
                  | exact absurd c_98 c_88
                  | exact absurd (c_88.symm.trans c_98) (by decide)
                  | exact ih _ _ f _ _ _ (hs (q + 1) hqlt).2.1 (by have := (hs (q + 1) hqlt).1; omega) (by omega) (pz_lp_go hop s_71 he (by simp (decide := true) only [pz_op, c_22, c_35, c_78, c_88, c_98, or_self, or_false, false_or, or_true, true_or, and_true, true_and, and_false, false_and, and_self, not_true_eq_false, not_false_eq_true, ↓reduceIte]))
              · skip
                refine zz_iload_1 dX12_product_101 ?_
                refine zz_iload_3 dX12_product_102 ?_
                refine zz_idiv dX12_product_103 c_88 ?_
                refine zz_goto 110 dX12_product_104 (by decide) ?_
                refine zz_istore_1 dX12_product_110 rfl rfl ?_
                refine zz_goto 5 dX12_product_111 (by decide) ?_
                first
                  | exact absurd c_22 c_35
                  | exact absurd c_35 c_22
                  | exact absurd (c_22.symm.trans c_35) (by decide)
                  | exact absurd c_22 c_78
                  | exact absurd c_78 c_22
                  | exact absurd (c_22.symm.trans c_78) (by decide)
                  | exact absurd c_22 c_88
                  | exact absurd c_88 c_22
                  | exact absurd (c_22.symm.trans c_88) (by decide)
                  | exact absurd c_22 c_98
                  | exact absurd c_98 c_22
                  | exact absurd (c_22.symm.trans c_98) (by decide)
                  | exact absurd c_35 c_78
                  | exact absurd c_78 c_35
                  | exact absurd (c_35.symm.trans c_78) (by decide)
                  | exact absurd c_35 c_88
                  | exact absurd c_88 c_35
                  | exact absurd (c_35.symm.trans c_88) (by decide)
                  | exact absurd c_35 c_98
                  | exact absurd c_98 c_35
                  | exact absurd (c_35.symm.trans c_98) (by decide)
                  | exact absurd c_78 c_88
                  | exact absurd c_88 c_78
                  | exact absurd (c_78.symm.trans c_88) (by decide)
                  | exact absurd c_78 c_98
                  | exact absurd c_98 c_78
                  | exact absurd (c_78.symm.trans c_98) (by decide)
                  | exact absurd c_88 c_98
                  | exact absurd c_98 c_88
                  | exact absurd (c_88.symm.trans c_98) (by decide)
                  | exact ih _ _ f _ _ _ (hs (q + 1) hqlt).2.1 (by have := (hs (q + 1) hqlt).1; omega) (by omega) (pz_lp_go hop s_71 he (by simp (decide := true) only [pz_op, c_22, c_35, c_78, c_88, c_98, or_self, or_false, false_or, or_true, true_or, and_true, true_and, and_false, false_and, and_self, not_true_eq_false, not_false_eq_true, ↓reduceIte]))
            · skip
              refine zz_iconst (0) dX12_product_91 (by decide) ?_
              refine zz_goto 110 dX12_product_92 (by decide) ?_
              refine zz_istore_1 dX12_product_110 rfl rfl ?_
              refine zz_goto 5 dX12_product_111 (by decide) ?_
              first
                | exact absurd c_22 c_35
                | exact absurd c_35 c_22
                | exact absurd (c_22.symm.trans c_35) (by decide)
                | exact absurd c_22 c_78
                | exact absurd c_78 c_22
                | exact absurd (c_22.symm.trans c_78) (by decide)
                | exact absurd c_22 c_88
                | exact absurd c_88 c_22
                | exact absurd (c_22.symm.trans c_88) (by decide)
                | exact absurd c_35 c_78
                | exact absurd c_78 c_35
                | exact absurd (c_35.symm.trans c_78) (by decide)
                | exact absurd c_35 c_88
                | exact absurd c_88 c_35
                | exact absurd (c_35.symm.trans c_88) (by decide)
                | exact absurd c_78 c_88
                | exact absurd c_88 c_78
                | exact absurd (c_78.symm.trans c_88) (by decide)
                | exact ih _ _ f _ _ _ (hs (q + 1) hqlt).2.1 (by have := (hs (q + 1) hqlt).1; omega) (by omega) (pz_lp_go hop s_71 he (by simp (decide := true) only [pz_op, c_22, c_35, c_78, c_88, or_self, or_false, false_or, or_true, true_or, and_true, true_and, and_false, false_and, and_self, not_true_eq_false, not_false_eq_true, ↓reduceIte]))
          · skip
            refine zz_iload_1 dX12_product_81 ?_
            refine zz_iload_3 dX12_product_82 ?_
            refine zz_imul dX12_product_83 ?_
            refine zz_goto 110 dX12_product_84 (by decide) ?_
            refine zz_istore_1 dX12_product_110 rfl rfl ?_
            refine zz_goto 5 dX12_product_111 (by decide) ?_
            first
              | exact absurd c_22 c_35
              | exact absurd c_35 c_22
              | exact absurd (c_22.symm.trans c_35) (by decide)
              | exact absurd c_22 c_78
              | exact absurd c_78 c_22
              | exact absurd (c_22.symm.trans c_78) (by decide)
              | exact absurd c_35 c_78
              | exact absurd c_78 c_35
              | exact absurd (c_35.symm.trans c_78) (by decide)
              | exact ih _ _ f _ _ _ (hs (q + 1) hqlt).2.1 (by have := (hs (q + 1) hqlt).1; omega) (by omega) (pz_lp_go hop s_71 he (by simp (decide := true) only [pz_op, c_22, c_35, c_78, or_self, or_false, false_or, or_true, true_or, and_true, true_and, and_false, false_and, and_self, not_true_eq_false, not_false_eq_true, ↓reduceIte]))
        · skip
          refine zz_istore_3 dX12_product_74 rfl rfl ?_
          refine zz_iload_2 dX12_product_75 ?_
          refine zz_bipush (42) dX12_product_76 (by decide) ?_
          refine zz_icmp_ne 87 dX12_product_78 (by decide) (fun c_78 => ?_) (fun c_78 => ?_)
          · skip
            refine zz_iload_3 dX12_product_87 ?_
            refine zz_if_ne 95 dX12_product_88 (by decide) (fun c_88 => ?_) (fun c_88 => ?_)
            · skip
              refine zz_iload_2 dX12_product_95 ?_
              refine zz_bipush (47) dX12_product_96 (by decide) ?_
              refine zz_icmp_ne 107 dX12_product_98 (by decide) (fun c_98 => ?_) (fun c_98 => ?_)
              · skip
                refine zz_iload_1 dX12_product_107 ?_
                refine zz_iload_3 dX12_product_108 ?_
                refine zz_irem dX12_product_109 c_88 ?_
                refine zz_istore_1 dX12_product_110 rfl rfl ?_
                refine zz_goto 5 dX12_product_111 (by decide) ?_
                refine x_X12_product hn ?_
                rw [pz_lp_bad hop s_71 he] at h0
                exact h0 rfl _
              · skip
                refine zz_iload_1 dX12_product_101 ?_
                refine zz_iload_3 dX12_product_102 ?_
                refine zz_idiv dX12_product_103 c_88 ?_
                refine zz_goto 110 dX12_product_104 (by decide) ?_
                refine zz_istore_1 dX12_product_110 rfl rfl ?_
                refine zz_goto 5 dX12_product_111 (by decide) ?_
                refine x_X12_product hn ?_
                rw [pz_lp_bad hop s_71 he] at h0
                exact h0 rfl _
            · skip
              refine zz_iconst (0) dX12_product_91 (by decide) ?_
              refine zz_goto 110 dX12_product_92 (by decide) ?_
              refine zz_istore_1 dX12_product_110 rfl rfl ?_
              refine zz_goto 5 dX12_product_111 (by decide) ?_
              refine x_X12_product hn ?_
              rw [pz_lp_bad hop s_71 he] at h0
              exact h0 rfl _
          · skip
            refine zz_iload_1 dX12_product_81 ?_
            refine zz_iload_3 dX12_product_82 ?_
            refine zz_imul dX12_product_83 ?_
            refine zz_goto 110 dX12_product_84 (by decide) ?_
            refine zz_istore_1 dX12_product_110 rfl rfl ?_
            refine zz_goto 5 dX12_product_111 (by decide) ?_
            refine x_X12_product hn ?_
            rw [pz_lp_bad hop s_71 he] at h0
            exact h0 rfl _
      · skip
        refine zz_aload_0 dX12_product_38 ?_
        refine zz_aload_0 dX12_product_39 ?_
        refine zz_getI fl_X12_88 rfl rfl (Nat.lt_of_lt_of_le (by decide) hn) dX12_product_40 ?_
        refine zz_callV1i cv_X12_91 rfl (Nat.lt_of_lt_of_le (by decide) hn) (Nat.le_of_ble_eq_true rfl) (by decide) (by decide) dX12_product_43 (t_X12_byteAt hn hr hu hu2 hl hl5 q (pm_k g q o 1) (by omega) ⟨_, rfl, ?_⟩)
        refine zz_bipush (37) dX12_product_46 (by decide) ?_
        refine zz_icmp_ne 114 dX12_product_48 (by decide) (fun c_48 => ?_) (fun c_48 => ?_)
        · skip
          refine zz_iload_1 dX12_product_114 ?_
          refine zz_iret rfl dX12_product_115 (by decide) (by decide) ?_
          rw [pz_lp_no (lv := 4) (by simp (decide := true) only [pz_is, c_22, c_35, c_48, or_self, or_false, false_or, or_true, true_or, and_true, true_and, and_false, false_and, and_self, not_true_eq_false, not_false_eq_true, ↓reduceIte])] at he
          subst he
          exact h1 rfl
        · skip
          refine zz_aload_0 dX12_product_51 ?_
          refine zz_aload_0 dX12_product_52 ?_
          refine zz_getI fl_X12_88 rfl rfl (Nat.lt_of_lt_of_le (by decide) hn) dX12_product_53 ?_
          refine zz_callV1i cv_X12_91 rfl (Nat.lt_of_lt_of_le (by decide) hn) (Nat.le_of_ble_eq_true rfl) (by decide) (by decide) dX12_product_56 (t_X12_byteAt hn hr hu hu2 hl hl5 q (pm_k g q o 1) (by omega) ⟨_, rfl, ?_⟩)
          refine zz_istore_2 dX12_product_59 rfl rfl ?_
          refine zz_aload_0 dX12_product_60 ?_
          have hop : pz_is 4 (pz_b (g 51) u len q) := by simp (decide := true) only [pz_is, c_22, c_35, c_48, or_self, or_false, false_or, or_true, true_or, and_true, true_and, and_false, false_and, and_self, not_true_eq_false, not_false_eq_true, ↓reduceIte]
          have hqlt : q + 1 ≤ len := pz_is_in hop
          obtain ⟨f, rfl⟩ : ∃ f2, f = f2 + 1 := ⟨f - 1, by omega⟩
          refine zz_dup dX12_product_61 rfl ?_
          refine zz_getI fl_X12_88 rfl rfl (Nat.lt_of_lt_of_le (by decide) hn) dX12_product_62 ?_
          refine zz_iconst (1) dX12_product_65 (by decide) ?_
          refine zz_iadd dX12_product_66 ?_
          refine zz_putI fl_X12_88 rfl rfl (Nat.lt_of_lt_of_le (by decide) hn) dX12_product_67 ?_
          rw [pm_k, nI_1, pm_uk]
          refine zz_aload_0 dX12_product_70 ?_
          refine zz_callV0i cv_X12_119 rfl (Nat.lt_of_lt_of_le (by decide) hn) (Nat.le_of_ble_eq_true rfl) (by decide) (by decide) dX12_product_71 (hf d (q + 1) _ hD hqlt (fun s_71 => ⟨_, rfl, ?_⟩) (fun s_71 v_71 => ⟨_, rfl, ?_⟩))
          · skip
            refine zz_istore_3 dX12_product_74 rfl rfl ?_
            refine zz_iload_2 dX12_product_75 ?_
            refine zz_bipush (42) dX12_product_76 (by decide) ?_
            refine zz_icmp_ne 87 dX12_product_78 (by decide) (fun c_78 => ?_) (fun c_78 => ?_)
            · skip
              refine zz_iload_3 dX12_product_87 ?_
              refine zz_if_ne 95 dX12_product_88 (by decide) (fun c_88 => ?_) (fun c_88 => ?_)
              · skip
                refine zz_iload_2 dX12_product_95 ?_
                refine zz_bipush (47) dX12_product_96 (by decide) ?_
                refine zz_icmp_ne 107 dX12_product_98 (by decide) (fun c_98 => ?_) (fun c_98 => ?_)
                · skip
                  refine zz_iload_1 dX12_product_107 ?_
                  refine zz_iload_3 dX12_product_108 ?_
                  refine zz_irem dX12_product_109 c_88 ?_
                  refine zz_istore_1 dX12_product_110 rfl rfl ?_
                  refine zz_goto 5 dX12_product_111 (by decide) ?_
                  first
                    | exact absurd c_22 c_35
                    | exact absurd c_35 c_22
                    | exact absurd (c_22.symm.trans c_35) (by decide)
                    | exact absurd c_22 c_48
                    | exact absurd c_48 c_22
                    | exact absurd (c_22.symm.trans c_48) (by decide)
                    | exact absurd c_22 c_78
                    | exact absurd c_78 c_22
                    | exact absurd (c_22.symm.trans c_78) (by decide)
                    | exact absurd c_22 c_88
                    | exact absurd c_88 c_22
                    | exact absurd (c_22.symm.trans c_88) (by decide)
                    | exact absurd c_22 c_98
                    | exact absurd c_98 c_22
                    | exact absurd (c_22.symm.trans c_98) (by decide)
                    | exact absurd c_35 c_48
                    | exact absurd c_48 c_35
                    | exact absurd (c_35.symm.trans c_48) (by decide)
                    | exact absurd c_35 c_78
                    | exact absurd c_78 c_35
                    | exact absurd (c_35.symm.trans c_78) (by decide)
                    | exact absurd c_35 c_88
                    | exact absurd c_88 c_35
                    | exact absurd (c_35.symm.trans c_88) (by decide)
                    | exact absurd c_35 c_98
                    | exact absurd c_98 c_35
                    | exact absurd (c_35.symm.trans c_98) (by decide)
                    | exact absurd c_48 c_78
                    | exact absurd c_78 c_48
                    | exact absurd (c_48.symm.trans c_78) (by decide)
                    | exact absurd c_48 c_88
                    | exact absurd c_88 c_48
                    | exact absurd (c_48.symm.trans c_88) (by decide)
                    | exact absurd c_48 c_98
                    | exact absurd c_98 c_48
                    | exact absurd (c_48.symm.trans c_98) (by decide)
                    | exact absurd c_78 c_88
                    | exact absurd c_88 c_78
                    | exact absurd (c_78.symm.trans c_88) (by decide)
                    | exact absurd c_78 c_98
                    | exact absurd c_98 c_78
                    | exact absurd (c_78.symm.trans c_98) (by decide)
                    | exact absurd c_88 c_98
                    | exact absurd c_98 c_88
                    | exact absurd (c_88.symm.trans c_98) (by decide)
                    | exact ih _ _ f _ _ _ (hs (q + 1) hqlt).2.1 (by have := (hs (q + 1) hqlt).1; omega) (by omega) (pz_lp_go hop s_71 he (by simp (decide := true) only [pz_op, c_22, c_35, c_48, c_78, c_88, c_98, or_self, or_false, false_or, or_true, true_or, and_true, true_and, and_false, false_and, and_self, not_true_eq_false, not_false_eq_true, ↓reduceIte]))
                · skip
                  refine zz_iload_1 dX12_product_101 ?_
                  refine zz_iload_3 dX12_product_102 ?_
                  refine zz_idiv dX12_product_103 c_88 ?_
                  refine zz_goto 110 dX12_product_104 (by decide) ?_
                  refine zz_istore_1 dX12_product_110 rfl rfl ?_
                  refine zz_goto 5 dX12_product_111 (by decide) ?_
                  first
                    | exact absurd c_22 c_35
                    | exact absurd c_35 c_22
                    | exact absurd (c_22.symm.trans c_35) (by decide)
                    | exact absurd c_22 c_48
                    | exact absurd c_48 c_22
                    | exact absurd (c_22.symm.trans c_48) (by decide)
                    | exact absurd c_22 c_78
                    | exact absurd c_78 c_22
                    | exact absurd (c_22.symm.trans c_78) (by decide)
                    | exact absurd c_22 c_88
                    | exact absurd c_88 c_22
                    | exact absurd (c_22.symm.trans c_88) (by decide)
                    | exact absurd c_22 c_98
                    | exact absurd c_98 c_22
                    | exact absurd (c_22.symm.trans c_98) (by decide)
                    | exact absurd c_35 c_48
                    | exact absurd c_48 c_35
                    | exact absurd (c_35.symm.trans c_48) (by decide)
                    | exact absurd c_35 c_78
                    | exact absurd c_78 c_35
                    | exact absurd (c_35.symm.trans c_78) (by decide)
                    | exact absurd c_35 c_88
                    | exact absurd c_88 c_35
                    | exact absurd (c_35.symm.trans c_88) (by decide)
                    | exact absurd c_35 c_98
                    | exact absurd c_98 c_35
                    | exact absurd (c_35.symm.trans c_98) (by decide)
                    | exact absurd c_48 c_78
                    | exact absurd c_78 c_48
                    | exact absurd (c_48.symm.trans c_78) (by decide)
                    | exact absurd c_48 c_88
                    | exact absurd c_88 c_48
                    | exact absurd (c_48.symm.trans c_88) (by decide)
                    | exact absurd c_48 c_98
                    | exact absurd c_98 c_48
                    | exact absurd (c_48.symm.trans c_98) (by decide)
                    | exact absurd c_78 c_88
                    | exact absurd c_88 c_78
                    | exact absurd (c_78.symm.trans c_88) (by decide)
                    | exact absurd c_78 c_98
                    | exact absurd c_98 c_78
                    | exact absurd (c_78.symm.trans c_98) (by decide)
                    | exact absurd c_88 c_98
                    | exact absurd c_98 c_88
                    | exact absurd (c_88.symm.trans c_98) (by decide)
                    | exact ih _ _ f _ _ _ (hs (q + 1) hqlt).2.1 (by have := (hs (q + 1) hqlt).1; omega) (by omega) (pz_lp_go hop s_71 he (by simp (decide := true) only [pz_op, c_22, c_35, c_48, c_78, c_88, c_98, or_self, or_false, false_or, or_true, true_or, and_true, true_and, and_false, false_and, and_self, not_true_eq_false, not_false_eq_true, ↓reduceIte]))
              · skip
                refine zz_iconst (0) dX12_product_91 (by decide) ?_
                refine zz_goto 110 dX12_product_92 (by decide) ?_
                refine zz_istore_1 dX12_product_110 rfl rfl ?_
                refine zz_goto 5 dX12_product_111 (by decide) ?_
                first
                  | exact absurd c_22 c_35
                  | exact absurd c_35 c_22
                  | exact absurd (c_22.symm.trans c_35) (by decide)
                  | exact absurd c_22 c_48
                  | exact absurd c_48 c_22
                  | exact absurd (c_22.symm.trans c_48) (by decide)
                  | exact absurd c_22 c_78
                  | exact absurd c_78 c_22
                  | exact absurd (c_22.symm.trans c_78) (by decide)
                  | exact absurd c_22 c_88
                  | exact absurd c_88 c_22
                  | exact absurd (c_22.symm.trans c_88) (by decide)
                  | exact absurd c_35 c_48
                  | exact absurd c_48 c_35
                  | exact absurd (c_35.symm.trans c_48) (by decide)
                  | exact absurd c_35 c_78
                  | exact absurd c_78 c_35
                  | exact absurd (c_35.symm.trans c_78) (by decide)
                  | exact absurd c_35 c_88
                  | exact absurd c_88 c_35
                  | exact absurd (c_35.symm.trans c_88) (by decide)
                  | exact absurd c_48 c_78
                  | exact absurd c_78 c_48
                  | exact absurd (c_48.symm.trans c_78) (by decide)
                  | exact absurd c_48 c_88
                  | exact absurd c_88 c_48
                  | exact absurd (c_48.symm.trans c_88) (by decide)
                  | exact absurd c_78 c_88
                  | exact absurd c_88 c_78
                  | exact absurd (c_78.symm.trans c_88) (by decide)
                  | exact ih _ _ f _ _ _ (hs (q + 1) hqlt).2.1 (by have := (hs (q + 1) hqlt).1; omega) (by omega) (pz_lp_go hop s_71 he (by simp (decide := true) only [pz_op, c_22, c_35, c_48, c_78, c_88, or_self, or_false, false_or, or_true, true_or, and_true, true_and, and_false, false_and, and_self, not_true_eq_false, not_false_eq_true, ↓reduceIte]))
            · skip
              refine zz_iload_1 dX12_product_81 ?_
              refine zz_iload_3 dX12_product_82 ?_
              refine zz_imul dX12_product_83 ?_
              refine zz_goto 110 dX12_product_84 (by decide) ?_
              refine zz_istore_1 dX12_product_110 rfl rfl ?_
              refine zz_goto 5 dX12_product_111 (by decide) ?_
              first
                | exact absurd c_22 c_35
                | exact absurd c_35 c_22
                | exact absurd (c_22.symm.trans c_35) (by decide)
                | exact absurd c_22 c_48
                | exact absurd c_48 c_22
                | exact absurd (c_22.symm.trans c_48) (by decide)
                | exact absurd c_22 c_78
                | exact absurd c_78 c_22
                | exact absurd (c_22.symm.trans c_78) (by decide)
                | exact absurd c_35 c_48
                | exact absurd c_48 c_35
                | exact absurd (c_35.symm.trans c_48) (by decide)
                | exact absurd c_35 c_78
                | exact absurd c_78 c_35
                | exact absurd (c_35.symm.trans c_78) (by decide)
                | exact absurd c_48 c_78
                | exact absurd c_78 c_48
                | exact absurd (c_48.symm.trans c_78) (by decide)
                | exact ih _ _ f _ _ _ (hs (q + 1) hqlt).2.1 (by have := (hs (q + 1) hqlt).1; omega) (by omega) (pz_lp_go hop s_71 he (by simp (decide := true) only [pz_op, c_22, c_35, c_48, c_78, or_self, or_false, false_or, or_true, true_or, and_true, true_and, and_false, false_and, and_self, not_true_eq_false, not_false_eq_true, ↓reduceIte]))
          · skip
            refine zz_istore_3 dX12_product_74 rfl rfl ?_
            refine zz_iload_2 dX12_product_75 ?_
            refine zz_bipush (42) dX12_product_76 (by decide) ?_
            refine zz_icmp_ne 87 dX12_product_78 (by decide) (fun c_78 => ?_) (fun c_78 => ?_)
            · skip
              refine zz_iload_3 dX12_product_87 ?_
              refine zz_if_ne 95 dX12_product_88 (by decide) (fun c_88 => ?_) (fun c_88 => ?_)
              · skip
                refine zz_iload_2 dX12_product_95 ?_
                refine zz_bipush (47) dX12_product_96 (by decide) ?_
                refine zz_icmp_ne 107 dX12_product_98 (by decide) (fun c_98 => ?_) (fun c_98 => ?_)
                · skip
                  refine zz_iload_1 dX12_product_107 ?_
                  refine zz_iload_3 dX12_product_108 ?_
                  refine zz_irem dX12_product_109 c_88 ?_
                  refine zz_istore_1 dX12_product_110 rfl rfl ?_
                  refine zz_goto 5 dX12_product_111 (by decide) ?_
                  refine x_X12_product hn ?_
                  rw [pz_lp_bad hop s_71 he] at h0
                  exact h0 rfl _
                · skip
                  refine zz_iload_1 dX12_product_101 ?_
                  refine zz_iload_3 dX12_product_102 ?_
                  refine zz_idiv dX12_product_103 c_88 ?_
                  refine zz_goto 110 dX12_product_104 (by decide) ?_
                  refine zz_istore_1 dX12_product_110 rfl rfl ?_
                  refine zz_goto 5 dX12_product_111 (by decide) ?_
                  refine x_X12_product hn ?_
                  rw [pz_lp_bad hop s_71 he] at h0
                  exact h0 rfl _
              · skip
                refine zz_iconst (0) dX12_product_91 (by decide) ?_
                refine zz_goto 110 dX12_product_92 (by decide) ?_
                refine zz_istore_1 dX12_product_110 rfl rfl ?_
                refine zz_goto 5 dX12_product_111 (by decide) ?_
                refine x_X12_product hn ?_
                rw [pz_lp_bad hop s_71 he] at h0
                exact h0 rfl _
            · skip
              refine zz_iload_1 dX12_product_81 ?_
              refine zz_iload_3 dX12_product_82 ?_
              refine zz_imul dX12_product_83 ?_
              refine zz_goto 110 dX12_product_84 (by decide) ?_
              refine zz_istore_1 dX12_product_110 rfl rfl ?_
              refine zz_goto 5 dX12_product_111 (by decide) ?_
              refine x_X12_product hn ?_
              rw [pz_lp_bad hop s_71 he] at h0
              exact h0 rfl _

set_option maxRecDepth 100000 in
set_option maxHeartbeats 4000000 in
theorem s_X12_product {C : zz_C} {n : Nat} {g : zz_G} {r : zz_R} (hn : 60 ≤ n) (hr : xr r) {u len : Nat} (hu : g 50 6 = nI u) (hu2 : u < 2) (hl : g 50 8 = nI len) (hl5 : len ≤ 50) {D o : Nat} {step : Nat → pz_T} (hs : pz_ok len step) (hf : pz_S C mi_X12_factor D g r n o len step) : pz_S C mi_X12_product (D + 1) g r n o len (pz_lv (pz_b (g 51) u len) step 4) := by
  intro d0 k Q hd hk h1 h0
  obtain ⟨d, rfl⟩ : ∃ e, d0 = e + 1 := ⟨d0 - 1, by omega⟩
  refine zz_T.of [some (.ref 50), none, none, none] (by decide +kernel) rfl (Nat.le_of_ble_eq_true rfl) ?_
  refine zz_aload_0 dX12_product_0 ?_
  refine zz_callV0i cv_X12_119 rfl (Nat.lt_of_lt_of_le (by decide) hn) (Nat.le_of_ble_eq_true rfl) (by decide) (by decide) dX12_product_1 (hf d k _ (by omega) hk (fun s_1 => ⟨_, rfl, ?_⟩) (fun s_1 v_1 => ⟨_, rfl, ?_⟩))
  · skip
    refine zz_istore_1 dX12_product_4 rfl rfl ?_
    rw [pz_lv, if_pos s_1, if_neg (by decide)] at h1 h0
    exact l_X12_product hn hr hu hu2 hl hl5 (by omega) hs hf h1 h0 51 _ _ 50 _ _ _ (hs k hk).2.1 (by have := (hs k hk).2.2 s_1; omega) (by omega) rfl
  · skip
    refine zz_istore_1 dX12_product_4 rfl rfl ?_
    rw [pz_lv, if_neg (by rw [s_1]; decide)] at h0
    exact x_X12_product hn (h0 rfl _)

set_option maxRecDepth 100000 in
set_option maxHeartbeats 4000000 in
theorem x_X12_sum {C : zz_C} {d n : Nat} {g : zz_G} {r : zz_R} {Q : zz_Q} (hn : 60 ≤ n) {v : Int32} {q o : Nat} {t2 t3 : Option Value} (h : Q (some (.int v)) (pm_ g q o 0) r n) : zz_Z C mi_X12_sum (d + 1) 0 0 0 0 5 [some (.ref 50), some (.int v), t2, t3] [] (pm_ g q o 0) r n Q := by
  refine zz_aload_0 dX12_sum_5 ?_
  refine zz_getI fl_X12_84 rfl rfl (Nat.lt_of_lt_of_le (by decide) hn) dX12_sum_6 ?_
  rw [pm_g]
  refine zz_if_eq 81 dX12_sum_9 (by decide) (fun _ => ?_) (fun h => absurd h (by decide))
  refine zz_iload_1 dX12_sum_81 ?_
  refine zz_iret rfl dX12_sum_82 (by decide) (by decide) ?_
  exact h

set_option maxRecDepth 100000 in
set_option maxHeartbeats 4000000 in
theorem l_X12_sum {C : zz_C} {d n : Nat} {g : zz_G} {r : zz_R} {Q : zz_Q} (hn : 60 ≤ n) (hr : xr r) {u len : Nat} (hu : g 50 6 = nI u) (hu2 : u < 2) (hl : g 50 8 = nI len) (hl5 : len ≤ 50) {D o : Nat} (hD : D ≤ d) {step : Nat → pz_T} (hs : pz_ok len step) (hf : pz_S C mi_X12_product D g r n o len step) {res : pz_T} (h1 : res.1 = true → Q (some (.int res.2.2.1)) (pm_ g res.2.1 o 1) r n) (h0 : res.1 = false → ∀ v, Q (some (.int v)) (pm_ g res.2.1 o 0) r n) : ∀ (k : Nat) (t2 t3 : Option Value) (f q : Nat) (v : Int32) (cs : List Int32), q ≤ len → 51 ≤ q + f → f < k → pz_lp (pz_b (g 51) u len) step 3 f q v cs = res → zz_Z C mi_X12_sum (d + 1) 0 0 0 0 5 [some (.ref 50), some (.int v), t2, t3] [] (pm_ g q o 1) r n Q := by
  intro k
  induction k with
  | zero => intro t2 t3 f q v cs hq hqf hk he; exact absurd hk (by omega)
  | succ k ih =>
    intro t2 t3 f q v cs hq hqf hk he
    refine zz_aload_0 dX12_sum_5 ?_
    refine zz_getI fl_X12_84 rfl rfl (Nat.lt_of_lt_of_le (by decide) hn) dX12_sum_6 ?_
    rw [pm_g]
    refine zz_if_eq 81 dX12_sum_9 (by decide) (fun h => absurd h (by decide)) (fun _ => ?_)
    refine zz_aload_0 dX12_sum_12 ?_
    refine zz_aload_0 dX12_sum_13 ?_
    refine zz_getI fl_X12_88 rfl rfl (Nat.lt_of_lt_of_le (by decide) hn) dX12_sum_14 ?_
    refine zz_callV1i cv_X12_91 rfl (Nat.lt_of_lt_of_le (by decide) hn) (Nat.le_of_ble_eq_true rfl) (by decide) (by decide) dX12_sum_17 (t_X12_byteAt hn hr hu hu2 hl hl5 q (pm_k g q o 1) (by omega) ⟨_, rfl, ?_⟩)
    refine zz_bipush (43) dX12_sum_20 (by decide) ?_
    refine zz_icmp_eq 38 dX12_sum_22 (by decide) (fun c_22 => ?_) (fun c_22 => ?_)
    · skip
      refine zz_aload_0 dX12_sum_38 ?_
      refine zz_aload_0 dX12_sum_39 ?_
      refine zz_getI fl_X12_88 rfl rfl (Nat.lt_of_lt_of_le (by decide) hn) dX12_sum_40 ?_
      refine zz_callV1i cv_X12_91 rfl (Nat.lt_of_lt_of_le (by decide) hn) (Nat.le_of_ble_eq_true rfl) (by decide) (by decide) dX12_sum_43 (t_X12_byteAt hn hr hu hu2 hl hl5 q (pm_k g q o 1) (by omega) ⟨_, rfl, ?_⟩)
      refine zz_istore_2 dX12_sum_46 rfl rfl ?_
      refine zz_aload_0 dX12_sum_47 ?_
      have hop : pz_is 3 (pz_b (g 51) u len q) := by simp (decide := true) only [pz_is, c_22, or_self, or_false, false_or, or_true, true_or, and_true, true_and, and_false, false_and, and_self, not_true_eq_false, not_false_eq_true, ↓reduceIte]
      have hqlt : q + 1 ≤ len := pz_is_in hop
      obtain ⟨f, rfl⟩ : ∃ f2, f = f2 + 1 := ⟨f - 1, by omega⟩
      refine zz_dup dX12_sum_48 rfl ?_
      refine zz_getI fl_X12_88 rfl rfl (Nat.lt_of_lt_of_le (by decide) hn) dX12_sum_49 ?_
      refine zz_iconst (1) dX12_sum_52 (by decide) ?_
      refine zz_iadd dX12_sum_53 ?_
      refine zz_putI fl_X12_88 rfl rfl (Nat.lt_of_lt_of_le (by decide) hn) dX12_sum_54 ?_
      rw [pm_k, nI_1, pm_uk]
      refine zz_aload_0 dX12_sum_57 ?_
      refine zz_callV0i cv_X12_125 rfl (Nat.lt_of_lt_of_le (by decide) hn) (Nat.le_of_ble_eq_true rfl) (by decide) (by decide) dX12_sum_58 (hf d (q + 1) _ hD hqlt (fun s_58 => ⟨_, rfl, ?_⟩) (fun s_58 v_58 => ⟨_, rfl, ?_⟩))
      · skip
        refine zz_istore_3 dX12_sum_61 rfl rfl ?_
        refine zz_iload_2 dX12_sum_62 ?_
        refine zz_bipush (43) dX12_sum_63 (by decide) ?_
        refine zz_icmp_ne 74 dX12_sum_65 (by decide) (fun c_65 => ?_) (fun c_65 => ?_)
        · skip
          refine zz_iload_1 dX12_sum_74 ?_
          refine zz_iload_3 dX12_sum_75 ?_
          refine zz_isub dX12_sum_76 ?_
          refine zz_istore_1 dX12_sum_77 rfl rfl ?_
          refine zz_goto 5 dX12_sum_78 (by decide) ?_
          first
            | exact absurd c_22 c_65
            | exact absurd c_65 c_22
            | exact absurd (c_22.symm.trans c_65) (by decide)
            | exact ih _ _ f _ _ _ (hs (q + 1) hqlt).2.1 (by have := (hs (q + 1) hqlt).1; omega) (by omega) (pz_lp_go hop s_58 he (by simp (decide := true) only [pz_op, c_22, c_65, or_self, or_false, false_or, or_true, true_or, and_true, true_and, and_false, false_and, and_self, not_true_eq_false, not_false_eq_true, ↓reduceIte]))
        · skip
          refine zz_iload_1 dX12_sum_68 ?_
          refine zz_iload_3 dX12_sum_69 ?_
          refine zz_iadd dX12_sum_70 ?_
          refine zz_goto 77 dX12_sum_71 (by decide) ?_
          refine zz_istore_1 dX12_sum_77 rfl rfl ?_
          refine zz_goto 5 dX12_sum_78 (by decide) ?_
          first
            | exact absurd c_22 c_65
            | exact absurd c_65 c_22
            | exact absurd (c_22.symm.trans c_65) (by decide)
            | exact ih _ _ f _ _ _ (hs (q + 1) hqlt).2.1 (by have := (hs (q + 1) hqlt).1; omega) (by omega) (pz_lp_go hop s_58 he (by simp (decide := true) only [pz_op, c_22, c_65, or_self, or_false, false_or, or_true, true_or, and_true, true_and, and_false, false_and, and_self, not_true_eq_false, not_false_eq_true, ↓reduceIte]))
      · skip
        refine zz_istore_3 dX12_sum_61 rfl rfl ?_
        refine zz_iload_2 dX12_sum_62 ?_
        refine zz_bipush (43) dX12_sum_63 (by decide) ?_
        refine zz_icmp_ne 74 dX12_sum_65 (by decide) (fun c_65 => ?_) (fun c_65 => ?_)
        · skip
          refine zz_iload_1 dX12_sum_74 ?_
          refine zz_iload_3 dX12_sum_75 ?_
          refine zz_isub dX12_sum_76 ?_
          refine zz_istore_1 dX12_sum_77 rfl rfl ?_
          refine zz_goto 5 dX12_sum_78 (by decide) ?_
          refine x_X12_sum hn ?_
          rw [pz_lp_bad hop s_58 he] at h0
          exact h0 rfl _
        · skip
          refine zz_iload_1 dX12_sum_68 ?_
          refine zz_iload_3 dX12_sum_69 ?_
          refine zz_iadd dX12_sum_70 ?_
          refine zz_goto 77 dX12_sum_71 (by decide) ?_
          refine zz_istore_1 dX12_sum_77 rfl rfl ?_
          refine zz_goto 5 dX12_sum_78 (by decide) ?_
          refine x_X12_sum hn ?_
          rw [pz_lp_bad hop s_58 he] at h0
          exact h0 rfl _
    · skip
      refine zz_aload_0 dX12_sum_25 ?_
      refine zz_aload_0 dX12_sum_26 ?_
      refine zz_getI fl_X12_88 rfl rfl (Nat.lt_of_lt_of_le (by decide) hn) dX12_sum_27 ?_
      refine zz_callV1i cv_X12_91 rfl (Nat.lt_of_lt_of_le (by decide) hn) (Nat.le_of_ble_eq_true rfl) (by decide) (by decide) dX12_sum_30 (t_X12_byteAt hn hr hu hu2 hl hl5 q (pm_k g q o 1) (by omega) ⟨_, rfl, ?_⟩)
      refine zz_bipush (45) dX12_sum_33 (by decide) ?_
      refine zz_icmp_ne 81 dX12_sum_35 (by decide) (fun c_35 => ?_) (fun c_35 => ?_)
      · skip
        refine zz_iload_1 dX12_sum_81 ?_
        refine zz_iret rfl dX12_sum_82 (by decide) (by decide) ?_
        rw [pz_lp_no (lv := 3) (by simp (decide := true) only [pz_is, c_22, c_35, or_self, or_false, false_or, or_true, true_or, and_true, true_and, and_false, false_and, and_self, not_true_eq_false, not_false_eq_true, ↓reduceIte])] at he
        subst he
        exact h1 rfl
      · skip
        refine zz_aload_0 dX12_sum_38 ?_
        refine zz_aload_0 dX12_sum_39 ?_
        refine zz_getI fl_X12_88 rfl rfl (Nat.lt_of_lt_of_le (by decide) hn) dX12_sum_40 ?_
        refine zz_callV1i cv_X12_91 rfl (Nat.lt_of_lt_of_le (by decide) hn) (Nat.le_of_ble_eq_true rfl) (by decide) (by decide) dX12_sum_43 (t_X12_byteAt hn hr hu hu2 hl hl5 q (pm_k g q o 1) (by omega) ⟨_, rfl, ?_⟩)
        refine zz_istore_2 dX12_sum_46 rfl rfl ?_
        refine zz_aload_0 dX12_sum_47 ?_
        have hop : pz_is 3 (pz_b (g 51) u len q) := by simp (decide := true) only [pz_is, c_22, c_35, or_self, or_false, false_or, or_true, true_or, and_true, true_and, and_false, false_and, and_self, not_true_eq_false, not_false_eq_true, ↓reduceIte]
        have hqlt : q + 1 ≤ len := pz_is_in hop
        obtain ⟨f, rfl⟩ : ∃ f2, f = f2 + 1 := ⟨f - 1, by omega⟩
        refine zz_dup dX12_sum_48 rfl ?_
        refine zz_getI fl_X12_88 rfl rfl (Nat.lt_of_lt_of_le (by decide) hn) dX12_sum_49 ?_
        refine zz_iconst (1) dX12_sum_52 (by decide) ?_
        refine zz_iadd dX12_sum_53 ?_
        refine zz_putI fl_X12_88 rfl rfl (Nat.lt_of_lt_of_le (by decide) hn) dX12_sum_54 ?_
        rw [pm_k, nI_1, pm_uk]
        refine zz_aload_0 dX12_sum_57 ?_
        refine zz_callV0i cv_X12_125 rfl (Nat.lt_of_lt_of_le (by decide) hn) (Nat.le_of_ble_eq_true rfl) (by decide) (by decide) dX12_sum_58 (hf d (q + 1) _ hD hqlt (fun s_58 => ⟨_, rfl, ?_⟩) (fun s_58 v_58 => ⟨_, rfl, ?_⟩))
        · skip
          refine zz_istore_3 dX12_sum_61 rfl rfl ?_
          refine zz_iload_2 dX12_sum_62 ?_
          refine zz_bipush (43) dX12_sum_63 (by decide) ?_
          refine zz_icmp_ne 74 dX12_sum_65 (by decide) (fun c_65 => ?_) (fun c_65 => ?_)
          · skip
            refine zz_iload_1 dX12_sum_74 ?_
            refine zz_iload_3 dX12_sum_75 ?_
            refine zz_isub dX12_sum_76 ?_
            refine zz_istore_1 dX12_sum_77 rfl rfl ?_
            refine zz_goto 5 dX12_sum_78 (by decide) ?_
            first
              | exact absurd c_22 c_35
              | exact absurd c_35 c_22
              | exact absurd (c_22.symm.trans c_35) (by decide)
              | exact absurd c_22 c_65
              | exact absurd c_65 c_22
              | exact absurd (c_22.symm.trans c_65) (by decide)
              | exact absurd c_35 c_65
              | exact absurd c_65 c_35
              | exact absurd (c_35.symm.trans c_65) (by decide)
              | exact ih _ _ f _ _ _ (hs (q + 1) hqlt).2.1 (by have := (hs (q + 1) hqlt).1; omega) (by omega) (pz_lp_go hop s_58 he (by simp (decide := true) only [pz_op, c_22, c_35, c_65, or_self, or_false, false_or, or_true, true_or, and_true, true_and, and_false, false_and, and_self, not_true_eq_false, not_false_eq_true, ↓reduceIte]))
          · skip
            refine zz_iload_1 dX12_sum_68 ?_
            refine zz_iload_3 dX12_sum_69 ?_
            refine zz_iadd dX12_sum_70 ?_
            refine zz_goto 77 dX12_sum_71 (by decide) ?_
            refine zz_istore_1 dX12_sum_77 rfl rfl ?_
            refine zz_goto 5 dX12_sum_78 (by decide) ?_
            first
              | exact absurd c_22 c_35
              | exact absurd c_35 c_22
              | exact absurd (c_22.symm.trans c_35) (by decide)
              | exact absurd c_22 c_65
              | exact absurd c_65 c_22
              | exact absurd (c_22.symm.trans c_65) (by decide)
              | exact absurd c_35 c_65
              | exact absurd c_65 c_35
              | exact absurd (c_35.symm.trans c_65) (by decide)
              | exact ih _ _ f _ _ _ (hs (q + 1) hqlt).2.1 (by have := (hs (q + 1) hqlt).1; omega) (by omega) (pz_lp_go hop s_58 he (by simp (decide := true) only [pz_op, c_22, c_35, c_65, or_self, or_false, false_or, or_true, true_or, and_true, true_and, and_false, false_and, and_self, not_true_eq_false, not_false_eq_true, ↓reduceIte]))
        · skip
          refine zz_istore_3 dX12_sum_61 rfl rfl ?_
          refine zz_iload_2 dX12_sum_62 ?_
          refine zz_bipush (43) dX12_sum_63 (by decide) ?_
          refine zz_icmp_ne 74 dX12_sum_65 (by decide) (fun c_65 => ?_) (fun c_65 => ?_)
          · skip
            refine zz_iload_1 dX12_sum_74 ?_
            refine zz_iload_3 dX12_sum_75 ?_
            refine zz_isub dX12_sum_76 ?_
            refine zz_istore_1 dX12_sum_77 rfl rfl ?_
            refine zz_goto 5 dX12_sum_78 (by decide) ?_
            refine x_X12_sum hn ?_
            rw [pz_lp_bad hop s_58 he] at h0
            exact h0 rfl _
          · skip
            refine zz_iload_1 dX12_sum_68 ?_
            refine zz_iload_3 dX12_sum_69 ?_
            refine zz_iadd dX12_sum_70 ?_
            refine zz_goto 77 dX12_sum_71 (by decide) ?_
            refine zz_istore_1 dX12_sum_77 rfl rfl ?_
            refine zz_goto 5 dX12_sum_78 (by decide) ?_
            refine x_X12_sum hn ?_
            rw [pz_lp_bad hop s_58 he] at h0
            exact h0 rfl _

set_option maxRecDepth 100000 in
set_option maxHeartbeats 4000000 in
theorem s_X12_sum {C : zz_C} {n : Nat} {g : zz_G} {r : zz_R} (hn : 60 ≤ n) (hr : xr r) {u len : Nat} (hu : g 50 6 = nI u) (hu2 : u < 2) (hl : g 50 8 = nI len) (hl5 : len ≤ 50) {D o : Nat} {step : Nat → pz_T} (hs : pz_ok len step) (hf : pz_S C mi_X12_product D g r n o len step) : pz_S C mi_X12_sum (D + 1) g r n o len (pz_lv (pz_b (g 51) u len) step 3) := by
  intro d0 k Q hd hk h1 h0
  obtain ⟨d, rfl⟩ : ∃ e, d0 = e + 1 := ⟨d0 - 1, by omega⟩
  refine zz_T.of [some (.ref 50), none, none, none] (by decide +kernel) rfl (Nat.le_of_ble_eq_true rfl) ?_
  refine zz_aload_0 dX12_sum_0 ?_
  refine zz_callV0i cv_X12_125 rfl (Nat.lt_of_lt_of_le (by decide) hn) (Nat.le_of_ble_eq_true rfl) (by decide) (by decide) dX12_sum_1 (hf d k _ (by omega) hk (fun s_1 => ⟨_, rfl, ?_⟩) (fun s_1 v_1 => ⟨_, rfl, ?_⟩))
  · skip
    refine zz_istore_1 dX12_sum_4 rfl rfl ?_
    rw [pz_lv, if_pos s_1, if_neg (by decide)] at h1 h0
    exact l_X12_sum hn hr hu hu2 hl hl5 (by omega) hs hf h1 h0 51 _ _ 50 _ _ _ (hs k hk).2.1 (by have := (hs k hk).2.2 s_1; omega) (by omega) rfl
  · skip
    refine zz_istore_1 dX12_sum_4 rfl rfl ?_
    rw [pz_lv, if_neg (by rw [s_1]; decide)] at h0
    exact x_X12_sum hn (h0 rfl _)

set_option maxRecDepth 100000 in
set_option maxHeartbeats 4000000 in
theorem x_X12_both {C : zz_C} {d n : Nat} {g : zz_G} {r : zz_R} {Q : zz_Q} (hn : 60 ≤ n) {v : Int32} {q o : Nat} {t2 : Option Value} (h : Q (some (.int v)) (pm_ g q o 0) r n) : zz_Z C mi_X12_both (d + 1) 0 0 0 0 5 [some (.ref 50), some (.int v), t2] [] (pm_ g q o 0) r n Q := by
  refine zz_aload_0 dX12_both_5 ?_
  refine zz_getI fl_X12_84 rfl rfl (Nat.lt_of_lt_of_le (by decide) hn) dX12_both_6 ?_
  rw [pm_g]
  refine zz_if_eq 57 dX12_both_9 (by decide) (fun _ => ?_) (fun h => absurd h (by decide))
  refine zz_iload_1 dX12_both_57 ?_
  refine zz_iret rfl dX12_both_58 (by decide) (by decide) ?_
  exact h

set_option maxRecDepth 100000 in
set_option maxHeartbeats 4000000 in
theorem l_X12_both {C : zz_C} {d n : Nat} {g : zz_G} {r : zz_R} {Q : zz_Q} (hn : 60 ≤ n) (hr : xr r) {u len : Nat} (hu : g 50 6 = nI u) (hu2 : u < 2) (hl : g 50 8 = nI len) (hl5 : len ≤ 50) {D o : Nat} (hD : D ≤ d) {step : Nat → pz_T} (hs : pz_ok len step) (hf : pz_S C mi_X12_compared D g r n o len step) {res : pz_T} (h1 : res.1 = true → Q (some (.int res.2.2.1)) (pm_ g res.2.1 o 1) r n) (h0 : res.1 = false → ∀ v, Q (some (.int v)) (pm_ g res.2.1 o 0) r n) : ∀ (k : Nat) (t2 : Option Value) (f q : Nat) (v : Int32) (cs : List Int32), q ≤ len → 51 ≤ q + f → f < k → pz_lp (pz_b (g 51) u len) step 1 f q v cs = res → zz_Z C mi_X12_both (d + 1) 0 0 0 0 5 [some (.ref 50), some (.int v), t2] [] (pm_ g q o 1) r n Q := by
  intro k
  induction k with
  | zero => intro t2 f q v cs hq hqf hk he; exact absurd hk (by omega)
  | succ k ih =>
    intro t2 f q v cs hq hqf hk he
    refine zz_aload_0 dX12_both_5 ?_
    refine zz_getI fl_X12_84 rfl rfl (Nat.lt_of_lt_of_le (by decide) hn) dX12_both_6 ?_
    rw [pm_g]
    refine zz_if_eq 57 dX12_both_9 (by decide) (fun h => absurd h (by decide)) (fun _ => ?_)
    refine zz_aload_0 dX12_both_12 ?_
    refine zz_aload_0 dX12_both_13 ?_
    refine zz_getI fl_X12_88 rfl rfl (Nat.lt_of_lt_of_le (by decide) hn) dX12_both_14 ?_
    refine zz_callV1i cv_X12_91 rfl (Nat.lt_of_lt_of_le (by decide) hn) (Nat.le_of_ble_eq_true rfl) (by decide) (by decide) dX12_both_17 (t_X12_byteAt hn hr hu hu2 hl hl5 q (pm_k g q o 1) (by omega) ⟨_, rfl, ?_⟩)
    refine zz_bipush (38) dX12_both_20 (by decide) ?_
    refine zz_icmp_ne 57 dX12_both_22 (by decide) (fun c_22 => ?_) (fun c_22 => ?_)
    · skip
      refine zz_iload_1 dX12_both_57 ?_
      refine zz_iret rfl dX12_both_58 (by decide) (by decide) ?_
      rw [pz_lp_no (lv := 1) (by simp (decide := true) only [pz_is, c_22, or_self, or_false, false_or, or_true, true_or, and_true, true_and, and_false, false_and, and_self, not_true_eq_false, not_false_eq_true, ↓reduceIte])] at he
      subst he
      exact h1 rfl
    · skip
      refine zz_aload_0 dX12_both_25 ?_
      have hop : pz_is 1 (pz_b (g 51) u len q) := by simp (decide := true) only [pz_is, c_22, or_self, or_false, false_or, or_true, true_or, and_true, true_and, and_false, false_and, and_self, not_true_eq_false, not_false_eq_true, ↓reduceIte]
      have hqlt : q + 1 ≤ len := pz_is_in hop
      obtain ⟨f, rfl⟩ : ∃ f2, f = f2 + 1 := ⟨f - 1, by omega⟩
      refine zz_dup dX12_both_26 rfl ?_
      refine zz_getI fl_X12_88 rfl rfl (Nat.lt_of_lt_of_le (by decide) hn) dX12_both_27 ?_
      refine zz_iconst (1) dX12_both_30 (by decide) ?_
      refine zz_iadd dX12_both_31 ?_
      refine zz_putI fl_X12_88 rfl rfl (Nat.lt_of_lt_of_le (by decide) hn) dX12_both_32 ?_
      rw [pm_k, nI_1, pm_uk]
      refine zz_aload_0 dX12_both_35 ?_
      refine zz_callV0i cv_X12_131 rfl (Nat.lt_of_lt_of_le (by decide) hn) (Nat.le_of_ble_eq_true rfl) (by decide) (by decide) dX12_both_36 (hf d (q + 1) _ hD hqlt (fun s_36 => ⟨_, rfl, ?_⟩) (fun s_36 v_36 => ⟨_, rfl, ?_⟩))
      · skip
        refine zz_istore_2 dX12_both_39 rfl rfl ?_
        refine zz_iload_1 dX12_both_40 ?_
        refine zz_if_eq 52 dX12_both_41 (by decide) (fun c_41 => ?_) (fun c_41 => ?_)
        · skip
          refine zz_iconst (0) dX12_both_52 (by decide) ?_
          refine zz_istore_1 dX12_both_53 rfl rfl ?_
          refine zz_goto 5 dX12_both_54 (by decide) ?_
          first
            | exact absurd c_22 c_41
            | exact absurd c_41 c_22
            | exact absurd (c_22.symm.trans c_41) (by decide)
            | exact ih _ f _ _ _ (hs (q + 1) hqlt).2.1 (by have := (hs (q + 1) hqlt).1; omega) (by omega) (pz_lp_go hop s_36 he (by simp (decide := true) only [pz_op, c_22, c_41, or_self, or_false, false_or, or_true, true_or, and_true, true_and, and_false, false_and, and_self, not_true_eq_false, not_false_eq_true, ↓reduceIte]))
        · skip
          refine zz_iload_2 dX12_both_44 ?_
          refine zz_if_eq 52 dX12_both_45 (by decide) (fun c_45 => ?_) (fun c_45 => ?_)
          · skip
            refine zz_iconst (0) dX12_both_52 (by decide) ?_
            refine zz_istore_1 dX12_both_53 rfl rfl ?_
            refine zz_goto 5 dX12_both_54 (by decide) ?_
            first
              | exact absurd c_22 c_41
              | exact absurd c_41 c_22
              | exact absurd (c_22.symm.trans c_41) (by decide)
              | exact absurd c_22 c_45
              | exact absurd c_45 c_22
              | exact absurd (c_22.symm.trans c_45) (by decide)
              | exact absurd c_41 c_45
              | exact absurd c_45 c_41
              | exact absurd (c_41.symm.trans c_45) (by decide)
              | exact ih _ f _ _ _ (hs (q + 1) hqlt).2.1 (by have := (hs (q + 1) hqlt).1; omega) (by omega) (pz_lp_go hop s_36 he (by simp (decide := true) only [pz_op, c_22, c_41, c_45, or_self, or_false, false_or, or_true, true_or, and_true, true_and, and_false, false_and, and_self, not_true_eq_false, not_false_eq_true, ↓reduceIte]))
          · skip
            refine zz_iconst (1) dX12_both_48 (by decide) ?_
            refine zz_goto 53 dX12_both_49 (by decide) ?_
            refine zz_istore_1 dX12_both_53 rfl rfl ?_
            refine zz_goto 5 dX12_both_54 (by decide) ?_
            first
              | exact absurd c_22 c_41
              | exact absurd c_41 c_22
              | exact absurd (c_22.symm.trans c_41) (by decide)
              | exact absurd c_22 c_45
              | exact absurd c_45 c_22
              | exact absurd (c_22.symm.trans c_45) (by decide)
              | exact absurd c_41 c_45
              | exact absurd c_45 c_41
              | exact absurd (c_41.symm.trans c_45) (by decide)
              | exact ih _ f _ _ _ (hs (q + 1) hqlt).2.1 (by have := (hs (q + 1) hqlt).1; omega) (by omega) (pz_lp_go hop s_36 he (by simp (decide := true) only [pz_op, c_22, c_41, c_45, or_self, or_false, false_or, or_true, true_or, and_true, true_and, and_false, false_and, and_self, not_true_eq_false, not_false_eq_true, ↓reduceIte]))
      · skip
        refine zz_istore_2 dX12_both_39 rfl rfl ?_
        refine zz_iload_1 dX12_both_40 ?_
        refine zz_if_eq 52 dX12_both_41 (by decide) (fun c_41 => ?_) (fun c_41 => ?_)
        · skip
          refine zz_iconst (0) dX12_both_52 (by decide) ?_
          refine zz_istore_1 dX12_both_53 rfl rfl ?_
          refine zz_goto 5 dX12_both_54 (by decide) ?_
          refine x_X12_both hn ?_
          rw [pz_lp_bad hop s_36 he] at h0
          exact h0 rfl _
        · skip
          refine zz_iload_2 dX12_both_44 ?_
          refine zz_if_eq 52 dX12_both_45 (by decide) (fun c_45 => ?_) (fun c_45 => ?_)
          · skip
            refine zz_iconst (0) dX12_both_52 (by decide) ?_
            refine zz_istore_1 dX12_both_53 rfl rfl ?_
            refine zz_goto 5 dX12_both_54 (by decide) ?_
            refine x_X12_both hn ?_
            rw [pz_lp_bad hop s_36 he] at h0
            exact h0 rfl _
          · skip
            refine zz_iconst (1) dX12_both_48 (by decide) ?_
            refine zz_goto 53 dX12_both_49 (by decide) ?_
            refine zz_istore_1 dX12_both_53 rfl rfl ?_
            refine zz_goto 5 dX12_both_54 (by decide) ?_
            refine x_X12_both hn ?_
            rw [pz_lp_bad hop s_36 he] at h0
            exact h0 rfl _

set_option maxRecDepth 100000 in
set_option maxHeartbeats 4000000 in
theorem s_X12_both {C : zz_C} {n : Nat} {g : zz_G} {r : zz_R} (hn : 60 ≤ n) (hr : xr r) {u len : Nat} (hu : g 50 6 = nI u) (hu2 : u < 2) (hl : g 50 8 = nI len) (hl5 : len ≤ 50) {D o : Nat} {step : Nat → pz_T} (hs : pz_ok len step) (hf : pz_S C mi_X12_compared D g r n o len step) : pz_S C mi_X12_both (D + 1) g r n o len (pz_lv (pz_b (g 51) u len) step 1) := by
  intro d0 k Q hd hk h1 h0
  obtain ⟨d, rfl⟩ : ∃ e, d0 = e + 1 := ⟨d0 - 1, by omega⟩
  refine zz_T.of [some (.ref 50), none, none] (by decide +kernel) rfl (Nat.le_of_ble_eq_true rfl) ?_
  refine zz_aload_0 dX12_both_0 ?_
  refine zz_callV0i cv_X12_131 rfl (Nat.lt_of_lt_of_le (by decide) hn) (Nat.le_of_ble_eq_true rfl) (by decide) (by decide) dX12_both_1 (hf d k _ (by omega) hk (fun s_1 => ⟨_, rfl, ?_⟩) (fun s_1 v_1 => ⟨_, rfl, ?_⟩))
  · skip
    refine zz_istore_1 dX12_both_4 rfl rfl ?_
    rw [pz_lv, if_pos s_1, if_neg (by decide)] at h1 h0
    exact l_X12_both hn hr hu hu2 hl hl5 (by omega) hs hf h1 h0 51 _ 50 _ _ _ (hs k hk).2.1 (by have := (hs k hk).2.2 s_1; omega) (by omega) rfl
  · skip
    refine zz_istore_1 dX12_both_4 rfl rfl ?_
    rw [pz_lv, if_neg (by rw [s_1]; decide)] at h0
    exact x_X12_both hn (h0 rfl _)

set_option maxRecDepth 100000 in
set_option maxHeartbeats 4000000 in
theorem x_X12_whole {C : zz_C} {d n : Nat} {g : zz_G} {r : zz_R} {Q : zz_Q} (hn : 60 ≤ n) {v : Int32} {q o : Nat} {t2 : Option Value} (h : Q (some (.int v)) (pm_ g q o 0) r n) : zz_Z C mi_X12_whole (d + 1) 0 0 0 0 5 [some (.ref 50), some (.int v), t2] [] (pm_ g q o 0) r n Q := by
  refine zz_aload_0 dX12_whole_5 ?_
  refine zz_getI fl_X12_84 rfl rfl (Nat.lt_of_lt_of_le (by decide) hn) dX12_whole_6 ?_
  rw [pm_g]
  refine zz_if_eq 57 dX12_whole_9 (by decide) (fun _ => ?_) (fun h => absurd h (by decide))
  refine zz_iload_1 dX12_whole_57 ?_
  refine zz_iret rfl dX12_whole_58 (by decide) (by decide) ?_
  exact h

set_option maxRecDepth 100000 in
set_option maxHeartbeats 4000000 in
theorem l_X12_whole {C : zz_C} {d n : Nat} {g : zz_G} {r : zz_R} {Q : zz_Q} (hn : 60 ≤ n) (hr : xr r) {u len : Nat} (hu : g 50 6 = nI u) (hu2 : u < 2) (hl : g 50 8 = nI len) (hl5 : len ≤ 50) {D o : Nat} (hD : D ≤ d) {step : Nat → pz_T} (hs : pz_ok len step) (hf : pz_S C mi_X12_both D g r n o len step) {res : pz_T} (h1 : res.1 = true → Q (some (.int res.2.2.1)) (pm_ g res.2.1 o 1) r n) (h0 : res.1 = false → ∀ v, Q (some (.int v)) (pm_ g res.2.1 o 0) r n) : ∀ (k : Nat) (t2 : Option Value) (f q : Nat) (v : Int32) (cs : List Int32), q ≤ len → 51 ≤ q + f → f < k → pz_lp (pz_b (g 51) u len) step 0 f q v cs = res → zz_Z C mi_X12_whole (d + 1) 0 0 0 0 5 [some (.ref 50), some (.int v), t2] [] (pm_ g q o 1) r n Q := by
  intro k
  induction k with
  | zero => intro t2 f q v cs hq hqf hk he; exact absurd hk (by omega)
  | succ k ih =>
    intro t2 f q v cs hq hqf hk he
    refine zz_aload_0 dX12_whole_5 ?_
    refine zz_getI fl_X12_84 rfl rfl (Nat.lt_of_lt_of_le (by decide) hn) dX12_whole_6 ?_
    rw [pm_g]
    refine zz_if_eq 57 dX12_whole_9 (by decide) (fun h => absurd h (by decide)) (fun _ => ?_)
    refine zz_aload_0 dX12_whole_12 ?_
    refine zz_aload_0 dX12_whole_13 ?_
    refine zz_getI fl_X12_88 rfl rfl (Nat.lt_of_lt_of_le (by decide) hn) dX12_whole_14 ?_
    refine zz_callV1i cv_X12_91 rfl (Nat.lt_of_lt_of_le (by decide) hn) (Nat.le_of_ble_eq_true rfl) (by decide) (by decide) dX12_whole_17 (t_X12_byteAt hn hr hu hu2 hl hl5 q (pm_k g q o 1) (by omega) ⟨_, rfl, ?_⟩)
    refine zz_bipush (124) dX12_whole_20 (by decide) ?_
    refine zz_icmp_ne 57 dX12_whole_22 (by decide) (fun c_22 => ?_) (fun c_22 => ?_)
    · skip
      refine zz_iload_1 dX12_whole_57 ?_
      refine zz_iret rfl dX12_whole_58 (by decide) (by decide) ?_
      rw [pz_lp_no (lv := 0) (by simp (decide := true) only [pz_is, c_22, or_self, or_false, false_or, or_true, true_or, and_true, true_and, and_false, false_and, and_self, not_true_eq_false, not_false_eq_true, ↓reduceIte])] at he
      subst he
      exact h1 rfl
    · skip
      refine zz_aload_0 dX12_whole_25 ?_
      have hop : pz_is 0 (pz_b (g 51) u len q) := by simp (decide := true) only [pz_is, c_22, or_self, or_false, false_or, or_true, true_or, and_true, true_and, and_false, false_and, and_self, not_true_eq_false, not_false_eq_true, ↓reduceIte]
      have hqlt : q + 1 ≤ len := pz_is_in hop
      obtain ⟨f, rfl⟩ : ∃ f2, f = f2 + 1 := ⟨f - 1, by omega⟩
      refine zz_dup dX12_whole_26 rfl ?_
      refine zz_getI fl_X12_88 rfl rfl (Nat.lt_of_lt_of_le (by decide) hn) dX12_whole_27 ?_
      refine zz_iconst (1) dX12_whole_30 (by decide) ?_
      refine zz_iadd dX12_whole_31 ?_
      refine zz_putI fl_X12_88 rfl rfl (Nat.lt_of_lt_of_le (by decide) hn) dX12_whole_32 ?_
      rw [pm_k, nI_1, pm_uk]
      refine zz_aload_0 dX12_whole_35 ?_
      refine zz_callV0i cv_X12_134 rfl (Nat.lt_of_lt_of_le (by decide) hn) (Nat.le_of_ble_eq_true rfl) (by decide) (by decide) dX12_whole_36 (hf d (q + 1) _ hD hqlt (fun s_36 => ⟨_, rfl, ?_⟩) (fun s_36 v_36 => ⟨_, rfl, ?_⟩))
      · skip
        refine zz_istore_2 dX12_whole_39 rfl rfl ?_
        refine zz_iload_1 dX12_whole_40 ?_
        refine zz_if_ne 48 dX12_whole_41 (by decide) (fun c_41 => ?_) (fun c_41 => ?_)
        · skip
          refine zz_iconst (1) dX12_whole_48 (by decide) ?_
          refine zz_goto 53 dX12_whole_49 (by decide) ?_
          refine zz_istore_1 dX12_whole_53 rfl rfl ?_
          refine zz_goto 5 dX12_whole_54 (by decide) ?_
          first
            | exact absurd c_22 c_41
            | exact absurd c_41 c_22
            | exact absurd (c_22.symm.trans c_41) (by decide)
            | exact ih _ f _ _ _ (hs (q + 1) hqlt).2.1 (by have := (hs (q + 1) hqlt).1; omega) (by omega) (pz_lp_go hop s_36 he (by simp (decide := true) only [pz_op, c_22, c_41, or_self, or_false, false_or, or_true, true_or, and_true, true_and, and_false, false_and, and_self, not_true_eq_false, not_false_eq_true, ↓reduceIte]))
        · skip
          refine zz_iload_2 dX12_whole_44 ?_
          refine zz_if_eq 52 dX12_whole_45 (by decide) (fun c_45 => ?_) (fun c_45 => ?_)
          · skip
            refine zz_iconst (0) dX12_whole_52 (by decide) ?_
            refine zz_istore_1 dX12_whole_53 rfl rfl ?_
            refine zz_goto 5 dX12_whole_54 (by decide) ?_
            first
              | exact absurd c_22 c_41
              | exact absurd c_41 c_22
              | exact absurd (c_22.symm.trans c_41) (by decide)
              | exact absurd c_22 c_45
              | exact absurd c_45 c_22
              | exact absurd (c_22.symm.trans c_45) (by decide)
              | exact absurd c_41 c_45
              | exact absurd c_45 c_41
              | exact absurd (c_41.symm.trans c_45) (by decide)
              | exact ih _ f _ _ _ (hs (q + 1) hqlt).2.1 (by have := (hs (q + 1) hqlt).1; omega) (by omega) (pz_lp_go hop s_36 he (by simp (decide := true) only [pz_op, c_22, c_41, c_45, or_self, or_false, false_or, or_true, true_or, and_true, true_and, and_false, false_and, and_self, not_true_eq_false, not_false_eq_true, ↓reduceIte]))
          · skip
            refine zz_iconst (1) dX12_whole_48 (by decide) ?_
            refine zz_goto 53 dX12_whole_49 (by decide) ?_
            refine zz_istore_1 dX12_whole_53 rfl rfl ?_
            refine zz_goto 5 dX12_whole_54 (by decide) ?_
            first
              | exact absurd c_22 c_41
              | exact absurd c_41 c_22
              | exact absurd (c_22.symm.trans c_41) (by decide)
              | exact absurd c_22 c_45
              | exact absurd c_45 c_22
              | exact absurd (c_22.symm.trans c_45) (by decide)
              | exact absurd c_41 c_45
              | exact absurd c_45 c_41
              | exact absurd (c_41.symm.trans c_45) (by decide)
              | exact ih _ f _ _ _ (hs (q + 1) hqlt).2.1 (by have := (hs (q + 1) hqlt).1; omega) (by omega) (pz_lp_go hop s_36 he (by simp (decide := true) only [pz_op, c_22, c_41, c_45, or_self, or_false, false_or, or_true, true_or, and_true, true_and, and_false, false_and, and_self, not_true_eq_false, not_false_eq_true, ↓reduceIte]))
      · skip
        refine zz_istore_2 dX12_whole_39 rfl rfl ?_
        refine zz_iload_1 dX12_whole_40 ?_
        refine zz_if_ne 48 dX12_whole_41 (by decide) (fun c_41 => ?_) (fun c_41 => ?_)
        · skip
          refine zz_iconst (1) dX12_whole_48 (by decide) ?_
          refine zz_goto 53 dX12_whole_49 (by decide) ?_
          refine zz_istore_1 dX12_whole_53 rfl rfl ?_
          refine zz_goto 5 dX12_whole_54 (by decide) ?_
          refine x_X12_whole hn ?_
          rw [pz_lp_bad hop s_36 he] at h0
          exact h0 rfl _
        · skip
          refine zz_iload_2 dX12_whole_44 ?_
          refine zz_if_eq 52 dX12_whole_45 (by decide) (fun c_45 => ?_) (fun c_45 => ?_)
          · skip
            refine zz_iconst (0) dX12_whole_52 (by decide) ?_
            refine zz_istore_1 dX12_whole_53 rfl rfl ?_
            refine zz_goto 5 dX12_whole_54 (by decide) ?_
            refine x_X12_whole hn ?_
            rw [pz_lp_bad hop s_36 he] at h0
            exact h0 rfl _
          · skip
            refine zz_iconst (1) dX12_whole_48 (by decide) ?_
            refine zz_goto 53 dX12_whole_49 (by decide) ?_
            refine zz_istore_1 dX12_whole_53 rfl rfl ?_
            refine zz_goto 5 dX12_whole_54 (by decide) ?_
            refine x_X12_whole hn ?_
            rw [pz_lp_bad hop s_36 he] at h0
            exact h0 rfl _

set_option maxRecDepth 100000 in
set_option maxHeartbeats 4000000 in
theorem s_X12_whole {C : zz_C} {n : Nat} {g : zz_G} {r : zz_R} (hn : 60 ≤ n) (hr : xr r) {u len : Nat} (hu : g 50 6 = nI u) (hu2 : u < 2) (hl : g 50 8 = nI len) (hl5 : len ≤ 50) {D o : Nat} {step : Nat → pz_T} (hs : pz_ok len step) (hf : pz_S C mi_X12_both D g r n o len step) : pz_S C mi_X12_whole (D + 1) g r n o len (pz_lv (pz_b (g 51) u len) step 0) := by
  intro d0 k Q hd hk h1 h0
  obtain ⟨d, rfl⟩ : ∃ e, d0 = e + 1 := ⟨d0 - 1, by omega⟩
  refine zz_T.of [some (.ref 50), none, none] (by decide +kernel) rfl (Nat.le_of_ble_eq_true rfl) ?_
  refine zz_aload_0 dX12_whole_0 ?_
  refine zz_callV0i cv_X12_134 rfl (Nat.lt_of_lt_of_le (by decide) hn) (Nat.le_of_ble_eq_true rfl) (by decide) (by decide) dX12_whole_1 (hf d k _ (by omega) hk (fun s_1 => ⟨_, rfl, ?_⟩) (fun s_1 v_1 => ⟨_, rfl, ?_⟩))
  · skip
    refine zz_istore_1 dX12_whole_4 rfl rfl ?_
    rw [pz_lv, if_pos s_1, if_neg (by decide)] at h1 h0
    exact l_X12_whole hn hr hu hu2 hl hl5 (by omega) hs hf h1 h0 51 _ 50 _ _ _ (hs k hk).2.1 (by have := (hs k hk).2.2 s_1; omega) (by omega) rfl
  · skip
    refine zz_istore_1 dX12_whole_4 rfl rfl ?_
    rw [pz_lv, if_neg (by rw [s_1]; decide)] at h0
    exact x_X12_whole hn (h0 rfl _)
