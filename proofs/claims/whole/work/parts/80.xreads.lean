theorem xr.nm {r : zz_R} (h : xr r) (o : Option Nat) : xr (zz_ur r 37 4 o) := by
  have d1 : ∀ q ∈ xr_l, ¬ (q.1 = 37 ∧ q.2.1 = 4) := by decide
  intro q hq
  rw [show zz_ur r 37 4 o q.1 q.2.1 = r q.1 q.2.1 from if_neg (d1 q hq)]
  exact h q hq
theorem x_rel.nm {S g : zz_G} {r : zz_R} {n : Nat} (h : x_rel S g r n) (o : Option Nat) : x_rel S g (zz_ur r 37 4 o) n := by
  obtain ⟨h1, h2, h3, h4, h5⟩ := h
  have er : ∀ k, k ≠ 37 → zz_ur r 37 4 o k = r k := fun k hk => zz_ur_row r o hk
  refine ⟨h1.nm o, h2, ?_, h4, ?_⟩
  · obtain ⟨pi, c1, c2, c3⟩ := h3
    exact ⟨pi, fun c hc => by rw [er _ (by omega)]; exact c1 c hc, c2, c3⟩
  · rcases h5 with ⟨k1, k2, k3⟩ | ⟨k1, k2, k3, k4, k5, k6, k7⟩
    · exact Or.inl ⟨k1, by rw [er 0 (by decide)]; exact k2, k3⟩
    · have d2 : ∀ q ∈ xk_l, q.1 ≠ 37 := by decide
      obtain ⟨pi, c1, c2, c3⟩ := k6
      exact Or.inr ⟨k1, by rw [er 0 (by decide)]; exact k2, k3, fun q hq => by rw [er _ (d2 q hq)]; exact k4 q hq, k5, ⟨pi, fun c hc => by rw [er _ (by omega)]; exact c1 c hc, c2, c3⟩, k7⟩
theorem pz_b_cg2 {R R' : Nat → Int32} {u len : Nat} (hl : len ≤ 50) (ht : ∀ k, k < 50 → R' (176 + 50 * u + k) = R (176 + 50 * u + k)) : pz_b R' u len = pz_b R u len := by
  funext k
  unfold pz_b
  by_cases h : k < len
  · rw [if_pos h, if_pos h, ht k (by omega)]
  · rw [if_neg h, if_neg h]
theorem xb_t_cg2 {R R' : Nat → Int32} {u : Nat} {sz : Int32} {st : Nat → Int32} (h5 : R' (5 + u) = R (5 + u)) (ht : ∀ k, k < 50 → R' (176 + 50 * u + k) = R (176 + 50 * u + k)) (h : xb_t R u sz st) : xb_t R' u sz st := by
  unfold xb_t at h ⊢
  rw [h5]
  rcases h with h | ⟨len, cs, a1, a2, a3, a4⟩
  · exact Or.inl h
  · refine Or.inr ⟨len, cs, a1, a2, ?_, a4⟩
    rw [pz_b_cg2 a1 ht]
    exact a3
set_option maxRecDepth 100000 in
set_option maxHeartbeats 4000000 in
theorem t_X5_reads0 {C : zz_C} {d n : Nat} {g : zz_G} {r : zz_R} {Q : zz_Q} {R : Nat → Int32} {len : Nat} (hn : 60 ≤ n) (hr : xr r) (hl5 : len ≤ 50) (hby : ∀ j, j < len → ∃ t : Nat, t < 256 ∧ R (176 + 50 * 0 + j) = nI t ∧ g 21 j = nI t) {m : Int32} (em : m = nI len)
    (h1 : (pz_run (pz_b R 0 len) 0 1 1 1).1 = true → (pz_run (pz_b R 0 len) 0 1 1 1).2.1 = len → ∀ g', (∀ a b, ¬ (a = 37 ∧ b = 2) → ¬ (a = 37 ∧ b = 3) → a ≠ 38 → a ≠ 39 → a ≠ 999 → g' a b = g a b) → g' 38 1 = nI (pz_run (pz_b R 0 len) 0 1 1 1).2.2.2.length → (∀ i, i < (pz_run (pz_b R 0 len) 0 1 1 1).2.2.2.length → g' 39 i = (pz_run (pz_b R 0 len) 0 1 1 1).2.2.2.getD i 0) → Q (some (.int 1)) g' (zz_ur r 37 4 (some (1000000 + (10 + 0)))) n)
    (h0 : ¬ ((pz_run (pz_b R 0 len) 0 1 1 1).1 = true ∧ (pz_run (pz_b R 0 len) 0 1 1 1).2.1 = len) → ∀ g', (∀ a b, ¬ (a = 37 ∧ b = 2) → ¬ (a = 37 ∧ b = 3) → a ≠ 38 → a ≠ 39 → a ≠ 999 → g' a b = g a b) → g' 37 2 = nI (pz_run (pz_b R 0 len) 0 1 1 1).2.1 → Q (some (.int 0)) g' (zz_ur r 37 4 (some (1000000 + (10 + 0)))) n) : zz_T C mi_X5_reads (d + 52) 0 0 [.ref 37, .ref 21, .int m, .ref (1000000 + (10 + 0))] g r n Q := by
  subst em
  refine zz_T.of [some (.ref 37), some (.ref 21), some (.int (nI len)), some (.ref (1000000 + (10 + 0)))] (by decide +kernel) rfl (Nat.le_of_ble_eq_true rfl) ?_
  refine zz_aload_1 dX5_reads_0 ?_
  refine zz_iconst (0) dX5_reads_1 (by decide) ?_
  refine zz_aload_0 dX5_reads_2 ?_
  refine zz_getR fl_X5_9 rfl rfl (Nat.lt_of_lt_of_le (by decide) hn) (xr_37_0 hr) dX5_reads_3 ?_
  refine zz_iconst (0) dX5_reads_6 (by decide) ?_
  refine zz_aload_1 dX5_reads_7 ?_
  refine zz_alenI rfl (Nat.lt_of_lt_of_le (by decide) hn) (v := 50) (by decide) dX5_reads_8 ?_
  refine zz_aload_0 dX5_reads_9 ?_
  refine zz_getR fl_X5_9 rfl rfl (Nat.lt_of_lt_of_le (by decide) hn) (xr_37_0 hr) dX5_reads_10 ?_
  refine zz_alen9 (zz_b_1 (xr_998_0 hr)) dX5_reads_13 ?_
  refine zz_mmin cs_X5_35 (Nat.le_of_ble_eq_true rfl) (by decide) (by decide) dX5_reads_14 ?_
  refine zz_copym 0 0 50 rfl rfl (by decide) (by omega) (by omega) (by decide) rfl rfl (Nat.lt_of_lt_of_le (by decide) hn) (Or.inr ⟨rfl, zz_b_1 (xr_998_0 hr)⟩) ca_X5_41 (Nat.le_of_ble_eq_true rfl) dX5_reads_17 ?_
  have hgc9 : ∀ j, j < 50 → zz_cpy g 21 999 0 0 50 999 j = g 21 j := fun j hj => by
    unfold zz_cpy
    rw [if_pos ⟨rfl, by omega, by omega⟩, show 0 + (j - 0) = j by omega]
  have hgco : ∀ a, a ≠ 999 → zz_cpy g 21 999 0 0 50 a = g a := fun a ha => zz_cpy_row g ha
  generalize zz_cpy g 21 999 0 0 50 = gc at hgc9 hgco ⊢
  refine zz_aload_0 dX5_reads_20 ?_
  refine zz_iconst (0) dX5_reads_21 (by decide) ?_
  refine zz_putI fl_X5_22 rfl rfl (Nat.lt_of_lt_of_le (by decide) hn) dX5_reads_22 ?_
  refine zz_aload_0 dX5_reads_25 ?_
  refine zz_iload_2 dX5_reads_26 ?_
  refine zz_aload_0 dX5_reads_27 ?_
  refine zz_getR fl_X5_9 rfl rfl (Nat.lt_of_lt_of_le (by decide) hn) (xr_37_0 hr) dX5_reads_28 ?_
  refine zz_alen9 (zz_b_1 (xr_998_0 hr)) dX5_reads_31 ?_
  refine zz_mmin cs_X5_35 (Nat.le_of_ble_eq_true rfl) (by decide) (by decide) dX5_reads_32 ?_
  rw [show (if (50 : Int32) < nI len then (50 : Int32) else nI len) = nI len from if_neg (fun z9 => absurd ((nI_ltI (a := 50) (b := len) (by omega) (by omega)).mp z9) (by omega))]
  refine zz_putI fl_X5_26 rfl rfl (Nat.lt_of_lt_of_le (by decide) hn) dX5_reads_35 ?_
  refine zz_aload_0 dX5_reads_38 ?_
  refine zz_aload_3 dX5_reads_39 ?_
  refine zz_putR fl_X5_31 rfl rfl (Nat.lt_of_lt_of_le (by decide) hn) (Or.inl rfl) rfl rfl dX5_reads_40 ?_
  have hr := hr.nm (some (1000000 + (10 + 0)))
  refine zz_aload_0 dX5_reads_43 ?_
  refine zz_getR fl_X5_18 rfl rfl (Nat.lt_of_lt_of_le (by decide) hn) (xr_37_1 hr) dX5_reads_44 ?_
  refine zz_iconst (0) dX5_reads_47 (by decide) ?_
  refine zz_putI fl_X5_47 rfl rfl (Nat.lt_of_lt_of_le (by decide) hn) dX5_reads_48 ?_
  have eg : zz_u (zz_u (zz_u gc 37 2 0) 37 3 (nI len)) 38 1 0 = rd_ (zz_u (zz_u gc 37 3 (nI len)) 38 1 0) 0 [] := by
    funext a b
    unfold zz_u rd_
    by_cases h1 : a = 38 ∧ b = 1
    · rw [if_pos h1, if_neg (by omega), if_pos h1]
      rfl
    · rw [if_neg h1]
      by_cases h2 : a = 37 ∧ b = 2
      · rw [if_neg (by omega), if_pos h2, if_pos h2]
        rfl
      · have h4 : ¬ (a = 39 ∧ b < ([] : List Int32).length) := fun z9 => absurd z9.2 (Nat.not_lt_zero _)
        show (if a = 37 ∧ b = 3 then nI len else if a = 37 ∧ b = 2 then (0 : Int32) else gc a b) = if a = 37 ∧ b = 2 then nI 0 else if a = 38 ∧ b = 1 then nI ([] : List Int32).length else if a = 39 ∧ b < ([] : List Int32).length then ([] : List Int32).getD b 0 else if a = 38 ∧ b = 1 then 0 else if a = 37 ∧ b = 3 then nI len else gc a b
        rw [if_neg h2, if_neg h2, if_neg h1, if_neg h4, if_neg h1]
  rw [eg]
  have hby2 : ∀ j, j < len → ∃ t : Nat, t < 256 ∧ R (176 + 50 * 0 + j) = nI t ∧ (zz_u (zz_u gc 37 3 (nI len)) 38 1 0) 999 j = nI t := fun j hj => by
    obtain ⟨t, a1, a2, a3⟩ := hby j hj
    exact ⟨t, a1, a2, by rw [zz_u_ne1 _ _ (by decide), zz_u_ne1 _ _ (by decide), hgc9 j (by omega)]; exact a3⟩
  have hen2 : (zz_u (zz_u gc 37 3 (nI len)) 38 1 0) 37 3 = nI len := by rw [zz_u_ne1 _ _ (by decide), zz_u_same]
  have hS := (a_X5_readOperand0 (C := C) (R := R) (x := 1) (y := 1) (z := 1) hn hr hl5 hen2 hby2 (if_pos ⟨rfl, rfl⟩) 5 (by omega)).2
  refine zz_aload_0 dX5_reads_51 ?_
  refine zz_iconst (0) dX5_reads_52 (by decide) ?_
  refine zz_iconst (0) dX5_reads_53 (by decide) ?_
  refine zz_callV2i cv_X5_50 rfl (Nat.lt_of_lt_of_le (by decide) hn) (Nat.le_of_ble_eq_true rfl) (by decide) (by decide) dX5_reads_54 (hS (d + 51) 0 [] _ (by omega) (by omega) (by simp) (fun s_54 => ⟨_, rfl, ?_⟩) (fun s_54 g1_54 j1_54 e1_54 => ⟨_, rfl, ?_⟩))
  · skip
    refine zz_if_eq 75 dX5_reads_57 (by decide) (fun h => absurd h (by decide)) (fun _ => ?_)
    refine zz_aload_0 dX5_reads_60 ?_
    refine zz_getI fl_X5_22 rfl rfl (Nat.lt_of_lt_of_le (by decide) hn) dX5_reads_61 ?_
    refine zz_aload_0 dX5_reads_64 ?_
    refine zz_getI fl_X5_26 rfl rfl (Nat.lt_of_lt_of_le (by decide) hn) dX5_reads_65 ?_
    refine zz_icmp_ne 75 dX5_reads_68 (by decide) (fun c_68 => ?_) (fun c_68 => ?_)
    · skip
      refine zz_iconst (0) dX5_reads_75 (by decide) ?_
      refine zz_zret rfl (by rfl) dX5_reads_76 (by decide) (by decide) ?_
      rw [rd_k, rd_en, hen2] at c_68
      refine h0 (fun z9 => c_68 (congrArg nI z9.2)) _ (fun a b q1 q2 q3 q4 q5 => ?_) (rd_k _ _ _)
      rw [rd_j a b q1 q3 q4]
      unfold zz_u
      rw [if_neg (by omega), if_neg q2, hgco a q5]
    · skip
      refine zz_iconst (1) dX5_reads_71 (by decide) ?_
      refine zz_goto 76 dX5_reads_72 (by decide) ?_
      refine zz_zret rfl (by rfl) dX5_reads_76 (by decide) (by decide) ?_
      rw [rd_k, rd_en, hen2] at c_68
      have hpos : (pz_run (pz_b R 0 len) 0 1 1 1).2.1 = len := (nI_eq (by have := (pz_up_ok (R := R) (u := 0) (len := len) (pz_f_ok (R := R) (u := 0) (len := len) (x := 1) (y := 1) (z := 1) 5) 5 0 (by omega)).2.1; show (pz_up _ _ 5 0).2.1 < _; omega) (by omega)).mp c_68
      have h9 := h1 s_54 hpos (rd_ (zz_u (zz_u gc 37 3 (nI len)) 38 1 0) (pz_run (pz_b R 0 len) 0 1 1 1).2.1 (pz_run (pz_b R 0 len) 0 1 1 1).2.2.2) (fun a b q1 q2 q3 q4 q5 => by
        rw [rd_j a b q1 q3 q4]
        unfold zz_u
        rw [if_neg (by omega), if_neg q2, hgco a q5]) (rd_sz _ _ _) (fun i hi => by
        unfold rd_
        rw [if_neg (by omega), if_neg (by omega), if_pos ⟨rfl, hi⟩])
      exact h9
  · skip
    refine zz_if_eq 75 dX5_reads_57 (by decide) (fun _ => ?_) (fun h => absurd h (by decide))
    refine zz_iconst (0) dX5_reads_75 (by decide) ?_
    refine zz_zret rfl (by rfl) dX5_reads_76 (by decide) (by decide) ?_
    refine h0 (fun z9 => by rw [show (pz_run (pz_b R 0 len) 0 1 1 1).1 = false from s_54] at z9; exact absurd z9.1 (by decide)) _ (fun a b q1 q2 q3 q4 q5 => ?_) e1_54
    rw [j1_54 a b q1 q3 q4]
    unfold zz_u
    rw [if_neg (by omega), if_neg q2, hgco a q5]

set_option maxRecDepth 100000 in
set_option maxHeartbeats 4000000 in
theorem t_X5_reads1 {C : zz_C} {d n : Nat} {g : zz_G} {r : zz_R} {Q : zz_Q} {R : Nat → Int32} {len : Nat} (hn : 60 ≤ n) (hr : xr r) (hl5 : len ≤ 50) (hby : ∀ j, j < len → ∃ t : Nat, t < 256 ∧ R (176 + 50 * 1 + j) = nI t ∧ g 21 j = nI t) {m : Int32} (em : m = nI len)
    (h1 : (pz_run (pz_b R 1 len) 1 1 1 1).1 = true → (pz_run (pz_b R 1 len) 1 1 1 1).2.1 = len → ∀ g', (∀ a b, ¬ (a = 37 ∧ b = 2) → ¬ (a = 37 ∧ b = 3) → a ≠ 38 → a ≠ 39 → a ≠ 999 → g' a b = g a b) → g' 38 1 = nI (pz_run (pz_b R 1 len) 1 1 1 1).2.2.2.length → (∀ i, i < (pz_run (pz_b R 1 len) 1 1 1 1).2.2.2.length → g' 39 i = (pz_run (pz_b R 1 len) 1 1 1 1).2.2.2.getD i 0) → Q (some (.int 1)) g' (zz_ur r 37 4 (some (1000000 + (10 + 1)))) n)
    (h0 : ¬ ((pz_run (pz_b R 1 len) 1 1 1 1).1 = true ∧ (pz_run (pz_b R 1 len) 1 1 1 1).2.1 = len) → ∀ g', (∀ a b, ¬ (a = 37 ∧ b = 2) → ¬ (a = 37 ∧ b = 3) → a ≠ 38 → a ≠ 39 → a ≠ 999 → g' a b = g a b) → g' 37 2 = nI (pz_run (pz_b R 1 len) 1 1 1 1).2.1 → Q (some (.int 0)) g' (zz_ur r 37 4 (some (1000000 + (10 + 1)))) n) : zz_T C mi_X5_reads (d + 52) 0 0 [.ref 37, .ref 21, .int m, .ref (1000000 + (10 + 1))] g r n Q := by
  subst em
  refine zz_T.of [some (.ref 37), some (.ref 21), some (.int (nI len)), some (.ref (1000000 + (10 + 1)))] (by decide +kernel) rfl (Nat.le_of_ble_eq_true rfl) ?_
  refine zz_aload_1 dX5_reads_0 ?_
  refine zz_iconst (0) dX5_reads_1 (by decide) ?_
  refine zz_aload_0 dX5_reads_2 ?_
  refine zz_getR fl_X5_9 rfl rfl (Nat.lt_of_lt_of_le (by decide) hn) (xr_37_0 hr) dX5_reads_3 ?_
  refine zz_iconst (0) dX5_reads_6 (by decide) ?_
  refine zz_aload_1 dX5_reads_7 ?_
  refine zz_alenI rfl (Nat.lt_of_lt_of_le (by decide) hn) (v := 50) (by decide) dX5_reads_8 ?_
  refine zz_aload_0 dX5_reads_9 ?_
  refine zz_getR fl_X5_9 rfl rfl (Nat.lt_of_lt_of_le (by decide) hn) (xr_37_0 hr) dX5_reads_10 ?_
  refine zz_alen9 (zz_b_1 (xr_998_0 hr)) dX5_reads_13 ?_
  refine zz_mmin cs_X5_35 (Nat.le_of_ble_eq_true rfl) (by decide) (by decide) dX5_reads_14 ?_
  refine zz_copym 0 0 50 rfl rfl (by decide) (by omega) (by omega) (by decide) rfl rfl (Nat.lt_of_lt_of_le (by decide) hn) (Or.inr ⟨rfl, zz_b_1 (xr_998_0 hr)⟩) ca_X5_41 (Nat.le_of_ble_eq_true rfl) dX5_reads_17 ?_
  have hgc9 : ∀ j, j < 50 → zz_cpy g 21 999 0 0 50 999 j = g 21 j := fun j hj => by
    unfold zz_cpy
    rw [if_pos ⟨rfl, by omega, by omega⟩, show 0 + (j - 0) = j by omega]
  have hgco : ∀ a, a ≠ 999 → zz_cpy g 21 999 0 0 50 a = g a := fun a ha => zz_cpy_row g ha
  generalize zz_cpy g 21 999 0 0 50 = gc at hgc9 hgco ⊢
  refine zz_aload_0 dX5_reads_20 ?_
  refine zz_iconst (0) dX5_reads_21 (by decide) ?_
  refine zz_putI fl_X5_22 rfl rfl (Nat.lt_of_lt_of_le (by decide) hn) dX5_reads_22 ?_
  refine zz_aload_0 dX5_reads_25 ?_
  refine zz_iload_2 dX5_reads_26 ?_
  refine zz_aload_0 dX5_reads_27 ?_
  refine zz_getR fl_X5_9 rfl rfl (Nat.lt_of_lt_of_le (by decide) hn) (xr_37_0 hr) dX5_reads_28 ?_
  refine zz_alen9 (zz_b_1 (xr_998_0 hr)) dX5_reads_31 ?_
  refine zz_mmin cs_X5_35 (Nat.le_of_ble_eq_true rfl) (by decide) (by decide) dX5_reads_32 ?_
  rw [show (if (50 : Int32) < nI len then (50 : Int32) else nI len) = nI len from if_neg (fun z9 => absurd ((nI_ltI (a := 50) (b := len) (by omega) (by omega)).mp z9) (by omega))]
  refine zz_putI fl_X5_26 rfl rfl (Nat.lt_of_lt_of_le (by decide) hn) dX5_reads_35 ?_
  refine zz_aload_0 dX5_reads_38 ?_
  refine zz_aload_3 dX5_reads_39 ?_
  refine zz_putR fl_X5_31 rfl rfl (Nat.lt_of_lt_of_le (by decide) hn) (Or.inl rfl) rfl rfl dX5_reads_40 ?_
  have hr := hr.nm (some (1000000 + (10 + 1)))
  refine zz_aload_0 dX5_reads_43 ?_
  refine zz_getR fl_X5_18 rfl rfl (Nat.lt_of_lt_of_le (by decide) hn) (xr_37_1 hr) dX5_reads_44 ?_
  refine zz_iconst (0) dX5_reads_47 (by decide) ?_
  refine zz_putI fl_X5_47 rfl rfl (Nat.lt_of_lt_of_le (by decide) hn) dX5_reads_48 ?_
  have eg : zz_u (zz_u (zz_u gc 37 2 0) 37 3 (nI len)) 38 1 0 = rd_ (zz_u (zz_u gc 37 3 (nI len)) 38 1 0) 0 [] := by
    funext a b
    unfold zz_u rd_
    by_cases h1 : a = 38 ∧ b = 1
    · rw [if_pos h1, if_neg (by omega), if_pos h1]
      rfl
    · rw [if_neg h1]
      by_cases h2 : a = 37 ∧ b = 2
      · rw [if_neg (by omega), if_pos h2, if_pos h2]
        rfl
      · have h4 : ¬ (a = 39 ∧ b < ([] : List Int32).length) := fun z9 => absurd z9.2 (Nat.not_lt_zero _)
        show (if a = 37 ∧ b = 3 then nI len else if a = 37 ∧ b = 2 then (0 : Int32) else gc a b) = if a = 37 ∧ b = 2 then nI 0 else if a = 38 ∧ b = 1 then nI ([] : List Int32).length else if a = 39 ∧ b < ([] : List Int32).length then ([] : List Int32).getD b 0 else if a = 38 ∧ b = 1 then 0 else if a = 37 ∧ b = 3 then nI len else gc a b
        rw [if_neg h2, if_neg h2, if_neg h1, if_neg h4, if_neg h1]
  rw [eg]
  have hby2 : ∀ j, j < len → ∃ t : Nat, t < 256 ∧ R (176 + 50 * 1 + j) = nI t ∧ (zz_u (zz_u gc 37 3 (nI len)) 38 1 0) 999 j = nI t := fun j hj => by
    obtain ⟨t, a1, a2, a3⟩ := hby j hj
    exact ⟨t, a1, a2, by rw [zz_u_ne1 _ _ (by decide), zz_u_ne1 _ _ (by decide), hgc9 j (by omega)]; exact a3⟩
  have hen2 : (zz_u (zz_u gc 37 3 (nI len)) 38 1 0) 37 3 = nI len := by rw [zz_u_ne1 _ _ (by decide), zz_u_same]
  have hS := (a_X5_readOperand1 (C := C) (R := R) (x := 1) (y := 1) (z := 1) hn hr hl5 hen2 hby2 (if_pos ⟨rfl, rfl⟩) 5 (by omega)).2
  refine zz_aload_0 dX5_reads_51 ?_
  refine zz_iconst (0) dX5_reads_52 (by decide) ?_
  refine zz_iconst (0) dX5_reads_53 (by decide) ?_
  refine zz_callV2i cv_X5_50 rfl (Nat.lt_of_lt_of_le (by decide) hn) (Nat.le_of_ble_eq_true rfl) (by decide) (by decide) dX5_reads_54 (hS (d + 51) 0 [] _ (by omega) (by omega) (by simp) (fun s_54 => ⟨_, rfl, ?_⟩) (fun s_54 g1_54 j1_54 e1_54 => ⟨_, rfl, ?_⟩))
  · skip
    refine zz_if_eq 75 dX5_reads_57 (by decide) (fun h => absurd h (by decide)) (fun _ => ?_)
    refine zz_aload_0 dX5_reads_60 ?_
    refine zz_getI fl_X5_22 rfl rfl (Nat.lt_of_lt_of_le (by decide) hn) dX5_reads_61 ?_
    refine zz_aload_0 dX5_reads_64 ?_
    refine zz_getI fl_X5_26 rfl rfl (Nat.lt_of_lt_of_le (by decide) hn) dX5_reads_65 ?_
    refine zz_icmp_ne 75 dX5_reads_68 (by decide) (fun c_68 => ?_) (fun c_68 => ?_)
    · skip
      refine zz_iconst (0) dX5_reads_75 (by decide) ?_
      refine zz_zret rfl (by rfl) dX5_reads_76 (by decide) (by decide) ?_
      rw [rd_k, rd_en, hen2] at c_68
      refine h0 (fun z9 => c_68 (congrArg nI z9.2)) _ (fun a b q1 q2 q3 q4 q5 => ?_) (rd_k _ _ _)
      rw [rd_j a b q1 q3 q4]
      unfold zz_u
      rw [if_neg (by omega), if_neg q2, hgco a q5]
    · skip
      refine zz_iconst (1) dX5_reads_71 (by decide) ?_
      refine zz_goto 76 dX5_reads_72 (by decide) ?_
      refine zz_zret rfl (by rfl) dX5_reads_76 (by decide) (by decide) ?_
      rw [rd_k, rd_en, hen2] at c_68
      have hpos : (pz_run (pz_b R 1 len) 1 1 1 1).2.1 = len := (nI_eq (by have := (pz_up_ok (R := R) (u := 1) (len := len) (pz_f_ok (R := R) (u := 1) (len := len) (x := 1) (y := 1) (z := 1) 5) 5 0 (by omega)).2.1; show (pz_up _ _ 5 0).2.1 < _; omega) (by omega)).mp c_68
      have h9 := h1 s_54 hpos (rd_ (zz_u (zz_u gc 37 3 (nI len)) 38 1 0) (pz_run (pz_b R 1 len) 1 1 1 1).2.1 (pz_run (pz_b R 1 len) 1 1 1 1).2.2.2) (fun a b q1 q2 q3 q4 q5 => by
        rw [rd_j a b q1 q3 q4]
        unfold zz_u
        rw [if_neg (by omega), if_neg q2, hgco a q5]) (rd_sz _ _ _) (fun i hi => by
        unfold rd_
        rw [if_neg (by omega), if_neg (by omega), if_pos ⟨rfl, hi⟩])
      exact h9
  · skip
    refine zz_if_eq 75 dX5_reads_57 (by decide) (fun _ => ?_) (fun h => absurd h (by decide))
    refine zz_iconst (0) dX5_reads_75 (by decide) ?_
    refine zz_zret rfl (by rfl) dX5_reads_76 (by decide) (by decide) ?_
    refine h0 (fun z9 => by rw [show (pz_run (pz_b R 1 len) 1 1 1 1).1 = false from s_54] at z9; exact absurd z9.1 (by decide)) _ (fun a b q1 q2 q3 q4 q5 => ?_) e1_54
    rw [j1_54 a b q1 q3 q4]
    unfold zz_u
    rw [if_neg (by omega), if_neg q2, hgco a q5]

set_option maxRecDepth 100000 in
set_option maxHeartbeats 4000000 in
theorem t_X8_copyFrom {C : zz_C} {d n : Nat} {g : zz_G} {r : zz_R} {Q : zz_Q} {k1 k2 t1 t2 : Nat} (hc1 : zz_sh k1 = (0, 8, 2)) (hc2 : zz_sh k2 = (0, 8, 2)) (hs1 : zz_sh t1 = (1, 0, 50)) (hs2 : zz_sh t2 = (1, 0, 50)) (hkc1 : k1 < n) (hkc2 : k2 < n) (hk1 : t1 < n) (hk2 : t2 < n) (hr1 : r k1 0 = some t1) (hr2 : r k2 0 = some t2) (h : Q none (zz_u (zz_cpy g t1 t2 0 0 50) k2 1 (zz_cpy g t1 t2 0 0 50 k1 1)) r n) : zz_T C mi_X8_copyFrom (d + 1) 0 0 [.ref k2, .ref k1] g r n Q := by
  refine zz_T.of [some (.ref k2), some (.ref k1)] (by decide +kernel) rfl (Nat.le_of_ble_eq_true rfl) ?_
  refine zz_aload_1 dX8_copyFrom_0 ?_
  refine zz_getR fl_X8_9 hc1 rfl hkc1 hr1 dX8_copyFrom_1 ?_
  refine zz_iconst (0) dX8_copyFrom_4 (by decide) ?_
  refine zz_aload_0 dX8_copyFrom_5 ?_
  refine zz_getR fl_X8_9 hc2 rfl hkc2 hr2 dX8_copyFrom_6 ?_
  refine zz_iconst (0) dX8_copyFrom_9 (by decide) ?_
  refine zz_bipush (50) dX8_copyFrom_10 (by decide) ?_
  refine zz_copy 0 0 50 rfl rfl rfl (by omega) (by omega) (by decide) hs1 hs2 hk1 hk2 ca_X8_19 (Nat.le_of_ble_eq_true rfl) dX8_copyFrom_12 ?_
  refine zz_aload_0 dX8_copyFrom_15 ?_
  refine zz_aload_1 dX8_copyFrom_16 ?_
  refine zz_getI fl_X8_15 hc1 rfl hkc1 dX8_copyFrom_17 ?_
  refine zz_putI fl_X8_15 hc2 rfl hkc2 dX8_copyFrom_20 ?_
  refine zz_vret rfl dX8_copyFrom_23 (by decide) (by decide) ?_
  exact h

theorem sp_tc_b {S g : zz_G} {r : zz_R} {n u len : Nat} (hx : x_rel S g r n) (hW : wr (S 51)) (hl : len ≤ 50) : ∀ j, j < len → ∃ t : Nat, t < 256 ∧ sp_tx S u 51 (176 + 50 * u + j) = nI t ∧ g 21 j = nI t := by
  intro j hj
  obtain ⟨t, -, ht, et⟩ := hW.2.2 j (by omega)
  refine ⟨t, by omega, ?_, (x_tp hx (by omega)).symm.trans et⟩
  unfold sp_tx
  rw [zz_u_ne2 _ _ (by omega), show sp_tc S u 50 51 (176 + 50 * u + j) = S 51 (176 + 50 * u + j - (70 + 50 * u)) from if_pos (by omega), show 176 + 50 * u + j - (70 + 50 * u) = 106 + j by omega]
  exact et
theorem x_tx {S g g' : zz_G} {r : zz_R} {n u len : Nat} {cs : List Int32} (hx : x_rel S g r n) (hu : u < 2) (hl : len ≤ 50) (el : S 51 3 = nI len)
    (eg : ∀ k, k ≠ 23 + 2 * u → k ≠ 24 + 2 * u → (k < 37 ∨ (40 < k ∧ k < 999)) → g' k = g k) (hsz : g' (23 + 2 * u) 1 = nI cs.length) (hst : ∀ i, i < cs.length → g' (24 + 2 * u) i = cs.getD i 0) (hc0 : 0 < cs.length) (hc5 : cs.length ≤ 50)
    (hrun : ∀ x y z : Int32, (pz_run (pz_b (sp_tx S u 51) u len) u x y z).1 = true ∧ (pz_run (pz_b (sp_tx S u 51) u len) u x y z).2.2.2 = cs) : x_rel (sp_tx S u) g' r n := by
  obtain ⟨h1, h2, h3, h4, h5⟩ := hx
  have es : ∀ a b, ¬ (a = 51 ∧ (b = 5 + u ∨ (176 + 50 * u ≤ b ∧ b < 176 + 50 * u + 50))) → sp_tx S u a b = S a b := fun a b hb => by
    unfold sp_tx zz_u sp_tc
    rw [if_neg (by omega), if_neg (by omega)]
  refine ⟨h1, fun q hq i hi => ?_, ?_, fun v hv => ?_, ?_⟩
  · have dj : ∀ q ∈ xq_l, (q.1 < 37 ∨ (40 < q.1 ∧ q.1 < 999)) ∧ (q.1 < 23 ∨ 26 < q.1) ∧ (q.2.2.2.1 = 51 → (q.2.2.2.2 + q.2.2.1 ≤ 5 ∨ (7 ≤ q.2.2.2.2 ∧ q.2.2.2.2 + q.2.2.1 ≤ 176))) := by decide
    obtain ⟨d1, d2, d3⟩ := dj q hq
    rw [eg _ (by omega) (by omega) d1, es _ _ (fun z9 => by have := d3 z9.1; omega)]
    exact h2 q hq i hi
  · obtain ⟨pi, c1, c2, c3⟩ := h3
    refine ⟨pi, c1, c2, fun c j hc hj => ?_⟩
    have := (c1 c hc).1
    rw [eg _ (by omega) (by omega) (by omega), es _ _ (by omega)]
    exact c3 c j hc hj
  · by_cases e : v = u
    · subst e
      rw [hsz]
      refine Or.inr ⟨len, cs, hl, ?_, hrun, hc0, hc5, rfl, hst⟩
      unfold sp_tx
      rw [zz_u_same]
      exact el
    · rw [eg _ (by omega) (by omega) (by omega), eg _ (by omega) (by omega) (by omega)]
      exact xb_t_cg2 (es _ _ (by omega)) (fun k hk => es _ _ (by omega)) (h4 v hv)
  · rw [es 50 3 (by omega), show sp_tx S u 52 = S 52 from funext fun b => es _ _ (by omega)]
    rcases h5 with h5 | ⟨k1, k2, k3, k4, k5, k6, k7⟩
    · exact Or.inl h5
    · refine Or.inr ⟨k1, k2, k3, k4, ?_, ?_, fun v hv => ?_⟩
      · unfold xk_P at k5 ⊢
        rw [eg 60 (by omega) (by omega) (by omega), eg 61 (by omega) (by omega) (by omega), eg 80 (by omega) (by omega) (by omega), eg 86 (by omega) (by omega) (by omega)]
        exact ⟨k5.1, k5.2.1, fun w j hw hj => by rw [eg _ (by omega) (by omega) (by omega)]; exact k5.2.2.1 w j hw hj, k5.2.2.2⟩
      · obtain ⟨pi, c1, c2, c3⟩ := k6
        refine ⟨pi, c1, c2, fun c j hc hj => ?_⟩
        have := (c1 c hc).1
        rw [eg _ (by omega) (by omega) (by omega)]
        exact c3 c j hc hj
      · rw [eg _ (by omega) (by omega) (by omega), eg _ (by omega) (by omega) (by omega)]
        exact k7 v hv
set_option maxRecDepth 100000 in
set_option maxHeartbeats 4000000 in
theorem t_X11_text {C : zz_C} {d n : Nat} {g : zz_G} {r : zz_R} {Q : zz_Q} {S : zz_G} (hx : x_rel S g r n) {v : Int32} (hW : wr (S 51)) (h : x_o g Q (sp_text S v)) : zz_T C mi_X11_text (d + 53) 0 0 [.ref 0, .int v] g r n Q := by
  have hn := hx.nn
  have hr := hx.1
  obtain ⟨len, hl0, hl5, el⟩ := hW.1.2.2.1
  refine zz_T.of [some (.ref 0), some (.int v), none] (by decide +kernel) rfl (Nat.le_of_ble_eq_true rfl) ?_
  refine zz_iload_1 dX11_text_0 ?_
  refine zz_iconst (1) dX11_text_1 (by decide) ?_
  refine zz_callS2i cs_X11_93 (Nat.le_of_ble_eq_true rfl) (by decide) (by decide) dX11_text_2 (t_X11_within (fun a_2 b_2 => ⟨_, rfl, ?_⟩) (fun o_2 => ⟨_, rfl, ?_⟩))
  · skip
    refine zz_if_ne 14 dX11_text_5 (by decide) (fun _ => ?_) (fun h => absurd h (by decide))
    refine zz_aload_0 dX11_text_14 ?_
    refine zz_getR fl_X11_55 rfl rfl (Nat.lt_of_lt_of_le (by decide) hn) (xr_0_5 hr) dX11_text_15 ?_
    refine zz_aload_0 dX11_text_18 ?_
    refine zz_getR fl_X11_10 rfl rfl (Nat.lt_of_lt_of_le (by decide) hn) (xr_0_0 hr) dX11_text_19 ?_
    refine zz_getR fl_X11_143 rfl rfl (Nat.lt_of_lt_of_le (by decide) hn) (xr_1_10 hr) dX11_text_22 ?_
    refine zz_aload_0 dX11_text_25 ?_
    refine zz_getR fl_X11_10 rfl rfl (Nat.lt_of_lt_of_le (by decide) hn) (xr_0_0 hr) dX11_text_26 ?_
    refine zz_getI fl_X11_140 rfl rfl (Nat.lt_of_lt_of_le (by decide) hn) dX11_text_29 ?_
    refine zz_iload_1 dX11_text_32 ?_
    refine zz_if_ne 41 dX11_text_33 (by decide) (fun c_33 => ?_) (fun c_33 => ?_)
    · skip
      refine zz_ldcS (i := 11) gl_X11_148 dX11_text_41 ?_
      have e_33 : v = nI 1 := by
        obtain ⟨u1, hu0, hu1, eu1⟩ := zz_in0 (lo := 0) (hi := 1) rfl rfl (by decide) (by decide) a_2 b_2
        rcases (show u1 = 0 ∨ u1 = 1 by omega) with e | e
        · rw [e] at eu1
          exact absurd eu1 c_33
        · rw [e] at eu1
          exact eu1
      rw [sp_text, if_neg (fun z9 => z9.elim a_2 b_2), show v.toNatClampNeg = 1 from by rw [e_33]; exact ix_w (by omega), el, ix_w (by omega), sp_textT] at h
      refine zz_callV3i cv_X11_150 rfl (Nat.lt_of_lt_of_le (by decide) hn) (Nat.le_of_ble_eq_true rfl) (by decide) (by decide) dX11_text_43 (t_X5_reads1 (R := sp_tx S 1 51) hn hr hl5 (sp_tc_b hx hW hl5) ((x_s3 hx).symm.trans el) (fun s_43 p_43 g1_43 j1_43 z1_43 t1_43 => ⟨_, rfl, ?_⟩) (fun s_43 g1_43 j1_43 e1_43 => ⟨_, rfl, ?_⟩))
      · skip
        refine zz_istore_2 dX11_text_46 rfl rfl ?_
        have hr := hr.nm (some (1000000 + (10 + 1)))
        refine zz_aload_0 dX11_text_47 ?_
        refine zz_getR fl_X11_10 rfl rfl (Nat.lt_of_lt_of_le (by decide) hn) (xr_0_0 hr) dX11_text_48 ?_
        refine zz_iconst (0) dX11_text_51 (by decide) ?_
        refine zz_putI fl_X11_140 rfl rfl (Nat.lt_of_lt_of_le (by decide) hn) dX11_text_52 ?_
        refine zz_iload_2 dX11_text_55 ?_
        refine zz_if_ne 70 dX11_text_56 (by decide) (fun _ => ?_) (fun h => absurd h (by decide))
        refine zz_aload_0 dX11_text_70 ?_
        refine zz_getR fl_X11_10 rfl rfl (Nat.lt_of_lt_of_le (by decide) hn) (xr_0_0 hr) dX11_text_71 ?_
        refine zz_getR fl_X11_157 rfl rfl (Nat.lt_of_lt_of_le (by decide) hn) (xr_1_12 hr) dX11_text_74 ?_
        refine zz_iload_1 dX11_text_77 ?_
        refine zz_aaN 1 e_33 (by decide) (by decide) (by decide) rfl (Nat.lt_of_lt_of_le (by decide) hn) (xr_text hr 1 (by decide)) dX11_text_78 ?_
        refine zz_aload_0 dX11_text_79 ?_
        refine zz_getR fl_X11_55 rfl rfl (Nat.lt_of_lt_of_le (by decide) hn) (xr_0_5 hr) dX11_text_80 ?_
        refine zz_getR fl_X11_161 rfl rfl (Nat.lt_of_lt_of_le (by decide) hn) (xr_37_1 hr) dX11_text_83 ?_
        refine zz_callV1v cv_X11_165 (xs_text 1 (by decide)) (by omega) (Nat.le_of_ble_eq_true rfl) (by decide) (by decide) dX11_text_86 (t_X8_copyFrom (k1 := 38) (k2 := 23 + 2 * 1) (t1 := 39) (t2 := 24 + 2 * 1) rfl (xs_text 1 (by decide)) rfl (xs_step 1 (by decide)) (Nat.lt_of_lt_of_le (by decide) hn) (by omega) (Nat.lt_of_lt_of_le (by decide) hn) (by omega) (xr_38_0 hr) (xr_25_0 hr) ⟨rfl, ?_⟩)
        refine zz_iconst (1) dX11_text_89 (by decide) ?_
        refine zz_iret rfl dX11_text_90 (by decide) (by decide) ?_
        rw [if_pos ⟨s_43, p_43⟩] at h
        have hln := pz_run_ln s_43
        have hg : ∀ k, (k < 37 ∨ (40 < k ∧ k < 999)) → g1_43 k = g k := fun k hk => funext fun b => j1_43 k b (by omega) (by omega) (by omega) (by omega) (by omega)
        have hcp : ∀ k, k ≠ 23 + 2 * 1 → k ≠ 24 + 2 * 1 → k ≠ 1 → zz_u (zz_cpy (zz_u g1_43 1 11 0) 39 (24 + 2 * 1) 0 0 50) (23 + 2 * 1) 1 (zz_cpy (zz_u g1_43 1 11 0) 39 (24 + 2 * 1) 0 0 50 38 1) k = g1_43 k := fun k q1 q2 q3 => (zz_u_row _ _ q1).trans ((zz_cpy_row _ q2).trans (zz_u_row _ _ q3))
        have hxt : x_rel (sp_tx S 1) (zz_u (zz_cpy (zz_u g1_43 1 11 (g 1 11)) 39 (24 + 2 * 1) 0 0 50) (23 + 2 * 1) 1 (nI (pz_run (pz_b (sp_tx S 1 51) 1 len) 1 1 1 1).2.2.2.length)) (zz_ur r 37 4 (some (1000000 + (10 + 1)))) n := by
          refine x_tx (hx.nm _) (by decide) hl5 el (fun k q1 q2 q3 => ?_) (zz_u_same _ _ _ _) (fun i hi => ?_) hln.1 (by omega) (fun x y z => ?_)
          · rw [zz_u_row _ _ q1, zz_cpy_row _ q2]
            by_cases hk1 : k = 1
            · subst hk1
              funext b
              by_cases hb : b = 11
              · subst hb
                rw [zz_u_same]
              · rw [zz_u_ne2 _ _ hb, hg 1 (by omega)]
            · rw [zz_u_row _ _ hk1, hg k q3]
          · rw [zz_u_ne1 _ _ (by decide)]
            unfold zz_cpy
            rw [if_pos ⟨rfl, by omega, by omega⟩, show 0 + (i - 0) = i by omega, zz_u_ne1 _ _ (by decide)]
            exact t1_43 i hi
          · obtain ⟨q1, q2, q3⟩ := pz_run_e (b := pz_b (sp_tx S 1 51) 1 len) (u := 1) x y z 1 1 1
            exact ⟨q1.trans s_43, q3⟩
        have hF := (x_F.rf hxt).s3 (x := 0)
        have eF : zz_u (zz_u (zz_cpy (zz_u g1_43 1 11 (g 1 11)) 39 (24 + 2 * 1) 0 0 50) (23 + 2 * 1) 1 (nI (pz_run (pz_b (sp_tx S 1 51) 1 len) 1 1 1 1).2.2.2.length)) 1 11 0 = zz_u (zz_cpy (zz_u g1_43 1 11 0) 39 (24 + 2 * 1) 0 0 50) (23 + 2 * 1) 1 (zz_cpy (zz_u g1_43 1 11 0) 39 (24 + 2 * 1) 0 0 50 38 1) := by
          rw [show zz_cpy (zz_u g1_43 1 11 0) 39 (24 + 2 * 1) 0 0 50 38 1 = nI (pz_run (pz_b (sp_tx S 1 51) 1 len) 1 1 1 1).2.2.2.length from by rw [zz_cpy_row _ (by decide), zz_u_ne1 _ _ (by decide)]; exact z1_43]
          funext a b
          unfold zz_u zz_cpy
          by_cases h1 : a = 1 ∧ b = 11
          · rw [if_pos h1, if_neg (by omega), if_neg (by omega)]
            exact (if_pos h1).symm
          · rw [if_neg h1]
            by_cases h2 : a = 23 + 2 * 1 ∧ b = 1
            · rw [if_pos h2, if_pos h2]
            · rw [if_neg h2, if_neg h2]
              by_cases h3 : a = 24 + 2 * 1 ∧ 0 ≤ b ∧ b < 0 + 50
              · rw [if_pos h3, if_pos h3]
                exact (if_neg (by omega)).trans (if_neg (by omega)).symm
              · rw [if_neg h3, if_neg h3]
                exact (if_neg h1).trans (if_neg h1).symm
        rw [eF] at hF
        exact h _ _ _ hF.1 (fun k q1 q2 => (hcp k (by omega) (by omega) (by omega)).trans (hg k (by omega)))
      · skip
        refine zz_istore_2 dX11_text_46 rfl rfl ?_
        have hr := hr.nm (some (1000000 + (10 + 1)))
        refine zz_aload_0 dX11_text_47 ?_
        refine zz_getR fl_X11_10 rfl rfl (Nat.lt_of_lt_of_le (by decide) hn) (xr_0_0 hr) dX11_text_48 ?_
        refine zz_iconst (0) dX11_text_51 (by decide) ?_
        refine zz_putI fl_X11_140 rfl rfl (Nat.lt_of_lt_of_le (by decide) hn) dX11_text_52 ?_
        refine zz_iload_2 dX11_text_55 ?_
        refine zz_if_ne 70 dX11_text_56 (by decide) (fun h => absurd h (by decide)) (fun _ => ?_)
        refine zz_bipush (-10) dX11_text_59 (by decide) ?_
        refine zz_aload_0 dX11_text_61 ?_
        refine zz_getR fl_X11_55 rfl rfl (Nat.lt_of_lt_of_le (by decide) hn) (xr_0_5 hr) dX11_text_62 ?_
        refine zz_getI fl_X11_154 rfl rfl (Nat.lt_of_lt_of_le (by decide) hn) dX11_text_65 ?_
        refine zz_isub dX11_text_68 ?_
        refine zz_iret rfl dX11_text_69 (by decide) (by decide) ?_
        rw [if_neg s_43] at h
        have e9 : zz_u g1_43 1 11 0 37 2 = nI (pz_run (pz_b (sp_tx S 1 51) 1 len) 1 1 1 1).2.1 := (zz_u_ne1 _ _ (by decide)).trans e1_43
        rw [e9]
        have hg : ∀ k, (k < 37 ∨ (40 < k ∧ k < 999)) → g1_43 k = g k := fun k hk => funext fun b => j1_43 k b (by omega) (by omega) (by omega) (by omega) (by omega)
        exact h _ _ _ ((x_F.rf ((hx.nm _).cg hg)).s3 (x := 0)).1 (fun k q1 q2 => (zz_u_row _ _ (by omega)).trans (hg k (by omega)))
    · skip
      refine zz_ldcS (i := 10) gl_X11_146 dX11_text_36 ?_
      refine zz_goto 43 dX11_text_38 (by decide) ?_
      have e_33 : v = nI 0 := c_33
      rw [sp_text, if_neg (fun z9 => z9.elim a_2 b_2), show v.toNatClampNeg = 0 from by rw [e_33]; exact ix_w (by omega), el, ix_w (by omega), sp_textT] at h
      refine zz_callV3i cv_X11_150 rfl (Nat.lt_of_lt_of_le (by decide) hn) (Nat.le_of_ble_eq_true rfl) (by decide) (by decide) dX11_text_43 (t_X5_reads0 (R := sp_tx S 0 51) hn hr hl5 (sp_tc_b hx hW hl5) ((x_s3 hx).symm.trans el) (fun s_43 p_43 g1_43 j1_43 z1_43 t1_43 => ⟨_, rfl, ?_⟩) (fun s_43 g1_43 j1_43 e1_43 => ⟨_, rfl, ?_⟩))
      · skip
        refine zz_istore_2 dX11_text_46 rfl rfl ?_
        have hr := hr.nm (some (1000000 + (10 + 0)))
        refine zz_aload_0 dX11_text_47 ?_
        refine zz_getR fl_X11_10 rfl rfl (Nat.lt_of_lt_of_le (by decide) hn) (xr_0_0 hr) dX11_text_48 ?_
        refine zz_iconst (0) dX11_text_51 (by decide) ?_
        refine zz_putI fl_X11_140 rfl rfl (Nat.lt_of_lt_of_le (by decide) hn) dX11_text_52 ?_
        refine zz_iload_2 dX11_text_55 ?_
        refine zz_if_ne 70 dX11_text_56 (by decide) (fun _ => ?_) (fun h => absurd h (by decide))
        refine zz_aload_0 dX11_text_70 ?_
        refine zz_getR fl_X11_10 rfl rfl (Nat.lt_of_lt_of_le (by decide) hn) (xr_0_0 hr) dX11_text_71 ?_
        refine zz_getR fl_X11_157 rfl rfl (Nat.lt_of_lt_of_le (by decide) hn) (xr_1_12 hr) dX11_text_74 ?_
        refine zz_iload_1 dX11_text_77 ?_
        refine zz_aaN 0 e_33 (by decide) (by decide) (by decide) rfl (Nat.lt_of_lt_of_le (by decide) hn) (xr_text hr 0 (by decide)) dX11_text_78 ?_
        refine zz_aload_0 dX11_text_79 ?_
        refine zz_getR fl_X11_55 rfl rfl (Nat.lt_of_lt_of_le (by decide) hn) (xr_0_5 hr) dX11_text_80 ?_
        refine zz_getR fl_X11_161 rfl rfl (Nat.lt_of_lt_of_le (by decide) hn) (xr_37_1 hr) dX11_text_83 ?_
        refine zz_callV1v cv_X11_165 (xs_text 0 (by decide)) (by omega) (Nat.le_of_ble_eq_true rfl) (by decide) (by decide) dX11_text_86 (t_X8_copyFrom (k1 := 38) (k2 := 23 + 2 * 0) (t1 := 39) (t2 := 24 + 2 * 0) rfl (xs_text 0 (by decide)) rfl (xs_step 0 (by decide)) (Nat.lt_of_lt_of_le (by decide) hn) (by omega) (Nat.lt_of_lt_of_le (by decide) hn) (by omega) (xr_38_0 hr) (xr_23_0 hr) ⟨rfl, ?_⟩)
        refine zz_iconst (1) dX11_text_89 (by decide) ?_
        refine zz_iret rfl dX11_text_90 (by decide) (by decide) ?_
        rw [if_pos ⟨s_43, p_43⟩] at h
        have hln := pz_run_ln s_43
        have hg : ∀ k, (k < 37 ∨ (40 < k ∧ k < 999)) → g1_43 k = g k := fun k hk => funext fun b => j1_43 k b (by omega) (by omega) (by omega) (by omega) (by omega)
        have hcp : ∀ k, k ≠ 23 + 2 * 0 → k ≠ 24 + 2 * 0 → k ≠ 1 → zz_u (zz_cpy (zz_u g1_43 1 11 0) 39 (24 + 2 * 0) 0 0 50) (23 + 2 * 0) 1 (zz_cpy (zz_u g1_43 1 11 0) 39 (24 + 2 * 0) 0 0 50 38 1) k = g1_43 k := fun k q1 q2 q3 => (zz_u_row _ _ q1).trans ((zz_cpy_row _ q2).trans (zz_u_row _ _ q3))
        have hxt : x_rel (sp_tx S 0) (zz_u (zz_cpy (zz_u g1_43 1 11 (g 1 11)) 39 (24 + 2 * 0) 0 0 50) (23 + 2 * 0) 1 (nI (pz_run (pz_b (sp_tx S 0 51) 0 len) 0 1 1 1).2.2.2.length)) (zz_ur r 37 4 (some (1000000 + (10 + 0)))) n := by
          refine x_tx (hx.nm _) (by decide) hl5 el (fun k q1 q2 q3 => ?_) (zz_u_same _ _ _ _) (fun i hi => ?_) hln.1 (by omega) (fun x y z => ?_)
          · rw [zz_u_row _ _ q1, zz_cpy_row _ q2]
            by_cases hk1 : k = 1
            · subst hk1
              funext b
              by_cases hb : b = 11
              · subst hb
                rw [zz_u_same]
              · rw [zz_u_ne2 _ _ hb, hg 1 (by omega)]
            · rw [zz_u_row _ _ hk1, hg k q3]
          · rw [zz_u_ne1 _ _ (by decide)]
            unfold zz_cpy
            rw [if_pos ⟨rfl, by omega, by omega⟩, show 0 + (i - 0) = i by omega, zz_u_ne1 _ _ (by decide)]
            exact t1_43 i hi
          · obtain ⟨q1, q2, q3⟩ := pz_run_e (b := pz_b (sp_tx S 0 51) 0 len) (u := 0) x y z 1 1 1
            exact ⟨q1.trans s_43, q3⟩
        have hF := (x_F.rf hxt).s3 (x := 0)
        have eF : zz_u (zz_u (zz_cpy (zz_u g1_43 1 11 (g 1 11)) 39 (24 + 2 * 0) 0 0 50) (23 + 2 * 0) 1 (nI (pz_run (pz_b (sp_tx S 0 51) 0 len) 0 1 1 1).2.2.2.length)) 1 11 0 = zz_u (zz_cpy (zz_u g1_43 1 11 0) 39 (24 + 2 * 0) 0 0 50) (23 + 2 * 0) 1 (zz_cpy (zz_u g1_43 1 11 0) 39 (24 + 2 * 0) 0 0 50 38 1) := by
          rw [show zz_cpy (zz_u g1_43 1 11 0) 39 (24 + 2 * 0) 0 0 50 38 1 = nI (pz_run (pz_b (sp_tx S 0 51) 0 len) 0 1 1 1).2.2.2.length from by rw [zz_cpy_row _ (by decide), zz_u_ne1 _ _ (by decide)]; exact z1_43]
          funext a b
          unfold zz_u zz_cpy
          by_cases h1 : a = 1 ∧ b = 11
          · rw [if_pos h1, if_neg (by omega), if_neg (by omega)]
            exact (if_pos h1).symm
          · rw [if_neg h1]
            by_cases h2 : a = 23 + 2 * 0 ∧ b = 1
            · rw [if_pos h2, if_pos h2]
            · rw [if_neg h2, if_neg h2]
              by_cases h3 : a = 24 + 2 * 0 ∧ 0 ≤ b ∧ b < 0 + 50
              · rw [if_pos h3, if_pos h3]
                exact (if_neg (by omega)).trans (if_neg (by omega)).symm
              · rw [if_neg h3, if_neg h3]
                exact (if_neg h1).trans (if_neg h1).symm
        rw [eF] at hF
        exact h _ _ _ hF.1 (fun k q1 q2 => (hcp k (by omega) (by omega) (by omega)).trans (hg k (by omega)))
      · skip
        refine zz_istore_2 dX11_text_46 rfl rfl ?_
        have hr := hr.nm (some (1000000 + (10 + 0)))
        refine zz_aload_0 dX11_text_47 ?_
        refine zz_getR fl_X11_10 rfl rfl (Nat.lt_of_lt_of_le (by decide) hn) (xr_0_0 hr) dX11_text_48 ?_
        refine zz_iconst (0) dX11_text_51 (by decide) ?_
        refine zz_putI fl_X11_140 rfl rfl (Nat.lt_of_lt_of_le (by decide) hn) dX11_text_52 ?_
        refine zz_iload_2 dX11_text_55 ?_
        refine zz_if_ne 70 dX11_text_56 (by decide) (fun h => absurd h (by decide)) (fun _ => ?_)
        refine zz_bipush (-10) dX11_text_59 (by decide) ?_
        refine zz_aload_0 dX11_text_61 ?_
        refine zz_getR fl_X11_55 rfl rfl (Nat.lt_of_lt_of_le (by decide) hn) (xr_0_5 hr) dX11_text_62 ?_
        refine zz_getI fl_X11_154 rfl rfl (Nat.lt_of_lt_of_le (by decide) hn) dX11_text_65 ?_
        refine zz_isub dX11_text_68 ?_
        refine zz_iret rfl dX11_text_69 (by decide) (by decide) ?_
        rw [if_neg s_43] at h
        have e9 : zz_u g1_43 1 11 0 37 2 = nI (pz_run (pz_b (sp_tx S 0 51) 0 len) 0 1 1 1).2.1 := (zz_u_ne1 _ _ (by decide)).trans e1_43
        rw [e9]
        have hg : ∀ k, (k < 37 ∨ (40 < k ∧ k < 999)) → g1_43 k = g k := fun k hk => funext fun b => j1_43 k b (by omega) (by omega) (by omega) (by omega) (by omega)
        exact h _ _ _ ((x_F.rf ((hx.nm _).cg hg)).s3 (x := 0)).1 (fun k q1 q2 => (zz_u_row _ _ (by omega)).trans (hg k (by omega)))
  · skip
    refine zz_if_ne 14 dX11_text_5 (by decide) (fun h => absurd h (by decide)) (fun _ => ?_)
    refine zz_aload_0 dX11_text_8 ?_
    refine zz_iconst (1) dX11_text_9 (by decide) ?_
    refine zz_callV1i cv_X11_86 rfl (Nat.lt_of_lt_of_le (by decide) hn) (Nat.le_of_ble_eq_true rfl) (by decide) (by decide) dX11_text_10 (t_X11_error hn hr 1 rfl (by decide) ⟨_, rfl, ?_⟩)
    refine zz_iret rfl dX11_text_13 (by decide) (by decide) ?_
    rw [sp_text, if_pos o_2] at h
    exact x_er hx (by decide) h
