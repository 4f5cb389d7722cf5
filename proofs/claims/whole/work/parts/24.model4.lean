theorem sp_bl_dummy : True := trivial
def sp_bl : Nat → Int32 → Int32 → Int32
  | 0, _, n => n
  | f + 1, x, n => if x = 0 then n else sp_bl f (x &&& (x - 1)) (n + 1)
def sp_be : Nat → Int32 → Bool
  | 0, x => decide (x = 0)
  | f + 1, x => decide (x = 0) || sp_be f (x &&& (x - 1))
theorem sp_be64 : ∀ s : Nat, s < 64 → sp_be 7 (nI s) = true := by decide +kernel
theorem sp_bl0 (f : Nat) (n : Int32) : sp_bl f 0 n = n := by cases f <;> simp [sp_bl]
set_option maxRecDepth 100000 in
set_option maxHeartbeats 4000000 in
theorem l_X12_numbers {C : zz_C} {d n : Nat} {g : zz_G} {r : zz_R} {Q : zz_Q} (hn : 60 ≤ n) (hr : xr r) (f : Nat) (hf : g 51 8 = nI f) (hf6 : f ≤ 6) (h : Q (some (.int (sp_tn f))) g r n) : ∀ (k : Nat) (j : Nat), j ≤ f → f - j < k → zz_Z C mi_X12_numbers d 0 0 0 0 4 [some (.ref 50), some (.int (sp_tn j)), some (.int (nI j))] [] g r n Q := by
  intro k
  induction k with
  | zero => intro j hj hk; exact absurd hk (by omega)
  | succ k ih =>
    intro j hj hk
    refine zz_iload_2 dX12_numbers_4 ?_
    refine zz_aload_0 dX12_numbers_5 ?_
    refine zz_getR fl_X12_7 rfl rfl (Nat.lt_of_lt_of_le (by decide) hn) (xr_50_0 hr) dX12_numbers_6 ?_
    refine zz_bipush (8) dX12_numbers_9 (by decide) ?_
    refine zz_iald 8 (by decide) (by decide) (by decide) rfl (Nat.lt_of_lt_of_le (by decide) hn) dX12_numbers_11 ?_
    refine zz_icmp_ge 26 dX12_numbers_12 (by decide) (fun c_12 => ?_) (fun c_12 => ?_)
    · skip
      refine zz_iload_1 dX12_numbers_26 ?_
      refine zz_iret rfl dX12_numbers_27 (by decide) (by decide) ?_
      rw [hf] at c_12
      have := zz_gei c_12 (by omega) (by omega)
      rw [show j = f by omega]
      exact h
    · skip
      refine zz_iload_1 dX12_numbers_15 ?_
      refine zz_bipush (10) dX12_numbers_16 (by decide) ?_
      refine zz_imul dX12_numbers_18 ?_
      refine zz_istore_1 dX12_numbers_19 rfl rfl ?_
      refine zz_iinc_2 (1) dX12_numbers_20 rfl rfl (by decide) ?_
      refine zz_goto 4 dX12_numbers_23 (by decide) ?_
      rw [hf] at c_12
      have hlt := zz_lti c_12 (by omega) (by omega)
      rw [nI_1]
      exact ih (j + 1) (by omega) (by omega)

set_option maxRecDepth 100000 in
set_option maxHeartbeats 4000000 in
theorem t_X12_numbers {C : zz_C} {d n : Nat} {g : zz_G} {r : zz_R} {Q : zz_Q} (hn : 60 ≤ n) (hr : xr r) (f : Nat) (hf : g 51 8 = nI f) (hf6 : f ≤ 6) (h : Q (some (.int (sp_tn f))) g r n) : zz_T C mi_X12_numbers d 0 0 [.ref 50] g r n Q := by
  refine zz_T.of [some (.ref 50), none, none] (by decide +kernel) rfl (Nat.le_of_ble_eq_true rfl) ?_
  refine zz_iconst (1) dX12_numbers_0 (by decide) ?_
  refine zz_istore_1 dX12_numbers_1 rfl rfl ?_
  refine zz_iconst (0) dX12_numbers_2 (by decide) ?_
  refine zz_istore_2 dX12_numbers_3 rfl rfl ?_
  exact l_X12_numbers hn hr f hf hf6 h 10 0 (by omega) (by omega)

set_option maxRecDepth 100000 in
set_option maxHeartbeats 4000000 in
theorem l_X12_bits {C : zz_C} {d n : Nat} {g : zz_G} {r : zz_R} {Q : zz_Q} {x0 : Int32} (h : Q (some (.int (sp_bl 7 x0 0))) g r n) : ∀ (k : Nat) (x c : Int32) (f : Nat), f < k → sp_be f x = true → sp_bl f x c = sp_bl 7 x0 0 → zz_Z C mi_X12_bits d 0 0 0 0 4 [some (.int x0), some (.int c), some (.int x)] [] g r n Q := by
  intro k
  induction k with
  | zero => intro x c f hk hb he; exact absurd hk (by omega)
  | succ k ih =>
    intro x c f hk hb he
    refine zz_iload_2 dX12_bits_4 ?_
    refine zz_if_eq 20 dX12_bits_5 (by decide) (fun c_5 => ?_) (fun c_5 => ?_)
    · skip
      refine zz_iload_1 dX12_bits_20 ?_
      refine zz_iret rfl dX12_bits_21 (by decide) (by decide) ?_
      rw [c_5, sp_bl0] at he
      rw [he]
      exact h
    · skip
      refine zz_iinc_1 (1) dX12_bits_8 rfl rfl (by decide) ?_
      refine zz_iload_2 dX12_bits_11 ?_
      refine zz_iload_2 dX12_bits_12 ?_
      refine zz_iconst (1) dX12_bits_13 (by decide) ?_
      refine zz_isub dX12_bits_14 ?_
      refine zz_iand dX12_bits_15 ?_
      refine zz_istore_2 dX12_bits_16 rfl rfl ?_
      refine zz_goto 4 dX12_bits_17 (by decide) ?_
      cases f with
      | zero => simp only [sp_be, decide_eq_true_eq] at hb; exact absurd hb c_5
      | succ f =>
        simp only [sp_be, Bool.or_eq_true, decide_eq_true_eq] at hb
        simp only [sp_bl, c_5, ↓reduceIte] at he
        exact ih _ _ f (by omega) (hb.resolve_left c_5) he

set_option maxRecDepth 100000 in
set_option maxHeartbeats 4000000 in
theorem t_X12_bits {C : zz_C} {d n : Nat} {g : zz_G} {r : zz_R} {Q : zz_Q} (s : Nat) (hs : s < 64) {x : Int32} (hx : x = nI s) (h : Q (some (.int (sp_bl 7 x 0))) g r n) : zz_T C mi_X12_bits d 0 0 [.int x] g r n Q := by
  refine zz_T.of [some (.int x), none, none] (by decide +kernel) rfl (Nat.le_of_ble_eq_true rfl) ?_
  refine zz_iconst (0) dX12_bits_0 (by decide) ?_
  refine zz_istore_1 dX12_bits_1 rfl rfl ?_
  refine zz_iload_0 dX12_bits_2 ?_
  refine zz_istore_2 dX12_bits_3 rfl rfl ?_
  exact l_X12_bits h 9 _ _ 7 (by omega) (by rw [hx]; exact sp_be64 s hs) rfl

set_option maxRecDepth 100000 in
set_option maxHeartbeats 4000000 in
theorem l_X12_divisor {C : zz_C} {d n : Nat} {g : zz_G} {r : zz_R} {Q : zz_Q} {gz : Nat} {x0 y0 : Int32} (h : Q (some (.int (nI gz))) g r n) : ∀ (k : Nat) (t4 : Option Value) (x y : Nat), x < 10000000 → y < 10000000 → y < k → Nat.gcd x y = gz → zz_Z C mi_X12_divisor d 0 0 0 0 4 [some (.int x0), some (.int y0), some (.int (nI x)), some (.int (nI y)), t4] [] g r n Q := by
  intro k
  induction k with
  | zero => intro t4 x y hx hy hk he; exact absurd hk (by omega)
  | succ k ih =>
    intro t4 x y hx hy hk he
    refine zz_iload_3 dX12_divisor_4 ?_
    refine zz_if_eq 21 dX12_divisor_5 (by decide) (fun c_5 => ?_) (fun c_5 => ?_)
    · skip
      refine zz_iload_2 dX12_divisor_21 ?_
      refine zz_iret rfl dX12_divisor_22 (by decide) (by decide) ?_
      have hy0 : y = 0 := by
        rcases Nat.eq_zero_or_pos y with q | q
        · exact q
        · exact absurd c_5 (nI_ne0 q (by omega))
      rw [hy0, Nat.gcd_zero_right] at he
      rw [he]
      exact h
    · skip
      refine zz_iload_2 dX12_divisor_8 ?_
      refine zz_iload_3 dX12_divisor_9 ?_
      refine zz_irem dX12_divisor_10 c_5 ?_
      refine zz_istore_4 dX12_divisor_11 rfl rfl ?_
      refine zz_iload_3 dX12_divisor_13 ?_
      refine zz_istore_2 dX12_divisor_14 rfl rfl ?_
      refine zz_iload_4 dX12_divisor_15 ?_
      refine zz_istore_3 dX12_divisor_17 rfl rfl ?_
      refine zz_goto 4 dX12_divisor_18 (by decide) ?_
      have hy0 : 0 < y := Nat.pos_of_ne_zero fun q => c_5 (by rw [q]; rfl)
      rw [pk_rem (by omega) hy0 (by omega)]
      exact ih _ y (x % y) hy (Nat.lt_of_lt_of_le (Nat.mod_lt x hy0) (by omega)) (by have := Nat.mod_lt x hy0; omega) (by rw [← he, Nat.gcd_comm x y, Nat.gcd_rec y x, Nat.gcd_comm])

set_option maxRecDepth 100000 in
set_option maxHeartbeats 4000000 in
theorem t_X12_divisor {C : zz_C} {d n : Nat} {g : zz_G} {r : zz_R} {Q : zz_Q} (x y : Nat) (hx : x < 10000000) (hy : y < 10000000) {a b : Int32} (ha : a = nI x) (hb : b = nI y) (h : Q (some (.int (nI (Nat.gcd x y)))) g r n) : zz_T C mi_X12_divisor d 0 0 [.int a, .int b] g r n Q := by
  refine zz_T.of [some (.int a), some (.int b), none, none, none] (by decide +kernel) rfl (Nat.le_of_ble_eq_true rfl) ?_
  refine zz_iload_0 dX12_divisor_0 ?_
  refine zz_istore_2 dX12_divisor_1 rfl rfl ?_
  refine zz_iload_1 dX12_divisor_2 ?_
  refine zz_istore_3 dX12_divisor_3 rfl rfl ?_
  rw [ha, hb]
  exact l_X12_divisor h (y + 1) _ x y hx hy (by omega) rfl

set_option maxRecDepth 100000 in
set_option maxHeartbeats 4000000 in
theorem t_X12_isCode {C : zz_C} {d n : Nat} {g : zz_G} {r : zz_R} {Q : zz_Q} (hn : 60 ≤ n) (hr : xr r) {v : Int32} (m : Nat) (hm : g 51 7 = nI m) (hm6 : m ≤ 10) (h1 : ∀ w : Nat, w < m → v = nI w → Q (some (.int 1)) g r n) (h0 : ¬ (¬ v < 0 ∧ v < g 51 7) → Q (some (.int 0)) g r n) : zz_T C mi_X12_isCode (d + 1) 0 0 [.ref 50, .int v] g r n Q := by
  refine zz_T.of [some (.ref 50), some (.int v)] (by decide +kernel) rfl (Nat.le_of_ble_eq_true rfl) ?_
  refine zz_iload_1 dX12_isCode_0 ?_
  refine zz_iconst (0) dX12_isCode_1 (by decide) ?_
  refine zz_aload_0 dX12_isCode_2 ?_
  refine zz_getR fl_X12_7 rfl rfl (Nat.lt_of_lt_of_le (by decide) hn) (xr_50_0 hr) dX12_isCode_3 ?_
  refine zz_bipush (7) dX12_isCode_6 (by decide) ?_
  refine zz_iald 7 (by decide) (by decide) (by decide) rfl (Nat.lt_of_lt_of_le (by decide) hn) dX12_isCode_8 ?_
  refine zz_iconst (1) dX12_isCode_9 (by decide) ?_
  refine zz_isub dX12_isCode_10 ?_
  refine zz_callS3i cs_X12_38 (Nat.le_of_ble_eq_true rfl) (by decide) (by decide) dX12_isCode_11 (t_X12_in (fun a_11 b_11 => ⟨_, rfl, ?_⟩) (fun o_11 => ⟨_, rfl, ?_⟩))
  · skip
    refine zz_zret rfl (by rfl) dX12_isCode_14 (by decide) (by decide) ?_
    obtain ⟨w, hw, ew⟩ := zz_in1 hm (by omega) a_11 b_11
    exact h1 w hw ew
  · skip
    refine zz_zret rfl (by rfl) dX12_isCode_14 (by decide) (by decide) ?_
    exact h0 (zz_out1 hm (by omega) o_11)

set_option maxRecDepth 100000 in
set_option maxHeartbeats 4000000 in
theorem t_X12_counts {C : zz_C} {d n : Nat} {g : zz_G} {r : zz_R} {Q : zz_Q} (hn : 60 ≤ n) (hr : xr r) {v : Int32} (w : Nat) (hw : w < 10) (hv : v = nI w) (h1 : sp_counts (g 51) w → Q (some (.int 1)) g r n) (h0 : ¬ sp_counts (g 51) w → Q (some (.int 0)) g r n) : zz_T C mi_X12_counts (d + 1) 0 0 [.ref 50, .int v] g r n Q := by
  refine zz_T.of [some (.ref 50), some (.int v)] (by decide +kernel) rfl (Nat.le_of_ble_eq_true rfl) ?_
  refine zz_aload_0 dX12_counts_0 ?_
  refine zz_iload_1 dX12_counts_1 ?_
  refine zz_iconst (5) dX12_counts_2 (by decide) ?_
  refine zz_callV2i cv_X12_165 rfl (Nat.lt_of_lt_of_le (by decide) hn) (Nat.le_of_ble_eq_true rfl) (by decide) (by decide) dX12_counts_3 (t_X12_of hn hr w 5 hv rfl (by omega) ⟨_, rfl, ?_⟩)
  refine zz_if_ne 60 dX12_counts_6 (by decide) (fun c_6 => ?_) (fun c_6 => ?_)
  · skip
    refine zz_iconst (0) dX12_counts_60 (by decide) ?_
    refine zz_zret rfl (by rfl) dX12_counts_61 (by decide) (by decide) ?_
    exact h0 fun q => c_6 q.1
  · skip
    refine zz_aload_0 dX12_counts_9 ?_
    refine zz_getR fl_X12_7 rfl rfl (Nat.lt_of_lt_of_le (by decide) hn) (xr_50_0 hr) dX12_counts_10 ?_
    refine zz_iconst (0) dX12_counts_13 (by decide) ?_
    refine zz_iald 0 (by decide) (by decide) (by decide) rfl (Nat.lt_of_lt_of_le (by decide) hn) dX12_counts_14 ?_
    refine zz_aload_0 dX12_counts_15 ?_
    refine zz_iload_1 dX12_counts_16 ?_
    refine zz_iconst (3) dX12_counts_17 (by decide) ?_
    refine zz_callV2i cv_X12_165 rfl (Nat.lt_of_lt_of_le (by decide) hn) (Nat.le_of_ble_eq_true rfl) (by decide) (by decide) dX12_counts_18 (t_X12_of hn hr w 3 hv rfl (by omega) ⟨_, rfl, ?_⟩)
    refine zz_aload_0 dX12_counts_21 ?_
    refine zz_iload_1 dX12_counts_22 ?_
    refine zz_iconst (4) dX12_counts_23 (by decide) ?_
    refine zz_callV2i cv_X12_165 rfl (Nat.lt_of_lt_of_le (by decide) hn) (Nat.le_of_ble_eq_true rfl) (by decide) (by decide) dX12_counts_24 (t_X12_of hn hr w 4 hv rfl (by omega) ⟨_, rfl, ?_⟩)
    refine zz_callS3i cs_X12_38 (Nat.le_of_ble_eq_true rfl) (by decide) (by decide) dX12_counts_27 (t_X12_in (fun a_27 b_27 => ⟨_, rfl, ?_⟩) (fun o_27 => ⟨_, rfl, ?_⟩))
    · skip
      refine zz_if_eq 60 dX12_counts_30 (by decide) (fun h => absurd h (by decide)) (fun _ => ?_)
      refine zz_aload_0 dX12_counts_33 ?_
      refine zz_getR fl_X12_7 rfl rfl (Nat.lt_of_lt_of_le (by decide) hn) (xr_50_0 hr) dX12_counts_34 ?_
      refine zz_bipush (12) dX12_counts_37 (by decide) ?_
      refine zz_iald 12 (by decide) (by decide) (by decide) rfl (Nat.lt_of_lt_of_le (by decide) hn) dX12_counts_39 ?_
      refine zz_if_eq 56 dX12_counts_40 (by decide) (fun c_40 => ?_) (fun c_40 => ?_)
      · skip
        refine zz_iconst (1) dX12_counts_56 (by decide) ?_
        refine zz_goto 61 dX12_counts_57 (by decide) ?_
        refine zz_zret rfl (by rfl) dX12_counts_61 (by decide) (by decide) ?_
        exact h1 ⟨c_6, fun q => q.elim a_27 b_27, Or.inl c_40⟩
      · skip
        refine zz_iload_1 dX12_counts_43 ?_
        refine zz_aload_0 dX12_counts_44 ?_
        refine zz_getR fl_X12_7 rfl rfl (Nat.lt_of_lt_of_le (by decide) hn) (xr_50_0 hr) dX12_counts_45 ?_
        refine zz_bipush (7) dX12_counts_48 (by decide) ?_
        refine zz_iald 7 (by decide) (by decide) (by decide) rfl (Nat.lt_of_lt_of_le (by decide) hn) dX12_counts_50 ?_
        refine zz_iconst (1) dX12_counts_51 (by decide) ?_
        refine zz_isub dX12_counts_52 ?_
        refine zz_icmp_ne 60 dX12_counts_53 (by decide) (fun c_53 => ?_) (fun c_53 => ?_)
        · skip
          refine zz_iconst (0) dX12_counts_60 (by decide) ?_
          refine zz_zret rfl (by rfl) dX12_counts_61 (by decide) (by decide) ?_
          exact h0 fun q => q.2.2.elim c_40 (fun e => c_53 (by rw [hv]; exact e))
        · skip
          refine zz_iconst (1) dX12_counts_56 (by decide) ?_
          refine zz_goto 61 dX12_counts_57 (by decide) ?_
          refine zz_zret rfl (by rfl) dX12_counts_61 (by decide) (by decide) ?_
          exact h1 ⟨c_6, fun q => q.elim a_27 b_27, Or.inr (by rw [← hv]; exact c_53)⟩
    · skip
      refine zz_if_eq 60 dX12_counts_30 (by decide) (fun _ => ?_) (fun h => absurd h (by decide))
      refine zz_iconst (0) dX12_counts_60 (by decide) ?_
      refine zz_zret rfl (by rfl) dX12_counts_61 (by decide) (by decide) ?_
      exact h0 fun q => q.2.1 o_27

set_option maxRecDepth 100000 in
set_option maxHeartbeats 4000000 in
theorem t_X12_ofCode {C : zz_C} {d n : Nat} {g : zz_G} {r : zz_R} {Q : zz_Q} (hn : 60 ≤ n) (hr : xr r) {v what : Int32} (cw : Nat) (hcw : g 51 7 = nI cw) (hcw6 : cw ≤ 10) (h : ms_o g r n Q (sp_ofCode (ms_S g) v what)) : zz_T C mi_X12_ofCode (d + 2) 0 0 [.ref 50, .int v, .int what] g r n Q := by
  refine zz_T.of [some (.ref 50), some (.int v), some (.int what)] (by decide +kernel) rfl (Nat.le_of_ble_eq_true rfl) ?_
  refine zz_aload_0 dX12_ofCode_0 ?_
  refine zz_iload_1 dX12_ofCode_1 ?_
  refine zz_callV1i cv_X12_168 rfl (Nat.lt_of_lt_of_le (by decide) hn) (Nat.le_of_ble_eq_true rfl) (by decide) (by decide) dX12_ofCode_2 (t_X12_isCode hn hr cw hcw hcw6 (fun w_2 hw_2 ew_2 => ⟨_, rfl, ?_⟩) (fun ic_2 => ⟨_, rfl, ?_⟩))
  · skip
    subst ew_2
    have ia_2 : ¬ nI w_2 < 0 := nI_pos (by omega)
    have ib_2 : nI w_2 < g 51 7 := by rw [hcw]; exact nI_lt hw_2 (by omega)
    refine zz_if_eq 18 dX12_ofCode_5 (by decide) (fun h => absurd h (by decide)) (fun _ => ?_)
    refine zz_iload_2 dX12_ofCode_8 ?_
    refine zz_iconst (0) dX12_ofCode_9 (by decide) ?_
    refine zz_bipush (6) dX12_ofCode_10 (by decide) ?_
    refine zz_callS3i cs_X12_38 (Nat.le_of_ble_eq_true rfl) (by decide) (by decide) dX12_ofCode_12 (t_X12_in (fun a_12 b_12 => ⟨_, rfl, ?_⟩) (fun o_12 => ⟨_, rfl, ?_⟩))
    · skip
      refine zz_if_ne 25 dX12_ofCode_15 (by decide) (fun _ => ?_) (fun h => absurd h (by decide))
      refine zz_iload_2 dX12_ofCode_25 ?_
      refine zz_bipush (6) dX12_ofCode_26 (by decide) ?_
      refine zz_icmp_ge 40 dX12_ofCode_28 (by decide) (fun c_28 => ?_) (fun c_28 => ?_)
      · skip
        refine zz_aload_0 dX12_ofCode_40 ?_
        refine zz_iload_1 dX12_ofCode_41 ?_
        refine zz_callV1i cv_X12_171 rfl (Nat.lt_of_lt_of_le (by decide) hn) (Nat.le_of_ble_eq_true rfl) (by decide) (by decide) dX12_ofCode_42 (t_X12_counts hn hr w_2 (by omega) rfl (fun y_42 => ⟨_, rfl, ?_⟩) (fun y_42 => ⟨_, rfl, ?_⟩))
        · skip
          refine zz_if_eq 52 dX12_ofCode_45 (by decide) (fun h => absurd h (by decide)) (fun _ => ?_)
          refine zz_iconst (1) dX12_ofCode_48 (by decide) ?_
          refine zz_goto 53 dX12_ofCode_49 (by decide) ?_
          refine zz_iret rfl dX12_ofCode_53 (by decide) (by decide) ?_
          rw [sp_ofCode, if_neg (fun q => q ⟨ia_2, by rw [ms_51]; exact ib_2⟩), if_neg (fun q => q.elim a_12 b_12), if_neg (fun q => Int32.not_le.mpr q c_28), ix_w (by omega), show (ms_S g 51) = g 51 from funext (ms_51 g), if_pos y_42] at h
          exact h _ ms_F.rf
        · skip
          refine zz_if_eq 52 dX12_ofCode_45 (by decide) (fun _ => ?_) (fun h => absurd h (by decide))
          refine zz_iconst (0) dX12_ofCode_52 (by decide) ?_
          refine zz_iret rfl dX12_ofCode_53 (by decide) (by decide) ?_
          rw [sp_ofCode, if_neg (fun q => q ⟨ia_2, by rw [ms_51]; exact ib_2⟩), if_neg (fun q => q.elim a_12 b_12), if_neg (fun q => Int32.not_le.mpr q c_28), ix_w (by omega), show (ms_S g 51) = g 51 from funext (ms_51 g), if_neg y_42] at h
          exact h _ ms_F.rf
      · skip
        refine zz_aload_0 dX12_ofCode_31 ?_
        refine zz_iload_1 dX12_ofCode_32 ?_
        refine zz_iload_2 dX12_ofCode_33 ?_
        obtain ⟨w1, hw0, hw1, ew1⟩ := zz_in0 (lo := 0) (hi := 6) rfl rfl (by decide) (by decide) a_12 b_12
        have hw6 : w1 < 6 := zz_lti (b := 6) (by rw [← ew1]; exact c_28) (by omega) (by omega)
        refine zz_callV2i cv_X12_165 rfl (Nat.lt_of_lt_of_le (by decide) hn) (Nat.le_of_ble_eq_true rfl) (by decide) (by decide) dX12_ofCode_34 (t_X12_of hn hr w_2 w1 rfl ew1 (by omega) ⟨_, rfl, ?_⟩)
        refine zz_goto 53 dX12_ofCode_37 (by decide) ?_
        refine zz_iret rfl dX12_ofCode_53 (by decide) (by decide) ?_
        rw [sp_ofCode, if_neg (fun q => q ⟨ia_2, by rw [ms_51]; exact ib_2⟩), if_neg (fun q => q.elim a_12 b_12), if_pos (Int32.not_le.mp c_28), ew1, ix_w (by omega), ix_w (by omega), ms_51] at h
        exact h _ ms_F.rf
    · skip
      refine zz_if_ne 25 dX12_ofCode_15 (by decide) (fun h => absurd h (by decide)) (fun _ => ?_)
      refine zz_aload_0 dX12_ofCode_18 ?_
      refine zz_ldc dX12_ofCode_19 ct_X12_50 ?_
      refine zz_callV1i cv_X12_51 rfl (Nat.lt_of_lt_of_le (by decide) hn) (Nat.le_of_ble_eq_true rfl) (by decide) (by decide) dX12_ofCode_21 (t_X12_errs hn hr 1 (by decide) (by decide) ⟨_, rfl, ?_⟩)
      refine zz_iret rfl dX12_ofCode_24 (by decide) (by decide) ?_
      rw [sp_ofCode, if_neg (fun q => q ⟨ia_2, by rw [ms_51]; exact ib_2⟩), if_pos o_12] at h
      exact ms_er (by decide) h
  · skip
    refine zz_if_eq 18 dX12_ofCode_5 (by decide) (fun _ => ?_) (fun h => absurd h (by decide))
    refine zz_aload_0 dX12_ofCode_18 ?_
    refine zz_ldc dX12_ofCode_19 ct_X12_50 ?_
    refine zz_callV1i cv_X12_51 rfl (Nat.lt_of_lt_of_le (by decide) hn) (Nat.le_of_ble_eq_true rfl) (by decide) (by decide) dX12_ofCode_21 (t_X12_errs hn hr 1 (by decide) (by decide) ⟨_, rfl, ?_⟩)
    refine zz_iret rfl dX12_ofCode_24 (by decide) (by decide) ?_
    rw [sp_ofCode, if_pos (by rw [sp_isc, ms_51]; exact ic_2)] at h
    exact ms_er (by decide) h

set_option maxRecDepth 100000 in
set_option maxHeartbeats 4000000 in
theorem t_X12_lasts {C : zz_C} {d n : Nat} {g : zz_G} {r : zz_R} {Q : zz_Q} (hn : 60 ≤ n) (hr : xr r) {v : Int32} (w : Nat) (hw : w < 6) (hv : v = nI w) (h : Q (some (.int (sp_lasts (g 51) w (g 51 9)))) g r n) : zz_T C mi_X12_lasts (d + 1) 0 0 [.ref 50, .int v] g r n Q := by
  refine zz_T.of [some (.ref 50), some (.int v)] (by decide +kernel) rfl (Nat.le_of_ble_eq_true rfl) ?_
  refine zz_aload_0 dX12_lasts_0 ?_
  refine zz_iload_1 dX12_lasts_1 ?_
  refine zz_iconst (0) dX12_lasts_2 (by decide) ?_
  refine zz_callV2i cv_X12_64 rfl (Nat.lt_of_lt_of_le (by decide) hn) (Nat.le_of_ble_eq_true rfl) (by decide) (by decide) dX12_lasts_3 (t_X12_its hn hr w 0 hv rfl (by omega) ⟨_, rfl, ?_⟩)
  refine zz_tsw4 (3) (4) (5) (6) 36 47 61 57 61 dX12_lasts_6 (by decide) (fun e_6 => ?_) (fun e_6 => ?_) (fun e_6 => ?_) (fun e_6 => ?_) (fun e0_6 e1_6 e2_6 e3_6 => ?_)
  · skip
    refine zz_bipush (10) dX12_lasts_36 (by decide) ?_
    refine zz_aload_0 dX12_lasts_38 ?_
    refine zz_getR fl_X12_7 rfl rfl (Nat.lt_of_lt_of_le (by decide) hn) (xr_50_0 hr) dX12_lasts_39 ?_
    refine zz_bipush (9) dX12_lasts_42 (by decide) ?_
    refine zz_iald 9 (by decide) (by decide) (by decide) rfl (Nat.lt_of_lt_of_le (by decide) hn) dX12_lasts_44 ?_
    refine zz_imul dX12_lasts_45 ?_
    refine zz_iret rfl dX12_lasts_46 (by decide) (by decide) ?_
    rw [Nat.add_zero] at e_6
    simp (decide := true) only [sp_lasts, e_6, or_self, or_false, false_or, or_true, true_or, and_true, true_and, and_false, false_and, and_self, not_true_eq_false, not_false_eq_true, ↓reduceIte] at h
    exact h
  · skip
    refine zz_aload_0 dX12_lasts_47 ?_
    refine zz_getR fl_X12_7 rfl rfl (Nat.lt_of_lt_of_le (by decide) hn) (xr_50_0 hr) dX12_lasts_48 ?_
    refine zz_bipush (9) dX12_lasts_51 (by decide) ?_
    refine zz_iald 9 (by decide) (by decide) (by decide) rfl (Nat.lt_of_lt_of_le (by decide) hn) dX12_lasts_53 ?_
    refine zz_iconst (2) dX12_lasts_54 (by decide) ?_
    refine zz_idiv dX12_lasts_55 (by decide) ?_
    refine zz_iret rfl dX12_lasts_56 (by decide) (by decide) ?_
    rw [Nat.add_zero] at e_6
    simp (decide := true) only [sp_lasts, e_6, or_self, or_false, false_or, or_true, true_or, and_true, true_and, and_false, false_and, and_self, not_true_eq_false, not_false_eq_true, ↓reduceIte] at h
    exact h
  · skip
    refine zz_aload_0 dX12_lasts_61 ?_
    refine zz_getR fl_X12_7 rfl rfl (Nat.lt_of_lt_of_le (by decide) hn) (xr_50_0 hr) dX12_lasts_62 ?_
    refine zz_bipush (9) dX12_lasts_65 (by decide) ?_
    refine zz_iald 9 (by decide) (by decide) (by decide) rfl (Nat.lt_of_lt_of_le (by decide) hn) dX12_lasts_67 ?_
    refine zz_iret rfl dX12_lasts_68 (by decide) (by decide) ?_
    rw [Nat.add_zero] at e_6
    simp (decide := true) only [sp_lasts, e_6, or_self, or_false, false_or, or_true, true_or, and_true, true_and, and_false, false_and, and_self, not_true_eq_false, not_false_eq_true, ↓reduceIte] at h
    exact h
  · skip
    refine zz_sipush (9999) dX12_lasts_57 (by decide) ?_
    refine zz_iret rfl dX12_lasts_60 (by decide) (by decide) ?_
    rw [Nat.add_zero] at e_6
    simp (decide := true) only [sp_lasts, e_6, or_self, or_false, false_or, or_true, true_or, and_true, true_and, and_false, false_and, and_self, not_true_eq_false, not_false_eq_true, ↓reduceIte] at h
    exact h
  · skip
    refine zz_aload_0 dX12_lasts_61 ?_
    refine zz_getR fl_X12_7 rfl rfl (Nat.lt_of_lt_of_le (by decide) hn) (xr_50_0 hr) dX12_lasts_62 ?_
    refine zz_bipush (9) dX12_lasts_65 (by decide) ?_
    refine zz_iald 9 (by decide) (by decide) (by decide) rfl (Nat.lt_of_lt_of_le (by decide) hn) dX12_lasts_67 ?_
    refine zz_iret rfl dX12_lasts_68 (by decide) (by decide) ?_
    rw [Nat.add_zero] at e0_6 e1_6 e2_6 e3_6
    simp (decide := true) only [sp_lasts, e0_6, e1_6, e2_6, e3_6, or_self, or_false, false_or, or_true, true_or, and_true, true_and, and_false, false_and, and_self, not_true_eq_false, not_false_eq_true, ↓reduceIte] at h
    exact h

set_option maxRecDepth 100000 in
set_option maxHeartbeats 4000000 in
theorem l_X12_as {C : zz_C} {d n : Nat} {g : zz_G} {r : zz_R} {Q : zz_Q} {v kind x : Int32} (he : x < 0 ∨ x = kind → zz_Z C mi_X12_as (d + 2) 0 0 0 0 49 [some (.ref 50), some (.int v), some (.int kind), some (.int x)] [] g r n Q) (hb : ¬ x < 0 → ¬ x = kind → zz_Z C mi_X12_as (d + 2) 0 0 0 0 32 [some (.ref 50), some (.int v), some (.int kind), some (.int (sp_above x))] [] g r n Q) : zz_Z C mi_X12_as (d + 2) 0 0 0 0 32 [some (.ref 50), some (.int v), some (.int kind), some (.int x)] [] g r n Q := by
  refine zz_iload_3 dX12_as_32 ?_
  refine zz_if_lt 49 dX12_as_33 (by decide) (fun h33 => ?_) (fun h33 => ?_)
  · skip
    first | exact he (Or.inl h33) | exact he (Or.inr h38)
  · skip
    refine zz_iload_3 dX12_as_36 ?_
    refine zz_iload_2 dX12_as_37 ?_
    refine zz_icmp_eq 49 dX12_as_38 (by decide) (fun h38 => ?_) (fun h38 => ?_)
    · skip
      first | exact he (Or.inl h33) | exact he (Or.inr h38)
    · skip
      refine zz_iload_3 dX12_as_41 ?_
      refine zz_callS1i cs_X12_73 (Nat.le_of_ble_eq_true rfl) (by decide) (by decide) dX12_as_42 (t_X12_above ⟨_, rfl, ?_⟩)
      refine zz_istore_3 dX12_as_45 rfl rfl ?_
      refine zz_goto 32 dX12_as_46 (by decide) ?_
      exact hb h33 h38

theorem sp_ab3 : ∀ j : Nat, j < 7 → sp_above (sp_above (sp_above (nI j))) < 0 ∨ sp_above (sp_above (nI j)) < 0 ∨ sp_above (nI j) < 0 := by decide +kernel
theorem sp_ab1 : ∀ j : Nat, j < 7 → sp_above (nI j) < 0 → sp_above (sp_above (nI j)) = nI j := by decide +kernel
theorem sp_ab2 : ∀ j : Nat, j < 7 → (sp_above (nI j) < 0 → ¬ nI j < 0 → sp_above (nI j) = -1) ∧ (sp_above (sp_above (nI j)) < 0 → ¬ sp_above (nI j) < 0 → sp_above (sp_above (nI j)) = -1) := by decide +kernel
set_option maxRecDepth 100000 in
set_option maxHeartbeats 4000000 in
theorem e_X12_as {C : zz_C} {d n : Nat} {g : zz_G} {r : zz_R} {Q : zz_Q} (hn : 60 ≤ n) (hr : xr r) {kind x : Int32} (w1 : Nat) (hw1 : w1 < 6) (h1 : ¬ x < 0 → Q (some (.int (g 51 (16 + 5 * w1 + 1)))) g r n) (h0 : x < 0 → Q (some (.int (-1000000005))) (zz_u g 54 5 (g 54 5 + 1)) r n) : zz_Z C mi_X12_as (d + 2) 0 0 0 0 49 [some (.ref 50), some (.int (nI w1)), some (.int kind), some (.int x)] [] g r n Q := by
  refine zz_iload_3 dX12_as_49 ?_
  refine zz_if_ge 62 dX12_as_50 (by decide) (fun c_50 => ?_) (fun c_50 => ?_)
  · skip
    refine zz_aload_0 dX12_as_62 ?_
    refine zz_iload_1 dX12_as_63 ?_
    refine zz_iconst (1) dX12_as_64 (by decide) ?_
    refine zz_callV2i cv_X12_64 rfl (Nat.lt_of_lt_of_le (by decide) hn) (Nat.le_of_ble_eq_true rfl) (by decide) (by decide) dX12_as_65 (t_X12_its hn hr w1 1 rfl rfl (by omega) ⟨_, rfl, ?_⟩)
    refine zz_iret rfl dX12_as_68 (by decide) (by decide) ?_
    exact h1 (Int32.not_lt.mpr c_50)
  · skip
    refine zz_aload_0 dX12_as_53 ?_
    refine zz_ldc dX12_as_54 ct_X12_76 ?_
    refine zz_callV1i cv_X12_51 rfl (Nat.lt_of_lt_of_le (by decide) hn) (Nat.le_of_ble_eq_true rfl) (by decide) (by decide) dX12_as_56 (t_X12_errs hn hr 5 (by decide) (by decide) ⟨_, rfl, ?_⟩)
    refine zz_goto 68 dX12_as_59 (by decide) ?_
    refine zz_iret rfl dX12_as_68 (by decide) (by decide) ?_
    exact h0 (Int32.not_le.mp c_50)

set_option maxRecDepth 100000 in
set_option maxHeartbeats 4000000 in
theorem t_X12_as {C : zz_C} {d n : Nat} {g : zz_G} {r : zz_R} {Q : zz_Q} (hn : 60 ≤ n) (hr : xr r) (mw : Nat) (hmw : g 51 2 = nI mw) (hmw6 : mw ≤ 6) {v kind : Int32} (hkd : ∀ w : Nat, w < 6 → ∃ j : Nat, j < 7 ∧ g 51 (16 + 5 * w) = nI j) (h : ms_o g r n Q (sp_asT (ms_S g) v kind)) : zz_T C mi_X12_as (d + 2) 0 0 [.ref 50, .int v, .int kind] g r n Q := by
  refine zz_T.of [some (.ref 50), some (.int v), some (.int kind), none] (by decide +kernel) rfl (Nat.le_of_ble_eq_true rfl) ?_
  refine zz_aload_0 dX12_as_0 ?_
  refine zz_iload_1 dX12_as_1 ?_
  refine zz_callV1i cv_X12_60 rfl (Nat.lt_of_lt_of_le (by decide) hn) (Nat.le_of_ble_eq_true rfl) (by decide) (by decide) dX12_as_2 (t_X12_isWay hn hr mw hmw hmw6 (fun w_2 hw_2 ew_2 => ⟨_, rfl, ?_⟩) (fun nw_2 => ⟨_, rfl, ?_⟩))
  · skip
    subst ew_2
    have ia_2 := sp_isw_a (w := w_2) (Nat.lt_of_lt_of_le hw_2 hmw6)
    have ib_2 := sp_isw_b hmw hmw6 hw_2
    refine zz_if_eq 18 dX12_as_5 (by decide) (fun h => absurd h (by decide)) (fun _ => ?_)
    refine zz_iload_2 dX12_as_8 ?_
    refine zz_iconst (0) dX12_as_9 (by decide) ?_
    refine zz_bipush (6) dX12_as_10 (by decide) ?_
    refine zz_callS3i cs_X12_38 (Nat.le_of_ble_eq_true rfl) (by decide) (by decide) dX12_as_12 (t_X12_in (fun a_12 b_12 => ⟨_, rfl, ?_⟩) (fun o_12 => ⟨_, rfl, ?_⟩))
    · skip
      refine zz_if_ne 25 dX12_as_15 (by decide) (fun _ => ?_) (fun h => absurd h (by decide))
      refine zz_aload_0 dX12_as_25 ?_
      refine zz_iload_1 dX12_as_26 ?_
      refine zz_iconst (0) dX12_as_27 (by decide) ?_
      refine zz_callV2i cv_X12_64 rfl (Nat.lt_of_lt_of_le (by decide) hn) (Nat.le_of_ble_eq_true rfl) (by decide) (by decide) dX12_as_28 (t_X12_its hn hr w_2 0 rfl rfl (by omega) ⟨_, rfl, ?_⟩)
      refine zz_istore_3 dX12_as_31 rfl rfl ?_
      obtain ⟨jk, hjk, ejk⟩ := hkd w_2 (by omega)
      rw [show g 51 (16 + 5 * w_2 + 0) = nI jk from ejk]
      rw [sp_asT, if_neg (fun q => q ⟨ia_2, by rw [ms_51]; exact ib_2⟩), if_neg (fun q => q.elim a_12 b_12), ix_w (by omega), ms_51, ms_51, ejk] at h
      have hk0 : ¬ kind < 0 := a_12
      have hno : ∀ x : Int32, x < 0 → ¬ x = kind := fun x hx e => hk0 (e ▸ hx)
      have fin : ∀ x : Int32, (x < 0 → ¬ sp_under (nI jk) kind) → (¬ x < 0 → sp_under (nI jk) kind) → zz_Z C mi_X12_as (d + 2) 0 0 0 0 49 [some (.ref 50), some (.int (nI w_2)), some (.int kind), some (.int x)] [] g r n Q := by
        intro x hx1 hx2
        refine e_X12_as hn hr w_2 (by omega) (fun q => ?_) (fun q => ?_)
        · rw [if_pos (hx2 q)] at h
          exact h _ ms_F.rf
        · rw [if_neg (hx1 q)] at h
          exact ms_er (by decide) h
      refine l_X12_as (fun e0 => fin _ (fun q => absurd q (nI_pos (by omega))) (fun _ => Or.inl (e0.resolve_left (nI_pos (by omega))))) (fun q0 p0 => ?_)
      refine l_X12_as (fun e1 => fin _ (fun q => ?_) (fun q => Or.inr (Or.inl (e1.resolve_left q)))) (fun q1 p1 => ?_)
      · rintro (e | e | e)
        · exact p0 e
        · exact hno _ q e
        · exact p0 ((sp_ab1 jk hjk q).symm.trans e)
      refine l_X12_as (fun e2 => fin _ (fun q => ?_) (fun q => Or.inr (Or.inr (e2.resolve_left q)))) (fun q2 p2 => ?_)
      · rintro (e | e | e)
        · exact p0 e
        · exact p1 e
        · exact hno _ q e
      refine l_X12_as (fun _ => fin _ (fun q => ?_) (fun q => ?_)) (fun q3 _ => ?_)
      · rintro (e | e | e)
        · exact p0 e
        · exact p1 e
        · exact p2 e
      · exact absurd ((sp_ab3 jk hjk).elim id (fun z => z.elim (fun z => absurd z q2) (fun z => absurd z q1))) q
      · exact absurd ((sp_ab3 jk hjk).elim id (fun z => z.elim (fun z => absurd z q2) (fun z => absurd z q1))) q3
    · skip
      refine zz_if_ne 25 dX12_as_15 (by decide) (fun h => absurd h (by decide)) (fun _ => ?_)
      refine zz_aload_0 dX12_as_18 ?_
      refine zz_ldc dX12_as_19 ct_X12_50 ?_
      refine zz_callV1i cv_X12_51 rfl (Nat.lt_of_lt_of_le (by decide) hn) (Nat.le_of_ble_eq_true rfl) (by decide) (by decide) dX12_as_21 (t_X12_errs hn hr 1 (by decide) (by decide) ⟨_, rfl, ?_⟩)
      refine zz_iret rfl dX12_as_24 (by decide) (by decide) ?_
      rw [sp_asT, if_neg (fun q => q ⟨ia_2, by rw [ms_51]; exact ib_2⟩), if_pos o_12] at h
      exact ms_er (by decide) h
  · skip
    have ic_2 := sp_isw_c hmw hmw6 nw_2
    refine zz_if_eq 18 dX12_as_5 (by decide) (fun _ => ?_) (fun h => absurd h (by decide))
    refine zz_aload_0 dX12_as_18 ?_
    refine zz_ldc dX12_as_19 ct_X12_50 ?_
    refine zz_callV1i cv_X12_51 rfl (Nat.lt_of_lt_of_le (by decide) hn) (Nat.le_of_ble_eq_true rfl) (by decide) (by decide) dX12_as_21 (t_X12_errs hn hr 1 (by decide) (by decide) ⟨_, rfl, ?_⟩)
    refine zz_iret rfl dX12_as_24 (by decide) (by decide) ?_
    rw [sp_asT, if_pos (by rw [sp_isw, ms_51]; exact ic_2)] at h
    exact ms_er (by decide) h
