/-! READING A TEXT: the model's memory while it reads: base g, at k, open o, good gd -/
def pm_ (g : zz_G) (k o : Nat) (gd : Int32) : zz_G := fun a b => if a = 50 ∧ b = 7 then nI k else if a = 50 ∧ b = 9 then nI o else if a = 50 ∧ b = 13 then gd else g a b
theorem pm_k (g : zz_G) (k o : Nat) (gd : Int32) : pm_ g k o gd 50 7 = nI k := rfl
theorem pm_o (g : zz_G) (k o : Nat) (gd : Int32) : pm_ g k o gd 50 9 = nI o := rfl
theorem pm_g (g : zz_G) (k o : Nat) (gd : Int32) : pm_ g k o gd 50 13 = gd := rfl
theorem pm_51 (g : zz_G) (k o : Nat) (gd : Int32) (j : Nat) : pm_ g k o gd 51 j = g 51 j := rfl
theorem pm_6 (g : zz_G) (k o : Nat) (gd : Int32) : pm_ g k o gd 50 6 = g 50 6 := rfl
theorem pm_8 (g : zz_G) (k o : Nat) (gd : Int32) : pm_ g k o gd 50 8 = g 50 8 := rfl
theorem pm_10 (g : zz_G) (k o : Nat) (gd : Int32) : pm_ g k o gd 50 10 = g 50 10 := rfl
theorem pm_11 (g : zz_G) (k o : Nat) (gd : Int32) : pm_ g k o gd 50 11 = g 50 11 := rfl
theorem pm_12 (g : zz_G) (k o : Nat) (gd : Int32) : pm_ g k o gd 50 12 = g 50 12 := rfl
theorem pm_uk (g : zz_G) (k o k2 : Nat) (gd : Int32) : zz_u (pm_ g k o gd) 50 7 (nI k2) = pm_ g k2 o gd := by
  funext a b
  by_cases h : a = 50 ∧ b = 7 <;> simp [zz_u, pm_, h]
theorem pm_uo (g : zz_G) (k o o2 : Nat) (gd : Int32) : zz_u (pm_ g k o gd) 50 9 (nI o2) = pm_ g k o2 gd := by
  funext a b
  by_cases h : a = 50 ∧ b = 9
  · obtain ⟨rfl, rfl⟩ := h
    simp [zz_u, pm_]
  · simp only [zz_u, pm_, h, ↓reduceIte]
theorem pm_ug (g : zz_G) (k o : Nat) (gd gd2 : Int32) : zz_u (pm_ g k o gd) 50 13 gd2 = pm_ g k o gd2 := by
  funext a b
  by_cases h : a = 50 ∧ b = 13
  · obtain ⟨rfl, rfl⟩ := h
    simp [zz_u, pm_]
  · simp only [zz_u, pm_, h, ↓reduceIte]
theorem pz_b_end {R : Nat → Int32} {u len k : Nat} (h : len ≤ k) : pz_b R u len k = -1 := if_neg (by omega)
theorem pz_b_in {R : Nat → Int32} {u len k : Nat} (h : ¬ pz_b R u len k = -1) : k < len := by
  rcases Nat.lt_or_ge k len with q | q
  · exact q
  · exact absurd (pz_b_end q) h
theorem pz_num_le {R : Nat → Int32} {u len : Nat} : ∀ (f k : Nat) (v : Int32), k ≤ len → k ≤ (pz_num (pz_b R u len) f k v).1 ∧ (pz_num (pz_b R u len) f k v).1 ≤ len := by
  intro f
  induction f with
  | zero => intro k v hk; exact ⟨Nat.le_refl _, hk⟩
  | succ f ih =>
    intro k v hk
    simp only [pz_num]
    split
    · exact ⟨Nat.le_refl _, hk⟩
    · rename_i h
      have hlt : k < len := pz_b_in fun q => h (by rw [q]; decide)
      have := ih (k + 1) (10 * v + pz_b R u len k - 48) hlt
      omega
theorem pz_num_pos {R : Nat → Int32} {u len k : Nat} (h : ¬ (pz_b R u len k < 48 ∨ 57 < pz_b R u len k)) : k + 1 ≤ (pz_num (pz_b R u len) 4 k 0).1 := by
  have hlt : k < len := pz_b_in fun q => h (by rw [q]; decide)
  rw [pz_num, if_neg h]
  exact (pz_num_le 3 (k + 1) _ hlt).1
/-- a reader stays within the text, and goes on where it is well -/
def pz_ok (len : Nat) (step : Nat → pz_T) : Prop := ∀ k, k ≤ len → k ≤ (step k).2.1 ∧ (step k).2.1 ≤ len ∧ ((step k).1 = true → k + 1 ≤ (step k).2.1)
theorem pz_base_ok {R : Nat → Int32} {u len : Nat} {x y z : Int32} : pz_ok len (pz_base (pz_b R u len) u x y z) := by
  intro k hk
  have nm : ∀ i, ¬ pz_nm u i = -1 := by
    intro i
    unfold pz_nm
    split <;> split <;> (try split) <;> decide
  have e : ∀ i, pz_b R u len k = pz_nm u i → k + 1 ≤ len := fun i h => pz_b_in fun q => nm i (by rw [← h, q])
  simp only [pz_base]
  split
  · split
    · rename_i h; have := e 0 h; exact ⟨Nat.le_succ k, this, fun _ => Nat.le_refl _⟩
    · split
      · rename_i h; have := e 1 h; exact ⟨Nat.le_succ k, this, fun _ => Nat.le_refl _⟩
      · split
        · rename_i h; have := e 2 h; exact ⟨Nat.le_succ k, this, fun _ => Nat.le_refl _⟩
        · exact ⟨Nat.le_refl _, hk, fun h => by cases h⟩
  · rename_i h
    have h1 := pz_num_le (R := R) (u := u) 4 k 0 hk
    exact ⟨h1.1, h1.2, fun _ => pz_num_pos h⟩
theorem pz_is_in {R : Nat → Int32} {u len k lv : Nat} (h : pz_is lv (pz_b R u len k)) : k < len := pz_b_in fun q => by
  rw [q] at h
  rcases h with h | h | h | h | h
  · exact absurd h.2 (by decide)
  · exact absurd h.2 (by decide)
  · exact absurd h.2 (by decide)
  · exact absurd h.2 (by decide)
  · exact absurd h.2 (by decide)
theorem pz_lp_ok {R : Nat → Int32} {u len lv : Nat} {step : Nat → pz_T} (hs : pz_ok len step) : ∀ (f k : Nat) (v : Int32) (cs : List Int32), k ≤ len → k ≤ (pz_lp (pz_b R u len) step lv f k v cs).2.1 ∧ (pz_lp (pz_b R u len) step lv f k v cs).2.1 ≤ len := by
  intro f
  induction f with
  | zero => intro k v cs hk; exact ⟨Nat.le_refl _, hk⟩
  | succ f ih =>
    intro k v cs hk
    simp only [pz_lp]
    split
    · rename_i h
      have h1 := hs (k + 1) (pz_is_in h)
      split
      · have := ih (step (k + 1)).2.1 (pz_op (pz_b R u len k) v (step (k + 1)).2.2.1) (cs ++ ((step (k + 1)).2.2.2 ++ [-(pz_b R u len k)])) h1.2.1
        omega
      · exact ⟨by show k ≤ (step (k + 1)).2.1; omega, h1.2.1⟩
    · exact ⟨Nat.le_refl _, hk⟩
theorem pz_lv_ok {R : Nat → Int32} {u len lv : Nat} {step : Nat → pz_T} (hs : pz_ok len step) : pz_ok len (pz_lv (pz_b R u len) step lv) := by
  intro k hk
  have h1 := hs k hk
  simp only [pz_lv]
  split
  · rename_i h
    have h2 := pz_lp_ok (R := R) (u := u) (lv := lv) hs (if lv = 2 then 1 else 50) (step k).2.1 (step k).2.2.1 (step k).2.2.2 h1.2.1
    exact ⟨by omega, h2.2, fun _ => by have := h1.2.2 h; omega⟩
  · exact ⟨h1.1, h1.2.1, fun h => by cases h⟩
theorem pz_up_ok {R : Nat → Int32} {u len : Nat} {f : Nat → pz_T} (hf : pz_ok len f) : ∀ i, pz_ok len (pz_up (pz_b R u len) f i)
  | 0 => hf
  | i + 1 => pz_lv_ok (pz_up_ok hf i)
theorem pz_f_ok {R : Nat → Int32} {u len : Nat} {x y z : Int32} : ∀ i, pz_ok len (pz_f (pz_b R u len) u x y z i) := by
  intro i
  induction i with
  | zero =>
    intro k hk
    simp only [pz_f]
    split
    · exact ⟨Nat.le_refl _, hk, fun h => by cases h⟩
    · exact pz_base_ok k hk
  | succ i ih =>
    intro k hk
    simp only [pz_f]
    split
    · rename_i h
      have hlt : k < len := pz_b_in (R := R) (u := u) fun q => by rw [q] at h; exact absurd h (by decide)
      have h1 := ih (k + 1) hlt
      split
      · exact ⟨by show k ≤ (pz_f (pz_b R u len) u x y z i (k + 1)).2.1; omega, h1.2.1, fun _ => h1.1⟩
      · exact ⟨by show k ≤ (pz_f (pz_b R u len) u x y z i (k + 1)).2.1; omega, h1.2.1, fun h => by cases h⟩
    · split
      · rename_i h
        have hlt : k < len := pz_b_in (R := R) (u := u) fun q => by rw [q] at h; exact absurd h (by decide)
        have h1 := pz_up_ok (R := R) (u := u) ih 5 (k + 1) hlt
        split
        · rename_i h2
          have h3 : (pz_up (pz_b R u len) (pz_f (pz_b R u len) u x y z i) 5 (k + 1)).2.1 < len := pz_b_in (R := R) (u := u) fun q => by rw [q] at h2; exact absurd h2.2 (by decide)
          exact ⟨by show k ≤ (pz_up (pz_b R u len) (pz_f (pz_b R u len) u x y z i) 5 (k + 1)).2.1 + 1; omega, h3, fun _ => by show k + 1 ≤ (pz_up (pz_b R u len) (pz_f (pz_b R u len) u x y z i) 5 (k + 1)).2.1 + 1; omega⟩
        · exact ⟨by show k ≤ (pz_up (pz_b R u len) (pz_f (pz_b R u len) u x y z i) 5 (k + 1)).2.1; omega, h1.2.1, fun h => by cases h⟩
      · exact pz_base_ok k hk

set_option maxRecDepth 100000 in
set_option maxHeartbeats 4000000 in
theorem t_X12_byteAt {C : zz_C} {d n : Nat} {g : zz_G} {r : zz_R} {Q : zz_Q} (hn : 60 ≤ n) (hr : xr r) {u len : Nat} (hu : g 50 6 = nI u) (hu2 : u < 2) (hl : g 50 8 = nI len) (hl5 : len ≤ 50) {v gd : Int32} {k o : Nat} (j : Nat) (hj : v = nI j) (hj5 : j ≤ 100) (h : Q (some (.int (pz_b (g 51) u len j))) (pm_ g k o gd) r n) : zz_T C mi_X12_byteAt d 0 0 [.ref 50, .int v] (pm_ g k o gd) r n Q := by
  refine zz_T.of [some (.ref 50), some (.int v)] (by decide +kernel) rfl (Nat.le_of_ble_eq_true rfl) ?_
  refine zz_iload_1 dX12_byteAt_0 ?_
  refine zz_aload_0 dX12_byteAt_1 ?_
  refine zz_getI fl_X12_77 rfl rfl (Nat.lt_of_lt_of_le (by decide) hn) dX12_byteAt_2 ?_
  refine zz_icmp_ge 29 dX12_byteAt_5 (by decide) (fun c_5 => ?_) (fun c_5 => ?_)
  · skip
    refine zz_iconst (-1) dX12_byteAt_29 (by decide) ?_
    refine zz_iret rfl dX12_byteAt_30 (by decide) (by decide) ?_
    rw [pm_8, hl, hj] at c_5
    have hlt := zz_gei c_5 (by omega) (by omega)
    rw [pz_b_end hlt] at h
    exact h
  · skip
    refine zz_aload_0 dX12_byteAt_8 ?_
    refine zz_getR fl_X12_7 rfl rfl (Nat.lt_of_lt_of_le (by decide) hn) (xr_50_0 hr) dX12_byteAt_9 ?_
    refine zz_sipush (176) dX12_byteAt_12 (by decide) ?_
    refine zz_bipush (50) dX12_byteAt_15 (by decide) ?_
    refine zz_aload_0 dX12_byteAt_17 ?_
    refine zz_getI fl_X12_81 rfl rfl (Nat.lt_of_lt_of_le (by decide) hn) dX12_byteAt_18 ?_
    refine zz_imul dX12_byteAt_21 ?_
    refine zz_iadd dX12_byteAt_22 ?_
    refine zz_iload_1 dX12_byteAt_23 ?_
    refine zz_iadd dX12_byteAt_24 ?_
    rw [pm_8, hl, hj] at c_5
    have hlt := zz_lti c_5 (by omega) (by omega)
    refine zz_iaN (176 + 50 * u + j) (by rw [pm_6, hu, hj]; show nI 176 + nI 50 * nI u + nI j = _; rw [pk_mul, nI_add, nI_add]) (by omega) (by decide) rfl (Nat.lt_of_lt_of_le (by decide) hn) dX12_byteAt_25 ?_
    refine zz_goto 30 dX12_byteAt_26 (by decide) ?_
    refine zz_iret rfl dX12_byteAt_30 (by decide) (by decide) ?_
    rw [pz_b, if_pos hlt] at h
    rw [pm_51]
    exact h

set_option maxRecDepth 100000 in
set_option maxHeartbeats 4000000 in
theorem t_X12_fails {C : zz_C} {d n : Nat} {g : zz_G} {r : zz_R} {Q : zz_Q} (hn : 60 ≤ n) {gd : Int32} {k o : Nat} (h : Q (some (.int 0)) (pm_ g k o 0) r n) : zz_T C mi_X12_fails d 0 0 [.ref 50] (pm_ g k o gd) r n Q := by
  refine zz_T.of [some (.ref 50)] (by decide +kernel) rfl (Nat.le_of_ble_eq_true rfl) ?_
  refine zz_aload_0 dX12_fails_0 ?_
  refine zz_iconst (0) dX12_fails_1 (by decide) ?_
  refine zz_putZ fl_X12_84 rfl rfl (Nat.lt_of_lt_of_le (by decide) hn) (by decide) dX12_fails_2 ?_
  refine zz_iconst (0) dX12_fails_5 (by decide) ?_
  refine zz_iret rfl dX12_fails_6 (by decide) (by decide) ?_
  rw [pm_ug]
  exact h

set_option maxRecDepth 100000 in
set_option maxHeartbeats 4000000 in
theorem l_X12_number {C : zz_C} {d n : Nat} {g : zz_G} {r : zz_R} {Q : zz_Q} (hn : 60 ≤ n) (hr : xr r) {u len : Nat} (hu : g 50 6 = nI u) (hu2 : u < 2) (hl : g 50 8 = nI len) (hl5 : len ≤ 50) {gd : Int32} {o : Nat} {res : Nat × Int32} (h : Q (some (.int res.2)) (pm_ g res.1 o gd) r n) : ∀ (k : Nat) (j : Nat) (v : Int32) (q : Nat), j ≤ 4 → 4 - j < k → q ≤ len → pz_num (pz_b (g 51) u len) (4 - j) q v = res → zz_Z C mi_X12_number (d + 2) 0 0 0 0 4 [some (.ref 50), some (.int v), some (.int (nI j))] [] (pm_ g q o gd) r n Q := by
  intro k
  induction k with
  | zero => intro j v q hj hk hq he; exact absurd hk (by omega)
  | succ k ih =>
    intro j v q hj hk hq he
    refine zz_iload_2 dX12_number_4 ?_
    refine zz_iconst (4) dX12_number_5 (by decide) ?_
    refine zz_icmp_ge 56 dX12_number_6 (by decide) (fun c_6 => ?_) (fun c_6 => ?_)
    · skip
      refine zz_iload_1 dX12_number_56 ?_
      refine zz_iret rfl dX12_number_57 (by decide) (by decide) ?_
      have := zz_gei (b := 4) c_6 (by omega) (by omega)
      rw [show 4 - j = 0 by omega, pz_num] at he
      rw [← he] at h
      exact h
    · skip
      refine zz_aload_0 dX12_number_9 ?_
      refine zz_aload_0 dX12_number_10 ?_
      refine zz_getI fl_X12_88 rfl rfl (Nat.lt_of_lt_of_le (by decide) hn) dX12_number_11 ?_
      refine zz_callV1i cv_X12_91 rfl (Nat.lt_of_lt_of_le (by decide) hn) (Nat.le_of_ble_eq_true rfl) (by decide) (by decide) dX12_number_14 (t_X12_byteAt hn hr hu hu2 hl hl5 q (pm_k g q o gd) (by omega) ⟨_, rfl, ?_⟩)
      refine zz_callS1i cs_X12_94 (Nat.le_of_ble_eq_true rfl) (by decide) (by decide) dX12_number_17 (t_X12_isDigit (fun a_17 b_17 => ⟨_, rfl, ?_⟩) (fun o_17 => ⟨_, rfl, ?_⟩))
      · skip
        refine zz_if_eq 56 dX12_number_20 (by decide) (fun h => absurd h (by decide)) (fun _ => ?_)
        refine zz_bipush (10) dX12_number_23 (by decide) ?_
        refine zz_iload_1 dX12_number_25 ?_
        refine zz_imul dX12_number_26 ?_
        refine zz_aload_0 dX12_number_27 ?_
        refine zz_aload_0 dX12_number_28 ?_
        refine zz_getI fl_X12_88 rfl rfl (Nat.lt_of_lt_of_le (by decide) hn) dX12_number_29 ?_
        refine zz_callV1i cv_X12_91 rfl (Nat.lt_of_lt_of_le (by decide) hn) (Nat.le_of_ble_eq_true rfl) (by decide) (by decide) dX12_number_32 (t_X12_byteAt hn hr hu hu2 hl hl5 q (pm_k g q o gd) (by omega) ⟨_, rfl, ?_⟩)
        refine zz_iadd dX12_number_35 ?_
        refine zz_bipush (48) dX12_number_36 (by decide) ?_
        refine zz_isub dX12_number_38 ?_
        refine zz_istore_1 dX12_number_39 rfl rfl ?_
        refine zz_aload_0 dX12_number_40 ?_
        refine zz_dup dX12_number_41 rfl ?_
        refine zz_getI fl_X12_88 rfl rfl (Nat.lt_of_lt_of_le (by decide) hn) dX12_number_42 ?_
        refine zz_iconst (1) dX12_number_45 (by decide) ?_
        refine zz_iadd dX12_number_46 ?_
        refine zz_putI fl_X12_88 rfl rfl (Nat.lt_of_lt_of_le (by decide) hn) dX12_number_47 ?_
        refine zz_iinc_2 (1) dX12_number_50 rfl rfl (by decide) ?_
        refine zz_goto 4 dX12_number_53 (by decide) ?_
        have hj4 := zz_lti (b := 4) c_6 (by omega) (by omega)
        have hlt : q < len := pz_b_in fun z => a_17 (by rw [z]; decide)
        rw [pm_k, nI_1, nI_1, pm_uk]
        rw [show 4 - j = (4 - (j + 1)) + 1 by omega, pz_num, if_neg (fun z => z.elim a_17 b_17)] at he
        exact ih (j + 1) _ (q + 1) (by omega) (by omega) (by omega) he
      · skip
        refine zz_if_eq 56 dX12_number_20 (by decide) (fun _ => ?_) (fun h => absurd h (by decide))
        refine zz_iload_1 dX12_number_56 ?_
        refine zz_iret rfl dX12_number_57 (by decide) (by decide) ?_
        have hj4 := zz_lti (b := 4) c_6 (by omega) (by omega)
        rw [show 4 - j = (4 - (j + 1)) + 1 by omega, pz_num, if_pos o_17] at he
        rw [← he] at h
        exact h

set_option maxRecDepth 100000 in
set_option maxHeartbeats 4000000 in
theorem t_X12_number {C : zz_C} {d n : Nat} {g : zz_G} {r : zz_R} {Q : zz_Q} (hn : 60 ≤ n) (hr : xr r) {u len : Nat} (hu : g 50 6 = nI u) (hu2 : u < 2) (hl : g 50 8 = nI len) (hl5 : len ≤ 50) {gd : Int32} {k o : Nat} (hk : k ≤ len) (h : Q (some (.int (pz_num (pz_b (g 51) u len) 4 k 0).2)) (pm_ g (pz_num (pz_b (g 51) u len) 4 k 0).1 o gd) r n) : zz_T C mi_X12_number (d + 2) 0 0 [.ref 50] (pm_ g k o gd) r n Q := by
  refine zz_T.of [some (.ref 50), none, none] (by decide +kernel) rfl (Nat.le_of_ble_eq_true rfl) ?_
  refine zz_iconst (0) dX12_number_0 (by decide) ?_
  refine zz_istore_1 dX12_number_1 rfl rfl ?_
  refine zz_iconst (0) dX12_number_2 (by decide) ?_
  refine zz_istore_2 dX12_number_3 rfl rfl ?_
  exact l_X12_number hn hr hu hu2 hl hl5 h 9 0 0 k (by omega) (by omega) hk rfl

set_option maxRecDepth 100000 in
set_option maxHeartbeats 4000000 in
theorem t_X12_named0 {C : zz_C} {d n : Nat} {g : zz_G} {r : zz_R} {Q : zz_Q} (hn : 60 ≤ n) (hr : xr r) (hu : g 50 6 = 0) {v : Int32} {k o : Nat} (h1 : v = 109 → Q (some (.int (g 50 10))) (pm_ g (k + 1) o 1) r n) (h2 : ¬ v = 109 → v = 107 → Q (some (.int (g 50 11))) (pm_ g (k + 1) o 1) r n) (h3 : ¬ v = 109 → ¬ v = 107 → v = 115 → Q (some (.int (g 50 12))) (pm_ g (k + 1) o 1) r n) (h0 : ¬ v = 109 → ¬ v = 107 → ¬ v = 115 → Q (some (.int 0)) (pm_ g k o 0) r n) : zz_T C mi_X12_named (d + 1) 0 0 [.ref 50, .int v] (pm_ g k o 1) r n Q := by
  refine zz_T.of [some (.ref 50), some (.int v), none, none, none] (by decide +kernel) rfl (Nat.le_of_ble_eq_true rfl) ?_
  refine zz_iload_1 dX12_named_0 ?_
  refine zz_aload_0 dX12_named_1 ?_
  refine zz_getI fl_X12_81 rfl rfl (Nat.lt_of_lt_of_le (by decide) hn) dX12_named_2 ?_
  rw [pm_6, hu]
  refine zz_if_ne 13 dX12_named_5 (by decide) (fun h => absurd h (by decide)) (fun _ => ?_)
  refine zz_bipush (109) dX12_named_8 (by decide) ?_
  refine zz_goto 15 dX12_named_10 (by decide) ?_
  refine zz_icmp_ne 22 dX12_named_15 (by decide) (fun c_15 => ?_) (fun c_15 => ?_)
  · skip
    refine zz_iconst (0) dX12_named_22 (by decide) ?_
    refine zz_istore_2 dX12_named_23 rfl rfl ?_
    refine zz_iload_1 dX12_named_24 ?_
    refine zz_aload_0 dX12_named_25 ?_
    refine zz_getI fl_X12_81 rfl rfl (Nat.lt_of_lt_of_le (by decide) hn) dX12_named_26 ?_
    rw [pm_6, hu]
    refine zz_if_ne 37 dX12_named_29 (by decide) (fun h => absurd h (by decide)) (fun _ => ?_)
    refine zz_bipush (107) dX12_named_32 (by decide) ?_
    refine zz_goto 39 dX12_named_34 (by decide) ?_
    refine zz_icmp_ne 46 dX12_named_39 (by decide) (fun c_39 => ?_) (fun c_39 => ?_)
    · skip
      refine zz_iconst (0) dX12_named_46 (by decide) ?_
      refine zz_istore_3 dX12_named_47 rfl rfl ?_
      refine zz_iload_1 dX12_named_48 ?_
      refine zz_aload_0 dX12_named_49 ?_
      refine zz_getI fl_X12_81 rfl rfl (Nat.lt_of_lt_of_le (by decide) hn) dX12_named_50 ?_
      rw [pm_6, hu]
      refine zz_if_ne 61 dX12_named_53 (by decide) (fun h => absurd h (by decide)) (fun _ => ?_)
      refine zz_bipush (115) dX12_named_56 (by decide) ?_
      refine zz_goto 63 dX12_named_58 (by decide) ?_
      refine zz_icmp_ne 70 dX12_named_63 (by decide) (fun c_63 => ?_) (fun c_63 => ?_)
      · skip
        refine zz_iconst (0) dX12_named_70 (by decide) ?_
        refine zz_istore_4 dX12_named_71 rfl rfl ?_
        refine zz_iload_2 dX12_named_73 ?_
        refine zz_if_ne 91 dX12_named_74 (by decide) (fun h => absurd h (by decide)) (fun _ => ?_)
        refine zz_iload_3 dX12_named_77 ?_
        refine zz_if_ne 91 dX12_named_78 (by decide) (fun h => absurd h (by decide)) (fun _ => ?_)
        refine zz_iload_4 dX12_named_81 ?_
        refine zz_if_ne 91 dX12_named_83 (by decide) (fun h => absurd h (by decide)) (fun _ => ?_)
        refine zz_aload_0 dX12_named_86 ?_
        refine zz_callV0i cv_X12_97 rfl (Nat.lt_of_lt_of_le (by decide) hn) (Nat.le_of_ble_eq_true rfl) (by decide) (by decide) dX12_named_87 (t_X12_fails hn ⟨_, rfl, ?_⟩)
        refine zz_iret rfl dX12_named_90 (by decide) (by decide) ?_
        exact h0 c_15 c_39 c_63
      · skip
        refine zz_iconst (1) dX12_named_66 (by decide) ?_
        refine zz_goto 71 dX12_named_67 (by decide) ?_
        refine zz_istore_4 dX12_named_71 rfl rfl ?_
        refine zz_iload_2 dX12_named_73 ?_
        refine zz_if_ne 91 dX12_named_74 (by decide) (fun h => absurd h (by decide)) (fun _ => ?_)
        refine zz_iload_3 dX12_named_77 ?_
        refine zz_if_ne 91 dX12_named_78 (by decide) (fun h => absurd h (by decide)) (fun _ => ?_)
        refine zz_iload_4 dX12_named_81 ?_
        refine zz_if_ne 91 dX12_named_83 (by decide) (fun _ => ?_) (fun h => absurd h (by decide))
        refine zz_aload_0 dX12_named_91 ?_
        refine zz_dup dX12_named_92 rfl ?_
        refine zz_getI fl_X12_88 rfl rfl (Nat.lt_of_lt_of_le (by decide) hn) dX12_named_93 ?_
        refine zz_iconst (1) dX12_named_96 (by decide) ?_
        refine zz_iadd dX12_named_97 ?_
        refine zz_putI fl_X12_88 rfl rfl (Nat.lt_of_lt_of_le (by decide) hn) dX12_named_98 ?_
        refine zz_iload_2 dX12_named_101 ?_
        refine zz_if_eq 112 dX12_named_102 (by decide) (fun _ => ?_) (fun h => absurd h (by decide))
        refine zz_iload_3 dX12_named_112 ?_
        refine zz_if_eq 123 dX12_named_113 (by decide) (fun _ => ?_) (fun h => absurd h (by decide))
        refine zz_aload_0 dX12_named_123 ?_
        refine zz_getI fl_X12_107 rfl rfl (Nat.lt_of_lt_of_le (by decide) hn) dX12_named_124 ?_
        refine zz_iret rfl dX12_named_127 (by decide) (by decide) ?_
        rw [pm_k, nI_1, pm_uk]
        first
          | exact h1 c_15
          | exact h2 c_15 c_39
          | exact h3 c_15 c_39 c_63
    · skip
      refine zz_iconst (1) dX12_named_42 (by decide) ?_
      refine zz_goto 47 dX12_named_43 (by decide) ?_
      refine zz_istore_3 dX12_named_47 rfl rfl ?_
      refine zz_iload_1 dX12_named_48 ?_
      refine zz_aload_0 dX12_named_49 ?_
      refine zz_getI fl_X12_81 rfl rfl (Nat.lt_of_lt_of_le (by decide) hn) dX12_named_50 ?_
      rw [pm_6, hu]
      refine zz_if_ne 61 dX12_named_53 (by decide) (fun h => absurd h (by decide)) (fun _ => ?_)
      refine zz_bipush (115) dX12_named_56 (by decide) ?_
      refine zz_goto 63 dX12_named_58 (by decide) ?_
      refine zz_icmp_ne 70 dX12_named_63 (by decide) (fun c_63 => ?_) (fun c_63 => ?_)
      · skip
        refine zz_iconst (0) dX12_named_70 (by decide) ?_
        refine zz_istore_4 dX12_named_71 rfl rfl ?_
        refine zz_iload_2 dX12_named_73 ?_
        refine zz_if_ne 91 dX12_named_74 (by decide) (fun h => absurd h (by decide)) (fun _ => ?_)
        refine zz_iload_3 dX12_named_77 ?_
        refine zz_if_ne 91 dX12_named_78 (by decide) (fun _ => ?_) (fun h => absurd h (by decide))
        refine zz_aload_0 dX12_named_91 ?_
        refine zz_dup dX12_named_92 rfl ?_
        refine zz_getI fl_X12_88 rfl rfl (Nat.lt_of_lt_of_le (by decide) hn) dX12_named_93 ?_
        refine zz_iconst (1) dX12_named_96 (by decide) ?_
        refine zz_iadd dX12_named_97 ?_
        refine zz_putI fl_X12_88 rfl rfl (Nat.lt_of_lt_of_le (by decide) hn) dX12_named_98 ?_
        refine zz_iload_2 dX12_named_101 ?_
        refine zz_if_eq 112 dX12_named_102 (by decide) (fun _ => ?_) (fun h => absurd h (by decide))
        refine zz_iload_3 dX12_named_112 ?_
        refine zz_if_eq 123 dX12_named_113 (by decide) (fun h => absurd h (by decide)) (fun _ => ?_)
        refine zz_aload_0 dX12_named_116 ?_
        refine zz_getI fl_X12_104 rfl rfl (Nat.lt_of_lt_of_le (by decide) hn) dX12_named_117 ?_
        refine zz_goto 127 dX12_named_120 (by decide) ?_
        refine zz_iret rfl dX12_named_127 (by decide) (by decide) ?_
        rw [pm_k, nI_1, pm_uk]
        first
          | exact h1 c_15
          | exact h2 c_15 c_39
          | exact h3 c_15 c_39 c_63
      · skip
        refine zz_iconst (1) dX12_named_66 (by decide) ?_
        refine zz_goto 71 dX12_named_67 (by decide) ?_
        refine zz_istore_4 dX12_named_71 rfl rfl ?_
        refine zz_iload_2 dX12_named_73 ?_
        refine zz_if_ne 91 dX12_named_74 (by decide) (fun h => absurd h (by decide)) (fun _ => ?_)
        refine zz_iload_3 dX12_named_77 ?_
        refine zz_if_ne 91 dX12_named_78 (by decide) (fun _ => ?_) (fun h => absurd h (by decide))
        refine zz_aload_0 dX12_named_91 ?_
        refine zz_dup dX12_named_92 rfl ?_
        refine zz_getI fl_X12_88 rfl rfl (Nat.lt_of_lt_of_le (by decide) hn) dX12_named_93 ?_
        refine zz_iconst (1) dX12_named_96 (by decide) ?_
        refine zz_iadd dX12_named_97 ?_
        refine zz_putI fl_X12_88 rfl rfl (Nat.lt_of_lt_of_le (by decide) hn) dX12_named_98 ?_
        refine zz_iload_2 dX12_named_101 ?_
        refine zz_if_eq 112 dX12_named_102 (by decide) (fun _ => ?_) (fun h => absurd h (by decide))
        refine zz_iload_3 dX12_named_112 ?_
        refine zz_if_eq 123 dX12_named_113 (by decide) (fun h => absurd h (by decide)) (fun _ => ?_)
        refine zz_aload_0 dX12_named_116 ?_
        refine zz_getI fl_X12_104 rfl rfl (Nat.lt_of_lt_of_le (by decide) hn) dX12_named_117 ?_
        refine zz_goto 127 dX12_named_120 (by decide) ?_
        refine zz_iret rfl dX12_named_127 (by decide) (by decide) ?_
        rw [pm_k, nI_1, pm_uk]
        first
          | exact h1 c_15
          | exact h2 c_15 c_39
          | exact h3 c_15 c_39 c_63
  · skip
    refine zz_iconst (1) dX12_named_18 (by decide) ?_
    refine zz_goto 23 dX12_named_19 (by decide) ?_
    refine zz_istore_2 dX12_named_23 rfl rfl ?_
    refine zz_iload_1 dX12_named_24 ?_
    refine zz_aload_0 dX12_named_25 ?_
    refine zz_getI fl_X12_81 rfl rfl (Nat.lt_of_lt_of_le (by decide) hn) dX12_named_26 ?_
    rw [pm_6, hu]
    refine zz_if_ne 37 dX12_named_29 (by decide) (fun h => absurd h (by decide)) (fun _ => ?_)
    refine zz_bipush (107) dX12_named_32 (by decide) ?_
    refine zz_goto 39 dX12_named_34 (by decide) ?_
    refine zz_icmp_ne 46 dX12_named_39 (by decide) (fun c_39 => ?_) (fun c_39 => ?_)
    · skip
      refine zz_iconst (0) dX12_named_46 (by decide) ?_
      refine zz_istore_3 dX12_named_47 rfl rfl ?_
      refine zz_iload_1 dX12_named_48 ?_
      refine zz_aload_0 dX12_named_49 ?_
      refine zz_getI fl_X12_81 rfl rfl (Nat.lt_of_lt_of_le (by decide) hn) dX12_named_50 ?_
      rw [pm_6, hu]
      refine zz_if_ne 61 dX12_named_53 (by decide) (fun h => absurd h (by decide)) (fun _ => ?_)
      refine zz_bipush (115) dX12_named_56 (by decide) ?_
      refine zz_goto 63 dX12_named_58 (by decide) ?_
      refine zz_icmp_ne 70 dX12_named_63 (by decide) (fun c_63 => ?_) (fun c_63 => ?_)
      · skip
        refine zz_iconst (0) dX12_named_70 (by decide) ?_
        refine zz_istore_4 dX12_named_71 rfl rfl ?_
        refine zz_iload_2 dX12_named_73 ?_
        refine zz_if_ne 91 dX12_named_74 (by decide) (fun _ => ?_) (fun h => absurd h (by decide))
        refine zz_aload_0 dX12_named_91 ?_
        refine zz_dup dX12_named_92 rfl ?_
        refine zz_getI fl_X12_88 rfl rfl (Nat.lt_of_lt_of_le (by decide) hn) dX12_named_93 ?_
        refine zz_iconst (1) dX12_named_96 (by decide) ?_
        refine zz_iadd dX12_named_97 ?_
        refine zz_putI fl_X12_88 rfl rfl (Nat.lt_of_lt_of_le (by decide) hn) dX12_named_98 ?_
        refine zz_iload_2 dX12_named_101 ?_
        refine zz_if_eq 112 dX12_named_102 (by decide) (fun h => absurd h (by decide)) (fun _ => ?_)
        refine zz_aload_0 dX12_named_105 ?_
        refine zz_getI fl_X12_101 rfl rfl (Nat.lt_of_lt_of_le (by decide) hn) dX12_named_106 ?_
        refine zz_goto 127 dX12_named_109 (by decide) ?_
        refine zz_iret rfl dX12_named_127 (by decide) (by decide) ?_
        rw [pm_k, nI_1, pm_uk]
        first
          | exact h1 c_15
          | exact h2 c_15 c_39
          | exact h3 c_15 c_39 c_63
      · skip
        refine zz_iconst (1) dX12_named_66 (by decide) ?_
        refine zz_goto 71 dX12_named_67 (by decide) ?_
        refine zz_istore_4 dX12_named_71 rfl rfl ?_
        refine zz_iload_2 dX12_named_73 ?_
        refine zz_if_ne 91 dX12_named_74 (by decide) (fun _ => ?_) (fun h => absurd h (by decide))
        refine zz_aload_0 dX12_named_91 ?_
        refine zz_dup dX12_named_92 rfl ?_
        refine zz_getI fl_X12_88 rfl rfl (Nat.lt_of_lt_of_le (by decide) hn) dX12_named_93 ?_
        refine zz_iconst (1) dX12_named_96 (by decide) ?_
        refine zz_iadd dX12_named_97 ?_
        refine zz_putI fl_X12_88 rfl rfl (Nat.lt_of_lt_of_le (by decide) hn) dX12_named_98 ?_
        refine zz_iload_2 dX12_named_101 ?_
        refine zz_if_eq 112 dX12_named_102 (by decide) (fun h => absurd h (by decide)) (fun _ => ?_)
        refine zz_aload_0 dX12_named_105 ?_
        refine zz_getI fl_X12_101 rfl rfl (Nat.lt_of_lt_of_le (by decide) hn) dX12_named_106 ?_
        refine zz_goto 127 dX12_named_109 (by decide) ?_
        refine zz_iret rfl dX12_named_127 (by decide) (by decide) ?_
        rw [pm_k, nI_1, pm_uk]
        first
          | exact h1 c_15
          | exact h2 c_15 c_39
          | exact h3 c_15 c_39 c_63
    · skip
      refine zz_iconst (1) dX12_named_42 (by decide) ?_
      refine zz_goto 47 dX12_named_43 (by decide) ?_
      refine zz_istore_3 dX12_named_47 rfl rfl ?_
      refine zz_iload_1 dX12_named_48 ?_
      refine zz_aload_0 dX12_named_49 ?_
      refine zz_getI fl_X12_81 rfl rfl (Nat.lt_of_lt_of_le (by decide) hn) dX12_named_50 ?_
      rw [pm_6, hu]
      refine zz_if_ne 61 dX12_named_53 (by decide) (fun h => absurd h (by decide)) (fun _ => ?_)
      refine zz_bipush (115) dX12_named_56 (by decide) ?_
      refine zz_goto 63 dX12_named_58 (by decide) ?_
      refine zz_icmp_ne 70 dX12_named_63 (by decide) (fun c_63 => ?_) (fun c_63 => ?_)
      · skip
        refine zz_iconst (0) dX12_named_70 (by decide) ?_
        refine zz_istore_4 dX12_named_71 rfl rfl ?_
        refine zz_iload_2 dX12_named_73 ?_
        refine zz_if_ne 91 dX12_named_74 (by decide) (fun _ => ?_) (fun h => absurd h (by decide))
        refine zz_aload_0 dX12_named_91 ?_
        refine zz_dup dX12_named_92 rfl ?_
        refine zz_getI fl_X12_88 rfl rfl (Nat.lt_of_lt_of_le (by decide) hn) dX12_named_93 ?_
        refine zz_iconst (1) dX12_named_96 (by decide) ?_
        refine zz_iadd dX12_named_97 ?_
        refine zz_putI fl_X12_88 rfl rfl (Nat.lt_of_lt_of_le (by decide) hn) dX12_named_98 ?_
        refine zz_iload_2 dX12_named_101 ?_
        refine zz_if_eq 112 dX12_named_102 (by decide) (fun h => absurd h (by decide)) (fun _ => ?_)
        refine zz_aload_0 dX12_named_105 ?_
        refine zz_getI fl_X12_101 rfl rfl (Nat.lt_of_lt_of_le (by decide) hn) dX12_named_106 ?_
        refine zz_goto 127 dX12_named_109 (by decide) ?_
        refine zz_iret rfl dX12_named_127 (by decide) (by decide) ?_
        rw [pm_k, nI_1, pm_uk]
        first
          | exact h1 c_15
          | exact h2 c_15 c_39
          | exact h3 c_15 c_39 c_63
      · skip
        refine zz_iconst (1) dX12_named_66 (by decide) ?_
        refine zz_goto 71 dX12_named_67 (by decide) ?_
        refine zz_istore_4 dX12_named_71 rfl rfl ?_
        refine zz_iload_2 dX12_named_73 ?_
        refine zz_if_ne 91 dX12_named_74 (by decide) (fun _ => ?_) (fun h => absurd h (by decide))
        refine zz_aload_0 dX12_named_91 ?_
        refine zz_dup dX12_named_92 rfl ?_
        refine zz_getI fl_X12_88 rfl rfl (Nat.lt_of_lt_of_le (by decide) hn) dX12_named_93 ?_
        refine zz_iconst (1) dX12_named_96 (by decide) ?_
        refine zz_iadd dX12_named_97 ?_
        refine zz_putI fl_X12_88 rfl rfl (Nat.lt_of_lt_of_le (by decide) hn) dX12_named_98 ?_
        refine zz_iload_2 dX12_named_101 ?_
        refine zz_if_eq 112 dX12_named_102 (by decide) (fun h => absurd h (by decide)) (fun _ => ?_)
        refine zz_aload_0 dX12_named_105 ?_
        refine zz_getI fl_X12_101 rfl rfl (Nat.lt_of_lt_of_le (by decide) hn) dX12_named_106 ?_
        refine zz_goto 127 dX12_named_109 (by decide) ?_
        refine zz_iret rfl dX12_named_127 (by decide) (by decide) ?_
        rw [pm_k, nI_1, pm_uk]
        first
          | exact h1 c_15
          | exact h2 c_15 c_39
          | exact h3 c_15 c_39 c_63

set_option maxRecDepth 100000 in
set_option maxHeartbeats 4000000 in
theorem t_X12_named1 {C : zz_C} {d n : Nat} {g : zz_G} {r : zz_R} {Q : zz_Q} (hn : 60 ≤ n) (hr : xr r) (hu : g 50 6 = 1) {v : Int32} {k o : Nat} (h1 : v = 102 → Q (some (.int (g 50 10))) (pm_ g (k + 1) o 1) r n) (h2 : ¬ v = 102 → v = 103 → Q (some (.int (g 50 11))) (pm_ g (k + 1) o 1) r n) (h3 : ¬ v = 102 → ¬ v = 103 → v = 119 → Q (some (.int (g 50 12))) (pm_ g (k + 1) o 1) r n) (h0 : ¬ v = 102 → ¬ v = 103 → ¬ v = 119 → Q (some (.int 0)) (pm_ g k o 0) r n) : zz_T C mi_X12_named (d + 1) 0 0 [.ref 50, .int v] (pm_ g k o 1) r n Q := by
  refine zz_T.of [some (.ref 50), some (.int v), none, none, none] (by decide +kernel) rfl (Nat.le_of_ble_eq_true rfl) ?_
  refine zz_iload_1 dX12_named_0 ?_
  refine zz_aload_0 dX12_named_1 ?_
  refine zz_getI fl_X12_81 rfl rfl (Nat.lt_of_lt_of_le (by decide) hn) dX12_named_2 ?_
  rw [pm_6, hu]
  refine zz_if_ne 13 dX12_named_5 (by decide) (fun _ => ?_) (fun h => absurd h (by decide))
  refine zz_bipush (102) dX12_named_13 (by decide) ?_
  refine zz_icmp_ne 22 dX12_named_15 (by decide) (fun c_15 => ?_) (fun c_15 => ?_)
  · skip
    refine zz_iconst (0) dX12_named_22 (by decide) ?_
    refine zz_istore_2 dX12_named_23 rfl rfl ?_
    refine zz_iload_1 dX12_named_24 ?_
    refine zz_aload_0 dX12_named_25 ?_
    refine zz_getI fl_X12_81 rfl rfl (Nat.lt_of_lt_of_le (by decide) hn) dX12_named_26 ?_
    rw [pm_6, hu]
    refine zz_if_ne 37 dX12_named_29 (by decide) (fun _ => ?_) (fun h => absurd h (by decide))
    refine zz_bipush (103) dX12_named_37 (by decide) ?_
    refine zz_icmp_ne 46 dX12_named_39 (by decide) (fun c_39 => ?_) (fun c_39 => ?_)
    · skip
      refine zz_iconst (0) dX12_named_46 (by decide) ?_
      refine zz_istore_3 dX12_named_47 rfl rfl ?_
      refine zz_iload_1 dX12_named_48 ?_
      refine zz_aload_0 dX12_named_49 ?_
      refine zz_getI fl_X12_81 rfl rfl (Nat.lt_of_lt_of_le (by decide) hn) dX12_named_50 ?_
      rw [pm_6, hu]
      refine zz_if_ne 61 dX12_named_53 (by decide) (fun _ => ?_) (fun h => absurd h (by decide))
      refine zz_bipush (119) dX12_named_61 (by decide) ?_
      refine zz_icmp_ne 70 dX12_named_63 (by decide) (fun c_63 => ?_) (fun c_63 => ?_)
      · skip
        refine zz_iconst (0) dX12_named_70 (by decide) ?_
        refine zz_istore_4 dX12_named_71 rfl rfl ?_
        refine zz_iload_2 dX12_named_73 ?_
        refine zz_if_ne 91 dX12_named_74 (by decide) (fun h => absurd h (by decide)) (fun _ => ?_)
        refine zz_iload_3 dX12_named_77 ?_
        refine zz_if_ne 91 dX12_named_78 (by decide) (fun h => absurd h (by decide)) (fun _ => ?_)
        refine zz_iload_4 dX12_named_81 ?_
        refine zz_if_ne 91 dX12_named_83 (by decide) (fun h => absurd h (by decide)) (fun _ => ?_)
        refine zz_aload_0 dX12_named_86 ?_
        refine zz_callV0i cv_X12_97 rfl (Nat.lt_of_lt_of_le (by decide) hn) (Nat.le_of_ble_eq_true rfl) (by decide) (by decide) dX12_named_87 (t_X12_fails hn ⟨_, rfl, ?_⟩)
        refine zz_iret rfl dX12_named_90 (by decide) (by decide) ?_
        exact h0 c_15 c_39 c_63
      · skip
        refine zz_iconst (1) dX12_named_66 (by decide) ?_
        refine zz_goto 71 dX12_named_67 (by decide) ?_
        refine zz_istore_4 dX12_named_71 rfl rfl ?_
        refine zz_iload_2 dX12_named_73 ?_
        refine zz_if_ne 91 dX12_named_74 (by decide) (fun h => absurd h (by decide)) (fun _ => ?_)
        refine zz_iload_3 dX12_named_77 ?_
        refine zz_if_ne 91 dX12_named_78 (by decide) (fun h => absurd h (by decide)) (fun _ => ?_)
        refine zz_iload_4 dX12_named_81 ?_
        refine zz_if_ne 91 dX12_named_83 (by decide) (fun _ => ?_) (fun h => absurd h (by decide))
        refine zz_aload_0 dX12_named_91 ?_
        refine zz_dup dX12_named_92 rfl ?_
        refine zz_getI fl_X12_88 rfl rfl (Nat.lt_of_lt_of_le (by decide) hn) dX12_named_93 ?_
        refine zz_iconst (1) dX12_named_96 (by decide) ?_
        refine zz_iadd dX12_named_97 ?_
        refine zz_putI fl_X12_88 rfl rfl (Nat.lt_of_lt_of_le (by decide) hn) dX12_named_98 ?_
        refine zz_iload_2 dX12_named_101 ?_
        refine zz_if_eq 112 dX12_named_102 (by decide) (fun _ => ?_) (fun h => absurd h (by decide))
        refine zz_iload_3 dX12_named_112 ?_
        refine zz_if_eq 123 dX12_named_113 (by decide) (fun _ => ?_) (fun h => absurd h (by decide))
        refine zz_aload_0 dX12_named_123 ?_
        refine zz_getI fl_X12_107 rfl rfl (Nat.lt_of_lt_of_le (by decide) hn) dX12_named_124 ?_
        refine zz_iret rfl dX12_named_127 (by decide) (by decide) ?_
        rw [pm_k, nI_1, pm_uk]
        first
          | exact h1 c_15
          | exact h2 c_15 c_39
          | exact h3 c_15 c_39 c_63
    · skip
      refine zz_iconst (1) dX12_named_42 (by decide) ?_
      refine zz_goto 47 dX12_named_43 (by decide) ?_
      refine zz_istore_3 dX12_named_47 rfl rfl ?_
      refine zz_iload_1 dX12_named_48 ?_
      refine zz_aload_0 dX12_named_49 ?_
      refine zz_getI fl_X12_81 rfl rfl (Nat.lt_of_lt_of_le (by decide) hn) dX12_named_50 ?_
      rw [pm_6, hu]
      refine zz_if_ne 61 dX12_named_53 (by decide) (fun _ => ?_) (fun h => absurd h (by decide))
      refine zz_bipush (119) dX12_named_61 (by decide) ?_
      refine zz_icmp_ne 70 dX12_named_63 (by decide) (fun c_63 => ?_) (fun c_63 => ?_)
      · skip
        refine zz_iconst (0) dX12_named_70 (by decide) ?_
        refine zz_istore_4 dX12_named_71 rfl rfl ?_
        refine zz_iload_2 dX12_named_73 ?_
        refine zz_if_ne 91 dX12_named_74 (by decide) (fun h => absurd h (by decide)) (fun _ => ?_)
        refine zz_iload_3 dX12_named_77 ?_
        refine zz_if_ne 91 dX12_named_78 (by decide) (fun _ => ?_) (fun h => absurd h (by decide))
        refine zz_aload_0 dX12_named_91 ?_
        refine zz_dup dX12_named_92 rfl ?_
        refine zz_getI fl_X12_88 rfl rfl (Nat.lt_of_lt_of_le (by decide) hn) dX12_named_93 ?_
        refine zz_iconst (1) dX12_named_96 (by decide) ?_
        refine zz_iadd dX12_named_97 ?_
        refine zz_putI fl_X12_88 rfl rfl (Nat.lt_of_lt_of_le (by decide) hn) dX12_named_98 ?_
        refine zz_iload_2 dX12_named_101 ?_
        refine zz_if_eq 112 dX12_named_102 (by decide) (fun _ => ?_) (fun h => absurd h (by decide))
        refine zz_iload_3 dX12_named_112 ?_
        refine zz_if_eq 123 dX12_named_113 (by decide) (fun h => absurd h (by decide)) (fun _ => ?_)
        refine zz_aload_0 dX12_named_116 ?_
        refine zz_getI fl_X12_104 rfl rfl (Nat.lt_of_lt_of_le (by decide) hn) dX12_named_117 ?_
        refine zz_goto 127 dX12_named_120 (by decide) ?_
        refine zz_iret rfl dX12_named_127 (by decide) (by decide) ?_
        rw [pm_k, nI_1, pm_uk]
        first
          | exact h1 c_15
          | exact h2 c_15 c_39
          | exact h3 c_15 c_39 c_63
      · skip
        refine zz_iconst (1) dX12_named_66 (by decide) ?_
        refine zz_goto 71 dX12_named_67 (by decide) ?_
        refine zz_istore_4 dX12_named_71 rfl rfl ?_
        refine zz_iload_2 dX12_named_73 ?_
        refine zz_if_ne 91 dX12_named_74 (by decide) (fun h => absurd h (by decide)) (fun _ => ?_)
        refine zz_iload_3 dX12_named_77 ?_
        refine zz_if_ne 91 dX12_named_78 (by decide) (fun _ => ?_) (fun h => absurd h (by decide))
        refine zz_aload_0 dX12_named_91 ?_
        refine zz_dup dX12_named_92 rfl ?_
        refine zz_getI fl_X12_88 rfl rfl (Nat.lt_of_lt_of_le (by decide) hn) dX12_named_93 ?_
        refine zz_iconst (1) dX12_named_96 (by decide) ?_
        refine zz_iadd dX12_named_97 ?_
        refine zz_putI fl_X12_88 rfl rfl (Nat.lt_of_lt_of_le (by decide) hn) dX12_named_98 ?_
        refine zz_iload_2 dX12_named_101 ?_
        refine zz_if_eq 112 dX12_named_102 (by decide) (fun _ => ?_) (fun h => absurd h (by decide))
        refine zz_iload_3 dX12_named_112 ?_
        refine zz_if_eq 123 dX12_named_113 (by decide) (fun h => absurd h (by decide)) (fun _ => ?_)
        refine zz_aload_0 dX12_named_116 ?_
        refine zz_getI fl_X12_104 rfl rfl (Nat.lt_of_lt_of_le (by decide) hn) dX12_named_117 ?_
        refine zz_goto 127 dX12_named_120 (by decide) ?_
        refine zz_iret rfl dX12_named_127 (by decide) (by decide) ?_
        rw [pm_k, nI_1, pm_uk]
        first
          | exact h1 c_15
          | exact h2 c_15 c_39
          | exact h3 c_15 c_39 c_63
  · skip
    refine zz_iconst (1) dX12_named_18 (by decide) ?_
    refine zz_goto 23 dX12_named_19 (by decide) ?_
    refine zz_istore_2 dX12_named_23 rfl rfl ?_
    refine zz_iload_1 dX12_named_24 ?_
    refine zz_aload_0 dX12_named_25 ?_
    refine zz_getI fl_X12_81 rfl rfl (Nat.lt_of_lt_of_le (by decide) hn) dX12_named_26 ?_
    rw [pm_6, hu]
    refine zz_if_ne 37 dX12_named_29 (by decide) (fun _ => ?_) (fun h => absurd h (by decide))
    refine zz_bipush (103) dX12_named_37 (by decide) ?_
    refine zz_icmp_ne 46 dX12_named_39 (by decide) (fun c_39 => ?_) (fun c_39 => ?_)
    · skip
      refine zz_iconst (0) dX12_named_46 (by decide) ?_
      refine zz_istore_3 dX12_named_47 rfl rfl ?_
      refine zz_iload_1 dX12_named_48 ?_
      refine zz_aload_0 dX12_named_49 ?_
      refine zz_getI fl_X12_81 rfl rfl (Nat.lt_of_lt_of_le (by decide) hn) dX12_named_50 ?_
      rw [pm_6, hu]
      refine zz_if_ne 61 dX12_named_53 (by decide) (fun _ => ?_) (fun h => absurd h (by decide))
      refine zz_bipush (119) dX12_named_61 (by decide) ?_
      refine zz_icmp_ne 70 dX12_named_63 (by decide) (fun c_63 => ?_) (fun c_63 => ?_)
      · skip
        refine zz_iconst (0) dX12_named_70 (by decide) ?_
        refine zz_istore_4 dX12_named_71 rfl rfl ?_
        refine zz_iload_2 dX12_named_73 ?_
        refine zz_if_ne 91 dX12_named_74 (by decide) (fun _ => ?_) (fun h => absurd h (by decide))
        refine zz_aload_0 dX12_named_91 ?_
        refine zz_dup dX12_named_92 rfl ?_
        refine zz_getI fl_X12_88 rfl rfl (Nat.lt_of_lt_of_le (by decide) hn) dX12_named_93 ?_
        refine zz_iconst (1) dX12_named_96 (by decide) ?_
        refine zz_iadd dX12_named_97 ?_
        refine zz_putI fl_X12_88 rfl rfl (Nat.lt_of_lt_of_le (by decide) hn) dX12_named_98 ?_
        refine zz_iload_2 dX12_named_101 ?_
        refine zz_if_eq 112 dX12_named_102 (by decide) (fun h => absurd h (by decide)) (fun _ => ?_)
        refine zz_aload_0 dX12_named_105 ?_
        refine zz_getI fl_X12_101 rfl rfl (Nat.lt_of_lt_of_le (by decide) hn) dX12_named_106 ?_
        refine zz_goto 127 dX12_named_109 (by decide) ?_
        refine zz_iret rfl dX12_named_127 (by decide) (by decide) ?_
        rw [pm_k, nI_1, pm_uk]
        first
          | exact h1 c_15
          | exact h2 c_15 c_39
          | exact h3 c_15 c_39 c_63
      · skip
        refine zz_iconst (1) dX12_named_66 (by decide) ?_
        refine zz_goto 71 dX12_named_67 (by decide) ?_
        refine zz_istore_4 dX12_named_71 rfl rfl ?_
        refine zz_iload_2 dX12_named_73 ?_
        refine zz_if_ne 91 dX12_named_74 (by decide) (fun _ => ?_) (fun h => absurd h (by decide))
        refine zz_aload_0 dX12_named_91 ?_
        refine zz_dup dX12_named_92 rfl ?_
        refine zz_getI fl_X12_88 rfl rfl (Nat.lt_of_lt_of_le (by decide) hn) dX12_named_93 ?_
        refine zz_iconst (1) dX12_named_96 (by decide) ?_
        refine zz_iadd dX12_named_97 ?_
        refine zz_putI fl_X12_88 rfl rfl (Nat.lt_of_lt_of_le (by decide) hn) dX12_named_98 ?_
        refine zz_iload_2 dX12_named_101 ?_
        refine zz_if_eq 112 dX12_named_102 (by decide) (fun h => absurd h (by decide)) (fun _ => ?_)
        refine zz_aload_0 dX12_named_105 ?_
        refine zz_getI fl_X12_101 rfl rfl (Nat.lt_of_lt_of_le (by decide) hn) dX12_named_106 ?_
        refine zz_goto 127 dX12_named_109 (by decide) ?_
        refine zz_iret rfl dX12_named_127 (by decide) (by decide) ?_
        rw [pm_k, nI_1, pm_uk]
        first
          | exact h1 c_15
          | exact h2 c_15 c_39
          | exact h3 c_15 c_39 c_63
    · skip
      refine zz_iconst (1) dX12_named_42 (by decide) ?_
      refine zz_goto 47 dX12_named_43 (by decide) ?_
      refine zz_istore_3 dX12_named_47 rfl rfl ?_
      refine zz_iload_1 dX12_named_48 ?_
      refine zz_aload_0 dX12_named_49 ?_
      refine zz_getI fl_X12_81 rfl rfl (Nat.lt_of_lt_of_le (by decide) hn) dX12_named_50 ?_
      rw [pm_6, hu]
      refine zz_if_ne 61 dX12_named_53 (by decide) (fun _ => ?_) (fun h => absurd h (by decide))
      refine zz_bipush (119) dX12_named_61 (by decide) ?_
      refine zz_icmp_ne 70 dX12_named_63 (by decide) (fun c_63 => ?_) (fun c_63 => ?_)
      · skip
        refine zz_iconst (0) dX12_named_70 (by decide) ?_
        refine zz_istore_4 dX12_named_71 rfl rfl ?_
        refine zz_iload_2 dX12_named_73 ?_
        refine zz_if_ne 91 dX12_named_74 (by decide) (fun _ => ?_) (fun h => absurd h (by decide))
        refine zz_aload_0 dX12_named_91 ?_
        refine zz_dup dX12_named_92 rfl ?_
        refine zz_getI fl_X12_88 rfl rfl (Nat.lt_of_lt_of_le (by decide) hn) dX12_named_93 ?_
        refine zz_iconst (1) dX12_named_96 (by decide) ?_
        refine zz_iadd dX12_named_97 ?_
        refine zz_putI fl_X12_88 rfl rfl (Nat.lt_of_lt_of_le (by decide) hn) dX12_named_98 ?_
        refine zz_iload_2 dX12_named_101 ?_
        refine zz_if_eq 112 dX12_named_102 (by decide) (fun h => absurd h (by decide)) (fun _ => ?_)
        refine zz_aload_0 dX12_named_105 ?_
        refine zz_getI fl_X12_101 rfl rfl (Nat.lt_of_lt_of_le (by decide) hn) dX12_named_106 ?_
        refine zz_goto 127 dX12_named_109 (by decide) ?_
        refine zz_iret rfl dX12_named_127 (by decide) (by decide) ?_
        rw [pm_k, nI_1, pm_uk]
        first
          | exact h1 c_15
          | exact h2 c_15 c_39
          | exact h3 c_15 c_39 c_63
      · skip
        refine zz_iconst (1) dX12_named_66 (by decide) ?_
        refine zz_goto 71 dX12_named_67 (by decide) ?_
        refine zz_istore_4 dX12_named_71 rfl rfl ?_
        refine zz_iload_2 dX12_named_73 ?_
        refine zz_if_ne 91 dX12_named_74 (by decide) (fun _ => ?_) (fun h => absurd h (by decide))
        refine zz_aload_0 dX12_named_91 ?_
        refine zz_dup dX12_named_92 rfl ?_
        refine zz_getI fl_X12_88 rfl rfl (Nat.lt_of_lt_of_le (by decide) hn) dX12_named_93 ?_
        refine zz_iconst (1) dX12_named_96 (by decide) ?_
        refine zz_iadd dX12_named_97 ?_
        refine zz_putI fl_X12_88 rfl rfl (Nat.lt_of_lt_of_le (by decide) hn) dX12_named_98 ?_
        refine zz_iload_2 dX12_named_101 ?_
        refine zz_if_eq 112 dX12_named_102 (by decide) (fun h => absurd h (by decide)) (fun _ => ?_)
        refine zz_aload_0 dX12_named_105 ?_
        refine zz_getI fl_X12_101 rfl rfl (Nat.lt_of_lt_of_le (by decide) hn) dX12_named_106 ?_
        refine zz_goto 127 dX12_named_109 (by decide) ?_
        refine zz_iret rfl dX12_named_127 (by decide) (by decide) ?_
        rw [pm_k, nI_1, pm_uk]
        first
          | exact h1 c_15
          | exact h2 c_15 c_39
          | exact h3 c_15 c_39 c_63
