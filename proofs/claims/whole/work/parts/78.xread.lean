/-! the class's reader of texts: cell 37 (2 at, 3 end), its steps 38, 39 -/
def rd_ (g : zz_G) (k : Nat) (cs : List Int32) : zz_G := fun a b => if a = 37 ∧ b = 2 then nI k else if a = 38 ∧ b = 1 then nI cs.length else if a = 39 ∧ b < cs.length then cs.getD b 0 else g a b
def rj (g g' : zz_G) : Prop := ∀ a b, ¬ (a = 37 ∧ b = 2) → a ≠ 38 → a ≠ 39 → g' a b = g a b
theorem rd_j {g : zz_G} {k : Nat} {cs : List Int32} : rj g (rd_ g k cs) := fun a b h1 h2 h3 => by
  unfold rd_
  rw [if_neg h1, if_neg (by omega), if_neg (by omega)]
theorem rd_k (g : zz_G) (k : Nat) (cs : List Int32) : rd_ g k cs 37 2 = nI k := if_pos ⟨rfl, rfl⟩
theorem rd_en (g : zz_G) (k : Nat) (cs : List Int32) : rd_ g k cs 37 3 = g 37 3 := rd_j _ _ (by decide) (by decide) (by decide)
theorem rd_21 (g : zz_G) (k j : Nat) (cs : List Int32) : rd_ g k cs 999 j = g 999 j := rd_j _ _ (by omega) (by decide) (by decide)
theorem rd_sz (g : zz_G) (k : Nat) (cs : List Int32) : rd_ g k cs 38 1 = nI cs.length := by
  unfold rd_
  rw [if_neg (by omega), if_pos ⟨rfl, rfl⟩]
theorem rd_uk (g : zz_G) (k k' : Nat) (cs : List Int32) : zz_u (rd_ g k cs) 37 2 (nI k') = rd_ g k' cs := by
  funext a b
  unfold zz_u rd_
  by_cases h : a = 37 ∧ b = 2
  · rw [if_pos h, if_pos h]
  · rw [if_neg h, if_neg h, if_neg h]
theorem rd_add (g : zz_G) (k : Nat) (cs : List Int32) (x : Int32) : zz_u (zz_u (rd_ g k cs) 39 cs.length x) 38 1 (nI (cs.length + 1)) = rd_ g k (cs ++ [x]) := by
  have hl : (cs ++ [x]).length = cs.length + 1 := by simp
  funext a b
  unfold zz_u rd_
  rw [hl]
  by_cases h1 : a = 38 ∧ b = 1
  · rw [if_pos h1, if_neg (by omega), if_pos h1]
  · rw [if_neg h1]
    by_cases h2 : a = 39 ∧ b = cs.length
    · obtain ⟨rfl, rfl⟩ := h2
      rw [if_pos ⟨rfl, rfl⟩, if_neg (by omega), if_neg (by omega), if_pos ⟨rfl, by omega⟩]
      simp
    · rw [if_neg h2]
      by_cases h3 : a = 37 ∧ b = 2
      · rw [if_pos h3, if_pos h3]
      · rw [if_neg h3, if_neg h3, if_neg h1, if_neg h1]
        by_cases h4 : a = 39 ∧ b < cs.length
        · rw [if_pos h4, if_pos ⟨h4.1, by omega⟩, List.getD_eq_getElem?_getD, List.getD_eq_getElem?_getD, List.getElem?_append_left h4.2]
        · rw [if_neg h4, if_neg (by omega)]
def lvo (c : Int32) : Int32 := if c = 124 then 0 else if c = 38 then 1 else if c = 60 ∨ c = 61 ∨ c = 62 then 2 else if c = 43 ∨ c = 45 then 3 else if c = 42 ∨ c = 47 ∨ c = 37 then 4 else -1
theorem lvo_is {c : Int32} {lv : Nat} (hlv : lv ≤ 4) : lvo c = nI lv ↔ pz_is lv c := by
  have hc : c = 124 ∨ c = 38 ∨ c = 60 ∨ c = 61 ∨ c = 62 ∨ c = 43 ∨ c = 45 ∨ c = 42 ∨ c = 47 ∨ c = 37 ∨ (¬ c = 124 ∧ ¬ c = 38 ∧ ¬ c = 60 ∧ ¬ c = 61 ∧ ¬ c = 62 ∧ ¬ c = 43 ∧ ¬ c = 45 ∧ ¬ c = 42 ∧ ¬ c = 47 ∧ ¬ c = 37) := by
    by_cases h1 : c = 124
    · exact Or.inl h1
    by_cases h2 : c = 38
    · exact Or.inr (Or.inl h2)
    by_cases h3 : c = 60
    · exact Or.inr (Or.inr (Or.inl h3))
    by_cases h4 : c = 61
    · exact Or.inr (Or.inr (Or.inr (Or.inl h4)))
    by_cases h5 : c = 62
    · exact Or.inr (Or.inr (Or.inr (Or.inr (Or.inl h5))))
    by_cases h6 : c = 43
    · exact Or.inr (Or.inr (Or.inr (Or.inr (Or.inr (Or.inl h6)))))
    by_cases h7 : c = 45
    · exact Or.inr (Or.inr (Or.inr (Or.inr (Or.inr (Or.inr (Or.inl h7))))))
    by_cases h8 : c = 42
    · exact Or.inr (Or.inr (Or.inr (Or.inr (Or.inr (Or.inr (Or.inr (Or.inl h8)))))))
    by_cases h9 : c = 47
    · exact Or.inr (Or.inr (Or.inr (Or.inr (Or.inr (Or.inr (Or.inr (Or.inr (Or.inl h9))))))))
    by_cases h10 : c = 37
    · exact Or.inr (Or.inr (Or.inr (Or.inr (Or.inr (Or.inr (Or.inr (Or.inr (Or.inr (Or.inl h10)))))))))
    exact Or.inr (Or.inr (Or.inr (Or.inr (Or.inr (Or.inr (Or.inr (Or.inr (Or.inr (Or.inr ⟨h1, h2, h3, h4, h5, h6, h7, h8, h9, h10⟩)))))))))
  have hl : lv = 0 ∨ lv = 1 ∨ lv = 2 ∨ lv = 3 ∨ lv = 4 := by omega
  rcases hc with rfl | rfl | rfl | rfl | rfl | rfl | rfl | rfl | rfl | rfl | ⟨h1, h2, h3, h4, h5, h6, h7, h8, h9, h10⟩
  iterate 10 (rcases hl with rfl | rfl | rfl | rfl | rfl <;> decide)
  have e : lvo c = -1 := by
    unfold lvo
    rw [if_neg h1, if_neg h2, if_neg (fun z => z.elim h3 (fun z => z.elim h4 h5)), if_neg (fun z => z.elim h6 h7), if_neg (fun z => z.elim h8 (fun z => z.elim h9 h10))]
  rw [e]
  constructor
  · intro q
    rcases hl with rfl | rfl | rfl | rfl | rfl <;> exact absurd q (by decide)
  · rintro (⟨-, q⟩ | ⟨-, q⟩ | ⟨-, q⟩ | ⟨-, q⟩ | ⟨-, q⟩)
    · exact absurd q h1
    · exact absurd q h2
    · exact (q.elim h3 (fun z => z.elim h4 h5)).elim
    · exact (q.elim h6 h7).elim
    · exact (q.elim h8 (fun z => z.elim h9 h10)).elim
/-- what a method that reads does, from any place -/
def rz_S (C : zz_C) (M : zz_M) (as : List Value) (D : Nat) (g : zz_G) (r : zz_R) (n len : Nat) (step : Nat → pz_T) : Prop := ∀ (d k : Nat) (cs : List Int32) (Q : zz_Q), D ≤ d → k ≤ len → cs.length ≤ k → ((step k).1 = true → Q (some (.int 1)) (rd_ g (step k).2.1 (cs ++ (step k).2.2.2)) r n) → ((step k).1 = false → ∀ g', rj g g' → g' 37 2 = nI (step k).2.1 → Q (some (.int 0)) g' r n) → zz_T C M d 0 0 (.ref 37 :: as) (rd_ g k cs) r n Q
set_option maxRecDepth 100000 in
set_option maxHeartbeats 4000000 in
theorem t_X5_next {C : zz_C} {d n : Nat} {g : zz_G} {r : zz_R} {Q : zz_Q} {R : Nat → Int32} {u len : Nat} (hn : 60 ≤ n) (hr : xr r) (hu2 : u < 2) (hl5 : len ≤ 50) (hen : g 37 3 = nI len) (hby : ∀ j, j < len → ∃ t : Nat, t < 256 ∧ R (176 + 50 * u + j) = nI t ∧ g 999 j = nI t) {k : Nat} {cs : List Int32} (hk : k ≤ len) (h : Q (some (.int (pz_b R u len k))) (rd_ g k cs) r n) : zz_T C mi_X5_next d 0 0 [.ref 37] (rd_ g k cs) r n Q := by
  refine zz_T.of [some (.ref 37)] (by decide +kernel) rfl (Nat.le_of_ble_eq_true rfl) ?_
  refine zz_aload_0 dX5_next_0 ?_
  refine zz_getI fl_X5_22 rfl rfl (Nat.lt_of_lt_of_le (by decide) hn) dX5_next_1 ?_
  refine zz_if_lt 30 dX5_next_4 (by decide) (fun c_4 => ?_) (fun c_4 => ?_)
  · skip
    refine zz_iconst (-1) dX5_next_30 (by decide) ?_
    refine zz_iret rfl dX5_next_31 (by decide) (by decide) ?_
    rw [rd_k] at c_4
    exact absurd c_4 (nI_pos (by omega))
  · skip
    refine zz_aload_0 dX5_next_7 ?_
    refine zz_getI fl_X5_22 rfl rfl (Nat.lt_of_lt_of_le (by decide) hn) dX5_next_8 ?_
    refine zz_aload_0 dX5_next_11 ?_
    refine zz_getI fl_X5_26 rfl rfl (Nat.lt_of_lt_of_le (by decide) hn) dX5_next_12 ?_
    refine zz_icmp_ge 30 dX5_next_15 (by decide) (fun c_15 => ?_) (fun c_15 => ?_)
    · skip
      refine zz_iconst (-1) dX5_next_30 (by decide) ?_
      refine zz_iret rfl dX5_next_31 (by decide) (by decide) ?_
      rw [rd_k, rd_en, hen] at c_15
      rw [pz_b_end (zz_gei c_15 (by omega) (by omega))] at h
      exact h
    · skip
      rw [rd_k, rd_en, hen] at c_15
      have hlt := zz_lti c_15 (by omega) (by omega)
      refine zz_aload_0 dX5_next_18 ?_
      refine zz_getR fl_X5_9 rfl rfl (Nat.lt_of_lt_of_le (by decide) hn) (xr_37_0 hr) dX5_next_19 ?_
      refine zz_aload_0 dX5_next_22 ?_
      refine zz_getI fl_X5_22 rfl rfl (Nat.lt_of_lt_of_le (by decide) hn) dX5_next_23 ?_
      refine zz_iaN9 (zz_b_1 (xr_998_0 hr)) k (rd_k g k cs) (by omega) dX5_next_26 ?_
      refine zz_goto 31 dX5_next_27 (by decide) ?_
      refine zz_iret rfl dX5_next_31 (by decide) (by decide) ?_
      obtain ⟨t, ht, e1, e2⟩ := hby k hlt
      rw [pz_b, if_pos hlt, e1] at h
      rw [rd_21, e2]
      exact h

set_option maxRecDepth 100000 in
set_option maxHeartbeats 4000000 in
theorem t_X5_isDigit {C : zz_C} {d n : Nat} {g : zz_G} {r : zz_R} {Q : zz_Q} {v : Int32} (h1 : ¬ v < 48 → ¬ 57 < v → Q (some (.int 1)) g r n) (h0 : v < 48 ∨ 57 < v → Q (some (.int 0)) g r n) : zz_T C mi_X5_isDigit d 0 0 [.int v] g r n Q := by
  refine zz_T.of [some (.int v)] (by decide +kernel) rfl (Nat.le_of_ble_eq_true rfl) ?_
  refine zz_iload_0 dX5_isDigit_0 ?_
  refine zz_bipush (48) dX5_isDigit_1 (by decide) ?_
  refine zz_icmp_lt 16 dX5_isDigit_3 (by decide) (fun c_3 => ?_) (fun c_3 => ?_)
  · skip
    refine zz_iconst (0) dX5_isDigit_16 (by decide) ?_
    refine zz_zret rfl (by rfl) dX5_isDigit_17 (by decide) (by decide) ?_
    exact h0 (by first | exact Or.inl c_3 | exact Or.inr c_9)
  · skip
    refine zz_iload_0 dX5_isDigit_6 ?_
    refine zz_bipush (57) dX5_isDigit_7 (by decide) ?_
    refine zz_icmp_gt 16 dX5_isDigit_9 (by decide) (fun c_9 => ?_) (fun c_9 => ?_)
    · skip
      refine zz_iconst (0) dX5_isDigit_16 (by decide) ?_
      refine zz_zret rfl (by rfl) dX5_isDigit_17 (by decide) (by decide) ?_
      exact h0 (by first | exact Or.inl c_3 | exact Or.inr c_9)
    · skip
      refine zz_iconst (1) dX5_isDigit_12 (by decide) ?_
      refine zz_goto 17 dX5_isDigit_13 (by decide) ?_
      refine zz_zret rfl (by rfl) dX5_isDigit_17 (by decide) (by decide) ?_
      exact h1 c_3 c_9

set_option maxRecDepth 100000 in
set_option maxHeartbeats 4000000 in
theorem t_X5_levelOf {C : zz_C} {d n : Nat} {g : zz_G} {r : zz_R} {Q : zz_Q} {v : Int32} (h : Q (some (.int (lvo v))) g r n) : zz_T C mi_X5_levelOf d 0 0 [.int v] g r n Q := by
  refine zz_T.of [some (.int v)] (by decide +kernel) rfl (Nat.le_of_ble_eq_true rfl) ?_
  refine zz_iload_0 dX5_levelOf_0 ?_
  refine zz_lsw [(37, 100), (38, 94), (42, 100), (43, 98), (45, 98), (47, 100), (60, 96), (61, 96), (62, 96), (124, 92)] 102 dX5_levelOf_1 (by decide) (by decide) (by decide) (fun q_1 hq_1 eq_1 => ?_) (fun ho_1 => ?_)
  · simp only [List.mem_cons, List.not_mem_nil, or_false] at hq_1
    rcases hq_1 with rfl | rfl | rfl | rfl | rfl | rfl | rfl | rfl | rfl | rfl
    · have e_1 : _ = (37 : Int32) := eq_1
      refine zz_iconst (4) dX5_levelOf_100 (by decide) ?_
      refine zz_iret rfl dX5_levelOf_101 (by decide) (by decide) ?_
      rw [show lvo v = 4 from by rw [show v = 37 from e_1]; decide] at h
      exact h
    · have e_1 : _ = (38 : Int32) := eq_1
      refine zz_iconst (1) dX5_levelOf_94 (by decide) ?_
      refine zz_iret rfl dX5_levelOf_95 (by decide) (by decide) ?_
      rw [show lvo v = 1 from by rw [show v = 38 from e_1]; decide] at h
      exact h
    · have e_1 : _ = (42 : Int32) := eq_1
      refine zz_iconst (4) dX5_levelOf_100 (by decide) ?_
      refine zz_iret rfl dX5_levelOf_101 (by decide) (by decide) ?_
      rw [show lvo v = 4 from by rw [show v = 42 from e_1]; decide] at h
      exact h
    · have e_1 : _ = (43 : Int32) := eq_1
      refine zz_iconst (3) dX5_levelOf_98 (by decide) ?_
      refine zz_iret rfl dX5_levelOf_99 (by decide) (by decide) ?_
      rw [show lvo v = 3 from by rw [show v = 43 from e_1]; decide] at h
      exact h
    · have e_1 : _ = (45 : Int32) := eq_1
      refine zz_iconst (3) dX5_levelOf_98 (by decide) ?_
      refine zz_iret rfl dX5_levelOf_99 (by decide) (by decide) ?_
      rw [show lvo v = 3 from by rw [show v = 45 from e_1]; decide] at h
      exact h
    · have e_1 : _ = (47 : Int32) := eq_1
      refine zz_iconst (4) dX5_levelOf_100 (by decide) ?_
      refine zz_iret rfl dX5_levelOf_101 (by decide) (by decide) ?_
      rw [show lvo v = 4 from by rw [show v = 47 from e_1]; decide] at h
      exact h
    · have e_1 : _ = (60 : Int32) := eq_1
      refine zz_iconst (2) dX5_levelOf_96 (by decide) ?_
      refine zz_iret rfl dX5_levelOf_97 (by decide) (by decide) ?_
      rw [show lvo v = 2 from by rw [show v = 60 from e_1]; decide] at h
      exact h
    · have e_1 : _ = (61 : Int32) := eq_1
      refine zz_iconst (2) dX5_levelOf_96 (by decide) ?_
      refine zz_iret rfl dX5_levelOf_97 (by decide) (by decide) ?_
      rw [show lvo v = 2 from by rw [show v = 61 from e_1]; decide] at h
      exact h
    · have e_1 : _ = (62 : Int32) := eq_1
      refine zz_iconst (2) dX5_levelOf_96 (by decide) ?_
      refine zz_iret rfl dX5_levelOf_97 (by decide) (by decide) ?_
      rw [show lvo v = 2 from by rw [show v = 62 from e_1]; decide] at h
      exact h
    · have e_1 : _ = (124 : Int32) := eq_1
      refine zz_iconst (0) dX5_levelOf_92 (by decide) ?_
      refine zz_iret rfl dX5_levelOf_93 (by decide) (by decide) ?_
      rw [show lvo v = 0 from by rw [show v = 124 from e_1]; decide] at h
      exact h
  · skip
    have n0_1 : ¬ _ = (37 : Int32) := ho_1 (37, 100) (by simp)
    have n1_1 : ¬ _ = (38 : Int32) := ho_1 (38, 94) (by simp)
    have n2_1 : ¬ _ = (42 : Int32) := ho_1 (42, 100) (by simp)
    have n3_1 : ¬ _ = (43 : Int32) := ho_1 (43, 98) (by simp)
    have n4_1 : ¬ _ = (45 : Int32) := ho_1 (45, 98) (by simp)
    have n5_1 : ¬ _ = (47 : Int32) := ho_1 (47, 100) (by simp)
    have n6_1 : ¬ _ = (60 : Int32) := ho_1 (60, 96) (by simp)
    have n7_1 : ¬ _ = (61 : Int32) := ho_1 (61, 96) (by simp)
    have n8_1 : ¬ _ = (62 : Int32) := ho_1 (62, 96) (by simp)
    have n9_1 : ¬ _ = (124 : Int32) := ho_1 (124, 92) (by simp)
    refine zz_iconst (-1) dX5_levelOf_102 (by decide) ?_
    refine zz_iret rfl dX5_levelOf_103 (by decide) (by decide) ?_
    rw [show lvo v = -1 from by unfold lvo; rw [if_neg n9_1, if_neg n1_1, if_neg (fun z => z.elim n6_1 (fun z => z.elim n7_1 n8_1)), if_neg (fun z => z.elim n3_1 n4_1), if_neg (fun z => z.elim n2_1 (fun z => z.elim n5_1 n0_1))]] at h
    exact h

set_option maxRecDepth 100000 in
set_option maxHeartbeats 4000000 in
theorem t_X8_add {C : zz_C} {d n : Nat} {g : zz_G} {r : zz_R} {Q : zz_Q} (hn : 60 ≤ n) (hr : xr r) {x : Int32} {k : Nat} {cs : List Int32} (hcs : cs.length < 50) (h : Q none (rd_ g k (cs ++ [x])) r n) : zz_T C mi_X8_add d 0 0 [.ref 38, .int x] (rd_ g k cs) r n Q := by
  refine zz_T.of [some (.ref 38), some (.int x)] (by decide +kernel) rfl (Nat.le_of_ble_eq_true rfl) ?_
  refine zz_aload_0 dX8_add_0 ?_
  refine zz_getI fl_X8_15 rfl rfl (Nat.lt_of_lt_of_le (by decide) hn) dX8_add_1 ?_
  refine zz_bipush (50) dX8_add_4 (by decide) ?_
  refine zz_icmp_ge 29 dX8_add_6 (by decide) (fun c_6 => ?_) (fun c_6 => ?_)
  · skip
    refine zz_vret rfl dX8_add_29 (by decide) (by decide) ?_
    rw [rd_sz] at c_6
    exact absurd ((nI_leI (a := 50) (b := cs.length) (by omega) (by omega)).mp c_6) (by omega)
  · skip
    refine zz_aload_0 dX8_add_9 ?_
    refine zz_getR fl_X8_9 rfl rfl (Nat.lt_of_lt_of_le (by decide) hn) (xr_38_0 hr) dX8_add_10 ?_
    refine zz_aload_0 dX8_add_13 ?_
    refine zz_getI fl_X8_15 rfl rfl (Nat.lt_of_lt_of_le (by decide) hn) dX8_add_14 ?_
    refine zz_iload_1 dX8_add_17 ?_
    refine zz_isN cs.length (rd_sz g k cs) hcs (by decide) rfl (Nat.lt_of_lt_of_le (by decide) hn) dX8_add_18 ?_
    refine zz_aload_0 dX8_add_19 ?_
    refine zz_dup dX8_add_20 rfl ?_
    refine zz_getI fl_X8_15 rfl rfl (Nat.lt_of_lt_of_le (by decide) hn) dX8_add_21 ?_
    refine zz_iconst (1) dX8_add_24 (by decide) ?_
    refine zz_iadd dX8_add_25 ?_
    refine zz_putI fl_X8_15 rfl rfl (Nat.lt_of_lt_of_le (by decide) hn) dX8_add_26 ?_
    refine zz_vret rfl dX8_add_29 (by decide) (by decide) ?_
    rw [zz_u_ne1 _ _ (show (38 : Nat) ≠ 39 by decide), rd_sz, nI_1, rd_add]
    exact h

set_option maxRecDepth 100000 in
set_option maxHeartbeats 4000000 in
theorem l_X5_readNumber {C : zz_C} {d n : Nat} {g : zz_G} {r : zz_R} {Q : zz_Q} {R : Nat → Int32} {u len : Nat} (hn : 60 ≤ n) (hr : xr r) (hu2 : u < 2) (hl5 : len ≤ 50) (hen : g 37 3 = nI len) (hby : ∀ j, j < len → ∃ t : Nat, t < 256 ∧ R (176 + 50 * u + j) = nI t ∧ g 999 j = nI t) {cs : List Int32} {res : Nat × Int32} (hcs : cs.length < 50) (h : Q none (rd_ g res.1 (cs ++ [res.2])) r n) : ∀ (k : Nat) (j : Nat) (v : Int32) (q : Nat), j ≤ 4 → 4 - j < k → q ≤ len → pz_num (pz_b R u len) (4 - j) q v = res → zz_Z C mi_X5_readNumber (d + 1) 0 0 0 0 4 [some (.ref 37), some (.int v), some (.int (nI j))] [] (rd_ g q cs) r n Q := by
  intro k
  induction k with
  | zero => intro j v q hj hk hq he; exact absurd hk (by omega)
  | succ k ih =>
    intro j v q hj hk hq he
    refine zz_iload_2 dX5_readNumber_4 ?_
    refine zz_iconst (4) dX5_readNumber_5 (by decide) ?_
    refine zz_icmp_ge 48 dX5_readNumber_6 (by decide) (fun c_6 => ?_) (fun c_6 => ?_)
    · skip
      refine zz_aload_0 dX5_readNumber_48 ?_
      refine zz_getR fl_X5_18 rfl rfl (Nat.lt_of_lt_of_le (by decide) hn) (xr_37_1 hr) dX5_readNumber_49 ?_
      refine zz_iload_1 dX5_readNumber_52 ?_
      refine zz_callV1v cv_X5_66 rfl (Nat.lt_of_lt_of_le (by decide) hn) (Nat.le_of_ble_eq_true rfl) (by decide) (by decide) dX5_readNumber_53 (t_X8_add hn hr hcs ⟨rfl, ?_⟩)
      refine zz_vret rfl dX5_readNumber_56 (by decide) (by decide) ?_
      have := zz_gei (b := 4) c_6 (by omega) (by omega)
      rw [show 4 - j = 0 by omega, pz_num] at he
      rw [← he] at h
      exact h
    · skip
      refine zz_aload_0 dX5_readNumber_9 ?_
      refine zz_callV0i cv_X5_58 rfl (Nat.lt_of_lt_of_le (by decide) hn) (Nat.le_of_ble_eq_true rfl) (by decide) (by decide) dX5_readNumber_10 (t_X5_next hn hr hu2 hl5 hen hby (k := q) (by omega) ⟨_, rfl, ?_⟩)
      refine zz_callS1i cs_X5_70 (Nat.le_of_ble_eq_true rfl) (by decide) (by decide) dX5_readNumber_13 (t_X5_isDigit (fun a_13 b_13 => ⟨_, rfl, ?_⟩) (fun o_13 => ⟨_, rfl, ?_⟩))
      · skip
        refine zz_if_eq 48 dX5_readNumber_16 (by decide) (fun h => absurd h (by decide)) (fun _ => ?_)
        refine zz_iload_1 dX5_readNumber_19 ?_
        refine zz_bipush (10) dX5_readNumber_20 (by decide) ?_
        refine zz_imul dX5_readNumber_22 ?_
        refine zz_aload_0 dX5_readNumber_23 ?_
        refine zz_callV0i cv_X5_58 rfl (Nat.lt_of_lt_of_le (by decide) hn) (Nat.le_of_ble_eq_true rfl) (by decide) (by decide) dX5_readNumber_24 (t_X5_next hn hr hu2 hl5 hen hby (k := q) (by omega) ⟨_, rfl, ?_⟩)
        refine zz_iadd dX5_readNumber_27 ?_
        refine zz_bipush (48) dX5_readNumber_28 (by decide) ?_
        refine zz_isub dX5_readNumber_30 ?_
        refine zz_istore_1 dX5_readNumber_31 rfl rfl ?_
        refine zz_aload_0 dX5_readNumber_32 ?_
        refine zz_dup dX5_readNumber_33 rfl ?_
        refine zz_getI fl_X5_22 rfl rfl (Nat.lt_of_lt_of_le (by decide) hn) dX5_readNumber_34 ?_
        refine zz_iconst (1) dX5_readNumber_37 (by decide) ?_
        refine zz_iadd dX5_readNumber_38 ?_
        refine zz_putI fl_X5_22 rfl rfl (Nat.lt_of_lt_of_le (by decide) hn) dX5_readNumber_39 ?_
        refine zz_iinc_2 (1) dX5_readNumber_42 rfl rfl (by decide) ?_
        refine zz_goto 4 dX5_readNumber_45 (by decide) ?_
        have hj4 := zz_lti (b := 4) c_6 (by omega) (by omega)
        have hlt : q < len := pz_b_in fun z => a_13 (by rw [z]; decide)
        rw [rd_k, nI_1, nI_1, rd_uk]
        rw [show 4 - j = (4 - (j + 1)) + 1 by omega, pz_num, if_neg (fun z => z.elim a_13 b_13), Int32.mul_comm] at he
        exact ih (j + 1) _ (q + 1) (by omega) (by omega) (by omega) he
      · skip
        refine zz_if_eq 48 dX5_readNumber_16 (by decide) (fun _ => ?_) (fun h => absurd h (by decide))
        refine zz_aload_0 dX5_readNumber_48 ?_
        refine zz_getR fl_X5_18 rfl rfl (Nat.lt_of_lt_of_le (by decide) hn) (xr_37_1 hr) dX5_readNumber_49 ?_
        refine zz_iload_1 dX5_readNumber_52 ?_
        refine zz_callV1v cv_X5_66 rfl (Nat.lt_of_lt_of_le (by decide) hn) (Nat.le_of_ble_eq_true rfl) (by decide) (by decide) dX5_readNumber_53 (t_X8_add hn hr hcs ⟨rfl, ?_⟩)
        refine zz_vret rfl dX5_readNumber_56 (by decide) (by decide) ?_
        have hj4 := zz_lti (b := 4) c_6 (by omega) (by omega)
        rw [show 4 - j = (4 - (j + 1)) + 1 by omega, pz_num, if_pos o_13] at he
        rw [← he] at h
        exact h

set_option maxRecDepth 100000 in
set_option maxHeartbeats 4000000 in
theorem t_X5_readNumber {C : zz_C} {d n : Nat} {g : zz_G} {r : zz_R} {Q : zz_Q} {R : Nat → Int32} {u len : Nat} (hn : 60 ≤ n) (hr : xr r) (hu2 : u < 2) (hl5 : len ≤ 50) (hen : g 37 3 = nI len) (hby : ∀ j, j < len → ∃ t : Nat, t < 256 ∧ R (176 + 50 * u + j) = nI t ∧ g 999 j = nI t) {k : Nat} {cs : List Int32} (hk : k ≤ len) (hcs : cs.length < 50) (h : Q none (rd_ g (pz_num (pz_b R u len) 4 k 0).1 (cs ++ [(pz_num (pz_b R u len) 4 k 0).2])) r n) : zz_T C mi_X5_readNumber (d + 1) 0 0 [.ref 37] (rd_ g k cs) r n Q := by
  refine zz_T.of [some (.ref 37), none, none] (by decide +kernel) rfl (Nat.le_of_ble_eq_true rfl) ?_
  refine zz_iconst (0) dX5_readNumber_0 (by decide) ?_
  refine zz_istore_1 dX5_readNumber_1 rfl rfl ?_
  refine zz_iconst (0) dX5_readNumber_2 (by decide) ?_
  refine zz_istore_2 dX5_readNumber_3 rfl rfl ?_
  exact l_X5_readNumber (d := d) hn hr hu2 hl5 hen hby hcs h 9 0 0 k (by omega) (by omega) hk rfl

set_option maxRecDepth 100000 in
set_option maxHeartbeats 4000000 in
theorem s5_X5_readLevel {C : zz_C} {n : Nat} {g : zz_G} {r : zz_R} {len D : Nat} (hn : 60 ≤ n) {ov : Int32} {step : Nat → pz_T} (hf : rz_S C mi_X5_readOperand [.int ov] D g r n len step) : rz_S C mi_X5_readLevel [.int 5, .int ov] (D + 1) g r n len step := by
  intro d0 k cs Q hd hk hcs h1 h0
  obtain ⟨d, rfl⟩ : ∃ e, d0 = e + 1 := ⟨d0 - 1, by omega⟩
  refine zz_T.of [some (.ref 37), some (.int 5), some (.int ov), none, none, none] (by decide +kernel) rfl (Nat.le_of_ble_eq_true rfl) ?_
  refine zz_iload_1 dX5_readLevel_0 ?_
  refine zz_iconst (5) dX5_readLevel_1 (by decide) ?_
  refine zz_icmp_lt 11 dX5_readLevel_2 (by decide) (fun h => absurd h (by decide)) (fun _ => ?_)
  refine zz_aload_0 dX5_readLevel_5 ?_
  refine zz_iload_2 dX5_readLevel_6 ?_
  refine zz_callV1i cv_X5_54 rfl (Nat.lt_of_lt_of_le (by decide) hn) (Nat.le_of_ble_eq_true rfl) (by decide) (by decide) dX5_readLevel_7 (hf d k cs _ (by omega) hk hcs (fun s_7 => ⟨_, rfl, ?_⟩) (fun s_7 g1_7 j1_7 e1_7 => ⟨_, rfl, ?_⟩))
  · skip
    refine zz_zret rfl (by rfl) dX5_readLevel_10 (by decide) (by decide) ?_
    exact h1 s_7
  · skip
    refine zz_zret rfl (by rfl) dX5_readLevel_10 (by decide) (by decide) ?_
    exact h0 s_7 _ j1_7 e1_7

set_option maxRecDepth 100000 in
set_option maxHeartbeats 4000000 in
theorem l_X5_readLevel {C : zz_C} {d n : Nat} {g : zz_G} {r : zz_R} {Q : zz_Q} {R : Nat → Int32} {u len : Nat} (hn : 60 ≤ n) (hr : xr r) (hu2 : u < 2) (hl5 : len ≤ 50) (hen : g 37 3 = nI len) (hby : ∀ j, j < len → ∃ t : Nat, t < 256 ∧ R (176 + 50 * u + j) = nI t ∧ g 999 j = nI t) {D lv : Nat} (hlv : lv ≤ 4) {ov : Int32} {step : Nat → pz_T} (hs : pz_ok len step) (hln : pz_ln step) (hf : rz_S C mi_X5_readLevel [.int (nI (lv + 1)), .int ov] D g r n len step) (hD : D ≤ d) {cs0 : List Int32} {F : Nat} (hF : F ≤ 50) {res : pz_T} (h1 : res.1 = true → Q (some (.int 1)) (rd_ g res.2.1 (cs0 ++ res.2.2.2)) r n) (h0 : res.1 = false → ∀ g', rj g g' → g' 37 2 = nI res.2.1 → Q (some (.int 0)) g' r n) : ∀ (k : Nat) (l5 : Option Value) (i q : Nat) (v : Int32) (cs : List Int32), i ≤ F → q ≤ len → cs0.length + cs.length ≤ q → pz_lp (pz_b R u len) step lv (F - i) q v cs = res → F - i < k → zz_Z C mi_X5_readLevel (d + 1) 0 0 0 0 39 [some (.ref 37), some (.int (nI lv)), some (.int ov), some (.int (nI F)), some (.int (nI i)), l5] [] (rd_ g q (cs0 ++ cs)) r n Q := by
  intro k
  induction k with
  | zero => intro l5 i q v cs hi hq hcs he hk; exact absurd hk (by omega)
  | succ k ih =>
    intro l5 i q v cs hi hq hcs he hk
    refine zz_iload_4 dX5_readLevel_39 ?_
    refine zz_iload_3 dX5_readLevel_41 ?_
    refine zz_icmp_ge 101 dX5_readLevel_42 (by decide) (fun c_42 => ?_) (fun c_42 => ?_)
    · skip
      refine zz_iconst (1) dX5_readLevel_101 (by decide) ?_
      refine zz_zret rfl (by rfl) dX5_readLevel_102 (by decide) (by decide) ?_
      have hi2 := zz_gei c_42 (by omega) (by omega)
      rw [show F - i = 0 by omega, pz_lp] at he
      subst he
      exact h1 rfl
    · skip
      refine zz_aload_0 dX5_readLevel_45 ?_
      refine zz_callV0i cv_X5_58 rfl (Nat.lt_of_lt_of_le (by decide) hn) (Nat.le_of_ble_eq_true rfl) (by decide) (by decide) dX5_readLevel_46 (t_X5_next hn hr hu2 hl5 hen hby (k := q) (by omega) ⟨_, rfl, ?_⟩)
      refine zz_callS1i cs_X5_62 (Nat.le_of_ble_eq_true rfl) (by decide) (by decide) dX5_readLevel_49 (t_X5_levelOf ⟨_, rfl, ?_⟩)
      refine zz_iload_1 dX5_readLevel_52 ?_
      refine zz_icmp_ne 101 dX5_readLevel_53 (by decide) (fun c_53 => ?_) (fun c_53 => ?_)
      · skip
        refine zz_iconst (1) dX5_readLevel_101 (by decide) ?_
        refine zz_zret rfl (by rfl) dX5_readLevel_102 (by decide) (by decide) ?_
        rw [pz_lp_no (lv := lv) (fun z9 => c_53 ((lvo_is hlv).mpr z9))] at he
        subst he
        exact h1 rfl
      · skip
        have hi2 := zz_lti c_42 (by omega) (by omega)
        have hop : pz_is lv (pz_b R u len q) := (lvo_is hlv).mp c_53
        have hqlt : q + 1 ≤ len := pz_is_in hop
        rw [show F - i = (F - (i + 1)) + 1 by omega] at he
        refine zz_aload_0 dX5_readLevel_56 ?_
        refine zz_callV0i cv_X5_58 rfl (Nat.lt_of_lt_of_le (by decide) hn) (Nat.le_of_ble_eq_true rfl) (by decide) (by decide) dX5_readLevel_57 (t_X5_next hn hr hu2 hl5 hen hby (k := q) (by omega) ⟨_, rfl, ?_⟩)
        refine zz_istore_5 dX5_readLevel_60 rfl rfl ?_
        refine zz_aload_0 dX5_readLevel_62 ?_
        refine zz_dup dX5_readLevel_63 rfl ?_
        refine zz_getI fl_X5_22 rfl rfl (Nat.lt_of_lt_of_le (by decide) hn) dX5_readLevel_64 ?_
        refine zz_iconst (1) dX5_readLevel_67 (by decide) ?_
        refine zz_iadd dX5_readLevel_68 ?_
        refine zz_putI fl_X5_22 rfl rfl (Nat.lt_of_lt_of_le (by decide) hn) dX5_readLevel_69 ?_
        rw [rd_k, nI_1, rd_uk]
        refine zz_aload_0 dX5_readLevel_72 ?_
        refine zz_iload_1 dX5_readLevel_73 ?_
        refine zz_iconst (1) dX5_readLevel_74 (by decide) ?_
        refine zz_iadd dX5_readLevel_75 ?_
        rw [nI_1]
        refine zz_iload_2 dX5_readLevel_76 ?_
        refine zz_callV2i cv_X5_50 rfl (Nat.lt_of_lt_of_le (by decide) hn) (Nat.le_of_ble_eq_true rfl) (by decide) (by decide) dX5_readLevel_77 (hf d (q + 1) (cs0 ++ cs) _ hD hqlt (by rw [List.length_append]; omega) (fun s_77 => ⟨_, rfl, ?_⟩) (fun s_77 g1_77 j1_77 e1_77 => ⟨_, rfl, ?_⟩))
        · skip
          refine zz_if_ne 85 dX5_readLevel_80 (by decide) (fun _ => ?_) (fun h => absurd h (by decide))
          have hl9 := (hln (q + 1) s_77).2
          have hp9 := (hs (q + 1) hqlt).2.1
          refine zz_aload_0 dX5_readLevel_85 ?_
          refine zz_getR fl_X5_18 rfl rfl (Nat.lt_of_lt_of_le (by decide) hn) (xr_37_1 hr) dX5_readLevel_86 ?_
          refine zz_iload_5 dX5_readLevel_89 ?_
          refine zz_ineg dX5_readLevel_91 ?_
          refine zz_callV1v cv_X5_66 rfl (Nat.lt_of_lt_of_le (by decide) hn) (Nat.le_of_ble_eq_true rfl) (by decide) (by decide) dX5_readLevel_92 (t_X8_add hn hr (by simp only [List.length_append]; omega) ⟨rfl, ?_⟩)
          refine zz_iinc_4 (1) dX5_readLevel_95 rfl rfl (by decide) ?_
          refine zz_goto 39 dX5_readLevel_98 (by decide) ?_
          have h9 := ih (some (.int (pz_b R u len q))) (i + 1) _ _ _ (by omega) hp9 (by simp only [List.length_append, List.length_cons, List.length_nil]; omega) (pz_lp_go hop s_77 he rfl) (by omega)
          rw [nI_1, List.append_assoc, List.append_assoc]
          exact h9
        · skip
          refine zz_if_ne 85 dX5_readLevel_80 (by decide) (fun h => absurd h (by decide)) (fun _ => ?_)
          refine zz_iconst (0) dX5_readLevel_83 (by decide) ?_
          refine zz_zret rfl (by rfl) dX5_readLevel_84 (by decide) (by decide) ?_
          rw [pz_lp_bad hop s_77 he] at h0
          exact h0 rfl _ j1_77 e1_77

set_option maxRecDepth 100000 in
set_option maxHeartbeats 4000000 in
theorem s_X5_readLevel {C : zz_C} {n : Nat} {g : zz_G} {r : zz_R} {R : Nat → Int32} {u len : Nat} (hn : 60 ≤ n) (hr : xr r) (hu2 : u < 2) (hl5 : len ≤ 50) (hen : g 37 3 = nI len) (hby : ∀ j, j < len → ∃ t : Nat, t < 256 ∧ R (176 + 50 * u + j) = nI t ∧ g 999 j = nI t) {D lv : Nat} (hlv : lv ≤ 4) {ov : Int32} {step : Nat → pz_T} (hs : pz_ok len step) (hln : pz_ln step) (hf : rz_S C mi_X5_readLevel [.int (nI (lv + 1)), .int ov] D g r n len step) : rz_S C mi_X5_readLevel [.int (nI lv), .int ov] (D + 1) g r n len (pz_lv (pz_b R u len) step lv) := by
  intro d0 k cs Q hd hk hcs h1 h0
  obtain ⟨d, rfl⟩ : ∃ e, d0 = e + 1 := ⟨d0 - 1, by omega⟩
  refine zz_T.of [some (.ref 37), some (.int (nI lv)), some (.int ov), none, none, none] (by decide +kernel) rfl (Nat.le_of_ble_eq_true rfl) ?_
  refine zz_iload_1 dX5_readLevel_0 ?_
  refine zz_iconst (5) dX5_readLevel_1 (by decide) ?_
  refine zz_icmp_lt 11 dX5_readLevel_2 (by decide) (fun c_2 => ?_) (fun c_2 => ?_)
  · skip
    refine zz_aload_0 dX5_readLevel_11 ?_
    refine zz_iload_1 dX5_readLevel_12 ?_
    refine zz_iconst (1) dX5_readLevel_13 (by decide) ?_
    refine zz_iadd dX5_readLevel_14 ?_
    rw [nI_1]
    refine zz_iload_2 dX5_readLevel_15 ?_
    refine zz_callV2i cv_X5_50 rfl (Nat.lt_of_lt_of_le (by decide) hn) (Nat.le_of_ble_eq_true rfl) (by decide) (by decide) dX5_readLevel_16 (hf d k cs _ (by omega) hk hcs (fun s_16 => ⟨_, rfl, ?_⟩) (fun s_16 g1_16 j1_16 e1_16 => ⟨_, rfl, ?_⟩))
    · skip
      refine zz_if_ne 24 dX5_readLevel_19 (by decide) (fun _ => ?_) (fun h => absurd h (by decide))
      refine zz_iload_1 dX5_readLevel_24 ?_
      refine zz_iconst (2) dX5_readLevel_25 (by decide) ?_
      refine zz_icmp_ne 33 dX5_readLevel_26 (by decide) (fun c_26 => ?_) (fun c_26 => ?_)
      · skip
        refine zz_bipush (50) dX5_readLevel_33 (by decide) ?_
        refine zz_istore_3 dX5_readLevel_35 rfl rfl ?_
        refine zz_iconst (0) dX5_readLevel_36 (by decide) ?_
        refine zz_istore_4 dX5_readLevel_37 rfl rfl ?_
        have hl9 := (hln k s_16).2
        have hp9 := (hs k hk).2.1
        first
          | (have e2 : lv = 2 := (nI_eq (a := lv) (b := 2) (by omega) (by omega)).mp c_26
             rw [pz_lv, if_pos s_16, if_pos e2] at h1 h0
             exact l_X5_readLevel (d := d) hn hr hu2 hl5 hen hby hlv hs hln hf (by omega) (F := 1) (by omega) h1 h0 52 _ 0 _ _ _ (by omega) hp9 (by omega) rfl (by omega))
          | (have e2 : ¬ lv = 2 := fun z9 => c_26 (by rw [z9]; rfl)
             rw [pz_lv, if_pos s_16, if_neg e2] at h1 h0
             exact l_X5_readLevel (d := d) hn hr hu2 hl5 hen hby hlv hs hln hf (by omega) (F := 50) (by omega) h1 h0 52 _ 0 _ _ _ (by omega) hp9 (by omega) rfl (by omega))
      · skip
        refine zz_iconst (1) dX5_readLevel_29 (by decide) ?_
        refine zz_goto 35 dX5_readLevel_30 (by decide) ?_
        refine zz_istore_3 dX5_readLevel_35 rfl rfl ?_
        refine zz_iconst (0) dX5_readLevel_36 (by decide) ?_
        refine zz_istore_4 dX5_readLevel_37 rfl rfl ?_
        have hl9 := (hln k s_16).2
        have hp9 := (hs k hk).2.1
        first
          | (have e2 : lv = 2 := (nI_eq (a := lv) (b := 2) (by omega) (by omega)).mp c_26
             rw [pz_lv, if_pos s_16, if_pos e2] at h1 h0
             exact l_X5_readLevel (d := d) hn hr hu2 hl5 hen hby hlv hs hln hf (by omega) (F := 1) (by omega) h1 h0 52 _ 0 _ _ _ (by omega) hp9 (by omega) rfl (by omega))
          | (have e2 : ¬ lv = 2 := fun z9 => c_26 (by rw [z9]; rfl)
             rw [pz_lv, if_pos s_16, if_neg e2] at h1 h0
             exact l_X5_readLevel (d := d) hn hr hu2 hl5 hen hby hlv hs hln hf (by omega) (F := 50) (by omega) h1 h0 52 _ 0 _ _ _ (by omega) hp9 (by omega) rfl (by omega))
    · skip
      refine zz_if_ne 24 dX5_readLevel_19 (by decide) (fun h => absurd h (by decide)) (fun _ => ?_)
      refine zz_iconst (0) dX5_readLevel_22 (by decide) ?_
      refine zz_zret rfl (by rfl) dX5_readLevel_23 (by decide) (by decide) ?_
      rw [pz_lv, if_neg (by rw [s_16]; decide)] at h0
      exact h0 rfl _ j1_16 e1_16
  · skip
    exact absurd (nI_lt (b := 5) (show lv < 5 by omega) (by omega)) c_2

set_option maxRecDepth 100000 in
set_option maxHeartbeats 4000000 in
theorem t_X5_readNot {C : zz_C} {d n : Nat} {g : zz_G} {r : zz_R} {Q : zz_Q} {R : Nat → Int32} {u len : Nat} (hn : 60 ≤ n) (hr : xr r) (hu2 : u < 2) (hl5 : len ≤ 50) (hen : g 37 3 = nI len) (hby : ∀ j, j < len → ∃ t : Nat, t < 256 ∧ R (176 + 50 * u + j) = nI t ∧ g 999 j = nI t) {D : Nat} {ov : Int32} {f : Nat → pz_T} (hs : pz_ok len f) (hln : pz_ln f) (hf : rz_S C mi_X5_readOperand [.int ov] D g r n len f) (hD : D ≤ d) {k : Nat} {cs : List Int32} (hk : k + 1 ≤ len) (hcs : cs.length ≤ k) (h1 : (f (k + 1)).1 = true → Q (some (.int 1)) (rd_ g (f (k + 1)).2.1 (cs ++ ((f (k + 1)).2.2.2 ++ [-33]))) r n) (h0 : (f (k + 1)).1 = false → ∀ g', rj g g' → g' 37 2 = nI (f (k + 1)).2.1 → Q (some (.int 0)) g' r n) : zz_T C mi_X5_readNot (d + 1) 0 0 [.ref 37, .int ov] (rd_ g k cs) r n Q := by
  refine zz_T.of [some (.ref 37), some (.int ov)] (by decide +kernel) rfl (Nat.le_of_ble_eq_true rfl) ?_
  refine zz_aload_0 dX5_readNot_0 ?_
  refine zz_dup dX5_readNot_1 rfl ?_
  refine zz_getI fl_X5_22 rfl rfl (Nat.lt_of_lt_of_le (by decide) hn) dX5_readNot_2 ?_
  refine zz_iconst (1) dX5_readNot_5 (by decide) ?_
  refine zz_iadd dX5_readNot_6 ?_
  refine zz_putI fl_X5_22 rfl rfl (Nat.lt_of_lt_of_le (by decide) hn) dX5_readNot_7 ?_
  rw [rd_k, nI_1, rd_uk]
  refine zz_aload_0 dX5_readNot_10 ?_
  refine zz_iload_1 dX5_readNot_11 ?_
  refine zz_callV1i cv_X5_54 rfl (Nat.lt_of_lt_of_le (by decide) hn) (Nat.le_of_ble_eq_true rfl) (by decide) (by decide) dX5_readNot_12 (hf d (k + 1) cs _ hD hk (by omega) (fun s_12 => ⟨_, rfl, ?_⟩) (fun s_12 g1_12 j1_12 e1_12 => ⟨_, rfl, ?_⟩))
  · skip
    refine zz_if_ne 20 dX5_readNot_15 (by decide) (fun _ => ?_) (fun h => absurd h (by decide))
    have hl9 := (hln (k + 1) s_12).2
    have hp9 := (hs (k + 1) hk).2.1
    refine zz_aload_0 dX5_readNot_20 ?_
    refine zz_getR fl_X5_18 rfl rfl (Nat.lt_of_lt_of_le (by decide) hn) (xr_37_1 hr) dX5_readNot_21 ?_
    refine zz_bipush (-33) dX5_readNot_24 (by decide) ?_
    refine zz_callV1v cv_X5_66 rfl (Nat.lt_of_lt_of_le (by decide) hn) (Nat.le_of_ble_eq_true rfl) (by decide) (by decide) dX5_readNot_26 (t_X8_add hn hr (by simp only [List.length_append]; omega) ⟨rfl, ?_⟩)
    refine zz_iconst (1) dX5_readNot_29 (by decide) ?_
    refine zz_zret rfl (by rfl) dX5_readNot_30 (by decide) (by decide) ?_
    rw [List.append_assoc]
    exact h1 s_12
  · skip
    refine zz_if_ne 20 dX5_readNot_15 (by decide) (fun h => absurd h (by decide)) (fun _ => ?_)
    refine zz_iconst (0) dX5_readNot_18 (by decide) ?_
    refine zz_zret rfl (by rfl) dX5_readNot_19 (by decide) (by decide) ?_
    exact h0 s_12 _ j1_12 e1_12

set_option maxRecDepth 100000 in
set_option maxHeartbeats 4000000 in
theorem t_X5_readBracket {C : zz_C} {d n : Nat} {g : zz_G} {r : zz_R} {Q : zz_Q} {R : Nat → Int32} {u len : Nat} (hn : 60 ≤ n) (hr : xr r) (hu2 : u < 2) (hl5 : len ≤ 50) (hen : g 37 3 = nI len) (hby : ∀ j, j < len → ∃ t : Nat, t < 256 ∧ R (176 + 50 * u + j) = nI t ∧ g 999 j = nI t) {D : Nat} {ov : Int32} {f : Nat → pz_T} (hs : pz_ok len f) (hf : rz_S C mi_X5_readLevel [.int 0, .int ov] D g r n len f) (hD : D ≤ d) {k : Nat} {cs : List Int32} (hk : k + 1 ≤ len) (hcs : cs.length ≤ k) (h1 : (f (k + 1)).1 = true → pz_b R u len (f (k + 1)).2.1 = 41 → Q (some (.int 1)) (rd_ g ((f (k + 1)).2.1 + 1) (cs ++ (f (k + 1)).2.2.2)) r n) (h0 : ¬ ((f (k + 1)).1 = true ∧ pz_b R u len (f (k + 1)).2.1 = 41) → ∀ g', rj g g' → g' 37 2 = nI (f (k + 1)).2.1 → Q (some (.int 0)) g' r n) : zz_T C mi_X5_readBracket (d + 1) 0 0 [.ref 37, .int ov] (rd_ g k cs) r n Q := by
  refine zz_T.of [some (.ref 37), some (.int ov)] (by decide +kernel) rfl (Nat.le_of_ble_eq_true rfl) ?_
  refine zz_aload_0 dX5_readBracket_0 ?_
  refine zz_dup dX5_readBracket_1 rfl ?_
  refine zz_getI fl_X5_22 rfl rfl (Nat.lt_of_lt_of_le (by decide) hn) dX5_readBracket_2 ?_
  refine zz_iconst (1) dX5_readBracket_5 (by decide) ?_
  refine zz_iadd dX5_readBracket_6 ?_
  refine zz_putI fl_X5_22 rfl rfl (Nat.lt_of_lt_of_le (by decide) hn) dX5_readBracket_7 ?_
  rw [rd_k, nI_1, rd_uk]
  refine zz_aload_0 dX5_readBracket_10 ?_
  refine zz_iconst (0) dX5_readBracket_11 (by decide) ?_
  refine zz_iload_1 dX5_readBracket_12 ?_
  refine zz_callV2i cv_X5_50 rfl (Nat.lt_of_lt_of_le (by decide) hn) (Nat.le_of_ble_eq_true rfl) (by decide) (by decide) dX5_readBracket_13 (hf d (k + 1) cs _ hD hk (by omega) (fun s_13 => ⟨_, rfl, ?_⟩) (fun s_13 g1_13 j1_13 e1_13 => ⟨_, rfl, ?_⟩))
  · skip
    refine zz_if_eq 28 dX5_readBracket_16 (by decide) (fun h => absurd h (by decide)) (fun _ => ?_)
    refine zz_aload_0 dX5_readBracket_19 ?_
    refine zz_callV0i cv_X5_58 rfl (Nat.lt_of_lt_of_le (by decide) hn) (Nat.le_of_ble_eq_true rfl) (by decide) (by decide) dX5_readBracket_20 (t_X5_next hn hr hu2 hl5 hen hby (k := (f (k + 1)).2.1) (hs (k + 1) hk).2.1 ⟨_, rfl, ?_⟩)
    refine zz_bipush (41) dX5_readBracket_23 (by decide) ?_
    refine zz_icmp_eq 30 dX5_readBracket_25 (by decide) (fun c_25 => ?_) (fun c_25 => ?_)
    · skip
      refine zz_aload_0 dX5_readBracket_30 ?_
      refine zz_dup dX5_readBracket_31 rfl ?_
      refine zz_getI fl_X5_22 rfl rfl (Nat.lt_of_lt_of_le (by decide) hn) dX5_readBracket_32 ?_
      refine zz_iconst (1) dX5_readBracket_35 (by decide) ?_
      refine zz_iadd dX5_readBracket_36 ?_
      refine zz_putI fl_X5_22 rfl rfl (Nat.lt_of_lt_of_le (by decide) hn) dX5_readBracket_37 ?_
      rw [rd_k, nI_1, rd_uk]
      refine zz_iconst (1) dX5_readBracket_40 (by decide) ?_
      refine zz_zret rfl (by rfl) dX5_readBracket_41 (by decide) (by decide) ?_
      exact h1 s_13 c_25
    · skip
      refine zz_iconst (0) dX5_readBracket_28 (by decide) ?_
      refine zz_zret rfl (by rfl) dX5_readBracket_29 (by decide) (by decide) ?_
      exact h0 (fun z9 => c_25 z9.2) _ rd_j (rd_k _ _ _)
  · skip
    refine zz_if_eq 28 dX5_readBracket_16 (by decide) (fun _ => ?_) (fun h => absurd h (by decide))
    refine zz_iconst (0) dX5_readBracket_28 (by decide) ?_
    refine zz_zret rfl (by rfl) dX5_readBracket_29 (by decide) (by decide) ?_
    exact h0 (fun z9 => by rw [s_13] at z9; exact absurd z9.1 (by decide)) _ j1_13 e1_13
