theorem zz_cpy_ne (g : zz_G) {k0 k1 sp dp m a b : Nat} (h : a ≠ k1) : zz_cpy g k0 k1 sp dp m a b = g a b := if_neg fun q => h q.1
theorem zz_cpy_at (g : zz_G) {k0 k1 N b : Nat} (h : b < N) : zz_cpy g k0 k1 0 0 N k1 b = g k0 b := by
  unfold zz_cpy
  rw [if_pos ⟨rfl, by omega, by omega⟩]
  congr 1
  omega
theorem xs_way60 : ∀ w : Nat, w < 6 → zz_sh (63 + w) = (1, 0, 5) := by decide
theorem xs_code60 : ∀ w : Nat, w < 10 → zz_sh (70 + w) = (1, 0, 6) := by decide
theorem xs_text60 : ∀ w : Nat, w < 2 → zz_sh (82 + 2 * w) = (0, 8, 2) := by decide
theorem xs_step60 : ∀ w : Nat, w < 2 → zz_sh (83 + 2 * w) = (1, 0, 50) := by decide
theorem xk_way {r : zz_R} (h : xk r) : ∀ w : Nat, w < 6 → r 62 w = some (63 + w)
  | 0, _ => h (62, 0, 63) (by decide)
  | 1, _ => h (62, 1, 64) (by decide)
  | 2, _ => h (62, 2, 65) (by decide)
  | 3, _ => h (62, 3, 66) (by decide)
  | 4, _ => h (62, 4, 67) (by decide)
  | 5, _ => h (62, 5, 68) (by decide)
  | w + 6, h9 => by omega
theorem xk_text {r : zz_R} (h : xk r) : ∀ w : Nat, w < 2 → r 81 w = some (82 + 2 * w)
  | 0, _ => h (81, 0, 82) (by decide)
  | 1, _ => h (81, 1, 84) (by decide)
  | w + 2, h9 => by omega
theorem xk_step {r : zz_R} (h : xk r) : ∀ w : Nat, w < 2 → r (82 + 2 * w) 0 = some (83 + 2 * w)
  | 0, _ => h (82, 0, 83) (by decide)
  | 1, _ => h (84, 0, 85) (by decide)
  | w + 2, h9 => by omega
theorem xr_step {r : zz_R} (h : xr r) : ∀ w : Nat, w < 2 → r (23 + 2 * w) 0 = some (24 + 2 * w)
  | 0, _ => xr_23_0 h
  | 1, _ => xr_25_0 h
  | w + 2, h9 => by omega
set_option maxRecDepth 100000 in
set_option maxHeartbeats 4000000 in
theorem t_X0_copyRow {C : zz_C} {d n : Nat} {g : zz_G} {r : zz_R} {Q : zz_Q} {k0 k1 N : Nat} (hN : N ≤ 1000) (hs0 : zz_sh k0 = (1, 0, N)) (hs1 : zz_sh k1 = (1, 0, N)) (hk0 : k0 < n) (hk1 : k1 < n) (h : Q none (zz_cpy g k0 k1 0 0 N) r n) : zz_T C mi_X0_copyRow (d + 1) 0 0 [.ref k0, .ref k1] g r n Q := by
  refine zz_T.of [some (.ref k0), some (.ref k1)] (by decide +kernel) rfl (Nat.le_of_ble_eq_true rfl) ?_
  refine zz_aload_0 dX0_copyRow_0 ?_
  refine zz_iconst (0) dX0_copyRow_1 (by decide) ?_
  refine zz_aload_1 dX0_copyRow_2 ?_
  refine zz_iconst (0) dX0_copyRow_3 (by decide) ?_
  refine zz_aload_0 dX0_copyRow_4 ?_
  refine zz_alenI hs0 hk0 (v := nI N) rfl dX0_copyRow_5 ?_
  refine zz_aload_1 dX0_copyRow_6 ?_
  refine zz_alenI hs1 hk1 (v := nI N) rfl dX0_copyRow_7 ?_
  refine zz_mmin cs_X0_72 (Nat.le_of_ble_eq_true rfl) (by decide) (by decide) dX0_copyRow_8 ?_
  rw [ite_self]
  refine zz_copy 0 0 N rfl rfl rfl (by omega) (by omega) ⟨hN, hN⟩ hs0 hs1 hk0 hk1 ca_X0_78 (Nat.le_of_ble_eq_true rfl) dX0_copyRow_11 ?_
  refine zz_vret rfl dX0_copyRow_14 (by decide) (by decide) ?_
  exact h

set_option maxRecDepth 100000 in
set_option maxHeartbeats 4000000 in
theorem lw_X0_copyFrom_60 {C : zz_C} {d n : Nat} {g : zz_G} {r : zz_R} {Q : zz_Q} (hn : 87 ≤ n) (hr : xr r) (hk9 : xk r) (hZ : ∀ g1, ((∀ k, (k < 63 ∨ 68 < k) → g1 k = g k) ∧ ∀ w j, w < 6 → j < 5 → g1 (63 + w) j = g (4 + w) j) → zz_Z C mi_X0_copyFrom (d + 2) 0 0 0 0 80 [some (.ref 60), some (.ref 1), some (.int 6)] [] g1 r n Q) : ∀ (k : Nat) (i : Nat) (g1 : zz_G), i ≤ 6 → ((∀ k, (k < 63 ∨ 68 < k) → g1 k = g k) ∧ ∀ w j, w < i → j < 5 → g1 (63 + w) j = g (4 + w) j) → 6 - i < k → zz_Z C mi_X0_copyFrom (d + 2) 0 0 0 0 53 [some (.ref 60), some (.ref 1), some (.int (nI i))] [] g1 r n Q := by
  intro k
  induction k with
  | zero => intro i g1 hi hI hk; exact absurd hk (by omega)
  | succ k ih =>
    intro i g1 hi hI hk
    refine zz_iload_2 dX0_copyFrom_53 ?_
    refine zz_bipush (6) dX0_copyFrom_54 (by decide) ?_
    refine zz_icmp_ge 80 dX0_copyFrom_56 (by decide) (fun c_56 => ?_) (fun c_56 => ?_)
    · skip
      have hge := zz_gei (b := 6) c_56 (by omega) (by omega)
      obtain rfl : i = 6 := by omega
      exact hZ g1 hI
    · skip
      have hlt := zz_lti (b := 6) c_56 (by omega) (by omega)
      refine zz_aload_1 dX0_copyFrom_59 ?_
      refine zz_getR fl_X0_33 rfl rfl (Nat.lt_of_lt_of_le (by decide) hn) (xr_1_6 hr) dX0_copyFrom_60 ?_
      refine zz_iload_2 dX0_copyFrom_63 ?_
      refine zz_aaN i rfl hlt (by decide) (by decide) rfl (Nat.lt_of_lt_of_le (by decide) hn) (xr_way hr i hlt) dX0_copyFrom_64 ?_
      refine zz_aload_0 dX0_copyFrom_65 ?_
      refine zz_getR fl_X0_33 rfl rfl (Nat.lt_of_lt_of_le (by decide) hn) (show r 60 6 = some 62 from hk9 (60, 6, 62) (by decide)) dX0_copyFrom_66 ?_
      refine zz_iload_2 dX0_copyFrom_69 ?_
      refine zz_aaN i rfl hlt (by decide) (by decide) rfl (Nat.lt_of_lt_of_le (by decide) hn) (xk_way hk9 i hlt) dX0_copyFrom_70 ?_
      refine zz_callS2v cs_X0_64 (Nat.le_of_ble_eq_true rfl) (by decide) (by decide) dX0_copyFrom_71 (t_X0_copyRow (N := 5) (by decide) (xs_way i hlt) (xs_way60 i hlt) (by omega) (by omega) ⟨rfl, ?_⟩)
      refine zz_iinc_2 (1) dX0_copyFrom_74 rfl rfl (by decide) ?_
      refine zz_goto 53 dX0_copyFrom_77 (by decide) ?_
      rw [nI_1]
      refine ih (i + 1) _ (by omega) ⟨fun k hk => ?_, fun w j hw hj => ?_⟩ (by omega)
      · rw [zz_cpy_row _ (by omega)]
        exact hI.1 k hk
      · by_cases e : w = i
        · subst e
          rw [zz_cpy_at _ hj, hI.1 _ (by omega)]
        · rw [zz_cpy_ne _ (by omega)]
          exact hI.2 w j (by omega) hj

set_option maxRecDepth 100000 in
set_option maxHeartbeats 4000000 in
theorem lc_X0_copyFrom_60 {C : zz_C} {d n : Nat} {g : zz_G} {r : zz_R} {Q : zz_Q} (hn : 87 ≤ n) (hr : xr r) (hk9 : xk r) {pp pq : Nat → Nat} (hpp : ∀ c, c < 10 → pp c < 10 ∧ r 69 c = some (70 + pp c)) (hinj : ∀ c c', c < 10 → c' < 10 → pp c = pp c' → c = c') (hpq : ∀ c, c < 10 → pq c < 10 ∧ r 10 c = some (11 + pq c)) (hZ : ∀ g1, ((∀ k, (k < 70 ∨ 79 < k) → g1 k = g k) ∧ ∀ c j, c < 10 → j < 6 → g1 (70 + pp c) j = g (11 + pq c) j) → zz_Z C mi_X0_copyFrom (d + 2) 0 0 0 0 117 [some (.ref 60), some (.ref 1), some (.int 10)] [] g1 r n Q) : ∀ (k : Nat) (i : Nat) (g1 : zz_G), i ≤ 10 → ((∀ k, (k < 70 ∨ 79 < k) → g1 k = g k) ∧ ∀ c j, c < i → j < 6 → g1 (70 + pp c) j = g (11 + pq c) j) → 10 - i < k → zz_Z C mi_X0_copyFrom (d + 2) 0 0 0 0 90 [some (.ref 60), some (.ref 1), some (.int (nI i))] [] g1 r n Q := by
  intro k
  induction k with
  | zero => intro i g1 hi hI hk; exact absurd hk (by omega)
  | succ k ih =>
    intro i g1 hi hI hk
    refine zz_iload_2 dX0_copyFrom_90 ?_
    refine zz_bipush (10) dX0_copyFrom_91 (by decide) ?_
    refine zz_icmp_ge 117 dX0_copyFrom_93 (by decide) (fun c_93 => ?_) (fun c_93 => ?_)
    · skip
      have hge := zz_gei (b := 10) c_93 (by omega) (by omega)
      obtain rfl : i = 10 := by omega
      exact hZ g1 hI
    · skip
      have hlt := zz_lti (b := 10) c_93 (by omega) (by omega)
      refine zz_aload_1 dX0_copyFrom_96 ?_
      refine zz_getR fl_X0_39 rfl rfl (Nat.lt_of_lt_of_le (by decide) hn) (xr_1_8 hr) dX0_copyFrom_97 ?_
      refine zz_iload_2 dX0_copyFrom_100 ?_
      refine zz_aaN i rfl hlt (by decide) (by decide) rfl (Nat.lt_of_lt_of_le (by decide) hn) (hpq i hlt).2 dX0_copyFrom_101 ?_
      refine zz_aload_0 dX0_copyFrom_102 ?_
      refine zz_getR fl_X0_39 rfl rfl (Nat.lt_of_lt_of_le (by decide) hn) (show r 60 8 = some 69 from hk9 (60, 8, 69) (by decide)) dX0_copyFrom_103 ?_
      refine zz_iload_2 dX0_copyFrom_106 ?_
      refine zz_aaN i rfl hlt (by decide) (by decide) rfl (Nat.lt_of_lt_of_le (by decide) hn) (hpp i hlt).2 dX0_copyFrom_107 ?_
      refine zz_callS2v cs_X0_64 (Nat.le_of_ble_eq_true rfl) (by decide) (by decide) dX0_copyFrom_108 (t_X0_copyRow (N := 6) (by decide) (xs_code (pq i) (hpq i hlt).1) (xs_code60 (pp i) (hpp i hlt).1) (by have := (hpq i hlt).1; omega) (by have := (hpp i hlt).1; omega) ⟨rfl, ?_⟩)
      refine zz_iinc_2 (1) dX0_copyFrom_111 rfl rfl (by decide) ?_
      refine zz_goto 90 dX0_copyFrom_114 (by decide) ?_
      rw [nI_1]
      have q1 := (hpp i hlt).1
      have q2 := (hpq i hlt).1
      refine ih (i + 1) _ (by omega) ⟨fun k hk => ?_, fun c j hc hj => ?_⟩ (by omega)
      · rw [zz_cpy_row _ (by omega)]
        exact hI.1 k hk
      · by_cases e : c = i
        · subst e
          rw [zz_cpy_at _ hj, hI.1 _ (by omega)]
        · have hne : pp c ≠ pp i := fun z9 => e (hinj c i (by omega) hlt z9)
          rw [zz_cpy_ne _ (by omega)]
          exact hI.2 c j (by omega) hj

set_option maxRecDepth 100000 in
set_option maxHeartbeats 4000000 in
theorem lt_X0_copyFrom_60 {C : zz_C} {d n : Nat} {g : zz_G} {r : zz_R} {Q : zz_Q} (hn : 87 ≤ n) (hr : xr r) (hk9 : xk r) (hZ : ∀ g1, ((∀ k, (k < 82 ∨ 85 < k) → g1 k = g k) ∧ ∀ u, u < 2 → g1 (82 + 2 * u) 1 = g (23 + 2 * u) 1 ∧ ∀ j, j < 50 → g1 (83 + 2 * u) j = g (24 + 2 * u) j) → zz_Z C mi_X0_copyFrom (d + 2) 0 0 0 0 172 [some (.ref 60), some (.ref 1), some (.int 2)] [] g1 r n Q) : ∀ (k : Nat) (i : Nat) (g1 : zz_G), i ≤ 2 → ((∀ k, (k < 82 ∨ 85 < k) → g1 k = g k) ∧ ∀ u, u < i → g1 (82 + 2 * u) 1 = g (23 + 2 * u) 1 ∧ ∀ j, j < 50 → g1 (83 + 2 * u) j = g (24 + 2 * u) j) → 2 - i < k → zz_Z C mi_X0_copyFrom (d + 2) 0 0 0 0 146 [some (.ref 60), some (.ref 1), some (.int (nI i))] [] g1 r n Q := by
  intro k
  induction k with
  | zero => intro i g1 hi hI hk; exact absurd hk (by omega)
  | succ k ih =>
    intro i g1 hi hI hk
    refine zz_iload_2 dX0_copyFrom_146 ?_
    refine zz_iconst (2) dX0_copyFrom_147 (by decide) ?_
    refine zz_icmp_ge 172 dX0_copyFrom_148 (by decide) (fun c_148 => ?_) (fun c_148 => ?_)
    · skip
      have hge := zz_gei (b := 2) c_148 (by omega) (by omega)
      obtain rfl : i = 2 := by omega
      exact hZ g1 hI
    · skip
      have hlt := zz_lti (b := 2) c_148 (by omega) (by omega)
      refine zz_aload_0 dX0_copyFrom_151 ?_
      refine zz_getR fl_X0_54 rfl rfl (Nat.lt_of_lt_of_le (by decide) hn) (show r 60 12 = some 81 from hk9 (60, 12, 81) (by decide)) dX0_copyFrom_152 ?_
      refine zz_iload_2 dX0_copyFrom_155 ?_
      refine zz_aaN i rfl hlt (by decide) (by decide) rfl (Nat.lt_of_lt_of_le (by decide) hn) (xk_text hk9 i hlt) dX0_copyFrom_156 ?_
      refine zz_aload_1 dX0_copyFrom_157 ?_
      refine zz_getR fl_X0_54 rfl rfl (Nat.lt_of_lt_of_le (by decide) hn) (xr_1_12 hr) dX0_copyFrom_158 ?_
      refine zz_iload_2 dX0_copyFrom_161 ?_
      refine zz_aaN i rfl hlt (by decide) (by decide) rfl (Nat.lt_of_lt_of_le (by decide) hn) (xr_text hr i hlt) dX0_copyFrom_162 ?_
      refine zz_callV1v cv_X0_68 (xs_text60 i hlt) (by omega) (Nat.le_of_ble_eq_true rfl) (by decide) (by decide) dX0_copyFrom_163 (t_X8_copyFrom (xs_text i hlt) (xs_text60 i hlt) (xs_step i hlt) (xs_step60 i hlt) (by omega) (by omega) (by omega) (by omega) (xr_step hr i hlt) (xk_step hk9 i hlt) ⟨rfl, ?_⟩)
      refine zz_iinc_2 (1) dX0_copyFrom_166 rfl rfl (by decide) ?_
      refine zz_goto 146 dX0_copyFrom_169 (by decide) ?_
      rw [nI_1]
      refine ih (i + 1) _ (by omega) ⟨fun k hk => ?_, fun u hu => ?_⟩ (by omega)
      · rw [zz_u_row _ _ (by omega), zz_cpy_row _ (by omega)]
        exact hI.1 k hk
      · by_cases e : u = i
        · subst e
          refine ⟨?_, fun j hj => ?_⟩
          · rw [zz_u_same, zz_cpy_ne _ (by omega), hI.1 _ (by omega)]
          · rw [zz_u_ne1 _ _ (by omega), zz_cpy_at _ hj, hI.1 _ (by omega)]
        · refine ⟨?_, fun j hj => ?_⟩
          · rw [zz_u_ne1 _ _ (by omega), zz_cpy_ne _ (by omega)]
            exact (hI.2 u (by omega)).1
          · rw [zz_u_ne1 _ _ (by omega), zz_cpy_ne _ (by omega)]
            exact (hI.2 u (by omega)).2 j hj

def bk_60 (pp pq : Nat → Nat) (g g' : zz_G) : Prop := (∀ k, (k < 60 ∨ 86 < k) → g' k = g k) ∧ (g' 60 1 = g 1 1 ∧ g' 60 2 = g 1 2 ∧ g' 60 3 = g 1 3 ∧ g' 60 4 = g 1 4 ∧ g' 60 5 = g 1 5 ∧ g' 60 7 = g 1 7 ∧ g' 60 9 = g 1 9 ∧ g' 60 11 = g 1 11 ∧ g' 60 14 = g 1 14) ∧ (∀ j, j < 5 → g' 61 j = g 2 j) ∧ (∀ w j, w < 6 → j < 5 → g' (63 + w) j = g (4 + w) j) ∧ (∀ c j, c < 10 → j < 6 → g' (70 + pp c) j = g (11 + pq c) j) ∧ (∀ j, j < 50 → g' 80 j = g 21 j) ∧ (∀ u, u < 2 → g' (82 + 2 * u) 1 = g (23 + 2 * u) 1 ∧ ∀ j, j < 50 → g' (83 + 2 * u) j = g (24 + 2 * u) j) ∧ ∀ j, j < 20 → g' 86 j = g 27 j
set_option maxRecDepth 100000 in
set_option maxHeartbeats 4000000 in
theorem t_X0_copyFrom_60 {C : zz_C} {d n : Nat} {g : zz_G} {r : zz_R} {Q : zz_Q} (hn : 87 ≤ n) (hr : xr r) (hk9 : xk r) {pp pq : Nat → Nat} (hpp : ∀ c, c < 10 → pp c < 10 ∧ r 69 c = some (70 + pp c)) (hinj : ∀ c c', c < 10 → c' < 10 → pp c = pp c' → c = c') (hpq : ∀ c, c < 10 → pq c < 10 ∧ r 10 c = some (11 + pq c)) (h : ∀ g', bk_60 pp pq g g' → Q none g' r n) : zz_T C mi_X0_copyFrom (d + 2) 0 0 [.ref 60, .ref 1] g r n Q := by
  refine zz_T.of [some (.ref 60), some (.ref 1), none] (by decide +kernel) rfl (Nat.le_of_ble_eq_true rfl) ?_
  refine zz_aload_1 dX0_copyFrom_0 ?_
  refine zz_getR fl_X0_9 rfl rfl (Nat.lt_of_lt_of_le (by decide) hn) (xr_1_0 hr) dX0_copyFrom_1 ?_
  refine zz_aload_0 dX0_copyFrom_4 ?_
  refine zz_getR fl_X0_9 rfl rfl (Nat.lt_of_lt_of_le (by decide) hn) (show r 60 0 = some 61 from hk9 (60, 0, 61) (by decide)) dX0_copyFrom_5 ?_
  refine zz_callS2v cs_X0_64 (Nat.le_of_ble_eq_true rfl) (by decide) (by decide) dX0_copyFrom_8 (t_X0_copyRow (N := 5) (by decide) rfl rfl (by omega) (by omega) ⟨rfl, ?_⟩)
  refine zz_aload_0 dX0_copyFrom_11 ?_
  refine zz_aload_1 dX0_copyFrom_12 ?_
  refine zz_getI fl_X0_15 rfl rfl (Nat.lt_of_lt_of_le (by decide) hn) dX0_copyFrom_13 ?_
  refine zz_putI fl_X0_15 rfl rfl (Nat.lt_of_lt_of_le (by decide) hn) dX0_copyFrom_16 ?_
  refine zz_aload_0 dX0_copyFrom_19 ?_
  refine zz_aload_1 dX0_copyFrom_20 ?_
  refine zz_getI fl_X0_19 rfl rfl (Nat.lt_of_lt_of_le (by decide) hn) dX0_copyFrom_21 ?_
  refine zz_putI fl_X0_19 rfl rfl (Nat.lt_of_lt_of_le (by decide) hn) dX0_copyFrom_24 ?_
  refine zz_aload_0 dX0_copyFrom_27 ?_
  refine zz_aload_1 dX0_copyFrom_28 ?_
  refine zz_getI fl_X0_22 rfl rfl (Nat.lt_of_lt_of_le (by decide) hn) dX0_copyFrom_29 ?_
  refine zz_putI fl_X0_22 rfl rfl (Nat.lt_of_lt_of_le (by decide) hn) dX0_copyFrom_32 ?_
  refine zz_aload_0 dX0_copyFrom_35 ?_
  refine zz_aload_1 dX0_copyFrom_36 ?_
  refine zz_getI fl_X0_25 rfl rfl (Nat.lt_of_lt_of_le (by decide) hn) dX0_copyFrom_37 ?_
  refine zz_putI fl_X0_25 rfl rfl (Nat.lt_of_lt_of_le (by decide) hn) dX0_copyFrom_40 ?_
  refine zz_aload_0 dX0_copyFrom_43 ?_
  refine zz_aload_1 dX0_copyFrom_44 ?_
  refine zz_getI fl_X0_28 rfl rfl (Nat.lt_of_lt_of_le (by decide) hn) dX0_copyFrom_45 ?_
  refine zz_putI fl_X0_28 rfl rfl (Nat.lt_of_lt_of_le (by decide) hn) dX0_copyFrom_48 ?_
  refine zz_iconst (0) dX0_copyFrom_51 (by decide) ?_
  refine zz_istore_2 dX0_copyFrom_52 rfl rfl ?_
  refine lw_X0_copyFrom_60 (C := C) (d := d) hn hr hk9 (fun gw hIw => ?_) 7 0 _ (by omega) ⟨fun k hk => rfl, fun w j hw hj => by omega⟩ (by omega)
  refine zz_aload_0 dX0_copyFrom_80 ?_
  refine zz_aload_1 dX0_copyFrom_81 ?_
  refine zz_getI fl_X0_36 rfl rfl (Nat.lt_of_lt_of_le (by decide) hn) dX0_copyFrom_82 ?_
  refine zz_putI fl_X0_36 rfl rfl (Nat.lt_of_lt_of_le (by decide) hn) dX0_copyFrom_85 ?_
  refine zz_iconst (0) dX0_copyFrom_88 (by decide) ?_
  refine zz_istore_2 dX0_copyFrom_89 rfl rfl ?_
  refine lc_X0_copyFrom_60 (C := C) (d := d) hn hr hk9 hpp hinj hpq (fun gc hIc => ?_) 11 0 _ (by omega) ⟨fun k hk => rfl, fun w j hw hj => by omega⟩ (by omega)
  refine zz_aload_0 dX0_copyFrom_117 ?_
  refine zz_aload_1 dX0_copyFrom_118 ?_
  refine zz_getI fl_X0_42 rfl rfl (Nat.lt_of_lt_of_le (by decide) hn) dX0_copyFrom_119 ?_
  refine zz_putI fl_X0_42 rfl rfl (Nat.lt_of_lt_of_le (by decide) hn) dX0_copyFrom_122 ?_
  refine zz_aload_1 dX0_copyFrom_125 ?_
  refine zz_getR fl_X0_45 rfl rfl (Nat.lt_of_lt_of_le (by decide) hn) (xr_1_10 hr) dX0_copyFrom_126 ?_
  refine zz_aload_0 dX0_copyFrom_129 ?_
  refine zz_getR fl_X0_45 rfl rfl (Nat.lt_of_lt_of_le (by decide) hn) (show r 60 10 = some 80 from hk9 (60, 10, 80) (by decide)) dX0_copyFrom_130 ?_
  refine zz_callS2v cs_X0_64 (Nat.le_of_ble_eq_true rfl) (by decide) (by decide) dX0_copyFrom_133 (t_X0_copyRow (N := 50) (by decide) rfl rfl (by omega) (by omega) ⟨rfl, ?_⟩)
  refine zz_aload_0 dX0_copyFrom_136 ?_
  refine zz_aload_1 dX0_copyFrom_137 ?_
  refine zz_getI fl_X0_48 rfl rfl (Nat.lt_of_lt_of_le (by decide) hn) dX0_copyFrom_138 ?_
  refine zz_putI fl_X0_48 rfl rfl (Nat.lt_of_lt_of_le (by decide) hn) dX0_copyFrom_141 ?_
  refine zz_iconst (0) dX0_copyFrom_144 (by decide) ?_
  refine zz_istore_2 dX0_copyFrom_145 rfl rfl ?_
  refine lt_X0_copyFrom_60 (C := C) (d := d) hn hr hk9 (fun gt hIt => ?_) 3 0 _ (by omega) ⟨fun k hk => rfl, fun u hu => by omega⟩ (by omega)
  refine zz_aload_1 dX0_copyFrom_172 ?_
  refine zz_getR fl_X0_58 rfl rfl (Nat.lt_of_lt_of_le (by decide) hn) (xr_1_13 hr) dX0_copyFrom_173 ?_
  refine zz_aload_0 dX0_copyFrom_176 ?_
  refine zz_getR fl_X0_58 rfl rfl (Nat.lt_of_lt_of_le (by decide) hn) (show r 60 13 = some 86 from hk9 (60, 13, 86) (by decide)) dX0_copyFrom_177 ?_
  refine zz_callS2v cs_X0_64 (Nat.le_of_ble_eq_true rfl) (by decide) (by decide) dX0_copyFrom_180 (t_X0_copyRow (N := 20) (by decide) rfl rfl (by omega) (by omega) ⟨rfl, ?_⟩)
  refine zz_aload_0 dX0_copyFrom_183 ?_
  refine zz_aload_1 dX0_copyFrom_184 ?_
  refine zz_getI fl_X0_61 rfl rfl (Nat.lt_of_lt_of_le (by decide) hn) dX0_copyFrom_185 ?_
  refine zz_putI fl_X0_61 rfl rfl (Nat.lt_of_lt_of_le (by decide) hn) dX0_copyFrom_188 ?_
  refine zz_vret rfl dX0_copyFrom_191 (by decide) (by decide) ?_
  refine h _ ⟨fun k hk => ?_, ⟨by rw [zz_u_ne2 _ _ (by decide), zz_cpy_ne _ (by omega), hIt.1 _ (by omega), zz_u_ne2 _ _ (by decide), zz_cpy_ne _ (by omega), zz_u_ne2 _ _ (by decide), hIc.1 _ (by omega), zz_u_ne2 _ _ (by decide), hIw.1 _ (by omega), zz_u_ne2 _ _ (by decide), zz_u_ne2 _ _ (by decide), zz_u_ne2 _ _ (by decide), zz_u_ne2 _ _ (by decide), zz_u_same, zz_cpy_ne _ (by omega)], by rw [zz_u_ne2 _ _ (by decide), zz_cpy_ne _ (by omega), hIt.1 _ (by omega), zz_u_ne2 _ _ (by decide), zz_cpy_ne _ (by omega), zz_u_ne2 _ _ (by decide), hIc.1 _ (by omega), zz_u_ne2 _ _ (by decide), hIw.1 _ (by omega), zz_u_ne2 _ _ (by decide), zz_u_ne2 _ _ (by decide), zz_u_ne2 _ _ (by decide), zz_u_same, zz_u_ne1 _ _ (by omega), zz_cpy_ne _ (by omega)], by rw [zz_u_ne2 _ _ (by decide), zz_cpy_ne _ (by omega), hIt.1 _ (by omega), zz_u_ne2 _ _ (by decide), zz_cpy_ne _ (by omega), zz_u_ne2 _ _ (by decide), hIc.1 _ (by omega), zz_u_ne2 _ _ (by decide), hIw.1 _ (by omega), zz_u_ne2 _ _ (by decide), zz_u_ne2 _ _ (by decide), zz_u_same, zz_u_ne1 _ _ (by omega), zz_u_ne1 _ _ (by omega), zz_cpy_ne _ (by omega)], by rw [zz_u_ne2 _ _ (by decide), zz_cpy_ne _ (by omega), hIt.1 _ (by omega), zz_u_ne2 _ _ (by decide), zz_cpy_ne _ (by omega), zz_u_ne2 _ _ (by decide), hIc.1 _ (by omega), zz_u_ne2 _ _ (by decide), hIw.1 _ (by omega), zz_u_ne2 _ _ (by decide), zz_u_same, zz_u_ne1 _ _ (by omega), zz_u_ne1 _ _ (by omega), zz_u_ne1 _ _ (by omega), zz_cpy_ne _ (by omega)], by rw [zz_u_ne2 _ _ (by decide), zz_cpy_ne _ (by omega), hIt.1 _ (by omega), zz_u_ne2 _ _ (by decide), zz_cpy_ne _ (by omega), zz_u_ne2 _ _ (by decide), hIc.1 _ (by omega), zz_u_ne2 _ _ (by decide), hIw.1 _ (by omega), zz_u_same, zz_u_ne1 _ _ (by omega), zz_u_ne1 _ _ (by omega), zz_u_ne1 _ _ (by omega), zz_u_ne1 _ _ (by omega), zz_cpy_ne _ (by omega)], by rw [zz_u_ne2 _ _ (by decide), zz_cpy_ne _ (by omega), hIt.1 _ (by omega), zz_u_ne2 _ _ (by decide), zz_cpy_ne _ (by omega), zz_u_ne2 _ _ (by decide), hIc.1 _ (by omega), zz_u_same, hIw.1 _ (by omega), zz_u_ne1 _ _ (by omega), zz_u_ne1 _ _ (by omega), zz_u_ne1 _ _ (by omega), zz_u_ne1 _ _ (by omega), zz_u_ne1 _ _ (by omega), zz_cpy_ne _ (by omega)], by rw [zz_u_ne2 _ _ (by decide), zz_cpy_ne _ (by omega), hIt.1 _ (by omega), zz_u_ne2 _ _ (by decide), zz_cpy_ne _ (by omega), zz_u_same, hIc.1 _ (by omega), zz_u_ne1 _ _ (by omega), hIw.1 _ (by omega), zz_u_ne1 _ _ (by omega), zz_u_ne1 _ _ (by omega), zz_u_ne1 _ _ (by omega), zz_u_ne1 _ _ (by omega), zz_u_ne1 _ _ (by omega), zz_cpy_ne _ (by omega)], by rw [zz_u_ne2 _ _ (by decide), zz_cpy_ne _ (by omega), hIt.1 _ (by omega), zz_u_same, zz_cpy_ne _ (by omega), zz_u_ne1 _ _ (by omega), hIc.1 _ (by omega), zz_u_ne1 _ _ (by omega), hIw.1 _ (by omega), zz_u_ne1 _ _ (by omega), zz_u_ne1 _ _ (by omega), zz_u_ne1 _ _ (by omega), zz_u_ne1 _ _ (by omega), zz_u_ne1 _ _ (by omega), zz_cpy_ne _ (by omega)], by rw [zz_u_same, zz_cpy_ne _ (by omega), hIt.1 _ (by omega), zz_u_ne1 _ _ (by omega), zz_cpy_ne _ (by omega), zz_u_ne1 _ _ (by omega), hIc.1 _ (by omega), zz_u_ne1 _ _ (by omega), hIw.1 _ (by omega), zz_u_ne1 _ _ (by omega), zz_u_ne1 _ _ (by omega), zz_u_ne1 _ _ (by omega), zz_u_ne1 _ _ (by omega), zz_u_ne1 _ _ (by omega), zz_cpy_ne _ (by omega)]⟩, fun j hj => ?_, fun w j hw hj => ?_, fun c j hc hj => ?_, fun j hj => ?_, fun u hu => ?_, fun j hj => ?_⟩
  · rw [zz_u_row _ _ (by omega), zz_cpy_row _ (by omega), hIt.1 _ (by omega), zz_u_row _ _ (by omega), zz_cpy_row _ (by omega), zz_u_row _ _ (by omega), hIc.1 _ (by omega), zz_u_row _ _ (by omega), hIw.1 _ (by omega), zz_u_row _ _ (by omega), zz_u_row _ _ (by omega), zz_u_row _ _ (by omega), zz_u_row _ _ (by omega), zz_u_row _ _ (by omega), zz_cpy_row _ (by omega)]
  · rw [zz_u_ne1 _ _ (by omega), zz_cpy_ne _ (by omega), hIt.1 _ (by omega), zz_u_ne1 _ _ (by omega), zz_cpy_ne _ (by omega), zz_u_ne1 _ _ (by omega), hIc.1 _ (by omega), zz_u_ne1 _ _ (by omega), hIw.1 _ (by omega), zz_u_ne1 _ _ (by omega), zz_u_ne1 _ _ (by omega), zz_u_ne1 _ _ (by omega), zz_u_ne1 _ _ (by omega), zz_u_ne1 _ _ (by omega), zz_cpy_at _ hj]
  · rw [zz_u_ne1 _ _ (by omega), zz_cpy_ne _ (by omega), hIt.1 _ (by omega), zz_u_ne1 _ _ (by omega), zz_cpy_ne _ (by omega), zz_u_ne1 _ _ (by omega), hIc.1 _ (by omega), zz_u_ne1 _ _ (by omega), hIw.2 w j hw hj, zz_u_ne1 _ _ (by omega), zz_u_ne1 _ _ (by omega), zz_u_ne1 _ _ (by omega), zz_u_ne1 _ _ (by omega), zz_u_ne1 _ _ (by omega), zz_cpy_ne _ (by omega)]
  · have q1 := (hpp c hc).1
    have q2 := (hpq c hc).1
    rw [zz_u_ne1 _ _ (by omega), zz_cpy_ne _ (by omega), hIt.1 _ (by omega), zz_u_ne1 _ _ (by omega), zz_cpy_ne _ (by omega), zz_u_ne1 _ _ (by omega), hIc.2 c j hc hj, zz_u_ne1 _ _ (by omega), hIw.1 _ (by omega), zz_u_ne1 _ _ (by omega), zz_u_ne1 _ _ (by omega), zz_u_ne1 _ _ (by omega), zz_u_ne1 _ _ (by omega), zz_u_ne1 _ _ (by omega), zz_cpy_ne _ (by omega)]
  · rw [zz_u_ne1 _ _ (by omega), zz_cpy_ne _ (by omega), hIt.1 _ (by omega), zz_u_ne1 _ _ (by omega), zz_cpy_at _ hj, zz_u_ne1 _ _ (by omega), hIc.1 _ (by omega), zz_u_ne1 _ _ (by omega), hIw.1 _ (by omega), zz_u_ne1 _ _ (by omega), zz_u_ne1 _ _ (by omega), zz_u_ne1 _ _ (by omega), zz_u_ne1 _ _ (by omega), zz_u_ne1 _ _ (by omega), zz_cpy_ne _ (by omega)]
  · refine ⟨?_, fun j hj => ?_⟩
    · rw [zz_u_ne1 _ _ (by omega), zz_cpy_ne _ (by omega), (hIt.2 u hu).1, zz_u_ne1 _ _ (by omega), zz_cpy_ne _ (by omega), zz_u_ne1 _ _ (by omega), hIc.1 _ (by omega), zz_u_ne1 _ _ (by omega), hIw.1 _ (by omega), zz_u_ne1 _ _ (by omega), zz_u_ne1 _ _ (by omega), zz_u_ne1 _ _ (by omega), zz_u_ne1 _ _ (by omega), zz_u_ne1 _ _ (by omega), zz_cpy_ne _ (by omega)]
    · rw [zz_u_ne1 _ _ (by omega), zz_cpy_ne _ (by omega), (hIt.2 u hu).2 j hj, zz_u_ne1 _ _ (by omega), zz_cpy_ne _ (by omega), zz_u_ne1 _ _ (by omega), hIc.1 _ (by omega), zz_u_ne1 _ _ (by omega), hIw.1 _ (by omega), zz_u_ne1 _ _ (by omega), zz_u_ne1 _ _ (by omega), zz_u_ne1 _ _ (by omega), zz_u_ne1 _ _ (by omega), zz_u_ne1 _ _ (by omega), zz_cpy_ne _ (by omega)]
  · rw [zz_u_ne1 _ _ (by omega), zz_cpy_at _ hj, hIt.1 _ (by omega), zz_u_ne1 _ _ (by omega), zz_cpy_ne _ (by omega), zz_u_ne1 _ _ (by omega), hIc.1 _ (by omega), zz_u_ne1 _ _ (by omega), hIw.1 _ (by omega), zz_u_ne1 _ _ (by omega), zz_u_ne1 _ _ (by omega), zz_u_ne1 _ _ (by omega), zz_u_ne1 _ _ (by omega), zz_u_ne1 _ _ (by omega), zz_cpy_ne _ (by omega)]

set_option maxRecDepth 100000 in
set_option maxHeartbeats 4000000 in
theorem lw_X0_copyFrom_1 {C : zz_C} {d n : Nat} {g : zz_G} {r : zz_R} {Q : zz_Q} (hn : 87 ≤ n) (hr : xr r) (hk9 : xk r) (hZ : ∀ g1, ((∀ k, (k < 4 ∨ 9 < k) → g1 k = g k) ∧ ∀ w j, w < 6 → j < 5 → g1 (4 + w) j = g (63 + w) j) → zz_Z C mi_X0_copyFrom (d + 2) 0 0 0 0 80 [some (.ref 1), some (.ref 60), some (.int 6)] [] g1 r n Q) : ∀ (k : Nat) (i : Nat) (g1 : zz_G), i ≤ 6 → ((∀ k, (k < 4 ∨ 9 < k) → g1 k = g k) ∧ ∀ w j, w < i → j < 5 → g1 (4 + w) j = g (63 + w) j) → 6 - i < k → zz_Z C mi_X0_copyFrom (d + 2) 0 0 0 0 53 [some (.ref 1), some (.ref 60), some (.int (nI i))] [] g1 r n Q := by
  intro k
  induction k with
  | zero => intro i g1 hi hI hk; exact absurd hk (by omega)
  | succ k ih =>
    intro i g1 hi hI hk
    refine zz_iload_2 dX0_copyFrom_53 ?_
    refine zz_bipush (6) dX0_copyFrom_54 (by decide) ?_
    refine zz_icmp_ge 80 dX0_copyFrom_56 (by decide) (fun c_56 => ?_) (fun c_56 => ?_)
    · skip
      have hge := zz_gei (b := 6) c_56 (by omega) (by omega)
      obtain rfl : i = 6 := by omega
      exact hZ g1 hI
    · skip
      have hlt := zz_lti (b := 6) c_56 (by omega) (by omega)
      refine zz_aload_1 dX0_copyFrom_59 ?_
      refine zz_getR fl_X0_33 rfl rfl (Nat.lt_of_lt_of_le (by decide) hn) (show r 60 6 = some 62 from hk9 (60, 6, 62) (by decide)) dX0_copyFrom_60 ?_
      refine zz_iload_2 dX0_copyFrom_63 ?_
      refine zz_aaN i rfl hlt (by decide) (by decide) rfl (Nat.lt_of_lt_of_le (by decide) hn) (xk_way hk9 i hlt) dX0_copyFrom_64 ?_
      refine zz_aload_0 dX0_copyFrom_65 ?_
      refine zz_getR fl_X0_33 rfl rfl (Nat.lt_of_lt_of_le (by decide) hn) (xr_1_6 hr) dX0_copyFrom_66 ?_
      refine zz_iload_2 dX0_copyFrom_69 ?_
      refine zz_aaN i rfl hlt (by decide) (by decide) rfl (Nat.lt_of_lt_of_le (by decide) hn) (xr_way hr i hlt) dX0_copyFrom_70 ?_
      refine zz_callS2v cs_X0_64 (Nat.le_of_ble_eq_true rfl) (by decide) (by decide) dX0_copyFrom_71 (t_X0_copyRow (N := 5) (by decide) (xs_way60 i hlt) (xs_way i hlt) (by omega) (by omega) ⟨rfl, ?_⟩)
      refine zz_iinc_2 (1) dX0_copyFrom_74 rfl rfl (by decide) ?_
      refine zz_goto 53 dX0_copyFrom_77 (by decide) ?_
      rw [nI_1]
      refine ih (i + 1) _ (by omega) ⟨fun k hk => ?_, fun w j hw hj => ?_⟩ (by omega)
      · rw [zz_cpy_row _ (by omega)]
        exact hI.1 k hk
      · by_cases e : w = i
        · subst e
          rw [zz_cpy_at _ hj, hI.1 _ (by omega)]
        · rw [zz_cpy_ne _ (by omega)]
          exact hI.2 w j (by omega) hj

set_option maxRecDepth 100000 in
set_option maxHeartbeats 4000000 in
theorem lc_X0_copyFrom_1 {C : zz_C} {d n : Nat} {g : zz_G} {r : zz_R} {Q : zz_Q} (hn : 87 ≤ n) (hr : xr r) (hk9 : xk r) {pp pq : Nat → Nat} (hpp : ∀ c, c < 10 → pp c < 10 ∧ r 10 c = some (11 + pp c)) (hinj : ∀ c c', c < 10 → c' < 10 → pp c = pp c' → c = c') (hpq : ∀ c, c < 10 → pq c < 10 ∧ r 69 c = some (70 + pq c)) (hZ : ∀ g1, ((∀ k, (k < 11 ∨ 20 < k) → g1 k = g k) ∧ ∀ c j, c < 10 → j < 6 → g1 (11 + pp c) j = g (70 + pq c) j) → zz_Z C mi_X0_copyFrom (d + 2) 0 0 0 0 117 [some (.ref 1), some (.ref 60), some (.int 10)] [] g1 r n Q) : ∀ (k : Nat) (i : Nat) (g1 : zz_G), i ≤ 10 → ((∀ k, (k < 11 ∨ 20 < k) → g1 k = g k) ∧ ∀ c j, c < i → j < 6 → g1 (11 + pp c) j = g (70 + pq c) j) → 10 - i < k → zz_Z C mi_X0_copyFrom (d + 2) 0 0 0 0 90 [some (.ref 1), some (.ref 60), some (.int (nI i))] [] g1 r n Q := by
  intro k
  induction k with
  | zero => intro i g1 hi hI hk; exact absurd hk (by omega)
  | succ k ih =>
    intro i g1 hi hI hk
    refine zz_iload_2 dX0_copyFrom_90 ?_
    refine zz_bipush (10) dX0_copyFrom_91 (by decide) ?_
    refine zz_icmp_ge 117 dX0_copyFrom_93 (by decide) (fun c_93 => ?_) (fun c_93 => ?_)
    · skip
      have hge := zz_gei (b := 10) c_93 (by omega) (by omega)
      obtain rfl : i = 10 := by omega
      exact hZ g1 hI
    · skip
      have hlt := zz_lti (b := 10) c_93 (by omega) (by omega)
      refine zz_aload_1 dX0_copyFrom_96 ?_
      refine zz_getR fl_X0_39 rfl rfl (Nat.lt_of_lt_of_le (by decide) hn) (show r 60 8 = some 69 from hk9 (60, 8, 69) (by decide)) dX0_copyFrom_97 ?_
      refine zz_iload_2 dX0_copyFrom_100 ?_
      refine zz_aaN i rfl hlt (by decide) (by decide) rfl (Nat.lt_of_lt_of_le (by decide) hn) (hpq i hlt).2 dX0_copyFrom_101 ?_
      refine zz_aload_0 dX0_copyFrom_102 ?_
      refine zz_getR fl_X0_39 rfl rfl (Nat.lt_of_lt_of_le (by decide) hn) (xr_1_8 hr) dX0_copyFrom_103 ?_
      refine zz_iload_2 dX0_copyFrom_106 ?_
      refine zz_aaN i rfl hlt (by decide) (by decide) rfl (Nat.lt_of_lt_of_le (by decide) hn) (hpp i hlt).2 dX0_copyFrom_107 ?_
      refine zz_callS2v cs_X0_64 (Nat.le_of_ble_eq_true rfl) (by decide) (by decide) dX0_copyFrom_108 (t_X0_copyRow (N := 6) (by decide) (xs_code60 (pq i) (hpq i hlt).1) (xs_code (pp i) (hpp i hlt).1) (by have := (hpq i hlt).1; omega) (by have := (hpp i hlt).1; omega) ⟨rfl, ?_⟩)
      refine zz_iinc_2 (1) dX0_copyFrom_111 rfl rfl (by decide) ?_
      refine zz_goto 90 dX0_copyFrom_114 (by decide) ?_
      rw [nI_1]
      have q1 := (hpp i hlt).1
      have q2 := (hpq i hlt).1
      refine ih (i + 1) _ (by omega) ⟨fun k hk => ?_, fun c j hc hj => ?_⟩ (by omega)
      · rw [zz_cpy_row _ (by omega)]
        exact hI.1 k hk
      · by_cases e : c = i
        · subst e
          rw [zz_cpy_at _ hj, hI.1 _ (by omega)]
        · have hne : pp c ≠ pp i := fun z9 => e (hinj c i (by omega) hlt z9)
          rw [zz_cpy_ne _ (by omega)]
          exact hI.2 c j (by omega) hj

set_option maxRecDepth 100000 in
set_option maxHeartbeats 4000000 in
theorem lt_X0_copyFrom_1 {C : zz_C} {d n : Nat} {g : zz_G} {r : zz_R} {Q : zz_Q} (hn : 87 ≤ n) (hr : xr r) (hk9 : xk r) (hZ : ∀ g1, ((∀ k, (k < 23 ∨ 26 < k) → g1 k = g k) ∧ ∀ u, u < 2 → g1 (23 + 2 * u) 1 = g (82 + 2 * u) 1 ∧ ∀ j, j < 50 → g1 (24 + 2 * u) j = g (83 + 2 * u) j) → zz_Z C mi_X0_copyFrom (d + 2) 0 0 0 0 172 [some (.ref 1), some (.ref 60), some (.int 2)] [] g1 r n Q) : ∀ (k : Nat) (i : Nat) (g1 : zz_G), i ≤ 2 → ((∀ k, (k < 23 ∨ 26 < k) → g1 k = g k) ∧ ∀ u, u < i → g1 (23 + 2 * u) 1 = g (82 + 2 * u) 1 ∧ ∀ j, j < 50 → g1 (24 + 2 * u) j = g (83 + 2 * u) j) → 2 - i < k → zz_Z C mi_X0_copyFrom (d + 2) 0 0 0 0 146 [some (.ref 1), some (.ref 60), some (.int (nI i))] [] g1 r n Q := by
  intro k
  induction k with
  | zero => intro i g1 hi hI hk; exact absurd hk (by omega)
  | succ k ih =>
    intro i g1 hi hI hk
    refine zz_iload_2 dX0_copyFrom_146 ?_
    refine zz_iconst (2) dX0_copyFrom_147 (by decide) ?_
    refine zz_icmp_ge 172 dX0_copyFrom_148 (by decide) (fun c_148 => ?_) (fun c_148 => ?_)
    · skip
      have hge := zz_gei (b := 2) c_148 (by omega) (by omega)
      obtain rfl : i = 2 := by omega
      exact hZ g1 hI
    · skip
      have hlt := zz_lti (b := 2) c_148 (by omega) (by omega)
      refine zz_aload_0 dX0_copyFrom_151 ?_
      refine zz_getR fl_X0_54 rfl rfl (Nat.lt_of_lt_of_le (by decide) hn) (xr_1_12 hr) dX0_copyFrom_152 ?_
      refine zz_iload_2 dX0_copyFrom_155 ?_
      refine zz_aaN i rfl hlt (by decide) (by decide) rfl (Nat.lt_of_lt_of_le (by decide) hn) (xr_text hr i hlt) dX0_copyFrom_156 ?_
      refine zz_aload_1 dX0_copyFrom_157 ?_
      refine zz_getR fl_X0_54 rfl rfl (Nat.lt_of_lt_of_le (by decide) hn) (show r 60 12 = some 81 from hk9 (60, 12, 81) (by decide)) dX0_copyFrom_158 ?_
      refine zz_iload_2 dX0_copyFrom_161 ?_
      refine zz_aaN i rfl hlt (by decide) (by decide) rfl (Nat.lt_of_lt_of_le (by decide) hn) (xk_text hk9 i hlt) dX0_copyFrom_162 ?_
      refine zz_callV1v cv_X0_68 (xs_text i hlt) (by omega) (Nat.le_of_ble_eq_true rfl) (by decide) (by decide) dX0_copyFrom_163 (t_X8_copyFrom (xs_text60 i hlt) (xs_text i hlt) (xs_step60 i hlt) (xs_step i hlt) (by omega) (by omega) (by omega) (by omega) (xk_step hk9 i hlt) (xr_step hr i hlt) ⟨rfl, ?_⟩)
      refine zz_iinc_2 (1) dX0_copyFrom_166 rfl rfl (by decide) ?_
      refine zz_goto 146 dX0_copyFrom_169 (by decide) ?_
      rw [nI_1]
      refine ih (i + 1) _ (by omega) ⟨fun k hk => ?_, fun u hu => ?_⟩ (by omega)
      · rw [zz_u_row _ _ (by omega), zz_cpy_row _ (by omega)]
        exact hI.1 k hk
      · by_cases e : u = i
        · subst e
          refine ⟨?_, fun j hj => ?_⟩
          · rw [zz_u_same, zz_cpy_ne _ (by omega), hI.1 _ (by omega)]
          · rw [zz_u_ne1 _ _ (by omega), zz_cpy_at _ hj, hI.1 _ (by omega)]
        · refine ⟨?_, fun j hj => ?_⟩
          · rw [zz_u_ne1 _ _ (by omega), zz_cpy_ne _ (by omega)]
            exact (hI.2 u (by omega)).1
          · rw [zz_u_ne1 _ _ (by omega), zz_cpy_ne _ (by omega)]
            exact (hI.2 u (by omega)).2 j hj

def bk_1 (pp pq : Nat → Nat) (g g' : zz_G) : Prop := (∀ k, (k < 1 ∨ 27 < k) → g' k = g k) ∧ (g' 1 1 = g 60 1 ∧ g' 1 2 = g 60 2 ∧ g' 1 3 = g 60 3 ∧ g' 1 4 = g 60 4 ∧ g' 1 5 = g 60 5 ∧ g' 1 7 = g 60 7 ∧ g' 1 9 = g 60 9 ∧ g' 1 11 = g 60 11 ∧ g' 1 14 = g 60 14) ∧ (∀ j, j < 5 → g' 2 j = g 61 j) ∧ (∀ w j, w < 6 → j < 5 → g' (4 + w) j = g (63 + w) j) ∧ (∀ c j, c < 10 → j < 6 → g' (11 + pp c) j = g (70 + pq c) j) ∧ (∀ j, j < 50 → g' 21 j = g 80 j) ∧ (∀ u, u < 2 → g' (23 + 2 * u) 1 = g (82 + 2 * u) 1 ∧ ∀ j, j < 50 → g' (24 + 2 * u) j = g (83 + 2 * u) j) ∧ ∀ j, j < 20 → g' 27 j = g 86 j
set_option maxRecDepth 100000 in
set_option maxHeartbeats 4000000 in
theorem t_X0_copyFrom_1 {C : zz_C} {d n : Nat} {g : zz_G} {r : zz_R} {Q : zz_Q} (hn : 87 ≤ n) (hr : xr r) (hk9 : xk r) {pp pq : Nat → Nat} (hpp : ∀ c, c < 10 → pp c < 10 ∧ r 10 c = some (11 + pp c)) (hinj : ∀ c c', c < 10 → c' < 10 → pp c = pp c' → c = c') (hpq : ∀ c, c < 10 → pq c < 10 ∧ r 69 c = some (70 + pq c)) (h : ∀ g', bk_1 pp pq g g' → Q none g' r n) : zz_T C mi_X0_copyFrom (d + 2) 0 0 [.ref 1, .ref 60] g r n Q := by
  refine zz_T.of [some (.ref 1), some (.ref 60), none] (by decide +kernel) rfl (Nat.le_of_ble_eq_true rfl) ?_
  refine zz_aload_1 dX0_copyFrom_0 ?_
  refine zz_getR fl_X0_9 rfl rfl (Nat.lt_of_lt_of_le (by decide) hn) (show r 60 0 = some 61 from hk9 (60, 0, 61) (by decide)) dX0_copyFrom_1 ?_
  refine zz_aload_0 dX0_copyFrom_4 ?_
  refine zz_getR fl_X0_9 rfl rfl (Nat.lt_of_lt_of_le (by decide) hn) (xr_1_0 hr) dX0_copyFrom_5 ?_
  refine zz_callS2v cs_X0_64 (Nat.le_of_ble_eq_true rfl) (by decide) (by decide) dX0_copyFrom_8 (t_X0_copyRow (N := 5) (by decide) rfl rfl (by omega) (by omega) ⟨rfl, ?_⟩)
  refine zz_aload_0 dX0_copyFrom_11 ?_
  refine zz_aload_1 dX0_copyFrom_12 ?_
  refine zz_getI fl_X0_15 rfl rfl (Nat.lt_of_lt_of_le (by decide) hn) dX0_copyFrom_13 ?_
  refine zz_putI fl_X0_15 rfl rfl (Nat.lt_of_lt_of_le (by decide) hn) dX0_copyFrom_16 ?_
  refine zz_aload_0 dX0_copyFrom_19 ?_
  refine zz_aload_1 dX0_copyFrom_20 ?_
  refine zz_getI fl_X0_19 rfl rfl (Nat.lt_of_lt_of_le (by decide) hn) dX0_copyFrom_21 ?_
  refine zz_putI fl_X0_19 rfl rfl (Nat.lt_of_lt_of_le (by decide) hn) dX0_copyFrom_24 ?_
  refine zz_aload_0 dX0_copyFrom_27 ?_
  refine zz_aload_1 dX0_copyFrom_28 ?_
  refine zz_getI fl_X0_22 rfl rfl (Nat.lt_of_lt_of_le (by decide) hn) dX0_copyFrom_29 ?_
  refine zz_putI fl_X0_22 rfl rfl (Nat.lt_of_lt_of_le (by decide) hn) dX0_copyFrom_32 ?_
  refine zz_aload_0 dX0_copyFrom_35 ?_
  refine zz_aload_1 dX0_copyFrom_36 ?_
  refine zz_getI fl_X0_25 rfl rfl (Nat.lt_of_lt_of_le (by decide) hn) dX0_copyFrom_37 ?_
  refine zz_putI fl_X0_25 rfl rfl (Nat.lt_of_lt_of_le (by decide) hn) dX0_copyFrom_40 ?_
  refine zz_aload_0 dX0_copyFrom_43 ?_
  refine zz_aload_1 dX0_copyFrom_44 ?_
  refine zz_getI fl_X0_28 rfl rfl (Nat.lt_of_lt_of_le (by decide) hn) dX0_copyFrom_45 ?_
  refine zz_putI fl_X0_28 rfl rfl (Nat.lt_of_lt_of_le (by decide) hn) dX0_copyFrom_48 ?_
  refine zz_iconst (0) dX0_copyFrom_51 (by decide) ?_
  refine zz_istore_2 dX0_copyFrom_52 rfl rfl ?_
  refine lw_X0_copyFrom_1 (C := C) (d := d) hn hr hk9 (fun gw hIw => ?_) 7 0 _ (by omega) ⟨fun k hk => rfl, fun w j hw hj => by omega⟩ (by omega)
  refine zz_aload_0 dX0_copyFrom_80 ?_
  refine zz_aload_1 dX0_copyFrom_81 ?_
  refine zz_getI fl_X0_36 rfl rfl (Nat.lt_of_lt_of_le (by decide) hn) dX0_copyFrom_82 ?_
  refine zz_putI fl_X0_36 rfl rfl (Nat.lt_of_lt_of_le (by decide) hn) dX0_copyFrom_85 ?_
  refine zz_iconst (0) dX0_copyFrom_88 (by decide) ?_
  refine zz_istore_2 dX0_copyFrom_89 rfl rfl ?_
  refine lc_X0_copyFrom_1 (C := C) (d := d) hn hr hk9 hpp hinj hpq (fun gc hIc => ?_) 11 0 _ (by omega) ⟨fun k hk => rfl, fun w j hw hj => by omega⟩ (by omega)
  refine zz_aload_0 dX0_copyFrom_117 ?_
  refine zz_aload_1 dX0_copyFrom_118 ?_
  refine zz_getI fl_X0_42 rfl rfl (Nat.lt_of_lt_of_le (by decide) hn) dX0_copyFrom_119 ?_
  refine zz_putI fl_X0_42 rfl rfl (Nat.lt_of_lt_of_le (by decide) hn) dX0_copyFrom_122 ?_
  refine zz_aload_1 dX0_copyFrom_125 ?_
  refine zz_getR fl_X0_45 rfl rfl (Nat.lt_of_lt_of_le (by decide) hn) (show r 60 10 = some 80 from hk9 (60, 10, 80) (by decide)) dX0_copyFrom_126 ?_
  refine zz_aload_0 dX0_copyFrom_129 ?_
  refine zz_getR fl_X0_45 rfl rfl (Nat.lt_of_lt_of_le (by decide) hn) (xr_1_10 hr) dX0_copyFrom_130 ?_
  refine zz_callS2v cs_X0_64 (Nat.le_of_ble_eq_true rfl) (by decide) (by decide) dX0_copyFrom_133 (t_X0_copyRow (N := 50) (by decide) rfl rfl (by omega) (by omega) ⟨rfl, ?_⟩)
  refine zz_aload_0 dX0_copyFrom_136 ?_
  refine zz_aload_1 dX0_copyFrom_137 ?_
  refine zz_getI fl_X0_48 rfl rfl (Nat.lt_of_lt_of_le (by decide) hn) dX0_copyFrom_138 ?_
  refine zz_putI fl_X0_48 rfl rfl (Nat.lt_of_lt_of_le (by decide) hn) dX0_copyFrom_141 ?_
  refine zz_iconst (0) dX0_copyFrom_144 (by decide) ?_
  refine zz_istore_2 dX0_copyFrom_145 rfl rfl ?_
  refine lt_X0_copyFrom_1 (C := C) (d := d) hn hr hk9 (fun gt hIt => ?_) 3 0 _ (by omega) ⟨fun k hk => rfl, fun u hu => by omega⟩ (by omega)
  refine zz_aload_1 dX0_copyFrom_172 ?_
  refine zz_getR fl_X0_58 rfl rfl (Nat.lt_of_lt_of_le (by decide) hn) (show r 60 13 = some 86 from hk9 (60, 13, 86) (by decide)) dX0_copyFrom_173 ?_
  refine zz_aload_0 dX0_copyFrom_176 ?_
  refine zz_getR fl_X0_58 rfl rfl (Nat.lt_of_lt_of_le (by decide) hn) (xr_1_13 hr) dX0_copyFrom_177 ?_
  refine zz_callS2v cs_X0_64 (Nat.le_of_ble_eq_true rfl) (by decide) (by decide) dX0_copyFrom_180 (t_X0_copyRow (N := 20) (by decide) rfl rfl (by omega) (by omega) ⟨rfl, ?_⟩)
  refine zz_aload_0 dX0_copyFrom_183 ?_
  refine zz_aload_1 dX0_copyFrom_184 ?_
  refine zz_getI fl_X0_61 rfl rfl (Nat.lt_of_lt_of_le (by decide) hn) dX0_copyFrom_185 ?_
  refine zz_putI fl_X0_61 rfl rfl (Nat.lt_of_lt_of_le (by decide) hn) dX0_copyFrom_188 ?_
  refine zz_vret rfl dX0_copyFrom_191 (by decide) (by decide) ?_
  refine h _ ⟨fun k hk => ?_, ⟨by rw [zz_u_ne2 _ _ (by decide), zz_cpy_ne _ (by omega), hIt.1 _ (by omega), zz_u_ne2 _ _ (by decide), zz_cpy_ne _ (by omega), zz_u_ne2 _ _ (by decide), hIc.1 _ (by omega), zz_u_ne2 _ _ (by decide), hIw.1 _ (by omega), zz_u_ne2 _ _ (by decide), zz_u_ne2 _ _ (by decide), zz_u_ne2 _ _ (by decide), zz_u_ne2 _ _ (by decide), zz_u_same, zz_cpy_ne _ (by omega)], by rw [zz_u_ne2 _ _ (by decide), zz_cpy_ne _ (by omega), hIt.1 _ (by omega), zz_u_ne2 _ _ (by decide), zz_cpy_ne _ (by omega), zz_u_ne2 _ _ (by decide), hIc.1 _ (by omega), zz_u_ne2 _ _ (by decide), hIw.1 _ (by omega), zz_u_ne2 _ _ (by decide), zz_u_ne2 _ _ (by decide), zz_u_ne2 _ _ (by decide), zz_u_same, zz_u_ne1 _ _ (by omega), zz_cpy_ne _ (by omega)], by rw [zz_u_ne2 _ _ (by decide), zz_cpy_ne _ (by omega), hIt.1 _ (by omega), zz_u_ne2 _ _ (by decide), zz_cpy_ne _ (by omega), zz_u_ne2 _ _ (by decide), hIc.1 _ (by omega), zz_u_ne2 _ _ (by decide), hIw.1 _ (by omega), zz_u_ne2 _ _ (by decide), zz_u_ne2 _ _ (by decide), zz_u_same, zz_u_ne1 _ _ (by omega), zz_u_ne1 _ _ (by omega), zz_cpy_ne _ (by omega)], by rw [zz_u_ne2 _ _ (by decide), zz_cpy_ne _ (by omega), hIt.1 _ (by omega), zz_u_ne2 _ _ (by decide), zz_cpy_ne _ (by omega), zz_u_ne2 _ _ (by decide), hIc.1 _ (by omega), zz_u_ne2 _ _ (by decide), hIw.1 _ (by omega), zz_u_ne2 _ _ (by decide), zz_u_same, zz_u_ne1 _ _ (by omega), zz_u_ne1 _ _ (by omega), zz_u_ne1 _ _ (by omega), zz_cpy_ne _ (by omega)], by rw [zz_u_ne2 _ _ (by decide), zz_cpy_ne _ (by omega), hIt.1 _ (by omega), zz_u_ne2 _ _ (by decide), zz_cpy_ne _ (by omega), zz_u_ne2 _ _ (by decide), hIc.1 _ (by omega), zz_u_ne2 _ _ (by decide), hIw.1 _ (by omega), zz_u_same, zz_u_ne1 _ _ (by omega), zz_u_ne1 _ _ (by omega), zz_u_ne1 _ _ (by omega), zz_u_ne1 _ _ (by omega), zz_cpy_ne _ (by omega)], by rw [zz_u_ne2 _ _ (by decide), zz_cpy_ne _ (by omega), hIt.1 _ (by omega), zz_u_ne2 _ _ (by decide), zz_cpy_ne _ (by omega), zz_u_ne2 _ _ (by decide), hIc.1 _ (by omega), zz_u_same, hIw.1 _ (by omega), zz_u_ne1 _ _ (by omega), zz_u_ne1 _ _ (by omega), zz_u_ne1 _ _ (by omega), zz_u_ne1 _ _ (by omega), zz_u_ne1 _ _ (by omega), zz_cpy_ne _ (by omega)], by rw [zz_u_ne2 _ _ (by decide), zz_cpy_ne _ (by omega), hIt.1 _ (by omega), zz_u_ne2 _ _ (by decide), zz_cpy_ne _ (by omega), zz_u_same, hIc.1 _ (by omega), zz_u_ne1 _ _ (by omega), hIw.1 _ (by omega), zz_u_ne1 _ _ (by omega), zz_u_ne1 _ _ (by omega), zz_u_ne1 _ _ (by omega), zz_u_ne1 _ _ (by omega), zz_u_ne1 _ _ (by omega), zz_cpy_ne _ (by omega)], by rw [zz_u_ne2 _ _ (by decide), zz_cpy_ne _ (by omega), hIt.1 _ (by omega), zz_u_same, zz_cpy_ne _ (by omega), zz_u_ne1 _ _ (by omega), hIc.1 _ (by omega), zz_u_ne1 _ _ (by omega), hIw.1 _ (by omega), zz_u_ne1 _ _ (by omega), zz_u_ne1 _ _ (by omega), zz_u_ne1 _ _ (by omega), zz_u_ne1 _ _ (by omega), zz_u_ne1 _ _ (by omega), zz_cpy_ne _ (by omega)], by rw [zz_u_same, zz_cpy_ne _ (by omega), hIt.1 _ (by omega), zz_u_ne1 _ _ (by omega), zz_cpy_ne _ (by omega), zz_u_ne1 _ _ (by omega), hIc.1 _ (by omega), zz_u_ne1 _ _ (by omega), hIw.1 _ (by omega), zz_u_ne1 _ _ (by omega), zz_u_ne1 _ _ (by omega), zz_u_ne1 _ _ (by omega), zz_u_ne1 _ _ (by omega), zz_u_ne1 _ _ (by omega), zz_cpy_ne _ (by omega)]⟩, fun j hj => ?_, fun w j hw hj => ?_, fun c j hc hj => ?_, fun j hj => ?_, fun u hu => ?_, fun j hj => ?_⟩
  · rw [zz_u_row _ _ (by omega), zz_cpy_row _ (by omega), hIt.1 _ (by omega), zz_u_row _ _ (by omega), zz_cpy_row _ (by omega), zz_u_row _ _ (by omega), hIc.1 _ (by omega), zz_u_row _ _ (by omega), hIw.1 _ (by omega), zz_u_row _ _ (by omega), zz_u_row _ _ (by omega), zz_u_row _ _ (by omega), zz_u_row _ _ (by omega), zz_u_row _ _ (by omega), zz_cpy_row _ (by omega)]
  · rw [zz_u_ne1 _ _ (by omega), zz_cpy_ne _ (by omega), hIt.1 _ (by omega), zz_u_ne1 _ _ (by omega), zz_cpy_ne _ (by omega), zz_u_ne1 _ _ (by omega), hIc.1 _ (by omega), zz_u_ne1 _ _ (by omega), hIw.1 _ (by omega), zz_u_ne1 _ _ (by omega), zz_u_ne1 _ _ (by omega), zz_u_ne1 _ _ (by omega), zz_u_ne1 _ _ (by omega), zz_u_ne1 _ _ (by omega), zz_cpy_at _ hj]
  · rw [zz_u_ne1 _ _ (by omega), zz_cpy_ne _ (by omega), hIt.1 _ (by omega), zz_u_ne1 _ _ (by omega), zz_cpy_ne _ (by omega), zz_u_ne1 _ _ (by omega), hIc.1 _ (by omega), zz_u_ne1 _ _ (by omega), hIw.2 w j hw hj, zz_u_ne1 _ _ (by omega), zz_u_ne1 _ _ (by omega), zz_u_ne1 _ _ (by omega), zz_u_ne1 _ _ (by omega), zz_u_ne1 _ _ (by omega), zz_cpy_ne _ (by omega)]
  · have q1 := (hpp c hc).1
    have q2 := (hpq c hc).1
    rw [zz_u_ne1 _ _ (by omega), zz_cpy_ne _ (by omega), hIt.1 _ (by omega), zz_u_ne1 _ _ (by omega), zz_cpy_ne _ (by omega), zz_u_ne1 _ _ (by omega), hIc.2 c j hc hj, zz_u_ne1 _ _ (by omega), hIw.1 _ (by omega), zz_u_ne1 _ _ (by omega), zz_u_ne1 _ _ (by omega), zz_u_ne1 _ _ (by omega), zz_u_ne1 _ _ (by omega), zz_u_ne1 _ _ (by omega), zz_cpy_ne _ (by omega)]
  · rw [zz_u_ne1 _ _ (by omega), zz_cpy_ne _ (by omega), hIt.1 _ (by omega), zz_u_ne1 _ _ (by omega), zz_cpy_at _ hj, zz_u_ne1 _ _ (by omega), hIc.1 _ (by omega), zz_u_ne1 _ _ (by omega), hIw.1 _ (by omega), zz_u_ne1 _ _ (by omega), zz_u_ne1 _ _ (by omega), zz_u_ne1 _ _ (by omega), zz_u_ne1 _ _ (by omega), zz_u_ne1 _ _ (by omega), zz_cpy_ne _ (by omega)]
  · refine ⟨?_, fun j hj => ?_⟩
    · rw [zz_u_ne1 _ _ (by omega), zz_cpy_ne _ (by omega), (hIt.2 u hu).1, zz_u_ne1 _ _ (by omega), zz_cpy_ne _ (by omega), zz_u_ne1 _ _ (by omega), hIc.1 _ (by omega), zz_u_ne1 _ _ (by omega), hIw.1 _ (by omega), zz_u_ne1 _ _ (by omega), zz_u_ne1 _ _ (by omega), zz_u_ne1 _ _ (by omega), zz_u_ne1 _ _ (by omega), zz_u_ne1 _ _ (by omega), zz_cpy_ne _ (by omega)]
    · rw [zz_u_ne1 _ _ (by omega), zz_cpy_ne _ (by omega), (hIt.2 u hu).2 j hj, zz_u_ne1 _ _ (by omega), zz_cpy_ne _ (by omega), zz_u_ne1 _ _ (by omega), hIc.1 _ (by omega), zz_u_ne1 _ _ (by omega), hIw.1 _ (by omega), zz_u_ne1 _ _ (by omega), zz_u_ne1 _ _ (by omega), zz_u_ne1 _ _ (by omega), zz_u_ne1 _ _ (by omega), zz_u_ne1 _ _ (by omega), zz_cpy_ne _ (by omega)]
  · rw [zz_u_ne1 _ _ (by omega), zz_cpy_at _ hj, hIt.1 _ (by omega), zz_u_ne1 _ _ (by omega), zz_cpy_ne _ (by omega), zz_u_ne1 _ _ (by omega), hIc.1 _ (by omega), zz_u_ne1 _ _ (by omega), hIw.1 _ (by omega), zz_u_ne1 _ _ (by omega), zz_u_ne1 _ _ (by omega), zz_u_ne1 _ _ (by omega), zz_u_ne1 _ _ (by omega), zz_u_ne1 _ _ (by omega), zz_cpy_ne _ (by omega)]
