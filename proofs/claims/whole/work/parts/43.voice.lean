def sp_ran (S : zz_G) (b : Int32) : zz_G := if 40 ≤ S 50 19 then S else zz_u (zz_u S 59 (S 50 19).toNatClampNeg b) 50 19 (S 50 19 + 1)
def sp_rans (S : zz_G) : List Int32 → zz_G
  | [] => S
  | b :: l => sp_rans (sp_ran S b) l
theorem sp_rans_a (S : zz_G) : ∀ (l l' : List Int32), sp_rans (sp_rans S l) l' = sp_rans S (l ++ l') := by
  intro l
  induction l generalizing S with
  | nil => intro l'; rfl
  | cons b l ih => intro l'; exact ih (sp_ran S b) l'
abbrev vt (g : zz_G) : Prop := ∃ tw : Nat, tw ≤ 40 ∧ g 50 19 = nI tw
theorem sp_ran_f {S : zz_G} {b : Int32} {a c : Nat} (h : ¬ a = 59) (h2 : ¬ (a = 50 ∧ c = 19)) : sp_ran S b a c = S a c := by
  unfold sp_ran
  split
  · rfl
  · rw [show zz_u (zz_u S 59 (S 50 19).toNatClampNeg b) 50 19 (S 50 19 + 1) a c = zz_u S 59 (S 50 19).toNatClampNeg b a c from if_neg h2, zz_u_ne1 _ _ h]
theorem sp_ran_t {S : zz_G} {b : Int32} (h : vt S) : vt (sp_ran S b) := by
  obtain ⟨tw, h4, e⟩ := h
  unfold sp_ran
  split
  · exact ⟨tw, h4, e⟩
  · rename_i h9
    rw [e] at h9
    have := zz_lti (b := 40) h9 (by omega) (by omega)
    exact ⟨tw + 1, by omega, by rw [zz_u_same, e, nI_1]⟩
theorem sp_rans_f {a c : Nat} (h : ¬ a = 59) (h2 : ¬ (a = 50 ∧ c = 19)) : ∀ (l : List Int32) (S : zz_G), sp_rans S l a c = S a c := by
  intro l
  induction l with
  | nil => intro S; rfl
  | cons b l ih => intro S; exact (ih (sp_ran S b)).trans (sp_ran_f h h2)
theorem sp_rans_t : ∀ (l : List Int32) (S : zz_G), vt S → vt (sp_rans S l) := by
  intro l
  induction l with
  | nil => intro S h; exact h
  | cons b l ih => intro S h; exact ih _ (sp_ran_t h)
def vq (g : zz_G) (k0 : Nat) (N M : Int32) : Prop := g 50 20 = nI k0 ∧ g 50 21 = N ∧ g 50 22 = M ∧ vt g
theorem vq.r {g : zz_G} {k0 : Nat} {N M : Int32} {l : List Int32} (h : vq g k0 N M) : vq (sp_rans g l) k0 N M :=
  ⟨(sp_rans_f (by decide) (by decide) l g).trans h.1, (sp_rans_f (by decide) (by decide) l g).trans h.2.1, (sp_rans_f (by decide) (by decide) l g).trans h.2.2.1, sp_rans_t l g h.2.2.2⟩
/-! values and bodies run, by kinds -/
def vs_v (N x : Int32) : Nat → Int32
  | 1 => (x + N) * 3
  | 4 => (x + N) * 3
  | _ => x + N
def vs_l : Nat → List Int32
  | 1 => [20, 10]
  | 4 => [20, 10]
  | _ => [10]
def vh_v (N M x : Int32) : Nat → Int32
  | 3 => -(x - M)
  | 6 => -(x - M) ^^^ N
  | _ => x - M
def vh_l : Nat → List Int32
  | 3 => [40, 12]
  | 6 => [70, 40, 12]
  | _ => [12]
def vo_v (k0 : Nat) (N M x : Int32) : Nat → Int32
  | 2 => vs_v N x k0 * 2 - vh_v N M 1 k0
  | 5 => vs_v N (x + 1) k0 * 2 - vh_v N M 1 k0
  | _ => vs_v N x k0 * 2
def vo_l (k0 : Nat) : Nat → List Int32
  | 2 => 30 :: 11 :: (vs_l k0 ++ vh_l k0)
  | 5 => 60 :: 30 :: 11 :: (vs_l k0 ++ vh_l k0)
  | _ => 11 :: vs_l k0
def ve_v (k0 : Nat) (N M x : Int32) : Nat → Int32
  | 4 => (vo_v k0 N M x k0 ^^^ vh_v N M x k0) - vs_v N 2 k0
  | 6 => vo_v k0 N M x k0 - (vo_v k0 N M x k0 ^^^ vh_v N M x k0)
  | _ => vo_v k0 N M x k0 ^^^ vh_v N M x k0
def ve_l (k0 : Nat) : Nat → List Int32
  | 4 => 50 :: 13 :: (vo_l k0 k0 ++ (vh_l k0 ++ vs_l k0))
  | 6 => 71 :: (vo_l k0 k0 ++ (13 :: (vo_l k0 k0 ++ vh_l k0)))
  | _ => 13 :: (vo_l k0 k0 ++ vh_l k0)
theorem t_X12_above_1 {C : zz_C} {d n : Nat} {g : zz_G} {r : zz_R} {Q : zz_Q} (h : Q (some (.int (0))) g r n) : zz_T C mi_X12_above d 0 0 [.int (1)] g r n Q := t_X12_above (by rw [show sp_above (1) = 0 from by decide]; exact h)
theorem t_X12_above_2 {C : zz_C} {d n : Nat} {g : zz_G} {r : zz_R} {Q : zz_Q} (h : Q (some (.int (0))) g r n) : zz_T C mi_X12_above d 0 0 [.int (2)] g r n Q := t_X12_above (by rw [show sp_above (2) = 0 from by decide]; exact h)
theorem t_X12_above_3 {C : zz_C} {d n : Nat} {g : zz_G} {r : zz_R} {Q : zz_Q} (h : Q (some (.int (0))) g r n) : zz_T C mi_X12_above d 0 0 [.int (3)] g r n Q := t_X12_above (by rw [show sp_above (3) = 0 from by decide]; exact h)
theorem t_X12_above_4 {C : zz_C} {d n : Nat} {g : zz_G} {r : zz_R} {Q : zz_Q} (h : Q (some (.int (1))) g r n) : zz_T C mi_X12_above d 0 0 [.int (4)] g r n Q := t_X12_above (by rw [show sp_above (4) = 1 from by decide]; exact h)
theorem t_X12_above_5 {C : zz_C} {d n : Nat} {g : zz_G} {r : zz_R} {Q : zz_Q} (h : Q (some (.int (2))) g r n) : zz_T C mi_X12_above d 0 0 [.int (5)] g r n Q := t_X12_above (by rw [show sp_above (5) = 2 from by decide]; exact h)
theorem t_X12_above_6 {C : zz_C} {d n : Nat} {g : zz_G} {r : zz_R} {Q : zz_Q} (h : Q (some (.int (3))) g r n) : zz_T C mi_X12_above d 0 0 [.int (6)] g r n Q := t_X12_above (by rw [show sp_above (6) = 3 from by decide]; exact h)
set_option maxRecDepth 100000 in
set_option maxHeartbeats 4000000 in
theorem t_X12_ran {C : zz_C} {d n : Nat} {g : zz_G} {r : zz_R} {Q : zz_Q} (hn : 60 ≤ n) (hr : xr r) {b : Int32} (ht : vt g) (h : Q none (sp_rans g [b]) r n) : zz_T C mi_X12_ran d 0 0 [.ref 50, .int b] g r n Q := by
  refine zz_T.of [some (.ref 50), some (.int b)] (by decide +kernel) rfl (Nat.le_of_ble_eq_true rfl) ?_
  refine zz_aload_0 dX12_ran_0 ?_
  refine zz_getI fl_X12_197 rfl rfl (Nat.lt_of_lt_of_le (by decide) hn) dX12_ran_1 ?_
  refine zz_bipush (40) dX12_ran_4 (by decide) ?_
  refine zz_icmp_ge 29 dX12_ran_6 (by decide) (fun c_6 => ?_) (fun c_6 => ?_)
  · skip
    refine zz_vret rfl dX12_ran_29 (by decide) (by decide) ?_
    first
      | (rw [sp_rans, sp_rans, sp_ran, if_pos c_6] at h; exact h)
      | (rw [sp_rans, sp_rans, sp_ran, if_neg (by rw [et]; exact c_6), et, ix_w (by omega)] at h
         rw [show zz_u g 59 tw b 50 19 = g 50 19 from zz_u_ne1 _ _ (by decide), et]
         exact h)
  · skip
    refine zz_aload_0 dX12_ran_9 ?_
    refine zz_getR fl_X12_34 rfl rfl (Nat.lt_of_lt_of_le (by decide) hn) (xr_50_18 hr) dX12_ran_10 ?_
    refine zz_aload_0 dX12_ran_13 ?_
    refine zz_getI fl_X12_197 rfl rfl (Nat.lt_of_lt_of_le (by decide) hn) dX12_ran_14 ?_
    refine zz_iload_1 dX12_ran_17 ?_
    obtain ⟨tw, htw, et⟩ := ht
    rw [et] at c_6
    have hlt := zz_lti (b := 40) c_6 (by omega) (by omega)
    refine zz_isN tw et (by omega) (by decide) rfl (Nat.lt_of_lt_of_le (by decide) hn) dX12_ran_18 ?_
    refine zz_aload_0 dX12_ran_19 ?_
    refine zz_dup dX12_ran_20 rfl ?_
    refine zz_getI fl_X12_197 rfl rfl (Nat.lt_of_lt_of_le (by decide) hn) dX12_ran_21 ?_
    refine zz_iconst (1) dX12_ran_24 (by decide) ?_
    refine zz_iadd dX12_ran_25 ?_
    refine zz_putI fl_X12_197 rfl rfl (Nat.lt_of_lt_of_le (by decide) hn) dX12_ran_26 ?_
    refine zz_vret rfl dX12_ran_29 (by decide) (by decide) ?_
    first
      | (rw [sp_rans, sp_rans, sp_ran, if_pos c_6] at h; exact h)
      | (rw [sp_rans, sp_rans, sp_ran, if_neg (by rw [et]; exact c_6), et, ix_w (by omega)] at h
         rw [show zz_u g 59 tw b 50 19 = g 50 19 from zz_u_ne1 _ _ (by decide), et]
         exact h)

set_option maxRecDepth 100000 in
set_option maxHeartbeats 4000000 in
theorem t_X12_sendsIn_0 {C : zz_C} {d n : Nat} {g : zz_G} {r : zz_R} {Q : zz_Q} (hn : 60 ≤ n) (hr : xr r) {k0 : Nat} (hk0 : k0 < 7) {N M x : Int32} (hq : vq g k0 N M) (h : Q (some (.int (x + N))) (sp_rans g [10]) r n) : zz_T C mi_X12_sendsIn (d + 1) 0 0 [.ref 50, .int (0), .int x] g r n Q := by
  refine zz_T.of [some (.ref 50), some (.int (0)), some (.int x)] (by decide +kernel) rfl (Nat.le_of_ble_eq_true rfl) ?_
  refine zz_iload_1 dX12_sendsIn_0 ?_
  refine zz_if_ne 17 dX12_sendsIn_1 (by decide) (fun h => absurd h (by decide)) (fun _ => ?_)
  refine zz_aload_0 dX12_sendsIn_4 ?_
  refine zz_bipush (10) dX12_sendsIn_5 (by decide) ?_
  refine zz_callV1v cv_X12_200 rfl (Nat.lt_of_lt_of_le (by decide) hn) (Nat.le_of_ble_eq_true rfl) (by decide) (by decide) dX12_sendsIn_7 (t_X12_ran hn hr (by first | exact hq.2.2.2 | exact hq.r.2.2.2 | exact hq.r.r.2.2.2 | exact hq.r.r.r.2.2.2) ⟨rfl, ?_⟩)
  refine zz_iload_2 dX12_sendsIn_10 ?_
  refine zz_aload_0 dX12_sendsIn_11 ?_
  refine zz_getI fl_X12_204 rfl rfl (Nat.lt_of_lt_of_le (by decide) hn) dX12_sendsIn_12 ?_
  refine zz_iadd dX12_sendsIn_15 ?_
  refine zz_iret rfl dX12_sendsIn_16 (by decide) (by decide) ?_
  first
    | (rw [show (sp_rans g _) 50 21 = N from hq.r.2.1]; exact h)
    | (rw [show (sp_rans g _) 50 22 = M from hq.r.2.2.1]; exact h)
    | (rw [show (sp_rans (sp_rans g _) _) 50 21 = N from hq.r.r.2.1]; simp only [sp_rans_a, List.cons_append, List.nil_append, List.append_assoc] at h ⊢; exact h)
    | (simp only [sp_rans_a, List.cons_append, List.nil_append, List.append_assoc] at h ⊢; exact h)
    | exact h

set_option maxRecDepth 100000 in
set_option maxHeartbeats 4000000 in
theorem t_X12_sendsIn_1 {C : zz_C} {d n : Nat} {g : zz_G} {r : zz_R} {Q : zz_Q} (hn : 60 ≤ n) (hr : xr r) {k0 : Nat} (hk0 : k0 < 7) {N M x : Int32} (hq : vq g k0 N M) (h : Q (some (.int ((x + N) * 3))) (sp_rans g [20, 10]) r n) : zz_T C mi_X12_sendsIn (d + 2) 0 0 [.ref 50, .int (1), .int x] g r n Q := by
  refine zz_T.of [some (.ref 50), some (.int (1)), some (.int x)] (by decide +kernel) rfl (Nat.le_of_ble_eq_true rfl) ?_
  refine zz_iload_1 dX12_sendsIn_0 ?_
  refine zz_if_ne 17 dX12_sendsIn_1 (by decide) (fun _ => ?_) (fun h => absurd h (by decide))
  refine zz_iload_1 dX12_sendsIn_17 ?_
  refine zz_iconst (1) dX12_sendsIn_18 (by decide) ?_
  refine zz_icmp_ne 37 dX12_sendsIn_19 (by decide) (fun h => absurd h (by decide)) (fun _ => ?_)
  refine zz_aload_0 dX12_sendsIn_22 ?_
  refine zz_bipush (20) dX12_sendsIn_23 (by decide) ?_
  refine zz_callV1v cv_X12_200 rfl (Nat.lt_of_lt_of_le (by decide) hn) (Nat.le_of_ble_eq_true rfl) (by decide) (by decide) dX12_sendsIn_25 (t_X12_ran hn hr (by first | exact hq.2.2.2 | exact hq.r.2.2.2 | exact hq.r.r.2.2.2 | exact hq.r.r.r.2.2.2) ⟨rfl, ?_⟩)
  refine zz_aload_0 dX12_sendsIn_28 ?_
  refine zz_iconst (0) dX12_sendsIn_29 (by decide) ?_
  refine zz_iload_2 dX12_sendsIn_30 ?_
  refine zz_callV2i cv_X12_207 rfl (Nat.lt_of_lt_of_le (by decide) hn) (Nat.le_of_ble_eq_true rfl) (by decide) (by decide) dX12_sendsIn_31 (t_X12_sendsIn_0 hn hr hk0 (by first | exact hq | exact hq.r | exact hq.r.r | exact hq.r.r.r) ⟨_, rfl, ?_⟩)
  refine zz_iconst (3) dX12_sendsIn_34 (by decide) ?_
  refine zz_imul dX12_sendsIn_35 ?_
  refine zz_iret rfl dX12_sendsIn_36 (by decide) (by decide) ?_
  first
    | (rw [show (sp_rans g _) 50 21 = N from hq.r.2.1]; exact h)
    | (rw [show (sp_rans g _) 50 22 = M from hq.r.2.2.1]; exact h)
    | (rw [show (sp_rans (sp_rans g _) _) 50 21 = N from hq.r.r.2.1]; simp only [sp_rans_a, List.cons_append, List.nil_append, List.append_assoc] at h ⊢; exact h)
    | (simp only [sp_rans_a, List.cons_append, List.nil_append, List.append_assoc] at h ⊢; exact h)
    | exact h

set_option maxRecDepth 100000 in
set_option maxHeartbeats 4000000 in
theorem t_X12_sendsIn_2 {C : zz_C} {d n : Nat} {g : zz_G} {r : zz_R} {Q : zz_Q} (hn : 60 ≤ n) (hr : xr r) {k0 : Nat} (hk0 : k0 < 7) {N M x : Int32} (hq : vq g k0 N M) (h : Q (some (.int (x + N))) (sp_rans g [10]) r n) : zz_T C mi_X12_sendsIn (d + 2) 0 0 [.ref 50, .int (2), .int x] g r n Q := by
  refine zz_T.of [some (.ref 50), some (.int (2)), some (.int x)] (by decide +kernel) rfl (Nat.le_of_ble_eq_true rfl) ?_
  refine zz_iload_1 dX12_sendsIn_0 ?_
  refine zz_if_ne 17 dX12_sendsIn_1 (by decide) (fun _ => ?_) (fun h => absurd h (by decide))
  refine zz_iload_1 dX12_sendsIn_17 ?_
  refine zz_iconst (1) dX12_sendsIn_18 (by decide) ?_
  refine zz_icmp_ne 37 dX12_sendsIn_19 (by decide) (fun _ => ?_) (fun h => absurd h (by decide))
  refine zz_aload_0 dX12_sendsIn_37 ?_
  refine zz_iload_1 dX12_sendsIn_38 ?_
  refine zz_callS1i cs_X12_73 (Nat.le_of_ble_eq_true rfl) (by decide) (by decide) dX12_sendsIn_39 (t_X12_above_2 ⟨_, rfl, ?_⟩)
  refine zz_iload_2 dX12_sendsIn_42 ?_
  refine zz_callV2i cv_X12_207 rfl (Nat.lt_of_lt_of_le (by decide) hn) (Nat.le_of_ble_eq_true rfl) (by decide) (by decide) dX12_sendsIn_43 (t_X12_sendsIn_0 hn hr hk0 (by first | exact hq | exact hq.r | exact hq.r.r | exact hq.r.r.r) ⟨_, rfl, ?_⟩)
  refine zz_iret rfl dX12_sendsIn_46 (by decide) (by decide) ?_
  first
    | (rw [show (sp_rans g _) 50 21 = N from hq.r.2.1]; exact h)
    | (rw [show (sp_rans g _) 50 22 = M from hq.r.2.2.1]; exact h)
    | (rw [show (sp_rans (sp_rans g _) _) 50 21 = N from hq.r.r.2.1]; simp only [sp_rans_a, List.cons_append, List.nil_append, List.append_assoc] at h ⊢; exact h)
    | (simp only [sp_rans_a, List.cons_append, List.nil_append, List.append_assoc] at h ⊢; exact h)
    | exact h

set_option maxRecDepth 100000 in
set_option maxHeartbeats 4000000 in
theorem t_X12_sendsIn_3 {C : zz_C} {d n : Nat} {g : zz_G} {r : zz_R} {Q : zz_Q} (hn : 60 ≤ n) (hr : xr r) {k0 : Nat} (hk0 : k0 < 7) {N M x : Int32} (hq : vq g k0 N M) (h : Q (some (.int (x + N))) (sp_rans g [10]) r n) : zz_T C mi_X12_sendsIn (d + 2) 0 0 [.ref 50, .int (3), .int x] g r n Q := by
  refine zz_T.of [some (.ref 50), some (.int (3)), some (.int x)] (by decide +kernel) rfl (Nat.le_of_ble_eq_true rfl) ?_
  refine zz_iload_1 dX12_sendsIn_0 ?_
  refine zz_if_ne 17 dX12_sendsIn_1 (by decide) (fun _ => ?_) (fun h => absurd h (by decide))
  refine zz_iload_1 dX12_sendsIn_17 ?_
  refine zz_iconst (1) dX12_sendsIn_18 (by decide) ?_
  refine zz_icmp_ne 37 dX12_sendsIn_19 (by decide) (fun _ => ?_) (fun h => absurd h (by decide))
  refine zz_aload_0 dX12_sendsIn_37 ?_
  refine zz_iload_1 dX12_sendsIn_38 ?_
  refine zz_callS1i cs_X12_73 (Nat.le_of_ble_eq_true rfl) (by decide) (by decide) dX12_sendsIn_39 (t_X12_above_3 ⟨_, rfl, ?_⟩)
  refine zz_iload_2 dX12_sendsIn_42 ?_
  refine zz_callV2i cv_X12_207 rfl (Nat.lt_of_lt_of_le (by decide) hn) (Nat.le_of_ble_eq_true rfl) (by decide) (by decide) dX12_sendsIn_43 (t_X12_sendsIn_0 hn hr hk0 (by first | exact hq | exact hq.r | exact hq.r.r | exact hq.r.r.r) ⟨_, rfl, ?_⟩)
  refine zz_iret rfl dX12_sendsIn_46 (by decide) (by decide) ?_
  first
    | (rw [show (sp_rans g _) 50 21 = N from hq.r.2.1]; exact h)
    | (rw [show (sp_rans g _) 50 22 = M from hq.r.2.2.1]; exact h)
    | (rw [show (sp_rans (sp_rans g _) _) 50 21 = N from hq.r.r.2.1]; simp only [sp_rans_a, List.cons_append, List.nil_append, List.append_assoc] at h ⊢; exact h)
    | (simp only [sp_rans_a, List.cons_append, List.nil_append, List.append_assoc] at h ⊢; exact h)
    | exact h

set_option maxRecDepth 100000 in
set_option maxHeartbeats 4000000 in
theorem t_X12_sendsIn_4 {C : zz_C} {d n : Nat} {g : zz_G} {r : zz_R} {Q : zz_Q} (hn : 60 ≤ n) (hr : xr r) {k0 : Nat} (hk0 : k0 < 7) {N M x : Int32} (hq : vq g k0 N M) (h : Q (some (.int ((x + N) * 3))) (sp_rans g [20, 10]) r n) : zz_T C mi_X12_sendsIn (d + 3) 0 0 [.ref 50, .int (4), .int x] g r n Q := by
  refine zz_T.of [some (.ref 50), some (.int (4)), some (.int x)] (by decide +kernel) rfl (Nat.le_of_ble_eq_true rfl) ?_
  refine zz_iload_1 dX12_sendsIn_0 ?_
  refine zz_if_ne 17 dX12_sendsIn_1 (by decide) (fun _ => ?_) (fun h => absurd h (by decide))
  refine zz_iload_1 dX12_sendsIn_17 ?_
  refine zz_iconst (1) dX12_sendsIn_18 (by decide) ?_
  refine zz_icmp_ne 37 dX12_sendsIn_19 (by decide) (fun _ => ?_) (fun h => absurd h (by decide))
  refine zz_aload_0 dX12_sendsIn_37 ?_
  refine zz_iload_1 dX12_sendsIn_38 ?_
  refine zz_callS1i cs_X12_73 (Nat.le_of_ble_eq_true rfl) (by decide) (by decide) dX12_sendsIn_39 (t_X12_above_4 ⟨_, rfl, ?_⟩)
  refine zz_iload_2 dX12_sendsIn_42 ?_
  refine zz_callV2i cv_X12_207 rfl (Nat.lt_of_lt_of_le (by decide) hn) (Nat.le_of_ble_eq_true rfl) (by decide) (by decide) dX12_sendsIn_43 (t_X12_sendsIn_1 hn hr hk0 (by first | exact hq | exact hq.r | exact hq.r.r | exact hq.r.r.r) ⟨_, rfl, ?_⟩)
  refine zz_iret rfl dX12_sendsIn_46 (by decide) (by decide) ?_
  first
    | (rw [show (sp_rans g _) 50 21 = N from hq.r.2.1]; exact h)
    | (rw [show (sp_rans g _) 50 22 = M from hq.r.2.2.1]; exact h)
    | (rw [show (sp_rans (sp_rans g _) _) 50 21 = N from hq.r.r.2.1]; simp only [sp_rans_a, List.cons_append, List.nil_append, List.append_assoc] at h ⊢; exact h)
    | (simp only [sp_rans_a, List.cons_append, List.nil_append, List.append_assoc] at h ⊢; exact h)
    | exact h

set_option maxRecDepth 100000 in
set_option maxHeartbeats 4000000 in
theorem t_X12_sendsIn_5 {C : zz_C} {d n : Nat} {g : zz_G} {r : zz_R} {Q : zz_Q} (hn : 60 ≤ n) (hr : xr r) {k0 : Nat} (hk0 : k0 < 7) {N M x : Int32} (hq : vq g k0 N M) (h : Q (some (.int (x + N))) (sp_rans g [10]) r n) : zz_T C mi_X12_sendsIn (d + 3) 0 0 [.ref 50, .int (5), .int x] g r n Q := by
  refine zz_T.of [some (.ref 50), some (.int (5)), some (.int x)] (by decide +kernel) rfl (Nat.le_of_ble_eq_true rfl) ?_
  refine zz_iload_1 dX12_sendsIn_0 ?_
  refine zz_if_ne 17 dX12_sendsIn_1 (by decide) (fun _ => ?_) (fun h => absurd h (by decide))
  refine zz_iload_1 dX12_sendsIn_17 ?_
  refine zz_iconst (1) dX12_sendsIn_18 (by decide) ?_
  refine zz_icmp_ne 37 dX12_sendsIn_19 (by decide) (fun _ => ?_) (fun h => absurd h (by decide))
  refine zz_aload_0 dX12_sendsIn_37 ?_
  refine zz_iload_1 dX12_sendsIn_38 ?_
  refine zz_callS1i cs_X12_73 (Nat.le_of_ble_eq_true rfl) (by decide) (by decide) dX12_sendsIn_39 (t_X12_above_5 ⟨_, rfl, ?_⟩)
  refine zz_iload_2 dX12_sendsIn_42 ?_
  refine zz_callV2i cv_X12_207 rfl (Nat.lt_of_lt_of_le (by decide) hn) (Nat.le_of_ble_eq_true rfl) (by decide) (by decide) dX12_sendsIn_43 (t_X12_sendsIn_2 hn hr hk0 (by first | exact hq | exact hq.r | exact hq.r.r | exact hq.r.r.r) ⟨_, rfl, ?_⟩)
  refine zz_iret rfl dX12_sendsIn_46 (by decide) (by decide) ?_
  first
    | (rw [show (sp_rans g _) 50 21 = N from hq.r.2.1]; exact h)
    | (rw [show (sp_rans g _) 50 22 = M from hq.r.2.2.1]; exact h)
    | (rw [show (sp_rans (sp_rans g _) _) 50 21 = N from hq.r.r.2.1]; simp only [sp_rans_a, List.cons_append, List.nil_append, List.append_assoc] at h ⊢; exact h)
    | (simp only [sp_rans_a, List.cons_append, List.nil_append, List.append_assoc] at h ⊢; exact h)
    | exact h

set_option maxRecDepth 100000 in
set_option maxHeartbeats 4000000 in
theorem t_X12_sendsIn_6 {C : zz_C} {d n : Nat} {g : zz_G} {r : zz_R} {Q : zz_Q} (hn : 60 ≤ n) (hr : xr r) {k0 : Nat} (hk0 : k0 < 7) {N M x : Int32} (hq : vq g k0 N M) (h : Q (some (.int (x + N))) (sp_rans g [10]) r n) : zz_T C mi_X12_sendsIn (d + 3) 0 0 [.ref 50, .int (6), .int x] g r n Q := by
  refine zz_T.of [some (.ref 50), some (.int (6)), some (.int x)] (by decide +kernel) rfl (Nat.le_of_ble_eq_true rfl) ?_
  refine zz_iload_1 dX12_sendsIn_0 ?_
  refine zz_if_ne 17 dX12_sendsIn_1 (by decide) (fun _ => ?_) (fun h => absurd h (by decide))
  refine zz_iload_1 dX12_sendsIn_17 ?_
  refine zz_iconst (1) dX12_sendsIn_18 (by decide) ?_
  refine zz_icmp_ne 37 dX12_sendsIn_19 (by decide) (fun _ => ?_) (fun h => absurd h (by decide))
  refine zz_aload_0 dX12_sendsIn_37 ?_
  refine zz_iload_1 dX12_sendsIn_38 ?_
  refine zz_callS1i cs_X12_73 (Nat.le_of_ble_eq_true rfl) (by decide) (by decide) dX12_sendsIn_39 (t_X12_above_6 ⟨_, rfl, ?_⟩)
  refine zz_iload_2 dX12_sendsIn_42 ?_
  refine zz_callV2i cv_X12_207 rfl (Nat.lt_of_lt_of_le (by decide) hn) (Nat.le_of_ble_eq_true rfl) (by decide) (by decide) dX12_sendsIn_43 (t_X12_sendsIn_3 hn hr hk0 (by first | exact hq | exact hq.r | exact hq.r.r | exact hq.r.r.r) ⟨_, rfl, ?_⟩)
  refine zz_iret rfl dX12_sendsIn_46 (by decide) (by decide) ?_
  first
    | (rw [show (sp_rans g _) 50 21 = N from hq.r.2.1]; exact h)
    | (rw [show (sp_rans g _) 50 22 = M from hq.r.2.2.1]; exact h)
    | (rw [show (sp_rans (sp_rans g _) _) 50 21 = N from hq.r.r.2.1]; simp only [sp_rans_a, List.cons_append, List.nil_append, List.append_assoc] at h ⊢; exact h)
    | (simp only [sp_rans_a, List.cons_append, List.nil_append, List.append_assoc] at h ⊢; exact h)
    | exact h

theorem t_X12_sendsIn {C : zz_C} {d n : Nat} {g : zz_G} {r : zz_R} {Q : zz_Q} (hn : 60 ≤ n) (hr : xr r) {k0 : Nat} (hk0 : k0 < 7) {N M x kv : Int32} (k : Nat) (hk : k < 7) (hkv : kv = nI k) (hq : vq g k0 N M) (h : Q (some (.int (vs_v N x k))) (sp_rans g (vs_l k)) r n) : zz_T C mi_X12_sendsIn (d + 3) 0 0 [.ref 50, .int kv, .int x] g r n Q := by
  subst hkv
  match k, hk, h with
  | 0, _, h => exact t_X12_sendsIn_0 (d := d + 2) hn hr hk0 hq h
  | 1, _, h => exact t_X12_sendsIn_1 (d := d + 1) hn hr hk0 hq h
  | 2, _, h => exact t_X12_sendsIn_2 (d := d + 1) hn hr hk0 hq h
  | 3, _, h => exact t_X12_sendsIn_3 (d := d + 1) hn hr hk0 hq h
  | 4, _, h => exact t_X12_sendsIn_4 (d := d + 0) hn hr hk0 hq h
  | 5, _, h => exact t_X12_sendsIn_5 (d := d + 0) hn hr hk0 hq h
  | 6, _, h => exact t_X12_sendsIn_6 (d := d + 0) hn hr hk0 hq h
  | k + 7, hk, _ => omega

set_option maxRecDepth 100000 in
set_option maxHeartbeats 4000000 in
theorem t_X12_shutsIn_0 {C : zz_C} {d n : Nat} {g : zz_G} {r : zz_R} {Q : zz_Q} (hn : 60 ≤ n) (hr : xr r) {k0 : Nat} (hk0 : k0 < 7) {N M x : Int32} (hq : vq g k0 N M) (h : Q (some (.int (x - M))) (sp_rans g [12]) r n) : zz_T C mi_X12_shutsIn (d + 1) 0 0 [.ref 50, .int (0), .int x] g r n Q := by
  refine zz_T.of [some (.ref 50), some (.int (0)), some (.int x)] (by decide +kernel) rfl (Nat.le_of_ble_eq_true rfl) ?_
  refine zz_iload_1 dX12_shutsIn_0 ?_
  refine zz_if_ne 17 dX12_shutsIn_1 (by decide) (fun h => absurd h (by decide)) (fun _ => ?_)
  refine zz_aload_0 dX12_shutsIn_4 ?_
  refine zz_bipush (12) dX12_shutsIn_5 (by decide) ?_
  refine zz_callV1v cv_X12_200 rfl (Nat.lt_of_lt_of_le (by decide) hn) (Nat.le_of_ble_eq_true rfl) (by decide) (by decide) dX12_shutsIn_7 (t_X12_ran hn hr (by first | exact hq.2.2.2 | exact hq.r.2.2.2 | exact hq.r.r.2.2.2 | exact hq.r.r.r.2.2.2) ⟨rfl, ?_⟩)
  refine zz_iload_2 dX12_shutsIn_10 ?_
  refine zz_aload_0 dX12_shutsIn_11 ?_
  refine zz_getI fl_X12_210 rfl rfl (Nat.lt_of_lt_of_le (by decide) hn) dX12_shutsIn_12 ?_
  refine zz_isub dX12_shutsIn_15 ?_
  refine zz_iret rfl dX12_shutsIn_16 (by decide) (by decide) ?_
  first
    | (rw [show (sp_rans g _) 50 21 = N from hq.r.2.1]; exact h)
    | (rw [show (sp_rans g _) 50 22 = M from hq.r.2.2.1]; exact h)
    | (rw [show (sp_rans (sp_rans g _) _) 50 21 = N from hq.r.r.2.1]; simp only [sp_rans_a, List.cons_append, List.nil_append, List.append_assoc] at h ⊢; exact h)
    | (simp only [sp_rans_a, List.cons_append, List.nil_append, List.append_assoc] at h ⊢; exact h)
    | exact h

set_option maxRecDepth 100000 in
set_option maxHeartbeats 4000000 in
theorem t_X12_shutsIn_1 {C : zz_C} {d n : Nat} {g : zz_G} {r : zz_R} {Q : zz_Q} (hn : 60 ≤ n) (hr : xr r) {k0 : Nat} (hk0 : k0 < 7) {N M x : Int32} (hq : vq g k0 N M) (h : Q (some (.int (x - M))) (sp_rans g [12]) r n) : zz_T C mi_X12_shutsIn (d + 2) 0 0 [.ref 50, .int (1), .int x] g r n Q := by
  refine zz_T.of [some (.ref 50), some (.int (1)), some (.int x)] (by decide +kernel) rfl (Nat.le_of_ble_eq_true rfl) ?_
  refine zz_iload_1 dX12_shutsIn_0 ?_
  refine zz_if_ne 17 dX12_shutsIn_1 (by decide) (fun _ => ?_) (fun h => absurd h (by decide))
  refine zz_iload_1 dX12_shutsIn_17 ?_
  refine zz_iconst (3) dX12_shutsIn_18 (by decide) ?_
  refine zz_icmp_ne 36 dX12_shutsIn_19 (by decide) (fun _ => ?_) (fun h => absurd h (by decide))
  refine zz_iload_1 dX12_shutsIn_36 ?_
  refine zz_bipush (6) dX12_shutsIn_37 (by decide) ?_
  refine zz_icmp_ne 60 dX12_shutsIn_39 (by decide) (fun _ => ?_) (fun h => absurd h (by decide))
  refine zz_aload_0 dX12_shutsIn_60 ?_
  refine zz_iload_1 dX12_shutsIn_61 ?_
  refine zz_callS1i cs_X12_73 (Nat.le_of_ble_eq_true rfl) (by decide) (by decide) dX12_shutsIn_62 (t_X12_above_1 ⟨_, rfl, ?_⟩)
  refine zz_iload_2 dX12_shutsIn_65 ?_
  refine zz_callV2i cv_X12_213 rfl (Nat.lt_of_lt_of_le (by decide) hn) (Nat.le_of_ble_eq_true rfl) (by decide) (by decide) dX12_shutsIn_66 (t_X12_shutsIn_0 hn hr hk0 (by first | exact hq | exact hq.r | exact hq.r.r | exact hq.r.r.r) ⟨_, rfl, ?_⟩)
  refine zz_iret rfl dX12_shutsIn_69 (by decide) (by decide) ?_
  first
    | (rw [show (sp_rans g _) 50 21 = N from hq.r.2.1]; exact h)
    | (rw [show (sp_rans g _) 50 22 = M from hq.r.2.2.1]; exact h)
    | (rw [show (sp_rans (sp_rans g _) _) 50 21 = N from hq.r.r.2.1]; simp only [sp_rans_a, List.cons_append, List.nil_append, List.append_assoc] at h ⊢; exact h)
    | (simp only [sp_rans_a, List.cons_append, List.nil_append, List.append_assoc] at h ⊢; exact h)
    | exact h

set_option maxRecDepth 100000 in
set_option maxHeartbeats 4000000 in
theorem t_X12_shutsIn_2 {C : zz_C} {d n : Nat} {g : zz_G} {r : zz_R} {Q : zz_Q} (hn : 60 ≤ n) (hr : xr r) {k0 : Nat} (hk0 : k0 < 7) {N M x : Int32} (hq : vq g k0 N M) (h : Q (some (.int (x - M))) (sp_rans g [12]) r n) : zz_T C mi_X12_shutsIn (d + 2) 0 0 [.ref 50, .int (2), .int x] g r n Q := by
  refine zz_T.of [some (.ref 50), some (.int (2)), some (.int x)] (by decide +kernel) rfl (Nat.le_of_ble_eq_true rfl) ?_
  refine zz_iload_1 dX12_shutsIn_0 ?_
  refine zz_if_ne 17 dX12_shutsIn_1 (by decide) (fun _ => ?_) (fun h => absurd h (by decide))
  refine zz_iload_1 dX12_shutsIn_17 ?_
  refine zz_iconst (3) dX12_shutsIn_18 (by decide) ?_
  refine zz_icmp_ne 36 dX12_shutsIn_19 (by decide) (fun _ => ?_) (fun h => absurd h (by decide))
  refine zz_iload_1 dX12_shutsIn_36 ?_
  refine zz_bipush (6) dX12_shutsIn_37 (by decide) ?_
  refine zz_icmp_ne 60 dX12_shutsIn_39 (by decide) (fun _ => ?_) (fun h => absurd h (by decide))
  refine zz_aload_0 dX12_shutsIn_60 ?_
  refine zz_iload_1 dX12_shutsIn_61 ?_
  refine zz_callS1i cs_X12_73 (Nat.le_of_ble_eq_true rfl) (by decide) (by decide) dX12_shutsIn_62 (t_X12_above_2 ⟨_, rfl, ?_⟩)
  refine zz_iload_2 dX12_shutsIn_65 ?_
  refine zz_callV2i cv_X12_213 rfl (Nat.lt_of_lt_of_le (by decide) hn) (Nat.le_of_ble_eq_true rfl) (by decide) (by decide) dX12_shutsIn_66 (t_X12_shutsIn_0 hn hr hk0 (by first | exact hq | exact hq.r | exact hq.r.r | exact hq.r.r.r) ⟨_, rfl, ?_⟩)
  refine zz_iret rfl dX12_shutsIn_69 (by decide) (by decide) ?_
  first
    | (rw [show (sp_rans g _) 50 21 = N from hq.r.2.1]; exact h)
    | (rw [show (sp_rans g _) 50 22 = M from hq.r.2.2.1]; exact h)
    | (rw [show (sp_rans (sp_rans g _) _) 50 21 = N from hq.r.r.2.1]; simp only [sp_rans_a, List.cons_append, List.nil_append, List.append_assoc] at h ⊢; exact h)
    | (simp only [sp_rans_a, List.cons_append, List.nil_append, List.append_assoc] at h ⊢; exact h)
    | exact h

set_option maxRecDepth 100000 in
set_option maxHeartbeats 4000000 in
theorem t_X12_shutsIn_3 {C : zz_C} {d n : Nat} {g : zz_G} {r : zz_R} {Q : zz_Q} (hn : 60 ≤ n) (hr : xr r) {k0 : Nat} (hk0 : k0 < 7) {N M x : Int32} (hq : vq g k0 N M) (h : Q (some (.int (-(x - M)))) (sp_rans g [40, 12]) r n) : zz_T C mi_X12_shutsIn (d + 2) 0 0 [.ref 50, .int (3), .int x] g r n Q := by
  refine zz_T.of [some (.ref 50), some (.int (3)), some (.int x)] (by decide +kernel) rfl (Nat.le_of_ble_eq_true rfl) ?_
  refine zz_iload_1 dX12_shutsIn_0 ?_
  refine zz_if_ne 17 dX12_shutsIn_1 (by decide) (fun _ => ?_) (fun h => absurd h (by decide))
  refine zz_iload_1 dX12_shutsIn_17 ?_
  refine zz_iconst (3) dX12_shutsIn_18 (by decide) ?_
  refine zz_icmp_ne 36 dX12_shutsIn_19 (by decide) (fun h => absurd h (by decide)) (fun _ => ?_)
  refine zz_aload_0 dX12_shutsIn_22 ?_
  refine zz_bipush (40) dX12_shutsIn_23 (by decide) ?_
  refine zz_callV1v cv_X12_200 rfl (Nat.lt_of_lt_of_le (by decide) hn) (Nat.le_of_ble_eq_true rfl) (by decide) (by decide) dX12_shutsIn_25 (t_X12_ran hn hr (by first | exact hq.2.2.2 | exact hq.r.2.2.2 | exact hq.r.r.2.2.2 | exact hq.r.r.r.2.2.2) ⟨rfl, ?_⟩)
  refine zz_aload_0 dX12_shutsIn_28 ?_
  refine zz_iconst (0) dX12_shutsIn_29 (by decide) ?_
  refine zz_iload_2 dX12_shutsIn_30 ?_
  refine zz_callV2i cv_X12_213 rfl (Nat.lt_of_lt_of_le (by decide) hn) (Nat.le_of_ble_eq_true rfl) (by decide) (by decide) dX12_shutsIn_31 (t_X12_shutsIn_0 hn hr hk0 (by first | exact hq | exact hq.r | exact hq.r.r | exact hq.r.r.r) ⟨_, rfl, ?_⟩)
  refine zz_ineg dX12_shutsIn_34 ?_
  refine zz_iret rfl dX12_shutsIn_35 (by decide) (by decide) ?_
  first
    | (rw [show (sp_rans g _) 50 21 = N from hq.r.2.1]; exact h)
    | (rw [show (sp_rans g _) 50 22 = M from hq.r.2.2.1]; exact h)
    | (rw [show (sp_rans (sp_rans g _) _) 50 21 = N from hq.r.r.2.1]; simp only [sp_rans_a, List.cons_append, List.nil_append, List.append_assoc] at h ⊢; exact h)
    | (simp only [sp_rans_a, List.cons_append, List.nil_append, List.append_assoc] at h ⊢; exact h)
    | exact h

set_option maxRecDepth 100000 in
set_option maxHeartbeats 4000000 in
theorem t_X12_shutsIn_4 {C : zz_C} {d n : Nat} {g : zz_G} {r : zz_R} {Q : zz_Q} (hn : 60 ≤ n) (hr : xr r) {k0 : Nat} (hk0 : k0 < 7) {N M x : Int32} (hq : vq g k0 N M) (h : Q (some (.int (x - M))) (sp_rans g [12]) r n) : zz_T C mi_X12_shutsIn (d + 3) 0 0 [.ref 50, .int (4), .int x] g r n Q := by
  refine zz_T.of [some (.ref 50), some (.int (4)), some (.int x)] (by decide +kernel) rfl (Nat.le_of_ble_eq_true rfl) ?_
  refine zz_iload_1 dX12_shutsIn_0 ?_
  refine zz_if_ne 17 dX12_shutsIn_1 (by decide) (fun _ => ?_) (fun h => absurd h (by decide))
  refine zz_iload_1 dX12_shutsIn_17 ?_
  refine zz_iconst (3) dX12_shutsIn_18 (by decide) ?_
  refine zz_icmp_ne 36 dX12_shutsIn_19 (by decide) (fun _ => ?_) (fun h => absurd h (by decide))
  refine zz_iload_1 dX12_shutsIn_36 ?_
  refine zz_bipush (6) dX12_shutsIn_37 (by decide) ?_
  refine zz_icmp_ne 60 dX12_shutsIn_39 (by decide) (fun _ => ?_) (fun h => absurd h (by decide))
  refine zz_aload_0 dX12_shutsIn_60 ?_
  refine zz_iload_1 dX12_shutsIn_61 ?_
  refine zz_callS1i cs_X12_73 (Nat.le_of_ble_eq_true rfl) (by decide) (by decide) dX12_shutsIn_62 (t_X12_above_4 ⟨_, rfl, ?_⟩)
  refine zz_iload_2 dX12_shutsIn_65 ?_
  refine zz_callV2i cv_X12_213 rfl (Nat.lt_of_lt_of_le (by decide) hn) (Nat.le_of_ble_eq_true rfl) (by decide) (by decide) dX12_shutsIn_66 (t_X12_shutsIn_1 hn hr hk0 (by first | exact hq | exact hq.r | exact hq.r.r | exact hq.r.r.r) ⟨_, rfl, ?_⟩)
  refine zz_iret rfl dX12_shutsIn_69 (by decide) (by decide) ?_
  first
    | (rw [show (sp_rans g _) 50 21 = N from hq.r.2.1]; exact h)
    | (rw [show (sp_rans g _) 50 22 = M from hq.r.2.2.1]; exact h)
    | (rw [show (sp_rans (sp_rans g _) _) 50 21 = N from hq.r.r.2.1]; simp only [sp_rans_a, List.cons_append, List.nil_append, List.append_assoc] at h ⊢; exact h)
    | (simp only [sp_rans_a, List.cons_append, List.nil_append, List.append_assoc] at h ⊢; exact h)
    | exact h

set_option maxRecDepth 100000 in
set_option maxHeartbeats 4000000 in
theorem t_X12_shutsIn_5 {C : zz_C} {d n : Nat} {g : zz_G} {r : zz_R} {Q : zz_Q} (hn : 60 ≤ n) (hr : xr r) {k0 : Nat} (hk0 : k0 < 7) {N M x : Int32} (hq : vq g k0 N M) (h : Q (some (.int (x - M))) (sp_rans g [12]) r n) : zz_T C mi_X12_shutsIn (d + 3) 0 0 [.ref 50, .int (5), .int x] g r n Q := by
  refine zz_T.of [some (.ref 50), some (.int (5)), some (.int x)] (by decide +kernel) rfl (Nat.le_of_ble_eq_true rfl) ?_
  refine zz_iload_1 dX12_shutsIn_0 ?_
  refine zz_if_ne 17 dX12_shutsIn_1 (by decide) (fun _ => ?_) (fun h => absurd h (by decide))
  refine zz_iload_1 dX12_shutsIn_17 ?_
  refine zz_iconst (3) dX12_shutsIn_18 (by decide) ?_
  refine zz_icmp_ne 36 dX12_shutsIn_19 (by decide) (fun _ => ?_) (fun h => absurd h (by decide))
  refine zz_iload_1 dX12_shutsIn_36 ?_
  refine zz_bipush (6) dX12_shutsIn_37 (by decide) ?_
  refine zz_icmp_ne 60 dX12_shutsIn_39 (by decide) (fun _ => ?_) (fun h => absurd h (by decide))
  refine zz_aload_0 dX12_shutsIn_60 ?_
  refine zz_iload_1 dX12_shutsIn_61 ?_
  refine zz_callS1i cs_X12_73 (Nat.le_of_ble_eq_true rfl) (by decide) (by decide) dX12_shutsIn_62 (t_X12_above_5 ⟨_, rfl, ?_⟩)
  refine zz_iload_2 dX12_shutsIn_65 ?_
  refine zz_callV2i cv_X12_213 rfl (Nat.lt_of_lt_of_le (by decide) hn) (Nat.le_of_ble_eq_true rfl) (by decide) (by decide) dX12_shutsIn_66 (t_X12_shutsIn_2 hn hr hk0 (by first | exact hq | exact hq.r | exact hq.r.r | exact hq.r.r.r) ⟨_, rfl, ?_⟩)
  refine zz_iret rfl dX12_shutsIn_69 (by decide) (by decide) ?_
  first
    | (rw [show (sp_rans g _) 50 21 = N from hq.r.2.1]; exact h)
    | (rw [show (sp_rans g _) 50 22 = M from hq.r.2.2.1]; exact h)
    | (rw [show (sp_rans (sp_rans g _) _) 50 21 = N from hq.r.r.2.1]; simp only [sp_rans_a, List.cons_append, List.nil_append, List.append_assoc] at h ⊢; exact h)
    | (simp only [sp_rans_a, List.cons_append, List.nil_append, List.append_assoc] at h ⊢; exact h)
    | exact h

set_option maxRecDepth 100000 in
set_option maxHeartbeats 4000000 in
theorem t_X12_shutsIn_6 {C : zz_C} {d n : Nat} {g : zz_G} {r : zz_R} {Q : zz_Q} (hn : 60 ≤ n) (hr : xr r) {k0 : Nat} (hk0 : k0 < 7) {N M x : Int32} (hq : vq g k0 N M) (h : Q (some (.int (-(x - M) ^^^ N))) (sp_rans g [70, 40, 12]) r n) : zz_T C mi_X12_shutsIn (d + 3) 0 0 [.ref 50, .int (6), .int x] g r n Q := by
  refine zz_T.of [some (.ref 50), some (.int (6)), some (.int x)] (by decide +kernel) rfl (Nat.le_of_ble_eq_true rfl) ?_
  refine zz_iload_1 dX12_shutsIn_0 ?_
  refine zz_if_ne 17 dX12_shutsIn_1 (by decide) (fun _ => ?_) (fun h => absurd h (by decide))
  refine zz_iload_1 dX12_shutsIn_17 ?_
  refine zz_iconst (3) dX12_shutsIn_18 (by decide) ?_
  refine zz_icmp_ne 36 dX12_shutsIn_19 (by decide) (fun _ => ?_) (fun h => absurd h (by decide))
  refine zz_iload_1 dX12_shutsIn_36 ?_
  refine zz_bipush (6) dX12_shutsIn_37 (by decide) ?_
  refine zz_icmp_ne 60 dX12_shutsIn_39 (by decide) (fun h => absurd h (by decide)) (fun _ => ?_)
  refine zz_aload_0 dX12_shutsIn_42 ?_
  refine zz_bipush (70) dX12_shutsIn_43 (by decide) ?_
  refine zz_callV1v cv_X12_200 rfl (Nat.lt_of_lt_of_le (by decide) hn) (Nat.le_of_ble_eq_true rfl) (by decide) (by decide) dX12_shutsIn_45 (t_X12_ran hn hr (by first | exact hq.2.2.2 | exact hq.r.2.2.2 | exact hq.r.r.2.2.2 | exact hq.r.r.r.2.2.2) ⟨rfl, ?_⟩)
  refine zz_aload_0 dX12_shutsIn_48 ?_
  refine zz_iconst (3) dX12_shutsIn_49 (by decide) ?_
  refine zz_iload_2 dX12_shutsIn_50 ?_
  refine zz_callV2i cv_X12_213 rfl (Nat.lt_of_lt_of_le (by decide) hn) (Nat.le_of_ble_eq_true rfl) (by decide) (by decide) dX12_shutsIn_51 (t_X12_shutsIn_3 hn hr hk0 (by first | exact hq | exact hq.r | exact hq.r.r | exact hq.r.r.r) ⟨_, rfl, ?_⟩)
  refine zz_aload_0 dX12_shutsIn_54 ?_
  refine zz_getI fl_X12_204 rfl rfl (Nat.lt_of_lt_of_le (by decide) hn) dX12_shutsIn_55 ?_
  refine zz_ixor dX12_shutsIn_58 ?_
  refine zz_iret rfl dX12_shutsIn_59 (by decide) (by decide) ?_
  first
    | (rw [show (sp_rans g _) 50 21 = N from hq.r.2.1]; exact h)
    | (rw [show (sp_rans g _) 50 22 = M from hq.r.2.2.1]; exact h)
    | (rw [show (sp_rans (sp_rans g _) _) 50 21 = N from hq.r.r.2.1]; simp only [sp_rans_a, List.cons_append, List.nil_append, List.append_assoc] at h ⊢; exact h)
    | (simp only [sp_rans_a, List.cons_append, List.nil_append, List.append_assoc] at h ⊢; exact h)
    | exact h

theorem t_X12_shutsIn {C : zz_C} {d n : Nat} {g : zz_G} {r : zz_R} {Q : zz_Q} (hn : 60 ≤ n) (hr : xr r) {k0 : Nat} (hk0 : k0 < 7) {N M x kv : Int32} (k : Nat) (hk : k < 7) (hkv : kv = nI k) (hq : vq g k0 N M) (h : Q (some (.int (vh_v N M x k))) (sp_rans g (vh_l k)) r n) : zz_T C mi_X12_shutsIn (d + 3) 0 0 [.ref 50, .int kv, .int x] g r n Q := by
  subst hkv
  match k, hk, h with
  | 0, _, h => exact t_X12_shutsIn_0 (d := d + 2) hn hr hk0 hq h
  | 1, _, h => exact t_X12_shutsIn_1 (d := d + 1) hn hr hk0 hq h
  | 2, _, h => exact t_X12_shutsIn_2 (d := d + 1) hn hr hk0 hq h
  | 3, _, h => exact t_X12_shutsIn_3 (d := d + 1) hn hr hk0 hq h
  | 4, _, h => exact t_X12_shutsIn_4 (d := d + 0) hn hr hk0 hq h
  | 5, _, h => exact t_X12_shutsIn_5 (d := d + 0) hn hr hk0 hq h
  | 6, _, h => exact t_X12_shutsIn_6 (d := d + 0) hn hr hk0 hq h
  | k + 7, hk, _ => omega

set_option maxRecDepth 100000 in
set_option maxHeartbeats 4000000 in
theorem t_X12_holdsIn_0 {C : zz_C} {d n : Nat} {g : zz_G} {r : zz_R} {Q : zz_Q} (hn : 60 ≤ n) (hr : xr r) {k0 : Nat} (hk0 : k0 < 7) {N M x : Int32} (hq : vq g k0 N M) (h : Q (some (.int (vs_v N x k0 * 2))) (sp_rans g (11 :: vs_l k0)) r n) : zz_T C mi_X12_holdsIn (d + 4) 0 0 [.ref 50, .int (0), .int x] g r n Q := by
  refine zz_T.of [some (.ref 50), some (.int (0)), some (.int x), none] (by decide +kernel) rfl (Nat.le_of_ble_eq_true rfl) ?_
  refine zz_iload_1 dX12_holdsIn_0 ?_
  refine zz_if_ne 22 dX12_holdsIn_1 (by decide) (fun h => absurd h (by decide)) (fun _ => ?_)
  refine zz_aload_0 dX12_holdsIn_4 ?_
  refine zz_bipush (11) dX12_holdsIn_5 (by decide) ?_
  refine zz_callV1v cv_X12_200 rfl (Nat.lt_of_lt_of_le (by decide) hn) (Nat.le_of_ble_eq_true rfl) (by decide) (by decide) dX12_holdsIn_7 (t_X12_ran hn hr (by first | exact hq.2.2.2 | exact hq.r.2.2.2 | exact hq.r.r.2.2.2 | exact hq.r.r.r.2.2.2) ⟨rfl, ?_⟩)
  refine zz_aload_0 dX12_holdsIn_10 ?_
  refine zz_aload_0 dX12_holdsIn_11 ?_
  refine zz_getI fl_X12_216 rfl rfl (Nat.lt_of_lt_of_le (by decide) hn) dX12_holdsIn_12 ?_
  refine zz_iload_2 dX12_holdsIn_15 ?_
  refine zz_callV2i cv_X12_207 rfl (Nat.lt_of_lt_of_le (by decide) hn) (Nat.le_of_ble_eq_true rfl) (by decide) (by decide) dX12_holdsIn_16 (t_X12_sendsIn hn hr hk0 k0 hk0 (by first | exact hq.1 | exact hq.r.1 | exact hq.r.r.1 | exact hq.r.r.r.1) (by first | exact hq | exact hq.r | exact hq.r.r | exact hq.r.r.r) ⟨_, rfl, ?_⟩)
  refine zz_iconst (2) dX12_holdsIn_19 (by decide) ?_
  refine zz_imul dX12_holdsIn_20 ?_
  refine zz_iret rfl dX12_holdsIn_21 (by decide) (by decide) ?_
  first
    | (rw [show (sp_rans g _) 50 21 = N from hq.r.2.1]; exact h)
    | (rw [show (sp_rans g _) 50 22 = M from hq.r.2.2.1]; exact h)
    | (rw [show (sp_rans (sp_rans g _) _) 50 21 = N from hq.r.r.2.1]; simp only [sp_rans_a, List.cons_append, List.nil_append, List.append_assoc] at h ⊢; exact h)
    | (simp only [sp_rans_a, List.cons_append, List.nil_append, List.append_assoc] at h ⊢; exact h)
    | exact h

set_option maxRecDepth 100000 in
set_option maxHeartbeats 4000000 in
theorem t_X12_holdsIn_1 {C : zz_C} {d n : Nat} {g : zz_G} {r : zz_R} {Q : zz_Q} (hn : 60 ≤ n) (hr : xr r) {k0 : Nat} (hk0 : k0 < 7) {N M x : Int32} (hq : vq g k0 N M) (h : Q (some (.int (vs_v N x k0 * 2))) (sp_rans g (11 :: vs_l k0)) r n) : zz_T C mi_X12_holdsIn (d + 5) 0 0 [.ref 50, .int (1), .int x] g r n Q := by
  refine zz_T.of [some (.ref 50), some (.int (1)), some (.int x), none] (by decide +kernel) rfl (Nat.le_of_ble_eq_true rfl) ?_
  refine zz_iload_1 dX12_holdsIn_0 ?_
  refine zz_if_ne 22 dX12_holdsIn_1 (by decide) (fun _ => ?_) (fun h => absurd h (by decide))
  refine zz_iload_1 dX12_holdsIn_22 ?_
  refine zz_iconst (2) dX12_holdsIn_23 (by decide) ?_
  refine zz_icmp_ne 52 dX12_holdsIn_24 (by decide) (fun _ => ?_) (fun h => absurd h (by decide))
  refine zz_iload_1 dX12_holdsIn_52 ?_
  refine zz_iconst (5) dX12_holdsIn_53 (by decide) ?_
  refine zz_icmp_ne 72 dX12_holdsIn_54 (by decide) (fun _ => ?_) (fun h => absurd h (by decide))
  refine zz_aload_0 dX12_holdsIn_72 ?_
  refine zz_iload_1 dX12_holdsIn_73 ?_
  refine zz_callS1i cs_X12_73 (Nat.le_of_ble_eq_true rfl) (by decide) (by decide) dX12_holdsIn_74 (t_X12_above_1 ⟨_, rfl, ?_⟩)
  refine zz_iload_2 dX12_holdsIn_77 ?_
  refine zz_callV2i cv_X12_219 rfl (Nat.lt_of_lt_of_le (by decide) hn) (Nat.le_of_ble_eq_true rfl) (by decide) (by decide) dX12_holdsIn_78 (t_X12_holdsIn_0 hn hr hk0 (by first | exact hq | exact hq.r | exact hq.r.r | exact hq.r.r.r) ⟨_, rfl, ?_⟩)
  refine zz_iret rfl dX12_holdsIn_81 (by decide) (by decide) ?_
  first
    | (rw [show (sp_rans g _) 50 21 = N from hq.r.2.1]; exact h)
    | (rw [show (sp_rans g _) 50 22 = M from hq.r.2.2.1]; exact h)
    | (rw [show (sp_rans (sp_rans g _) _) 50 21 = N from hq.r.r.2.1]; simp only [sp_rans_a, List.cons_append, List.nil_append, List.append_assoc] at h ⊢; exact h)
    | (simp only [sp_rans_a, List.cons_append, List.nil_append, List.append_assoc] at h ⊢; exact h)
    | exact h

set_option maxRecDepth 100000 in
set_option maxHeartbeats 4000000 in
theorem t_X12_holdsIn_2 {C : zz_C} {d n : Nat} {g : zz_G} {r : zz_R} {Q : zz_Q} (hn : 60 ≤ n) (hr : xr r) {k0 : Nat} (hk0 : k0 < 7) {N M x : Int32} (hq : vq g k0 N M) (h : Q (some (.int (vs_v N x k0 * 2 - vh_v N M 1 k0))) (sp_rans g (30 :: 11 :: (vs_l k0 ++ vh_l k0))) r n) : zz_T C mi_X12_holdsIn (d + 5) 0 0 [.ref 50, .int (2), .int x] g r n Q := by
  refine zz_T.of [some (.ref 50), some (.int (2)), some (.int x), none] (by decide +kernel) rfl (Nat.le_of_ble_eq_true rfl) ?_
  refine zz_iload_1 dX12_holdsIn_0 ?_
  refine zz_if_ne 22 dX12_holdsIn_1 (by decide) (fun _ => ?_) (fun h => absurd h (by decide))
  refine zz_iload_1 dX12_holdsIn_22 ?_
  refine zz_iconst (2) dX12_holdsIn_23 (by decide) ?_
  refine zz_icmp_ne 52 dX12_holdsIn_24 (by decide) (fun h => absurd h (by decide)) (fun _ => ?_)
  refine zz_aload_0 dX12_holdsIn_27 ?_
  refine zz_bipush (30) dX12_holdsIn_28 (by decide) ?_
  refine zz_callV1v cv_X12_200 rfl (Nat.lt_of_lt_of_le (by decide) hn) (Nat.le_of_ble_eq_true rfl) (by decide) (by decide) dX12_holdsIn_30 (t_X12_ran hn hr (by first | exact hq.2.2.2 | exact hq.r.2.2.2 | exact hq.r.r.2.2.2 | exact hq.r.r.r.2.2.2) ⟨rfl, ?_⟩)
  refine zz_aload_0 dX12_holdsIn_33 ?_
  refine zz_iconst (0) dX12_holdsIn_34 (by decide) ?_
  refine zz_iload_2 dX12_holdsIn_35 ?_
  refine zz_callV2i cv_X12_219 rfl (Nat.lt_of_lt_of_le (by decide) hn) (Nat.le_of_ble_eq_true rfl) (by decide) (by decide) dX12_holdsIn_36 (t_X12_holdsIn_0 hn hr hk0 (by first | exact hq | exact hq.r | exact hq.r.r | exact hq.r.r.r) ⟨_, rfl, ?_⟩)
  refine zz_istore_3 dX12_holdsIn_39 rfl rfl ?_
  refine zz_iload_3 dX12_holdsIn_40 ?_
  refine zz_aload_0 dX12_holdsIn_41 ?_
  refine zz_aload_0 dX12_holdsIn_42 ?_
  refine zz_getI fl_X12_216 rfl rfl (Nat.lt_of_lt_of_le (by decide) hn) dX12_holdsIn_43 ?_
  refine zz_iconst (1) dX12_holdsIn_46 (by decide) ?_
  refine zz_callV2i cv_X12_213 rfl (Nat.lt_of_lt_of_le (by decide) hn) (Nat.le_of_ble_eq_true rfl) (by decide) (by decide) dX12_holdsIn_47 (t_X12_shutsIn hn hr hk0 k0 hk0 (by first | exact hq.1 | exact hq.r.1 | exact hq.r.r.1 | exact hq.r.r.r.1) (by first | exact hq | exact hq.r | exact hq.r.r | exact hq.r.r.r) ⟨_, rfl, ?_⟩)
  refine zz_isub dX12_holdsIn_50 ?_
  refine zz_iret rfl dX12_holdsIn_51 (by decide) (by decide) ?_
  first
    | (rw [show (sp_rans g _) 50 21 = N from hq.r.2.1]; exact h)
    | (rw [show (sp_rans g _) 50 22 = M from hq.r.2.2.1]; exact h)
    | (rw [show (sp_rans (sp_rans g _) _) 50 21 = N from hq.r.r.2.1]; simp only [sp_rans_a, List.cons_append, List.nil_append, List.append_assoc] at h ⊢; exact h)
    | (simp only [sp_rans_a, List.cons_append, List.nil_append, List.append_assoc] at h ⊢; exact h)
    | exact h

set_option maxRecDepth 100000 in
set_option maxHeartbeats 4000000 in
theorem t_X12_holdsIn_3 {C : zz_C} {d n : Nat} {g : zz_G} {r : zz_R} {Q : zz_Q} (hn : 60 ≤ n) (hr : xr r) {k0 : Nat} (hk0 : k0 < 7) {N M x : Int32} (hq : vq g k0 N M) (h : Q (some (.int (vs_v N x k0 * 2))) (sp_rans g (11 :: vs_l k0)) r n) : zz_T C mi_X12_holdsIn (d + 5) 0 0 [.ref 50, .int (3), .int x] g r n Q := by
  refine zz_T.of [some (.ref 50), some (.int (3)), some (.int x), none] (by decide +kernel) rfl (Nat.le_of_ble_eq_true rfl) ?_
  refine zz_iload_1 dX12_holdsIn_0 ?_
  refine zz_if_ne 22 dX12_holdsIn_1 (by decide) (fun _ => ?_) (fun h => absurd h (by decide))
  refine zz_iload_1 dX12_holdsIn_22 ?_
  refine zz_iconst (2) dX12_holdsIn_23 (by decide) ?_
  refine zz_icmp_ne 52 dX12_holdsIn_24 (by decide) (fun _ => ?_) (fun h => absurd h (by decide))
  refine zz_iload_1 dX12_holdsIn_52 ?_
  refine zz_iconst (5) dX12_holdsIn_53 (by decide) ?_
  refine zz_icmp_ne 72 dX12_holdsIn_54 (by decide) (fun _ => ?_) (fun h => absurd h (by decide))
  refine zz_aload_0 dX12_holdsIn_72 ?_
  refine zz_iload_1 dX12_holdsIn_73 ?_
  refine zz_callS1i cs_X12_73 (Nat.le_of_ble_eq_true rfl) (by decide) (by decide) dX12_holdsIn_74 (t_X12_above_3 ⟨_, rfl, ?_⟩)
  refine zz_iload_2 dX12_holdsIn_77 ?_
  refine zz_callV2i cv_X12_219 rfl (Nat.lt_of_lt_of_le (by decide) hn) (Nat.le_of_ble_eq_true rfl) (by decide) (by decide) dX12_holdsIn_78 (t_X12_holdsIn_0 hn hr hk0 (by first | exact hq | exact hq.r | exact hq.r.r | exact hq.r.r.r) ⟨_, rfl, ?_⟩)
  refine zz_iret rfl dX12_holdsIn_81 (by decide) (by decide) ?_
  first
    | (rw [show (sp_rans g _) 50 21 = N from hq.r.2.1]; exact h)
    | (rw [show (sp_rans g _) 50 22 = M from hq.r.2.2.1]; exact h)
    | (rw [show (sp_rans (sp_rans g _) _) 50 21 = N from hq.r.r.2.1]; simp only [sp_rans_a, List.cons_append, List.nil_append, List.append_assoc] at h ⊢; exact h)
    | (simp only [sp_rans_a, List.cons_append, List.nil_append, List.append_assoc] at h ⊢; exact h)
    | exact h

set_option maxRecDepth 100000 in
set_option maxHeartbeats 4000000 in
theorem t_X12_holdsIn_4 {C : zz_C} {d n : Nat} {g : zz_G} {r : zz_R} {Q : zz_Q} (hn : 60 ≤ n) (hr : xr r) {k0 : Nat} (hk0 : k0 < 7) {N M x : Int32} (hq : vq g k0 N M) (h : Q (some (.int (vs_v N x k0 * 2))) (sp_rans g (11 :: vs_l k0)) r n) : zz_T C mi_X12_holdsIn (d + 6) 0 0 [.ref 50, .int (4), .int x] g r n Q := by
  refine zz_T.of [some (.ref 50), some (.int (4)), some (.int x), none] (by decide +kernel) rfl (Nat.le_of_ble_eq_true rfl) ?_
  refine zz_iload_1 dX12_holdsIn_0 ?_
  refine zz_if_ne 22 dX12_holdsIn_1 (by decide) (fun _ => ?_) (fun h => absurd h (by decide))
  refine zz_iload_1 dX12_holdsIn_22 ?_
  refine zz_iconst (2) dX12_holdsIn_23 (by decide) ?_
  refine zz_icmp_ne 52 dX12_holdsIn_24 (by decide) (fun _ => ?_) (fun h => absurd h (by decide))
  refine zz_iload_1 dX12_holdsIn_52 ?_
  refine zz_iconst (5) dX12_holdsIn_53 (by decide) ?_
  refine zz_icmp_ne 72 dX12_holdsIn_54 (by decide) (fun _ => ?_) (fun h => absurd h (by decide))
  refine zz_aload_0 dX12_holdsIn_72 ?_
  refine zz_iload_1 dX12_holdsIn_73 ?_
  refine zz_callS1i cs_X12_73 (Nat.le_of_ble_eq_true rfl) (by decide) (by decide) dX12_holdsIn_74 (t_X12_above_4 ⟨_, rfl, ?_⟩)
  refine zz_iload_2 dX12_holdsIn_77 ?_
  refine zz_callV2i cv_X12_219 rfl (Nat.lt_of_lt_of_le (by decide) hn) (Nat.le_of_ble_eq_true rfl) (by decide) (by decide) dX12_holdsIn_78 (t_X12_holdsIn_1 hn hr hk0 (by first | exact hq | exact hq.r | exact hq.r.r | exact hq.r.r.r) ⟨_, rfl, ?_⟩)
  refine zz_iret rfl dX12_holdsIn_81 (by decide) (by decide) ?_
  first
    | (rw [show (sp_rans g _) 50 21 = N from hq.r.2.1]; exact h)
    | (rw [show (sp_rans g _) 50 22 = M from hq.r.2.2.1]; exact h)
    | (rw [show (sp_rans (sp_rans g _) _) 50 21 = N from hq.r.r.2.1]; simp only [sp_rans_a, List.cons_append, List.nil_append, List.append_assoc] at h ⊢; exact h)
    | (simp only [sp_rans_a, List.cons_append, List.nil_append, List.append_assoc] at h ⊢; exact h)
    | exact h

set_option maxRecDepth 100000 in
set_option maxHeartbeats 4000000 in
theorem t_X12_holdsIn_5 {C : zz_C} {d n : Nat} {g : zz_G} {r : zz_R} {Q : zz_Q} (hn : 60 ≤ n) (hr : xr r) {k0 : Nat} (hk0 : k0 < 7) {N M x : Int32} (hq : vq g k0 N M) (h : Q (some (.int (vs_v N (x + 1) k0 * 2 - vh_v N M 1 k0))) (sp_rans g (60 :: 30 :: 11 :: (vs_l k0 ++ vh_l k0))) r n) : zz_T C mi_X12_holdsIn (d + 6) 0 0 [.ref 50, .int (5), .int x] g r n Q := by
  refine zz_T.of [some (.ref 50), some (.int (5)), some (.int x), none] (by decide +kernel) rfl (Nat.le_of_ble_eq_true rfl) ?_
  refine zz_iload_1 dX12_holdsIn_0 ?_
  refine zz_if_ne 22 dX12_holdsIn_1 (by decide) (fun _ => ?_) (fun h => absurd h (by decide))
  refine zz_iload_1 dX12_holdsIn_22 ?_
  refine zz_iconst (2) dX12_holdsIn_23 (by decide) ?_
  refine zz_icmp_ne 52 dX12_holdsIn_24 (by decide) (fun _ => ?_) (fun h => absurd h (by decide))
  refine zz_iload_1 dX12_holdsIn_52 ?_
  refine zz_iconst (5) dX12_holdsIn_53 (by decide) ?_
  refine zz_icmp_ne 72 dX12_holdsIn_54 (by decide) (fun h => absurd h (by decide)) (fun _ => ?_)
  refine zz_aload_0 dX12_holdsIn_57 ?_
  refine zz_bipush (60) dX12_holdsIn_58 (by decide) ?_
  refine zz_callV1v cv_X12_200 rfl (Nat.lt_of_lt_of_le (by decide) hn) (Nat.le_of_ble_eq_true rfl) (by decide) (by decide) dX12_holdsIn_60 (t_X12_ran hn hr (by first | exact hq.2.2.2 | exact hq.r.2.2.2 | exact hq.r.r.2.2.2 | exact hq.r.r.r.2.2.2) ⟨rfl, ?_⟩)
  refine zz_aload_0 dX12_holdsIn_63 ?_
  refine zz_iconst (2) dX12_holdsIn_64 (by decide) ?_
  refine zz_iload_2 dX12_holdsIn_65 ?_
  refine zz_iconst (1) dX12_holdsIn_66 (by decide) ?_
  refine zz_iadd dX12_holdsIn_67 ?_
  refine zz_callV2i cv_X12_219 rfl (Nat.lt_of_lt_of_le (by decide) hn) (Nat.le_of_ble_eq_true rfl) (by decide) (by decide) dX12_holdsIn_68 (t_X12_holdsIn_2 hn hr hk0 (by first | exact hq | exact hq.r | exact hq.r.r | exact hq.r.r.r) ⟨_, rfl, ?_⟩)
  refine zz_iret rfl dX12_holdsIn_71 (by decide) (by decide) ?_
  first
    | (rw [show (sp_rans g _) 50 21 = N from hq.r.2.1]; exact h)
    | (rw [show (sp_rans g _) 50 22 = M from hq.r.2.2.1]; exact h)
    | (rw [show (sp_rans (sp_rans g _) _) 50 21 = N from hq.r.r.2.1]; simp only [sp_rans_a, List.cons_append, List.nil_append, List.append_assoc] at h ⊢; exact h)
    | (simp only [sp_rans_a, List.cons_append, List.nil_append, List.append_assoc] at h ⊢; exact h)
    | exact h

set_option maxRecDepth 100000 in
set_option maxHeartbeats 4000000 in
theorem t_X12_holdsIn_6 {C : zz_C} {d n : Nat} {g : zz_G} {r : zz_R} {Q : zz_Q} (hn : 60 ≤ n) (hr : xr r) {k0 : Nat} (hk0 : k0 < 7) {N M x : Int32} (hq : vq g k0 N M) (h : Q (some (.int (vs_v N x k0 * 2))) (sp_rans g (11 :: vs_l k0)) r n) : zz_T C mi_X12_holdsIn (d + 6) 0 0 [.ref 50, .int (6), .int x] g r n Q := by
  refine zz_T.of [some (.ref 50), some (.int (6)), some (.int x), none] (by decide +kernel) rfl (Nat.le_of_ble_eq_true rfl) ?_
  refine zz_iload_1 dX12_holdsIn_0 ?_
  refine zz_if_ne 22 dX12_holdsIn_1 (by decide) (fun _ => ?_) (fun h => absurd h (by decide))
  refine zz_iload_1 dX12_holdsIn_22 ?_
  refine zz_iconst (2) dX12_holdsIn_23 (by decide) ?_
  refine zz_icmp_ne 52 dX12_holdsIn_24 (by decide) (fun _ => ?_) (fun h => absurd h (by decide))
  refine zz_iload_1 dX12_holdsIn_52 ?_
  refine zz_iconst (5) dX12_holdsIn_53 (by decide) ?_
  refine zz_icmp_ne 72 dX12_holdsIn_54 (by decide) (fun _ => ?_) (fun h => absurd h (by decide))
  refine zz_aload_0 dX12_holdsIn_72 ?_
  refine zz_iload_1 dX12_holdsIn_73 ?_
  refine zz_callS1i cs_X12_73 (Nat.le_of_ble_eq_true rfl) (by decide) (by decide) dX12_holdsIn_74 (t_X12_above_6 ⟨_, rfl, ?_⟩)
  refine zz_iload_2 dX12_holdsIn_77 ?_
  refine zz_callV2i cv_X12_219 rfl (Nat.lt_of_lt_of_le (by decide) hn) (Nat.le_of_ble_eq_true rfl) (by decide) (by decide) dX12_holdsIn_78 (t_X12_holdsIn_3 hn hr hk0 (by first | exact hq | exact hq.r | exact hq.r.r | exact hq.r.r.r) ⟨_, rfl, ?_⟩)
  refine zz_iret rfl dX12_holdsIn_81 (by decide) (by decide) ?_
  first
    | (rw [show (sp_rans g _) 50 21 = N from hq.r.2.1]; exact h)
    | (rw [show (sp_rans g _) 50 22 = M from hq.r.2.2.1]; exact h)
    | (rw [show (sp_rans (sp_rans g _) _) 50 21 = N from hq.r.r.2.1]; simp only [sp_rans_a, List.cons_append, List.nil_append, List.append_assoc] at h ⊢; exact h)
    | (simp only [sp_rans_a, List.cons_append, List.nil_append, List.append_assoc] at h ⊢; exact h)
    | exact h

theorem t_X12_holdsIn {C : zz_C} {d n : Nat} {g : zz_G} {r : zz_R} {Q : zz_Q} (hn : 60 ≤ n) (hr : xr r) {k0 : Nat} (hk0 : k0 < 7) {N M x kv : Int32} (k : Nat) (hk : k < 7) (hkv : kv = nI k) (hq : vq g k0 N M) (h : Q (some (.int (vo_v k0 N M x k))) (sp_rans g (vo_l k0 k)) r n) : zz_T C mi_X12_holdsIn (d + 6) 0 0 [.ref 50, .int kv, .int x] g r n Q := by
  subst hkv
  match k, hk, h with
  | 0, _, h => exact t_X12_holdsIn_0 (d := d + 2) hn hr hk0 hq h
  | 1, _, h => exact t_X12_holdsIn_1 (d := d + 1) hn hr hk0 hq h
  | 2, _, h => exact t_X12_holdsIn_2 (d := d + 1) hn hr hk0 hq h
  | 3, _, h => exact t_X12_holdsIn_3 (d := d + 1) hn hr hk0 hq h
  | 4, _, h => exact t_X12_holdsIn_4 (d := d + 0) hn hr hk0 hq h
  | 5, _, h => exact t_X12_holdsIn_5 (d := d + 0) hn hr hk0 hq h
  | 6, _, h => exact t_X12_holdsIn_6 (d := d + 0) hn hr hk0 hq h
  | k + 7, hk, _ => omega

set_option maxRecDepth 100000 in
set_option maxHeartbeats 4000000 in
theorem t_X12_tellsIn_0 {C : zz_C} {d n : Nat} {g : zz_G} {r : zz_R} {Q : zz_Q} (hn : 60 ≤ n) (hr : xr r) {k0 : Nat} (hk0 : k0 < 7) {N M x : Int32} (hq : vq g k0 N M) (h : Q (some (.int (vo_v k0 N M x k0 ^^^ vh_v N M x k0))) (sp_rans g (13 :: (vo_l k0 k0 ++ vh_l k0))) r n) : zz_T C mi_X12_tellsIn (d + 7) 0 0 [.ref 50, .int (0), .int x] g r n Q := by
  refine zz_T.of [some (.ref 50), some (.int (0)), some (.int x), none] (by decide +kernel) rfl (Nat.le_of_ble_eq_true rfl) ?_
  refine zz_iload_1 dX12_tellsIn_0 ?_
  refine zz_if_ne 32 dX12_tellsIn_1 (by decide) (fun h => absurd h (by decide)) (fun _ => ?_)
  refine zz_aload_0 dX12_tellsIn_4 ?_
  refine zz_bipush (13) dX12_tellsIn_5 (by decide) ?_
  refine zz_callV1v cv_X12_200 rfl (Nat.lt_of_lt_of_le (by decide) hn) (Nat.le_of_ble_eq_true rfl) (by decide) (by decide) dX12_tellsIn_7 (t_X12_ran hn hr (by first | exact hq.2.2.2 | exact hq.r.2.2.2 | exact hq.r.r.2.2.2 | exact hq.r.r.r.2.2.2) ⟨rfl, ?_⟩)
  refine zz_aload_0 dX12_tellsIn_10 ?_
  refine zz_aload_0 dX12_tellsIn_11 ?_
  refine zz_getI fl_X12_216 rfl rfl (Nat.lt_of_lt_of_le (by decide) hn) dX12_tellsIn_12 ?_
  refine zz_iload_2 dX12_tellsIn_15 ?_
  refine zz_callV2i cv_X12_219 rfl (Nat.lt_of_lt_of_le (by decide) hn) (Nat.le_of_ble_eq_true rfl) (by decide) (by decide) dX12_tellsIn_16 (t_X12_holdsIn hn hr hk0 k0 hk0 (by first | exact hq.1 | exact hq.r.1 | exact hq.r.r.1 | exact hq.r.r.r.1) (by first | exact hq | exact hq.r | exact hq.r.r | exact hq.r.r.r) ⟨_, rfl, ?_⟩)
  refine zz_istore_3 dX12_tellsIn_19 rfl rfl ?_
  refine zz_iload_3 dX12_tellsIn_20 ?_
  refine zz_aload_0 dX12_tellsIn_21 ?_
  refine zz_aload_0 dX12_tellsIn_22 ?_
  refine zz_getI fl_X12_216 rfl rfl (Nat.lt_of_lt_of_le (by decide) hn) dX12_tellsIn_23 ?_
  refine zz_iload_2 dX12_tellsIn_26 ?_
  refine zz_callV2i cv_X12_213 rfl (Nat.lt_of_lt_of_le (by decide) hn) (Nat.le_of_ble_eq_true rfl) (by decide) (by decide) dX12_tellsIn_27 (t_X12_shutsIn hn hr hk0 k0 hk0 (by first | exact hq.1 | exact hq.r.1 | exact hq.r.r.1 | exact hq.r.r.r.1) (by first | exact hq | exact hq.r | exact hq.r.r | exact hq.r.r.r) ⟨_, rfl, ?_⟩)
  refine zz_ixor dX12_tellsIn_30 ?_
  refine zz_iret rfl dX12_tellsIn_31 (by decide) (by decide) ?_
  first
    | (rw [show (sp_rans g _) 50 21 = N from hq.r.2.1]; exact h)
    | (rw [show (sp_rans g _) 50 22 = M from hq.r.2.2.1]; exact h)
    | (rw [show (sp_rans (sp_rans g _) _) 50 21 = N from hq.r.r.2.1]; simp only [sp_rans_a, List.cons_append, List.nil_append, List.append_assoc] at h ⊢; exact h)
    | (simp only [sp_rans_a, List.cons_append, List.nil_append, List.append_assoc] at h ⊢; exact h)
    | exact h

set_option maxRecDepth 100000 in
set_option maxHeartbeats 4000000 in
theorem t_X12_tellsIn_1 {C : zz_C} {d n : Nat} {g : zz_G} {r : zz_R} {Q : zz_Q} (hn : 60 ≤ n) (hr : xr r) {k0 : Nat} (hk0 : k0 < 7) {N M x : Int32} (hq : vq g k0 N M) (h : Q (some (.int (vo_v k0 N M x k0 ^^^ vh_v N M x k0))) (sp_rans g (13 :: (vo_l k0 k0 ++ vh_l k0))) r n) : zz_T C mi_X12_tellsIn (d + 8) 0 0 [.ref 50, .int (1), .int x] g r n Q := by
  refine zz_T.of [some (.ref 50), some (.int (1)), some (.int x), none] (by decide +kernel) rfl (Nat.le_of_ble_eq_true rfl) ?_
  refine zz_iload_1 dX12_tellsIn_0 ?_
  refine zz_if_ne 32 dX12_tellsIn_1 (by decide) (fun _ => ?_) (fun h => absurd h (by decide))
  refine zz_iload_1 dX12_tellsIn_32 ?_
  refine zz_iconst (4) dX12_tellsIn_33 (by decide) ?_
  refine zz_icmp_ne 62 dX12_tellsIn_34 (by decide) (fun _ => ?_) (fun h => absurd h (by decide))
  refine zz_iload_1 dX12_tellsIn_62 ?_
  refine zz_bipush (6) dX12_tellsIn_63 (by decide) ?_
  refine zz_icmp_ne 93 dX12_tellsIn_65 (by decide) (fun _ => ?_) (fun h => absurd h (by decide))
  refine zz_aload_0 dX12_tellsIn_93 ?_
  refine zz_iload_1 dX12_tellsIn_94 ?_
  refine zz_callS1i cs_X12_73 (Nat.le_of_ble_eq_true rfl) (by decide) (by decide) dX12_tellsIn_95 (t_X12_above_1 ⟨_, rfl, ?_⟩)
  refine zz_iload_2 dX12_tellsIn_98 ?_
  refine zz_callV2i cv_X12_222 rfl (Nat.lt_of_lt_of_le (by decide) hn) (Nat.le_of_ble_eq_true rfl) (by decide) (by decide) dX12_tellsIn_99 (t_X12_tellsIn_0 hn hr hk0 (by first | exact hq | exact hq.r | exact hq.r.r | exact hq.r.r.r) ⟨_, rfl, ?_⟩)
  refine zz_iret rfl dX12_tellsIn_102 (by decide) (by decide) ?_
  first
    | (rw [show (sp_rans g _) 50 21 = N from hq.r.2.1]; exact h)
    | (rw [show (sp_rans g _) 50 22 = M from hq.r.2.2.1]; exact h)
    | (rw [show (sp_rans (sp_rans g _) _) 50 21 = N from hq.r.r.2.1]; simp only [sp_rans_a, List.cons_append, List.nil_append, List.append_assoc] at h ⊢; exact h)
    | (simp only [sp_rans_a, List.cons_append, List.nil_append, List.append_assoc] at h ⊢; exact h)
    | exact h

set_option maxRecDepth 100000 in
set_option maxHeartbeats 4000000 in
theorem t_X12_tellsIn_2 {C : zz_C} {d n : Nat} {g : zz_G} {r : zz_R} {Q : zz_Q} (hn : 60 ≤ n) (hr : xr r) {k0 : Nat} (hk0 : k0 < 7) {N M x : Int32} (hq : vq g k0 N M) (h : Q (some (.int (vo_v k0 N M x k0 ^^^ vh_v N M x k0))) (sp_rans g (13 :: (vo_l k0 k0 ++ vh_l k0))) r n) : zz_T C mi_X12_tellsIn (d + 8) 0 0 [.ref 50, .int (2), .int x] g r n Q := by
  refine zz_T.of [some (.ref 50), some (.int (2)), some (.int x), none] (by decide +kernel) rfl (Nat.le_of_ble_eq_true rfl) ?_
  refine zz_iload_1 dX12_tellsIn_0 ?_
  refine zz_if_ne 32 dX12_tellsIn_1 (by decide) (fun _ => ?_) (fun h => absurd h (by decide))
  refine zz_iload_1 dX12_tellsIn_32 ?_
  refine zz_iconst (4) dX12_tellsIn_33 (by decide) ?_
  refine zz_icmp_ne 62 dX12_tellsIn_34 (by decide) (fun _ => ?_) (fun h => absurd h (by decide))
  refine zz_iload_1 dX12_tellsIn_62 ?_
  refine zz_bipush (6) dX12_tellsIn_63 (by decide) ?_
  refine zz_icmp_ne 93 dX12_tellsIn_65 (by decide) (fun _ => ?_) (fun h => absurd h (by decide))
  refine zz_aload_0 dX12_tellsIn_93 ?_
  refine zz_iload_1 dX12_tellsIn_94 ?_
  refine zz_callS1i cs_X12_73 (Nat.le_of_ble_eq_true rfl) (by decide) (by decide) dX12_tellsIn_95 (t_X12_above_2 ⟨_, rfl, ?_⟩)
  refine zz_iload_2 dX12_tellsIn_98 ?_
  refine zz_callV2i cv_X12_222 rfl (Nat.lt_of_lt_of_le (by decide) hn) (Nat.le_of_ble_eq_true rfl) (by decide) (by decide) dX12_tellsIn_99 (t_X12_tellsIn_0 hn hr hk0 (by first | exact hq | exact hq.r | exact hq.r.r | exact hq.r.r.r) ⟨_, rfl, ?_⟩)
  refine zz_iret rfl dX12_tellsIn_102 (by decide) (by decide) ?_
  first
    | (rw [show (sp_rans g _) 50 21 = N from hq.r.2.1]; exact h)
    | (rw [show (sp_rans g _) 50 22 = M from hq.r.2.2.1]; exact h)
    | (rw [show (sp_rans (sp_rans g _) _) 50 21 = N from hq.r.r.2.1]; simp only [sp_rans_a, List.cons_append, List.nil_append, List.append_assoc] at h ⊢; exact h)
    | (simp only [sp_rans_a, List.cons_append, List.nil_append, List.append_assoc] at h ⊢; exact h)
    | exact h

set_option maxRecDepth 100000 in
set_option maxHeartbeats 4000000 in
theorem t_X12_tellsIn_3 {C : zz_C} {d n : Nat} {g : zz_G} {r : zz_R} {Q : zz_Q} (hn : 60 ≤ n) (hr : xr r) {k0 : Nat} (hk0 : k0 < 7) {N M x : Int32} (hq : vq g k0 N M) (h : Q (some (.int (vo_v k0 N M x k0 ^^^ vh_v N M x k0))) (sp_rans g (13 :: (vo_l k0 k0 ++ vh_l k0))) r n) : zz_T C mi_X12_tellsIn (d + 8) 0 0 [.ref 50, .int (3), .int x] g r n Q := by
  refine zz_T.of [some (.ref 50), some (.int (3)), some (.int x), none] (by decide +kernel) rfl (Nat.le_of_ble_eq_true rfl) ?_
  refine zz_iload_1 dX12_tellsIn_0 ?_
  refine zz_if_ne 32 dX12_tellsIn_1 (by decide) (fun _ => ?_) (fun h => absurd h (by decide))
  refine zz_iload_1 dX12_tellsIn_32 ?_
  refine zz_iconst (4) dX12_tellsIn_33 (by decide) ?_
  refine zz_icmp_ne 62 dX12_tellsIn_34 (by decide) (fun _ => ?_) (fun h => absurd h (by decide))
  refine zz_iload_1 dX12_tellsIn_62 ?_
  refine zz_bipush (6) dX12_tellsIn_63 (by decide) ?_
  refine zz_icmp_ne 93 dX12_tellsIn_65 (by decide) (fun _ => ?_) (fun h => absurd h (by decide))
  refine zz_aload_0 dX12_tellsIn_93 ?_
  refine zz_iload_1 dX12_tellsIn_94 ?_
  refine zz_callS1i cs_X12_73 (Nat.le_of_ble_eq_true rfl) (by decide) (by decide) dX12_tellsIn_95 (t_X12_above_3 ⟨_, rfl, ?_⟩)
  refine zz_iload_2 dX12_tellsIn_98 ?_
  refine zz_callV2i cv_X12_222 rfl (Nat.lt_of_lt_of_le (by decide) hn) (Nat.le_of_ble_eq_true rfl) (by decide) (by decide) dX12_tellsIn_99 (t_X12_tellsIn_0 hn hr hk0 (by first | exact hq | exact hq.r | exact hq.r.r | exact hq.r.r.r) ⟨_, rfl, ?_⟩)
  refine zz_iret rfl dX12_tellsIn_102 (by decide) (by decide) ?_
  first
    | (rw [show (sp_rans g _) 50 21 = N from hq.r.2.1]; exact h)
    | (rw [show (sp_rans g _) 50 22 = M from hq.r.2.2.1]; exact h)
    | (rw [show (sp_rans (sp_rans g _) _) 50 21 = N from hq.r.r.2.1]; simp only [sp_rans_a, List.cons_append, List.nil_append, List.append_assoc] at h ⊢; exact h)
    | (simp only [sp_rans_a, List.cons_append, List.nil_append, List.append_assoc] at h ⊢; exact h)
    | exact h

set_option maxRecDepth 100000 in
set_option maxHeartbeats 4000000 in
theorem t_X12_tellsIn_4 {C : zz_C} {d n : Nat} {g : zz_G} {r : zz_R} {Q : zz_Q} (hn : 60 ≤ n) (hr : xr r) {k0 : Nat} (hk0 : k0 < 7) {N M x : Int32} (hq : vq g k0 N M) (h : Q (some (.int ((vo_v k0 N M x k0 ^^^ vh_v N M x k0) - vs_v N 2 k0))) (sp_rans g (50 :: 13 :: (vo_l k0 k0 ++ (vh_l k0 ++ vs_l k0)))) r n) : zz_T C mi_X12_tellsIn (d + 9) 0 0 [.ref 50, .int (4), .int x] g r n Q := by
  refine zz_T.of [some (.ref 50), some (.int (4)), some (.int x), none] (by decide +kernel) rfl (Nat.le_of_ble_eq_true rfl) ?_
  refine zz_iload_1 dX12_tellsIn_0 ?_
  refine zz_if_ne 32 dX12_tellsIn_1 (by decide) (fun _ => ?_) (fun h => absurd h (by decide))
  refine zz_iload_1 dX12_tellsIn_32 ?_
  refine zz_iconst (4) dX12_tellsIn_33 (by decide) ?_
  refine zz_icmp_ne 62 dX12_tellsIn_34 (by decide) (fun h => absurd h (by decide)) (fun _ => ?_)
  refine zz_aload_0 dX12_tellsIn_37 ?_
  refine zz_bipush (50) dX12_tellsIn_38 (by decide) ?_
  refine zz_callV1v cv_X12_200 rfl (Nat.lt_of_lt_of_le (by decide) hn) (Nat.le_of_ble_eq_true rfl) (by decide) (by decide) dX12_tellsIn_40 (t_X12_ran hn hr (by first | exact hq.2.2.2 | exact hq.r.2.2.2 | exact hq.r.r.2.2.2 | exact hq.r.r.r.2.2.2) ⟨rfl, ?_⟩)
  refine zz_aload_0 dX12_tellsIn_43 ?_
  refine zz_iconst (1) dX12_tellsIn_44 (by decide) ?_
  refine zz_iload_2 dX12_tellsIn_45 ?_
  refine zz_callV2i cv_X12_222 rfl (Nat.lt_of_lt_of_le (by decide) hn) (Nat.le_of_ble_eq_true rfl) (by decide) (by decide) dX12_tellsIn_46 (t_X12_tellsIn_1 hn hr hk0 (by first | exact hq | exact hq.r | exact hq.r.r | exact hq.r.r.r) ⟨_, rfl, ?_⟩)
  refine zz_istore_3 dX12_tellsIn_49 rfl rfl ?_
  refine zz_iload_3 dX12_tellsIn_50 ?_
  refine zz_aload_0 dX12_tellsIn_51 ?_
  refine zz_aload_0 dX12_tellsIn_52 ?_
  refine zz_getI fl_X12_216 rfl rfl (Nat.lt_of_lt_of_le (by decide) hn) dX12_tellsIn_53 ?_
  refine zz_iconst (2) dX12_tellsIn_56 (by decide) ?_
  refine zz_callV2i cv_X12_207 rfl (Nat.lt_of_lt_of_le (by decide) hn) (Nat.le_of_ble_eq_true rfl) (by decide) (by decide) dX12_tellsIn_57 (t_X12_sendsIn hn hr hk0 k0 hk0 (by first | exact hq.1 | exact hq.r.1 | exact hq.r.r.1 | exact hq.r.r.r.1) (by first | exact hq | exact hq.r | exact hq.r.r | exact hq.r.r.r) ⟨_, rfl, ?_⟩)
  refine zz_isub dX12_tellsIn_60 ?_
  refine zz_iret rfl dX12_tellsIn_61 (by decide) (by decide) ?_
  first
    | (rw [show (sp_rans g _) 50 21 = N from hq.r.2.1]; exact h)
    | (rw [show (sp_rans g _) 50 22 = M from hq.r.2.2.1]; exact h)
    | (rw [show (sp_rans (sp_rans g _) _) 50 21 = N from hq.r.r.2.1]; simp only [sp_rans_a, List.cons_append, List.nil_append, List.append_assoc] at h ⊢; exact h)
    | (simp only [sp_rans_a, List.cons_append, List.nil_append, List.append_assoc] at h ⊢; exact h)
    | exact h

set_option maxRecDepth 100000 in
set_option maxHeartbeats 4000000 in
theorem t_X12_tellsIn_5 {C : zz_C} {d n : Nat} {g : zz_G} {r : zz_R} {Q : zz_Q} (hn : 60 ≤ n) (hr : xr r) {k0 : Nat} (hk0 : k0 < 7) {N M x : Int32} (hq : vq g k0 N M) (h : Q (some (.int (vo_v k0 N M x k0 ^^^ vh_v N M x k0))) (sp_rans g (13 :: (vo_l k0 k0 ++ vh_l k0))) r n) : zz_T C mi_X12_tellsIn (d + 9) 0 0 [.ref 50, .int (5), .int x] g r n Q := by
  refine zz_T.of [some (.ref 50), some (.int (5)), some (.int x), none] (by decide +kernel) rfl (Nat.le_of_ble_eq_true rfl) ?_
  refine zz_iload_1 dX12_tellsIn_0 ?_
  refine zz_if_ne 32 dX12_tellsIn_1 (by decide) (fun _ => ?_) (fun h => absurd h (by decide))
  refine zz_iload_1 dX12_tellsIn_32 ?_
  refine zz_iconst (4) dX12_tellsIn_33 (by decide) ?_
  refine zz_icmp_ne 62 dX12_tellsIn_34 (by decide) (fun _ => ?_) (fun h => absurd h (by decide))
  refine zz_iload_1 dX12_tellsIn_62 ?_
  refine zz_bipush (6) dX12_tellsIn_63 (by decide) ?_
  refine zz_icmp_ne 93 dX12_tellsIn_65 (by decide) (fun _ => ?_) (fun h => absurd h (by decide))
  refine zz_aload_0 dX12_tellsIn_93 ?_
  refine zz_iload_1 dX12_tellsIn_94 ?_
  refine zz_callS1i cs_X12_73 (Nat.le_of_ble_eq_true rfl) (by decide) (by decide) dX12_tellsIn_95 (t_X12_above_5 ⟨_, rfl, ?_⟩)
  refine zz_iload_2 dX12_tellsIn_98 ?_
  refine zz_callV2i cv_X12_222 rfl (Nat.lt_of_lt_of_le (by decide) hn) (Nat.le_of_ble_eq_true rfl) (by decide) (by decide) dX12_tellsIn_99 (t_X12_tellsIn_2 hn hr hk0 (by first | exact hq | exact hq.r | exact hq.r.r | exact hq.r.r.r) ⟨_, rfl, ?_⟩)
  refine zz_iret rfl dX12_tellsIn_102 (by decide) (by decide) ?_
  first
    | (rw [show (sp_rans g _) 50 21 = N from hq.r.2.1]; exact h)
    | (rw [show (sp_rans g _) 50 22 = M from hq.r.2.2.1]; exact h)
    | (rw [show (sp_rans (sp_rans g _) _) 50 21 = N from hq.r.r.2.1]; simp only [sp_rans_a, List.cons_append, List.nil_append, List.append_assoc] at h ⊢; exact h)
    | (simp only [sp_rans_a, List.cons_append, List.nil_append, List.append_assoc] at h ⊢; exact h)
    | exact h

set_option maxRecDepth 100000 in
set_option maxHeartbeats 4000000 in
theorem t_X12_tellsIn_6 {C : zz_C} {d n : Nat} {g : zz_G} {r : zz_R} {Q : zz_Q} (hn : 60 ≤ n) (hr : xr r) {k0 : Nat} (hk0 : k0 < 7) {N M x : Int32} (hq : vq g k0 N M) (h : Q (some (.int (vo_v k0 N M x k0 - (vo_v k0 N M x k0 ^^^ vh_v N M x k0)))) (sp_rans g (71 :: (vo_l k0 k0 ++ (13 :: (vo_l k0 k0 ++ vh_l k0))))) r n) : zz_T C mi_X12_tellsIn (d + 9) 0 0 [.ref 50, .int (6), .int x] g r n Q := by
  refine zz_T.of [some (.ref 50), some (.int (6)), some (.int x), none] (by decide +kernel) rfl (Nat.le_of_ble_eq_true rfl) ?_
  refine zz_iload_1 dX12_tellsIn_0 ?_
  refine zz_if_ne 32 dX12_tellsIn_1 (by decide) (fun _ => ?_) (fun h => absurd h (by decide))
  refine zz_iload_1 dX12_tellsIn_32 ?_
  refine zz_iconst (4) dX12_tellsIn_33 (by decide) ?_
  refine zz_icmp_ne 62 dX12_tellsIn_34 (by decide) (fun _ => ?_) (fun h => absurd h (by decide))
  refine zz_iload_1 dX12_tellsIn_62 ?_
  refine zz_bipush (6) dX12_tellsIn_63 (by decide) ?_
  refine zz_icmp_ne 93 dX12_tellsIn_65 (by decide) (fun h => absurd h (by decide)) (fun _ => ?_)
  refine zz_aload_0 dX12_tellsIn_68 ?_
  refine zz_bipush (71) dX12_tellsIn_69 (by decide) ?_
  refine zz_callV1v cv_X12_200 rfl (Nat.lt_of_lt_of_le (by decide) hn) (Nat.le_of_ble_eq_true rfl) (by decide) (by decide) dX12_tellsIn_71 (t_X12_ran hn hr (by first | exact hq.2.2.2 | exact hq.r.2.2.2 | exact hq.r.r.2.2.2 | exact hq.r.r.r.2.2.2) ⟨rfl, ?_⟩)
  refine zz_aload_0 dX12_tellsIn_74 ?_
  refine zz_aload_0 dX12_tellsIn_75 ?_
  refine zz_getI fl_X12_216 rfl rfl (Nat.lt_of_lt_of_le (by decide) hn) dX12_tellsIn_76 ?_
  refine zz_iload_2 dX12_tellsIn_79 ?_
  refine zz_callV2i cv_X12_219 rfl (Nat.lt_of_lt_of_le (by decide) hn) (Nat.le_of_ble_eq_true rfl) (by decide) (by decide) dX12_tellsIn_80 (t_X12_holdsIn hn hr hk0 k0 hk0 (by first | exact hq.1 | exact hq.r.1 | exact hq.r.r.1 | exact hq.r.r.r.1) (by first | exact hq | exact hq.r | exact hq.r.r | exact hq.r.r.r) ⟨_, rfl, ?_⟩)
  refine zz_istore_3 dX12_tellsIn_83 rfl rfl ?_
  refine zz_iload_3 dX12_tellsIn_84 ?_
  refine zz_aload_0 dX12_tellsIn_85 ?_
  refine zz_iconst (3) dX12_tellsIn_86 (by decide) ?_
  refine zz_iload_2 dX12_tellsIn_87 ?_
  refine zz_callV2i cv_X12_222 rfl (Nat.lt_of_lt_of_le (by decide) hn) (Nat.le_of_ble_eq_true rfl) (by decide) (by decide) dX12_tellsIn_88 (t_X12_tellsIn_3 hn hr hk0 (by first | exact hq | exact hq.r | exact hq.r.r | exact hq.r.r.r) ⟨_, rfl, ?_⟩)
  refine zz_isub dX12_tellsIn_91 ?_
  refine zz_iret rfl dX12_tellsIn_92 (by decide) (by decide) ?_
  first
    | (rw [show (sp_rans g _) 50 21 = N from hq.r.2.1]; exact h)
    | (rw [show (sp_rans g _) 50 22 = M from hq.r.2.2.1]; exact h)
    | (rw [show (sp_rans (sp_rans g _) _) 50 21 = N from hq.r.r.2.1]; simp only [sp_rans_a, List.cons_append, List.nil_append, List.append_assoc] at h ⊢; exact h)
    | (simp only [sp_rans_a, List.cons_append, List.nil_append, List.append_assoc] at h ⊢; exact h)
    | exact h

theorem t_X12_tellsIn {C : zz_C} {d n : Nat} {g : zz_G} {r : zz_R} {Q : zz_Q} (hn : 60 ≤ n) (hr : xr r) {k0 : Nat} (hk0 : k0 < 7) {N M x kv : Int32} (k : Nat) (hk : k < 7) (hkv : kv = nI k) (hq : vq g k0 N M) (h : Q (some (.int (ve_v k0 N M x k))) (sp_rans g (ve_l k0 k)) r n) : zz_T C mi_X12_tellsIn (d + 9) 0 0 [.ref 50, .int kv, .int x] g r n Q := by
  subst hkv
  match k, hk, h with
  | 0, _, h => exact t_X12_tellsIn_0 (d := d + 2) hn hr hk0 hq h
  | 1, _, h => exact t_X12_tellsIn_1 (d := d + 1) hn hr hk0 hq h
  | 2, _, h => exact t_X12_tellsIn_2 (d := d + 1) hn hr hk0 hq h
  | 3, _, h => exact t_X12_tellsIn_3 (d := d + 1) hn hr hk0 hq h
  | 4, _, h => exact t_X12_tellsIn_4 (d := d + 0) hn hr hk0 hq h
  | 5, _, h => exact t_X12_tellsIn_5 (d := d + 0) hn hr hk0 hq h
  | 6, _, h => exact t_X12_tellsIn_6 (d := d + 0) hn hr hk0 hq h
  | k + 7, hk, _ => omega

theorem ms_F.ran {g g' S' : zz_G} {b : Int32} (h : ms_F g g' S') : ms_F g (sp_ran g' b) (sp_ran S' b) := by
  have e : S' 50 19 = g' 50 19 := by rw [← h.1]; exact ms_at rfl
  unfold sp_ran
  rw [e]
  split
  · exact h
  · exact (h.u rfl (by decide)).u rfl (by decide)
theorem ms_F.rans {g : zz_G} : ∀ (l : List Int32) (g' S' : zz_G), ms_F g g' S' → ms_F g (sp_rans g' l) (sp_rans S' l) := by
  intro l
  induction l with
  | nil => intro g' S' h; exact h
  | cons b l ih => intro g' S' h; exact ih _ _ h.ran
def sp_voiceT (S : zz_G) (k : Nat) (N M act x : Int32) : Int32 × zz_G := if act = 0 then (vs_v N x k, sp_rans S (vs_l k)) else if act = 1 then (vo_v k N M x k, sp_rans S (vo_l k k)) else if act = 2 then (vh_v N M x k, sp_rans S (vh_l k)) else (ve_v k N M x k, sp_rans S (ve_l k k))
def sp_voice (S : zz_G) (w act x : Int32) : Int32 × zz_G := if ¬ sp_isw S w then sp_err S 1 else if act < 0 ∨ 3 < act then sp_err S 1 else sp_voiceT (zz_u S 50 19 0) (S 51 (16 + 5 * w.toNatClampNeg)).toNatClampNeg w (S 51 (16 + 5 * w.toNatClampNeg + 1)) act x
set_option maxRecDepth 100000 in
set_option maxHeartbeats 4000000 in
theorem t_X12_voice {C : zz_C} {d n : Nat} {g : zz_G} {r : zz_R} {Q : zz_Q} (hn : 60 ≤ n) (hr : xr r) (mw : Nat) (hmw : g 51 2 = nI mw) (hmw6 : mw ≤ 6) {v act x : Int32} (hkd : ∀ w : Nat, w < 6 → ∃ j : Nat, j < 7 ∧ g 51 (16 + 5 * w) = nI j) (h : ms_o g r n Q (sp_voice (ms_S g) v act x)) : zz_T C mi_X12_voice (d + 10) 0 0 [.ref 50, .int v, .int act, .int x] g r n Q := by
  refine zz_T.of [some (.ref 50), some (.int v), some (.int act), some (.int x)] (by decide +kernel) rfl (Nat.le_of_ble_eq_true rfl) ?_
  refine zz_aload_0 dX12_voice_0 ?_
  refine zz_iload_1 dX12_voice_1 ?_
  refine zz_callV1i cv_X12_60 rfl (Nat.lt_of_lt_of_le (by decide) hn) (Nat.le_of_ble_eq_true rfl) (by decide) (by decide) dX12_voice_2 (t_X12_isWay hn hr mw hmw hmw6 (fun w_2 hw_2 ew_2 => ⟨_, rfl, ?_⟩) (fun nw_2 => ⟨_, rfl, ?_⟩))
  · skip
    subst ew_2
    have ia_2 := sp_isw_a (w := w_2) (Nat.lt_of_lt_of_le hw_2 hmw6)
    have ib_2 := sp_isw_b hmw hmw6 hw_2
    refine zz_if_eq 17 dX12_voice_5 (by decide) (fun h => absurd h (by decide)) (fun _ => ?_)
    refine zz_iload_2 dX12_voice_8 ?_
    refine zz_iconst (0) dX12_voice_9 (by decide) ?_
    refine zz_iconst (3) dX12_voice_10 (by decide) ?_
    refine zz_callS3i cs_X12_38 (Nat.le_of_ble_eq_true rfl) (by decide) (by decide) dX12_voice_11 (t_X12_in (fun a_11 b_11 => ⟨_, rfl, ?_⟩) (fun o_11 => ⟨_, rfl, ?_⟩))
    · skip
      refine zz_if_ne 24 dX12_voice_14 (by decide) (fun _ => ?_) (fun h => absurd h (by decide))
      refine zz_aload_0 dX12_voice_24 ?_
      refine zz_iconst (0) dX12_voice_25 (by decide) ?_
      refine zz_putI fl_X12_197 rfl rfl (Nat.lt_of_lt_of_le (by decide) hn) dX12_voice_26 ?_
      refine zz_aload_0 dX12_voice_29 ?_
      refine zz_aload_0 dX12_voice_30 ?_
      refine zz_iload_1 dX12_voice_31 ?_
      refine zz_iconst (0) dX12_voice_32 (by decide) ?_
      refine zz_callV2i cv_X12_64 rfl (Nat.lt_of_lt_of_le (by decide) hn) (Nat.le_of_ble_eq_true rfl) (by decide) (by decide) dX12_voice_33 (t_X12_its0 hn hr w_2 rfl (by omega) ⟨_, rfl, ?_⟩)
      refine zz_putI fl_X12_216 rfl rfl (Nat.lt_of_lt_of_le (by decide) hn) dX12_voice_36 ?_
      refine zz_aload_0 dX12_voice_39 ?_
      refine zz_iload_1 dX12_voice_40 ?_
      refine zz_putI fl_X12_204 rfl rfl (Nat.lt_of_lt_of_le (by decide) hn) dX12_voice_41 ?_
      refine zz_aload_0 dX12_voice_44 ?_
      refine zz_aload_0 dX12_voice_45 ?_
      refine zz_iload_1 dX12_voice_46 ?_
      refine zz_iconst (1) dX12_voice_47 (by decide) ?_
      refine zz_callV2i cv_X12_64 rfl (Nat.lt_of_lt_of_le (by decide) hn) (Nat.le_of_ble_eq_true rfl) (by decide) (by decide) dX12_voice_48 (t_X12_its hn hr w_2 1 rfl rfl (by omega) ⟨_, rfl, ?_⟩)
      refine zz_putI fl_X12_210 rfl rfl (Nat.lt_of_lt_of_le (by decide) hn) dX12_voice_51 ?_
      obtain ⟨k0, hk0, ek0⟩ := hkd w_2 (by omega)
      simp only [zz_u_ne1 _ _ (show (51 : Nat) ≠ 50 by decide)]
      have hq : vq (zz_u (zz_u (zz_u (zz_u g 50 19 0) 50 20 (g 51 (16 + 5 * w_2))) 50 21 (nI w_2)) 50 22 (g 51 (16 + 5 * w_2 + 1))) k0 (nI w_2) (g 51 (16 + 5 * w_2 + 1)) := ⟨by rw [zz_u_ne2 _ _ (by decide), zz_u_ne2 _ _ (by decide), zz_u_same]; exact ek0, by rw [zz_u_ne2 _ _ (by decide), zz_u_same], zz_u_same _ _ _ _, 0, by omega, by rw [zz_u_ne2 _ _ (by decide), zz_u_ne2 _ _ (by decide), zz_u_ne2 _ _ (by decide), zz_u_same]; rfl⟩
      have hF0 : ms_F g (zz_u (zz_u (zz_u (zz_u g 50 19 0) 50 20 (g 51 (16 + 5 * w_2))) 50 21 (nI w_2)) 50 22 (g 51 (16 + 5 * w_2 + 1))) (zz_u (ms_S g) 50 19 0) := (((ms_F.rf.u rfl (by decide)).j rfl (by decide)).j rfl (by decide)).j rfl (by decide)
      rw [sp_voice, if_neg (fun q => q ⟨ia_2, by rw [ms_51]; exact ib_2⟩), if_neg (fun z9 => z9.elim a_11 b_11), ix_w (by omega), ms_51, ms_51, ek0, ix_w (by omega)] at h
      refine zz_iload_2 dX12_voice_54 ?_
      refine zz_tsw3 (0) (1) (2) 80 90 100 110 dX12_voice_55 (by decide) (fun e_55 => ?_) (fun e_55 => ?_) (fun e_55 => ?_) (fun e0_55 e1_55 e2_55 => ?_)
      · skip
        refine zz_aload_0 dX12_voice_80 ?_
        refine zz_aload_0 dX12_voice_81 ?_
        refine zz_getI fl_X12_216 rfl rfl (Nat.lt_of_lt_of_le (by decide) hn) dX12_voice_82 ?_
        refine zz_iload_3 dX12_voice_85 ?_
        refine zz_callV2i cv_X12_207 rfl (Nat.lt_of_lt_of_le (by decide) hn) (Nat.le_of_ble_eq_true rfl) (by decide) (by decide) dX12_voice_86 (t_X12_sendsIn hn hr hk0 k0 hk0 hq.1 hq ⟨_, rfl, ?_⟩)
        refine zz_iret rfl dX12_voice_89 (by decide) (by decide) ?_
        rw [sp_voiceT, if_pos e_55] at h
        exact h _ (ms_F.rans _ _ _ hF0)
      · skip
        refine zz_aload_0 dX12_voice_90 ?_
        refine zz_aload_0 dX12_voice_91 ?_
        refine zz_getI fl_X12_216 rfl rfl (Nat.lt_of_lt_of_le (by decide) hn) dX12_voice_92 ?_
        refine zz_iload_3 dX12_voice_95 ?_
        refine zz_callV2i cv_X12_219 rfl (Nat.lt_of_lt_of_le (by decide) hn) (Nat.le_of_ble_eq_true rfl) (by decide) (by decide) dX12_voice_96 (t_X12_holdsIn hn hr hk0 k0 hk0 hq.1 hq ⟨_, rfl, ?_⟩)
        refine zz_iret rfl dX12_voice_99 (by decide) (by decide) ?_
        rw [sp_voiceT, if_neg (by rw [e_55]; decide), if_pos e_55] at h
        exact h _ (ms_F.rans _ _ _ hF0)
      · skip
        refine zz_aload_0 dX12_voice_100 ?_
        refine zz_aload_0 dX12_voice_101 ?_
        refine zz_getI fl_X12_216 rfl rfl (Nat.lt_of_lt_of_le (by decide) hn) dX12_voice_102 ?_
        refine zz_iload_3 dX12_voice_105 ?_
        refine zz_callV2i cv_X12_213 rfl (Nat.lt_of_lt_of_le (by decide) hn) (Nat.le_of_ble_eq_true rfl) (by decide) (by decide) dX12_voice_106 (t_X12_shutsIn hn hr hk0 k0 hk0 hq.1 hq ⟨_, rfl, ?_⟩)
        refine zz_iret rfl dX12_voice_109 (by decide) (by decide) ?_
        rw [sp_voiceT, if_neg (by rw [e_55]; decide), if_neg (by rw [e_55]; decide), if_pos e_55] at h
        exact h _ (ms_F.rans _ _ _ hF0)
      · skip
        refine zz_aload_0 dX12_voice_110 ?_
        refine zz_aload_0 dX12_voice_111 ?_
        refine zz_getI fl_X12_216 rfl rfl (Nat.lt_of_lt_of_le (by decide) hn) dX12_voice_112 ?_
        refine zz_iload_3 dX12_voice_115 ?_
        refine zz_callV2i cv_X12_222 rfl (Nat.lt_of_lt_of_le (by decide) hn) (Nat.le_of_ble_eq_true rfl) (by decide) (by decide) dX12_voice_116 (t_X12_tellsIn hn hr hk0 k0 hk0 hq.1 hq ⟨_, rfl, ?_⟩)
        refine zz_iret rfl dX12_voice_119 (by decide) (by decide) ?_
        rw [sp_voiceT, if_neg e0_55, if_neg e1_55, if_neg e2_55] at h
        exact h _ (ms_F.rans _ _ _ hF0)
    · skip
      refine zz_if_ne 24 dX12_voice_14 (by decide) (fun h => absurd h (by decide)) (fun _ => ?_)
      refine zz_aload_0 dX12_voice_17 ?_
      refine zz_ldc dX12_voice_18 ct_X12_50 ?_
      refine zz_callV1i cv_X12_51 rfl (Nat.lt_of_lt_of_le (by decide) hn) (Nat.le_of_ble_eq_true rfl) (by decide) (by decide) dX12_voice_20 (t_X12_errs hn hr 1 (by decide) (by decide) ⟨_, rfl, ?_⟩)
      refine zz_iret rfl dX12_voice_23 (by decide) (by decide) ?_
      first
        | (rw [sp_voice, if_pos (by rw [sp_isw, ms_51]; exact ic_2)] at h; exact ms_er (by decide) h)
        | (rw [sp_voice, if_neg (fun q => q ⟨ia_2, by rw [ms_51]; exact ib_2⟩), if_pos o_11] at h; exact ms_er (by decide) h)
  · skip
    have ic_2 := sp_isw_c hmw hmw6 nw_2
    refine zz_if_eq 17 dX12_voice_5 (by decide) (fun _ => ?_) (fun h => absurd h (by decide))
    refine zz_aload_0 dX12_voice_17 ?_
    refine zz_ldc dX12_voice_18 ct_X12_50 ?_
    refine zz_callV1i cv_X12_51 rfl (Nat.lt_of_lt_of_le (by decide) hn) (Nat.le_of_ble_eq_true rfl) (by decide) (by decide) dX12_voice_20 (t_X12_errs hn hr 1 (by decide) (by decide) ⟨_, rfl, ?_⟩)
    refine zz_iret rfl dX12_voice_23 (by decide) (by decide) ?_
    first
      | (rw [sp_voice, if_pos (by rw [sp_isw, ms_51]; exact ic_2)] at h; exact ms_er (by decide) h)
      | (rw [sp_voice, if_neg (fun q => q ⟨ia_2, by rw [ms_51]; exact ib_2⟩), if_pos o_11] at h; exact ms_er (by decide) h)
