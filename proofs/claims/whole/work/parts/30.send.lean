def sp_byte (word : Int64) (k : Nat) : Int32 := ((word >>> ((8 * nI k).toInt64 &&& 63)) &&& 255).toInt32
def sp_fd (S : zz_G) (t : Nat) (word : Int64) : Nat → zz_G
  | 0 => S
  | k + 1 => zz_u (zz_u (sp_fd S t word k) 51 (106 + t + k) (sp_byte word k)) 51 3 (nI (t + k + 1))
def sp_feed (S : zz_G) (word : Int64) (m : Int32) : Int32 × zz_G := if m < 1 ∨ 8 < m then sp_err S 1 else if S 51 3 + m ≤ 50 then (nI ((S 51 3).toNatClampNeg + m.toNatClampNeg), sp_fd S (S 51 3).toNatClampNeg word m.toNatClampNeg) else sp_err S 4
theorem sp_fd_3 {S : zz_G} {t : Nat} {word : Int64} (h : S 51 3 = nI t) : ∀ k, sp_fd S t word k 51 3 = nI (t + k)
  | 0 => h
  | k + 1 => zz_u_same _ _ _ _
theorem sp_fd_F {g : zz_G} {t : Nat} {word : Int64} : ∀ k, ms_F g (sp_fd g t word k) (sp_fd (ms_S g) t word k)
  | 0 => ms_F.rf
  | k + 1 => ((sp_fd_F k).u rfl (by decide)).u rfl (by decide)
set_option maxRecDepth 100000 in
set_option maxHeartbeats 4000000 in
theorem l_X12_feed {C : zz_C} {d n : Nat} {g : zz_G} {r : zz_R} {Q : zz_Q} (hn : 60 ≤ n) (hr : xr r) {word : Int64} {m : Int32} (t b : Nat) (hm : m = nI b) (hb : b ≤ 8) (htb : t + b ≤ 50) (ht : g 51 3 = nI t) (h : Q (some (.int (nI (t + b)))) (sp_fd g t word b) r n) : ∀ (k : Nat) (j : Nat), j ≤ b → b - j < k → zz_Z C mi_X12_feed (d + 1) 0 0 0 0 40 [some (.ref 50), some (.long word), none, some (.int m), some (.int (nI j))] [] (sp_fd g t word j) r n Q := by
  intro k
  induction k with
  | zero => intro j hj hk; exact absurd hk (by omega)
  | succ k ih =>
    intro j hj hk
    refine zz_iload_4 dX12_feed_40 ?_
    refine zz_iload_3 dX12_feed_42 ?_
    refine zz_icmp_ge 88 dX12_feed_43 (by decide) (fun c_43 => ?_) (fun c_43 => ?_)
    · skip
      refine zz_aload_0 dX12_feed_88 ?_
      refine zz_getR fl_X12_7 rfl rfl (Nat.lt_of_lt_of_le (by decide) hn) (xr_50_0 hr) dX12_feed_89 ?_
      refine zz_iconst (3) dX12_feed_92 (by decide) ?_
      refine zz_iald 3 (by decide) (by decide) (by decide) rfl (Nat.lt_of_lt_of_le (by decide) hn) dX12_feed_93 ?_
      refine zz_iret rfl dX12_feed_94 (by decide) (by decide) ?_
      rw [hm] at c_43
      have := zz_gei c_43 (by omega) (by omega)
      rw [show j = b by omega, sp_fd_3 ht]
      exact h
    · skip
      refine zz_aload_0 dX12_feed_46 ?_
      refine zz_getR fl_X12_7 rfl rfl (Nat.lt_of_lt_of_le (by decide) hn) (xr_50_0 hr) dX12_feed_47 ?_
      refine zz_bipush (106) dX12_feed_50 (by decide) ?_
      refine zz_aload_0 dX12_feed_52 ?_
      refine zz_getR fl_X12_7 rfl rfl (Nat.lt_of_lt_of_le (by decide) hn) (xr_50_0 hr) dX12_feed_53 ?_
      refine zz_iconst (3) dX12_feed_56 (by decide) ?_
      refine zz_iald 3 (by decide) (by decide) (by decide) rfl (Nat.lt_of_lt_of_le (by decide) hn) dX12_feed_57 ?_
      refine zz_iadd dX12_feed_58 ?_
      refine zz_lload_1 dX12_feed_59 ?_
      refine zz_bipush (8) dX12_feed_60 (by decide) ?_
      refine zz_iload_4 dX12_feed_62 ?_
      refine zz_imul dX12_feed_64 ?_
      refine zz_lshr dX12_feed_65 ?_
      refine zz_ldc2 dX12_feed_66 ct_X12_148 ?_
      refine zz_land dX12_feed_69 ?_
      refine zz_l2i dX12_feed_70 ?_
      refine zz_isN (106 + t + j) (by rw [sp_fd_3 ht]; show nI 106 + nI (t + j) = _; rw [nI_add]; congr 1; omega) (by rw [hm] at c_43; have := zz_lti c_43 (by omega) (by omega); omega) (by decide) rfl (Nat.lt_of_lt_of_le (by decide) hn) dX12_feed_71 ?_
      refine zz_aload_0 dX12_feed_72 ?_
      refine zz_getR fl_X12_7 rfl rfl (Nat.lt_of_lt_of_le (by decide) hn) (xr_50_0 hr) dX12_feed_73 ?_
      refine zz_iconst (3) dX12_feed_76 (by decide) ?_
      refine zz_dup2 dX12_feed_77 rfl rfl ?_
      refine zz_iald 3 (by decide) (by decide) (by decide) rfl (Nat.lt_of_lt_of_le (by decide) hn) dX12_feed_78 ?_
      refine zz_iconst (1) dX12_feed_79 (by decide) ?_
      refine zz_iadd dX12_feed_80 ?_
      refine zz_iast 3 (by decide) (by decide) (by decide) rfl (Nat.lt_of_lt_of_le (by decide) hn) dX12_feed_81 ?_
      refine zz_iinc_4 (1) dX12_feed_82 rfl rfl (by decide) ?_
      refine zz_goto 40 dX12_feed_85 (by decide) ?_
      rw [hm] at c_43
      have hlt := zz_lti c_43 (by omega) (by omega)
      rw [zz_u_ne2 _ _ (show 3 ≠ 106 + t + j by omega), sp_fd_3 ht, nI_1, nI_1]
      exact ih (j + 1) (by omega) (by omega)

set_option maxRecDepth 100000 in
set_option maxHeartbeats 4000000 in
theorem t_X12_feed {C : zz_C} {d n : Nat} {g : zz_G} {r : zz_R} {Q : zz_Q} (hn : 60 ≤ n) (hr : xr r) {word : Int64} {m : Int32} (t : Nat) (ht : g 51 3 = nI t) (ht5 : t ≤ 50) (h : ms_o g r n Q (sp_feed (ms_S g) word m)) : zz_T C mi_X12_feed (d + 1) 0 0 [.ref 50, .long word, .int m] g r n Q := by
  refine zz_T.of [some (.ref 50), some (.long word), none, some (.int m), none] (by decide +kernel) rfl (Nat.le_of_ble_eq_true rfl) ?_
  refine zz_iload_3 dX12_feed_0 ?_
  refine zz_iconst (1) dX12_feed_1 (by decide) ?_
  refine zz_bipush (8) dX12_feed_2 (by decide) ?_
  refine zz_callS3i cs_X12_38 (Nat.le_of_ble_eq_true rfl) (by decide) (by decide) dX12_feed_4 (t_X12_in (fun a_4 b_4 => ⟨_, rfl, ?_⟩) (fun o_4 => ⟨_, rfl, ?_⟩))
  · skip
    refine zz_if_ne 17 dX12_feed_7 (by decide) (fun _ => ?_) (fun h => absurd h (by decide))
    refine zz_aload_0 dX12_feed_17 ?_
    refine zz_getR fl_X12_7 rfl rfl (Nat.lt_of_lt_of_le (by decide) hn) (xr_50_0 hr) dX12_feed_18 ?_
    refine zz_iconst (3) dX12_feed_21 (by decide) ?_
    refine zz_iald 3 (by decide) (by decide) (by decide) rfl (Nat.lt_of_lt_of_le (by decide) hn) dX12_feed_22 ?_
    refine zz_iload_3 dX12_feed_23 ?_
    refine zz_iadd dX12_feed_24 ?_
    refine zz_bipush (50) dX12_feed_25 (by decide) ?_
    refine zz_icmp_le 37 dX12_feed_27 (by decide) (fun c_27 => ?_) (fun c_27 => ?_)
    · skip
      refine zz_iconst (0) dX12_feed_37 (by decide) ?_
      refine zz_istore_4 dX12_feed_38 rfl rfl ?_
      obtain ⟨b, hb0, hb8, eb⟩ := zz_in0 (lo := 1) (hi := 8) rfl rfl (by decide) (by decide) a_4 b_4
      have htb : t + b ≤ 50 := by
        rw [ht, eb, nI_add] at c_27
        exact zz_gei (b := t + b) (a := 50) c_27 (by omega) (by omega)
      rw [sp_feed, if_neg (fun q => q.elim a_4 b_4), if_pos (by rw [ms_51]; exact c_27), ms_51, ht, eb, ix_w (by omega), ix_w (by omega)] at h
      exact l_X12_feed (d := d) hn hr t b eb hb8 htb ht (h _ (sp_fd_F b)) 9 0 (by omega) (by omega)
    · skip
      refine zz_aload_0 dX12_feed_30 ?_
      refine zz_ldc dX12_feed_31 ct_X12_55 ?_
      refine zz_callV1i cv_X12_51 rfl (Nat.lt_of_lt_of_le (by decide) hn) (Nat.le_of_ble_eq_true rfl) (by decide) (by decide) dX12_feed_33 (t_X12_errs hn hr 4 (by decide) (by decide) ⟨_, rfl, ?_⟩)
      refine zz_iret rfl dX12_feed_36 (by decide) (by decide) ?_
      rw [sp_feed, if_neg (fun q => q.elim a_4 b_4), if_neg (by rw [ms_51]; exact c_27)] at h
      exact ms_er (by decide) h
  · skip
    refine zz_if_ne 17 dX12_feed_7 (by decide) (fun h => absurd h (by decide)) (fun _ => ?_)
    refine zz_aload_0 dX12_feed_10 ?_
    refine zz_ldc dX12_feed_11 ct_X12_50 ?_
    refine zz_callV1i cv_X12_51 rfl (Nat.lt_of_lt_of_le (by decide) hn) (Nat.le_of_ble_eq_true rfl) (by decide) (by decide) dX12_feed_13 (t_X12_errs hn hr 1 (by decide) (by decide) ⟨_, rfl, ?_⟩)
    refine zz_iret rfl dX12_feed_16 (by decide) (by decide) ?_
    rw [sp_feed, if_pos o_4] at h
    exact ms_er (by decide) h
