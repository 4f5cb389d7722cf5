theorem zb_i : (∀ i : Fin 32, 8 ≤ i.1 → (255#32).getLsbD i.1 = false) ∧ (∀ i : Fin 32, i.1 < 8 → (255#32).getLsbD i.1 = true) ∧ (∀ i : Fin 32, 8 ≤ i.1 → (255#64).getLsbD i.1 = false) ∧ ∀ i : Fin 32, i.1 < 8 → (255#64).getLsbD i.1 = true := by decide +kernel
theorem zb_k (w : BitVec 64) (c : Nat) (hc : c ≤ 56) : (w >>> c).setWidth 32 &&& 255#32 = ((w.sshiftRight c) &&& 255#64).setWidth 32 := by
  apply BitVec.eq_of_getLsbD_eq
  intro i hi
  obtain ⟨q1, q2, q3, q4⟩ := zb_i
  rw [BitVec.getLsbD_and, BitVec.getLsbD_setWidth, BitVec.getLsbD_setWidth, BitVec.getLsbD_and, BitVec.getLsbD_ushiftRight, BitVec.getLsbD_sshiftRight]
  by_cases h8 : i < 8
  · rw [q2 ⟨i, hi⟩ h8, q4 ⟨i, hi⟩ h8, if_pos (by omega)]
    have h64 : ¬ 64 ≤ i := by omega
    simp [hi, h64]
  · rw [q1 ⟨i, hi⟩ (show 8 ≤ i by omega), q3 ⟨i, hi⟩ (show 8 ≤ i by omega)]
    simp
theorem zb_byte (word : Int64) : ∀ k, k < 8 → (word.toUInt64 >>> ((8 * nI k).toInt64.toUInt64 &&& Int64.toUInt64 63)).toInt64.toInt32 &&& 255 = sp_byte word k := by
  intro k hk
  apply Int32.toBitVec_inj.mp
  have h1 : ((8 * nI k).toInt64.toUInt64 &&& Int64.toUInt64 63).toBitVec % 64 = BitVec.ofNat 64 (8 * k) ∧ ((8 * nI k).toInt64 &&& 63).toBitVec.smod 64 = BitVec.ofNat 64 (8 * k) := (by decide +kernel : ∀ k : Fin 8, ((8 * nI k.1).toInt64.toUInt64 &&& Int64.toUInt64 63).toBitVec % 64 = BitVec.ofNat 64 (8 * k.1) ∧ ((8 * nI k.1).toInt64 &&& 63).toBitVec.smod 64 = BitVec.ofNat 64 (8 * k.1)) ⟨k, hk⟩
  have h2 : (BitVec.ofNat 64 (8 * k)).toNat = 8 * k := by
    rw [BitVec.toNat_ofNat]
    exact Nat.mod_eq_of_lt (by omega)
  unfold sp_byte
  have e1 : ((word.toUInt64 >>> ((8 * nI k).toInt64.toUInt64 &&& Int64.toUInt64 63)).toInt64.toInt32 &&& 255).toBitVec = (word.toBitVec >>> (8 * k)).setWidth 32 &&& 255#32 := by
    rw [Int32.toBitVec_and, Int64.toBitVec_toInt32, BitVec.signExtend_eq_setWidth_of_le _ (by decide)]
    show ((word.toUInt64 >>> ((8 * nI k).toInt64.toUInt64 &&& Int64.toUInt64 63)).toBitVec).setWidth 32 &&& 255#32 = _
    rw [UInt64.toBitVec_shiftRight, h1.1, BitVec.ushiftRight_eq', h2]
    rfl
  have e2 : ((word >>> ((8 * nI k).toInt64 &&& 63)) &&& 255).toInt32.toBitVec = ((word.toBitVec.sshiftRight (8 * k)) &&& 255#64).setWidth 32 := by
    rw [Int64.toBitVec_toInt32, BitVec.signExtend_eq_setWidth_of_le _ (by decide), Int64.toBitVec_and]
    show ((word >>> ((8 * nI k).toInt64 &&& 63)).toBitVec &&& 255#64).setWidth 32 = _
    rw [Int64.toBitVec_shiftRight, h1.2, BitVec.sshiftRight_eq', h2]
  rw [e1, e2]
  exact zb_k _ _ (by omega)
set_option maxRecDepth 100000 in
set_option maxHeartbeats 4000000 in
theorem l_X11_feed {C : zz_C} {d n : Nat} {g : zz_G} {r : zz_R} {Q : zz_Q} {S : zz_G} (hx : x_rel S g r n) {word : Int64} {m : Int32} (t b : Nat) (hm : m = nI b) (hb : b ≤ 8) (htb : t + b ≤ 50) (ht : S 51 3 = nI t) (h : x_o g Q (nI (t + b), sp_fd S t word b)) : ∀ (k : Nat) (j : Nat) (g1 : zz_G), j ≤ b → x_F g g1 r n (sp_fd S t word j) → b - j < k → zz_Z C mi_X11_feed (d + 1) 0 0 0 0 40 [some (.ref 0), some (.long word), none, some (.int m), some (.int (nI j))] [] g1 r n Q := by
  intro k
  induction k with
  | zero => intro j g1 hj hF hk; exact absurd hk (by omega)
  | succ k ih =>
    intro j g1 hj hF hk
    have hn := hx.nn
    have hr := hx.1
    have e3 : g1 1 11 = nI (t + j) := (x_s3 hF.1).symm.trans (sp_fd_3 ht j)
    refine zz_iload_4 dX11_feed_40 ?_
    refine zz_iload_3 dX11_feed_42 ?_
    refine zz_icmp_ge 92 dX11_feed_43 (by decide) (fun c_43 => ?_) (fun c_43 => ?_)
    · skip
      refine zz_aload_0 dX11_feed_92 ?_
      refine zz_getR fl_X11_10 rfl rfl (Nat.lt_of_lt_of_le (by decide) hn) (xr_0_0 hr) dX11_feed_93 ?_
      refine zz_getI fl_X11_140 rfl rfl (Nat.lt_of_lt_of_le (by decide) hn) dX11_feed_96 ?_
      refine zz_iret rfl dX11_feed_99 (by decide) (by decide) ?_
      rw [hm] at c_43
      have := zz_gei c_43 (by omega) (by omega)
      obtain rfl : j = b := by omega
      rw [e3]
      exact h.e hF
    · skip
      rw [hm] at c_43
      have hlt := zz_lti c_43 (by omega) (by omega)
      refine zz_aload_0 dX11_feed_46 ?_
      refine zz_getR fl_X11_10 rfl rfl (Nat.lt_of_lt_of_le (by decide) hn) (xr_0_0 hr) dX11_feed_47 ?_
      refine zz_getR fl_X11_143 rfl rfl (Nat.lt_of_lt_of_le (by decide) hn) (xr_1_10 hr) dX11_feed_50 ?_
      refine zz_aload_0 dX11_feed_53 ?_
      refine zz_getR fl_X11_10 rfl rfl (Nat.lt_of_lt_of_le (by decide) hn) (xr_0_0 hr) dX11_feed_54 ?_
      refine zz_getI fl_X11_140 rfl rfl (Nat.lt_of_lt_of_le (by decide) hn) dX11_feed_57 ?_
      refine zz_lload_1 dX11_feed_60 ?_
      refine zz_bipush (8) dX11_feed_61 (by decide) ?_
      refine zz_iload_4 dX11_feed_63 ?_
      refine zz_imul dX11_feed_65 ?_
      refine zz_lushr dX11_feed_66 ?_
      refine zz_l2i dX11_feed_67 ?_
      refine zz_sipush (255) dX11_feed_68 (by decide) ?_
      refine zz_iand dX11_feed_71 ?_
      refine zz_isN (t + j) e3 (by omega) (by decide) rfl (Nat.lt_of_lt_of_le (by decide) hn) dX11_feed_72 ?_
      refine zz_aload_0 dX11_feed_73 ?_
      refine zz_getR fl_X11_10 rfl rfl (Nat.lt_of_lt_of_le (by decide) hn) (xr_0_0 hr) dX11_feed_74 ?_
      refine zz_dup dX11_feed_77 rfl ?_
      refine zz_getI fl_X11_140 rfl rfl (Nat.lt_of_lt_of_le (by decide) hn) dX11_feed_78 ?_
      refine zz_iconst (1) dX11_feed_81 (by decide) ?_
      refine zz_iadd dX11_feed_82 ?_
      refine zz_putI fl_X11_140 rfl rfl (Nat.lt_of_lt_of_le (by decide) hn) dX11_feed_83 ?_
      refine zz_iinc_4 (1) dX11_feed_86 rfl rfl (by decide) ?_
      refine zz_goto 40 dX11_feed_89 (by decide) ?_
      rw [zb_byte word j (by omega), zz_u_ne1 _ _ (by decide), e3, nI_1, nI_1]
      have h9 := (hF.tp (j := t + j) (x := sp_byte word j) (by omega)).s3 (x := nI (t + j + 1))
      rw [← Nat.add_assoc] at h9
      exact ih (j + 1) _ (by omega) h9 (by omega)

set_option maxRecDepth 100000 in
set_option maxHeartbeats 4000000 in
theorem t_X11_feed {C : zz_C} {d n : Nat} {g : zz_G} {r : zz_R} {Q : zz_Q} {S : zz_G} (hx : x_rel S g r n) {word : Int64} {m : Int32} (t : Nat) (ht : S 51 3 = nI t) (ht5 : t ≤ 50) (h : x_o g Q (sp_feed S word m)) : zz_T C mi_X11_feed (d + 1) 0 0 [.ref 0, .long word, .int m] g r n Q := by
  have hn := hx.nn
  have hr := hx.1
  refine zz_T.of [some (.ref 0), some (.long word), none, some (.int m), none] (by decide +kernel) rfl (Nat.le_of_ble_eq_true rfl) ?_
  refine zz_iload_3 dX11_feed_0 ?_
  refine zz_iconst (1) dX11_feed_1 (by decide) ?_
  refine zz_icmp_lt 11 dX11_feed_2 (by decide) (fun c_2 => ?_) (fun c_2 => ?_)
  · skip
    refine zz_aload_0 dX11_feed_11 ?_
    refine zz_iconst (1) dX11_feed_12 (by decide) ?_
    refine zz_callV1i cv_X11_86 rfl (Nat.lt_of_lt_of_le (by decide) hn) (Nat.le_of_ble_eq_true rfl) (by decide) (by decide) dX11_feed_13 (t_X11_error hn hr 1 rfl (by decide) ⟨_, rfl, ?_⟩)
    refine zz_iret rfl dX11_feed_16 (by decide) (by decide) ?_
    first
      | (rw [sp_feed, if_pos (Or.inl c_2)] at h; exact x_er hx (by decide) h)
      | (rw [sp_feed, if_pos (Or.inr (Int32.not_le.mp c_8))] at h; exact x_er hx (by decide) h)
  · skip
    refine zz_iload_3 dX11_feed_5 ?_
    refine zz_bipush (8) dX11_feed_6 (by decide) ?_
    refine zz_icmp_le 17 dX11_feed_8 (by decide) (fun c_8 => ?_) (fun c_8 => ?_)
    · skip
      refine zz_aload_0 dX11_feed_17 ?_
      refine zz_getR fl_X11_10 rfl rfl (Nat.lt_of_lt_of_le (by decide) hn) (xr_0_0 hr) dX11_feed_18 ?_
      refine zz_getI fl_X11_140 rfl rfl (Nat.lt_of_lt_of_le (by decide) hn) dX11_feed_21 ?_
      refine zz_iload_3 dX11_feed_24 ?_
      refine zz_iadd dX11_feed_25 ?_
      refine zz_bipush (50) dX11_feed_26 (by decide) ?_
      refine zz_icmp_le 37 dX11_feed_28 (by decide) (fun c_28 => ?_) (fun c_28 => ?_)
      · skip
        refine zz_iconst (0) dX11_feed_37 (by decide) ?_
        refine zz_istore_4 dX11_feed_38 rfl rfl ?_
        obtain ⟨b, hb0, hb8, eb⟩ := zz_in0 (lo := 1) (hi := 8) rfl rfl (by decide) (by decide) c_2 (fun z8 => absurd c_8 (Int32.not_le.mpr z8))
        have htb : t + b ≤ 50 := by
          rw [← x_s3 hx, ht, eb, nI_add] at c_28
          exact zz_gei (b := t + b) (a := 50) c_28 (by omega) (by omega)
        rw [sp_feed, if_neg (fun z9 => z9.elim c_2 (fun z8 => absurd c_8 (Int32.not_le.mpr z8))), if_pos (by rw [x_s3 hx]; exact c_28), ht, eb, ix_w (by omega), ix_w (by omega)] at h
        exact l_X11_feed (d := d) hx t b eb hb8 htb ht h 9 0 g (by omega) (x_F.rf hx) (by omega)
      · skip
        refine zz_aload_0 dX11_feed_31 ?_
        refine zz_iconst (4) dX11_feed_32 (by decide) ?_
        refine zz_callV1i cv_X11_86 rfl (Nat.lt_of_lt_of_le (by decide) hn) (Nat.le_of_ble_eq_true rfl) (by decide) (by decide) dX11_feed_33 (t_X11_error hn hr 4 rfl (by decide) ⟨_, rfl, ?_⟩)
        refine zz_iret rfl dX11_feed_36 (by decide) (by decide) ?_
        rw [sp_feed, if_neg (fun z9 => z9.elim c_2 (fun z8 => absurd c_8 (Int32.not_le.mpr z8))), if_neg (by rw [x_s3 hx]; exact c_28)] at h
        exact x_er hx (by decide) h
    · skip
      refine zz_aload_0 dX11_feed_11 ?_
      refine zz_iconst (1) dX11_feed_12 (by decide) ?_
      refine zz_callV1i cv_X11_86 rfl (Nat.lt_of_lt_of_le (by decide) hn) (Nat.le_of_ble_eq_true rfl) (by decide) (by decide) dX11_feed_13 (t_X11_error hn hr 1 rfl (by decide) ⟨_, rfl, ?_⟩)
      refine zz_iret rfl dX11_feed_16 (by decide) (by decide) ?_
      first
        | (rw [sp_feed, if_pos (Or.inl c_2)] at h; exact x_er hx (by decide) h)
        | (rw [sp_feed, if_pos (Or.inr (Int32.not_le.mp c_8))] at h; exact x_er hx (by decide) h)

set_option maxRecDepth 100000 in
set_option maxHeartbeats 4000000 in
theorem t_X11_draw {C : zz_C} {d n : Nat} {g : zz_G} {r : zz_R} {Q : zz_Q} {S : zz_G} (hx : x_rel S g r n) (h : ∀ g', x_F g g' r n (sp_z1 S) → Q (some (.int (sp_dr (S 51 1)))) g' r n) : zz_T C mi_X11_draw d 0 0 [.ref 0] g r n Q := by
  refine zz_T.of [some (.ref 0)] (by decide +kernel) rfl (Nat.le_of_ble_eq_true rfl) ?_
  have hn := hx.nn
  have hr := hx.1
  refine zz_aload_0 dX11_draw_0 ?_
  refine zz_getR fl_X11_10 rfl rfl (Nat.lt_of_lt_of_le (by decide) hn) (xr_0_0 hr) dX11_draw_1 ?_
  refine zz_aload_0 dX11_draw_4 ?_
  refine zz_getR fl_X11_10 rfl rfl (Nat.lt_of_lt_of_le (by decide) hn) (xr_0_0 hr) dX11_draw_5 ?_
  refine zz_getI fl_X11_228 rfl rfl (Nat.lt_of_lt_of_le (by decide) hn) dX11_draw_8 ?_
  refine zz_ldc dX11_draw_11 ct_X11_231 ?_
  refine zz_imul dX11_draw_13 ?_
  refine zz_sipush (12345) dX11_draw_14 (by decide) ?_
  refine zz_iadd dX11_draw_17 ?_
  refine zz_putI fl_X11_228 rfl rfl (Nat.lt_of_lt_of_le (by decide) hn) dX11_draw_18 ?_
  refine zz_aload_0 dX11_draw_21 ?_
  refine zz_getR fl_X11_10 rfl rfl (Nat.lt_of_lt_of_le (by decide) hn) (xr_0_0 hr) dX11_draw_22 ?_
  refine zz_getI fl_X11_228 rfl rfl (Nat.lt_of_lt_of_le (by decide) hn) dX11_draw_25 ?_
  refine zz_bipush (8) dX11_draw_28 (by decide) ?_
  refine zz_iushr dX11_draw_30 ?_
  refine zz_iret rfl dX11_draw_31 (by decide) (by decide) ?_
  rw [zz_u_same]
  have h9 := h _ (by unfold sp_z1; exact (x_F.rf hx).s1)
  rw [x_s1 hx] at h9
  exact h9

/-- the rows of the codes, the oldest one last: after q - 1 of ten steps -/
def ro_ (r : zz_R) (q : Nat) : zz_R := fun a b => if a = 10 ∧ b + 1 < q then r 10 (b + 1) else r a b
theorem ro_1 (r : zz_R) : ro_ r 1 = r := by
  funext a b
  exact if_neg (by omega)
theorem ro_s (r : zz_R) {q : Nat} (hq : 1 ≤ q) {o : Option Nat} (e : r 10 q = o) : zz_ur (ro_ r q) 10 (q - 1) o = ro_ r (q + 1) := by
  funext a b
  unfold zz_ur ro_
  by_cases h : a = 10 ∧ b = q - 1
  · rw [if_pos h, if_pos (by omega), ← e, show b + 1 = q by omega]
  · rw [if_neg h]
    by_cases h2 : a = 10 ∧ b + 1 < q
    · rw [if_pos h2, if_pos (by omega)]
    · rw [if_neg h2, if_neg (by omega)]
theorem ro_at (r : zz_R) {q b : Nat} (h : q ≤ b + 1) : ro_ r q 10 b = r 10 b := if_neg (by omega)
theorem ro_row (r : zz_R) {q a : Nat} (h : a ≠ 10) : ro_ r q a = r a := funext fun b => if_neg (by omega)
def ro_F (r : zz_R) : zz_R := fun a b => if a = 10 then (if b < 9 then r 10 (b + 1) else if b = 9 then r 10 0 else r 10 b) else r a b
theorem ro_end (r : zz_R) : zz_ur (ro_ r 10) 10 9 (r 10 0) = ro_F r := by
  funext a b
  unfold zz_ur ro_ ro_F
  by_cases h : a = 10
  · subst h
    rw [if_pos rfl]
    by_cases h9 : b = 9
    · rw [if_pos ⟨rfl, h9⟩, if_neg (by omega), if_pos h9]
    · rw [if_neg (by omega)]
      by_cases h8 : b < 9
      · rw [if_pos (by omega), if_pos h8]
      · rw [if_neg (by omega), if_neg h8, if_neg h9]
  · rw [if_neg (by omega), if_neg (by omega), if_neg h]
theorem xr_ro {r : zz_R} (hr : xr r) {q : Nat} : xr (ro_ r q) := by
  have d1 : ∀ q ∈ xr_l, q.1 ≠ 10 := by decide
  intro p hp
  rw [ro_row r (d1 p hp)]
  exact hr p hp
set_option maxRecDepth 100000 in
set_option maxHeartbeats 4000000 in
theorem l_X0_roomForCode {C : zz_C} {d n : Nat} {g : zz_G} {r : zz_R} {Q : zz_Q} {S : zz_G} (hx : x_rel S g r n) (a0 : Nat) (h0 : r 10 0 = some a0) (ha0 : ∃ i, i < 10 ∧ a0 = 11 + i) (h : Q (some (.ref a0)) g (ro_F r) n) : ∀ (k : Nat) (q : Nat), 1 ≤ q → q ≤ 10 → 10 - q < k → zz_Z C mi_X0_roomForCode d 0 0 0 0 40 [some (.ref 1), some (.ref a0), some (.int (nI q))] [] g (ro_ r q) n Q := by
  intro k
  induction k with
  | zero => intro q hq1 hq hk; exact absurd hk (by omega)
  | succ k ih =>
    intro q hq1 hq hk
    have hn := hx.nn
    have hr := xr_ro (q := q) hx.1
    obtain ⟨pi, p1, p2, p3⟩ := x_cd hx
    obtain ⟨i0, hi0, ei0⟩ := ha0
    refine zz_iload_2 dX0_roomForCode_40 ?_
    refine zz_bipush (10) dX0_roomForCode_41 (by decide) ?_
    refine zz_icmp_ge 66 dX0_roomForCode_43 (by decide) (fun c_43 => ?_) (fun c_43 => ?_)
    · skip
      refine zz_aload_0 dX0_roomForCode_66 ?_
      refine zz_getR fl_X0_39 rfl rfl (Nat.lt_of_lt_of_le (by decide) hn) (xr_1_8 hr) dX0_roomForCode_67 ?_
      refine zz_bipush (9) dX0_roomForCode_70 (by decide) ?_
      refine zz_aload_1 dX0_roomForCode_72 ?_
      have hge := zz_gei (b := 10) c_43 (by omega) (by omega)
      obtain rfl : q = 10 := by omega
      refine zz_aast3 9 rfl (by omega) (by decide) rfl (Nat.lt_of_lt_of_le (by decide) hn) (by rw [ei0]; exact xs_code i0 hi0) (by omega) dX0_roomForCode_73 ?_
      refine zz_aload_1 dX0_roomForCode_74 ?_
      refine zz_aret rfl (by first | exact Or.inl ⟨_, rfl⟩ | exact Or.inr ⟨_, rfl⟩) dX0_roomForCode_75 (by decide) (by decide) ?_
      rw [← h0, ro_end]
      exact h
    · skip
      have hlt := zz_lti (b := 10) c_43 (by omega) (by omega)
      refine zz_aload_0 dX0_roomForCode_46 ?_
      refine zz_getR fl_X0_39 rfl rfl (Nat.lt_of_lt_of_le (by decide) hn) (xr_1_8 hr) dX0_roomForCode_47 ?_
      refine zz_iload_2 dX0_roomForCode_50 ?_
      refine zz_iconst (1) dX0_roomForCode_51 (by decide) ?_
      refine zz_isub dX0_roomForCode_52 ?_
      refine zz_aload_0 dX0_roomForCode_53 ?_
      refine zz_getR fl_X0_39 rfl rfl (Nat.lt_of_lt_of_le (by decide) hn) (xr_1_8 hr) dX0_roomForCode_54 ?_
      refine zz_iload_2 dX0_roomForCode_57 ?_
      refine zz_aaN q rfl hlt (by decide) (by decide) rfl (Nat.lt_of_lt_of_le (by decide) hn) (by rw [ro_at r (by omega)]; exact (p1 q hlt).2) dX0_roomForCode_58 ?_
      refine zz_aast3 (q - 1) (by rw [← nI_pred (q - 1), show q - 1 + 1 = q by omega]) (by omega) (by decide) rfl (Nat.lt_of_lt_of_le (by decide) hn) (xs_code (pi q) (p1 q hlt).1) (by have := (p1 q hlt).1; omega) dX0_roomForCode_59 ?_
      refine zz_iinc_2 (1) dX0_roomForCode_60 rfl rfl (by decide) ?_
      refine zz_goto 40 dX0_roomForCode_63 (by decide) ?_
      rw [ro_s r hq1 (p1 q hlt).2, nI_1]
      exact ih (q + 1) (by omega) (by omega) (by omega)

set_option maxRecDepth 100000 in
set_option maxHeartbeats 4000000 in
theorem t_X0_roomForCode {C : zz_C} {d n : Nat} {g : zz_G} {r : zz_R} {Q : zz_Q} {S : zz_G} (hx : x_rel S g r n) (cw : Nat) (hcw : S 51 7 = nI cw) (hcw6 : cw ≤ 10) (h0 : cw < 10 → ∀ i, i < 10 → r 10 cw = some (11 + i) → Q (some (.ref (11 + i))) (zz_u g 1 9 (nI (cw + 1))) r n) (h1 : cw = 10 → ∀ i, i < 10 → r 10 0 = some (11 + i) → Q (some (.ref (11 + i))) g (ro_F r) n) : zz_T C mi_X0_roomForCode d 0 0 [.ref 1] g r n Q := by
  have hn := hx.nn
  have hr := hx.1
  have hcw1 : g 1 9 = nI cw := (x_s7 hx).symm.trans hcw
  obtain ⟨pi, p1, p2, p3⟩ := x_cd hx
  refine zz_T.of [some (.ref 1), none, none] (by decide +kernel) rfl (Nat.le_of_ble_eq_true rfl) ?_
  refine zz_aload_0 dX0_roomForCode_0 ?_
  refine zz_getI fl_X0_42 rfl rfl (Nat.lt_of_lt_of_le (by decide) hn) dX0_roomForCode_1 ?_
  refine zz_bipush (10) dX0_roomForCode_4 (by decide) ?_
  refine zz_icmp_ge 31 dX0_roomForCode_6 (by decide) (fun c_6 => ?_) (fun c_6 => ?_)
  · skip
    refine zz_aload_0 dX0_roomForCode_31 ?_
    refine zz_getR fl_X0_39 rfl rfl (Nat.lt_of_lt_of_le (by decide) hn) (xr_1_8 hr) dX0_roomForCode_32 ?_
    refine zz_iconst (0) dX0_roomForCode_35 (by decide) ?_
    refine zz_aaN 0 rfl (by omega) (by decide) (by decide) rfl (Nat.lt_of_lt_of_le (by decide) hn) (p1 0 (by omega)).2 dX0_roomForCode_36 ?_
    refine zz_astore_1 dX0_roomForCode_37 rfl rfl ?_
    refine zz_iconst (1) dX0_roomForCode_38 (by decide) ?_
    refine zz_istore_2 dX0_roomForCode_39 rfl rfl ?_
    rw [hcw1] at c_6
    have h10 : cw = 10 := by
      have := (nI_leI (a := 10) (b := cw) (by omega) (by omega)).mp c_6
      omega
    have h9 := l_X0_roomForCode (C := C) (d := d) hx (11 + pi 0) (p1 0 (by omega)).2 ⟨pi 0, (p1 0 (by omega)).1, rfl⟩ (h1 h10 (pi 0) (p1 0 (by omega)).1 (p1 0 (by omega)).2) 10 1 (by omega) (by omega) (by omega)
    rw [ro_1] at h9
    exact h9
  · skip
    refine zz_aload_0 dX0_roomForCode_9 ?_
    refine zz_dup dX0_roomForCode_10 rfl ?_
    refine zz_getI fl_X0_42 rfl rfl (Nat.lt_of_lt_of_le (by decide) hn) dX0_roomForCode_11 ?_
    refine zz_iconst (1) dX0_roomForCode_14 (by decide) ?_
    refine zz_iadd dX0_roomForCode_15 ?_
    refine zz_putI fl_X0_42 rfl rfl (Nat.lt_of_lt_of_le (by decide) hn) dX0_roomForCode_16 ?_
    refine zz_aload_0 dX0_roomForCode_19 ?_
    refine zz_getR fl_X0_39 rfl rfl (Nat.lt_of_lt_of_le (by decide) hn) (xr_1_8 hr) dX0_roomForCode_20 ?_
    refine zz_aload_0 dX0_roomForCode_23 ?_
    refine zz_getI fl_X0_42 rfl rfl (Nat.lt_of_lt_of_le (by decide) hn) dX0_roomForCode_24 ?_
    refine zz_iconst (1) dX0_roomForCode_27 (by decide) ?_
    refine zz_isub dX0_roomForCode_28 ?_
    have hlt : cw < 10 := by
      rw [hcw1] at c_6
      exact Nat.lt_of_not_le fun z9 => c_6 ((nI_leI (a := 10) (b := cw) (by omega) (by omega)).mpr z9)
    rw [zz_u_same, hcw1, nI_1, nI_pred]
    refine zz_aaN cw rfl hlt (by decide) (by decide) rfl (Nat.lt_of_lt_of_le (by decide) hn) (p1 cw hlt).2 dX0_roomForCode_29 ?_
    refine zz_aret rfl (by first | exact Or.inl ⟨_, rfl⟩ | exact Or.inr ⟨_, rfl⟩) dX0_roomForCode_30 (by decide) (by decide) ?_
    exact h0 hlt (pi cw) (p1 cw hlt).1 (p1 cw hlt).2

theorem x_F.and2 {g g1 g2 S1 S2 : zz_G} {r r' : zz_R} {n : Nat} (h : x_F g g1 r n S1) (h2 : x_F g1 g2 r' n S2) : x_F g g2 r' n S2 := ⟨h2.1, fun k a b => (h2.2 k a b).trans (h.2 k a b)⟩
theorem wr_cg {R R' : Nat → Int32} (h : wr R) (e : ∀ j, (j < 46 ∧ j ≠ 1) ∨ (106 ≤ j ∧ j < 156) → R' j = R j) : wr R' := by
  obtain ⟨⟨a0, a2, a3, a4, a7, a8, a9, a10, a11⟩, b, c⟩ := h
  refine ⟨⟨?_, ?_, ?_, ?_, ?_, ?_, ?_, ?_, ?_⟩, fun w hw => ?_, fun j hj => ?_⟩
  · rw [e _ (by decide)]; exact a0
  · rw [e _ (by decide)]; exact a2
  · rw [e _ (by decide)]; exact a3
  · rw [e _ (by decide)]; exact a4
  · rw [e _ (by decide)]; exact a7
  · rw [e _ (by decide)]; exact a8
  · rw [e _ (by decide)]; exact a9
  · rw [e _ (by decide)]; exact a10
  · rw [e _ (by decide)]; exact a11
  · unfold ww
    rw [e _ (by omega), e _ (by omega), e _ (by omega), e _ (by omega), e _ (by omega)]
    exact b w hw
  · rw [e _ (by omega)]
    exact c j hj
/-- the state as the class writes a code -/
def as_c (A : zz_G) (c : Nat) (v num late lasts : Int32) : zz_G := zz_u (zz_u (zz_u (zz_u (zz_u (zz_u (zz_u A 51 (46 + 6 * c + 0) v) 51 1 (A 51 1 * 1103515245 + 12345)) 51 (46 + 6 * c + 1) num) 51 (46 + 6 * c + 2) (A 51 0)) 51 (46 + 6 * c + 3) (A 51 0 + late)) 51 (46 + 6 * c + 4) (A 51 0 + lasts)) 51 (46 + 6 * c + 5) 0
theorem as_eq {A B : zz_G} {c : Nat} {v num l1 l2 : Int32} (hc : c ≤ 9) (h7 : A 51 7 = nI (c + 1)) (h0 : B 51 0 = A 51 0) (h1 : B 51 1 = A 51 1 * 1103515245 + 12345) (hAB : ∀ a b, ¬ (a = 51 ∧ (b = 7 ∨ b = 1 ∨ (46 + 6 * c ≤ b ∧ b < 46 + 6 * c + 6))) → A a b = B a b) :
    as_c A c v num l1 l2 = zz_u (zz_u (zz_u (zz_u (zz_u (zz_u (zz_u B 51 (46 + 6 * c) v) 51 (46 + 6 * c + 1) num) 51 (46 + 6 * c + 2) (B 51 0)) 51 (46 + 6 * c + 3) (B 51 0 + l1)) 51 (46 + 6 * c + 4) (B 51 0 + l2)) 51 (46 + 6 * c + 5) 0) 51 7 (nI (c + 1)) := by
  rw [h0]
  funext a b
  by_cases ha : a = 51
  · subst ha
    by_cases hb : b = 7 ∨ b = 1 ∨ (46 + 6 * c ≤ b ∧ b < 46 + 6 * c + 6)
    · rcases hb with hb | hb | hb
      · subst hb
        unfold as_c
        rw [zz_u_same, zz_u_ne2 _ _ (by omega), zz_u_ne2 _ _ (by omega), zz_u_ne2 _ _ (by omega), zz_u_ne2 _ _ (by omega), zz_u_ne2 _ _ (by omega), zz_u_ne2 _ _ (by omega), zz_u_ne2 _ _ (by omega), h7]
      · subst hb
        unfold as_c
        simp only [zz_u_ne2 _ _ (show (1 : Nat) ≠ 46 + 6 * c by omega), zz_u_ne2 _ _ (show (1 : Nat) ≠ 46 + 6 * c + 0 by omega), zz_u_ne2 _ _ (show (1 : Nat) ≠ 46 + 6 * c + 1 by omega), zz_u_ne2 _ _ (show (1 : Nat) ≠ 46 + 6 * c + 2 by omega), zz_u_ne2 _ _ (show (1 : Nat) ≠ 46 + 6 * c + 3 by omega), zz_u_ne2 _ _ (show (1 : Nat) ≠ 46 + 6 * c + 4 by omega), zz_u_ne2 _ _ (show (1 : Nat) ≠ 46 + 6 * c + 5 by omega), zz_u_ne2 _ _ (show (1 : Nat) ≠ 7 by omega), zz_u_same, h1]
      · obtain ⟨j, hj, rfl⟩ : ∃ j, j < 6 ∧ b = 46 + 6 * c + j := ⟨b - (46 + 6 * c), by omega, by omega⟩
        unfold as_c
        rcases (show j = 0 ∨ j = 1 ∨ j = 2 ∨ j = 3 ∨ j = 4 ∨ j = 5 by omega) with e | e | e | e | e | e <;> subst e <;>
        · unfold zz_u
          repeat (first | rw [if_pos (by omega)] | rw [if_neg (by omega)])
    · have h9 := hAB 51 b (fun z9 => hb z9.2)
      unfold as_c zz_u
      repeat (first | rw [if_neg (by omega)])
      exact h9
  · have h9 := hAB a b (fun z9 => ha z9.1)
    unfold as_c zz_u
    repeat (first | rw [if_neg (by omega)])
    exact h9
set_option maxRecDepth 100000 in
set_option maxHeartbeats 4000000 in
theorem e_X11_send {C : zz_C} {d n : Nat} {g : zz_G} {r : zz_R} {Q : zz_Q} {g0 A : zz_G} (hF : x_F g0 g r n A) (hW : wr (A 51)) {v : Int32} (w c i f0 : Nat) (hw : w < 6) (ev : v = nI w) (hc : c ≤ 9) (h7 : A 51 7 = nI (c + 1)) (hi : i < 10) (ri : r 10 c = some (11 + i)) (hf0 : f0 ≤ 6) (ef0 : A 51 8 = nI f0) (h : ∀ g', x_F g0 g' r n (as_c A c v (sp_dr (A 51 1) - sp_dr (A 51 1) / sp_tn f0 * sp_tn f0) (sp_late (A 51) w (A 51 0)) (sp_lasts (A 51) w (A 51 9))) → Q (some (.int (nI c))) g' r n) : zz_Z C mi_X11_send (d + 4) 0 0 0 0 7 [some (.ref 0), some (.int v), none] [.ref (11 + i)] g r n Q := by
  have hx := hF.1
  have hn := hx.nn
  have hr := hx.1
  have hne1 : (1 : Nat) ≠ 11 + i := by omega
  have hne2 : (2 : Nat) ≠ 11 + i := by omega
  refine zz_astore_2 dX11_send_7 rfl rfl ?_
  refine zz_aload_2 dX11_send_8 ?_
  refine zz_iconst (0) dX11_send_9 (by decide) ?_
  refine zz_iload_1 dX11_send_10 ?_
  refine zz_iast 0 (by decide) (by decide) (by decide) (xs_code i hi) (by omega) dX11_send_11 ?_
  have hF0 : x_F g0 (zz_u g (11 + i) 0 v) r n (zz_u A 51 (46 + 6 * c + 0) v) := hF.cd (j := 0) (by omega) (by decide) hi ri
  refine zz_aload_2 dX11_send_12 ?_
  refine zz_iconst (1) dX11_send_13 (by decide) ?_
  refine zz_aload_0 dX11_send_14 ?_
  refine zz_callV0i cv_X11_221 rfl (Nat.lt_of_lt_of_le (by decide) hn) (Nat.le_of_ble_eq_true rfl) (by decide) (by decide) dX11_send_15 (t_X11_draw hF0.1 (fun g1_15 f1_15 => ⟨_, rfl, ?_⟩))
  have f1 : x_F (zz_u g (11 + i) 0 v) g1_15 r n (zz_u (zz_u A 51 (46 + 6 * c + 0) v) 51 1 (A 51 1 * 1103515245 + 12345)) := by
    have h9 := f1_15
    rw [sp_z1, show (zz_u A 51 (46 + 6 * c + 0) v) 51 1 = A 51 1 from zz_u_ne2 _ _ (by omega)] at h9
    exact h9
  rw [show (zz_u A 51 (46 + 6 * c + 0) v) 51 1 = A 51 1 from zz_u_ne2 _ _ (by omega)]
  have hr := f1.1.1
  have e80 : g1_15 2 0 = nI f0 := (x_s8 f1.1).symm.trans ((zz_u_ne2 _ _ (by decide)).trans ((zz_u_ne2 _ _ (by omega)).trans ef0))
  have e00 : g1_15 1 1 = A 51 0 := (x_s0 f1.1).symm.trans ((zz_u_ne2 _ _ (by decide)).trans (zz_u_ne2 _ _ (by omega)))
  have e90 : g1_15 2 1 = A 51 9 := (x_s9 f1.1).symm.trans ((zz_u_ne2 _ _ (by decide)).trans (zz_u_ne2 _ _ (by omega)))
  have e70 : g1_15 1 9 = nI (c + 1) := (x_s7 f1.1).symm.trans ((zz_u_ne2 _ _ (by decide)).trans ((zz_u_ne2 _ _ (by omega)).trans h7))
  refine zz_aload_0 dX11_send_18 ?_
  refine zz_getR fl_X11_10 rfl rfl (Nat.lt_of_lt_of_le (by decide) hn) (xr_0_0 hr) dX11_send_19 ?_
  refine zz_getR fl_X11_90 rfl rfl (Nat.lt_of_lt_of_le (by decide) hn) (xr_1_0 hr) dX11_send_22 ?_
  refine zz_iconst (0) dX11_send_25 (by decide) ?_
  refine zz_iald 0 (by decide) (by decide) (by decide) rfl (Nat.lt_of_lt_of_le (by decide) hn) dX11_send_26 ?_
  refine zz_callS1i cs_X11_236 (Nat.le_of_ble_eq_true rfl) (by decide) (by decide) dX11_send_27 (t_X11_tens f0 hf0 e80 ⟨_, rfl, ?_⟩)
  refine zz_irem dX11_send_30 (by rw [sp_tn_pow]; exact nI_ne0 (Nat.pow_pos (by decide)) (Nat.lt_of_le_of_lt (Nat.pow_le_pow_right (by decide) hf0) (by decide))) ?_
  refine zz_iast 1 (by decide) (by decide) (by decide) (xs_code i hi) (by omega) dX11_send_31 ?_
  have hF2 : x_F g0 (zz_u g1_15 (11 + i) 1 (sp_dr (A 51 1) - sp_dr (A 51 1) / sp_tn f0 * sp_tn f0)) r n (zz_u (zz_u (zz_u A 51 (46 + 6 * c + 0) v) 51 1 (A 51 1 * 1103515245 + 12345)) 51 (46 + 6 * c + 1) (sp_dr (A 51 1) - sp_dr (A 51 1) / sp_tn f0 * sp_tn f0)) := (hF0.and2 f1).cd (j := 1) (by omega) (by decide) hi ri
  refine zz_aload_2 dX11_send_32 ?_
  refine zz_iconst (2) dX11_send_33 (by decide) ?_
  refine zz_aload_0 dX11_send_34 ?_
  refine zz_getR fl_X11_10 rfl rfl (Nat.lt_of_lt_of_le (by decide) hn) (xr_0_0 hr) dX11_send_35 ?_
  refine zz_getI fl_X11_110 rfl rfl (Nat.lt_of_lt_of_le (by decide) hn) dX11_send_38 ?_
  refine zz_iast 2 (by decide) (by decide) (by decide) (xs_code i hi) (by omega) dX11_send_41 ?_
  simp only [zz_u_ne1 _ _ hne1, zz_u_ne1 _ _ hne2, e00]
  have hF3 : x_F g0 (zz_u (zz_u g1_15 (11 + i) 1 (sp_dr (A 51 1) - sp_dr (A 51 1) / sp_tn f0 * sp_tn f0)) (11 + i) 2 (A 51 0)) r n (zz_u (zz_u (zz_u (zz_u A 51 (46 + 6 * c + 0) v) 51 1 (A 51 1 * 1103515245 + 12345)) 51 (46 + 6 * c + 1) (sp_dr (A 51 1) - sp_dr (A 51 1) / sp_tn f0 * sp_tn f0)) 51 (46 + 6 * c + 2) (A 51 0)) := hF2.cd (j := 2) (by omega) (by decide) hi ri
  have hW3 : wr ((zz_u (zz_u (zz_u (zz_u A 51 (46 + 6 * c + 0) v) 51 1 (A 51 1 * 1103515245 + 12345)) 51 (46 + 6 * c + 1) (sp_dr (A 51 1) - sp_dr (A 51 1) / sp_tn f0 * sp_tn f0)) 51 (46 + 6 * c + 2) (A 51 0)) 51) := wr_cg hW (fun j hj => by simp only [zz_u_ne2 _ _ (show j ≠ 46 + 6 * c + 0 by omega), zz_u_ne2 _ _ (show j ≠ 46 + 6 * c + 1 by omega), zz_u_ne2 _ _ (show j ≠ 46 + 6 * c + 2 by omega), zz_u_ne2 _ _ (show j ≠ 1 by omega)])
  refine zz_aload_2 dX11_send_42 ?_
  refine zz_iconst (3) dX11_send_43 (by decide) ?_
  refine zz_aload_0 dX11_send_44 ?_
  refine zz_getR fl_X11_10 rfl rfl (Nat.lt_of_lt_of_le (by decide) hn) (xr_0_0 hr) dX11_send_45 ?_
  refine zz_getI fl_X11_110 rfl rfl (Nat.lt_of_lt_of_le (by decide) hn) dX11_send_48 ?_
  refine zz_aload_0 dX11_send_51 ?_
  refine zz_iload_1 dX11_send_52 ?_
  refine zz_aload_0 dX11_send_53 ?_
  refine zz_getR fl_X11_10 rfl rfl (Nat.lt_of_lt_of_le (by decide) hn) (xr_0_0 hr) dX11_send_54 ?_
  refine zz_getI fl_X11_110 rfl rfl (Nat.lt_of_lt_of_le (by decide) hn) dX11_send_57 ?_
  simp only [zz_u_ne1 _ _ hne1, zz_u_ne1 _ _ hne2, e00]
  refine zz_callV2i cv_X11_113 rfl (Nat.lt_of_lt_of_le (by decide) hn) (Nat.le_of_ble_eq_true rfl) (by decide) (by decide) dX11_send_60 (t_X11_lateAt hF3.1 hW3 w hw ev (fun g1_60 j1_60 => ⟨_, rfl, ?_⟩))
  rw [show sp_late ((zz_u (zz_u (zz_u (zz_u A 51 (46 + 6 * c + 0) v) 51 1 (A 51 1 * 1103515245 + 12345)) 51 (46 + 6 * c + 1) (sp_dr (A 51 1) - sp_dr (A 51 1) / sp_tn f0 * sp_tn f0)) 51 (46 + 6 * c + 2) (A 51 0)) 51) w (A 51 0) = (sp_late (A 51) w (A 51 0)) from sp_late_cg hw (by simp only [zz_u_ne2 _ _ (show (5 : Nat) ≠ 46 + 6 * c + 0 by omega), zz_u_ne2 _ _ (show (5 : Nat) ≠ 46 + 6 * c + 1 by omega), zz_u_ne2 _ _ (show (5 : Nat) ≠ 46 + 6 * c + 2 by omega), zz_u_ne2 _ _ (show (5 : Nat) ≠ 1 by omega)]) (fun j hj hj2 => by simp only [zz_u_ne2 _ _ (show j ≠ 46 + 6 * c + 0 by omega), zz_u_ne2 _ _ (show j ≠ 46 + 6 * c + 1 by omega), zz_u_ne2 _ _ (show j ≠ 46 + 6 * c + 2 by omega), zz_u_ne2 _ _ (show j ≠ 1 by omega)]) (fun j hj => by simp only [zz_u_ne2 _ _ (show j ≠ 46 + 6 * c + 0 by omega), zz_u_ne2 _ _ (show j ≠ 46 + 6 * c + 1 by omega), zz_u_ne2 _ _ (show j ≠ 46 + 6 * c + 2 by omega), zz_u_ne2 _ _ (show j ≠ 1 by omega)])]
  refine zz_iadd dX11_send_63 ?_
  refine zz_iast 3 (by decide) (by decide) (by decide) (xs_code i hi) (by omega) dX11_send_64 ?_
  have hF4 : x_F g0 (zz_u g1_60 (11 + i) 3 (A 51 0 + (sp_late (A 51) w (A 51 0)))) r n (zz_u (zz_u (zz_u (zz_u (zz_u A 51 (46 + 6 * c + 0) v) 51 1 (A 51 1 * 1103515245 + 12345)) 51 (46 + 6 * c + 1) (sp_dr (A 51 1) - sp_dr (A 51 1) / sp_tn f0 * sp_tn f0)) 51 (46 + 6 * c + 2) (A 51 0)) 51 (46 + 6 * c + 3) (A 51 0 + (sp_late (A 51) w (A 51 0)))) := (hF3.j j1_60).cd (j := 3) (by omega) (by decide) hi ri
  have e60 : ∀ k b, k ≠ 40 → k ≠ 11 + i → g1_60 k b = g1_15 k b := fun k b q1 q2 => by rw [j1_60 k q1, zz_u_ne1 _ _ q2, zz_u_ne1 _ _ q2]
  have e01 : g1_60 1 1 = A 51 0 := (e60 1 1 (by decide) hne1).trans e00
  have e91 : g1_60 2 1 = A 51 9 := (e60 2 1 (by decide) hne2).trans e90
  have e71 : g1_60 1 9 = nI (c + 1) := (e60 1 9 (by decide) hne1).trans e70
  have hW4 : wr ((zz_u (zz_u (zz_u (zz_u (zz_u A 51 (46 + 6 * c + 0) v) 51 1 (A 51 1 * 1103515245 + 12345)) 51 (46 + 6 * c + 1) (sp_dr (A 51 1) - sp_dr (A 51 1) / sp_tn f0 * sp_tn f0)) 51 (46 + 6 * c + 2) (A 51 0)) 51 (46 + 6 * c + 3) (A 51 0 + (sp_late (A 51) w (A 51 0)))) 51) := wr_cg hW (fun j hj => by simp only [zz_u_ne2 _ _ (show j ≠ 46 + 6 * c + 0 by omega), zz_u_ne2 _ _ (show j ≠ 46 + 6 * c + 1 by omega), zz_u_ne2 _ _ (show j ≠ 46 + 6 * c + 2 by omega), zz_u_ne2 _ _ (show j ≠ 46 + 6 * c + 3 by omega), zz_u_ne2 _ _ (show j ≠ 1 by omega)])
  refine zz_aload_2 dX11_send_65 ?_
  refine zz_iconst (4) dX11_send_66 (by decide) ?_
  refine zz_aload_0 dX11_send_67 ?_
  refine zz_getR fl_X11_10 rfl rfl (Nat.lt_of_lt_of_le (by decide) hn) (xr_0_0 hr) dX11_send_68 ?_
  refine zz_getI fl_X11_110 rfl rfl (Nat.lt_of_lt_of_le (by decide) hn) dX11_send_71 ?_
  refine zz_aload_0 dX11_send_74 ?_
  refine zz_iload_1 dX11_send_75 ?_
  refine zz_aload_0 dX11_send_76 ?_
  refine zz_getR fl_X11_10 rfl rfl (Nat.lt_of_lt_of_le (by decide) hn) (xr_0_0 hr) dX11_send_77 ?_
  refine zz_getR fl_X11_90 rfl rfl (Nat.lt_of_lt_of_le (by decide) hn) (xr_1_0 hr) dX11_send_80 ?_
  refine zz_iconst (1) dX11_send_83 (by decide) ?_
  refine zz_iald 1 (by decide) (by decide) (by decide) rfl (Nat.lt_of_lt_of_le (by decide) hn) dX11_send_84 ?_
  simp only [zz_u_ne1 _ _ hne1, zz_u_ne1 _ _ hne2, e01, e91]
  refine zz_callV2i cv_X11_117 rfl (Nat.lt_of_lt_of_le (by decide) hn) (Nat.le_of_ble_eq_true rfl) (by decide) (by decide) dX11_send_85 (t_X11_lastsWith hF4.1 hW4 w hw ev ⟨_, rfl, ?_⟩)
  rw [show sp_lasts ((zz_u (zz_u (zz_u (zz_u (zz_u A 51 (46 + 6 * c + 0) v) 51 1 (A 51 1 * 1103515245 + 12345)) 51 (46 + 6 * c + 1) (sp_dr (A 51 1) - sp_dr (A 51 1) / sp_tn f0 * sp_tn f0)) 51 (46 + 6 * c + 2) (A 51 0)) 51 (46 + 6 * c + 3) (A 51 0 + (sp_late (A 51) w (A 51 0)))) 51) w (A 51 9) = (sp_lasts (A 51) w (A 51 9)) from sp_lasts_cg hw (fun j hj hj2 => by simp only [zz_u_ne2 _ _ (show j ≠ 46 + 6 * c + 0 by omega), zz_u_ne2 _ _ (show j ≠ 46 + 6 * c + 1 by omega), zz_u_ne2 _ _ (show j ≠ 46 + 6 * c + 2 by omega), zz_u_ne2 _ _ (show j ≠ 46 + 6 * c + 3 by omega), zz_u_ne2 _ _ (show j ≠ 1 by omega)])]
  refine zz_iadd dX11_send_88 ?_
  refine zz_iast 4 (by decide) (by decide) (by decide) (xs_code i hi) (by omega) dX11_send_89 ?_
  refine zz_aload_2 dX11_send_90 ?_
  refine zz_iconst (5) dX11_send_91 (by decide) ?_
  refine zz_iconst (0) dX11_send_92 (by decide) ?_
  refine zz_iast 5 (by decide) (by decide) (by decide) (xs_code i hi) (by omega) dX11_send_93 ?_
  refine zz_aload_0 dX11_send_94 ?_
  refine zz_getR fl_X11_10 rfl rfl (Nat.lt_of_lt_of_le (by decide) hn) (xr_0_0 hr) dX11_send_95 ?_
  refine zz_getI fl_X11_195 rfl rfl (Nat.lt_of_lt_of_le (by decide) hn) dX11_send_98 ?_
  refine zz_iconst (1) dX11_send_101 (by decide) ?_
  refine zz_isub dX11_send_102 ?_
  refine zz_iret rfl dX11_send_103 (by decide) (by decide) ?_
  simp only [zz_u_ne1 _ _ hne1, zz_u_ne1 _ _ hne2, e71, nI_pred]
  refine h _ ?_
  exact (hF4.cd (j := 4) (by omega) (by decide) hi ri).cd (j := 5) (by omega) (by decide) hi ri

/-- the state with its codes turned: the oldest one last -/
def rt_ (S : zz_G) : zz_G := fun a b => if a = 51 ∧ 46 ≤ b ∧ b < 100 then S 51 (b + 6) else if a = 51 ∧ 100 ≤ b ∧ b < 106 then S 51 (b - 54) else S a b
theorem rt_n (S : zz_G) {a b : Nat} (h : ¬ (a = 51 ∧ 46 ≤ b ∧ b < 106)) : rt_ S a b = S a b := by
  unfold rt_
  rw [if_neg (by omega), if_neg (by omega)]
theorem x_F.rot {S g : zz_G} {r : zz_R} {n : Nat} (hx : x_rel S g r n) : x_F g g (ro_F r) n (rt_ S) := by
  refine ⟨hx.genC (xq_cod hx.2.1 (fun _ _ => rfl) (fun a b hb => rt_n S hb)) ?_ (fun k hk => funext fun b => if_neg hk) (fun _ _ => rfl) (fun j hj => rt_n S (by omega)) (funext fun b => rt_n S (by omega)) (rt_n S (by omega)), fun _ _ _ => rfl⟩
  obtain ⟨pi, c1, c2, c3⟩ := hx.2.2.1
  refine ⟨fun c => if c < 9 then pi (c + 1) else pi 0, fun c hc => ?_, fun c c' hc hc' e => ?_, fun c j hc hj => ?_⟩
  · show (if c < 9 then pi (c + 1) else pi 0) < 10 ∧ ro_F r 10 c = some (1 + 10 + (if c < 9 then pi (c + 1) else pi 0))
    unfold ro_F
    rw [if_pos rfl]
    by_cases h : c < 9
    · rw [if_pos h, if_pos h]
      exact c1 (c + 1) (by omega)
    · rw [if_neg h, if_neg h, if_pos (by omega)]
      exact c1 0 (by omega)
  · have e' : (if c < 9 then pi (c + 1) else pi 0) = if c' < 9 then pi (c' + 1) else pi 0 := e
    by_cases h : c < 9
    · rw [if_pos h] at e'
      by_cases h' : c' < 9
      · rw [if_pos h'] at e'
        have := c2 _ _ (by omega) (by omega) e'
        omega
      · rw [if_neg h'] at e'
        have := c2 _ _ (by omega) (by omega) e'
        omega
    · rw [if_neg h] at e'
      by_cases h' : c' < 9
      · rw [if_pos h'] at e'
        have := c2 _ _ (by omega) (by omega) e'
        omega
      · omega
  · show g (1 + 10 + (if c < 9 then pi (c + 1) else pi 0)) j = rt_ S 51 (46 + 6 * c + j)
    unfold rt_
    by_cases h : c < 9
    · rw [if_pos h, if_pos (by omega), c3 (c + 1) j (by omega) hj]
      congr 1
      omega
    · rw [if_neg h, if_neg (by omega), if_pos (by omega), c3 0 j (by omega) hj]
      congr 1
      omega
set_option maxRecDepth 100000 in
set_option maxHeartbeats 4000000 in
theorem t_X11_send {C : zz_C} {d n : Nat} {g : zz_G} {r : zz_R} {Q : zz_Q} {S : zz_G} (hx : x_rel S g r n) (hW : wr (S 51)) (cw : Nat) (hcw : S 51 7 = nI cw) (hcw6 : cw ≤ 10) {v : Int32} (w : Nat) (hw : w < 6) (ev : v = nI w) (h : ∀ g' r', x_rel (sp_asks S w).2 g' r' n → (∀ k, 50 ≤ k → k < 60 → g' k = g k) → Q (some (.int (sp_asks S w).1)) g' r' n) : zz_T C mi_X11_send (d + 4) 0 0 [.ref 0, .int v] g r n Q := by
  have hn := hx.nn
  have hr := hx.1
  obtain ⟨f0, hf00, hf0, ef0⟩ := hW.1.2.2.2.2.2.1
  refine zz_T.of [some (.ref 0), some (.int v), none] (by decide +kernel) rfl (Nat.le_of_ble_eq_true rfl) ?_
  refine zz_aload_0 dX11_send_0 ?_
  refine zz_getR fl_X11_10 rfl rfl (Nat.lt_of_lt_of_le (by decide) hn) (xr_0_0 hr) dX11_send_1 ?_
  refine zz_callV0i cv_X11_232 rfl (Nat.lt_of_lt_of_le (by decide) hn) (Nat.le_of_ble_eq_true rfl) (by decide) (by decide) dX11_send_4 (t_X0_roomForCode hx cw hcw hcw6 (fun lt_4 i_4 hi_4 ri_4 => ⟨_, rfl, ?_⟩) (fun e10_4 i_4 hi_4 ri_4 => ⟨_, rfl, ?_⟩))
  · skip
    have hA : ∀ j, j ≠ 7 → zz_u S 51 7 (nI (cw + 1)) 51 j = S 51 j := fun j hj => zz_u_ne2 _ _ hj
    refine e_X11_send (d := d) (A := zz_u S 51 7 (nI (cw + 1))) (x_F.rf hx).s7 ?_ w cw i_4 f0 hw ev (by omega) (zz_u_same _ _ _ _) hi_4 ri_4 hf0 ((hA 8 (by decide)).trans ef0) (fun g' hF => ?_)
    · obtain ⟨⟨a0, a2, a3, a4, a7, a8, a9, a10, a11⟩, b, q⟩ := hW
      refine ⟨⟨by rw [hA _ (by decide)]; exact a0, by rw [hA _ (by decide)]; exact a2, by rw [hA _ (by decide)]; exact a3, by rw [hA _ (by decide)]; exact a4, by rw [zz_u_same]; exact ⟨cw + 1, by omega, by omega, rfl⟩, by rw [hA _ (by decide)]; exact a8, by rw [hA _ (by decide)]; exact a9, by rw [hA _ (by decide)]; exact a10, by rw [hA _ (by decide)]; exact a11⟩, fun w1 hw1 => ?_, fun j hj => ?_⟩
      · unfold ww
        rw [hA _ (by omega), hA _ (by omega), hA _ (by omega), hA _ (by omega), hA _ (by omega)]
        exact b w1 hw1
      · rw [hA _ (by omega)]
        exact q j hj
    · have hne : ¬ S 51 7 = 10 := by
        rw [hcw]
        exact fun z9 => absurd ((nI_eq (a := cw) (b := 10) (by omega) (by omega)).mp z9) (by omega)
      rw [sp_asks, if_neg hne, hcw, ix_w (by omega), sp_wrt] at h
      refine h g' r ?_ hF.2
      have h9 := hF.1
      rw [as_eq (B := sp_z1 S) (by omega) (zz_u_same _ _ _ _) ((zz_u_ne2 _ _ (by decide)).trans (hA 0 (by decide)).symm) (by rw [sp_z1, zz_u_same, hA 1 (by decide)]) (fun a b hb => by rw [sp_z1]; unfold zz_u; rw [if_neg (by omega), if_neg (by omega)])] at h9
      have z0 : sp_z1 S 51 0 = S 51 0 := zz_u_ne2 _ _ (by decide)
      have z9 : sp_z1 S 51 9 = S 51 9 := zz_u_ne2 _ _ (by decide)
      rw [hA 0 (by decide), hA 1 (by decide), hA 9 (by decide), show sp_late (zz_u S 51 7 (nI (cw + 1)) 51) w (S 51 0) = sp_late (S 51) w (S 51 0) from sp_late_cg hw (hA 5 (by decide)) (fun j q1 q2 => hA j (by omega)) (fun j q1 => hA j (by omega)), show sp_lasts (zz_u S 51 7 (nI (cw + 1)) 51) w (S 51 9) = sp_lasts (S 51) w (S 51 9) from sp_lasts_cg hw (fun j q1 q2 => hA j (by omega)), ev] at h9
      rw [sp_wr, show sp_late (sp_z1 S 51) w (sp_z1 S 51 0) = sp_late (S 51) w (S 51 0) from by rw [z0]; exact sp_late_cg hw (zz_u_ne2 _ _ (by decide)) (fun j q1 q2 => zz_u_ne2 _ _ (by omega)) (fun j q1 => zz_u_ne2 _ _ (by omega)), show sp_lasts (sp_z1 S 51) w (sp_z1 S 51 9) = sp_lasts (S 51) w (S 51 9) from by rw [z9]; exact sp_lasts_cg hw (fun j q1 q2 => zz_u_ne2 _ _ (by omega)), sp_num, ef0, ix_w (by omega)]
      exact h9
  · skip
    have hrf : ro_F r 10 9 = some (11 + i_4) := ri_4
    have hA : ∀ j, j < 46 ∨ 106 ≤ j → rt_ S 51 j = S 51 j := fun j hj => rt_n S (by omega)
    refine e_X11_send (d := d) (A := rt_ S) (x_F.rot hx) (wr_cg hW (fun j hj => hA j (by omega))) w 9 i_4 f0 hw ev (by omega) (by rw [hA 7 (by omega), hcw, e10_4]) hi_4 hrf hf0 ((hA 8 (by omega)).trans ef0) (fun g' hF => ?_)
    have hq : S 51 7 = 10 := by rw [hcw, e10_4]; rfl
    rw [sp_asks, if_pos hq, sp_wrt] at h
    refine h g' _ ?_ hF.2
    have h9 := hF.1
    have hB : ∀ j, (j < 46 ∧ j ≠ 1 ∧ j ≠ 7) ∨ 106 ≤ j → zz_u (sp_sh (sp_z1 S) 100) 51 7 9 51 j = S 51 j := fun j hj => by
      rw [zz_u_ne2 _ _ (by omega), show sp_sh (sp_z1 S) 100 51 j = sp_z1 S 51 j from if_neg (by omega), sp_z1, zz_u_ne2 _ _ (by omega)]
    rw [as_eq (B := zz_u (sp_sh (sp_z1 S) 100) 51 7 9) (by omega) (by rw [hA 7 (by omega), hcw, e10_4]) (by rw [hB 0 (by omega), hA 0 (by omega)]) (by rw [zz_u_ne2 _ _ (by decide), show sp_sh (sp_z1 S) 100 51 1 = sp_z1 S 51 1 from if_neg (by omega), sp_z1, zz_u_same, hA 1 (by omega)]) (fun a b hb => by
      unfold rt_ sp_sh sp_z1 zz_u
      by_cases h1 : a = 51 ∧ 46 ≤ b ∧ b < 100
      · rw [if_pos h1, if_neg (by omega)]
        exact ((if_pos h1).trans (if_neg (by omega))).symm
      · rw [if_neg h1, if_neg (by omega), if_neg (by omega)]
        exact ((if_neg h1).trans (if_neg (by omega))).symm)] at h9
    rw [hA 0 (by omega), hA 1 (by omega), hA 9 (by omega), show sp_late (rt_ S 51) w (S 51 0) = sp_late (S 51) w (S 51 0) from sp_late_cg hw (hA 5 (by omega)) (fun j q1 q2 => hA j (by omega)) (fun j q1 => hA j (by omega)), show sp_lasts (rt_ S 51) w (S 51 9) = sp_lasts (S 51) w (S 51 9) from sp_lasts_cg hw (fun j q1 q2 => hA j (by omega)), ev] at h9
    rw [sp_wr, show sp_late (zz_u (sp_sh (sp_z1 S) 100) 51 7 9 51) w (zz_u (sp_sh (sp_z1 S) 100) 51 7 9 51 0) = sp_late (S 51) w (S 51 0) from by rw [hB 0 (by omega)]; exact sp_late_cg hw (hB 5 (by omega)) (fun j q1 q2 => hB j (by omega)) (fun j q1 => hB j (by omega)), show sp_lasts (zz_u (sp_sh (sp_z1 S) 100) 51 7 9 51) w (zz_u (sp_sh (sp_z1 S) 100) 51 7 9 51 9) = sp_lasts (S 51) w (S 51 9) from by rw [hB 9 (by omega)]; exact sp_lasts_cg hw (fun j q1 q2 => hB j (by omega)), sp_num, ef0, ix_w (by omega)]
    exact h9
