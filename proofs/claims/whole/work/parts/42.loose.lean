theorem sp_dr_n (z : Int32) : ∃ t : Nat, t < 16777216 ∧ sp_dr z = nI t := by
  have h := pk_ushr (z * 1103515245 + 12345) 8 8 (by decide)
  refine ⟨(z * 1103515245 + 12345).toBitVec.toNat / 2 ^ 8, ?_, ?_⟩
  · have := (z * 1103515245 + 12345).toBitVec.isLt
    omega
  · apply Int32.toBitVec_inj.mp
    apply BitVec.eq_of_toNat_eq
    rw [pk_tn (by have := (z * 1103515245 + 12345).toBitVec.isLt; omega)]
    exact h
/-- a draw below m -/
theorem sp_dr_m (z : Int32) {m : Nat} (h0 : 0 < m) (hm : m < 2147483648) : ∃ w : Nat, w < m ∧ sp_dr z - sp_dr z / nI m * nI m = nI w := by
  obtain ⟨t, ht, e⟩ := sp_dr_n z
  rw [e]
  exact ⟨t % m, Nat.mod_lt _ h0, pk_rem (by omega) h0 (by omega)⟩
def sp_lw (S : zz_G) : Nat := (sp_dr (sp_z1 S 51 1) - sp_dr (sp_z1 S 51 1) / S 51 2 * S 51 2).toNatClampNeg
abbrev sp_lf (S : zz_G) : Prop := ¬ S 51 2 ≤ 0 ∧ sp_dr (S 51 1) - sp_dr (S 51 1) / 4 * 4 = 0
def sp_tick (S : zz_G) : zz_G := zz_u S 51 0 (S 51 0 + 1)
def sp_l1 (S : zz_G) : Nat × zz_G := if sp_lf S then (if S 51 (16 + 5 * sp_lw S + 4) = 0 then (1, sp_tick (sp_asks (sp_z1 (sp_z1 S)) (sp_lw S)).2) else (0, sp_tick (sp_z1 (sp_z1 S)))) else (0, sp_tick (sp_z1 S))
def sp_lo (S : zz_G) : Nat → Nat × zz_G
  | 0 => (0, S)
  | k + 1 => ((sp_lo S k).1 + (sp_l1 (sp_lo S k).2).1, (sp_l1 (sp_lo S k).2).2)
def sp_loose (S : zz_G) (m : Int32) : Int32 × zz_G := if m < 1 ∨ 60 < m then sp_err S 1 else if S 51 0 + m ≤ 999999 then (nI (sp_lo S m.toNatClampNeg).1, (sp_lo S m.toNatClampNeg).2) else sp_err S 3
/-- what seconds and asking change: second, z, codes -/
abbrev lo_c (a b : Nat) : Prop := a = 51 ∧ (b = 0 ∨ b = 1 ∨ b = 7 ∨ (46 ≤ b ∧ b < 106))
def lo_k (S0 S' : zz_G) : Prop := (∀ a b, ¬ lo_c a b → S' a b = S0 a b) ∧ ∃ cw : Nat, cw ≤ 10 ∧ S' 51 7 = nI cw
theorem lo_k.u {S0 S' : zz_G} {b : Nat} {x : Int32} (h : lo_k S0 S') (hb : b = 0 ∨ b = 1 ∨ (46 ≤ b ∧ b < 106)) : lo_k S0 (zz_u S' 51 b x) := by
  refine ⟨fun a c hc => ?_, ?_⟩
  · rw [show zz_u S' 51 b x a c = S' a c from if_neg (fun z9 => hc ⟨z9.1, by omega⟩)]
    exact h.1 a c hc
  · rw [zz_u51 S' b x (by omega)]
    exact h.2
theorem lo_k.u7 {S0 S' : zz_G} {c : Nat} (h : lo_k S0 S') (hc : c ≤ 10) : lo_k S0 (zz_u S' 51 7 (nI c)) := by
  refine ⟨fun a b hb => ?_, c, hc, zz_u_same _ _ _ _⟩
  rw [show zz_u S' 51 7 (nI c) a b = S' a b from if_neg (fun z9 => hb ⟨z9.1, by omega⟩)]
  exact h.1 a b hb
theorem lo_k.sh {S0 S' : zz_G} (h : lo_k S0 S') : lo_k S0 (sp_sh S' 100) := by
  refine ⟨fun a b hb => ?_, ?_⟩
  · rw [show sp_sh S' 100 a b = S' a b from if_neg (fun z9 => hb ⟨z9.1, by omega⟩)]
    exact h.1 a b hb
  · rw [show sp_sh S' 100 51 7 = S' 51 7 from if_neg (by omega)]
    exact h.2
theorem lo_k.z1 {S0 S' : zz_G} (h : lo_k S0 S') : lo_k S0 (sp_z1 S') := h.u (Or.inr (Or.inl rfl))
theorem lo_k.wr {S0 S' : zz_G} {c w : Nat} {num : Int32} (h : lo_k S0 S') (hc : c ≤ 9) : lo_k S0 (sp_wrt S' c w num).2 := by
  show lo_k S0 (zz_u (sp_wr S' c w num) 51 7 (nI (c + 1)))
  refine lo_k.u7 ?_ (by omega)
  unfold sp_wr
  exact (((((h.u (by omega)).u (by omega)).u (by omega)).u (by omega)).u (by omega)).u (by omega)
theorem lo_k.asks {S0 S' : zz_G} {w : Nat} (h : lo_k S0 S') : lo_k S0 (sp_asks S' w).2 := by
  unfold sp_asks
  split
  · exact (show lo_k S0 (zz_u (sp_sh (sp_z1 S') 100) 51 7 9) from h.z1.sh.u7 (c := 9) (by omega)).wr (by omega)
  · rename_i h7
    obtain ⟨cw, hc, ec⟩ := h.2
    have := zz_ltm ec hc h7
    rw [ec, ix_w (by omega)]
    exact h.z1.wr (by omega)
theorem lo_k.l1 {S0 S' : zz_G} (h : lo_k S0 S') : lo_k S0 (sp_l1 S').2 := by
  unfold sp_l1
  split
  · split
    · exact (h.z1.z1.asks).u (Or.inl rfl)
    · exact (h.z1.z1).u (Or.inl rfl)
  · exact (h.z1).u (Or.inl rfl)
theorem lo_k.lo {S : zz_G} {cw : Nat} (hc : cw ≤ 10) (ec : S 51 7 = nI cw) : ∀ k, lo_k S (sp_lo S k).2
  | 0 => ⟨fun _ _ _ => rfl, cw, hc, ec⟩
  | k + 1 => (lo_k.lo hc ec k).l1
theorem sp_asks_1 {S : zz_G} {w cw : Nat} (hc : cw ≤ 10) (ec : S 51 7 = nI cw) : ∃ c : Nat, c ≤ 9 ∧ (sp_asks S w).1 = nI c := by
  unfold sp_asks
  split
  · exact ⟨9, by omega, rfl⟩
  · rename_i h7
    have := zz_ltm ec hc h7
    exact ⟨cw, by omega, by rw [ec, ix_w (by omega)]; rfl⟩
theorem sp_lo_1 {S : zz_G} : ∀ k, (sp_lo S k).1 ≤ k
  | 0 => Nat.le_refl _
  | k + 1 => by
    have := sp_lo_1 (S := S) k
    have h2 : (sp_l1 (sp_lo S k).2).1 ≤ 1 := by
      unfold sp_l1
      split
      · split
        · exact Nat.le_refl _
        · exact Nat.zero_le _
      · exact Nat.zero_le _
    show (sp_lo S k).1 + _ ≤ k + 1
    omega
set_option maxRecDepth 100000 in
set_option maxHeartbeats 4000000 in
theorem l_X12_loose {C : zz_C} {d n : Nat} {g : zz_G} {r : zz_R} {Q : zz_Q} (hn : 60 ≤ n) (hr : xr r) (mw : Nat) (hmw : g 51 2 = nI mw) (hmw6 : mw ≤ 6) (cw : Nat) (hcw : g 51 7 = nI cw) (hcw6 : cw ≤ 10) (fw : Nat) (hfw : g 51 8 = nI fw) (hfw6 : fw ≤ 6) (hT0 : tx_ok (g 51) 0) {m : Int32} (m1 : Nat) (em1 : m = nI m1) (hm1 : m1 ≤ 60) (h : ms_o g r n Q (nI (sp_lo (ms_S g) m1).1, (sp_lo (ms_S g) m1).2)) : ∀ (k : Nat) (q : Nat) (g1 : zz_G) (l4 l5 : Option Value), q ≤ m1 → ms_F g g1 (sp_lo (ms_S g) q).2 → m1 - q < k → zz_Z C mi_X12_loose (d + 43) 0 0 0 0 41 [some (.ref 50), some (.int m), some (.int (nI (sp_lo (ms_S g) q).1)), some (.int (nI q)), l4, l5] [] g1 r n Q := by
  intro k
  induction k with
  | zero => intro q g1 l4 l5 hq hF hk; exact absurd hk (by omega)
  | succ k ih =>
    intro q g1 l4 l5 hq hF hk
    obtain ⟨kA, cw1, hcw1, kec⟩ := lo_k.lo (S := ms_S g) hcw6 ((ms_51 g 7).trans hcw) q
    have e51 : ∀ j, g1 51 j = (sp_lo (ms_S g) q).2 51 j := fun j => by rw [← hF.1, ms_51]
    have em : g1 51 2 = nI mw := by rw [e51, kA 51 2 (by omega), ms_51]; exact hmw
    have ef : g1 51 8 = nI fw := by rw [e51, kA 51 8 (by omega), ms_51]; exact hfw
    have ec : g1 51 7 = nI cw1 := by rw [e51]; exact kec
    have hT : tx_ok (g1 51) 0 := tx_ok_cg (by rw [e51, kA 51 _ (by omega), ms_51]) (fun j hj => by rw [e51, kA 51 j (by omega), ms_51]) hT0
    have z1 : sp_z1 (sp_lo (ms_S g) q).2 = zz_u (sp_lo (ms_S g) q).2 51 1 (g1 51 1 * 1103515245 + 12345) := by rw [sp_z1, e51]
    have hF1 : ms_F g (zz_u g1 51 1 (g1 51 1 * 1103515245 + 12345)) (sp_z1 (sp_lo (ms_S g) q).2) := by rw [z1]; exact hF.u rfl (by decide)
    have z1v : (zz_u g1 51 1 (g1 51 1 * 1103515245 + 12345)) 51 1 = sp_z1 (sp_lo (ms_S g) q).2 51 1 := by rw [← hF1.1, ms_51]
    have hF2 : ms_F g (zz_u (zz_u g1 51 1 (g1 51 1 * 1103515245 + 12345)) 51 1 ((zz_u g1 51 1 (g1 51 1 * 1103515245 + 12345)) 51 1 * 1103515245 + 12345)) (sp_z1 (sp_z1 (sp_lo (ms_S g) q).2)) := by rw [z1v]; exact hF1.u rfl (by decide)
    refine zz_iload_3 dX12_loose_41 ?_
    refine zz_iload_1 dX12_loose_42 ?_
    refine zz_icmp_ge 122 dX12_loose_43 (by decide) (fun c_43 => ?_) (fun c_43 => ?_)
    · skip
      refine zz_iload_2 dX12_loose_122 ?_
      refine zz_iret rfl dX12_loose_123 (by decide) (by decide) ?_
      rw [em1] at c_43
      have := zz_gei c_43 (by omega) (by omega)
      obtain rfl : q = m1 := by omega
      exact h _ hF
    · skip
      rw [em1] at c_43
      have hlt := zz_lti c_43 (by omega) (by omega)
      refine zz_aload_0 dX12_loose_46 ?_
      refine zz_iconst (4) dX12_loose_47 (by decide) ?_
      refine zz_callV1i cv_X12_158 rfl (Nat.lt_of_lt_of_le (by decide) hn) (Nat.le_of_ble_eq_true rfl) (by decide) (by decide) dX12_loose_48 (t_X12_drawn hn hr (by decide) ⟨_, rfl, ?_⟩)
      refine zz_istore_4 dX12_loose_51 rfl rfl ?_
      refine zz_aload_0 dX12_loose_53 ?_
      refine zz_getR fl_X12_7 rfl rfl (Nat.lt_of_lt_of_le (by decide) hn) (xr_50_0 hr) dX12_loose_54 ?_
      refine zz_iconst (2) dX12_loose_57 (by decide) ?_
      refine zz_iald 2 (by decide) (by decide) (by decide) rfl (Nat.lt_of_lt_of_le (by decide) hn) dX12_loose_58 ?_
      refine zz_if_le 106 dX12_loose_59 (by decide) (fun c_59 => ?_) (fun c_59 => ?_)
      · skip
        refine zz_aload_0 dX12_loose_106 ?_
        refine zz_getR fl_X12_7 rfl rfl (Nat.lt_of_lt_of_le (by decide) hn) (xr_50_0 hr) dX12_loose_107 ?_
        refine zz_iconst (0) dX12_loose_110 (by decide) ?_
        refine zz_dup2 dX12_loose_111 rfl rfl ?_
        refine zz_iald 0 (by decide) (by decide) (by decide) rfl (Nat.lt_of_lt_of_le (by decide) hn) dX12_loose_112 ?_
        refine zz_iconst (1) dX12_loose_113 (by decide) ?_
        refine zz_iadd dX12_loose_114 ?_
        refine zz_iast 0 (by decide) (by decide) (by decide) rfl (Nat.lt_of_lt_of_le (by decide) hn) dX12_loose_115 ?_
        refine zz_iinc_3 (1) dX12_loose_116 rfl rfl (by decide) ?_
        refine zz_goto 41 dX12_loose_119 (by decide) ?_
        have hs : sp_l1 (sp_lo (ms_S g) q).2 = (0, sp_tick (sp_z1 (sp_lo (ms_S g) q).2)) := by
          rw [sp_l1, if_neg (fun z9 : sp_lf (sp_lo (ms_S g) q).2 => z9.1 (by rw [← e51]; rw [zz_u51 g1 1 _ (by decide)] at c_59; exact c_59))]
        have hlo : sp_lo (ms_S g) (q + 1) = ((sp_lo (ms_S g) q).1 + 0, sp_tick (sp_z1 (sp_lo (ms_S g) q).2)) := by rw [sp_lo, hs]
        have hF9 : ms_F g (zz_u (zz_u g1 51 1 (g1 51 1 * 1103515245 + 12345)) 51 0 ((zz_u g1 51 1 (g1 51 1 * 1103515245 + 12345)) 51 0 + 1)) (sp_lo (ms_S g) (q + 1)).2 := by
          rw [hlo, sp_tick, show (sp_z1 (sp_lo (ms_S g) q).2) 51 0 = (zz_u g1 51 1 (g1 51 1 * 1103515245 + 12345)) 51 0 from by rw [← hF1.1, ms_51]]
          exact hF1.u rfl (by decide)
        have e2 : nI (sp_lo (ms_S g) (q + 1)).1 = nI (sp_lo (ms_S g) q).1 := by rw [hlo]; rfl
        have := fun x4 x5 => ih (q + 1) _ x4 x5 (by omega) hF9 (by omega)
        simp only [e2, ← nI_1] at this
        exact this _ _
      · skip
        refine zz_iload_4 dX12_loose_62 ?_
        refine zz_if_ne 106 dX12_loose_64 (by decide) (fun c_64 => ?_) (fun c_64 => ?_)
        · skip
          refine zz_aload_0 dX12_loose_106 ?_
          refine zz_getR fl_X12_7 rfl rfl (Nat.lt_of_lt_of_le (by decide) hn) (xr_50_0 hr) dX12_loose_107 ?_
          refine zz_iconst (0) dX12_loose_110 (by decide) ?_
          refine zz_dup2 dX12_loose_111 rfl rfl ?_
          refine zz_iald 0 (by decide) (by decide) (by decide) rfl (Nat.lt_of_lt_of_le (by decide) hn) dX12_loose_112 ?_
          refine zz_iconst (1) dX12_loose_113 (by decide) ?_
          refine zz_iadd dX12_loose_114 ?_
          refine zz_iast 0 (by decide) (by decide) (by decide) rfl (Nat.lt_of_lt_of_le (by decide) hn) dX12_loose_115 ?_
          refine zz_iinc_3 (1) dX12_loose_116 rfl rfl (by decide) ?_
          refine zz_goto 41 dX12_loose_119 (by decide) ?_
          have hs : sp_l1 (sp_lo (ms_S g) q).2 = (0, sp_tick (sp_z1 (sp_lo (ms_S g) q).2)) := by
            rw [sp_l1, if_neg (fun z9 : sp_lf (sp_lo (ms_S g) q).2 => c_64 (by have := z9.2; rw [← e51] at this; exact this))]
          have hlo : sp_lo (ms_S g) (q + 1) = ((sp_lo (ms_S g) q).1 + 0, sp_tick (sp_z1 (sp_lo (ms_S g) q).2)) := by rw [sp_lo, hs]
          have hF9 : ms_F g (zz_u (zz_u g1 51 1 (g1 51 1 * 1103515245 + 12345)) 51 0 ((zz_u g1 51 1 (g1 51 1 * 1103515245 + 12345)) 51 0 + 1)) (sp_lo (ms_S g) (q + 1)).2 := by
            rw [hlo, sp_tick, show (sp_z1 (sp_lo (ms_S g) q).2) 51 0 = (zz_u g1 51 1 (g1 51 1 * 1103515245 + 12345)) 51 0 from by rw [← hF1.1, ms_51]]
            exact hF1.u rfl (by decide)
          have e2 : nI (sp_lo (ms_S g) (q + 1)).1 = nI (sp_lo (ms_S g) q).1 := by rw [hlo]; rfl
          have := fun x4 x5 => ih (q + 1) _ x4 x5 (by omega) hF9 (by omega)
          simp only [e2, ← nI_1] at this
          exact this _ _
        · skip
          refine zz_aload_0 dX12_loose_67 ?_
          refine zz_aload_0 dX12_loose_68 ?_
          refine zz_getR fl_X12_7 rfl rfl (Nat.lt_of_lt_of_le (by decide) hn) (xr_50_0 hr) dX12_loose_69 ?_
          refine zz_iconst (2) dX12_loose_72 (by decide) ?_
          refine zz_iald 2 (by decide) (by decide) (by decide) rfl (Nat.lt_of_lt_of_le (by decide) hn) dX12_loose_73 ?_
          refine zz_callV1i cv_X12_158 rfl (Nat.lt_of_lt_of_le (by decide) hn) (Nat.le_of_ble_eq_true rfl) (by decide) (by decide) dX12_loose_74 (t_X12_drawn hn hr (fun z9 => c_59 (by rw [z9]; decide)) ⟨_, rfl, ?_⟩)
          refine zz_istore_5 dX12_loose_77 rfl rfl ?_
          refine zz_aload_0 dX12_loose_79 ?_
          refine zz_iload_5 dX12_loose_80 ?_
          refine zz_iconst (4) dX12_loose_82 (by decide) ?_
          have c59 : ¬ nI mw ≤ 0 := by rw [← em, ← zz_u51 g1 1 _ (by decide)]; exact c_59
          have hm0 : 0 < mw := Nat.pos_of_ne_zero fun z9 => c59 (by rw [z9]; decide)
          obtain ⟨wn, hwn, ewn⟩ := sp_dr_m ((zz_u g1 51 1 (g1 51 1 * 1103515245 + 12345)) 51 1) hm0 (by omega)
          have e2 : (zz_u g1 51 1 (g1 51 1 * 1103515245 + 12345)) 51 2 = nI mw := (zz_u51 g1 1 _ (by decide)).trans em
          rw [← e2] at ewn
          have hlw : sp_lw (sp_lo (ms_S g) q).2 = wn := by rw [sp_lw, ← z1v, ← e51, ← zz_u51 g1 1 (g1 51 1 * 1103515245 + 12345) (show 2 ≠ 1 by decide), ewn, ix_w (by omega)]
          refine zz_callV2i cv_X12_64 rfl (Nat.lt_of_lt_of_le (by decide) hn) (Nat.le_of_ble_eq_true rfl) (by decide) (by decide) dX12_loose_83 (t_X12_its hn hr wn 4 ewn rfl (by omega) ⟨_, rfl, ?_⟩)
          refine zz_if_ne 106 dX12_loose_86 (by decide) (fun c_86 => ?_) (fun c_86 => ?_)
          · skip
            have c86 := c_86
            rw [zz_u51 _ 1 _ (by omega), zz_u51 _ 1 _ (by omega)] at c86
            refine zz_aload_0 dX12_loose_106 ?_
            refine zz_getR fl_X12_7 rfl rfl (Nat.lt_of_lt_of_le (by decide) hn) (xr_50_0 hr) dX12_loose_107 ?_
            refine zz_iconst (0) dX12_loose_110 (by decide) ?_
            refine zz_dup2 dX12_loose_111 rfl rfl ?_
            refine zz_iald 0 (by decide) (by decide) (by decide) rfl (Nat.lt_of_lt_of_le (by decide) hn) dX12_loose_112 ?_
            refine zz_iconst (1) dX12_loose_113 (by decide) ?_
            refine zz_iadd dX12_loose_114 ?_
            refine zz_iast 0 (by decide) (by decide) (by decide) rfl (Nat.lt_of_lt_of_le (by decide) hn) dX12_loose_115 ?_
            refine zz_iinc_3 (1) dX12_loose_116 rfl rfl (by decide) ?_
            refine zz_goto 41 dX12_loose_119 (by decide) ?_
            have hs : sp_l1 (sp_lo (ms_S g) q).2 = (0, sp_tick (sp_z1 (sp_z1 (sp_lo (ms_S g) q).2))) := by
              rw [sp_l1, if_pos (show sp_lf (sp_lo (ms_S g) q).2 from ⟨fun z9 => c_59 (by rw [zz_u51 g1 1 _ (by decide), e51]; exact z9), by rw [← e51]; exact c_64⟩), hlw, if_neg (by rw [← e51]; exact c86)]
            have hlo : sp_lo (ms_S g) (q + 1) = ((sp_lo (ms_S g) q).1 + 0, sp_tick (sp_z1 (sp_z1 (sp_lo (ms_S g) q).2))) := by rw [sp_lo, hs]
            have hF9 : ms_F g (zz_u (zz_u (zz_u g1 51 1 (g1 51 1 * 1103515245 + 12345)) 51 1 ((zz_u g1 51 1 (g1 51 1 * 1103515245 + 12345)) 51 1 * 1103515245 + 12345)) 51 0 ((zz_u (zz_u g1 51 1 (g1 51 1 * 1103515245 + 12345)) 51 1 ((zz_u g1 51 1 (g1 51 1 * 1103515245 + 12345)) 51 1 * 1103515245 + 12345)) 51 0 + 1)) (sp_lo (ms_S g) (q + 1)).2 := by
              rw [hlo, sp_tick, show (sp_z1 (sp_z1 (sp_lo (ms_S g) q).2)) 51 0 = (zz_u (zz_u g1 51 1 (g1 51 1 * 1103515245 + 12345)) 51 1 ((zz_u g1 51 1 (g1 51 1 * 1103515245 + 12345)) 51 1 * 1103515245 + 12345)) 51 0 from by rw [← hF2.1, ms_51]]
              exact hF2.u rfl (by decide)
            have e2 : nI (sp_lo (ms_S g) (q + 1)).1 = nI (sp_lo (ms_S g) q).1 := by rw [hlo]; rfl
            have := fun x4 x5 => ih (q + 1) _ x4 x5 (by omega) hF9 (by omega)
            simp only [e2, ← nI_1] at this
            exact this _ _
          · skip
            refine zz_iload_2 dX12_loose_89 ?_
            refine zz_aload_0 dX12_loose_90 ?_
            refine zz_iload_5 dX12_loose_91 ?_
            refine zz_callV1i cv_X12_162 rfl (Nat.lt_of_lt_of_le (by decide) hn) (Nat.le_of_ble_eq_true rfl) (by decide) (by decide) dX12_loose_93 (t_X12_asks hn hr cw1 (by rw [zz_u51 _ 1 _ (by decide), zz_u51 _ 1 _ (by decide)]; exact ec) hcw1 fw (by rw [zz_u51 _ 1 _ (by decide), zz_u51 _ 1 _ (by decide)]; exact ef) hfw6 (tx_ok_cg (by rw [zz_u51 _ 1 _ (by omega), zz_u51 _ 1 _ (by omega)]) (fun j hj => by rw [zz_u51 _ 1 _ (by omega), zz_u51 _ 1 _ (by omega)]) hT) wn (by omega) ewn (fun g2_93 j2_93 => ⟨_, rfl, ?_⟩))
            have c86 := c_86
            rw [zz_u51 _ 1 _ (by omega), zz_u51 _ 1 _ (by omega)] at c86
            obtain ⟨c1, hc1, ec1⟩ := sp_asks_1 (S := ms_S (zz_u (zz_u g1 51 1 (g1 51 1 * 1103515245 + 12345)) 51 1 ((zz_u g1 51 1 (g1 51 1 * 1103515245 + 12345)) 51 1 * 1103515245 + 12345))) (w := wn) hcw1 (by rw [ms_51, zz_u51 _ 1 _ (by decide), zz_u51 _ 1 _ (by decide)]; exact ec)
            refine zz_if_ge 103 dX12_loose_96 (by decide) (fun c_96 => ?_) (fun c_96 => ?_)
            · skip
              refine zz_iconst (1) dX12_loose_103 (by decide) ?_
              refine zz_iadd dX12_loose_104 ?_
              refine zz_istore_2 dX12_loose_105 rfl rfl ?_
              refine zz_aload_0 dX12_loose_106 ?_
              refine zz_getR fl_X12_7 rfl rfl (Nat.lt_of_lt_of_le (by decide) hn) (xr_50_0 hr) dX12_loose_107 ?_
              refine zz_iconst (0) dX12_loose_110 (by decide) ?_
              refine zz_dup2 dX12_loose_111 rfl rfl ?_
              refine zz_iald 0 (by decide) (by decide) (by decide) rfl (Nat.lt_of_lt_of_le (by decide) hn) dX12_loose_112 ?_
              refine zz_iconst (1) dX12_loose_113 (by decide) ?_
              refine zz_iadd dX12_loose_114 ?_
              refine zz_iast 0 (by decide) (by decide) (by decide) rfl (Nat.lt_of_lt_of_le (by decide) hn) dX12_loose_115 ?_
              refine zz_iinc_3 (1) dX12_loose_116 rfl rfl (by decide) ?_
              refine zz_goto 41 dX12_loose_119 (by decide) ?_
              have hF3 : ms_F g g2_93 (sp_asks (sp_z1 (sp_z1 (sp_lo (ms_S g) q).2)) wn).2 := by
                rw [hF2.1] at j2_93
                exact ⟨j2_93.1, fun k hk => (j2_93.2 k hk).trans (hF2.2 k hk)⟩
              have hs : sp_l1 (sp_lo (ms_S g) q).2 = (1, sp_tick (sp_asks (sp_z1 (sp_z1 (sp_lo (ms_S g) q).2)) wn).2) := by
                rw [sp_l1, if_pos (show sp_lf (sp_lo (ms_S g) q).2 from ⟨fun z9 => c_59 (by rw [zz_u51 g1 1 _ (by decide), e51]; exact z9), by rw [← e51]; exact c_64⟩), hlw, if_pos (by rw [← e51]; exact c86)]
              have hlo : sp_lo (ms_S g) (q + 1) = ((sp_lo (ms_S g) q).1 + 1, sp_tick (sp_asks (sp_z1 (sp_z1 (sp_lo (ms_S g) q).2)) wn).2) := by rw [sp_lo, hs]
              have hF9 : ms_F g (zz_u g2_93 51 0 (g2_93 51 0 + 1)) (sp_lo (ms_S g) (q + 1)).2 := by
                rw [hlo, sp_tick, show (sp_asks (sp_z1 (sp_z1 (sp_lo (ms_S g) q).2)) wn).2 51 0 = g2_93 51 0 from by rw [← hF3.1, ms_51]]
                exact hF3.u rfl (by decide)
              have e2 : nI (sp_lo (ms_S g) (q + 1)).1 = nI (sp_lo (ms_S g) q).1 + 1 := by rw [hlo]; exact (nI_1 _).symm
              have := fun x4 x5 => ih (q + 1) _ x4 x5 (by omega) hF9 (by omega)
              simp only [e2, ← nI_1] at this
              exact this _ _
            · skip
              rw [ec1] at c_96
              exact absurd (nI_le (a := 0) (b := c1) (by omega) (by omega)) c_96

set_option maxRecDepth 100000 in
set_option maxHeartbeats 4000000 in
theorem t_X12_loose {C : zz_C} {d n : Nat} {g : zz_G} {r : zz_R} {Q : zz_Q} (hn : 60 ≤ n) (hr : xr r) (mw : Nat) (hmw : g 51 2 = nI mw) (hmw6 : mw ≤ 6) {v : Int32} (cw : Nat) (hcw : g 51 7 = nI cw) (hcw6 : cw ≤ 10) (fw : Nat) (hfw : g 51 8 = nI fw) (hfw6 : fw ≤ 6) (hT0 : tx_ok (g 51) 0) (h : ms_o g r n Q (sp_loose (ms_S g) v)) : zz_T C mi_X12_loose (d + 43) 0 0 [.ref 50, .int v] g r n Q := by
  refine zz_T.of [some (.ref 50), some (.int v), none, none, none, none] (by decide +kernel) rfl (Nat.le_of_ble_eq_true rfl) ?_
  refine zz_iload_1 dX12_loose_0 ?_
  refine zz_iconst (1) dX12_loose_1 (by decide) ?_
  refine zz_bipush (60) dX12_loose_2 (by decide) ?_
  refine zz_callS3i cs_X12_38 (Nat.le_of_ble_eq_true rfl) (by decide) (by decide) dX12_loose_4 (t_X12_in (fun a_4 b_4 => ⟨_, rfl, ?_⟩) (fun o_4 => ⟨_, rfl, ?_⟩))
  · skip
    refine zz_if_ne 17 dX12_loose_7 (by decide) (fun _ => ?_) (fun h => absurd h (by decide))
    refine zz_aload_0 dX12_loose_17 ?_
    refine zz_getR fl_X12_7 rfl rfl (Nat.lt_of_lt_of_le (by decide) hn) (xr_50_0 hr) dX12_loose_18 ?_
    refine zz_iconst (0) dX12_loose_21 (by decide) ?_
    refine zz_iald 0 (by decide) (by decide) (by decide) rfl (Nat.lt_of_lt_of_le (by decide) hn) dX12_loose_22 ?_
    refine zz_iload_1 dX12_loose_23 ?_
    refine zz_iadd dX12_loose_24 ?_
    refine zz_ldc dX12_loose_25 ct_X12_174 ?_
    refine zz_icmp_le 37 dX12_loose_27 (by decide) (fun c_27 => ?_) (fun c_27 => ?_)
    · skip
      refine zz_iconst (0) dX12_loose_37 (by decide) ?_
      refine zz_istore_2 dX12_loose_38 rfl rfl ?_
      refine zz_iconst (0) dX12_loose_39 (by decide) ?_
      refine zz_istore_3 dX12_loose_40 rfl rfl ?_
      obtain ⟨m1, hm0, hm1, em1⟩ := zz_in0 (lo := 1) (hi := 60) rfl rfl (by decide) (by decide) a_4 b_4
      rw [sp_loose, if_neg (fun z9 => z9.elim a_4 b_4), if_pos (by rw [ms_51]; exact c_27), em1, ix_w (by omega)] at h
      exact l_X12_loose (d := d) hn hr mw hmw hmw6 cw hcw hcw6 fw hfw hfw6 hT0 m1 em1 hm1 h 61 0 g none none (by omega) ms_F.rf (by omega)
    · skip
      refine zz_aload_0 dX12_loose_30 ?_
      refine zz_ldc dX12_loose_31 ct_X12_161 ?_
      refine zz_callV1i cv_X12_51 rfl (Nat.lt_of_lt_of_le (by decide) hn) (Nat.le_of_ble_eq_true rfl) (by decide) (by decide) dX12_loose_33 (t_X12_errs hn hr 3 (by decide) (by decide) ⟨_, rfl, ?_⟩)
      refine zz_iret rfl dX12_loose_36 (by decide) (by decide) ?_
      rw [sp_loose, if_neg (fun z9 => z9.elim a_4 b_4), if_neg (by rw [ms_51]; exact c_27)] at h
      exact ms_er (by decide) h
  · skip
    refine zz_if_ne 17 dX12_loose_7 (by decide) (fun h => absurd h (by decide)) (fun _ => ?_)
    refine zz_aload_0 dX12_loose_10 ?_
    refine zz_ldc dX12_loose_11 ct_X12_50 ?_
    refine zz_callV1i cv_X12_51 rfl (Nat.lt_of_lt_of_le (by decide) hn) (Nat.le_of_ble_eq_true rfl) (by decide) (by decide) dX12_loose_13 (t_X12_errs hn hr 1 (by decide) (by decide) ⟨_, rfl, ?_⟩)
    refine zz_iret rfl dX12_loose_16 (by decide) (by decide) ?_
    rw [sp_loose, if_pos o_4] at h
    exact ms_er (by decide) h
