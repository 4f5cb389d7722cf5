theorem jm_min : cJ9_min_7cf53 = Lib.Math.min.code := by first | rfl | decide +kernel
theorem zz_mmin {C : zz_C} {M : zz_M} {d mc ms kc ks pc ix n : Nat} {L : List (Option Value)} {st : List Value} {g : zz_G} {r : zz_R} {Q : zz_Q} {x y : Int32} (hcl : zz_CS M.1.cls ix 2 mi_J9_min_7cf53) (hcat : (st.map fun v => v.category).sum ≤ 8) (hkc : kc ≤ mc) (hks : ks ≤ ms) (hd : decode M.2.1 pc = .ok (.invokestatic ix, 3)) (kk : zz_Z C M (d + 1) mc ms kc ks (pc + 3) L (.int (if y < x then y else x) :: st) g r n Q) : zz_Z C M (d + 1) mc ms kc ks pc L (.int y :: .int x :: st) g r n Q := by
  intro p e s m args below meth c H locs ls hF hW hl hL
  obtain ⟨⟨w1, w2, w3, w4⟩, -, -⟩ := hcl
  have w4' : Cond.code Lib.Math.min.name Lib.Math.min.code 2 (some .int) ∈ zz_tbl := by rw [← jm_min]; exact w4
  exact va_mmin (rest := st.map (zz_v C)) hF.1.1 hF.1.2.1 (hF.1.2.2.2.2.1.trans hL.1.symm) hF.1.2.2.2.2.2.1 (hF.2.1 _ w1) (hF.2.1 _ w2) (hF.2.1 _ w3) (hF.2.1 _ w4') (Nat.le_add_left 1 d) (by
      have hcc : ((st.map (zz_v C)).map fun v => v.category).sum ≤ 8 := by rw [zz_cats]; exact hcat
      show _ + 13 ≤ 40 * (d + 1)
      omega) hkc hks hd (kk p e s m args below meth c H locs ls hF hW hl hL)
theorem jm_max : cJ9_max_7cf53 = Lib.Math.max.code := by first | rfl | decide +kernel
theorem zz_mmax {C : zz_C} {M : zz_M} {d mc ms kc ks pc ix n : Nat} {L : List (Option Value)} {st : List Value} {g : zz_G} {r : zz_R} {Q : zz_Q} {x y : Int32} (hcl : zz_CS M.1.cls ix 2 mi_J9_max_7cf53) (hcat : (st.map fun v => v.category).sum ≤ 8) (hkc : kc ≤ mc) (hks : ks ≤ ms) (hd : decode M.2.1 pc = .ok (.invokestatic ix, 3)) (kk : zz_Z C M (d + 1) mc ms kc ks (pc + 3) L (.int (if x < y then y else x) :: st) g r n Q) : zz_Z C M (d + 1) mc ms kc ks pc L (.int y :: .int x :: st) g r n Q := by
  intro p e s m args below meth c H locs ls hF hW hl hL
  obtain ⟨⟨w1, w2, w3, w4⟩, -, -⟩ := hcl
  have w4' : Cond.code Lib.Math.max.name Lib.Math.max.code 2 (some .int) ∈ zz_tbl := by rw [← jm_max]; exact w4
  exact va_mmax (rest := st.map (zz_v C)) hF.1.1 hF.1.2.1 (hF.1.2.2.2.2.1.trans hL.1.symm) hF.1.2.2.2.2.2.1 (hF.2.1 _ w1) (hF.2.1 _ w2) (hF.2.1 _ w3) (hF.2.1 _ w4') (Nat.le_add_left 1 d) (by
      have hcc : ((st.map (zz_v C)).map fun v => v.category).sum ≤ 8 := by rw [zz_cats]; exact hcat
      show _ + 13 ≤ 40 * (d + 1)
      omega) hkc hks hd (kk p e s m args below meth c H locs ls hF hW hl hL)
def bc1 (x : Int32) : Int32 := x - ((x.toUInt32 >>> (Int32.toUInt32 1 &&& Int32.toUInt32 31)).toInt32 &&& 1431655765)
def bc2 (x : Int32) : Int32 := (x &&& 858993459) + ((x.toUInt32 >>> (Int32.toUInt32 2 &&& Int32.toUInt32 31)).toInt32 &&& 858993459)
def bc3 (x : Int32) : Int32 := (x + (x.toUInt32 >>> (Int32.toUInt32 4 &&& Int32.toUInt32 31)).toInt32) &&& 252645135
def bc4 (x : Int32) : Int32 := x + (x.toUInt32 >>> (Int32.toUInt32 8 &&& Int32.toUInt32 31)).toInt32
def bc5 (x : Int32) : Int32 := x + (x.toUInt32 >>> (Int32.toUInt32 16 &&& Int32.toUInt32 31)).toInt32
theorem bc_all : ∀ s : Fin 64, (bc5 (bc4 (bc3 (bc2 (bc1 (nI s.1)))))) &&& 63 = sp_bc s.1 := by decide +kernel
set_option maxRecDepth 100000 in
set_option maxHeartbeats 4000000 in
theorem t_J6_bitCount_0f7a4 {C : zz_C} {d n : Nat} {g : zz_G} {r : zz_R} {Q : zz_Q} {x : Int32} (s : Nat) (hs : s < 64) (hx : x = nI s) (h : Q (some (.int (sp_bc s))) g r n) : zz_T C mi_J6_bitCount_0f7a4 d 0 0 [.int x] g r n Q := by
  refine zz_T.of [some (.int x)] (by decide +kernel) rfl (Nat.le_of_ble_eq_true rfl) ?_
  refine zz_iload_0 dJ6_bitCount_0f7a4_0 ?_
  refine zz_iload_0 dJ6_bitCount_0f7a4_1 ?_
  refine zz_iconst (1) dJ6_bitCount_0f7a4_2 (by decide) ?_
  refine zz_iushr dJ6_bitCount_0f7a4_3 ?_
  refine zz_ldcw dJ6_bitCount_0f7a4_4 ct_J6_265 ?_
  refine zz_iand dJ6_bitCount_0f7a4_7 ?_
  refine zz_isub dJ6_bitCount_0f7a4_8 ?_
  refine zz_istore_0 dJ6_bitCount_0f7a4_9 rfl ?_
  refine zz_iload_0 dJ6_bitCount_0f7a4_10 ?_
  refine zz_ldcw dJ6_bitCount_0f7a4_11 ct_J6_266 ?_
  refine zz_iand dJ6_bitCount_0f7a4_14 ?_
  refine zz_iload_0 dJ6_bitCount_0f7a4_15 ?_
  refine zz_iconst (2) dJ6_bitCount_0f7a4_16 (by decide) ?_
  refine zz_iushr dJ6_bitCount_0f7a4_17 ?_
  refine zz_ldcw dJ6_bitCount_0f7a4_18 ct_J6_266 ?_
  refine zz_iand dJ6_bitCount_0f7a4_21 ?_
  refine zz_iadd dJ6_bitCount_0f7a4_22 ?_
  refine zz_istore_0 dJ6_bitCount_0f7a4_23 rfl ?_
  refine zz_iload_0 dJ6_bitCount_0f7a4_24 ?_
  refine zz_iload_0 dJ6_bitCount_0f7a4_25 ?_
  refine zz_iconst (4) dJ6_bitCount_0f7a4_26 (by decide) ?_
  refine zz_iushr dJ6_bitCount_0f7a4_27 ?_
  refine zz_iadd dJ6_bitCount_0f7a4_28 ?_
  refine zz_ldcw dJ6_bitCount_0f7a4_29 ct_J6_267 ?_
  refine zz_iand dJ6_bitCount_0f7a4_32 ?_
  refine zz_istore_0 dJ6_bitCount_0f7a4_33 rfl ?_
  refine zz_iload_0 dJ6_bitCount_0f7a4_34 ?_
  refine zz_iload_0 dJ6_bitCount_0f7a4_35 ?_
  refine zz_bipush (8) dJ6_bitCount_0f7a4_36 (by decide) ?_
  refine zz_iushr dJ6_bitCount_0f7a4_38 ?_
  refine zz_iadd dJ6_bitCount_0f7a4_39 ?_
  refine zz_istore_0 dJ6_bitCount_0f7a4_40 rfl ?_
  refine zz_iload_0 dJ6_bitCount_0f7a4_41 ?_
  refine zz_iload_0 dJ6_bitCount_0f7a4_42 ?_
  refine zz_bipush (16) dJ6_bitCount_0f7a4_43 (by decide) ?_
  refine zz_iushr dJ6_bitCount_0f7a4_45 ?_
  refine zz_iadd dJ6_bitCount_0f7a4_46 ?_
  refine zz_istore_0 dJ6_bitCount_0f7a4_47 rfl ?_
  refine zz_iload_0 dJ6_bitCount_0f7a4_48 ?_
  refine zz_bipush (63) dJ6_bitCount_0f7a4_49 (by decide) ?_
  refine zz_iand dJ6_bitCount_0f7a4_51 ?_
  refine zz_iret rfl dJ6_bitCount_0f7a4_52 (by decide) (by decide) ?_
  rw [← bc_all ⟨s, hs⟩, ← hx] at h
  exact h
