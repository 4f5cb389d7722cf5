section ZZ
variable {C : zz_C} {M : zz_M} {d mc ms kc ks pc : Nat} {L : List (Option Value)} {st : List Value} {g : zz_G} {r : zz_R} {n : Nat} {Q : zz_Q}
variable {x y : Int32} {u v : Int64}
theorem zz_iconst {i : Int} (v : Int32) (hd : decode M.2.1 pc = .ok (.iconst i, 1)) (hv : Int32.ofInt i = v) (k : zz_Z C M d mc ms kc ks (pc + 1) L (.int v :: st) g r n Q) : zz_Z C M d mc ms kc ks pc L st g r n Q := by
  intro p e s m args below meth c H locs ls hF hW hl hL
  exact lv_iconst hF.1.1 hF.1.2.1 hd hv (k p e s m args below meth c H locs ls hF hW hl hL)
theorem zz_bipush {i : Int} (v : Int32) (hd : decode M.2.1 pc = .ok (.bipush i, 2)) (hv : (Int8.ofInt i).toInt32 = v) (k : zz_Z C M d mc ms kc ks (pc + 2) L (.int v :: st) g r n Q) : zz_Z C M d mc ms kc ks pc L st g r n Q := by
  intro p e s m args below meth c H locs ls hF hW hl hL
  exact lv_bipush hF.1.1 hF.1.2.1 hd hv (k p e s m args below meth c H locs ls hF hW hl hL)
theorem zz_sipush {i : Int} (v : Int32) (hd : decode M.2.1 pc = .ok (.sipush i, 3)) (hv : (Int16.ofInt i).toInt32 = v) (k : zz_Z C M d mc ms kc ks (pc + 3) L (.int v :: st) g r n Q) : zz_Z C M d mc ms kc ks pc L st g r n Q := by
  intro p e s m args below meth c H locs ls hF hW hl hL
  exact lv_sipush hF.1.1 hF.1.2.1 hd hv (k p e s m args below meth c H locs ls hF hW hl hL)
theorem zz_null (hd : decode M.2.1 pc = .ok (.aconst_null, 1)) (k : zz_Z C M d mc ms kc ks (pc + 1) L (.null :: st) g r n Q) : zz_Z C M d mc ms kc ks pc L st g r n Q := by
  intro p e s m args below meth c H locs ls hF hW hl hL
  exact lv_null hF.1.1 hF.1.2.1 hd (k p e s m args below meth c H locs ls hF hW hl hL)
theorem zz_ldc {ix : Nat} {v : Int32} (hd : decode M.2.1 pc = .ok (.ldc ix, 2)) (hc : Cond.constant M.1.cls ix v ∈ zz_tbl) (k : zz_Z C M d mc ms kc ks (pc + 2) L (.int v :: st) g r n Q) : zz_Z C M d mc ms kc ks pc L st g r n Q := by
  intro p e s m args below meth c H locs ls hF hW hl hL
  exact lv_ldc hF.1.1 hF.1.2.1 hF.1.2.2.2.2.2.1 (hF.2.1 _ hc) hd (k p e s m args below meth c H locs ls hF hW hl hL)
theorem zz_ldc2 {ix : Nat} {v : Int64} (hd : decode M.2.1 pc = .ok (.ldc2_w ix, 3)) (hc : Cond.constantLong M.1.cls ix v ∈ zz_tbl) (k : zz_Z C M d mc ms kc ks (pc + 3) L (.long v :: st) g r n Q) : zz_Z C M d mc ms kc ks pc L st g r n Q := by
  intro p e s m args below meth c H locs ls hF hW hl hL
  exact lv_ldc2 hF.1.1 hF.1.2.1 hF.1.2.2.2.2.2.1 (hF.2.1 _ hc) hd (k p e s m args below meth c H locs ls hF hW hl hL)
theorem zz_iadd (hd : decode M.2.1 pc = .ok (.iadd, 1)) (k : zz_Z C M d mc ms kc ks (pc + 1) L (.int (x + y) :: st) g r n Q) : zz_Z C M d mc ms kc ks pc L (.int y :: .int x :: st) g r n Q := by
  intro p e s m args below meth c H locs ls hF hW hl hL
  exact lv_iadd (rest := st.map (zz_v C)) hF.1.1 hF.1.2.1 hd (k p e s m args below meth c H locs ls hF hW hl hL)
theorem zz_isub (hd : decode M.2.1 pc = .ok (.isub, 1)) (k : zz_Z C M d mc ms kc ks (pc + 1) L (.int (x - y) :: st) g r n Q) : zz_Z C M d mc ms kc ks pc L (.int y :: .int x :: st) g r n Q := by
  intro p e s m args below meth c H locs ls hF hW hl hL
  exact lv_isub (rest := st.map (zz_v C)) hF.1.1 hF.1.2.1 hd (k p e s m args below meth c H locs ls hF hW hl hL)
theorem zz_imul (hd : decode M.2.1 pc = .ok (.imul, 1)) (k : zz_Z C M d mc ms kc ks (pc + 1) L (.int (x * y) :: st) g r n Q) : zz_Z C M d mc ms kc ks pc L (.int y :: .int x :: st) g r n Q := by
  intro p e s m args below meth c H locs ls hF hW hl hL
  exact lv_imul (rest := st.map (zz_v C)) hF.1.1 hF.1.2.1 hd (k p e s m args below meth c H locs ls hF hW hl hL)
theorem zz_iand (hd : decode M.2.1 pc = .ok (.iand, 1)) (k : zz_Z C M d mc ms kc ks (pc + 1) L (.int (x &&& y) :: st) g r n Q) : zz_Z C M d mc ms kc ks pc L (.int y :: .int x :: st) g r n Q := by
  intro p e s m args below meth c H locs ls hF hW hl hL
  exact lv_iand (rest := st.map (zz_v C)) hF.1.1 hF.1.2.1 hd (k p e s m args below meth c H locs ls hF hW hl hL)
theorem zz_ior (hd : decode M.2.1 pc = .ok (.ior, 1)) (k : zz_Z C M d mc ms kc ks (pc + 1) L (.int (x ||| y) :: st) g r n Q) : zz_Z C M d mc ms kc ks pc L (.int y :: .int x :: st) g r n Q := by
  intro p e s m args below meth c H locs ls hF hW hl hL
  exact lv_ior (rest := st.map (zz_v C)) hF.1.1 hF.1.2.1 hd (k p e s m args below meth c H locs ls hF hW hl hL)
theorem zz_ixor (hd : decode M.2.1 pc = .ok (.ixor, 1)) (k : zz_Z C M d mc ms kc ks (pc + 1) L (.int (x ^^^ y) :: st) g r n Q) : zz_Z C M d mc ms kc ks pc L (.int y :: .int x :: st) g r n Q := by
  intro p e s m args below meth c H locs ls hF hW hl hL
  exact lv_ixor (rest := st.map (zz_v C)) hF.1.1 hF.1.2.1 hd (k p e s m args below meth c H locs ls hF hW hl hL)
theorem zz_ineg (hd : decode M.2.1 pc = .ok (.ineg, 1)) (k : zz_Z C M d mc ms kc ks (pc + 1) L (.int (-x) :: st) g r n Q) : zz_Z C M d mc ms kc ks pc L (.int x :: st) g r n Q := by
  intro p e s m args below meth c H locs ls hF hW hl hL
  exact lv_ineg (rest := st.map (zz_v C)) hF.1.1 hF.1.2.1 hd (k p e s m args below meth c H locs ls hF hW hl hL)
theorem zz_idiv (hd : decode M.2.1 pc = .ok (.idiv, 1)) (hne : ¬ y = 0) (k : zz_Z C M d mc ms kc ks (pc + 1) L (.int (x / y) :: st) g r n Q) : zz_Z C M d mc ms kc ks pc L (.int y :: .int x :: st) g r n Q := by
  intro p e s m args below meth c H locs ls hF hW hl hL
  exact lv_idiv (rest := st.map (zz_v C)) hF.1.1 hF.1.2.1 hd hne (k p e s m args below meth c H locs ls hF hW hl hL)
theorem zz_irem (hd : decode M.2.1 pc = .ok (.irem, 1)) (hne : ¬ y = 0) (k : zz_Z C M d mc ms kc ks (pc + 1) L (.int (x - x / y * y) :: st) g r n Q) : zz_Z C M d mc ms kc ks pc L (.int y :: .int x :: st) g r n Q := by
  intro p e s m args below meth c H locs ls hF hW hl hL
  exact lv_irem (rest := st.map (zz_v C)) hF.1.1 hF.1.2.1 hd hne (k p e s m args below meth c H locs ls hF hW hl hL)
theorem zz_ishl (hd : decode M.2.1 pc = .ok (.ishl, 1)) (k : zz_Z C M d mc ms kc ks (pc + 1) L (.int (x <<< (y &&& 31)) :: st) g r n Q) : zz_Z C M d mc ms kc ks pc L (.int y :: .int x :: st) g r n Q := by
  intro p e s m args below meth c H locs ls hF hW hl hL
  exact lv_ishl (rest := st.map (zz_v C)) hF.1.1 hF.1.2.1 hd (k p e s m args below meth c H locs ls hF hW hl hL)
theorem zz_ishr (hd : decode M.2.1 pc = .ok (.ishr, 1)) (k : zz_Z C M d mc ms kc ks (pc + 1) L (.int (x >>> (y &&& 31)) :: st) g r n Q) : zz_Z C M d mc ms kc ks pc L (.int y :: .int x :: st) g r n Q := by
  intro p e s m args below meth c H locs ls hF hW hl hL
  exact lv_ishr (rest := st.map (zz_v C)) hF.1.1 hF.1.2.1 hd (k p e s m args below meth c H locs ls hF hW hl hL)
theorem zz_iushr (hd : decode M.2.1 pc = .ok (.iushr, 1)) (k : zz_Z C M d mc ms kc ks (pc + 1) L (.int (x.toUInt32 >>> (y.toUInt32 &&& Int32.toUInt32 31)).toInt32 :: st) g r n Q) : zz_Z C M d mc ms kc ks pc L (.int y :: .int x :: st) g r n Q := by
  intro p e s m args below meth c H locs ls hF hW hl hL
  exact lv_iushr (rest := st.map (zz_v C)) hF.1.1 hF.1.2.1 hd rfl (k p e s m args below meth c H locs ls hF hW hl hL)
theorem zz_i2l (hd : decode M.2.1 pc = .ok (.i2l, 1)) (k : zz_Z C M d mc ms kc ks (pc + 1) L (.long x.toInt64 :: st) g r n Q) : zz_Z C M d mc ms kc ks pc L (.int x :: st) g r n Q := by
  intro p e s m args below meth c H locs ls hF hW hl hL
  exact lv_i2l (rest := st.map (zz_v C)) hF.1.1 hF.1.2.1 hd rfl (k p e s m args below meth c H locs ls hF hW hl hL)
theorem zz_l2i (hd : decode M.2.1 pc = .ok (.l2i, 1)) (k : zz_Z C M d mc ms kc ks (pc + 1) L (.int u.toInt32 :: st) g r n Q) : zz_Z C M d mc ms kc ks pc L (.long u :: st) g r n Q := by
  intro p e s m args below meth c H locs ls hF hW hl hL
  exact lv_l2i (rest := st.map (zz_v C)) hF.1.1 hF.1.2.1 hd rfl (k p e s m args below meth c H locs ls hF hW hl hL)
theorem zz_i2b (hd : decode M.2.1 pc = .ok (.i2b, 1)) (k : zz_Z C M d mc ms kc ks (pc + 1) L (.int x.toInt8.toInt32 :: st) g r n Q) : zz_Z C M d mc ms kc ks pc L (.int x :: st) g r n Q := by
  intro p e s m args below meth c H locs ls hF hW hl hL
  exact lv_i2b (rest := st.map (zz_v C)) hF.1.1 hF.1.2.1 hd rfl (k p e s m args below meth c H locs ls hF hW hl hL)
theorem zz_i2s (hd : decode M.2.1 pc = .ok (.i2s, 1)) (k : zz_Z C M d mc ms kc ks (pc + 1) L (.int x.toInt16.toInt32 :: st) g r n Q) : zz_Z C M d mc ms kc ks pc L (.int x :: st) g r n Q := by
  intro p e s m args below meth c H locs ls hF hW hl hL
  exact lv_i2s (rest := st.map (zz_v C)) hF.1.1 hF.1.2.1 hd rfl (k p e s m args below meth c H locs ls hF hW hl hL)
theorem zz_i2c (hd : decode M.2.1 pc = .ok (.i2c, 1)) (k : zz_Z C M d mc ms kc ks (pc + 1) L (.int (x.toUInt32 % 65536).toInt32 :: st) g r n Q) : zz_Z C M d mc ms kc ks pc L (.int x :: st) g r n Q := by
  intro p e s m args below meth c H locs ls hF hW hl hL
  exact lv_i2c (rest := st.map (zz_v C)) hF.1.1 hF.1.2.1 hd rfl (k p e s m args below meth c H locs ls hF hW hl hL)
theorem zz_lushr (hd : decode M.2.1 pc = .ok (.lushr, 1)) (k : zz_Z C M d mc ms kc ks (pc + 1) L (.long (u.toUInt64 >>> (y.toInt64.toUInt64 &&& Int64.toUInt64 63)).toInt64 :: st) g r n Q) : zz_Z C M d mc ms kc ks pc L (.int y :: .long u :: st) g r n Q := by
  intro p e s m args below meth c H locs ls hF hW hl hL
  exact lv_lushr (rest := st.map (zz_v C)) hF.1.1 hF.1.2.1 hd rfl (k p e s m args below meth c H locs ls hF hW hl hL)
theorem zz_lshr (hd : decode M.2.1 pc = .ok (.lshr, 1)) (k : zz_Z C M d mc ms kc ks (pc + 1) L (.long (u >>> (y.toInt64 &&& 63)) :: st) g r n Q) : zz_Z C M d mc ms kc ks pc L (.int y :: .long u :: st) g r n Q := by
  intro p e s m args below meth c H locs ls hF hW hl hL
  exact lv_lshr (rest := st.map (zz_v C)) hF.1.1 hF.1.2.1 hd rfl (k p e s m args below meth c H locs ls hF hW hl hL)
theorem zz_lshl (hd : decode M.2.1 pc = .ok (.lshl, 1)) (k : zz_Z C M d mc ms kc ks (pc + 1) L (.long (u <<< (y.toInt64 &&& 63)) :: st) g r n Q) : zz_Z C M d mc ms kc ks pc L (.int y :: .long u :: st) g r n Q := by
  intro p e s m args below meth c H locs ls hF hW hl hL
  exact lv_lshl (rest := st.map (zz_v C)) hF.1.1 hF.1.2.1 hd rfl (k p e s m args below meth c H locs ls hF hW hl hL)
theorem zz_land (hd : decode M.2.1 pc = .ok (.land, 1)) (k : zz_Z C M d mc ms kc ks (pc + 1) L (.long (u &&& v) :: st) g r n Q) : zz_Z C M d mc ms kc ks pc L (.long v :: .long u :: st) g r n Q := by
  intro p e s m args below meth c H locs ls hF hW hl hL
  exact lv_land (rest := st.map (zz_v C)) hF.1.1 hF.1.2.1 hd (k p e s m args below meth c H locs ls hF hW hl hL)
theorem zz_lor (hd : decode M.2.1 pc = .ok (.lor, 1)) (k : zz_Z C M d mc ms kc ks (pc + 1) L (.long (u ||| v) :: st) g r n Q) : zz_Z C M d mc ms kc ks pc L (.long v :: .long u :: st) g r n Q := by
  intro p e s m args below meth c H locs ls hF hW hl hL
  exact lv_lor (rest := st.map (zz_v C)) hF.1.1 hF.1.2.1 hd (k p e s m args below meth c H locs ls hF hW hl hL)
theorem zz_dup {a : Value} (hd : decode M.2.1 pc = .ok (.dup, 1)) (ha : a.category = 1) (k : zz_Z C M d mc ms kc ks (pc + 1) L (a :: a :: st) g r n Q) : zz_Z C M d mc ms kc ks pc L (a :: st) g r n Q := by
  intro p e s m args below meth c H locs ls hF hW hl hL
  exact lv_dup (va := zz_v C a) (rest := st.map (zz_v C)) hF.1.1 hF.1.2.1 hd (by rw [zz_cat]; exact ha) (k p e s m args below meth c H locs ls hF hW hl hL)
theorem zz_pop {a : Value} (hd : decode M.2.1 pc = .ok (.pop, 1)) (ha : a.category = 1) (k : zz_Z C M d mc ms kc ks (pc + 1) L st g r n Q) : zz_Z C M d mc ms kc ks pc L (a :: st) g r n Q := by
  intro p e s m args below meth c H locs ls hF hW hl hL
  exact lv_pop (va := zz_v C a) (rest := st.map (zz_v C)) hF.1.1 hF.1.2.1 hd (by rw [zz_cat]; exact ha) (k p e s m args below meth c H locs ls hF hW hl hL)
theorem zz_dup2 {a b : Value} (hd : decode M.2.1 pc = .ok (.dup2, 1)) (ha : a.category = 1) (hb : b.category = 1) (k : zz_Z C M d mc ms kc ks (pc + 1) L (a :: b :: a :: b :: st) g r n Q) : zz_Z C M d mc ms kc ks pc L (a :: b :: st) g r n Q := by
  intro p e s m args below meth c H locs ls hF hW hl hL
  exact lv_dup2_11 (va := zz_v C a) (vb := zz_v C b) (rest := st.map (zz_v C)) hF.1.1 hF.1.2.1 hd (by rw [zz_cat]; exact ha) (by rw [zz_cat]; exact hb) (k p e s m args below meth c H locs ls hF hW hl hL)
theorem zz_if_eq {off : Int} (tgt : Nat) (hd : decode M.2.1 pc = .ok (.ifCond .eq off, 3)) (ht : (pc : Int) + off = (tgt : Int)) (kt : x = 0 → zz_Z C M d mc ms kc ks tgt L st g r n Q) (kf : ¬ x = 0 → zz_Z C M d mc ms kc ks (pc + 3) L st g r n Q) : zz_Z C M d mc ms kc ks pc L (.int x :: st) g r n Q := by
  intro p e s m args below meth c H locs ls hF hW hl hL
  exact lv_if_eq (rest := st.map (zz_v C)) hF.1.1 hF.1.2.1 hd ht (fun h => kt h p e s m args below meth c H locs ls hF hW hl hL) (fun h => kf h p e s m args below meth c H locs ls hF hW hl hL)
theorem zz_icmp_eq {off : Int} (tgt : Nat) (hd : decode M.2.1 pc = .ok (.if_icmp .eq off, 3)) (ht : (pc : Int) + off = (tgt : Int)) (kt : x = y → zz_Z C M d mc ms kc ks tgt L st g r n Q) (kf : ¬ x = y → zz_Z C M d mc ms kc ks (pc + 3) L st g r n Q) : zz_Z C M d mc ms kc ks pc L (.int y :: .int x :: st) g r n Q := by
  intro p e s m args below meth c H locs ls hF hW hl hL
  exact lv_icmp_eq (rest := st.map (zz_v C)) hF.1.1 hF.1.2.1 hd ht (fun h => kt h p e s m args below meth c H locs ls hF hW hl hL) (fun h => kf h p e s m args below meth c H locs ls hF hW hl hL)
theorem zz_if_ne {off : Int} (tgt : Nat) (hd : decode M.2.1 pc = .ok (.ifCond .ne off, 3)) (ht : (pc : Int) + off = (tgt : Int)) (kt : ¬ x = 0 → zz_Z C M d mc ms kc ks tgt L st g r n Q) (kf : x = 0 → zz_Z C M d mc ms kc ks (pc + 3) L st g r n Q) : zz_Z C M d mc ms kc ks pc L (.int x :: st) g r n Q := by
  intro p e s m args below meth c H locs ls hF hW hl hL
  exact lv_if_ne (rest := st.map (zz_v C)) hF.1.1 hF.1.2.1 hd ht (fun h => kt h p e s m args below meth c H locs ls hF hW hl hL) (fun h => kf h p e s m args below meth c H locs ls hF hW hl hL)
theorem zz_icmp_ne {off : Int} (tgt : Nat) (hd : decode M.2.1 pc = .ok (.if_icmp .ne off, 3)) (ht : (pc : Int) + off = (tgt : Int)) (kt : ¬ x = y → zz_Z C M d mc ms kc ks tgt L st g r n Q) (kf : x = y → zz_Z C M d mc ms kc ks (pc + 3) L st g r n Q) : zz_Z C M d mc ms kc ks pc L (.int y :: .int x :: st) g r n Q := by
  intro p e s m args below meth c H locs ls hF hW hl hL
  exact lv_icmp_ne (rest := st.map (zz_v C)) hF.1.1 hF.1.2.1 hd ht (fun h => kt h p e s m args below meth c H locs ls hF hW hl hL) (fun h => kf h p e s m args below meth c H locs ls hF hW hl hL)
theorem zz_if_lt {off : Int} (tgt : Nat) (hd : decode M.2.1 pc = .ok (.ifCond .lt off, 3)) (ht : (pc : Int) + off = (tgt : Int)) (kt : x < 0 → zz_Z C M d mc ms kc ks tgt L st g r n Q) (kf : ¬ x < 0 → zz_Z C M d mc ms kc ks (pc + 3) L st g r n Q) : zz_Z C M d mc ms kc ks pc L (.int x :: st) g r n Q := by
  intro p e s m args below meth c H locs ls hF hW hl hL
  exact lv_if_lt (rest := st.map (zz_v C)) hF.1.1 hF.1.2.1 hd ht (fun h => kt h p e s m args below meth c H locs ls hF hW hl hL) (fun h => kf h p e s m args below meth c H locs ls hF hW hl hL)
theorem zz_icmp_lt {off : Int} (tgt : Nat) (hd : decode M.2.1 pc = .ok (.if_icmp .lt off, 3)) (ht : (pc : Int) + off = (tgt : Int)) (kt : x < y → zz_Z C M d mc ms kc ks tgt L st g r n Q) (kf : ¬ x < y → zz_Z C M d mc ms kc ks (pc + 3) L st g r n Q) : zz_Z C M d mc ms kc ks pc L (.int y :: .int x :: st) g r n Q := by
  intro p e s m args below meth c H locs ls hF hW hl hL
  exact lv_icmp_lt (rest := st.map (zz_v C)) hF.1.1 hF.1.2.1 hd ht (fun h => kt h p e s m args below meth c H locs ls hF hW hl hL) (fun h => kf h p e s m args below meth c H locs ls hF hW hl hL)
theorem zz_if_ge {off : Int} (tgt : Nat) (hd : decode M.2.1 pc = .ok (.ifCond .ge off, 3)) (ht : (pc : Int) + off = (tgt : Int)) (kt : 0 ≤ x → zz_Z C M d mc ms kc ks tgt L st g r n Q) (kf : ¬ 0 ≤ x → zz_Z C M d mc ms kc ks (pc + 3) L st g r n Q) : zz_Z C M d mc ms kc ks pc L (.int x :: st) g r n Q := by
  intro p e s m args below meth c H locs ls hF hW hl hL
  exact lv_if_ge (rest := st.map (zz_v C)) hF.1.1 hF.1.2.1 hd ht (fun h => kt h p e s m args below meth c H locs ls hF hW hl hL) (fun h => kf h p e s m args below meth c H locs ls hF hW hl hL)
theorem zz_icmp_ge {off : Int} (tgt : Nat) (hd : decode M.2.1 pc = .ok (.if_icmp .ge off, 3)) (ht : (pc : Int) + off = (tgt : Int)) (kt : y ≤ x → zz_Z C M d mc ms kc ks tgt L st g r n Q) (kf : ¬ y ≤ x → zz_Z C M d mc ms kc ks (pc + 3) L st g r n Q) : zz_Z C M d mc ms kc ks pc L (.int y :: .int x :: st) g r n Q := by
  intro p e s m args below meth c H locs ls hF hW hl hL
  exact lv_icmp_ge (rest := st.map (zz_v C)) hF.1.1 hF.1.2.1 hd ht (fun h => kt h p e s m args below meth c H locs ls hF hW hl hL) (fun h => kf h p e s m args below meth c H locs ls hF hW hl hL)
theorem zz_if_gt {off : Int} (tgt : Nat) (hd : decode M.2.1 pc = .ok (.ifCond .gt off, 3)) (ht : (pc : Int) + off = (tgt : Int)) (kt : 0 < x → zz_Z C M d mc ms kc ks tgt L st g r n Q) (kf : ¬ 0 < x → zz_Z C M d mc ms kc ks (pc + 3) L st g r n Q) : zz_Z C M d mc ms kc ks pc L (.int x :: st) g r n Q := by
  intro p e s m args below meth c H locs ls hF hW hl hL
  exact lv_if_gt (rest := st.map (zz_v C)) hF.1.1 hF.1.2.1 hd ht (fun h => kt h p e s m args below meth c H locs ls hF hW hl hL) (fun h => kf h p e s m args below meth c H locs ls hF hW hl hL)
theorem zz_icmp_gt {off : Int} (tgt : Nat) (hd : decode M.2.1 pc = .ok (.if_icmp .gt off, 3)) (ht : (pc : Int) + off = (tgt : Int)) (kt : y < x → zz_Z C M d mc ms kc ks tgt L st g r n Q) (kf : ¬ y < x → zz_Z C M d mc ms kc ks (pc + 3) L st g r n Q) : zz_Z C M d mc ms kc ks pc L (.int y :: .int x :: st) g r n Q := by
  intro p e s m args below meth c H locs ls hF hW hl hL
  exact lv_icmp_gt (rest := st.map (zz_v C)) hF.1.1 hF.1.2.1 hd ht (fun h => kt h p e s m args below meth c H locs ls hF hW hl hL) (fun h => kf h p e s m args below meth c H locs ls hF hW hl hL)
theorem zz_if_le {off : Int} (tgt : Nat) (hd : decode M.2.1 pc = .ok (.ifCond .le off, 3)) (ht : (pc : Int) + off = (tgt : Int)) (kt : x ≤ 0 → zz_Z C M d mc ms kc ks tgt L st g r n Q) (kf : ¬ x ≤ 0 → zz_Z C M d mc ms kc ks (pc + 3) L st g r n Q) : zz_Z C M d mc ms kc ks pc L (.int x :: st) g r n Q := by
  intro p e s m args below meth c H locs ls hF hW hl hL
  exact lv_if_le (rest := st.map (zz_v C)) hF.1.1 hF.1.2.1 hd ht (fun h => kt h p e s m args below meth c H locs ls hF hW hl hL) (fun h => kf h p e s m args below meth c H locs ls hF hW hl hL)
theorem zz_icmp_le {off : Int} (tgt : Nat) (hd : decode M.2.1 pc = .ok (.if_icmp .le off, 3)) (ht : (pc : Int) + off = (tgt : Int)) (kt : x ≤ y → zz_Z C M d mc ms kc ks tgt L st g r n Q) (kf : ¬ x ≤ y → zz_Z C M d mc ms kc ks (pc + 3) L st g r n Q) : zz_Z C M d mc ms kc ks pc L (.int y :: .int x :: st) g r n Q := by
  intro p e s m args below meth c H locs ls hF hW hl hL
  exact lv_icmp_le (rest := st.map (zz_v C)) hF.1.1 hF.1.2.1 hd ht (fun h => kt h p e s m args below meth c H locs ls hF hW hl hL) (fun h => kf h p e s m args below meth c H locs ls hF hW hl hL)
theorem zz_goto {off : Int} (tgt : Nat) (hd : decode M.2.1 pc = .ok (.goto off, 3)) (ht : (pc : Int) + off = (tgt : Int)) (k : zz_Z C M d mc ms kc ks tgt L st g r n Q) : zz_Z C M d mc ms kc ks pc L st g r n Q := by
  intro p e s m args below meth c H locs ls hF hW hl hL
  exact lv_goto hF.1.1 hF.1.2.1 hd ht (k p e s m args below meth c H locs ls hF hW hl hL)
theorem zz_ifnonnull {off : Int} {a : Nat} (tgt : Nat) (hd : decode M.2.1 pc = .ok (.ifnonnull off, 3)) (ht : (pc : Int) + off = (tgt : Int)) (k : zz_Z C M d mc ms kc ks tgt L st g r n Q) : zz_Z C M d mc ms kc ks pc L (.ref a :: st) g r n Q := by
  intro p e s m args below meth c H locs ls hF hW hl hL
  exact lv_ifnonnull (rest := st.map (zz_v C)) hF.1.1 hF.1.2.1 hd ht (k p e s m args below meth c H locs ls hF hW hl hL)
theorem zz_ifnonnullN {off : Int} (hd : decode M.2.1 pc = .ok (.ifnonnull off, 3)) (k : zz_Z C M d mc ms kc ks (pc + 3) L st g r n Q) : zz_Z C M d mc ms kc ks pc L (.null :: st) g r n Q := by
  intro p e s m args below meth c H locs ls hF hW hl hL
  exact lv_ifnonnullN (rest := st.map (zz_v C)) hF.1.1 hF.1.2.1 hd (k p e s m args below meth c H locs ls hF hW hl hL)
theorem zz_tableOut {dflt lo hi : Int} {offs : Array Int} {len : Nat} (tgt : Nat) (hd : decode M.2.1 pc = .ok (.tableswitch dflt lo hi offs, len)) (h : x.toInt < lo ∨ hi < x.toInt) (ht : (pc : Int) + dflt = (tgt : Int)) (k : zz_Z C M d mc ms kc ks tgt L st g r n Q) : zz_Z C M d mc ms kc ks pc L (.int x :: st) g r n Q := by
  intro p e s m args below meth c H locs ls hF hW hl hL
  exact lv_tableOut (rest := st.map (zz_v C)) hF.1.1 hF.1.2.1 hd h ht (k p e s m args below meth c H locs ls hF hW hl hL)
theorem zz_tableIn {dflt lo hi off : Int} {offs : Array Int} {len : Nat} (tgt : Nat) (hd : decode M.2.1 pc = .ok (.tableswitch dflt lo hi offs, len)) (h1 : ¬ x.toInt < lo) (h2 : ¬ hi < x.toInt) (ho : offs[(x.toInt - lo).toNat]? = some off) (ht : (pc : Int) + off = (tgt : Int)) (k : zz_Z C M d mc ms kc ks tgt L st g r n Q) : zz_Z C M d mc ms kc ks pc L (.int x :: st) g r n Q := by
  intro p e s m args below meth c H locs ls hF hW hl hL
  exact lv_tableIn (rest := st.map (zz_v C)) hF.1.1 hF.1.2.1 hd h1 h2 ho ht (k p e s m args below meth c H locs ls hF hW hl hL)
theorem zz_lookup {dflt off : Int} {ps : Array (Int × Int)} {len : Nat} (tgt : Nat) (hd : decode M.2.1 pc = .ok (.lookupswitch dflt ps, len)) (hp : (ps.toList.zip (ps.toList.drop 1)).all (fun (a, next) => a.1 < next.1) = true) (ho : Op.lookupswitch.offset ps.toList dflt x.toInt = off) (ht : (pc : Int) + off = (tgt : Int)) (k : zz_Z C M d mc ms kc ks tgt L st g r n Q) : zz_Z C M d mc ms kc ks pc L (.int x :: st) g r n Q := by
  intro p e s m args below meth c H locs ls hF hW hl hL
  exact lv_lookup (rest := st.map (zz_v C)) hF.1.1 hF.1.2.1 hd hp ho ht (k p e s m args below meth c H locs ls hF hW hl hL)
def zz_as (C : zz_C) (L : List (Option Value)) : List (Nat × Value) := L.zipIdx.filterMap fun q => q.1.map fun v => (q.2, zz_v C v)
theorem zz_as_in {i : Nat} {w : Value} (h : L[i]? = some (some w)) : (i, zz_v C w) ∈ zz_as C L := by
  refine List.mem_filterMap.mpr ⟨(some w, i), ?_, rfl⟩
  exact List.mk_mem_zipIdx_iff_getElem?.mpr h
theorem zz_as_of {q : Nat × Value} (h : q ∈ zz_as C L) : ∃ w, L[q.1]? = some (some w) ∧ q.2 = zz_v C w := by
  obtain ⟨⟨o, i⟩, h1, h2⟩ := List.mem_filterMap.mp h
  have h3 := List.mk_mem_zipIdx_iff_getElem?.mp h1
  cases o with
  | none => cases h2
  | some w =>
    cases h2
    exact ⟨w, h3, rfl⟩
theorem zz_l_has {ls : Array Slot} {nL : Nat} (h : zz_l C ls nL L) : lv_has ls nL (zz_as C L) := by
  refine ⟨h.1, h.2.1, fun q hq => ?_⟩
  obtain ⟨w, h1, h2⟩ := zz_as_of hq
  rw [h2]
  exact h.2.2 q.1 w h1
def zz_ok1 : Option Value → Bool
  | some w => w.category == 1
  | none => true
theorem zz_l_set {ls' : Array Slot} {nL i : Nat} {w : Value} (hL : L.length = nL) (hc : i = 0 ∨ ∀ o, L[i - 1]? = some o → zz_ok1 o = true) (h : lv_has ls' nL ((i, zz_v C w) :: (zz_as C L).filter (fun q => !(q.1 == i) && !(q.1 + 1 == i && q.2.category == 2)))) : zz_l C ls' nL (L.set i (some w)) := by
  refine ⟨h.1, h.2.1, fun j z hj => ?_⟩
  by_cases hji : j = i
  · subst hji
    have hlt : j < L.length := by
      have := (List.getElem?_eq_some_iff.mp hj).1
      simpa using this
    rw [List.getElem?_set_self hlt] at hj
    have hw : w = z := Option.some.inj (Option.some.inj hj)
    rw [← hw]
    exact h.2.2 (j, zz_v C w) List.mem_cons_self
  · rw [List.getElem?_set_ne (Ne.symm hji)] at hj
    refine h.2.2 (j, zz_v C z) (List.mem_cons_of_mem _ (List.mem_filter.mpr ⟨zz_as_in hj, ?_⟩))
    have h1 : (j == i) = false := by simpa using hji
    rcases hc with hc | hc
    · have h2 : (j + 1 == i) = false := by simp; omega
      simp [h1, h2]
    · by_cases h3 : j + 1 = i
      · have h4 : j = i - 1 := by omega
        rw [h4] at hj
        have h5 := hc _ hj
        simp only [zz_ok1, beq_iff_eq] at h5
        simp [h1, zz_cat, h5]
      · have h2 : (j + 1 == i) = false := by simpa using h3
        simp [h1, h2]
theorem zz_iload_0 {t : List (Option Value)} (hd : decode M.2.1 pc = .ok (.iload_n 0, 1)) (k : zz_Z C M d mc ms kc ks (pc + 1) (some (.int x) :: t) (.int x :: st) g r n Q) : zz_Z C M d mc ms kc ks pc (some (.int x) :: t) st g r n Q := by
  intro p e s m args below meth c H locs ls hF hW hl hL
  exact lv_iload_n (x := x) hF.1.1 hF.1.2.1 hd (i := 0) rfl (hL.2.2 0 _ rfl) (k p e s m args below meth c H locs ls hF hW hl hL)
theorem zz_iload_1 {a0 : Option Value} {t : List (Option Value)} (hd : decode M.2.1 pc = .ok (.iload_n 1, 1)) (k : zz_Z C M d mc ms kc ks (pc + 1) (a0 :: some (.int x) :: t) (.int x :: st) g r n Q) : zz_Z C M d mc ms kc ks pc (a0 :: some (.int x) :: t) st g r n Q := by
  intro p e s m args below meth c H locs ls hF hW hl hL
  exact lv_iload_n (x := x) hF.1.1 hF.1.2.1 hd (i := 1) rfl (hL.2.2 1 _ rfl) (k p e s m args below meth c H locs ls hF hW hl hL)
theorem zz_iload_2 {a0 a1 : Option Value} {t : List (Option Value)} (hd : decode M.2.1 pc = .ok (.iload_n 2, 1)) (k : zz_Z C M d mc ms kc ks (pc + 1) (a0 :: a1 :: some (.int x) :: t) (.int x :: st) g r n Q) : zz_Z C M d mc ms kc ks pc (a0 :: a1 :: some (.int x) :: t) st g r n Q := by
  intro p e s m args below meth c H locs ls hF hW hl hL
  exact lv_iload_n (x := x) hF.1.1 hF.1.2.1 hd (i := 2) rfl (hL.2.2 2 _ rfl) (k p e s m args below meth c H locs ls hF hW hl hL)
theorem zz_iload_3 {a0 a1 a2 : Option Value} {t : List (Option Value)} (hd : decode M.2.1 pc = .ok (.iload_n 3, 1)) (k : zz_Z C M d mc ms kc ks (pc + 1) (a0 :: a1 :: a2 :: some (.int x) :: t) (.int x :: st) g r n Q) : zz_Z C M d mc ms kc ks pc (a0 :: a1 :: a2 :: some (.int x) :: t) st g r n Q := by
  intro p e s m args below meth c H locs ls hF hW hl hL
  exact lv_iload_n (x := x) hF.1.1 hF.1.2.1 hd (i := 3) rfl (hL.2.2 3 _ rfl) (k p e s m args below meth c H locs ls hF hW hl hL)
theorem zz_iload_4 {a0 a1 a2 a3 : Option Value} {t : List (Option Value)} (hd : decode M.2.1 pc = .ok (.iload 4, 2)) (k : zz_Z C M d mc ms kc ks (pc + 2) (a0 :: a1 :: a2 :: a3 :: some (.int x) :: t) (.int x :: st) g r n Q) : zz_Z C M d mc ms kc ks pc (a0 :: a1 :: a2 :: a3 :: some (.int x) :: t) st g r n Q := by
  intro p e s m args below meth c H locs ls hF hW hl hL
  exact lv_iload (x := x) hF.1.1 hF.1.2.1 hd (hL.2.2 4 _ rfl) (k p e s m args below meth c H locs ls hF hW hl hL)
theorem zz_iload_5 {a0 a1 a2 a3 a4 : Option Value} {t : List (Option Value)} (hd : decode M.2.1 pc = .ok (.iload 5, 2)) (k : zz_Z C M d mc ms kc ks (pc + 2) (a0 :: a1 :: a2 :: a3 :: a4 :: some (.int x) :: t) (.int x :: st) g r n Q) : zz_Z C M d mc ms kc ks pc (a0 :: a1 :: a2 :: a3 :: a4 :: some (.int x) :: t) st g r n Q := by
  intro p e s m args below meth c H locs ls hF hW hl hL
  exact lv_iload (x := x) hF.1.1 hF.1.2.1 hd (hL.2.2 5 _ rfl) (k p e s m args below meth c H locs ls hF hW hl hL)
theorem zz_iload_6 {a0 a1 a2 a3 a4 a5 : Option Value} {t : List (Option Value)} (hd : decode M.2.1 pc = .ok (.iload 6, 2)) (k : zz_Z C M d mc ms kc ks (pc + 2) (a0 :: a1 :: a2 :: a3 :: a4 :: a5 :: some (.int x) :: t) (.int x :: st) g r n Q) : zz_Z C M d mc ms kc ks pc (a0 :: a1 :: a2 :: a3 :: a4 :: a5 :: some (.int x) :: t) st g r n Q := by
  intro p e s m args below meth c H locs ls hF hW hl hL
  exact lv_iload (x := x) hF.1.1 hF.1.2.1 hd (hL.2.2 6 _ rfl) (k p e s m args below meth c H locs ls hF hW hl hL)
theorem zz_iload_7 {a0 a1 a2 a3 a4 a5 a6 : Option Value} {t : List (Option Value)} (hd : decode M.2.1 pc = .ok (.iload 7, 2)) (k : zz_Z C M d mc ms kc ks (pc + 2) (a0 :: a1 :: a2 :: a3 :: a4 :: a5 :: a6 :: some (.int x) :: t) (.int x :: st) g r n Q) : zz_Z C M d mc ms kc ks pc (a0 :: a1 :: a2 :: a3 :: a4 :: a5 :: a6 :: some (.int x) :: t) st g r n Q := by
  intro p e s m args below meth c H locs ls hF hW hl hL
  exact lv_iload (x := x) hF.1.1 hF.1.2.1 hd (hL.2.2 7 _ rfl) (k p e s m args below meth c H locs ls hF hW hl hL)
theorem zz_iload_8 {a0 a1 a2 a3 a4 a5 a6 a7 : Option Value} {t : List (Option Value)} (hd : decode M.2.1 pc = .ok (.iload 8, 2)) (k : zz_Z C M d mc ms kc ks (pc + 2) (a0 :: a1 :: a2 :: a3 :: a4 :: a5 :: a6 :: a7 :: some (.int x) :: t) (.int x :: st) g r n Q) : zz_Z C M d mc ms kc ks pc (a0 :: a1 :: a2 :: a3 :: a4 :: a5 :: a6 :: a7 :: some (.int x) :: t) st g r n Q := by
  intro p e s m args below meth c H locs ls hF hW hl hL
  exact lv_iload (x := x) hF.1.1 hF.1.2.1 hd (hL.2.2 8 _ rfl) (k p e s m args below meth c H locs ls hF hW hl hL)
theorem zz_iload_9 {a0 a1 a2 a3 a4 a5 a6 a7 a8 : Option Value} {t : List (Option Value)} (hd : decode M.2.1 pc = .ok (.iload 9, 2)) (k : zz_Z C M d mc ms kc ks (pc + 2) (a0 :: a1 :: a2 :: a3 :: a4 :: a5 :: a6 :: a7 :: a8 :: some (.int x) :: t) (.int x :: st) g r n Q) : zz_Z C M d mc ms kc ks pc (a0 :: a1 :: a2 :: a3 :: a4 :: a5 :: a6 :: a7 :: a8 :: some (.int x) :: t) st g r n Q := by
  intro p e s m args below meth c H locs ls hF hW hl hL
  exact lv_iload (x := x) hF.1.1 hF.1.2.1 hd (hL.2.2 9 _ rfl) (k p e s m args below meth c H locs ls hF hW hl hL)
theorem zz_iload_10 {a0 a1 a2 a3 a4 a5 a6 a7 a8 a9 : Option Value} {t : List (Option Value)} (hd : decode M.2.1 pc = .ok (.iload 10, 2)) (k : zz_Z C M d mc ms kc ks (pc + 2) (a0 :: a1 :: a2 :: a3 :: a4 :: a5 :: a6 :: a7 :: a8 :: a9 :: some (.int x) :: t) (.int x :: st) g r n Q) : zz_Z C M d mc ms kc ks pc (a0 :: a1 :: a2 :: a3 :: a4 :: a5 :: a6 :: a7 :: a8 :: a9 :: some (.int x) :: t) st g r n Q := by
  intro p e s m args below meth c H locs ls hF hW hl hL
  exact lv_iload (x := x) hF.1.1 hF.1.2.1 hd (hL.2.2 10 _ rfl) (k p e s m args below meth c H locs ls hF hW hl hL)
theorem zz_iload_11 {a0 a1 a2 a3 a4 a5 a6 a7 a8 a9 a10 : Option Value} {t : List (Option Value)} (hd : decode M.2.1 pc = .ok (.iload 11, 2)) (k : zz_Z C M d mc ms kc ks (pc + 2) (a0 :: a1 :: a2 :: a3 :: a4 :: a5 :: a6 :: a7 :: a8 :: a9 :: a10 :: some (.int x) :: t) (.int x :: st) g r n Q) : zz_Z C M d mc ms kc ks pc (a0 :: a1 :: a2 :: a3 :: a4 :: a5 :: a6 :: a7 :: a8 :: a9 :: a10 :: some (.int x) :: t) st g r n Q := by
  intro p e s m args below meth c H locs ls hF hW hl hL
  exact lv_iload (x := x) hF.1.1 hF.1.2.1 hd (hL.2.2 11 _ rfl) (k p e s m args below meth c H locs ls hF hW hl hL)
theorem zz_iload_12 {a0 a1 a2 a3 a4 a5 a6 a7 a8 a9 a10 a11 : Option Value} {t : List (Option Value)} (hd : decode M.2.1 pc = .ok (.iload 12, 2)) (k : zz_Z C M d mc ms kc ks (pc + 2) (a0 :: a1 :: a2 :: a3 :: a4 :: a5 :: a6 :: a7 :: a8 :: a9 :: a10 :: a11 :: some (.int x) :: t) (.int x :: st) g r n Q) : zz_Z C M d mc ms kc ks pc (a0 :: a1 :: a2 :: a3 :: a4 :: a5 :: a6 :: a7 :: a8 :: a9 :: a10 :: a11 :: some (.int x) :: t) st g r n Q := by
  intro p e s m args below meth c H locs ls hF hW hl hL
  exact lv_iload (x := x) hF.1.1 hF.1.2.1 hd (hL.2.2 12 _ rfl) (k p e s m args below meth c H locs ls hF hW hl hL)
theorem zz_iload_13 {a0 a1 a2 a3 a4 a5 a6 a7 a8 a9 a10 a11 a12 : Option Value} {t : List (Option Value)} (hd : decode M.2.1 pc = .ok (.iload 13, 2)) (k : zz_Z C M d mc ms kc ks (pc + 2) (a0 :: a1 :: a2 :: a3 :: a4 :: a5 :: a6 :: a7 :: a8 :: a9 :: a10 :: a11 :: a12 :: some (.int x) :: t) (.int x :: st) g r n Q) : zz_Z C M d mc ms kc ks pc (a0 :: a1 :: a2 :: a3 :: a4 :: a5 :: a6 :: a7 :: a8 :: a9 :: a10 :: a11 :: a12 :: some (.int x) :: t) st g r n Q := by
  intro p e s m args below meth c H locs ls hF hW hl hL
  exact lv_iload (x := x) hF.1.1 hF.1.2.1 hd (hL.2.2 13 _ rfl) (k p e s m args below meth c H locs ls hF hW hl hL)
theorem zz_aload_0 {a : Nat} {t : List (Option Value)} (hd : decode M.2.1 pc = .ok (.aload_n 0, 1)) (k : zz_Z C M d mc ms kc ks (pc + 1) (some (.ref a) :: t) (.ref a :: st) g r n Q) : zz_Z C M d mc ms kc ks pc (some (.ref a) :: t) st g r n Q := by
  intro p e s m args below meth c H locs ls hF hW hl hL
  exact lv_aload_n (x := zz_A C a) hF.1.1 hF.1.2.1 hd (i := 0) rfl (hL.2.2 0 _ rfl) (k p e s m args below meth c H locs ls hF hW hl hL)
theorem zz_aload_1 {a0 : Option Value} {a : Nat} {t : List (Option Value)} (hd : decode M.2.1 pc = .ok (.aload_n 1, 1)) (k : zz_Z C M d mc ms kc ks (pc + 1) (a0 :: some (.ref a) :: t) (.ref a :: st) g r n Q) : zz_Z C M d mc ms kc ks pc (a0 :: some (.ref a) :: t) st g r n Q := by
  intro p e s m args below meth c H locs ls hF hW hl hL
  exact lv_aload_n (x := zz_A C a) hF.1.1 hF.1.2.1 hd (i := 1) rfl (hL.2.2 1 _ rfl) (k p e s m args below meth c H locs ls hF hW hl hL)
theorem zz_aload_2 {a0 a1 : Option Value} {a : Nat} {t : List (Option Value)} (hd : decode M.2.1 pc = .ok (.aload_n 2, 1)) (k : zz_Z C M d mc ms kc ks (pc + 1) (a0 :: a1 :: some (.ref a) :: t) (.ref a :: st) g r n Q) : zz_Z C M d mc ms kc ks pc (a0 :: a1 :: some (.ref a) :: t) st g r n Q := by
  intro p e s m args below meth c H locs ls hF hW hl hL
  exact lv_aload_n (x := zz_A C a) hF.1.1 hF.1.2.1 hd (i := 2) rfl (hL.2.2 2 _ rfl) (k p e s m args below meth c H locs ls hF hW hl hL)
theorem zz_aload_3 {a0 a1 a2 : Option Value} {a : Nat} {t : List (Option Value)} (hd : decode M.2.1 pc = .ok (.aload_n 3, 1)) (k : zz_Z C M d mc ms kc ks (pc + 1) (a0 :: a1 :: a2 :: some (.ref a) :: t) (.ref a :: st) g r n Q) : zz_Z C M d mc ms kc ks pc (a0 :: a1 :: a2 :: some (.ref a) :: t) st g r n Q := by
  intro p e s m args below meth c H locs ls hF hW hl hL
  exact lv_aload_n (x := zz_A C a) hF.1.1 hF.1.2.1 hd (i := 3) rfl (hL.2.2 3 _ rfl) (k p e s m args below meth c H locs ls hF hW hl hL)
theorem zz_aload_4 {a0 a1 a2 a3 : Option Value} {a : Nat} {t : List (Option Value)} (hd : decode M.2.1 pc = .ok (.aload 4, 2)) (k : zz_Z C M d mc ms kc ks (pc + 2) (a0 :: a1 :: a2 :: a3 :: some (.ref a) :: t) (.ref a :: st) g r n Q) : zz_Z C M d mc ms kc ks pc (a0 :: a1 :: a2 :: a3 :: some (.ref a) :: t) st g r n Q := by
  intro p e s m args below meth c H locs ls hF hW hl hL
  exact lv_aload (x := zz_A C a) hF.1.1 hF.1.2.1 hd (hL.2.2 4 _ rfl) (k p e s m args below meth c H locs ls hF hW hl hL)
theorem zz_aload_5 {a0 a1 a2 a3 a4 : Option Value} {a : Nat} {t : List (Option Value)} (hd : decode M.2.1 pc = .ok (.aload 5, 2)) (k : zz_Z C M d mc ms kc ks (pc + 2) (a0 :: a1 :: a2 :: a3 :: a4 :: some (.ref a) :: t) (.ref a :: st) g r n Q) : zz_Z C M d mc ms kc ks pc (a0 :: a1 :: a2 :: a3 :: a4 :: some (.ref a) :: t) st g r n Q := by
  intro p e s m args below meth c H locs ls hF hW hl hL
  exact lv_aload (x := zz_A C a) hF.1.1 hF.1.2.1 hd (hL.2.2 5 _ rfl) (k p e s m args below meth c H locs ls hF hW hl hL)
theorem zz_aload_6 {a0 a1 a2 a3 a4 a5 : Option Value} {a : Nat} {t : List (Option Value)} (hd : decode M.2.1 pc = .ok (.aload 6, 2)) (k : zz_Z C M d mc ms kc ks (pc + 2) (a0 :: a1 :: a2 :: a3 :: a4 :: a5 :: some (.ref a) :: t) (.ref a :: st) g r n Q) : zz_Z C M d mc ms kc ks pc (a0 :: a1 :: a2 :: a3 :: a4 :: a5 :: some (.ref a) :: t) st g r n Q := by
  intro p e s m args below meth c H locs ls hF hW hl hL
  exact lv_aload (x := zz_A C a) hF.1.1 hF.1.2.1 hd (hL.2.2 6 _ rfl) (k p e s m args below meth c H locs ls hF hW hl hL)
theorem zz_aload_7 {a0 a1 a2 a3 a4 a5 a6 : Option Value} {a : Nat} {t : List (Option Value)} (hd : decode M.2.1 pc = .ok (.aload 7, 2)) (k : zz_Z C M d mc ms kc ks (pc + 2) (a0 :: a1 :: a2 :: a3 :: a4 :: a5 :: a6 :: some (.ref a) :: t) (.ref a :: st) g r n Q) : zz_Z C M d mc ms kc ks pc (a0 :: a1 :: a2 :: a3 :: a4 :: a5 :: a6 :: some (.ref a) :: t) st g r n Q := by
  intro p e s m args below meth c H locs ls hF hW hl hL
  exact lv_aload (x := zz_A C a) hF.1.1 hF.1.2.1 hd (hL.2.2 7 _ rfl) (k p e s m args below meth c H locs ls hF hW hl hL)
theorem zz_aload_8 {a0 a1 a2 a3 a4 a5 a6 a7 : Option Value} {a : Nat} {t : List (Option Value)} (hd : decode M.2.1 pc = .ok (.aload 8, 2)) (k : zz_Z C M d mc ms kc ks (pc + 2) (a0 :: a1 :: a2 :: a3 :: a4 :: a5 :: a6 :: a7 :: some (.ref a) :: t) (.ref a :: st) g r n Q) : zz_Z C M d mc ms kc ks pc (a0 :: a1 :: a2 :: a3 :: a4 :: a5 :: a6 :: a7 :: some (.ref a) :: t) st g r n Q := by
  intro p e s m args below meth c H locs ls hF hW hl hL
  exact lv_aload (x := zz_A C a) hF.1.1 hF.1.2.1 hd (hL.2.2 8 _ rfl) (k p e s m args below meth c H locs ls hF hW hl hL)
theorem zz_aload_9 {a0 a1 a2 a3 a4 a5 a6 a7 a8 : Option Value} {a : Nat} {t : List (Option Value)} (hd : decode M.2.1 pc = .ok (.aload 9, 2)) (k : zz_Z C M d mc ms kc ks (pc + 2) (a0 :: a1 :: a2 :: a3 :: a4 :: a5 :: a6 :: a7 :: a8 :: some (.ref a) :: t) (.ref a :: st) g r n Q) : zz_Z C M d mc ms kc ks pc (a0 :: a1 :: a2 :: a3 :: a4 :: a5 :: a6 :: a7 :: a8 :: some (.ref a) :: t) st g r n Q := by
  intro p e s m args below meth c H locs ls hF hW hl hL
  exact lv_aload (x := zz_A C a) hF.1.1 hF.1.2.1 hd (hL.2.2 9 _ rfl) (k p e s m args below meth c H locs ls hF hW hl hL)
theorem zz_aload_10 {a0 a1 a2 a3 a4 a5 a6 a7 a8 a9 : Option Value} {a : Nat} {t : List (Option Value)} (hd : decode M.2.1 pc = .ok (.aload 10, 2)) (k : zz_Z C M d mc ms kc ks (pc + 2) (a0 :: a1 :: a2 :: a3 :: a4 :: a5 :: a6 :: a7 :: a8 :: a9 :: some (.ref a) :: t) (.ref a :: st) g r n Q) : zz_Z C M d mc ms kc ks pc (a0 :: a1 :: a2 :: a3 :: a4 :: a5 :: a6 :: a7 :: a8 :: a9 :: some (.ref a) :: t) st g r n Q := by
  intro p e s m args below meth c H locs ls hF hW hl hL
  exact lv_aload (x := zz_A C a) hF.1.1 hF.1.2.1 hd (hL.2.2 10 _ rfl) (k p e s m args below meth c H locs ls hF hW hl hL)
theorem zz_aload_11 {a0 a1 a2 a3 a4 a5 a6 a7 a8 a9 a10 : Option Value} {a : Nat} {t : List (Option Value)} (hd : decode M.2.1 pc = .ok (.aload 11, 2)) (k : zz_Z C M d mc ms kc ks (pc + 2) (a0 :: a1 :: a2 :: a3 :: a4 :: a5 :: a6 :: a7 :: a8 :: a9 :: a10 :: some (.ref a) :: t) (.ref a :: st) g r n Q) : zz_Z C M d mc ms kc ks pc (a0 :: a1 :: a2 :: a3 :: a4 :: a5 :: a6 :: a7 :: a8 :: a9 :: a10 :: some (.ref a) :: t) st g r n Q := by
  intro p e s m args below meth c H locs ls hF hW hl hL
  exact lv_aload (x := zz_A C a) hF.1.1 hF.1.2.1 hd (hL.2.2 11 _ rfl) (k p e s m args below meth c H locs ls hF hW hl hL)
theorem zz_aload_12 {a0 a1 a2 a3 a4 a5 a6 a7 a8 a9 a10 a11 : Option Value} {a : Nat} {t : List (Option Value)} (hd : decode M.2.1 pc = .ok (.aload 12, 2)) (k : zz_Z C M d mc ms kc ks (pc + 2) (a0 :: a1 :: a2 :: a3 :: a4 :: a5 :: a6 :: a7 :: a8 :: a9 :: a10 :: a11 :: some (.ref a) :: t) (.ref a :: st) g r n Q) : zz_Z C M d mc ms kc ks pc (a0 :: a1 :: a2 :: a3 :: a4 :: a5 :: a6 :: a7 :: a8 :: a9 :: a10 :: a11 :: some (.ref a) :: t) st g r n Q := by
  intro p e s m args below meth c H locs ls hF hW hl hL
  exact lv_aload (x := zz_A C a) hF.1.1 hF.1.2.1 hd (hL.2.2 12 _ rfl) (k p e s m args below meth c H locs ls hF hW hl hL)
theorem zz_aload_13 {a0 a1 a2 a3 a4 a5 a6 a7 a8 a9 a10 a11 a12 : Option Value} {a : Nat} {t : List (Option Value)} (hd : decode M.2.1 pc = .ok (.aload 13, 2)) (k : zz_Z C M d mc ms kc ks (pc + 2) (a0 :: a1 :: a2 :: a3 :: a4 :: a5 :: a6 :: a7 :: a8 :: a9 :: a10 :: a11 :: a12 :: some (.ref a) :: t) (.ref a :: st) g r n Q) : zz_Z C M d mc ms kc ks pc (a0 :: a1 :: a2 :: a3 :: a4 :: a5 :: a6 :: a7 :: a8 :: a9 :: a10 :: a11 :: a12 :: some (.ref a) :: t) st g r n Q := by
  intro p e s m args below meth c H locs ls hF hW hl hL
  exact lv_aload (x := zz_A C a) hF.1.1 hF.1.2.1 hd (hL.2.2 13 _ rfl) (k p e s m args below meth c H locs ls hF hW hl hL)
theorem zz_lload_0 {t : List (Option Value)} (hd : decode M.2.1 pc = .ok (.lload_n 0, 1)) (k : zz_Z C M d mc ms kc ks (pc + 1) (some (.long u) :: t) (.long u :: st) g r n Q) : zz_Z C M d mc ms kc ks pc (some (.long u) :: t) st g r n Q := by
  intro p e s m args below meth c H locs ls hF hW hl hL
  exact lv_lload_n (x := u) hF.1.1 hF.1.2.1 hd (i := 0) rfl (hL.2.2 0 _ rfl) (k p e s m args below meth c H locs ls hF hW hl hL)
theorem zz_lload_1 {a0 : Option Value} {t : List (Option Value)} (hd : decode M.2.1 pc = .ok (.lload_n 1, 1)) (k : zz_Z C M d mc ms kc ks (pc + 1) (a0 :: some (.long u) :: t) (.long u :: st) g r n Q) : zz_Z C M d mc ms kc ks pc (a0 :: some (.long u) :: t) st g r n Q := by
  intro p e s m args below meth c H locs ls hF hW hl hL
  exact lv_lload_n (x := u) hF.1.1 hF.1.2.1 hd (i := 1) rfl (hL.2.2 1 _ rfl) (k p e s m args below meth c H locs ls hF hW hl hL)
theorem zz_lload_2 {a0 a1 : Option Value} {t : List (Option Value)} (hd : decode M.2.1 pc = .ok (.lload_n 2, 1)) (k : zz_Z C M d mc ms kc ks (pc + 1) (a0 :: a1 :: some (.long u) :: t) (.long u :: st) g r n Q) : zz_Z C M d mc ms kc ks pc (a0 :: a1 :: some (.long u) :: t) st g r n Q := by
  intro p e s m args below meth c H locs ls hF hW hl hL
  exact lv_lload_n (x := u) hF.1.1 hF.1.2.1 hd (i := 2) rfl (hL.2.2 2 _ rfl) (k p e s m args below meth c H locs ls hF hW hl hL)
theorem zz_lload_3 {a0 a1 a2 : Option Value} {t : List (Option Value)} (hd : decode M.2.1 pc = .ok (.lload_n 3, 1)) (k : zz_Z C M d mc ms kc ks (pc + 1) (a0 :: a1 :: a2 :: some (.long u) :: t) (.long u :: st) g r n Q) : zz_Z C M d mc ms kc ks pc (a0 :: a1 :: a2 :: some (.long u) :: t) st g r n Q := by
  intro p e s m args below meth c H locs ls hF hW hl hL
  exact lv_lload_n (x := u) hF.1.1 hF.1.2.1 hd (i := 3) rfl (hL.2.2 3 _ rfl) (k p e s m args below meth c H locs ls hF hW hl hL)
theorem zz_lload_4 {a0 a1 a2 a3 : Option Value} {t : List (Option Value)} (hd : decode M.2.1 pc = .ok (.lload 4, 2)) (k : zz_Z C M d mc ms kc ks (pc + 2) (a0 :: a1 :: a2 :: a3 :: some (.long u) :: t) (.long u :: st) g r n Q) : zz_Z C M d mc ms kc ks pc (a0 :: a1 :: a2 :: a3 :: some (.long u) :: t) st g r n Q := by
  intro p e s m args below meth c H locs ls hF hW hl hL
  exact lv_lload (x := u) hF.1.1 hF.1.2.1 hd (hL.2.2 4 _ rfl) (k p e s m args below meth c H locs ls hF hW hl hL)
theorem zz_istore_0 {b : Option Value} {t : List (Option Value)} (hd : decode M.2.1 pc = .ok (.istore_n 0, 1)) (hlen : (b :: t).length = M.2.2.1) (k : zz_Z C M d mc ms kc ks (pc + 1) (some (.int x) :: t) st g r n Q) : zz_Z C M d mc ms kc ks pc (b :: t) (.int x :: st) g r n Q := by
  intro p e s m args below meth c H locs ls hF hW hl hL
  refine lv_istore_n (x := x) (rest := st.map (zz_v C)) hF.1.1 hF.1.2.1 hd (i := 0) rfl (zz_l_has hL) (by rw [← hlen]; simp only [List.length_cons]; omega) rfl (fun ls' h' => ?_)
  exact k p e s m args below meth c H locs ls' hF hW hl (zz_l_set (w := .int x) (i := 0) (L := b :: t) hlen (Or.inl rfl) h')
theorem zz_istore_1 {a0 b : Option Value} {t : List (Option Value)} (hd : decode M.2.1 pc = .ok (.istore_n 1, 1)) (hlen : (a0 :: b :: t).length = M.2.2.1) (hk : zz_ok1 a0 = true) (k : zz_Z C M d mc ms kc ks (pc + 1) (a0 :: some (.int x) :: t) st g r n Q) : zz_Z C M d mc ms kc ks pc (a0 :: b :: t) (.int x :: st) g r n Q := by
  intro p e s m args below meth c H locs ls hF hW hl hL
  refine lv_istore_n (x := x) (rest := st.map (zz_v C)) hF.1.1 hF.1.2.1 hd (i := 1) rfl (zz_l_has hL) (by rw [← hlen]; simp only [List.length_cons]; omega) rfl (fun ls' h' => ?_)
  exact k p e s m args below meth c H locs ls' hF hW hl (zz_l_set (w := .int x) (i := 1) (L := a0 :: b :: t) hlen (Or.inr (fun o ho => by cases ho; exact hk)) h')
theorem zz_istore_2 {a0 a1 b : Option Value} {t : List (Option Value)} (hd : decode M.2.1 pc = .ok (.istore_n 2, 1)) (hlen : (a0 :: a1 :: b :: t).length = M.2.2.1) (hk : zz_ok1 a1 = true) (k : zz_Z C M d mc ms kc ks (pc + 1) (a0 :: a1 :: some (.int x) :: t) st g r n Q) : zz_Z C M d mc ms kc ks pc (a0 :: a1 :: b :: t) (.int x :: st) g r n Q := by
  intro p e s m args below meth c H locs ls hF hW hl hL
  refine lv_istore_n (x := x) (rest := st.map (zz_v C)) hF.1.1 hF.1.2.1 hd (i := 2) rfl (zz_l_has hL) (by rw [← hlen]; simp only [List.length_cons]; omega) rfl (fun ls' h' => ?_)
  exact k p e s m args below meth c H locs ls' hF hW hl (zz_l_set (w := .int x) (i := 2) (L := a0 :: a1 :: b :: t) hlen (Or.inr (fun o ho => by cases ho; exact hk)) h')
theorem zz_istore_3 {a0 a1 a2 b : Option Value} {t : List (Option Value)} (hd : decode M.2.1 pc = .ok (.istore_n 3, 1)) (hlen : (a0 :: a1 :: a2 :: b :: t).length = M.2.2.1) (hk : zz_ok1 a2 = true) (k : zz_Z C M d mc ms kc ks (pc + 1) (a0 :: a1 :: a2 :: some (.int x) :: t) st g r n Q) : zz_Z C M d mc ms kc ks pc (a0 :: a1 :: a2 :: b :: t) (.int x :: st) g r n Q := by
  intro p e s m args below meth c H locs ls hF hW hl hL
  refine lv_istore_n (x := x) (rest := st.map (zz_v C)) hF.1.1 hF.1.2.1 hd (i := 3) rfl (zz_l_has hL) (by rw [← hlen]; simp only [List.length_cons]; omega) rfl (fun ls' h' => ?_)
  exact k p e s m args below meth c H locs ls' hF hW hl (zz_l_set (w := .int x) (i := 3) (L := a0 :: a1 :: a2 :: b :: t) hlen (Or.inr (fun o ho => by cases ho; exact hk)) h')
theorem zz_istore_4 {a0 a1 a2 a3 b : Option Value} {t : List (Option Value)} (hd : decode M.2.1 pc = .ok (.istore 4, 2)) (hlen : (a0 :: a1 :: a2 :: a3 :: b :: t).length = M.2.2.1) (hk : zz_ok1 a3 = true) (k : zz_Z C M d mc ms kc ks (pc + 2) (a0 :: a1 :: a2 :: a3 :: some (.int x) :: t) st g r n Q) : zz_Z C M d mc ms kc ks pc (a0 :: a1 :: a2 :: a3 :: b :: t) (.int x :: st) g r n Q := by
  intro p e s m args below meth c H locs ls hF hW hl hL
  refine lv_istore (x := x) (rest := st.map (zz_v C)) hF.1.1 hF.1.2.1 hd (zz_l_has hL) (by rw [← hlen]; simp only [List.length_cons]; omega) rfl (fun ls' h' => ?_)
  exact k p e s m args below meth c H locs ls' hF hW hl (zz_l_set (w := .int x) (i := 4) (L := a0 :: a1 :: a2 :: a3 :: b :: t) hlen (Or.inr (fun o ho => by cases ho; exact hk)) h')
theorem zz_istore_5 {a0 a1 a2 a3 a4 b : Option Value} {t : List (Option Value)} (hd : decode M.2.1 pc = .ok (.istore 5, 2)) (hlen : (a0 :: a1 :: a2 :: a3 :: a4 :: b :: t).length = M.2.2.1) (hk : zz_ok1 a4 = true) (k : zz_Z C M d mc ms kc ks (pc + 2) (a0 :: a1 :: a2 :: a3 :: a4 :: some (.int x) :: t) st g r n Q) : zz_Z C M d mc ms kc ks pc (a0 :: a1 :: a2 :: a3 :: a4 :: b :: t) (.int x :: st) g r n Q := by
  intro p e s m args below meth c H locs ls hF hW hl hL
  refine lv_istore (x := x) (rest := st.map (zz_v C)) hF.1.1 hF.1.2.1 hd (zz_l_has hL) (by rw [← hlen]; simp only [List.length_cons]; omega) rfl (fun ls' h' => ?_)
  exact k p e s m args below meth c H locs ls' hF hW hl (zz_l_set (w := .int x) (i := 5) (L := a0 :: a1 :: a2 :: a3 :: a4 :: b :: t) hlen (Or.inr (fun o ho => by cases ho; exact hk)) h')
theorem zz_istore_6 {a0 a1 a2 a3 a4 a5 b : Option Value} {t : List (Option Value)} (hd : decode M.2.1 pc = .ok (.istore 6, 2)) (hlen : (a0 :: a1 :: a2 :: a3 :: a4 :: a5 :: b :: t).length = M.2.2.1) (hk : zz_ok1 a5 = true) (k : zz_Z C M d mc ms kc ks (pc + 2) (a0 :: a1 :: a2 :: a3 :: a4 :: a5 :: some (.int x) :: t) st g r n Q) : zz_Z C M d mc ms kc ks pc (a0 :: a1 :: a2 :: a3 :: a4 :: a5 :: b :: t) (.int x :: st) g r n Q := by
  intro p e s m args below meth c H locs ls hF hW hl hL
  refine lv_istore (x := x) (rest := st.map (zz_v C)) hF.1.1 hF.1.2.1 hd (zz_l_has hL) (by rw [← hlen]; simp only [List.length_cons]; omega) rfl (fun ls' h' => ?_)
  exact k p e s m args below meth c H locs ls' hF hW hl (zz_l_set (w := .int x) (i := 6) (L := a0 :: a1 :: a2 :: a3 :: a4 :: a5 :: b :: t) hlen (Or.inr (fun o ho => by cases ho; exact hk)) h')
theorem zz_istore_7 {a0 a1 a2 a3 a4 a5 a6 b : Option Value} {t : List (Option Value)} (hd : decode M.2.1 pc = .ok (.istore 7, 2)) (hlen : (a0 :: a1 :: a2 :: a3 :: a4 :: a5 :: a6 :: b :: t).length = M.2.2.1) (hk : zz_ok1 a6 = true) (k : zz_Z C M d mc ms kc ks (pc + 2) (a0 :: a1 :: a2 :: a3 :: a4 :: a5 :: a6 :: some (.int x) :: t) st g r n Q) : zz_Z C M d mc ms kc ks pc (a0 :: a1 :: a2 :: a3 :: a4 :: a5 :: a6 :: b :: t) (.int x :: st) g r n Q := by
  intro p e s m args below meth c H locs ls hF hW hl hL
  refine lv_istore (x := x) (rest := st.map (zz_v C)) hF.1.1 hF.1.2.1 hd (zz_l_has hL) (by rw [← hlen]; simp only [List.length_cons]; omega) rfl (fun ls' h' => ?_)
  exact k p e s m args below meth c H locs ls' hF hW hl (zz_l_set (w := .int x) (i := 7) (L := a0 :: a1 :: a2 :: a3 :: a4 :: a5 :: a6 :: b :: t) hlen (Or.inr (fun o ho => by cases ho; exact hk)) h')
theorem zz_istore_8 {a0 a1 a2 a3 a4 a5 a6 a7 b : Option Value} {t : List (Option Value)} (hd : decode M.2.1 pc = .ok (.istore 8, 2)) (hlen : (a0 :: a1 :: a2 :: a3 :: a4 :: a5 :: a6 :: a7 :: b :: t).length = M.2.2.1) (hk : zz_ok1 a7 = true) (k : zz_Z C M d mc ms kc ks (pc + 2) (a0 :: a1 :: a2 :: a3 :: a4 :: a5 :: a6 :: a7 :: some (.int x) :: t) st g r n Q) : zz_Z C M d mc ms kc ks pc (a0 :: a1 :: a2 :: a3 :: a4 :: a5 :: a6 :: a7 :: b :: t) (.int x :: st) g r n Q := by
  intro p e s m args below meth c H locs ls hF hW hl hL
  refine lv_istore (x := x) (rest := st.map (zz_v C)) hF.1.1 hF.1.2.1 hd (zz_l_has hL) (by rw [← hlen]; simp only [List.length_cons]; omega) rfl (fun ls' h' => ?_)
  exact k p e s m args below meth c H locs ls' hF hW hl (zz_l_set (w := .int x) (i := 8) (L := a0 :: a1 :: a2 :: a3 :: a4 :: a5 :: a6 :: a7 :: b :: t) hlen (Or.inr (fun o ho => by cases ho; exact hk)) h')
theorem zz_istore_9 {a0 a1 a2 a3 a4 a5 a6 a7 a8 b : Option Value} {t : List (Option Value)} (hd : decode M.2.1 pc = .ok (.istore 9, 2)) (hlen : (a0 :: a1 :: a2 :: a3 :: a4 :: a5 :: a6 :: a7 :: a8 :: b :: t).length = M.2.2.1) (hk : zz_ok1 a8 = true) (k : zz_Z C M d mc ms kc ks (pc + 2) (a0 :: a1 :: a2 :: a3 :: a4 :: a5 :: a6 :: a7 :: a8 :: some (.int x) :: t) st g r n Q) : zz_Z C M d mc ms kc ks pc (a0 :: a1 :: a2 :: a3 :: a4 :: a5 :: a6 :: a7 :: a8 :: b :: t) (.int x :: st) g r n Q := by
  intro p e s m args below meth c H locs ls hF hW hl hL
  refine lv_istore (x := x) (rest := st.map (zz_v C)) hF.1.1 hF.1.2.1 hd (zz_l_has hL) (by rw [← hlen]; simp only [List.length_cons]; omega) rfl (fun ls' h' => ?_)
  exact k p e s m args below meth c H locs ls' hF hW hl (zz_l_set (w := .int x) (i := 9) (L := a0 :: a1 :: a2 :: a3 :: a4 :: a5 :: a6 :: a7 :: a8 :: b :: t) hlen (Or.inr (fun o ho => by cases ho; exact hk)) h')
theorem zz_istore_10 {a0 a1 a2 a3 a4 a5 a6 a7 a8 a9 b : Option Value} {t : List (Option Value)} (hd : decode M.2.1 pc = .ok (.istore 10, 2)) (hlen : (a0 :: a1 :: a2 :: a3 :: a4 :: a5 :: a6 :: a7 :: a8 :: a9 :: b :: t).length = M.2.2.1) (hk : zz_ok1 a9 = true) (k : zz_Z C M d mc ms kc ks (pc + 2) (a0 :: a1 :: a2 :: a3 :: a4 :: a5 :: a6 :: a7 :: a8 :: a9 :: some (.int x) :: t) st g r n Q) : zz_Z C M d mc ms kc ks pc (a0 :: a1 :: a2 :: a3 :: a4 :: a5 :: a6 :: a7 :: a8 :: a9 :: b :: t) (.int x :: st) g r n Q := by
  intro p e s m args below meth c H locs ls hF hW hl hL
  refine lv_istore (x := x) (rest := st.map (zz_v C)) hF.1.1 hF.1.2.1 hd (zz_l_has hL) (by rw [← hlen]; simp only [List.length_cons]; omega) rfl (fun ls' h' => ?_)
  exact k p e s m args below meth c H locs ls' hF hW hl (zz_l_set (w := .int x) (i := 10) (L := a0 :: a1 :: a2 :: a3 :: a4 :: a5 :: a6 :: a7 :: a8 :: a9 :: b :: t) hlen (Or.inr (fun o ho => by cases ho; exact hk)) h')
theorem zz_istore_11 {a0 a1 a2 a3 a4 a5 a6 a7 a8 a9 a10 b : Option Value} {t : List (Option Value)} (hd : decode M.2.1 pc = .ok (.istore 11, 2)) (hlen : (a0 :: a1 :: a2 :: a3 :: a4 :: a5 :: a6 :: a7 :: a8 :: a9 :: a10 :: b :: t).length = M.2.2.1) (hk : zz_ok1 a10 = true) (k : zz_Z C M d mc ms kc ks (pc + 2) (a0 :: a1 :: a2 :: a3 :: a4 :: a5 :: a6 :: a7 :: a8 :: a9 :: a10 :: some (.int x) :: t) st g r n Q) : zz_Z C M d mc ms kc ks pc (a0 :: a1 :: a2 :: a3 :: a4 :: a5 :: a6 :: a7 :: a8 :: a9 :: a10 :: b :: t) (.int x :: st) g r n Q := by
  intro p e s m args below meth c H locs ls hF hW hl hL
  refine lv_istore (x := x) (rest := st.map (zz_v C)) hF.1.1 hF.1.2.1 hd (zz_l_has hL) (by rw [← hlen]; simp only [List.length_cons]; omega) rfl (fun ls' h' => ?_)
  exact k p e s m args below meth c H locs ls' hF hW hl (zz_l_set (w := .int x) (i := 11) (L := a0 :: a1 :: a2 :: a3 :: a4 :: a5 :: a6 :: a7 :: a8 :: a9 :: a10 :: b :: t) hlen (Or.inr (fun o ho => by cases ho; exact hk)) h')
theorem zz_istore_12 {a0 a1 a2 a3 a4 a5 a6 a7 a8 a9 a10 a11 b : Option Value} {t : List (Option Value)} (hd : decode M.2.1 pc = .ok (.istore 12, 2)) (hlen : (a0 :: a1 :: a2 :: a3 :: a4 :: a5 :: a6 :: a7 :: a8 :: a9 :: a10 :: a11 :: b :: t).length = M.2.2.1) (hk : zz_ok1 a11 = true) (k : zz_Z C M d mc ms kc ks (pc + 2) (a0 :: a1 :: a2 :: a3 :: a4 :: a5 :: a6 :: a7 :: a8 :: a9 :: a10 :: a11 :: some (.int x) :: t) st g r n Q) : zz_Z C M d mc ms kc ks pc (a0 :: a1 :: a2 :: a3 :: a4 :: a5 :: a6 :: a7 :: a8 :: a9 :: a10 :: a11 :: b :: t) (.int x :: st) g r n Q := by
  intro p e s m args below meth c H locs ls hF hW hl hL
  refine lv_istore (x := x) (rest := st.map (zz_v C)) hF.1.1 hF.1.2.1 hd (zz_l_has hL) (by rw [← hlen]; simp only [List.length_cons]; omega) rfl (fun ls' h' => ?_)
  exact k p e s m args below meth c H locs ls' hF hW hl (zz_l_set (w := .int x) (i := 12) (L := a0 :: a1 :: a2 :: a3 :: a4 :: a5 :: a6 :: a7 :: a8 :: a9 :: a10 :: a11 :: b :: t) hlen (Or.inr (fun o ho => by cases ho; exact hk)) h')
theorem zz_istore_13 {a0 a1 a2 a3 a4 a5 a6 a7 a8 a9 a10 a11 a12 b : Option Value} {t : List (Option Value)} (hd : decode M.2.1 pc = .ok (.istore 13, 2)) (hlen : (a0 :: a1 :: a2 :: a3 :: a4 :: a5 :: a6 :: a7 :: a8 :: a9 :: a10 :: a11 :: a12 :: b :: t).length = M.2.2.1) (hk : zz_ok1 a12 = true) (k : zz_Z C M d mc ms kc ks (pc + 2) (a0 :: a1 :: a2 :: a3 :: a4 :: a5 :: a6 :: a7 :: a8 :: a9 :: a10 :: a11 :: a12 :: some (.int x) :: t) st g r n Q) : zz_Z C M d mc ms kc ks pc (a0 :: a1 :: a2 :: a3 :: a4 :: a5 :: a6 :: a7 :: a8 :: a9 :: a10 :: a11 :: a12 :: b :: t) (.int x :: st) g r n Q := by
  intro p e s m args below meth c H locs ls hF hW hl hL
  refine lv_istore (x := x) (rest := st.map (zz_v C)) hF.1.1 hF.1.2.1 hd (zz_l_has hL) (by rw [← hlen]; simp only [List.length_cons]; omega) rfl (fun ls' h' => ?_)
  exact k p e s m args below meth c H locs ls' hF hW hl (zz_l_set (w := .int x) (i := 13) (L := a0 :: a1 :: a2 :: a3 :: a4 :: a5 :: a6 :: a7 :: a8 :: a9 :: a10 :: a11 :: a12 :: b :: t) hlen (Or.inr (fun o ho => by cases ho; exact hk)) h')
theorem zz_astore_0 {b : Option Value} {a : Nat} {t : List (Option Value)} (hd : decode M.2.1 pc = .ok (.astore_n 0, 1)) (hlen : (b :: t).length = M.2.2.1) (k : zz_Z C M d mc ms kc ks (pc + 1) (some (.ref a) :: t) st g r n Q) : zz_Z C M d mc ms kc ks pc (b :: t) (.ref a :: st) g r n Q := by
  intro p e s m args below meth c H locs ls hF hW hl hL
  refine lv_astore_n (x := zz_A C a) (rest := st.map (zz_v C)) hF.1.1 hF.1.2.1 hd (i := 0) rfl (zz_l_has hL) (by rw [← hlen]; simp only [List.length_cons]; omega) rfl (fun ls' h' => ?_)
  exact k p e s m args below meth c H locs ls' hF hW hl (zz_l_set (w := .ref a) (i := 0) (L := b :: t) hlen (Or.inl rfl) h')
theorem zz_astore_1 {a0 b : Option Value} {a : Nat} {t : List (Option Value)} (hd : decode M.2.1 pc = .ok (.astore_n 1, 1)) (hlen : (a0 :: b :: t).length = M.2.2.1) (hk : zz_ok1 a0 = true) (k : zz_Z C M d mc ms kc ks (pc + 1) (a0 :: some (.ref a) :: t) st g r n Q) : zz_Z C M d mc ms kc ks pc (a0 :: b :: t) (.ref a :: st) g r n Q := by
  intro p e s m args below meth c H locs ls hF hW hl hL
  refine lv_astore_n (x := zz_A C a) (rest := st.map (zz_v C)) hF.1.1 hF.1.2.1 hd (i := 1) rfl (zz_l_has hL) (by rw [← hlen]; simp only [List.length_cons]; omega) rfl (fun ls' h' => ?_)
  exact k p e s m args below meth c H locs ls' hF hW hl (zz_l_set (w := .ref a) (i := 1) (L := a0 :: b :: t) hlen (Or.inr (fun o ho => by cases ho; exact hk)) h')
theorem zz_astore_2 {a0 a1 b : Option Value} {a : Nat} {t : List (Option Value)} (hd : decode M.2.1 pc = .ok (.astore_n 2, 1)) (hlen : (a0 :: a1 :: b :: t).length = M.2.2.1) (hk : zz_ok1 a1 = true) (k : zz_Z C M d mc ms kc ks (pc + 1) (a0 :: a1 :: some (.ref a) :: t) st g r n Q) : zz_Z C M d mc ms kc ks pc (a0 :: a1 :: b :: t) (.ref a :: st) g r n Q := by
  intro p e s m args below meth c H locs ls hF hW hl hL
  refine lv_astore_n (x := zz_A C a) (rest := st.map (zz_v C)) hF.1.1 hF.1.2.1 hd (i := 2) rfl (zz_l_has hL) (by rw [← hlen]; simp only [List.length_cons]; omega) rfl (fun ls' h' => ?_)
  exact k p e s m args below meth c H locs ls' hF hW hl (zz_l_set (w := .ref a) (i := 2) (L := a0 :: a1 :: b :: t) hlen (Or.inr (fun o ho => by cases ho; exact hk)) h')
theorem zz_astore_3 {a0 a1 a2 b : Option Value} {a : Nat} {t : List (Option Value)} (hd : decode M.2.1 pc = .ok (.astore_n 3, 1)) (hlen : (a0 :: a1 :: a2 :: b :: t).length = M.2.2.1) (hk : zz_ok1 a2 = true) (k : zz_Z C M d mc ms kc ks (pc + 1) (a0 :: a1 :: a2 :: some (.ref a) :: t) st g r n Q) : zz_Z C M d mc ms kc ks pc (a0 :: a1 :: a2 :: b :: t) (.ref a :: st) g r n Q := by
  intro p e s m args below meth c H locs ls hF hW hl hL
  refine lv_astore_n (x := zz_A C a) (rest := st.map (zz_v C)) hF.1.1 hF.1.2.1 hd (i := 3) rfl (zz_l_has hL) (by rw [← hlen]; simp only [List.length_cons]; omega) rfl (fun ls' h' => ?_)
  exact k p e s m args below meth c H locs ls' hF hW hl (zz_l_set (w := .ref a) (i := 3) (L := a0 :: a1 :: a2 :: b :: t) hlen (Or.inr (fun o ho => by cases ho; exact hk)) h')
theorem zz_astore_4 {a0 a1 a2 a3 b : Option Value} {a : Nat} {t : List (Option Value)} (hd : decode M.2.1 pc = .ok (.astore 4, 2)) (hlen : (a0 :: a1 :: a2 :: a3 :: b :: t).length = M.2.2.1) (hk : zz_ok1 a3 = true) (k : zz_Z C M d mc ms kc ks (pc + 2) (a0 :: a1 :: a2 :: a3 :: some (.ref a) :: t) st g r n Q) : zz_Z C M d mc ms kc ks pc (a0 :: a1 :: a2 :: a3 :: b :: t) (.ref a :: st) g r n Q := by
  intro p e s m args below meth c H locs ls hF hW hl hL
  refine lv_astore (x := zz_A C a) (rest := st.map (zz_v C)) hF.1.1 hF.1.2.1 hd (zz_l_has hL) (by rw [← hlen]; simp only [List.length_cons]; omega) rfl (fun ls' h' => ?_)
  exact k p e s m args below meth c H locs ls' hF hW hl (zz_l_set (w := .ref a) (i := 4) (L := a0 :: a1 :: a2 :: a3 :: b :: t) hlen (Or.inr (fun o ho => by cases ho; exact hk)) h')
theorem zz_astore_5 {a0 a1 a2 a3 a4 b : Option Value} {a : Nat} {t : List (Option Value)} (hd : decode M.2.1 pc = .ok (.astore 5, 2)) (hlen : (a0 :: a1 :: a2 :: a3 :: a4 :: b :: t).length = M.2.2.1) (hk : zz_ok1 a4 = true) (k : zz_Z C M d mc ms kc ks (pc + 2) (a0 :: a1 :: a2 :: a3 :: a4 :: some (.ref a) :: t) st g r n Q) : zz_Z C M d mc ms kc ks pc (a0 :: a1 :: a2 :: a3 :: a4 :: b :: t) (.ref a :: st) g r n Q := by
  intro p e s m args below meth c H locs ls hF hW hl hL
  refine lv_astore (x := zz_A C a) (rest := st.map (zz_v C)) hF.1.1 hF.1.2.1 hd (zz_l_has hL) (by rw [← hlen]; simp only [List.length_cons]; omega) rfl (fun ls' h' => ?_)
  exact k p e s m args below meth c H locs ls' hF hW hl (zz_l_set (w := .ref a) (i := 5) (L := a0 :: a1 :: a2 :: a3 :: a4 :: b :: t) hlen (Or.inr (fun o ho => by cases ho; exact hk)) h')
theorem zz_astore_6 {a0 a1 a2 a3 a4 a5 b : Option Value} {a : Nat} {t : List (Option Value)} (hd : decode M.2.1 pc = .ok (.astore 6, 2)) (hlen : (a0 :: a1 :: a2 :: a3 :: a4 :: a5 :: b :: t).length = M.2.2.1) (hk : zz_ok1 a5 = true) (k : zz_Z C M d mc ms kc ks (pc + 2) (a0 :: a1 :: a2 :: a3 :: a4 :: a5 :: some (.ref a) :: t) st g r n Q) : zz_Z C M d mc ms kc ks pc (a0 :: a1 :: a2 :: a3 :: a4 :: a5 :: b :: t) (.ref a :: st) g r n Q := by
  intro p e s m args below meth c H locs ls hF hW hl hL
  refine lv_astore (x := zz_A C a) (rest := st.map (zz_v C)) hF.1.1 hF.1.2.1 hd (zz_l_has hL) (by rw [← hlen]; simp only [List.length_cons]; omega) rfl (fun ls' h' => ?_)
  exact k p e s m args below meth c H locs ls' hF hW hl (zz_l_set (w := .ref a) (i := 6) (L := a0 :: a1 :: a2 :: a3 :: a4 :: a5 :: b :: t) hlen (Or.inr (fun o ho => by cases ho; exact hk)) h')
theorem zz_astore_7 {a0 a1 a2 a3 a4 a5 a6 b : Option Value} {a : Nat} {t : List (Option Value)} (hd : decode M.2.1 pc = .ok (.astore 7, 2)) (hlen : (a0 :: a1 :: a2 :: a3 :: a4 :: a5 :: a6 :: b :: t).length = M.2.2.1) (hk : zz_ok1 a6 = true) (k : zz_Z C M d mc ms kc ks (pc + 2) (a0 :: a1 :: a2 :: a3 :: a4 :: a5 :: a6 :: some (.ref a) :: t) st g r n Q) : zz_Z C M d mc ms kc ks pc (a0 :: a1 :: a2 :: a3 :: a4 :: a5 :: a6 :: b :: t) (.ref a :: st) g r n Q := by
  intro p e s m args below meth c H locs ls hF hW hl hL
  refine lv_astore (x := zz_A C a) (rest := st.map (zz_v C)) hF.1.1 hF.1.2.1 hd (zz_l_has hL) (by rw [← hlen]; simp only [List.length_cons]; omega) rfl (fun ls' h' => ?_)
  exact k p e s m args below meth c H locs ls' hF hW hl (zz_l_set (w := .ref a) (i := 7) (L := a0 :: a1 :: a2 :: a3 :: a4 :: a5 :: a6 :: b :: t) hlen (Or.inr (fun o ho => by cases ho; exact hk)) h')
theorem zz_astore_8 {a0 a1 a2 a3 a4 a5 a6 a7 b : Option Value} {a : Nat} {t : List (Option Value)} (hd : decode M.2.1 pc = .ok (.astore 8, 2)) (hlen : (a0 :: a1 :: a2 :: a3 :: a4 :: a5 :: a6 :: a7 :: b :: t).length = M.2.2.1) (hk : zz_ok1 a7 = true) (k : zz_Z C M d mc ms kc ks (pc + 2) (a0 :: a1 :: a2 :: a3 :: a4 :: a5 :: a6 :: a7 :: some (.ref a) :: t) st g r n Q) : zz_Z C M d mc ms kc ks pc (a0 :: a1 :: a2 :: a3 :: a4 :: a5 :: a6 :: a7 :: b :: t) (.ref a :: st) g r n Q := by
  intro p e s m args below meth c H locs ls hF hW hl hL
  refine lv_astore (x := zz_A C a) (rest := st.map (zz_v C)) hF.1.1 hF.1.2.1 hd (zz_l_has hL) (by rw [← hlen]; simp only [List.length_cons]; omega) rfl (fun ls' h' => ?_)
  exact k p e s m args below meth c H locs ls' hF hW hl (zz_l_set (w := .ref a) (i := 8) (L := a0 :: a1 :: a2 :: a3 :: a4 :: a5 :: a6 :: a7 :: b :: t) hlen (Or.inr (fun o ho => by cases ho; exact hk)) h')
theorem zz_astore_9 {a0 a1 a2 a3 a4 a5 a6 a7 a8 b : Option Value} {a : Nat} {t : List (Option Value)} (hd : decode M.2.1 pc = .ok (.astore 9, 2)) (hlen : (a0 :: a1 :: a2 :: a3 :: a4 :: a5 :: a6 :: a7 :: a8 :: b :: t).length = M.2.2.1) (hk : zz_ok1 a8 = true) (k : zz_Z C M d mc ms kc ks (pc + 2) (a0 :: a1 :: a2 :: a3 :: a4 :: a5 :: a6 :: a7 :: a8 :: some (.ref a) :: t) st g r n Q) : zz_Z C M d mc ms kc ks pc (a0 :: a1 :: a2 :: a3 :: a4 :: a5 :: a6 :: a7 :: a8 :: b :: t) (.ref a :: st) g r n Q := by
  intro p e s m args below meth c H locs ls hF hW hl hL
  refine lv_astore (x := zz_A C a) (rest := st.map (zz_v C)) hF.1.1 hF.1.2.1 hd (zz_l_has hL) (by rw [← hlen]; simp only [List.length_cons]; omega) rfl (fun ls' h' => ?_)
  exact k p e s m args below meth c H locs ls' hF hW hl (zz_l_set (w := .ref a) (i := 9) (L := a0 :: a1 :: a2 :: a3 :: a4 :: a5 :: a6 :: a7 :: a8 :: b :: t) hlen (Or.inr (fun o ho => by cases ho; exact hk)) h')
theorem zz_astore_10 {a0 a1 a2 a3 a4 a5 a6 a7 a8 a9 b : Option Value} {a : Nat} {t : List (Option Value)} (hd : decode M.2.1 pc = .ok (.astore 10, 2)) (hlen : (a0 :: a1 :: a2 :: a3 :: a4 :: a5 :: a6 :: a7 :: a8 :: a9 :: b :: t).length = M.2.2.1) (hk : zz_ok1 a9 = true) (k : zz_Z C M d mc ms kc ks (pc + 2) (a0 :: a1 :: a2 :: a3 :: a4 :: a5 :: a6 :: a7 :: a8 :: a9 :: some (.ref a) :: t) st g r n Q) : zz_Z C M d mc ms kc ks pc (a0 :: a1 :: a2 :: a3 :: a4 :: a5 :: a6 :: a7 :: a8 :: a9 :: b :: t) (.ref a :: st) g r n Q := by
  intro p e s m args below meth c H locs ls hF hW hl hL
  refine lv_astore (x := zz_A C a) (rest := st.map (zz_v C)) hF.1.1 hF.1.2.1 hd (zz_l_has hL) (by rw [← hlen]; simp only [List.length_cons]; omega) rfl (fun ls' h' => ?_)
  exact k p e s m args below meth c H locs ls' hF hW hl (zz_l_set (w := .ref a) (i := 10) (L := a0 :: a1 :: a2 :: a3 :: a4 :: a5 :: a6 :: a7 :: a8 :: a9 :: b :: t) hlen (Or.inr (fun o ho => by cases ho; exact hk)) h')
theorem zz_astore_11 {a0 a1 a2 a3 a4 a5 a6 a7 a8 a9 a10 b : Option Value} {a : Nat} {t : List (Option Value)} (hd : decode M.2.1 pc = .ok (.astore 11, 2)) (hlen : (a0 :: a1 :: a2 :: a3 :: a4 :: a5 :: a6 :: a7 :: a8 :: a9 :: a10 :: b :: t).length = M.2.2.1) (hk : zz_ok1 a10 = true) (k : zz_Z C M d mc ms kc ks (pc + 2) (a0 :: a1 :: a2 :: a3 :: a4 :: a5 :: a6 :: a7 :: a8 :: a9 :: a10 :: some (.ref a) :: t) st g r n Q) : zz_Z C M d mc ms kc ks pc (a0 :: a1 :: a2 :: a3 :: a4 :: a5 :: a6 :: a7 :: a8 :: a9 :: a10 :: b :: t) (.ref a :: st) g r n Q := by
  intro p e s m args below meth c H locs ls hF hW hl hL
  refine lv_astore (x := zz_A C a) (rest := st.map (zz_v C)) hF.1.1 hF.1.2.1 hd (zz_l_has hL) (by rw [← hlen]; simp only [List.length_cons]; omega) rfl (fun ls' h' => ?_)
  exact k p e s m args below meth c H locs ls' hF hW hl (zz_l_set (w := .ref a) (i := 11) (L := a0 :: a1 :: a2 :: a3 :: a4 :: a5 :: a6 :: a7 :: a8 :: a9 :: a10 :: b :: t) hlen (Or.inr (fun o ho => by cases ho; exact hk)) h')
theorem zz_astore_12 {a0 a1 a2 a3 a4 a5 a6 a7 a8 a9 a10 a11 b : Option Value} {a : Nat} {t : List (Option Value)} (hd : decode M.2.1 pc = .ok (.astore 12, 2)) (hlen : (a0 :: a1 :: a2 :: a3 :: a4 :: a5 :: a6 :: a7 :: a8 :: a9 :: a10 :: a11 :: b :: t).length = M.2.2.1) (hk : zz_ok1 a11 = true) (k : zz_Z C M d mc ms kc ks (pc + 2) (a0 :: a1 :: a2 :: a3 :: a4 :: a5 :: a6 :: a7 :: a8 :: a9 :: a10 :: a11 :: some (.ref a) :: t) st g r n Q) : zz_Z C M d mc ms kc ks pc (a0 :: a1 :: a2 :: a3 :: a4 :: a5 :: a6 :: a7 :: a8 :: a9 :: a10 :: a11 :: b :: t) (.ref a :: st) g r n Q := by
  intro p e s m args below meth c H locs ls hF hW hl hL
  refine lv_astore (x := zz_A C a) (rest := st.map (zz_v C)) hF.1.1 hF.1.2.1 hd (zz_l_has hL) (by rw [← hlen]; simp only [List.length_cons]; omega) rfl (fun ls' h' => ?_)
  exact k p e s m args below meth c H locs ls' hF hW hl (zz_l_set (w := .ref a) (i := 12) (L := a0 :: a1 :: a2 :: a3 :: a4 :: a5 :: a6 :: a7 :: a8 :: a9 :: a10 :: a11 :: b :: t) hlen (Or.inr (fun o ho => by cases ho; exact hk)) h')
theorem zz_astore_13 {a0 a1 a2 a3 a4 a5 a6 a7 a8 a9 a10 a11 a12 b : Option Value} {a : Nat} {t : List (Option Value)} (hd : decode M.2.1 pc = .ok (.astore 13, 2)) (hlen : (a0 :: a1 :: a2 :: a3 :: a4 :: a5 :: a6 :: a7 :: a8 :: a9 :: a10 :: a11 :: a12 :: b :: t).length = M.2.2.1) (hk : zz_ok1 a12 = true) (k : zz_Z C M d mc ms kc ks (pc + 2) (a0 :: a1 :: a2 :: a3 :: a4 :: a5 :: a6 :: a7 :: a8 :: a9 :: a10 :: a11 :: a12 :: some (.ref a) :: t) st g r n Q) : zz_Z C M d mc ms kc ks pc (a0 :: a1 :: a2 :: a3 :: a4 :: a5 :: a6 :: a7 :: a8 :: a9 :: a10 :: a11 :: a12 :: b :: t) (.ref a :: st) g r n Q := by
  intro p e s m args below meth c H locs ls hF hW hl hL
  refine lv_astore (x := zz_A C a) (rest := st.map (zz_v C)) hF.1.1 hF.1.2.1 hd (zz_l_has hL) (by rw [← hlen]; simp only [List.length_cons]; omega) rfl (fun ls' h' => ?_)
  exact k p e s m args below meth c H locs ls' hF hW hl (zz_l_set (w := .ref a) (i := 13) (L := a0 :: a1 :: a2 :: a3 :: a4 :: a5 :: a6 :: a7 :: a8 :: a9 :: a10 :: a11 :: a12 :: b :: t) hlen (Or.inr (fun o ho => by cases ho; exact hk)) h')
theorem zz_iinc_0 {t : List (Option Value)} {j : Int} (z : Int32) (hd : decode M.2.1 pc = .ok (.iinc 0 j, 3)) (hlen : (some (.int x) :: t).length = M.2.2.1) (hz : Int32.ofInt j = z) (k : zz_Z C M d mc ms kc ks (pc + 3) (some (.int (x + z)) :: t) st g r n Q) : zz_Z C M d mc ms kc ks pc (some (.int x) :: t) st g r n Q := by
  intro p e s m args below meth c H locs ls hF hW hl hL
  obtain ⟨q, hq⟩ := List.getElem?_of_mem (zz_as_in (C := C) (L := some (.int x) :: t) (i := 0) (w := .int x) rfl)
  refine lv_iinc (x := x) hF.1.1 hF.1.2.1 hd (zz_l_has hL) hq (by rw [hz]) (by rw [← hlen]; simp only [List.length_cons]; omega) rfl (fun ls' h' => ?_)
  exact k p e s m args below meth c H locs ls' hF hW hl (zz_l_set (w := .int (x + z)) (i := 0) (L := some (.int x) :: t) hlen (Or.inl rfl) h')
theorem zz_iinc_1 {a0 : Option Value} {t : List (Option Value)} {j : Int} (z : Int32) (hd : decode M.2.1 pc = .ok (.iinc 1 j, 3)) (hlen : (a0 :: some (.int x) :: t).length = M.2.2.1) (hk : zz_ok1 a0 = true) (hz : Int32.ofInt j = z) (k : zz_Z C M d mc ms kc ks (pc + 3) (a0 :: some (.int (x + z)) :: t) st g r n Q) : zz_Z C M d mc ms kc ks pc (a0 :: some (.int x) :: t) st g r n Q := by
  intro p e s m args below meth c H locs ls hF hW hl hL
  obtain ⟨q, hq⟩ := List.getElem?_of_mem (zz_as_in (C := C) (L := a0 :: some (.int x) :: t) (i := 1) (w := .int x) rfl)
  refine lv_iinc (x := x) hF.1.1 hF.1.2.1 hd (zz_l_has hL) hq (by rw [hz]) (by rw [← hlen]; simp only [List.length_cons]; omega) rfl (fun ls' h' => ?_)
  exact k p e s m args below meth c H locs ls' hF hW hl (zz_l_set (w := .int (x + z)) (i := 1) (L := a0 :: some (.int x) :: t) hlen (Or.inr (fun o ho => by cases ho; exact hk)) h')
theorem zz_iinc_2 {a0 a1 : Option Value} {t : List (Option Value)} {j : Int} (z : Int32) (hd : decode M.2.1 pc = .ok (.iinc 2 j, 3)) (hlen : (a0 :: a1 :: some (.int x) :: t).length = M.2.2.1) (hk : zz_ok1 a1 = true) (hz : Int32.ofInt j = z) (k : zz_Z C M d mc ms kc ks (pc + 3) (a0 :: a1 :: some (.int (x + z)) :: t) st g r n Q) : zz_Z C M d mc ms kc ks pc (a0 :: a1 :: some (.int x) :: t) st g r n Q := by
  intro p e s m args below meth c H locs ls hF hW hl hL
  obtain ⟨q, hq⟩ := List.getElem?_of_mem (zz_as_in (C := C) (L := a0 :: a1 :: some (.int x) :: t) (i := 2) (w := .int x) rfl)
  refine lv_iinc (x := x) hF.1.1 hF.1.2.1 hd (zz_l_has hL) hq (by rw [hz]) (by rw [← hlen]; simp only [List.length_cons]; omega) rfl (fun ls' h' => ?_)
  exact k p e s m args below meth c H locs ls' hF hW hl (zz_l_set (w := .int (x + z)) (i := 2) (L := a0 :: a1 :: some (.int x) :: t) hlen (Or.inr (fun o ho => by cases ho; exact hk)) h')
theorem zz_iinc_3 {a0 a1 a2 : Option Value} {t : List (Option Value)} {j : Int} (z : Int32) (hd : decode M.2.1 pc = .ok (.iinc 3 j, 3)) (hlen : (a0 :: a1 :: a2 :: some (.int x) :: t).length = M.2.2.1) (hk : zz_ok1 a2 = true) (hz : Int32.ofInt j = z) (k : zz_Z C M d mc ms kc ks (pc + 3) (a0 :: a1 :: a2 :: some (.int (x + z)) :: t) st g r n Q) : zz_Z C M d mc ms kc ks pc (a0 :: a1 :: a2 :: some (.int x) :: t) st g r n Q := by
  intro p e s m args below meth c H locs ls hF hW hl hL
  obtain ⟨q, hq⟩ := List.getElem?_of_mem (zz_as_in (C := C) (L := a0 :: a1 :: a2 :: some (.int x) :: t) (i := 3) (w := .int x) rfl)
  refine lv_iinc (x := x) hF.1.1 hF.1.2.1 hd (zz_l_has hL) hq (by rw [hz]) (by rw [← hlen]; simp only [List.length_cons]; omega) rfl (fun ls' h' => ?_)
  exact k p e s m args below meth c H locs ls' hF hW hl (zz_l_set (w := .int (x + z)) (i := 3) (L := a0 :: a1 :: a2 :: some (.int x) :: t) hlen (Or.inr (fun o ho => by cases ho; exact hk)) h')
theorem zz_iinc_4 {a0 a1 a2 a3 : Option Value} {t : List (Option Value)} {j : Int} (z : Int32) (hd : decode M.2.1 pc = .ok (.iinc 4 j, 3)) (hlen : (a0 :: a1 :: a2 :: a3 :: some (.int x) :: t).length = M.2.2.1) (hk : zz_ok1 a3 = true) (hz : Int32.ofInt j = z) (k : zz_Z C M d mc ms kc ks (pc + 3) (a0 :: a1 :: a2 :: a3 :: some (.int (x + z)) :: t) st g r n Q) : zz_Z C M d mc ms kc ks pc (a0 :: a1 :: a2 :: a3 :: some (.int x) :: t) st g r n Q := by
  intro p e s m args below meth c H locs ls hF hW hl hL
  obtain ⟨q, hq⟩ := List.getElem?_of_mem (zz_as_in (C := C) (L := a0 :: a1 :: a2 :: a3 :: some (.int x) :: t) (i := 4) (w := .int x) rfl)
  refine lv_iinc (x := x) hF.1.1 hF.1.2.1 hd (zz_l_has hL) hq (by rw [hz]) (by rw [← hlen]; simp only [List.length_cons]; omega) rfl (fun ls' h' => ?_)
  exact k p e s m args below meth c H locs ls' hF hW hl (zz_l_set (w := .int (x + z)) (i := 4) (L := a0 :: a1 :: a2 :: a3 :: some (.int x) :: t) hlen (Or.inr (fun o ho => by cases ho; exact hk)) h')
theorem zz_iinc_5 {a0 a1 a2 a3 a4 : Option Value} {t : List (Option Value)} {j : Int} (z : Int32) (hd : decode M.2.1 pc = .ok (.iinc 5 j, 3)) (hlen : (a0 :: a1 :: a2 :: a3 :: a4 :: some (.int x) :: t).length = M.2.2.1) (hk : zz_ok1 a4 = true) (hz : Int32.ofInt j = z) (k : zz_Z C M d mc ms kc ks (pc + 3) (a0 :: a1 :: a2 :: a3 :: a4 :: some (.int (x + z)) :: t) st g r n Q) : zz_Z C M d mc ms kc ks pc (a0 :: a1 :: a2 :: a3 :: a4 :: some (.int x) :: t) st g r n Q := by
  intro p e s m args below meth c H locs ls hF hW hl hL
  obtain ⟨q, hq⟩ := List.getElem?_of_mem (zz_as_in (C := C) (L := a0 :: a1 :: a2 :: a3 :: a4 :: some (.int x) :: t) (i := 5) (w := .int x) rfl)
  refine lv_iinc (x := x) hF.1.1 hF.1.2.1 hd (zz_l_has hL) hq (by rw [hz]) (by rw [← hlen]; simp only [List.length_cons]; omega) rfl (fun ls' h' => ?_)
  exact k p e s m args below meth c H locs ls' hF hW hl (zz_l_set (w := .int (x + z)) (i := 5) (L := a0 :: a1 :: a2 :: a3 :: a4 :: some (.int x) :: t) hlen (Or.inr (fun o ho => by cases ho; exact hk)) h')
theorem zz_iinc_6 {a0 a1 a2 a3 a4 a5 : Option Value} {t : List (Option Value)} {j : Int} (z : Int32) (hd : decode M.2.1 pc = .ok (.iinc 6 j, 3)) (hlen : (a0 :: a1 :: a2 :: a3 :: a4 :: a5 :: some (.int x) :: t).length = M.2.2.1) (hk : zz_ok1 a5 = true) (hz : Int32.ofInt j = z) (k : zz_Z C M d mc ms kc ks (pc + 3) (a0 :: a1 :: a2 :: a3 :: a4 :: a5 :: some (.int (x + z)) :: t) st g r n Q) : zz_Z C M d mc ms kc ks pc (a0 :: a1 :: a2 :: a3 :: a4 :: a5 :: some (.int x) :: t) st g r n Q := by
  intro p e s m args below meth c H locs ls hF hW hl hL
  obtain ⟨q, hq⟩ := List.getElem?_of_mem (zz_as_in (C := C) (L := a0 :: a1 :: a2 :: a3 :: a4 :: a5 :: some (.int x) :: t) (i := 6) (w := .int x) rfl)
  refine lv_iinc (x := x) hF.1.1 hF.1.2.1 hd (zz_l_has hL) hq (by rw [hz]) (by rw [← hlen]; simp only [List.length_cons]; omega) rfl (fun ls' h' => ?_)
  exact k p e s m args below meth c H locs ls' hF hW hl (zz_l_set (w := .int (x + z)) (i := 6) (L := a0 :: a1 :: a2 :: a3 :: a4 :: a5 :: some (.int x) :: t) hlen (Or.inr (fun o ho => by cases ho; exact hk)) h')
theorem zz_iinc_7 {a0 a1 a2 a3 a4 a5 a6 : Option Value} {t : List (Option Value)} {j : Int} (z : Int32) (hd : decode M.2.1 pc = .ok (.iinc 7 j, 3)) (hlen : (a0 :: a1 :: a2 :: a3 :: a4 :: a5 :: a6 :: some (.int x) :: t).length = M.2.2.1) (hk : zz_ok1 a6 = true) (hz : Int32.ofInt j = z) (k : zz_Z C M d mc ms kc ks (pc + 3) (a0 :: a1 :: a2 :: a3 :: a4 :: a5 :: a6 :: some (.int (x + z)) :: t) st g r n Q) : zz_Z C M d mc ms kc ks pc (a0 :: a1 :: a2 :: a3 :: a4 :: a5 :: a6 :: some (.int x) :: t) st g r n Q := by
  intro p e s m args below meth c H locs ls hF hW hl hL
  obtain ⟨q, hq⟩ := List.getElem?_of_mem (zz_as_in (C := C) (L := a0 :: a1 :: a2 :: a3 :: a4 :: a5 :: a6 :: some (.int x) :: t) (i := 7) (w := .int x) rfl)
  refine lv_iinc (x := x) hF.1.1 hF.1.2.1 hd (zz_l_has hL) hq (by rw [hz]) (by rw [← hlen]; simp only [List.length_cons]; omega) rfl (fun ls' h' => ?_)
  exact k p e s m args below meth c H locs ls' hF hW hl (zz_l_set (w := .int (x + z)) (i := 7) (L := a0 :: a1 :: a2 :: a3 :: a4 :: a5 :: a6 :: some (.int x) :: t) hlen (Or.inr (fun o ho => by cases ho; exact hk)) h')
theorem zz_iinc_8 {a0 a1 a2 a3 a4 a5 a6 a7 : Option Value} {t : List (Option Value)} {j : Int} (z : Int32) (hd : decode M.2.1 pc = .ok (.iinc 8 j, 3)) (hlen : (a0 :: a1 :: a2 :: a3 :: a4 :: a5 :: a6 :: a7 :: some (.int x) :: t).length = M.2.2.1) (hk : zz_ok1 a7 = true) (hz : Int32.ofInt j = z) (k : zz_Z C M d mc ms kc ks (pc + 3) (a0 :: a1 :: a2 :: a3 :: a4 :: a5 :: a6 :: a7 :: some (.int (x + z)) :: t) st g r n Q) : zz_Z C M d mc ms kc ks pc (a0 :: a1 :: a2 :: a3 :: a4 :: a5 :: a6 :: a7 :: some (.int x) :: t) st g r n Q := by
  intro p e s m args below meth c H locs ls hF hW hl hL
  obtain ⟨q, hq⟩ := List.getElem?_of_mem (zz_as_in (C := C) (L := a0 :: a1 :: a2 :: a3 :: a4 :: a5 :: a6 :: a7 :: some (.int x) :: t) (i := 8) (w := .int x) rfl)
  refine lv_iinc (x := x) hF.1.1 hF.1.2.1 hd (zz_l_has hL) hq (by rw [hz]) (by rw [← hlen]; simp only [List.length_cons]; omega) rfl (fun ls' h' => ?_)
  exact k p e s m args below meth c H locs ls' hF hW hl (zz_l_set (w := .int (x + z)) (i := 8) (L := a0 :: a1 :: a2 :: a3 :: a4 :: a5 :: a6 :: a7 :: some (.int x) :: t) hlen (Or.inr (fun o ho => by cases ho; exact hk)) h')
theorem zz_iinc_9 {a0 a1 a2 a3 a4 a5 a6 a7 a8 : Option Value} {t : List (Option Value)} {j : Int} (z : Int32) (hd : decode M.2.1 pc = .ok (.iinc 9 j, 3)) (hlen : (a0 :: a1 :: a2 :: a3 :: a4 :: a5 :: a6 :: a7 :: a8 :: some (.int x) :: t).length = M.2.2.1) (hk : zz_ok1 a8 = true) (hz : Int32.ofInt j = z) (k : zz_Z C M d mc ms kc ks (pc + 3) (a0 :: a1 :: a2 :: a3 :: a4 :: a5 :: a6 :: a7 :: a8 :: some (.int (x + z)) :: t) st g r n Q) : zz_Z C M d mc ms kc ks pc (a0 :: a1 :: a2 :: a3 :: a4 :: a5 :: a6 :: a7 :: a8 :: some (.int x) :: t) st g r n Q := by
  intro p e s m args below meth c H locs ls hF hW hl hL
  obtain ⟨q, hq⟩ := List.getElem?_of_mem (zz_as_in (C := C) (L := a0 :: a1 :: a2 :: a3 :: a4 :: a5 :: a6 :: a7 :: a8 :: some (.int x) :: t) (i := 9) (w := .int x) rfl)
  refine lv_iinc (x := x) hF.1.1 hF.1.2.1 hd (zz_l_has hL) hq (by rw [hz]) (by rw [← hlen]; simp only [List.length_cons]; omega) rfl (fun ls' h' => ?_)
  exact k p e s m args below meth c H locs ls' hF hW hl (zz_l_set (w := .int (x + z)) (i := 9) (L := a0 :: a1 :: a2 :: a3 :: a4 :: a5 :: a6 :: a7 :: a8 :: some (.int x) :: t) hlen (Or.inr (fun o ho => by cases ho; exact hk)) h')
theorem zz_iinc_10 {a0 a1 a2 a3 a4 a5 a6 a7 a8 a9 : Option Value} {t : List (Option Value)} {j : Int} (z : Int32) (hd : decode M.2.1 pc = .ok (.iinc 10 j, 3)) (hlen : (a0 :: a1 :: a2 :: a3 :: a4 :: a5 :: a6 :: a7 :: a8 :: a9 :: some (.int x) :: t).length = M.2.2.1) (hk : zz_ok1 a9 = true) (hz : Int32.ofInt j = z) (k : zz_Z C M d mc ms kc ks (pc + 3) (a0 :: a1 :: a2 :: a3 :: a4 :: a5 :: a6 :: a7 :: a8 :: a9 :: some (.int (x + z)) :: t) st g r n Q) : zz_Z C M d mc ms kc ks pc (a0 :: a1 :: a2 :: a3 :: a4 :: a5 :: a6 :: a7 :: a8 :: a9 :: some (.int x) :: t) st g r n Q := by
  intro p e s m args below meth c H locs ls hF hW hl hL
  obtain ⟨q, hq⟩ := List.getElem?_of_mem (zz_as_in (C := C) (L := a0 :: a1 :: a2 :: a3 :: a4 :: a5 :: a6 :: a7 :: a8 :: a9 :: some (.int x) :: t) (i := 10) (w := .int x) rfl)
  refine lv_iinc (x := x) hF.1.1 hF.1.2.1 hd (zz_l_has hL) hq (by rw [hz]) (by rw [← hlen]; simp only [List.length_cons]; omega) rfl (fun ls' h' => ?_)
  exact k p e s m args below meth c H locs ls' hF hW hl (zz_l_set (w := .int (x + z)) (i := 10) (L := a0 :: a1 :: a2 :: a3 :: a4 :: a5 :: a6 :: a7 :: a8 :: a9 :: some (.int x) :: t) hlen (Or.inr (fun o ho => by cases ho; exact hk)) h')
theorem zz_iinc_11 {a0 a1 a2 a3 a4 a5 a6 a7 a8 a9 a10 : Option Value} {t : List (Option Value)} {j : Int} (z : Int32) (hd : decode M.2.1 pc = .ok (.iinc 11 j, 3)) (hlen : (a0 :: a1 :: a2 :: a3 :: a4 :: a5 :: a6 :: a7 :: a8 :: a9 :: a10 :: some (.int x) :: t).length = M.2.2.1) (hk : zz_ok1 a10 = true) (hz : Int32.ofInt j = z) (k : zz_Z C M d mc ms kc ks (pc + 3) (a0 :: a1 :: a2 :: a3 :: a4 :: a5 :: a6 :: a7 :: a8 :: a9 :: a10 :: some (.int (x + z)) :: t) st g r n Q) : zz_Z C M d mc ms kc ks pc (a0 :: a1 :: a2 :: a3 :: a4 :: a5 :: a6 :: a7 :: a8 :: a9 :: a10 :: some (.int x) :: t) st g r n Q := by
  intro p e s m args below meth c H locs ls hF hW hl hL
  obtain ⟨q, hq⟩ := List.getElem?_of_mem (zz_as_in (C := C) (L := a0 :: a1 :: a2 :: a3 :: a4 :: a5 :: a6 :: a7 :: a8 :: a9 :: a10 :: some (.int x) :: t) (i := 11) (w := .int x) rfl)
  refine lv_iinc (x := x) hF.1.1 hF.1.2.1 hd (zz_l_has hL) hq (by rw [hz]) (by rw [← hlen]; simp only [List.length_cons]; omega) rfl (fun ls' h' => ?_)
  exact k p e s m args below meth c H locs ls' hF hW hl (zz_l_set (w := .int (x + z)) (i := 11) (L := a0 :: a1 :: a2 :: a3 :: a4 :: a5 :: a6 :: a7 :: a8 :: a9 :: a10 :: some (.int x) :: t) hlen (Or.inr (fun o ho => by cases ho; exact hk)) h')
theorem zz_iinc_12 {a0 a1 a2 a3 a4 a5 a6 a7 a8 a9 a10 a11 : Option Value} {t : List (Option Value)} {j : Int} (z : Int32) (hd : decode M.2.1 pc = .ok (.iinc 12 j, 3)) (hlen : (a0 :: a1 :: a2 :: a3 :: a4 :: a5 :: a6 :: a7 :: a8 :: a9 :: a10 :: a11 :: some (.int x) :: t).length = M.2.2.1) (hk : zz_ok1 a11 = true) (hz : Int32.ofInt j = z) (k : zz_Z C M d mc ms kc ks (pc + 3) (a0 :: a1 :: a2 :: a3 :: a4 :: a5 :: a6 :: a7 :: a8 :: a9 :: a10 :: a11 :: some (.int (x + z)) :: t) st g r n Q) : zz_Z C M d mc ms kc ks pc (a0 :: a1 :: a2 :: a3 :: a4 :: a5 :: a6 :: a7 :: a8 :: a9 :: a10 :: a11 :: some (.int x) :: t) st g r n Q := by
  intro p e s m args below meth c H locs ls hF hW hl hL
  obtain ⟨q, hq⟩ := List.getElem?_of_mem (zz_as_in (C := C) (L := a0 :: a1 :: a2 :: a3 :: a4 :: a5 :: a6 :: a7 :: a8 :: a9 :: a10 :: a11 :: some (.int x) :: t) (i := 12) (w := .int x) rfl)
  refine lv_iinc (x := x) hF.1.1 hF.1.2.1 hd (zz_l_has hL) hq (by rw [hz]) (by rw [← hlen]; simp only [List.length_cons]; omega) rfl (fun ls' h' => ?_)
  exact k p e s m args below meth c H locs ls' hF hW hl (zz_l_set (w := .int (x + z)) (i := 12) (L := a0 :: a1 :: a2 :: a3 :: a4 :: a5 :: a6 :: a7 :: a8 :: a9 :: a10 :: a11 :: some (.int x) :: t) hlen (Or.inr (fun o ho => by cases ho; exact hk)) h')
theorem zz_iinc_13 {a0 a1 a2 a3 a4 a5 a6 a7 a8 a9 a10 a11 a12 : Option Value} {t : List (Option Value)} {j : Int} (z : Int32) (hd : decode M.2.1 pc = .ok (.iinc 13 j, 3)) (hlen : (a0 :: a1 :: a2 :: a3 :: a4 :: a5 :: a6 :: a7 :: a8 :: a9 :: a10 :: a11 :: a12 :: some (.int x) :: t).length = M.2.2.1) (hk : zz_ok1 a12 = true) (hz : Int32.ofInt j = z) (k : zz_Z C M d mc ms kc ks (pc + 3) (a0 :: a1 :: a2 :: a3 :: a4 :: a5 :: a6 :: a7 :: a8 :: a9 :: a10 :: a11 :: a12 :: some (.int (x + z)) :: t) st g r n Q) : zz_Z C M d mc ms kc ks pc (a0 :: a1 :: a2 :: a3 :: a4 :: a5 :: a6 :: a7 :: a8 :: a9 :: a10 :: a11 :: a12 :: some (.int x) :: t) st g r n Q := by
  intro p e s m args below meth c H locs ls hF hW hl hL
  obtain ⟨q, hq⟩ := List.getElem?_of_mem (zz_as_in (C := C) (L := a0 :: a1 :: a2 :: a3 :: a4 :: a5 :: a6 :: a7 :: a8 :: a9 :: a10 :: a11 :: a12 :: some (.int x) :: t) (i := 13) (w := .int x) rfl)
  refine lv_iinc (x := x) hF.1.1 hF.1.2.1 hd (zz_l_has hL) hq (by rw [hz]) (by rw [← hlen]; simp only [List.length_cons]; omega) rfl (fun ls' h' => ?_)
  exact k p e s m args below meth c H locs ls' hF hW hl (zz_l_set (w := .int (x + z)) (i := 13) (L := a0 :: a1 :: a2 :: a3 :: a4 :: a5 :: a6 :: a7 :: a8 :: a9 :: a10 :: a11 :: a12 :: some (.int x) :: t) hlen (Or.inr (fun o ho => by cases ho; exact hk)) h')
theorem zz_iret (hr : M.2.2.2 = some .int) (hd : decode M.2.1 pc = .ok (.ireturn, 1)) (hkc : kc ≤ mc) (hks : ks ≤ ms) (hq : Q (some (.int x)) g r n) : zz_Z C M d mc ms kc ks pc L [.int x] g r n Q := by
  intro p e s m args below meth c H locs ls hF hW hl hL
  exact W.widen (k := mc) (n := ms) hkc hks (W.iret (v := x) hF.1.1 hF.1.2.1 (hF.1.2.2.1.trans hr) (fun t ht _ => ⟨some (.int x), g, r, n, rfl, hq, by rw [ht]; exact hW⟩) hl hd hF.1.2.2.2.1)
theorem zz_zret {ty : FieldType} (hr : M.2.2.2 = some ty) (hn : Jvm.narrow ty (.int x) = .int x) (hd : decode M.2.1 pc = .ok (.ireturn, 1)) (hkc : kc ≤ mc) (hks : ks ≤ ms) (hq : Q (some (.int x)) g r n) : zz_Z C M d mc ms kc ks pc L [.int x] g r n Q := by
  intro p e s m args below meth c H locs ls hF hW hl hL
  exact W.widen (k := mc) (n := ms) hkc hks (W.zret (v := x) hF.1.1 hF.1.2.1 (hF.1.2.2.1.trans hr) hn (fun t ht _ => ⟨some (.int x), g, r, n, rfl, hq, by rw [ht]; exact hW⟩) hl hd hF.1.2.2.2.1)
theorem zz_vret (hr : M.2.2.2 = none) (hd : decode M.2.1 pc = .ok (.return_, 1)) (hkc : kc ≤ mc) (hks : ks ≤ ms) (hq : Q none g r n) : zz_Z C M d mc ms kc ks pc L [] g r n Q := by
  intro p e s m args below meth c H locs ls hF hW hl hL
  exact W.widen (k := mc) (n := ms) hkc hks (W.vret hF.1.1 hF.1.2.1 (hF.1.2.2.1.trans hr) (fun t ht _ => ⟨none, g, r, n, rfl, hq, by rw [ht]; exact hW⟩) hl hd hF.1.2.2.2.1)
theorem zz_aret {a : Nat} {rt : FieldType} (hr : M.2.2.2 = some rt) (hrt : (∃ n, rt = .object n) ∨ ∃ t, rt = .array t) (hd : decode M.2.1 pc = .ok (.areturn, 1)) (hkc : kc ≤ mc) (hks : ks ≤ ms) (hq : Q (some (.ref a)) g r n) : zz_Z C M d mc ms kc ks pc L [.ref a] g r n Q := by
  intro p e s m args below meth c H locs ls hF hW hl hL
  exact W.widen (k := mc) (n := ms) hkc hks (W.aret (v := .ref (zz_A C a)) hF.1.1 hF.1.2.1 (hF.1.2.2.1.trans hr) hrt (Or.inr ⟨_, rfl⟩) (fun t ht _ => ⟨some (.ref a), g, r, n, rfl, hq, by rw [ht]; exact hW⟩) hl hd hF.1.2.2.2.1)
end ZZ
