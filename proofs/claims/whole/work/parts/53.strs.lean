section ZX
variable {C : zz_C} {M M' : zz_M} {d mc ms mc' ms' kc ks pc : Nat} {L : List (Option Value)} {st : List Value} {g : zz_G} {r : zz_R} {n : Nat} {Q Q' : zz_Q}
variable {k ci N ix na : Nat}
theorem sx_c {C : zz_C} (i : Nat) (hi : i < 3) : ∀ U, zz_ext C U → va_OF "java/lang/String" "coder" "B" (.int 0) (C.2.2.1 (10 + i)) (zz_old C) U C.2.1 := fun U h => (h.2.2.1.1 i hi).2.1
theorem sx_v {C : zz_C} (i : Nat) (hi : i < 3) : ∀ U, zz_ext C U → va_OF "java/lang/String" "value" "[B" (.ref (C.2.2.1 (20 + i))) (C.2.2.1 (10 + i)) (zz_old C) U C.2.1 := fun U h => (h.2.2.1.1 i hi).2.2.1
theorem sx_b {C : zz_C} (i : Nat) (hi : i < 3) : ∀ U, zz_ext C U → va_T .byte (C.2.2.1 (20 + i)) (([3, 3, 0] : List Nat).getD i 0) (fun j => .int ((([[109, 107, 115], [102, 103, 119], []] : List (List Int32)).getD i []).getD j 0)) (zz_old C) U C.2.1 := fun U h => (h.2.2.1.1 i hi).2.2.2
theorem zz_getX {nn dd : String} {v v' : Value} {q : Nat} (hE : ∀ U, zz_ext C U → va_OF "java/lang/String" nn dd v' (C.2.2.1 q) (zz_old C) U C.2.1) (hv : v' = zz_v C v) (hlink : Cond.fieldLink M.1.cls ix "java/lang/String" nn dd ∈ zz_tbl) (hd : decode M.2.1 pc = .ok (.getfield ix, 3)) (kk : zz_Z C M d mc ms kc ks (pc + 3) L (v :: st) g r n Q) : zz_Z C M d mc ms kc ks pc L (.ref (1000000 + q) :: st) g r n Q := by
  intro p e s m args below meth c H locs ls hF hW hl hL
  obtain ⟨cf, kq, fi, f, cell, h1, h2, h3, h4, h5, h6⟩ := hE s hF.2.2.1.2.2.1
  have hkk := kk p e s m args below meth c H locs ls hF hW hl hL
  rw [List.map_cons, ← hv] at hkk
  rw [List.map_cons, zz_vx]
  exact W.getf hF.1.1 hF.1.2.1 hF.1.2.2.2.2.2.1 (hF.2.1 _ hlink) h1 h2 (by rw [hW.2.2.2 _ (Array.getElem?_eq_some_iff.mp h3).1]; exact h3) h4 (v := v') h5 rfl rfl hd hkk
theorem zz_gsC (hlink : Cond.fieldLink M.1.cls ix "java/lang/String" "COMPACT_STRINGS" "Z" ∈ zz_tbl) (hd : decode M.2.1 pc = .ok (.getstatic ix, 3)) (kk : zz_Z C M d mc ms kc ks (pc + 3) L (.int 1 :: st) g r n Q) : zz_Z C M d mc ms kc ks pc L st g r n Q := by
  intro p e s m args below meth c H locs ls hF hW hl hL
  obtain ⟨cf, kf, fi, f, a, cell, h1, h2, h3, h4, h5, h6, h7, h8⟩ := hF.2.2.1.2.2.1.1.2.2.2
  exact W.gets hF.1.1 hF.1.2.1 hF.1.2.2.2.2.2.1 (hF.2.1 _ hlink) h1 h2 h3 h4 (by rw [hW.2.2.2 a (Array.getElem?_eq_some_iff.mp h5).1]; exact h5) (fun e => by rw [e] at h6; cases h6) h7 rfl hd (kk p e s m args below meth c H locs ls hF hW hl hL)
theorem zz_bald {q : Nat} {l : List Int32} (hT : ∀ U, zz_ext C U → va_T .byte (C.2.2.1 q) N (fun j => .int (l.getD j 0)) (zz_old C) U C.2.1) {x : Int32} (j : Nat) (ej : x = nI j) (hlt : j < N) (hN : N ≤ 1000) (hd : decode M.2.1 pc = .ok (.baload, 1)) (kk : zz_Z C M d mc ms kc ks (pc + 1) L (.int (l.getD j 0) :: st) g r n Q) : zz_Z C M d mc ms kc ks pc L (.int x :: .ref (1000000 + q) :: st) g r n Q := by
  intro p e s m args below meth c H locs ls hF hW hl hL
  obtain ⟨cell, h1, h2, h3, h4, h5, h6, h7⟩ := hT s hF.2.2.1.2.2.1
  have hkk := kk p e s m args below meth c H locs ls hF hW hl hL
  rw [List.map_cons, List.map_cons, zz_vx]
  have hc := zz_ixc ej (by omega)
  refine W.bald (v := .int (l.getD j 0)) hF.1.1 hF.1.2.1 (by rw [hW.2.2.2 _ (Array.getElem?_eq_some_iff.mp h1).1]; exact h1) h2 h3 ?_ (by rw [hc]; exact h6 j hlt) rfl rfl hd hkk
  intro z9
  rcases z9 with z9 | z9
  · exact zz_ixn ej (by omega) z9
  · rw [hc] at z9; omega
theorem zz_blen {q : Nat} {f : Nat → Value} (hT : ∀ U, zz_ext C U → va_T .byte (C.2.2.1 q) N f (zz_old C) U C.2.1) {v : Int32} (hv : Int32.ofNat N = v) (hd : decode M.2.1 pc = .ok (.arraylength, 1)) (kk : zz_Z C M d mc ms kc ks (pc + 1) L (.int v :: st) g r n Q) : zz_Z C M d mc ms kc ks pc L (.ref (1000000 + q) :: st) g r n Q := by
  intro p e s m args below meth c H locs ls hF hW hl hL
  obtain ⟨cell, h1, h2, h3, h4, h5, h6, h7⟩ := hT s hF.2.2.1.2.2.1
  have hkk := kk p e s m args below meth c H locs ls hF hW hl hL
  rw [List.map_cons, zz_vx]
  subst hv
  exact W.alen (n := Int32.ofNat N) hF.1.1 hF.1.2.1 (by rw [hW.2.2.2 _ (Array.getElem?_eq_some_iff.mp h1).1]; exact h1) h2 h5 rfl rfl hd hkk
def zz_CX (own : String) (ix na : Nat) (M : zz_M) : Prop := (Cond.methodLink own ix M.1 ∈ zz_tbl ∧ Cond.instanceMethod M.1 ∈ zz_tbl ∧ Cond.selects M.1.cls M.1 M.1 ∈ zz_tbl ∧ Cond.initialized M.1.cls ∈ zz_tbl ∧ Cond.code M.1 M.2.1 M.2.2.1 M.2.2.2 ∈ zz_tbl) ∧ zz_notMH M.1 na ∧ M.2.2.1 ≤ 21 ∧ M.1.cls = "java/lang/String"
theorem zz_callXg {i : Nat} (hi : i < 3) {as : List Value} (hcl : zz_CX M.1.cls ix na M') (hna : as.length = na) (hcat : (st.map fun v => v.category).sum ≤ 8) (hmc : kc + mc' ≤ mc) (hms : ks + ms' ≤ ms) (hd : decode M.2.1 pc = .ok (.invokevirtual ix, 3)) (hT : zz_T C M' d mc' ms' (.ref (1000000 + (10 + i)) :: as) g r n Q')
    (kk : ∀ v g' r' n', Q' v g' r' n' → zz_Z C M (d + 1) mc ms (kc + mc') (ks + ms') (pc + 3) L (v.toList ++ st) g' r' n' Q) : zz_Z C M (d + 1) mc ms kc ks pc L (as.reverse ++ .ref (1000000 + (10 + i)) :: st) g r n Q := by
  intro p e s m args below meth c H locs ls hF hW hl hL
  obtain ⟨⟨w1, w2, w3, w4, w5⟩, hmh, hml, hcn⟩ := hcl
  have hst : (as.reverse ++ Value.ref (1000000 + (10 + i)) :: st).map (zz_v C) = (as.map (zz_v C)).reverse ++ .ref (zz_A C (1000000 + (10 + i))) :: st.map (zz_v C) := by rw [List.map_append, List.map_reverse]; rfl
  rw [hst]
  refine zz_back (va_runV (C := M'.1.cls) (As := as.map (zz_v C)) (n := na) (nL := M.2.2.1) ⟨hF.1.1, hF.1.2.1, hF.1.2.2.2.2.1, hF.1.2.2.2.2.2.1, hF.2.1⟩ hT
    (cwV na hF.2.1 (zz_good fun w hw => ?_) rfl rfl rfl ⟨rfl, hmh⟩ (zz_room hml))
    ⟨zz_blind (as := .ref (1000000 + (10 + i)) :: as), ?_, fun U hU hW1 => ⟨rfl, by rw [hU]; exact hW, hF.2.2.1.warm hW1⟩⟩ rfl (by rw [List.length_map]; exact hna) hL.1 rfl (lv_room (by rw [zz_cats]; exact hcat)) hd ⟨hmc, hms⟩) hl ?_
  · rcases List.mem_append.mp hw with h | h
    · simp only [List.mem_cons, List.not_mem_nil, or_false] at h
      rcases h with rfl | rfl | rfl | rfl
      · exact w1
      · exact w2
      · exact w3
      · exact w4
    · exact zz_ws_in w5 w h
  · obtain ⟨cell, h1, h2, h3, -⟩ := (hF.2.2.1.2.2.1.2.2.1.1 i hi).1
    have he : zz_A C (1000000 + (10 + i)) = C.2.2.1 (10 + i) := Value.ref.inj (zz_vx C (10 + i))
    exact ⟨cell, by rw [he, hW.2.2.2 _ (Array.getElem?_eq_some_iff.mp h1).1]; exact h1, h2, by rw [hcn]; exact h3⟩
  · intro v g' r' n' H1 locs1 hq hW1 hl1
    have := kk v g' r' n' hq p e s m args below meth c H1 locs1 ls hF hW1 hl1 hL
    rw [List.map_append] at this
    have e2 : (v.toList).map (zz_v C) = (v.map (zz_v C)).toList := by cases v <;> rfl
    rw [e2] at this
    exact this
theorem zz_callX0i {i : Nat} (hi : i < 3) (hcl : zz_CX M.1.cls ix 0 M') (hcat : (st.map fun v => v.category).sum ≤ 8) (hmc : kc + mc' ≤ mc) (hms : ks + ms' ≤ ms) (hd : decode M.2.1 pc = .ok (.invokevirtual ix, 3)) (hT : zz_T C M' d mc' ms' (.ref (1000000 + (10 + i)) :: []) g r n (fun v g' r' n' => ∃ z, v = some z ∧ zz_Z C M (d + 1) mc ms (kc + mc') (ks + ms') (pc + 3) L (z :: st) g' r' n' Q)) : zz_Z C M (d + 1) mc ms kc ks pc L (.ref (1000000 + (10 + i)) :: st) g r n Q :=
  zz_callXg (as := []) hi hcl rfl hcat hmc hms hd hT (fun v g' r' n' h => by obtain ⟨z, rfl, h⟩ := h; exact h)
theorem zz_callX1i {i : Nat} (hi : i < 3) {x1 : Value} (hcl : zz_CX M.1.cls ix 1 M') (hcat : (st.map fun v => v.category).sum ≤ 8) (hmc : kc + mc' ≤ mc) (hms : ks + ms' ≤ ms) (hd : decode M.2.1 pc = .ok (.invokevirtual ix, 3)) (hT : zz_T C M' d mc' ms' (.ref (1000000 + (10 + i)) :: [x1]) g r n (fun v g' r' n' => ∃ z, v = some z ∧ zz_Z C M (d + 1) mc ms (kc + mc') (ks + ms') (pc + 3) L (z :: st) g' r' n' Q)) : zz_Z C M (d + 1) mc ms kc ks pc L (x1 :: .ref (1000000 + (10 + i)) :: st) g r n Q :=
  zz_callXg (as := [x1]) hi hcl rfl hcat hmc hms hd hT (fun v g' r' n' h => by obtain ⟨z, rfl, h⟩ := h; exact h)
theorem zz_callX2i {i : Nat} (hi : i < 3) {x1 x2 : Value} (hcl : zz_CX M.1.cls ix 2 M') (hcat : (st.map fun v => v.category).sum ≤ 8) (hmc : kc + mc' ≤ mc) (hms : ks + ms' ≤ ms) (hd : decode M.2.1 pc = .ok (.invokevirtual ix, 3)) (hT : zz_T C M' d mc' ms' (.ref (1000000 + (10 + i)) :: [x1, x2]) g r n (fun v g' r' n' => ∃ z, v = some z ∧ zz_Z C M (d + 1) mc ms (kc + mc') (ks + ms') (pc + 3) L (z :: st) g' r' n' Q)) : zz_Z C M (d + 1) mc ms kc ks pc L (x2 :: x1 :: .ref (1000000 + (10 + i)) :: st) g r n Q :=
  zz_callXg (as := [x1, x2]) hi hcl rfl hcat hmc hms hd hT (fun v g' r' n' h => by obtain ⟨z, rfl, h⟩ := h; exact h)
end ZX
theorem sC_J0_38 : Cond.fieldLink RJ0 38 "java/lang/String" "COMPACT_STRINGS" "Z" ∈ zz_tbl := zz_in 503 (by decide +kernel) rfl
theorem sL_J0_15 : Cond.fieldLink RJ0 15 "java/lang/String" "coder" "B" ∈ zz_tbl := zz_in 1328 (by decide +kernel) rfl
theorem sL_J0_9 : Cond.fieldLink RJ0 9 "java/lang/String" "value" "[B" ∈ zz_tbl := zz_in 1329 (by decide +kernel) rfl
theorem cx_X5_82 : zz_CX RX5 82 1 mi_J0_indexOf_0f7a4 := ⟨⟨zz_in 491 (by decide +kernel) rfl, zz_in 492 (by decide +kernel) rfl, zz_in 493 (by decide +kernel) rfl, zz_in 78 (by decide +kernel) rfl, cd_J0_indexOf_0f7a4⟩, ⟨by decide +kernel, by decide +kernel, by decide +kernel⟩, by decide, rfl⟩
theorem cx_J0_633 : zz_CX RJ0 633 2 mi_J0_indexOf_7cf53 := ⟨⟨zz_in 495 (by decide +kernel) rfl, zz_in 496 (by decide +kernel) rfl, zz_in 497 (by decide +kernel) rfl, zz_in 78 (by decide +kernel) rfl, cd_J0_indexOf_7cf53⟩, ⟨by decide +kernel, by decide +kernel, by decide +kernel⟩, by decide, rfl⟩
theorem cx_J0_492 : zz_CX RJ0 492 0 mi_J0_isLatin1_aae02 := ⟨⟨zz_in 499 (by decide +kernel) rfl, zz_in 500 (by decide +kernel) rfl, zz_in 501 (by decide +kernel) rfl, zz_in 78 (by decide +kernel) rfl, cd_J0_isLatin1_aae02⟩, ⟨by decide +kernel, by decide +kernel, by decide +kernel⟩, by decide, rfl⟩
theorem cx_J0_505 : zz_CX RJ0 505 0 mi_J0_length_8abf5 := ⟨⟨zz_in 505 (by decide +kernel) rfl, zz_in 506 (by decide +kernel) rfl, zz_in 507 (by decide +kernel) rfl, zz_in 78 (by decide +kernel) rfl, cd_J0_length_8abf5⟩, ⟨by decide +kernel, by decide +kernel, by decide +kernel⟩, by decide, rfl⟩
theorem cx_J0_335 : zz_CX RJ0 335 0 mi_J0_coder_7d493 := ⟨⟨zz_in 509 (by decide +kernel) rfl, zz_in 510 (by decide +kernel) rfl, zz_in 511 (by decide +kernel) rfl, zz_in 78 (by decide +kernel) rfl, cd_J0_coder_7d493⟩, ⟨by decide +kernel, by decide +kernel, by decide +kernel⟩, by decide, rfl⟩
def sx_f (l : List Int32) (c : Int32) : Nat → Nat → Int32
  | 0, _ => -1
  | f + 1, j => if l.getD j 0 = c then nI j else sx_f l c f (j + 1)
theorem sx_0 : ∀ t : Fin 256, sx_f [109, 107, 115] (nI t.1).toInt8.toInt32 3 0 = if nI t.1 = 109 then 0 else if nI t.1 = 107 then 1 else if nI t.1 = 115 then 2 else -1 := by decide +kernel
theorem sx_1 : ∀ t : Fin 256, sx_f [102, 103, 119] (nI t.1).toInt8.toInt32 3 0 = if nI t.1 = 102 then 0 else if nI t.1 = 103 then 1 else if nI t.1 = 119 then 2 else -1 := by decide +kernel
set_option maxRecDepth 100000 in
set_option maxHeartbeats 4000000 in
theorem t_J1_canEncode_9a6ad {C : zz_C} {d n : Nat} {g : zz_G} {r : zz_R} {Q : zz_Q} (t : Nat) (ht : t < 256) (h : Q (some (.int 1)) g r n) : zz_T C mi_J1_canEncode_9a6ad d 0 0 [.int (nI t)] g r n Q := by
  refine zz_T.of [some (.int (nI t))] (by decide +kernel) rfl (Nat.le_of_ble_eq_true rfl) ?_
  refine zz_iload_0 dJ1_canEncode_9a6ad_0 ?_
  refine zz_if_lt 15 dJ1_canEncode_9a6ad_1 (by decide) (fun c_1 => ?_) (fun c_1 => ?_)
  · skip
    refine zz_iconst (0) dJ1_canEncode_9a6ad_15 (by decide) ?_
    refine zz_zret rfl (by rfl) dJ1_canEncode_9a6ad_16 (by decide) (by decide) ?_
    exfalso
    first
      | exact nI_pos (by omega) c_1
      | exact absurd ((nI_ltI (a := 255) (b := t) (by omega) (by omega)).mp c_8) (by omega)
  · skip
    refine zz_iload_0 dJ1_canEncode_9a6ad_4 ?_
    refine zz_sipush (255) dJ1_canEncode_9a6ad_5 (by decide) ?_
    refine zz_icmp_gt 15 dJ1_canEncode_9a6ad_8 (by decide) (fun c_8 => ?_) (fun c_8 => ?_)
    · skip
      refine zz_iconst (0) dJ1_canEncode_9a6ad_15 (by decide) ?_
      refine zz_zret rfl (by rfl) dJ1_canEncode_9a6ad_16 (by decide) (by decide) ?_
      exfalso
      first
        | exact nI_pos (by omega) c_1
        | exact absurd ((nI_ltI (a := 255) (b := t) (by omega) (by omega)).mp c_8) (by omega)
    · skip
      refine zz_iconst (1) dJ1_canEncode_9a6ad_11 (by decide) ?_
      refine zz_goto 16 dJ1_canEncode_9a6ad_12 (by decide) ?_
      refine zz_zret rfl (by rfl) dJ1_canEncode_9a6ad_16 (by decide) (by decide) ?_
      exact h

set_option maxRecDepth 100000 in
set_option maxHeartbeats 4000000 in
theorem t_J0_coder_7d493_0 {C : zz_C} {d n : Nat} {g : zz_G} {r : zz_R} {Q : zz_Q} (h : Q (some (.int 0)) g r n) : zz_T C mi_J0_coder_7d493 d 0 0 [.ref (1000000 + (10 + 0))] g r n Q := by
  refine zz_T.of [some (.ref (1000000 + (10 + 0)))] (by decide +kernel) rfl (Nat.le_of_ble_eq_true rfl) ?_
  refine zz_gsC sC_J0_38 dJ0_coder_7d493_0 ?_
  refine zz_if_eq 13 dJ0_coder_7d493_3 (by decide) (fun h => absurd h (by decide)) (fun _ => ?_)
  refine zz_aload_0 dJ0_coder_7d493_6 ?_
  refine zz_getX (v := .int 0) (sx_c 0 (by decide)) rfl sL_J0_15 dJ0_coder_7d493_7 ?_
  refine zz_goto 14 dJ0_coder_7d493_10 (by decide) ?_
  refine zz_zret rfl (by rfl) dJ0_coder_7d493_14 (by decide) (by decide) ?_
  exact h

set_option maxRecDepth 100000 in
set_option maxHeartbeats 4000000 in
theorem t_J0_isLatin1_aae02_0 {C : zz_C} {d n : Nat} {g : zz_G} {r : zz_R} {Q : zz_Q} (h : Q (some (.int 1)) g r n) : zz_T C mi_J0_isLatin1_aae02 d 0 0 [.ref (1000000 + (10 + 0))] g r n Q := by
  refine zz_T.of [some (.ref (1000000 + (10 + 0)))] (by decide +kernel) rfl (Nat.le_of_ble_eq_true rfl) ?_
  refine zz_gsC sC_J0_38 dJ0_isLatin1_aae02_0 ?_
  refine zz_if_eq 17 dJ0_isLatin1_aae02_3 (by decide) (fun h => absurd h (by decide)) (fun _ => ?_)
  refine zz_aload_0 dJ0_isLatin1_aae02_6 ?_
  refine zz_getX (v := .int 0) (sx_c 0 (by decide)) rfl sL_J0_15 dJ0_isLatin1_aae02_7 ?_
  refine zz_if_ne 17 dJ0_isLatin1_aae02_10 (by decide) (fun h => absurd h (by decide)) (fun _ => ?_)
  refine zz_iconst (1) dJ0_isLatin1_aae02_13 (by decide) ?_
  refine zz_goto 18 dJ0_isLatin1_aae02_14 (by decide) ?_
  refine zz_zret rfl (by rfl) dJ0_isLatin1_aae02_18 (by decide) (by decide) ?_
  exact h

set_option maxRecDepth 100000 in
set_option maxHeartbeats 4000000 in
theorem t_J0_length_8abf5_0 {C : zz_C} {d n : Nat} {g : zz_G} {r : zz_R} {Q : zz_Q} (h : Q (some (.int 3)) g r n) : zz_T C mi_J0_length_8abf5 (d + 1) 0 0 [.ref (1000000 + (10 + 0))] g r n Q := by
  refine zz_T.of [some (.ref (1000000 + (10 + 0)))] (by decide +kernel) rfl (Nat.le_of_ble_eq_true rfl) ?_
  refine zz_aload_0 dJ0_length_8abf5_0 ?_
  refine zz_getX (v := .ref (1000000 + 20)) (sx_v 0 (by decide)) (zz_vx _ _).symm sL_J0_9 dJ0_length_8abf5_1 ?_
  refine zz_blen (sx_b 0 (by decide)) (v := 3) (by decide) dJ0_length_8abf5_4 ?_
  refine zz_aload_0 dJ0_length_8abf5_5 ?_
  refine zz_callX0i (i := 0) (by decide) cx_J0_335 (Nat.le_of_ble_eq_true rfl) (by decide) (by decide) dJ0_length_8abf5_6 (t_J0_coder_7d493_0 ⟨_, rfl, ?_⟩)
  refine zz_ishr dJ0_length_8abf5_9 ?_
  refine zz_iret rfl dJ0_length_8abf5_10 (by decide) (by decide) ?_
  rw [show (3 : Int32) >>> (0 &&& 31) = 3 from by decide]
  exact h

set_option maxRecDepth 100000 in
set_option maxHeartbeats 4000000 in
theorem l_J1_indexOfChar_4cfef_0 {C : zz_C} {d n : Nat} {g : zz_G} {r : zz_R} {Q : zz_Q} {ch c8 : Int32} : ∀ (k : Nat) (j : Nat), j ≤ 3 → k = 4 - j → Q (some (.int (sx_f [109, 107, 115] c8 (3 - j) j))) g r n → zz_Z C mi_J1_indexOfChar_4cfef d 0 0 0 0 7 [some (.ref (1000000 + (20 + 0))), some (.int ch), some (.int 0), some (.int 3), some (.int c8), some (.int (nI j))] [] g r n Q := by
  intro k
  induction k with
  | zero => intro j hj hk hQ; exact absurd hk (by omega)
  | succ k ih =>
    intro j hj hk hQ
    refine zz_iload_5 dJ1_indexOfChar_4cfef_7 ?_
    refine zz_iload_3 dJ1_indexOfChar_4cfef_9 ?_
    refine zz_icmp_ge 31 dJ1_indexOfChar_4cfef_10 (by decide) (fun c_10 => ?_) (fun c_10 => ?_)
    · skip
      refine zz_iconst (-1) dJ1_indexOfChar_4cfef_31 (by decide) ?_
      refine zz_iret rfl dJ1_indexOfChar_4cfef_32 (by decide) (by decide) ?_
      have := zz_gei (b := 3) c_10 (by omega) (by omega)
      rw [show 3 - j = 0 by omega, sx_f] at hQ
      exact hQ
    · skip
      refine zz_aload_0 dJ1_indexOfChar_4cfef_13 ?_
      refine zz_iload_5 dJ1_indexOfChar_4cfef_14 ?_
      have hlt := zz_lti (b := 3) c_10 (by omega) (by omega)
      refine zz_bald (sx_b 0 (by decide)) j rfl hlt (by decide) dJ1_indexOfChar_4cfef_16 ?_
      refine zz_iload_4 dJ1_indexOfChar_4cfef_17 ?_
      refine zz_icmp_ne 25 dJ1_indexOfChar_4cfef_19 (by decide) (fun c_19 => ?_) (fun c_19 => ?_)
      · skip
        rw [show 3 - j = (3 - (j + 1)) + 1 by omega, sx_f, if_neg (show ¬ [109, 107, 115].getD j 0 = c8 from c_19)] at hQ
        refine zz_iinc_5 (1) dJ1_indexOfChar_4cfef_25 rfl rfl (by decide) ?_
        refine zz_goto 7 dJ1_indexOfChar_4cfef_28 (by decide) ?_
        rw [nI_1]
        exact ih (j + 1) (by omega) (by omega) hQ
      · skip
        refine zz_iload_5 dJ1_indexOfChar_4cfef_22 ?_
        refine zz_iret rfl dJ1_indexOfChar_4cfef_24 (by decide) (by decide) ?_
        rw [show 3 - j = (3 - (j + 1)) + 1 by omega, sx_f, if_pos (show [109, 107, 115].getD j 0 = c8 from c_19)] at hQ
        exact hQ

set_option maxRecDepth 100000 in
set_option maxHeartbeats 4000000 in
theorem t_J1_indexOfChar_4cfef_0 {C : zz_C} {d n : Nat} {g : zz_G} {r : zz_R} {Q : zz_Q} (t : Nat) (ht : t < 256) (h : Q (some (.int (if nI t = 109 then 0 else if nI t = 107 then 1 else if nI t = 115 then 2 else -1))) g r n) : zz_T C mi_J1_indexOfChar_4cfef d 0 0 [.ref (1000000 + (20 + 0)), .int (nI t), .int 0, .int 3] g r n Q := by
  refine zz_T.of [some (.ref (1000000 + (20 + 0))), some (.int (nI t)), some (.int 0), some (.int 3), none, none] (by decide +kernel) rfl (Nat.le_of_ble_eq_true rfl) ?_
  refine zz_iload_1 dJ1_indexOfChar_4cfef_0 ?_
  refine zz_i2b dJ1_indexOfChar_4cfef_1 ?_
  refine zz_istore_4 dJ1_indexOfChar_4cfef_2 rfl rfl ?_
  refine zz_iload_2 dJ1_indexOfChar_4cfef_4 ?_
  refine zz_istore_5 dJ1_indexOfChar_4cfef_5 rfl rfl ?_
  rw [← sx_0 ⟨t, ht⟩] at h
  exact l_J1_indexOfChar_4cfef_0 4 0 (by omega) (by omega) h

set_option maxRecDepth 100000 in
set_option maxHeartbeats 4000000 in
theorem t_J1_indexOf_4cfef_0 {C : zz_C} {d n : Nat} {g : zz_G} {r : zz_R} {Q : zz_Q} (t : Nat) (ht : t < 256) (h : Q (some (.int (if nI t = 109 then 0 else if nI t = 107 then 1 else if nI t = 115 then 2 else -1))) g r n) : zz_T C mi_J1_indexOf_4cfef (d + 1) 0 0 [.ref (1000000 + (20 + 0)), .int (nI t), .int 0, .int 3] g r n Q := by
  refine zz_T.of [some (.ref (1000000 + (20 + 0))), some (.int (nI t)), some (.int 0), some (.int 3)] (by decide +kernel) rfl (Nat.le_of_ble_eq_true rfl) ?_
  refine zz_iload_1 dJ1_indexOf_4cfef_0 ?_
  refine zz_callS1i cs_J1_88 (Nat.le_of_ble_eq_true rfl) (by decide) (by decide) dJ1_indexOf_4cfef_1 (t_J1_canEncode_9a6ad t ht ⟨_, rfl, ?_⟩)
  refine zz_if_ne 9 dJ1_indexOf_4cfef_4 (by decide) (fun _ => ?_) (fun h => absurd h (by decide))
  refine zz_iload_2 dJ1_indexOf_4cfef_9 ?_
  refine zz_iconst (0) dJ1_indexOf_4cfef_10 (by decide) ?_
  refine zz_mmax cs_J1_92 (Nat.le_of_ble_eq_true rfl) (by decide) (by decide) dJ1_indexOf_4cfef_11 ?_
  refine zz_istore_2 dJ1_indexOf_4cfef_14 rfl rfl ?_
  refine zz_iload_3 dJ1_indexOf_4cfef_15 ?_
  refine zz_aload_0 dJ1_indexOf_4cfef_16 ?_
  refine zz_blen (sx_b 0 (by decide)) (v := 3) (by decide) dJ1_indexOf_4cfef_17 ?_
  refine zz_mmin cs_J1_38 (Nat.le_of_ble_eq_true rfl) (by decide) (by decide) dJ1_indexOf_4cfef_18 ?_
  refine zz_istore_3 dJ1_indexOf_4cfef_21 rfl rfl ?_
  rw [show (if (0 : Int32) < 0 then (0 : Int32) else 0) = 0 from by decide, show (if (3 : Int32) < 3 then (3 : Int32) else 3) = 3 from by decide]
  refine zz_iload_2 dJ1_indexOf_4cfef_22 ?_
  refine zz_iload_3 dJ1_indexOf_4cfef_23 ?_
  refine zz_icmp_lt 29 dJ1_indexOf_4cfef_24 (by decide) (fun _ => ?_) (fun h => absurd h (by decide))
  refine zz_aload_0 dJ1_indexOf_4cfef_29 ?_
  refine zz_iload_1 dJ1_indexOf_4cfef_30 ?_
  refine zz_iload_2 dJ1_indexOf_4cfef_31 ?_
  refine zz_iload_3 dJ1_indexOf_4cfef_32 ?_
  refine zz_callS4i cs_J1_95 (Nat.le_of_ble_eq_true rfl) (by decide) (by decide) dJ1_indexOf_4cfef_33 (t_J1_indexOfChar_4cfef_0 t ht ⟨_, rfl, ?_⟩)
  refine zz_iret rfl dJ1_indexOf_4cfef_36 (by decide) (by decide) ?_
  exact h

set_option maxRecDepth 100000 in
set_option maxHeartbeats 4000000 in
theorem t_J0_indexOf_7cf53_0 {C : zz_C} {d n : Nat} {g : zz_G} {r : zz_R} {Q : zz_Q} (t : Nat) (ht : t < 256) (h : Q (some (.int (if nI t = 109 then 0 else if nI t = 107 then 1 else if nI t = 115 then 2 else -1))) g r n) : zz_T C mi_J0_indexOf_7cf53 (d + 2) 0 0 [.ref (1000000 + (10 + 0)), .int (nI t), .int 0] g r n Q := by
  refine zz_T.of [some (.ref (1000000 + (10 + 0))), some (.int (nI t)), some (.int 0)] (by decide +kernel) rfl (Nat.le_of_ble_eq_true rfl) ?_
  refine zz_aload_0 dJ0_indexOf_7cf53_0 ?_
  refine zz_callX0i (i := 0) (by decide) cx_J0_492 (Nat.le_of_ble_eq_true rfl) (by decide) (by decide) dJ0_indexOf_7cf53_1 (t_J0_isLatin1_aae02_0 ⟨_, rfl, ?_⟩)
  refine zz_if_eq 23 dJ0_indexOf_7cf53_4 (by decide) (fun h => absurd h (by decide)) (fun _ => ?_)
  refine zz_aload_0 dJ0_indexOf_7cf53_7 ?_
  refine zz_getX (v := .ref (1000000 + 20)) (sx_v 0 (by decide)) (zz_vx _ _).symm sL_J0_9 dJ0_indexOf_7cf53_8 ?_
  refine zz_iload_1 dJ0_indexOf_7cf53_11 ?_
  refine zz_iload_2 dJ0_indexOf_7cf53_12 ?_
  refine zz_aload_0 dJ0_indexOf_7cf53_13 ?_
  refine zz_callX0i (i := 0) (by decide) cx_J0_505 (Nat.le_of_ble_eq_true rfl) (by decide) (by decide) dJ0_indexOf_7cf53_14 (t_J0_length_8abf5_0 ⟨_, rfl, ?_⟩)
  refine zz_callS4i cs_J0_637 (Nat.le_of_ble_eq_true rfl) (by decide) (by decide) dJ0_indexOf_7cf53_17 (t_J1_indexOf_4cfef_0 t ht ⟨_, rfl, ?_⟩)
  refine zz_goto 36 dJ0_indexOf_7cf53_20 (by decide) ?_
  refine zz_iret rfl dJ0_indexOf_7cf53_36 (by decide) (by decide) ?_
  exact h

set_option maxRecDepth 100000 in
set_option maxHeartbeats 4000000 in
theorem t_J0_indexOf_0f7a4_0 {C : zz_C} {d n : Nat} {g : zz_G} {r : zz_R} {Q : zz_Q} (t : Nat) (ht : t < 256) (h : Q (some (.int (if nI t = 109 then 0 else if nI t = 107 then 1 else if nI t = 115 then 2 else -1))) g r n) : zz_T C mi_J0_indexOf_0f7a4 (d + 3) 0 0 [.ref (1000000 + (10 + 0)), .int (nI t)] g r n Q := by
  refine zz_T.of [some (.ref (1000000 + (10 + 0))), some (.int (nI t))] (by decide +kernel) rfl (Nat.le_of_ble_eq_true rfl) ?_
  refine zz_aload_0 dJ0_indexOf_0f7a4_0 ?_
  refine zz_iload_1 dJ0_indexOf_0f7a4_1 ?_
  refine zz_iconst (0) dJ0_indexOf_0f7a4_2 (by decide) ?_
  refine zz_callX2i (i := 0) (by decide) cx_J0_633 (Nat.le_of_ble_eq_true rfl) (by decide) (by decide) dJ0_indexOf_0f7a4_3 (t_J0_indexOf_7cf53_0 t ht ⟨_, rfl, ?_⟩)
  refine zz_iret rfl dJ0_indexOf_0f7a4_6 (by decide) (by decide) ?_
  exact h

set_option maxRecDepth 100000 in
set_option maxHeartbeats 4000000 in
theorem t_J0_coder_7d493_1 {C : zz_C} {d n : Nat} {g : zz_G} {r : zz_R} {Q : zz_Q} (h : Q (some (.int 0)) g r n) : zz_T C mi_J0_coder_7d493 d 0 0 [.ref (1000000 + (10 + 1))] g r n Q := by
  refine zz_T.of [some (.ref (1000000 + (10 + 1)))] (by decide +kernel) rfl (Nat.le_of_ble_eq_true rfl) ?_
  refine zz_gsC sC_J0_38 dJ0_coder_7d493_0 ?_
  refine zz_if_eq 13 dJ0_coder_7d493_3 (by decide) (fun h => absurd h (by decide)) (fun _ => ?_)
  refine zz_aload_0 dJ0_coder_7d493_6 ?_
  refine zz_getX (v := .int 0) (sx_c 1 (by decide)) rfl sL_J0_15 dJ0_coder_7d493_7 ?_
  refine zz_goto 14 dJ0_coder_7d493_10 (by decide) ?_
  refine zz_zret rfl (by rfl) dJ0_coder_7d493_14 (by decide) (by decide) ?_
  exact h

set_option maxRecDepth 100000 in
set_option maxHeartbeats 4000000 in
theorem t_J0_isLatin1_aae02_1 {C : zz_C} {d n : Nat} {g : zz_G} {r : zz_R} {Q : zz_Q} (h : Q (some (.int 1)) g r n) : zz_T C mi_J0_isLatin1_aae02 d 0 0 [.ref (1000000 + (10 + 1))] g r n Q := by
  refine zz_T.of [some (.ref (1000000 + (10 + 1)))] (by decide +kernel) rfl (Nat.le_of_ble_eq_true rfl) ?_
  refine zz_gsC sC_J0_38 dJ0_isLatin1_aae02_0 ?_
  refine zz_if_eq 17 dJ0_isLatin1_aae02_3 (by decide) (fun h => absurd h (by decide)) (fun _ => ?_)
  refine zz_aload_0 dJ0_isLatin1_aae02_6 ?_
  refine zz_getX (v := .int 0) (sx_c 1 (by decide)) rfl sL_J0_15 dJ0_isLatin1_aae02_7 ?_
  refine zz_if_ne 17 dJ0_isLatin1_aae02_10 (by decide) (fun h => absurd h (by decide)) (fun _ => ?_)
  refine zz_iconst (1) dJ0_isLatin1_aae02_13 (by decide) ?_
  refine zz_goto 18 dJ0_isLatin1_aae02_14 (by decide) ?_
  refine zz_zret rfl (by rfl) dJ0_isLatin1_aae02_18 (by decide) (by decide) ?_
  exact h

set_option maxRecDepth 100000 in
set_option maxHeartbeats 4000000 in
theorem t_J0_length_8abf5_1 {C : zz_C} {d n : Nat} {g : zz_G} {r : zz_R} {Q : zz_Q} (h : Q (some (.int 3)) g r n) : zz_T C mi_J0_length_8abf5 (d + 1) 0 0 [.ref (1000000 + (10 + 1))] g r n Q := by
  refine zz_T.of [some (.ref (1000000 + (10 + 1)))] (by decide +kernel) rfl (Nat.le_of_ble_eq_true rfl) ?_
  refine zz_aload_0 dJ0_length_8abf5_0 ?_
  refine zz_getX (v := .ref (1000000 + 21)) (sx_v 1 (by decide)) (zz_vx _ _).symm sL_J0_9 dJ0_length_8abf5_1 ?_
  refine zz_blen (sx_b 1 (by decide)) (v := 3) (by decide) dJ0_length_8abf5_4 ?_
  refine zz_aload_0 dJ0_length_8abf5_5 ?_
  refine zz_callX0i (i := 1) (by decide) cx_J0_335 (Nat.le_of_ble_eq_true rfl) (by decide) (by decide) dJ0_length_8abf5_6 (t_J0_coder_7d493_1 ⟨_, rfl, ?_⟩)
  refine zz_ishr dJ0_length_8abf5_9 ?_
  refine zz_iret rfl dJ0_length_8abf5_10 (by decide) (by decide) ?_
  rw [show (3 : Int32) >>> (0 &&& 31) = 3 from by decide]
  exact h

set_option maxRecDepth 100000 in
set_option maxHeartbeats 4000000 in
theorem l_J1_indexOfChar_4cfef_1 {C : zz_C} {d n : Nat} {g : zz_G} {r : zz_R} {Q : zz_Q} {ch c8 : Int32} : ∀ (k : Nat) (j : Nat), j ≤ 3 → k = 4 - j → Q (some (.int (sx_f [102, 103, 119] c8 (3 - j) j))) g r n → zz_Z C mi_J1_indexOfChar_4cfef d 0 0 0 0 7 [some (.ref (1000000 + (20 + 1))), some (.int ch), some (.int 0), some (.int 3), some (.int c8), some (.int (nI j))] [] g r n Q := by
  intro k
  induction k with
  | zero => intro j hj hk hQ; exact absurd hk (by omega)
  | succ k ih =>
    intro j hj hk hQ
    refine zz_iload_5 dJ1_indexOfChar_4cfef_7 ?_
    refine zz_iload_3 dJ1_indexOfChar_4cfef_9 ?_
    refine zz_icmp_ge 31 dJ1_indexOfChar_4cfef_10 (by decide) (fun c_10 => ?_) (fun c_10 => ?_)
    · skip
      refine zz_iconst (-1) dJ1_indexOfChar_4cfef_31 (by decide) ?_
      refine zz_iret rfl dJ1_indexOfChar_4cfef_32 (by decide) (by decide) ?_
      have := zz_gei (b := 3) c_10 (by omega) (by omega)
      rw [show 3 - j = 0 by omega, sx_f] at hQ
      exact hQ
    · skip
      refine zz_aload_0 dJ1_indexOfChar_4cfef_13 ?_
      refine zz_iload_5 dJ1_indexOfChar_4cfef_14 ?_
      have hlt := zz_lti (b := 3) c_10 (by omega) (by omega)
      refine zz_bald (sx_b 1 (by decide)) j rfl hlt (by decide) dJ1_indexOfChar_4cfef_16 ?_
      refine zz_iload_4 dJ1_indexOfChar_4cfef_17 ?_
      refine zz_icmp_ne 25 dJ1_indexOfChar_4cfef_19 (by decide) (fun c_19 => ?_) (fun c_19 => ?_)
      · skip
        rw [show 3 - j = (3 - (j + 1)) + 1 by omega, sx_f, if_neg (show ¬ [102, 103, 119].getD j 0 = c8 from c_19)] at hQ
        refine zz_iinc_5 (1) dJ1_indexOfChar_4cfef_25 rfl rfl (by decide) ?_
        refine zz_goto 7 dJ1_indexOfChar_4cfef_28 (by decide) ?_
        rw [nI_1]
        exact ih (j + 1) (by omega) (by omega) hQ
      · skip
        refine zz_iload_5 dJ1_indexOfChar_4cfef_22 ?_
        refine zz_iret rfl dJ1_indexOfChar_4cfef_24 (by decide) (by decide) ?_
        rw [show 3 - j = (3 - (j + 1)) + 1 by omega, sx_f, if_pos (show [102, 103, 119].getD j 0 = c8 from c_19)] at hQ
        exact hQ

set_option maxRecDepth 100000 in
set_option maxHeartbeats 4000000 in
theorem t_J1_indexOfChar_4cfef_1 {C : zz_C} {d n : Nat} {g : zz_G} {r : zz_R} {Q : zz_Q} (t : Nat) (ht : t < 256) (h : Q (some (.int (if nI t = 102 then 0 else if nI t = 103 then 1 else if nI t = 119 then 2 else -1))) g r n) : zz_T C mi_J1_indexOfChar_4cfef d 0 0 [.ref (1000000 + (20 + 1)), .int (nI t), .int 0, .int 3] g r n Q := by
  refine zz_T.of [some (.ref (1000000 + (20 + 1))), some (.int (nI t)), some (.int 0), some (.int 3), none, none] (by decide +kernel) rfl (Nat.le_of_ble_eq_true rfl) ?_
  refine zz_iload_1 dJ1_indexOfChar_4cfef_0 ?_
  refine zz_i2b dJ1_indexOfChar_4cfef_1 ?_
  refine zz_istore_4 dJ1_indexOfChar_4cfef_2 rfl rfl ?_
  refine zz_iload_2 dJ1_indexOfChar_4cfef_4 ?_
  refine zz_istore_5 dJ1_indexOfChar_4cfef_5 rfl rfl ?_
  rw [← sx_1 ⟨t, ht⟩] at h
  exact l_J1_indexOfChar_4cfef_1 4 0 (by omega) (by omega) h

set_option maxRecDepth 100000 in
set_option maxHeartbeats 4000000 in
theorem t_J1_indexOf_4cfef_1 {C : zz_C} {d n : Nat} {g : zz_G} {r : zz_R} {Q : zz_Q} (t : Nat) (ht : t < 256) (h : Q (some (.int (if nI t = 102 then 0 else if nI t = 103 then 1 else if nI t = 119 then 2 else -1))) g r n) : zz_T C mi_J1_indexOf_4cfef (d + 1) 0 0 [.ref (1000000 + (20 + 1)), .int (nI t), .int 0, .int 3] g r n Q := by
  refine zz_T.of [some (.ref (1000000 + (20 + 1))), some (.int (nI t)), some (.int 0), some (.int 3)] (by decide +kernel) rfl (Nat.le_of_ble_eq_true rfl) ?_
  refine zz_iload_1 dJ1_indexOf_4cfef_0 ?_
  refine zz_callS1i cs_J1_88 (Nat.le_of_ble_eq_true rfl) (by decide) (by decide) dJ1_indexOf_4cfef_1 (t_J1_canEncode_9a6ad t ht ⟨_, rfl, ?_⟩)
  refine zz_if_ne 9 dJ1_indexOf_4cfef_4 (by decide) (fun _ => ?_) (fun h => absurd h (by decide))
  refine zz_iload_2 dJ1_indexOf_4cfef_9 ?_
  refine zz_iconst (0) dJ1_indexOf_4cfef_10 (by decide) ?_
  refine zz_mmax cs_J1_92 (Nat.le_of_ble_eq_true rfl) (by decide) (by decide) dJ1_indexOf_4cfef_11 ?_
  refine zz_istore_2 dJ1_indexOf_4cfef_14 rfl rfl ?_
  refine zz_iload_3 dJ1_indexOf_4cfef_15 ?_
  refine zz_aload_0 dJ1_indexOf_4cfef_16 ?_
  refine zz_blen (sx_b 1 (by decide)) (v := 3) (by decide) dJ1_indexOf_4cfef_17 ?_
  refine zz_mmin cs_J1_38 (Nat.le_of_ble_eq_true rfl) (by decide) (by decide) dJ1_indexOf_4cfef_18 ?_
  refine zz_istore_3 dJ1_indexOf_4cfef_21 rfl rfl ?_
  rw [show (if (0 : Int32) < 0 then (0 : Int32) else 0) = 0 from by decide, show (if (3 : Int32) < 3 then (3 : Int32) else 3) = 3 from by decide]
  refine zz_iload_2 dJ1_indexOf_4cfef_22 ?_
  refine zz_iload_3 dJ1_indexOf_4cfef_23 ?_
  refine zz_icmp_lt 29 dJ1_indexOf_4cfef_24 (by decide) (fun _ => ?_) (fun h => absurd h (by decide))
  refine zz_aload_0 dJ1_indexOf_4cfef_29 ?_
  refine zz_iload_1 dJ1_indexOf_4cfef_30 ?_
  refine zz_iload_2 dJ1_indexOf_4cfef_31 ?_
  refine zz_iload_3 dJ1_indexOf_4cfef_32 ?_
  refine zz_callS4i cs_J1_95 (Nat.le_of_ble_eq_true rfl) (by decide) (by decide) dJ1_indexOf_4cfef_33 (t_J1_indexOfChar_4cfef_1 t ht ⟨_, rfl, ?_⟩)
  refine zz_iret rfl dJ1_indexOf_4cfef_36 (by decide) (by decide) ?_
  exact h

set_option maxRecDepth 100000 in
set_option maxHeartbeats 4000000 in
theorem t_J0_indexOf_7cf53_1 {C : zz_C} {d n : Nat} {g : zz_G} {r : zz_R} {Q : zz_Q} (t : Nat) (ht : t < 256) (h : Q (some (.int (if nI t = 102 then 0 else if nI t = 103 then 1 else if nI t = 119 then 2 else -1))) g r n) : zz_T C mi_J0_indexOf_7cf53 (d + 2) 0 0 [.ref (1000000 + (10 + 1)), .int (nI t), .int 0] g r n Q := by
  refine zz_T.of [some (.ref (1000000 + (10 + 1))), some (.int (nI t)), some (.int 0)] (by decide +kernel) rfl (Nat.le_of_ble_eq_true rfl) ?_
  refine zz_aload_0 dJ0_indexOf_7cf53_0 ?_
  refine zz_callX0i (i := 1) (by decide) cx_J0_492 (Nat.le_of_ble_eq_true rfl) (by decide) (by decide) dJ0_indexOf_7cf53_1 (t_J0_isLatin1_aae02_1 ⟨_, rfl, ?_⟩)
  refine zz_if_eq 23 dJ0_indexOf_7cf53_4 (by decide) (fun h => absurd h (by decide)) (fun _ => ?_)
  refine zz_aload_0 dJ0_indexOf_7cf53_7 ?_
  refine zz_getX (v := .ref (1000000 + 21)) (sx_v 1 (by decide)) (zz_vx _ _).symm sL_J0_9 dJ0_indexOf_7cf53_8 ?_
  refine zz_iload_1 dJ0_indexOf_7cf53_11 ?_
  refine zz_iload_2 dJ0_indexOf_7cf53_12 ?_
  refine zz_aload_0 dJ0_indexOf_7cf53_13 ?_
  refine zz_callX0i (i := 1) (by decide) cx_J0_505 (Nat.le_of_ble_eq_true rfl) (by decide) (by decide) dJ0_indexOf_7cf53_14 (t_J0_length_8abf5_1 ⟨_, rfl, ?_⟩)
  refine zz_callS4i cs_J0_637 (Nat.le_of_ble_eq_true rfl) (by decide) (by decide) dJ0_indexOf_7cf53_17 (t_J1_indexOf_4cfef_1 t ht ⟨_, rfl, ?_⟩)
  refine zz_goto 36 dJ0_indexOf_7cf53_20 (by decide) ?_
  refine zz_iret rfl dJ0_indexOf_7cf53_36 (by decide) (by decide) ?_
  exact h

set_option maxRecDepth 100000 in
set_option maxHeartbeats 4000000 in
theorem t_J0_indexOf_0f7a4_1 {C : zz_C} {d n : Nat} {g : zz_G} {r : zz_R} {Q : zz_Q} (t : Nat) (ht : t < 256) (h : Q (some (.int (if nI t = 102 then 0 else if nI t = 103 then 1 else if nI t = 119 then 2 else -1))) g r n) : zz_T C mi_J0_indexOf_0f7a4 (d + 3) 0 0 [.ref (1000000 + (10 + 1)), .int (nI t)] g r n Q := by
  refine zz_T.of [some (.ref (1000000 + (10 + 1))), some (.int (nI t))] (by decide +kernel) rfl (Nat.le_of_ble_eq_true rfl) ?_
  refine zz_aload_0 dJ0_indexOf_0f7a4_0 ?_
  refine zz_iload_1 dJ0_indexOf_0f7a4_1 ?_
  refine zz_iconst (0) dJ0_indexOf_0f7a4_2 (by decide) ?_
  refine zz_callX2i (i := 1) (by decide) cx_J0_633 (Nat.le_of_ble_eq_true rfl) (by decide) (by decide) dJ0_indexOf_0f7a4_3 (t_J0_indexOf_7cf53_1 t ht ⟨_, rfl, ?_⟩)
  refine zz_iret rfl dJ0_indexOf_0f7a4_6 (by decide) (by decide) ?_
  exact h
