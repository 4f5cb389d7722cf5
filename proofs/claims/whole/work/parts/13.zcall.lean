/-! calls -/
theorem zz_good {ws : List Cond} (h : ∀ w ∈ ws, w ∈ zz_tbl) : GoodIn zz_tbl ws := fun w hw => ⟨h w hw, good_of_word (List.mem_filter.mp (h w hw)).2⟩
theorem zz_ws_in {M : zz_M} (h : Cond.code M.1 M.2.1 M.2.2.1 M.2.2.2 ∈ zz_tbl) : ∀ w ∈ zz_ws M, w ∈ zz_tbl := fun w hw => (List.mem_cons.mp hw).elim (fun e => e ▸ h) id
def zz_notMH (y : MethodName) (n : Nat) : Prop := y.cls ≠ "java/lang/invoke/MethodHandle" ∧ y.cls ≠ "java/lang/invoke/VarHandle" ∧ (parseMethodDescriptor y.desc).map (fun d => d.parameters.length) = some n
/-- a method of a class of ours, by its own name (final, or private) -/
def zz_CV (own : String) (ix ci N na : Nat) (M : zz_M) : Prop := (Cond.methodLink own ix M.1 ∈ zz_tbl ∧ Cond.instanceMethod M.1 ∈ zz_tbl ∧ Cond.selects M.1.cls M.1 M.1 ∈ zz_tbl ∧ Cond.initialized M.1.cls ∈ zz_tbl ∧ Cond.code M.1 M.2.1 M.2.2.1 M.2.2.2 ∈ zz_tbl) ∧ zz_notMH M.1 na ∧ M.2.2.1 ≤ 21 ∧ ∃ T, vwCl[ci]? = some (M.1.cls, T, N)
/-- a static one -/
def zz_CS (own : String) (ix na : Nat) (M : zz_M) : Prop := (Cond.methodLink own ix M.1 ∈ zz_tbl ∧ Cond.static M.1 ∈ zz_tbl ∧ Cond.initialized M.1.cls ∈ zz_tbl ∧ Cond.code M.1 M.2.1 M.2.2.1 M.2.2.2 ∈ zz_tbl) ∧ zz_notMH M.1 na ∧ M.2.2.1 ≤ 21
theorem zz_room {d : Nat} {mc ms mc' ms' maxL : Nat} (h : maxL ≤ 21) : (zz_rm d mc' ms').frames + 1 ≤ (zz_rm (d + 1) mc ms).frames ∧ 8 + (maxL + 11) + (zz_rm d mc' ms').locals ≤ (zz_rm (d + 1) mc ms).locals := ⟨Nat.le_refl _, by show 8 + (maxL + 11) + 40 * d ≤ 40 * (d + 1); omega⟩
section ZC
variable {C : zz_C} {M M' : zz_M} {d mc ms mc' ms' kc ks pc : Nat} {L : List (Option Value)} {st : List Value} {g : zz_G} {r : zz_R} {n : Nat} {Q Q' : zz_Q}
variable {k ci N ix na : Nat}
theorem zz_blind {as : List Value} : FrameBlind (va_Pc (as.map (zz_v C)) (fun U => zz_W C g r n U.heap ∧ zz_K C U)) := fun a U fr mk q => ⟨q.1, q.2.1, zz_K.same (u := U) rfl q.2.2⟩
/-- behind a call -/
theorem zz_back {p : Program} {e : Env} {R : Room} {s : State} {m : MethodId} {args av : Array Value} {below : List Frame} {meth : Method} {c : Code} {H : Heap} {locs : List Loc} {cells slots : Nat} {Qw : State → Prop} {ls : Array Slot} {st0 rest : List Value}
    (hr : va_Run p C.1 e R s m args below meth c H locs cells slots mc' ms' (F0 m pc ls st0) rest (zz_end C Q' av) (zz_old C)) (hl : ∀ q ∈ locs, zz_old C q.base)
    (kk : ∀ (v : Option Value) (g' : zz_G) (r' : zz_R) (n' : Nat) (H1 : Heap) (locs1 : List Loc), Q' v g' r' n' → zz_W C g' r' n' H1 → (∀ q ∈ locs1, zz_old C q.base) → W p C.1 e R s m args below meth c H1 locs1 (cells + mc') (slots + ms') Qw (F0 m (pc + 3) ls ((v.map (zz_v C)).toList ++ rest))) : W p C.1 e R s m args below meth c H locs cells slots Qw (F0 m pc ls st0) := by
  intro T hT X
  obtain ⟨v, st₀, t, T', Lo, h0, X', hL, e1, e2, ⟨v', g', r', n', hv, hq, hw⟩, hst⟩ := hr T hT X
  cases hv
  obtain ⟨t2, a1, b1⟩ := kk v' g' r' n' T'.heap (locs ++ Lo) hq (by rw [e1]; exact hw) (t_lL hl hL) T' rfl X'
  exact ⟨t2, hst t2 a1, b1⟩
theorem zz_callVg {as : List Value} (hcl : zz_CV M.1.cls ix ci N na M') (hna : as.length = na) (hs : zz_sh k = (0, ci, N)) (hk : k < n) (hcat : (st.map fun v => v.category).sum ≤ 8) (hmc : kc + mc' ≤ mc) (hms : ks + ms' ≤ ms) (hd : decode M.2.1 pc = .ok (.invokevirtual ix, 3)) (hT : zz_T C M' d mc' ms' (.ref k :: as) g r n Q')
    (kk : ∀ v g' r' n', Q' v g' r' n' → zz_Z C M (d + 1) mc ms (kc + mc') (ks + ms') (pc + 3) L (v.toList ++ st) g' r' n' Q) : zz_Z C M (d + 1) mc ms kc ks pc L (as.reverse ++ .ref k :: st) g r n Q := by
  intro p e s m args below meth c H locs ls hF hW hl hL
  obtain ⟨⟨w1, w2, w3, w4, w5⟩, hmh, hml, T, hci⟩ := hcl
  have hst : (as.reverse ++ Value.ref k :: st).map (zz_v C) = (as.map (zz_v C)).reverse ++ .ref (zz_A C k) :: st.map (zz_v C) := by rw [List.map_append, List.map_reverse]; rfl
  rw [hst]
  refine zz_back (va_runV (C := M'.1.cls) (As := as.map (zz_v C)) (n := na) (nL := M.2.2.1) ⟨hF.1.1, hF.1.2.1, hF.1.2.2.2.2.1, hF.1.2.2.2.2.2.1, hF.2.1⟩ hT
    (cwV na hF.2.1 (zz_good fun w hw => ?_) rfl rfl rfl ⟨rfl, hmh⟩ (zz_room hml))
    ⟨zz_blind (as := .ref k :: as), ?_, fun U hU hW1 => ⟨rfl, by rw [hU]; exact hW, hF.2.2.1.warm hW1⟩⟩ rfl (by rw [List.length_map]; exact hna) hL.1 rfl (lv_room (by rw [zz_cats]; exact hcat)) hd ⟨hmc, hms⟩) hl ?_
  · rcases List.mem_append.mp hw with h | h
    · simp only [List.mem_cons, List.not_mem_nil, or_false] at h
      rcases h with rfl | rfl | rfl | rfl
      · exact w1
      · exact w2
      · exact w3
      · exact w4
    · exact zz_ws_in w5 w h
  · obtain ⟨rr, h1, cell, q1, q2, q3, -⟩ := hW.obj hk hs
    exact ⟨cell, q1, by rw [q3]; rfl, by rw [q2]; exact (hF.2.2.1.1.1 ci _ hci).2.1⟩
  · intro v g' r' n' H1 locs1 hq hW1 hl1
    have := kk v g' r' n' hq p e s m args below meth c H1 locs1 ls hF hW1 hl1 hL
    rw [List.map_append] at this
    have e2 : (v.toList).map (zz_v C) = (v.map (zz_v C)).toList := by cases v <;> rfl
    rw [e2] at this
    exact this
theorem zz_callSg {as : List Value} (hcl : zz_CS M.1.cls ix na M') (hna : as.length = na) (hcat : (st.map fun v => v.category).sum ≤ 8) (hmc : kc + mc' ≤ mc) (hms : ks + ms' ≤ ms) (hd : decode M.2.1 pc = .ok (.invokestatic ix, 3)) (hT : zz_T C M' d mc' ms' as g r n Q')
    (kk : ∀ v g' r' n', Q' v g' r' n' → zz_Z C M (d + 1) mc ms (kc + mc') (ks + ms') (pc + 3) L (v.toList ++ st) g' r' n' Q) : zz_Z C M (d + 1) mc ms kc ks pc L (as.reverse ++ st) g r n Q := by
  intro p e s m args below meth c H locs ls hF hW hl hL
  obtain ⟨⟨w1, w2, w4, w5⟩, hmh, hml⟩ := hcl
  have hst : (as.reverse ++ st).map (zz_v C) = (as.map (zz_v C)).reverse ++ st.map (zz_v C) := by rw [List.map_append, List.map_reverse]
  rw [hst]
  refine zz_back (va_runS (As := as.map (zz_v C)) (n := na) (nL := M.2.2.1) ⟨hF.1.1, hF.1.2.1, hF.1.2.2.2.2.1, hF.1.2.2.2.2.2.1, hF.2.1⟩ hT
    (va_cwS na hF.2.1 (zz_good fun w hw => ?_) rfl rfl rfl hmh (zz_room hml))
    ⟨zz_blind (as := as), fun U hU hW1 => ⟨rfl, by rw [hU]; exact hW, hF.2.2.1.warm hW1⟩⟩ rfl (by rw [List.length_map]; exact hna) hL.1 rfl (lv_room (by rw [zz_cats]; exact hcat)) hd ⟨hmc, hms⟩) hl ?_
  · rcases List.mem_append.mp hw with h | h
    · simp only [List.mem_cons, List.not_mem_nil, or_false] at h
      rcases h with rfl | rfl | rfl
      · exact w1
      · exact w2
      · exact w4
    · exact zz_ws_in w5 w h
  · intro v g' r' n' H1 locs1 hq hW1 hl1
    have := kk v g' r' n' hq p e s m args below meth c H1 locs1 ls hF hW1 hl1 hL
    rw [List.map_append] at this
    have e2 : (v.toList).map (zz_v C) = (v.map (zz_v C)).toList := by cases v <;> rfl
    rw [e2] at this
    exact this
theorem zz_callV0i (hcl : zz_CV M.1.cls ix ci N 0 M') (hs : zz_sh k = (0, ci, N)) (hk : k < n) (hcat : (st.map fun v => v.category).sum ≤ 8) (hmc : kc + mc' ≤ mc) (hms : ks + ms' ≤ ms) (hd : decode M.2.1 pc = .ok (.invokevirtual ix, 3)) (hT : zz_T C M' d mc' ms' (.ref k :: []) g r n (fun v g' r' n' => ∃ z, v = some z ∧ zz_Z C M (d + 1) mc ms (kc + mc') (ks + ms') (pc + 3) L (z :: st) g' r' n' Q)) : zz_Z C M (d + 1) mc ms kc ks pc L (.ref k :: st) g r n Q :=
  zz_callVg (as := []) hcl rfl hs hk hcat hmc hms hd hT (fun v g' r' n' h => by obtain ⟨z, rfl, h⟩ := h; exact h)
theorem zz_callV0v (hcl : zz_CV M.1.cls ix ci N 0 M') (hs : zz_sh k = (0, ci, N)) (hk : k < n) (hcat : (st.map fun v => v.category).sum ≤ 8) (hmc : kc + mc' ≤ mc) (hms : ks + ms' ≤ ms) (hd : decode M.2.1 pc = .ok (.invokevirtual ix, 3)) (hT : zz_T C M' d mc' ms' (.ref k :: []) g r n (fun v g' r' n' => v = none ∧ zz_Z C M (d + 1) mc ms (kc + mc') (ks + ms') (pc + 3) L st g' r' n' Q)) : zz_Z C M (d + 1) mc ms kc ks pc L (.ref k :: st) g r n Q :=
  zz_callVg (as := []) hcl rfl hs hk hcat hmc hms hd hT (fun v g' r' n' h => by obtain ⟨rfl, h⟩ := h; exact h)
theorem zz_callS0i (hcl : zz_CS M.1.cls ix 0 M') (hcat : (st.map fun v => v.category).sum ≤ 8) (hmc : kc + mc' ≤ mc) (hms : ks + ms' ≤ ms) (hd : decode M.2.1 pc = .ok (.invokestatic ix, 3)) (hT : zz_T C M' d mc' ms' [] g r n (fun v g' r' n' => ∃ z, v = some z ∧ zz_Z C M (d + 1) mc ms (kc + mc') (ks + ms') (pc + 3) L (z :: st) g' r' n' Q)) : zz_Z C M (d + 1) mc ms kc ks pc L st g r n Q :=
  zz_callSg (as := []) hcl rfl hcat hmc hms hd hT (fun v g' r' n' h => by obtain ⟨z, rfl, h⟩ := h; exact h)
theorem zz_callS0v (hcl : zz_CS M.1.cls ix 0 M') (hcat : (st.map fun v => v.category).sum ≤ 8) (hmc : kc + mc' ≤ mc) (hms : ks + ms' ≤ ms) (hd : decode M.2.1 pc = .ok (.invokestatic ix, 3)) (hT : zz_T C M' d mc' ms' [] g r n (fun v g' r' n' => v = none ∧ zz_Z C M (d + 1) mc ms (kc + mc') (ks + ms') (pc + 3) L st g' r' n' Q)) : zz_Z C M (d + 1) mc ms kc ks pc L st g r n Q :=
  zz_callSg (as := []) hcl rfl hcat hmc hms hd hT (fun v g' r' n' h => by obtain ⟨rfl, h⟩ := h; exact h)
theorem zz_callV1i {x1 : Value} (hcl : zz_CV M.1.cls ix ci N 1 M') (hs : zz_sh k = (0, ci, N)) (hk : k < n) (hcat : (st.map fun v => v.category).sum ≤ 8) (hmc : kc + mc' ≤ mc) (hms : ks + ms' ≤ ms) (hd : decode M.2.1 pc = .ok (.invokevirtual ix, 3)) (hT : zz_T C M' d mc' ms' (.ref k :: [x1]) g r n (fun v g' r' n' => ∃ z, v = some z ∧ zz_Z C M (d + 1) mc ms (kc + mc') (ks + ms') (pc + 3) L (z :: st) g' r' n' Q)) : zz_Z C M (d + 1) mc ms kc ks pc L (x1 :: .ref k :: st) g r n Q :=
  zz_callVg (as := [x1]) hcl rfl hs hk hcat hmc hms hd hT (fun v g' r' n' h => by obtain ⟨z, rfl, h⟩ := h; exact h)
theorem zz_callV1v {x1 : Value} (hcl : zz_CV M.1.cls ix ci N 1 M') (hs : zz_sh k = (0, ci, N)) (hk : k < n) (hcat : (st.map fun v => v.category).sum ≤ 8) (hmc : kc + mc' ≤ mc) (hms : ks + ms' ≤ ms) (hd : decode M.2.1 pc = .ok (.invokevirtual ix, 3)) (hT : zz_T C M' d mc' ms' (.ref k :: [x1]) g r n (fun v g' r' n' => v = none ∧ zz_Z C M (d + 1) mc ms (kc + mc') (ks + ms') (pc + 3) L st g' r' n' Q)) : zz_Z C M (d + 1) mc ms kc ks pc L (x1 :: .ref k :: st) g r n Q :=
  zz_callVg (as := [x1]) hcl rfl hs hk hcat hmc hms hd hT (fun v g' r' n' h => by obtain ⟨rfl, h⟩ := h; exact h)
theorem zz_callS1i {x1 : Value} (hcl : zz_CS M.1.cls ix 1 M') (hcat : (st.map fun v => v.category).sum ≤ 8) (hmc : kc + mc' ≤ mc) (hms : ks + ms' ≤ ms) (hd : decode M.2.1 pc = .ok (.invokestatic ix, 3)) (hT : zz_T C M' d mc' ms' [x1] g r n (fun v g' r' n' => ∃ z, v = some z ∧ zz_Z C M (d + 1) mc ms (kc + mc') (ks + ms') (pc + 3) L (z :: st) g' r' n' Q)) : zz_Z C M (d + 1) mc ms kc ks pc L (x1 :: st) g r n Q :=
  zz_callSg (as := [x1]) hcl rfl hcat hmc hms hd hT (fun v g' r' n' h => by obtain ⟨z, rfl, h⟩ := h; exact h)
theorem zz_callS1v {x1 : Value} (hcl : zz_CS M.1.cls ix 1 M') (hcat : (st.map fun v => v.category).sum ≤ 8) (hmc : kc + mc' ≤ mc) (hms : ks + ms' ≤ ms) (hd : decode M.2.1 pc = .ok (.invokestatic ix, 3)) (hT : zz_T C M' d mc' ms' [x1] g r n (fun v g' r' n' => v = none ∧ zz_Z C M (d + 1) mc ms (kc + mc') (ks + ms') (pc + 3) L st g' r' n' Q)) : zz_Z C M (d + 1) mc ms kc ks pc L (x1 :: st) g r n Q :=
  zz_callSg (as := [x1]) hcl rfl hcat hmc hms hd hT (fun v g' r' n' h => by obtain ⟨rfl, h⟩ := h; exact h)
theorem zz_callV2i {x1 x2 : Value} (hcl : zz_CV M.1.cls ix ci N 2 M') (hs : zz_sh k = (0, ci, N)) (hk : k < n) (hcat : (st.map fun v => v.category).sum ≤ 8) (hmc : kc + mc' ≤ mc) (hms : ks + ms' ≤ ms) (hd : decode M.2.1 pc = .ok (.invokevirtual ix, 3)) (hT : zz_T C M' d mc' ms' (.ref k :: [x1, x2]) g r n (fun v g' r' n' => ∃ z, v = some z ∧ zz_Z C M (d + 1) mc ms (kc + mc') (ks + ms') (pc + 3) L (z :: st) g' r' n' Q)) : zz_Z C M (d + 1) mc ms kc ks pc L (x2 :: x1 :: .ref k :: st) g r n Q :=
  zz_callVg (as := [x1, x2]) hcl rfl hs hk hcat hmc hms hd hT (fun v g' r' n' h => by obtain ⟨z, rfl, h⟩ := h; exact h)
theorem zz_callV2v {x1 x2 : Value} (hcl : zz_CV M.1.cls ix ci N 2 M') (hs : zz_sh k = (0, ci, N)) (hk : k < n) (hcat : (st.map fun v => v.category).sum ≤ 8) (hmc : kc + mc' ≤ mc) (hms : ks + ms' ≤ ms) (hd : decode M.2.1 pc = .ok (.invokevirtual ix, 3)) (hT : zz_T C M' d mc' ms' (.ref k :: [x1, x2]) g r n (fun v g' r' n' => v = none ∧ zz_Z C M (d + 1) mc ms (kc + mc') (ks + ms') (pc + 3) L st g' r' n' Q)) : zz_Z C M (d + 1) mc ms kc ks pc L (x2 :: x1 :: .ref k :: st) g r n Q :=
  zz_callVg (as := [x1, x2]) hcl rfl hs hk hcat hmc hms hd hT (fun v g' r' n' h => by obtain ⟨rfl, h⟩ := h; exact h)
theorem zz_callS2i {x1 x2 : Value} (hcl : zz_CS M.1.cls ix 2 M') (hcat : (st.map fun v => v.category).sum ≤ 8) (hmc : kc + mc' ≤ mc) (hms : ks + ms' ≤ ms) (hd : decode M.2.1 pc = .ok (.invokestatic ix, 3)) (hT : zz_T C M' d mc' ms' [x1, x2] g r n (fun v g' r' n' => ∃ z, v = some z ∧ zz_Z C M (d + 1) mc ms (kc + mc') (ks + ms') (pc + 3) L (z :: st) g' r' n' Q)) : zz_Z C M (d + 1) mc ms kc ks pc L (x2 :: x1 :: st) g r n Q :=
  zz_callSg (as := [x1, x2]) hcl rfl hcat hmc hms hd hT (fun v g' r' n' h => by obtain ⟨z, rfl, h⟩ := h; exact h)
theorem zz_callS2v {x1 x2 : Value} (hcl : zz_CS M.1.cls ix 2 M') (hcat : (st.map fun v => v.category).sum ≤ 8) (hmc : kc + mc' ≤ mc) (hms : ks + ms' ≤ ms) (hd : decode M.2.1 pc = .ok (.invokestatic ix, 3)) (hT : zz_T C M' d mc' ms' [x1, x2] g r n (fun v g' r' n' => v = none ∧ zz_Z C M (d + 1) mc ms (kc + mc') (ks + ms') (pc + 3) L st g' r' n' Q)) : zz_Z C M (d + 1) mc ms kc ks pc L (x2 :: x1 :: st) g r n Q :=
  zz_callSg (as := [x1, x2]) hcl rfl hcat hmc hms hd hT (fun v g' r' n' h => by obtain ⟨rfl, h⟩ := h; exact h)
theorem zz_callV3i {x1 x2 x3 : Value} (hcl : zz_CV M.1.cls ix ci N 3 M') (hs : zz_sh k = (0, ci, N)) (hk : k < n) (hcat : (st.map fun v => v.category).sum ≤ 8) (hmc : kc + mc' ≤ mc) (hms : ks + ms' ≤ ms) (hd : decode M.2.1 pc = .ok (.invokevirtual ix, 3)) (hT : zz_T C M' d mc' ms' (.ref k :: [x1, x2, x3]) g r n (fun v g' r' n' => ∃ z, v = some z ∧ zz_Z C M (d + 1) mc ms (kc + mc') (ks + ms') (pc + 3) L (z :: st) g' r' n' Q)) : zz_Z C M (d + 1) mc ms kc ks pc L (x3 :: x2 :: x1 :: .ref k :: st) g r n Q :=
  zz_callVg (as := [x1, x2, x3]) hcl rfl hs hk hcat hmc hms hd hT (fun v g' r' n' h => by obtain ⟨z, rfl, h⟩ := h; exact h)
theorem zz_callV3v {x1 x2 x3 : Value} (hcl : zz_CV M.1.cls ix ci N 3 M') (hs : zz_sh k = (0, ci, N)) (hk : k < n) (hcat : (st.map fun v => v.category).sum ≤ 8) (hmc : kc + mc' ≤ mc) (hms : ks + ms' ≤ ms) (hd : decode M.2.1 pc = .ok (.invokevirtual ix, 3)) (hT : zz_T C M' d mc' ms' (.ref k :: [x1, x2, x3]) g r n (fun v g' r' n' => v = none ∧ zz_Z C M (d + 1) mc ms (kc + mc') (ks + ms') (pc + 3) L st g' r' n' Q)) : zz_Z C M (d + 1) mc ms kc ks pc L (x3 :: x2 :: x1 :: .ref k :: st) g r n Q :=
  zz_callVg (as := [x1, x2, x3]) hcl rfl hs hk hcat hmc hms hd hT (fun v g' r' n' h => by obtain ⟨rfl, h⟩ := h; exact h)
theorem zz_callS3i {x1 x2 x3 : Value} (hcl : zz_CS M.1.cls ix 3 M') (hcat : (st.map fun v => v.category).sum ≤ 8) (hmc : kc + mc' ≤ mc) (hms : ks + ms' ≤ ms) (hd : decode M.2.1 pc = .ok (.invokestatic ix, 3)) (hT : zz_T C M' d mc' ms' [x1, x2, x3] g r n (fun v g' r' n' => ∃ z, v = some z ∧ zz_Z C M (d + 1) mc ms (kc + mc') (ks + ms') (pc + 3) L (z :: st) g' r' n' Q)) : zz_Z C M (d + 1) mc ms kc ks pc L (x3 :: x2 :: x1 :: st) g r n Q :=
  zz_callSg (as := [x1, x2, x3]) hcl rfl hcat hmc hms hd hT (fun v g' r' n' h => by obtain ⟨z, rfl, h⟩ := h; exact h)
theorem zz_callS3v {x1 x2 x3 : Value} (hcl : zz_CS M.1.cls ix 3 M') (hcat : (st.map fun v => v.category).sum ≤ 8) (hmc : kc + mc' ≤ mc) (hms : ks + ms' ≤ ms) (hd : decode M.2.1 pc = .ok (.invokestatic ix, 3)) (hT : zz_T C M' d mc' ms' [x1, x2, x3] g r n (fun v g' r' n' => v = none ∧ zz_Z C M (d + 1) mc ms (kc + mc') (ks + ms') (pc + 3) L st g' r' n' Q)) : zz_Z C M (d + 1) mc ms kc ks pc L (x3 :: x2 :: x1 :: st) g r n Q :=
  zz_callSg (as := [x1, x2, x3]) hcl rfl hcat hmc hms hd hT (fun v g' r' n' h => by obtain ⟨rfl, h⟩ := h; exact h)
theorem zz_callV4i {x1 x2 x3 x4 : Value} (hcl : zz_CV M.1.cls ix ci N 4 M') (hs : zz_sh k = (0, ci, N)) (hk : k < n) (hcat : (st.map fun v => v.category).sum ≤ 8) (hmc : kc + mc' ≤ mc) (hms : ks + ms' ≤ ms) (hd : decode M.2.1 pc = .ok (.invokevirtual ix, 3)) (hT : zz_T C M' d mc' ms' (.ref k :: [x1, x2, x3, x4]) g r n (fun v g' r' n' => ∃ z, v = some z ∧ zz_Z C M (d + 1) mc ms (kc + mc') (ks + ms') (pc + 3) L (z :: st) g' r' n' Q)) : zz_Z C M (d + 1) mc ms kc ks pc L (x4 :: x3 :: x2 :: x1 :: .ref k :: st) g r n Q :=
  zz_callVg (as := [x1, x2, x3, x4]) hcl rfl hs hk hcat hmc hms hd hT (fun v g' r' n' h => by obtain ⟨z, rfl, h⟩ := h; exact h)
theorem zz_callV4v {x1 x2 x3 x4 : Value} (hcl : zz_CV M.1.cls ix ci N 4 M') (hs : zz_sh k = (0, ci, N)) (hk : k < n) (hcat : (st.map fun v => v.category).sum ≤ 8) (hmc : kc + mc' ≤ mc) (hms : ks + ms' ≤ ms) (hd : decode M.2.1 pc = .ok (.invokevirtual ix, 3)) (hT : zz_T C M' d mc' ms' (.ref k :: [x1, x2, x3, x4]) g r n (fun v g' r' n' => v = none ∧ zz_Z C M (d + 1) mc ms (kc + mc') (ks + ms') (pc + 3) L st g' r' n' Q)) : zz_Z C M (d + 1) mc ms kc ks pc L (x4 :: x3 :: x2 :: x1 :: .ref k :: st) g r n Q :=
  zz_callVg (as := [x1, x2, x3, x4]) hcl rfl hs hk hcat hmc hms hd hT (fun v g' r' n' h => by obtain ⟨rfl, h⟩ := h; exact h)
theorem zz_callS4i {x1 x2 x3 x4 : Value} (hcl : zz_CS M.1.cls ix 4 M') (hcat : (st.map fun v => v.category).sum ≤ 8) (hmc : kc + mc' ≤ mc) (hms : ks + ms' ≤ ms) (hd : decode M.2.1 pc = .ok (.invokestatic ix, 3)) (hT : zz_T C M' d mc' ms' [x1, x2, x3, x4] g r n (fun v g' r' n' => ∃ z, v = some z ∧ zz_Z C M (d + 1) mc ms (kc + mc') (ks + ms') (pc + 3) L (z :: st) g' r' n' Q)) : zz_Z C M (d + 1) mc ms kc ks pc L (x4 :: x3 :: x2 :: x1 :: st) g r n Q :=
  zz_callSg (as := [x1, x2, x3, x4]) hcl rfl hcat hmc hms hd hT (fun v g' r' n' h => by obtain ⟨z, rfl, h⟩ := h; exact h)
theorem zz_callS4v {x1 x2 x3 x4 : Value} (hcl : zz_CS M.1.cls ix 4 M') (hcat : (st.map fun v => v.category).sum ≤ 8) (hmc : kc + mc' ≤ mc) (hms : ks + ms' ≤ ms) (hd : decode M.2.1 pc = .ok (.invokestatic ix, 3)) (hT : zz_T C M' d mc' ms' [x1, x2, x3, x4] g r n (fun v g' r' n' => v = none ∧ zz_Z C M (d + 1) mc ms (kc + mc') (ks + ms') (pc + 3) L st g' r' n' Q)) : zz_Z C M (d + 1) mc ms kc ks pc L (x4 :: x3 :: x2 :: x1 :: st) g r n Q :=
  zz_callSg (as := [x1, x2, x3, x4]) hcl rfl hcat hmc hms hd hT (fun v g' r' n' h => by obtain ⟨rfl, h⟩ := h; exact h)
theorem zz_callV5i {x1 x2 x3 x4 x5 : Value} (hcl : zz_CV M.1.cls ix ci N 5 M') (hs : zz_sh k = (0, ci, N)) (hk : k < n) (hcat : (st.map fun v => v.category).sum ≤ 8) (hmc : kc + mc' ≤ mc) (hms : ks + ms' ≤ ms) (hd : decode M.2.1 pc = .ok (.invokevirtual ix, 3)) (hT : zz_T C M' d mc' ms' (.ref k :: [x1, x2, x3, x4, x5]) g r n (fun v g' r' n' => ∃ z, v = some z ∧ zz_Z C M (d + 1) mc ms (kc + mc') (ks + ms') (pc + 3) L (z :: st) g' r' n' Q)) : zz_Z C M (d + 1) mc ms kc ks pc L (x5 :: x4 :: x3 :: x2 :: x1 :: .ref k :: st) g r n Q :=
  zz_callVg (as := [x1, x2, x3, x4, x5]) hcl rfl hs hk hcat hmc hms hd hT (fun v g' r' n' h => by obtain ⟨z, rfl, h⟩ := h; exact h)
theorem zz_callV5v {x1 x2 x3 x4 x5 : Value} (hcl : zz_CV M.1.cls ix ci N 5 M') (hs : zz_sh k = (0, ci, N)) (hk : k < n) (hcat : (st.map fun v => v.category).sum ≤ 8) (hmc : kc + mc' ≤ mc) (hms : ks + ms' ≤ ms) (hd : decode M.2.1 pc = .ok (.invokevirtual ix, 3)) (hT : zz_T C M' d mc' ms' (.ref k :: [x1, x2, x3, x4, x5]) g r n (fun v g' r' n' => v = none ∧ zz_Z C M (d + 1) mc ms (kc + mc') (ks + ms') (pc + 3) L st g' r' n' Q)) : zz_Z C M (d + 1) mc ms kc ks pc L (x5 :: x4 :: x3 :: x2 :: x1 :: .ref k :: st) g r n Q :=
  zz_callVg (as := [x1, x2, x3, x4, x5]) hcl rfl hs hk hcat hmc hms hd hT (fun v g' r' n' h => by obtain ⟨rfl, h⟩ := h; exact h)
theorem zz_callS5i {x1 x2 x3 x4 x5 : Value} (hcl : zz_CS M.1.cls ix 5 M') (hcat : (st.map fun v => v.category).sum ≤ 8) (hmc : kc + mc' ≤ mc) (hms : ks + ms' ≤ ms) (hd : decode M.2.1 pc = .ok (.invokestatic ix, 3)) (hT : zz_T C M' d mc' ms' [x1, x2, x3, x4, x5] g r n (fun v g' r' n' => ∃ z, v = some z ∧ zz_Z C M (d + 1) mc ms (kc + mc') (ks + ms') (pc + 3) L (z :: st) g' r' n' Q)) : zz_Z C M (d + 1) mc ms kc ks pc L (x5 :: x4 :: x3 :: x2 :: x1 :: st) g r n Q :=
  zz_callSg (as := [x1, x2, x3, x4, x5]) hcl rfl hcat hmc hms hd hT (fun v g' r' n' h => by obtain ⟨z, rfl, h⟩ := h; exact h)
theorem zz_callS5v {x1 x2 x3 x4 x5 : Value} (hcl : zz_CS M.1.cls ix 5 M') (hcat : (st.map fun v => v.category).sum ≤ 8) (hmc : kc + mc' ≤ mc) (hms : ks + ms' ≤ ms) (hd : decode M.2.1 pc = .ok (.invokestatic ix, 3)) (hT : zz_T C M' d mc' ms' [x1, x2, x3, x4, x5] g r n (fun v g' r' n' => v = none ∧ zz_Z C M (d + 1) mc ms (kc + mc') (ks + ms') (pc + 3) L st g' r' n' Q)) : zz_Z C M (d + 1) mc ms kc ks pc L (x5 :: x4 :: x3 :: x2 :: x1 :: st) g r n Q :=
  zz_callSg (as := [x1, x2, x3, x4, x5]) hcl rfl hcat hmc hms hd hT (fun v g' r' n' h => by obtain ⟨rfl, h⟩ := h; exact h)
end ZC
