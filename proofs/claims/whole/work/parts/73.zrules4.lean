/-! rules that make cells -/
def zz_n0 (g : zz_G) (n : Nat) : zz_G := fun a b => if a = n then 0 else g a b
def zz_nr (r : zz_R) (n : Nat) : zz_R := fun a b => if a = n then none else r a b
theorem zz_n0_row (g : zz_G) {n a : Nat} (h : a ≠ n) : zz_n0 g n a = g a := funext fun _ => if_neg h
theorem zz_nr_row (r : zz_R) {n a : Nat} (h : a ≠ n) : zz_nr r n a = r a := funext fun _ => if_neg h
theorem zz_n0_same (g : zz_G) (n b : Nat) : zz_n0 g n n b = 0 := if_pos rfl
theorem zz_nr_same (r : zz_R) (n b : Nat) : zz_nr r n n b = none := if_pos rfl
/-- where the next one lies -/
theorem zz_W.psn {C : zz_C} {g : zz_G} {r : zz_R} {n : Nat} {H : Heap} (h : zz_W C g r n H) (hn : n ≠ 38 ∨ zz_b r = 1) : zz_ps n = n + zz_b r := by
  obtain ⟨h1, h2, h3⟩ := h.2.1
  unfold zz_ps
  rcases zz_b_01 r with e | e
  · rw [e, if_pos (by have := h2 e; rcases hn with q | q <;> omega)]
    rfl
  · rw [e, if_neg (by have := h3 e; omega), if_neg (by omega)]
/-- what is made lies in the heap -/
theorem zz_W.psl {C : zz_C} {g : zz_G} {r : zz_R} {n : Nat} {H : Heap} (h : zz_W C g r n H) {k : Nat} (hk : zz_md r n k) : zz_ps k < n + zz_b r := by
  obtain ⟨h1, h2, h3⟩ := h.2.1
  unfold zz_ps
  rcases hk with q | ⟨q, e⟩
  · rcases zz_b_01 r with e | e
    · rw [e, if_pos (by have := h2 e; omega)]
      exact q
    · rw [e]
      split
      · omega
      · rw [if_neg (by omega)]
        omega
  · subst q
    rw [e, if_neg (by decide), if_pos rfl]
    have := h3 e
    omega
/-- one cell more -/
theorem zz_W.newm {C : zz_C} {g g' : zz_G} {r r' : zz_R} {n : Nat} {H H1 : Heap} (h : zz_W C g r n H) (hn : n < 900) (h38 : n ≠ 38 ∨ zz_b r = 1) (hz : H1.size = H.size + 1) (ho : ∀ q : Nat, q < H.size → H1[q]? = H[q]?) (hg : ∀ a, a ≠ n → g' a = g a) (hr : ∀ a, a ≠ n → r' a = r a) (hc : va_at C.2.2.2.1 vwCl (H.size, zz_cel C (zz_sh n) (g' n) (r' n)) H1) : zz_W C g' r' (n + 1) H1 := by
  have hsz := h.1
  have hb : zz_b r' = zz_b r := zz_b_cg (hr 998 (by omega))
  obtain ⟨h1, h2, h3⟩ := h.2.1
  refine ⟨by rw [hb, hz, hsz]; omega, ⟨by omega, fun q => ?_, fun q => ?_⟩, fun k hk => ?_, fun q hq => ?_⟩
  · rw [hb] at q
    have := h2 q
    rcases h38 with z | z <;> omega
  · rw [hb] at q
    have := h3 q
    omega
  · by_cases e : k = n
    · subst e
      rw [h.psn h38, ← hsz]
      exact hc
    · have hk' : zz_md r n k := by
        unfold zz_md at hk ⊢
        rw [hb] at hk
        omega
      have hl := h.psl hk'
      rw [hg k e, hr k e]
      exact (h.2.2.1 k hk').kept (ho _ (by show zz_S C + zz_ps k < H.size; omega))
  · rw [ho q (by omega)]
    exact h.2.2.2 q hq
theorem zz_W.new {C : zz_C} {g g' : zz_G} {r r' : zz_R} {n : Nat} {H H1 : Heap} (h : zz_W C g r n H) (hn : n < 900 ∧ n ≠ 38) (hz : H1.size = H.size + 1) (ho : ∀ q : Nat, q < H.size → H1[q]? = H[q]?) (hg : ∀ a, a ≠ n → g' a = g a) (hr : ∀ a, a ≠ n → r' a = r a) (hc : va_at C.2.2.2.1 vwCl (H.size, zz_cel C (zz_sh n) (g' n) (r' n)) H1) : zz_W C g' r' (n + 1) H1 := by
  exact h.newm hn.1 (Or.inl hn.2) hz ho hg hr hc
theorem zz_A_new {C : zz_C} {g : zz_G} {r : zz_R} {n : Nat} {H : Heap} (h : zz_W C g r n H) (hn : n ≠ 38 ∨ zz_b r = 1) : zz_A C n = H.size := by
  rw [zz_low (by have := h.2.1.1; omega), h.1, zz_W.psn h hn]
section ZN
variable {C : zz_C} {M M' : zz_M} {d mc ms mc' ms' kc ks pc : Nat} {L : List (Option Value)} {st : List Value} {g : zz_G} {r : zz_R} {n : Nat} {Q Q' : zz_Q}
variable {x : Int32} {a k j ci N N' ix na : Nat}
theorem zz_stn {H : Heap} (h : zz_W C g r n H) (hn : n ≠ 38 ∨ zz_b r = 1) : (Value.ref n :: st).map (zz_v C) = .ref H.size :: st.map (zz_v C) := by
  rw [← zz_A_new h hn]
  rfl
theorem zz_newI (h0 : ¬ x < 0) (hx : x.toNatClampNeg = N) (hN : N ≤ 1000) (hn : n < 900 ∧ n ≠ 38) (hs : zz_sh n = (1, 0, N)) (hac : Cond.arrayClass .int ∈ zz_tbl) (hmc : kc + 1 ≤ mc) (hms : ks + N ≤ ms) (hd : decode M.2.1 pc = .ok (.newarray .int, 2)) (kk : zz_Z C M d mc ms (kc + 1) (ks + N) (pc + 2) L (.ref n :: st) (zz_n0 g n) r (n + 1) Q) : zz_Z C M d mc ms kc ks pc L (.int x :: st) g r n Q := by
  intro p e s m args below meth c H locs ls hF hW hl hL
  refine va_newaK (atype := .int) hF.1.1 hF.1.2.1 (hF.2.1 _ hac) rfl hd rfl h0 hx (by show N * 4 ≤ 536870912; omega) hmc hms rfl fun H1 cA e1 z1 o1 hAr hNm => ?_
  have hcA : C.2.2.2.2 0 = cA := Option.some.inj ((show s.vm.findClass _ = some (C.2.2.2.2 0) from (hF.2.2.1.1.2 0 _ rfl).2).symm.trans hNm)
  have hW1 : zz_W C (zz_n0 g n) r (n + 1) H1 := by
    refine hW.new hn z1 o1 (fun a ha => zz_n0_row g ha) (fun _ _ => rfl) ?_
    rw [hs]
    show H1[H.size]? = some (arrV (C.2.2.2.2 0) N (fun i => .int (zz_n0 g n n i)))
    rw [hcA, show (fun i => Value.int (zz_n0 g n n i)) = fun _ => Value.int 0 from funext fun i => by rw [zz_n0_same]]
    exact e1
  have h := kk p e s m args below meth c H1 locs ls hF hW1 hl hL
  rw [zz_stn hW (Or.inl hn.2)] at h
  exact h
theorem zz_newOm {Cn : String} {T : u_T} {ty : Nat → FieldType} (hcf : zz_CF ci Cn T N ty) (hdv : ∀ j, j < N → defaultValue (ty j) = if zz_fr ci j = true then .null else .int 0) (hcl : Cond.classLink M.1.cls ix Cn ∈ zz_tbl) (hin : Cond.instantiable Cn N ∈ zz_tbl) (hini : Cond.initialized Cn ∈ zz_tbl) (hn : n < 900) (h38 : n ≠ 38 ∨ zz_b r = 1) (hs : zz_sh n = (0, ci, N)) (hmc : kc + 1 ≤ mc) (hms : ks + N ≤ ms) (hd : decode M.2.1 pc = .ok (.new ix, 3)) (kk : zz_Z C M d mc ms (kc + 1) (ks + N) (pc + 3) L (.ref n :: st) (zz_n0 g n) (zz_nr r n) (n + 1) Q) : zz_Z C M d mc ms kc ks pc L st g r n Q := by
  intro p e s m args below meth c H locs ls hF hW hl hL
  obtain ⟨hc, hinw, hty, hnm⟩ := hcf
  have hKn := hF.2.2.1.1.1 ci _ hc
  refine W.newcK hF.1.1 hF.1.2.1 hF.1.2.2.2.2.2.1 (hF.2.1 _ hcl) (hF.2.1 _ hin) (hF.2.1 _ hini) rfl hd hmc hms hKn.2.1 rfl fun H1 kC hkC e1 z1 o1 => ?_
  have hW1 : zz_W C (zz_n0 g n) (zz_nr r n) (n + 1) H1 := by
    refine hW.newm hn h38 z1 o1 (fun a ha => zz_n0_row g ha) (fun a ha => zz_nr_row r ha) ?_
    rw [hs]
    refine ⟨_, hc, (u_born ty hF.2.1 hinw hKn hkC e1 hty).to fun j hj => ?_⟩
    rw [hdv j hj]
    show _ = vp_V ((List.range N).map fun j => zz_fv C (zz_fr ci j) (zz_n0 g n n j) (zz_nr r n n j)) j
    simp only [vp_V, List.getD_eq_getElem?_getD, zz_range _ hj, Option.getD_some, zz_fv, zz_n0_same, zz_nr_same]
    rfl
  have h := kk p e s m args below meth c H1 locs ls hF hW1 hl hL
  rw [zz_stn hW h38] at h
  exact h
theorem zz_newO {Cn : String} {T : u_T} {ty : Nat → FieldType} (hcf : zz_CF ci Cn T N ty) (hdv : ∀ j, j < N → defaultValue (ty j) = if zz_fr ci j = true then .null else .int 0) (hcl : Cond.classLink M.1.cls ix Cn ∈ zz_tbl) (hin : Cond.instantiable Cn N ∈ zz_tbl) (hini : Cond.initialized Cn ∈ zz_tbl) (hn : n < 900 ∧ n ≠ 38) (hs : zz_sh n = (0, ci, N)) (hmc : kc + 1 ≤ mc) (hms : ks + N ≤ ms) (hd : decode M.2.1 pc = .ok (.new ix, 3)) (kk : zz_Z C M d mc ms (kc + 1) (ks + N) (pc + 3) L (.ref n :: st) (zz_n0 g n) (zz_nr r n) (n + 1) Q) : zz_Z C M d mc ms kc ks pc L st g r n Q :=
  zz_newOm hcf hdv hcl hin hini hn.1 (Or.inl hn.2) hs hmc hms hd kk
/-- the Reader's bytes: made behind cell 37, ahead of cell 38 -/
theorem zz_newB (hn : n = 38) (hb : zz_b r = 0) (h0 : ¬ x < 0) (hx : x.toNatClampNeg = 50) (hac : Cond.arrayClass .int ∈ zz_tbl) (hmc : kc + 1 ≤ mc) (hms : ks + 50 ≤ ms) (hd : decode M.2.1 pc = .ok (.newarray .int, 2)) (kk : zz_Z C M d mc ms (kc + 1) (ks + 50) (pc + 2) L (.ref 999 :: st) (zz_n0 g 999) (zz_ur r 998 0 (some 0)) n Q) : zz_Z C M d mc ms kc ks pc L (.int x :: st) g r n Q := by
  intro p e s m args below meth c H locs ls hF hW hl hL
  refine va_newaK (atype := .int) hF.1.1 hF.1.2.1 (hF.2.1 _ hac) rfl hd rfl h0 hx (by decide) hmc hms rfl fun H1 cA e1 z1 o1 hAr hNm => ?_
  have hcA : C.2.2.2.2 0 = cA := Option.some.inj ((show s.vm.findClass _ = some (C.2.2.2.2 0) from (hF.2.2.1.1.2 0 _ rfl).2).symm.trans hNm)
  have hsz := hW.1
  have hb1 : zz_b (zz_ur r 998 0 (some 0)) = 1 := zz_b_1 (x := 0) (if_pos ⟨rfl, rfl⟩)
  have hsz1 : zz_S C + 38 = H.size := by rw [hsz, hb, hn]
  have hW1 : zz_W C (zz_n0 g 999) (zz_ur r 998 0 (some 0)) n H1 := by
    refine ⟨by rw [hb1, z1, hsz, hb]; rfl, ⟨by omega, fun q => by rw [hb1] at q; exact absurd q (by decide), fun _ => by omega⟩, fun k hk => ?_, fun q hq => ?_⟩
    · by_cases e9 : k = 999
      · subst e9
        show H1[zz_S C + 38]? = some (arrV (C.2.2.2.2 0) 50 (fun i => .int (zz_n0 g 999 999 i)))
        rw [hcA, show (fun i => Value.int (zz_n0 g 999 999 i)) = fun _ => Value.int 0 from funext fun i => by rw [zz_n0_same], hsz1]
        exact e1
      · have hk' : zz_md r n k := by
          rcases hk with q | q
          · exact Or.inl q
          · exact absurd q.1 e9
        have hd9 := hW.dom hk'
        have hl9 := hW.psl hk'
        rw [zz_n0_row g e9, zz_ur_row r (some 0) (by omega)]
        exact (hW.2.2.1 k hk').kept (o1 _ (by show zz_S C + zz_ps k < H.size; omega))
    · rw [o1 q (by omega)]
      exact hW.2.2.2 q hq
  have h := kk p e s m args below meth c H1 locs ls hF hW1 hl hL
  have ha : (Value.ref 999 :: st).map (zz_v C) = .ref H.size :: st.map (zz_v C) := by
    rw [← hsz1]
    rfl
  rw [ha] at h
  exact h
/-- arrays of references: 1 Text, 2 Way -/
theorem zz_newR {Cn : String} {tk : Nat} (htk : (tk = 1 ∧ Cn = "SixFigures$Text") ∨ (tk = 2 ∧ Cn = "SixFigures$Way")) (h0 : ¬ x < 0) (hx : x.toNatClampNeg = N) (hN : N ≤ 1000) (hcl : Cond.classLink M.1.cls ix Cn ∈ zz_tbl) (hn : n < 900 ∧ n ≠ 38) (hs : zz_sh n = (2, tk, N)) (hmc : kc + 1 ≤ mc) (hms : ks + N ≤ ms) (hd : decode M.2.1 pc = .ok (.anewarray ix, 3)) (kk : zz_Z C M d mc ms (kc + 1) (ks + N) (pc + 3) L (.ref n :: st) g (zz_nr r n) (n + 1) Q) : zz_Z C M d mc ms kc ks pc L (.int x :: st) g r n Q := by
  intro p e s m args below meth c H locs ls hF hW hl hL
  subst hx
  have hAO : va_AO Cn s := by
    rcases htk with ⟨-, q⟩ | ⟨-, q⟩ <;> subst q
    · exact hF.2.2.1.2.2.2.1.1
    · exact hF.2.2.1.2.2.2.1.2
  have hcl2 : s.vm.findClass ("[" ++ (FieldType.object Cn).toString) = some (C.2.2.2.2 tk) := by
    rcases htk with ⟨q1, q⟩ | ⟨q1, q⟩ <;> subst q <;> subst q1
    · obtain ⟨_, _, -, -, -, h⟩ := (hF.2.2.1.1.2 1 _ rfl).2
      exact h
    · obtain ⟨_, _, -, -, -, h⟩ := (hF.2.2.1.1.2 2 _ rfl).2
      exact h
  refine W.anew hF.1.1 hF.1.2.1 hF.1.2.2.2.2.2.1 (hF.2.1 _ hcl) (va_AO.use hAO) rfl hd rfl h0 (by omega) hmc hms fun cA kA comp f1 f2 f3 f4 => ?_
  have hcA : C.2.2.2.2 tk = cA := Option.some.inj (hcl2.symm.trans f1)
  generalize hH1 : H.push ({ cls := cA, slots := Array.replicate x.toNatClampNeg .null, vm := .none } : Cell) = H1
  have z1 : H1.size = H.size + 1 := by rw [← hH1, Array.size_push]
  have e1 : H1[H.size]? = some (arrV cA x.toNatClampNeg (fun _ => .null)) := by rw [← hH1, Array.getElem?_push_size, ← arrV_new]
  have o1 : ∀ q : Nat, q < H.size → H1[q]? = H[q]? := fun q hq => by rw [← hH1, Array.getElem?_push, if_neg (Nat.ne_of_lt hq)]
  have hW1 : zz_W C g (zz_nr r n) (n + 1) H1 := by
    refine hW.new hn z1 o1 (fun _ _ => rfl) (fun a ha => zz_nr_row r ha) ?_
    rw [hs]
    show H1[H.size]? = some (arrV (C.2.2.2.2 tk) x.toNatClampNeg (fun i => va_rf ((zz_nr r n n i).map (zz_A C))))
    rw [hcA, show (fun i => va_rf ((zz_nr r n n i).map (zz_A C))) = fun _ => Value.null from funext fun i => by rw [zz_nr_same]; rfl]
    exact e1
  have h := kk p e s m args below meth c H1 locs ls hF hW1 hl hL
  rw [zz_stn hW (Or.inl hn.2)] at h
  exact h
/-- a reference into an array of references -/
theorem zz_aastg {tk : Nat} {i : Int32} (j : Nat) (ej : i = nI j) (hlt : j < N) (hN : N ≤ 1000) (hs : zz_sh k = (2, tk, N)) (hk : k < n)
    (hv : ∀ (s : State) (H : Heap), zz_K C s → zz_W C g r n H → ∃ (cv : Cell) (kv kA kcomp : Class) (comp : ClassId) (t : FieldType), H[zz_A C a]? = some cv ∧ (∀ q, cv.vm ≠ .statics q) ∧ s.vm.classes[cv.cls]? = some kv ∧ s.vm.classes[C.2.2.2.2 tk]? = some kA ∧ kA.kind = .array comp t ∧ t.isReference = true ∧ s.vm.classes[comp]? = some kcomp ∧ s.vm.assignable cv.cls comp = true)
    (hd : decode M.2.1 pc = .ok (.aastore, 1)) (kk : zz_Z C M d mc ms kc ks (pc + 1) L st g (zz_ur r k j (some a)) n Q) : zz_Z C M d mc ms kc ks pc L (.ref a :: .int i :: .ref k :: st) g r n Q := by
  intro p e s m args below meth c H locs ls hF hW hl hL
  obtain ⟨cv, kv, kA, kcomp, comp, t, v1, v2, v3, v4, v5, v6, v7, v8⟩ := hv s H hF.2.2.1 hW
  have hold : zz_old C (zz_A C k) := by rw [hW.low hk]; exact Nat.le_add_right _ _
  have hj : i.toNatClampNeg = j := by rw [ej]; exact ix_w (by omega)
  have h0 : ¬ i < 0 := by rw [ej]; exact nI_pos (by omega)
  refine W.aast (v := zz_A C a) hF.1.1 hF.1.2.1 (hW.refs hk hs) (fun q h => by cases h) (fun h => by cases h) v4 v5 v6 v7 ⟨h0, by rw [arrV_size, hj]; exact hlt⟩ v1 v2 v3 v8 rfl rfl hd fun H' e1 e2 e3 => ?_
  refine kk p e s m args below meth c H' _ ls hF (hW.put hk e2 e3 (fun _ _ => rfl) (fun b h => zz_ur_row r (some a) h) ?_) (t_lc hl hold) hL
  rw [hs]
  show H'[zz_A C k]? = some (arrV (C.2.2.2.2 tk) N (fun i => va_rf ((zz_ur r k j (some a) k i).map (zz_A C))))
  rw [e1, hj, arrV_store]
  congr 2
  funext q
  by_cases hq : q = j
  · subst hq
    simp [updV, zz_ur, va_rf]
  · simp [updV, hq, zz_ur]
/-- a row of ints into rows -/
theorem zz_aast3 {i : Int32} (j : Nat) (ej : i = nI j) (hlt : j < N) (hN : N ≤ 1000) (hs : zz_sh k = (2, 3, N)) (hk : k < n) (hsa : zz_sh a = (1, 0, N')) (ha : a < n) (hd : decode M.2.1 pc = .ok (.aastore, 1)) (kk : zz_Z C M d mc ms kc ks (pc + 1) L st g (zz_ur r k j (some a)) n Q) : zz_Z C M d mc ms kc ks pc L (.ref a :: .int i :: .ref k :: st) g r n Q := by
  refine zz_aastg j ej hlt hN hs hk (fun s H hK hW => ?_) hd kk
  obtain ⟨comp, cA, kA, f1, f2, f3, f4⟩ := hK.2.2.2.2.1
  have e3 : C.2.2.2.2 3 = cA := Option.some.inj ((show s.vm.findClass _ = some (C.2.2.2.2 3) from (hK.1.2 3 _ rfl).2).symm.trans f2)
  have e0 : C.2.2.2.2 0 = comp := Option.some.inj ((show s.vm.findClass _ = some (C.2.2.2.2 0) from (hK.1.2 0 _ rfl).2).symm.trans f1)
  obtain ⟨-, kv, hkv, -⟩ := (hK.1.2 0 _ rfl).1 N' (fun j => .int (g a j))
  refine ⟨_, kv, kA, kv, comp, .array .int, hW.ints ha hsa, (fun q h => by cases h), hkv, by rw [e3]; exact f3, f4, rfl, by rw [← e0]; exact hkv, ?_⟩
  show s.vm.assignable (C.2.2.2.2 0) comp = true
  rw [e0]
  exact va_asg _ _
theorem zz_aastT {i : Int32} (j : Nat) (ej : i = nI j) (hlt : j < N) (hN : N ≤ 1000) (hs : zz_sh k = (2, 1, N)) (hk : k < n) (hsa : zz_sh a = (0, 8, 2)) (ha : a < n) (hd : decode M.2.1 pc = .ok (.aastore, 1)) (kk : zz_Z C M d mc ms kc ks (pc + 1) L st g (zz_ur r k j (some a)) n Q) : zz_Z C M d mc ms kc ks pc L (.ref a :: .int i :: .ref k :: st) g r n Q := by
  refine zz_aastg j ej hlt hN hs hk (fun s H hK hW => ?_) hd kk
  obtain ⟨kA, comp, k1, k2, k3, -⟩ := (hK.1.2 1 _ rfl).2
  obtain ⟨kE, hkE, -⟩ := Vm.findClass_spec k3
  obtain ⟨rr, h1, cell, q1, q2, q3, -⟩ := hW.obj ha hsa
  have hcls := (hK.1.1 8 _ rfl).2
  obtain ⟨kC, hkC, -⟩ := hcls.2
  refine ⟨cell, kC, kA, kE, comp, .object "SixFigures$Text", q1, (fun q h => by rw [q3] at h; cases h), by rw [q2]; exact hkC, k1, k2, rfl, hkE, ?_⟩
  rw [q2]
  exact vb_asgS _ _ k3 hcls.1
theorem zz_aastW {Cn : String} {T : u_T} {i : Int32} (j : Nat) (ej : i = nI j) (hlt : j < N) (hN : N ≤ 1000) (hs : zz_sh k = (2, 2, N)) (hk : k < n) (hci : vwCl[ci]? = some (Cn, T, 0)) (hin : Cn = "SixFigures$Way" ∨ Cn ∈ zz_cst) (hsa : zz_sh a = (0, ci, 0)) (ha : a < n) (hd : decode M.2.1 pc = .ok (.aastore, 1)) (kk : zz_Z C M d mc ms kc ks (pc + 1) L st g (zz_ur r k j (some a)) n Q) : zz_Z C M d mc ms kc ks pc L (.ref a :: .int i :: .ref k :: st) g r n Q := by
  refine zz_aastg j ej hlt hN hs hk (fun s H hK hW => ?_) hd kk
  obtain ⟨kA, comp, k1, k2, k3, -⟩ := (hK.1.2 2 _ rfl).2
  obtain ⟨kE, hkE, -⟩ := Vm.findClass_spec k3
  obtain ⟨rr, h1, cell, q1, q2, q3, -⟩ := hW.obj ha hsa
  have hcls := (hK.1.1 ci _ hci).2
  obtain ⟨kC, hkC, -⟩ := hcls.2
  refine ⟨cell, kC, kA, kE, comp, .object "SixFigures$Way", q1, (fun q h => by rw [q3] at h; cases h), by rw [q2]; exact hkC, k1, k2, rfl, hkE, ?_⟩
  rw [q2]
  rcases hin with h | h
  · subst h
    exact vb_asgS _ _ k3 hcls.1
  · exact vb_asgC (hK.2.2.2.2.2.1 _ h) _ _ k3 hcls.1
/-- a constructor of a nest mate -/
def zz_CI (own : String) (ix na : Nat) (M : zz_M) : Prop := (own, ix, M.1) ∈ zz_nest ∧ (Cond.instanceMethod M.1 ∈ zz_tbl ∧ Cond.initialized M.1.cls ∈ zz_tbl ∧ Cond.code M.1 M.2.1 M.2.2.1 none ∈ zz_tbl) ∧ zz_notMH M.1 na ∧ M.2.2.1 ≤ 21 ∧ M.1.name = "<init>" ∧ M.2.2.2 = none
/-- one by its plain name -/
def zz_CJ (own : String) (ix na : Nat) (M : zz_M) : Prop := (Cond.methodLink own ix M.1 ∈ zz_tbl ∧ Cond.instanceMethod M.1 ∈ zz_tbl ∧ Cond.initialized M.1.cls ∈ zz_tbl ∧ Cond.code M.1 M.2.1 M.2.2.1 none ∈ zz_tbl) ∧ zz_notMH M.1 na ∧ M.2.2.1 ≤ 21 ∧ M.1.name = "<init>" ∧ M.2.2.2 = none
theorem zz_callIg {as : List Value} (hcl : zz_CI M.1.cls ix na M' ∨ zz_CJ M.1.cls ix na M') (hna : as.length = na) (hcat : (st.map fun v => v.category).sum ≤ 8) (hmc : kc + mc' ≤ mc) (hms : ks + ms' ≤ ms) (hd : decode M.2.1 pc = .ok (.invokespecial ix, 3)) (hT : zz_T C M' d mc' ms' (.ref k :: as) g r n Q')
    (kk : ∀ v g' r' n', Q' v g' r' n' → zz_Z C M (d + 1) mc ms (kc + mc') (ks + ms') (pc + 3) L (v.toList ++ st) g' r' n' Q) : zz_Z C M (d + 1) mc ms kc ks pc L (as.reverse ++ .ref k :: st) g r n Q := by
  intro p e s m args below meth c H locs ls hF hW hl hL
  have hst : (as.reverse ++ Value.ref k :: st).map (zz_v C) = (as.map (zz_v C)).reverse ++ .ref (zz_A C k) :: st.map (zz_v C) := by rw [List.map_append, List.map_reverse]; rfl
  rw [hst]
  have hrun : va_Run p C.1 e (zz_rm (d + 1) mc ms) s m args below meth c H locs kc ks mc' ms' (F0 m pc ls ((as.map (zz_v C)).reverse ++ .ref (zz_A C k) :: st.map (zz_v C))) (st.map (zz_v C)) (zz_end C Q' (Value.ref (zz_A C k) :: as.map (zz_v C)).toArray) (zz_old C) := by
    rcases hcl with ⟨hnest, ⟨w2, w4, w5⟩, hmh, hml, hnm, hret⟩ | ⟨⟨w1, w2, w4, w5⟩, hmh, hml, hnm, hret⟩
    · have hw : zz_ws M' = Cond.code M'.1 M'.2.1 M'.2.2.1 none :: zz_tbl := by rw [zz_ws, hret]
      exact va_runIN (As := as.map (zz_v C)) (n := na) (nL := M.2.2.1) ⟨hF.1.1, hF.1.2.1, hF.1.2.2.2.2.1, hF.1.2.2.2.2.2.1, hF.2.1⟩ hT
        ⟨va_cnB na hF.2.1 (zz_good (zz_ws_in (by rw [hret]; exact w5))) hw rfl rfl (hF.2.2.1.2.1 _ hnest) (hF.2.1 _ w4) hmh (zz_room hml), hnm, hF.2.1 _ w2⟩
        ⟨zz_blind (as := .ref k :: as), fun U hU hW1 => ⟨rfl, by rw [hU]; exact hW, hF.2.2.1.warm hW1⟩⟩ rfl (by rw [List.length_map]; exact hna) hL.1 rfl (lv_room (by rw [zz_cats]; exact hcat)) hd ⟨hmc, hms⟩
    · have hw : zz_ws M' = Cond.code M'.1 M'.2.1 M'.2.2.1 none :: zz_tbl := by rw [zz_ws, hret]
      exact va_runI (As := as.map (zz_v C)) (n := na) (nL := M.2.2.1) ⟨hF.1.1, hF.1.2.1, hF.1.2.2.2.2.1, hF.1.2.2.2.2.2.1, hF.2.1⟩ hT
        (cwI na hF.2.1 (zz_good (zz_ws_in (by rw [hret]; exact w5))) hw rfl rfl (hF.2.1 _ w4) (hF.2.1 _ w1) (hF.2.1 _ w2) hnm hmh (zz_room hml))
        ⟨zz_blind (as := .ref k :: as), fun U hU hW1 => ⟨rfl, by rw [hU]; exact hW, hF.2.2.1.warm hW1⟩⟩ rfl (by rw [List.length_map]; exact hna) hL.1 rfl (lv_room (by rw [zz_cats]; exact hcat)) hd ⟨hmc, hms⟩
  refine zz_back hrun hl ?_
  intro v g' r' n' H1 locs1 hq hW1 hl1
  have := kk v g' r' n' hq p e s m args below meth c H1 locs1 ls hF hW1 hl1 hL
  rw [List.map_append] at this
  have e2 : (v.toList).map (zz_v C) = (v.map (zz_v C)).toList := by cases v <;> rfl
  rw [e2] at this
  exact this
theorem zz_callI0 (hcl : zz_CI M.1.cls ix 0 M' ∨ zz_CJ M.1.cls ix 0 M') (hcat : (st.map fun v => v.category).sum ≤ 8) (hmc : kc + mc' ≤ mc) (hms : ks + ms' ≤ ms) (hd : decode M.2.1 pc = .ok (.invokespecial ix, 3)) (hT : zz_T C M' d mc' ms' [.ref k] g r n (fun v g' r' n' => v = none ∧ zz_Z C M (d + 1) mc ms (kc + mc') (ks + ms') (pc + 3) L st g' r' n' Q)) : zz_Z C M (d + 1) mc ms kc ks pc L (.ref k :: st) g r n Q :=
  zz_callIg (as := []) hcl rfl hcat hmc hms hd hT fun v g' r' n' h => by rw [h.1]; exact h.2
theorem zz_callI1 {x1 : Value} (hcl : zz_CI M.1.cls ix 1 M' ∨ zz_CJ M.1.cls ix 1 M') (hcat : (st.map fun v => v.category).sum ≤ 8) (hmc : kc + mc' ≤ mc) (hms : ks + ms' ≤ ms) (hd : decode M.2.1 pc = .ok (.invokespecial ix, 3)) (hT : zz_T C M' d mc' ms' [.ref k, x1] g r n (fun v g' r' n' => v = none ∧ zz_Z C M (d + 1) mc ms (kc + mc') (ks + ms') (pc + 3) L st g' r' n' Q)) : zz_Z C M (d + 1) mc ms kc ks pc L (x1 :: .ref k :: st) g r n Q :=
  zz_callIg (as := [x1]) hcl rfl hcat hmc hms hd hT fun v g' r' n' h => by rw [h.1]; exact h.2
/-- java.lang.Object's -/
theorem zz_objI (hlink : Cond.methodLink M.1.cls ix Lib.objectInit ∈ zz_tbl) (hinst : Cond.instanceMethod Lib.objectInit ∈ zz_tbl) (hcode : Cond.code Lib.objectInit ⟨#[0xb1]⟩ 1 none ∈ zz_tbl) (hcat : (st.map fun v => v.category).sum ≤ 8) (hd : decode M.2.1 pc = .ok (.invokespecial ix, 3)) (kk : zz_Z C M (d + 1) mc ms kc ks (pc + 3) L st g r n Q) : zz_Z C M (d + 1) mc ms kc ks pc L (.ref k :: st) g r n Q := by
  intro p e s m args below meth c H locs ls hF hW hl hL
  exact W.objInit hF.1.1 hF.1.2.1 hF.1.2.2.2.2.2.1 (hF.2.1 _ hlink) (hF.2.1 _ hinst) (hF.2.1 _ hcode) rfl (by rw [hF.1.2.2.2.2.1]; exact hL.1) rfl hd (by show 1 ≤ d + 1; omega) (by
    have h := lv_room (m := m) (pc := pc) (ls := ls) (rest := []) (st := st.map (zz_v C)) (by rw [zz_cats]; exact hcat)
    show 2 * (F0 m pc ls _).monitorRoom + _ + 12 ≤ 40 * (d + 1)
    have h2 : 2 * (F0 m pc ls ([] : List Value)).monitorRoom + ((st.map (zz_v C)).map fun v => v.category).sum ≤ 8 := h
    have h3 : 2 * (F0 m pc ls ((Value.ref k :: st).map (zz_v C))).monitorRoom + ((st.map (zz_v C)).map fun v => v.category).sum ≤ 8 := h2
    omega) (kk p e s m args below meth c H locs ls hF hW hl hL)
end ZN
/-! rows of rows, made at once -/
def zm_o (cA : ClassId) (h N i : Nat) : Cell := arrV cA N (fun j => if j < i then .ref (h + 1 + j) else .null)
def zm_s (U : State) (cA comp : ClassId) (N K : Nat) : Nat → State
  | 0 => U.pushCell (zm_o cA U.heap.size N 0)
  | i + 1 => ((zm_s U cA comp N K i).pushCell (arrV comp K (fun _ => .int 0))).setCell U.heap.size (zm_o cA U.heap.size N (i + 1))
theorem zm_o_s (cA : ClassId) (h N i : Nat) : (zm_o cA h N i).setSlot i (.ref (h + 1 + i)) = zm_o cA h N (i + 1) := by
  unfold zm_o
  rw [arrV_store]
  congr 1
  funext j
  unfold updV
  by_cases e : j = i
  · subst e
    rw [if_pos rfl, if_pos (by omega)]
  · rw [if_neg e]
    show (if j < i then Value.ref (h + 1 + j) else .null) = _
    by_cases q : j < i
    · rw [if_pos q, if_pos (by omega)]
    · rw [if_neg q, if_neg (by omega)]
theorem zm_top (U : State) (f : JFrame) (cA comp : ClassId) (N K : Nat) : ∀ i, zm_s (U.setTop f) cA comp N K i = (zm_s U cA comp N K i).setTop f
  | 0 => rfl
  | i + 1 => by
    rw [zm_s, zm_top U f cA comp N K i, zm_s]
    rfl
theorem zm_f (U : State) (cA comp : ClassId) (N K : Nat) : ∀ i, (zm_s U cA comp N K i).heap.size = U.heap.size + 1 + i ∧ (zm_s U cA comp N K i).heap[U.heap.size]? = some (zm_o cA U.heap.size N i) ∧ (zm_s U cA comp N K i).vm = U.vm ∧ (zm_s U cA comp N K i).slotsUsed = U.slotsUsed + N + i * K ∧
    (∀ q : Nat, q < U.heap.size → (zm_s U cA comp N K i).heap[q]? = U.heap[q]?) ∧ ∀ j, j < i → (zm_s U cA comp N K i).heap[U.heap.size + 1 + j]? = some (arrV comp K (fun _ => .int 0))
  | 0 => by
    refine ⟨by simp [zm_s], by simp [zm_s], rfl, ?_, fun q hq => ?_, fun j hj => absurd hj (Nat.not_lt_zero _)⟩
    · simp only [zm_s, State.slotsUsed_pushCell, zm_o, arrV_size]
      omega
    · exact State.heap_pushCell_of_lt _ _ hq
  | i + 1 => by
    obtain ⟨f1, f2, f3, f4, f5, f6⟩ := zm_f U cA comp N K i
    have hlt : U.heap.size < (zm_s U cA comp N K i).heap.size := by omega
    have hb : ((zm_s U cA comp N K i).pushCell (arrV comp K (fun _ => .int 0))).heap[U.heap.size]? = some (zm_o cA U.heap.size N i) := by
      rw [State.heap_pushCell_of_lt (h := hlt)]
      exact f2
    refine ⟨?_, State.heap_setCell_self hb, f3, ?_, fun q hq => ?_, fun j hj => ?_⟩
    · show (((zm_s U cA comp N K i).pushCell _).heap.setIfInBounds _ _).size = _
      rw [Array.size_setIfInBounds, State.heap_pushCell, Array.size_push, f1]
      rfl
    · show ((zm_s U cA comp N K i).pushCell _).slotsUsed = _
      rw [State.slotsUsed_pushCell, f4, arrV_size, Nat.succ_mul]
      omega
    · show (State.setCell _ _ _).heap[q]? = _
      have hq2 : q < (zm_s U cA comp N K i).heap.size := by omega
      rw [State.heap_setCell_other (Nat.ne_of_gt hq), State.heap_pushCell_of_lt (h := hq2)]
      exact f5 q hq
    · show (State.setCell _ _ _).heap[U.heap.size + 1 + j]? = _
      rw [State.heap_setCell_other (show U.heap.size ≠ U.heap.size + 1 + j by omega)]
      rcases Nat.lt_or_ge j i with q | q
      · have hq2 : U.heap.size + 1 + j < (zm_s U cA comp N K i).heap.size := by omega
        rw [State.heap_pushCell_of_lt (h := hq2)]
        exact f6 j q
      · obtain rfl : j = i := by omega
        rw [← f1]
        exact State.heap_pushCell_size _ _
theorem zm_stand {p : Program} {l : Launch} {e : Env} {R : Room} {s : State} {m : MethodId} {args : Array Value} {below : List Frame} {meth : Method} {c : Code} {T : State} {locs : List Loc} {cells slots : Nat} (X : Stand p l e R s m args below meth c T locs cells slots) (cA comp : ClassId) (N K : Nat) :
    ∀ i, ∃ L : List Loc, (∀ q ∈ L, q.base = T.heap.size) ∧ Stand p l e R s m args below meth c (zm_s T cA comp N K i) (locs ++ L) (cells + 1 + i) (slots + N + i * K)
  | 0 => by
    refine ⟨[], (fun q hq => by cases hq), ?_⟩
    have h := X.pushed (zm_o cA T.heap.size N 0)
    rw [show (zm_o cA T.heap.size N 0).slots.size = N from arrV_size _ _ _] at h
    rw [List.append_nil, Nat.zero_mul]
    exact h
  | i + 1 => by
    obtain ⟨L, hL, Xi⟩ := zm_stand X cA comp N K i
    obtain ⟨f1, f2, -, -, -, -⟩ := zm_f T cA comp N K i
    have hb : ((zm_s T cA comp N K i).pushCell (arrV comp K (fun _ => .int 0))).heap[T.heap.size]? = some (zm_o cA T.heap.size N i) := by
      have hq2 : T.heap.size < (zm_s T cA comp N K i).heap.size := by omega
      rw [State.heap_pushCell_of_lt (h := hq2)]
      exact f2
    have h := (Xi.pushed (arrV comp K (fun _ => .int 0))).stored hb i (.ref (T.heap.size + 1 + i))
    rw [zm_o_s, arrV_size] at h
    refine ⟨L ++ [⟨T.heap.size, i⟩], fun q hq => ?_, ?_⟩
    · rcases List.mem_append.mp hq with z | z
      · exact hL q z
      · rw [List.mem_singleton] at z
        rw [z]
    · rw [← List.append_assoc, show slots + N + (i + 1) * K = slots + N + i * K + K by rw [Nat.succ_mul]; omega]
      exact h
section ZM
variable {E : CtlPost} {e : Env} {d : Bool} {acts : List Action} {s : State}
theorem zm_make1 {comp cc : ClassId} {kc : Class} {y : Int32} {K : Nat} (hkc : s.vm.classes[comp]? = some kc) (hkind : kc.kind = .array cc .int) (hy : ¬ y < 0) (hK : y.toNatClampNeg = K) (hl : ¬ K > e.platform.arrayLengthLimit) (hh : ¬ K * componentBytes .int > e.platform.maxHeapBytes) (h1 : s.heap.size < e.platform.maxCells) (h2 : s.slotsUsed + K ≤ e.platform.maxSlots)
    {Q : Addr → Pre} (hq : ∀ acts', Q s.heap.size d acts' (s.pushCell (arrV comp K fun _ => .int 0))) : wp (multianewarray.make comp [y]) Q E e d acts s := by
  subst hK
  rw [multianewarray.make]
  simp only [wp_bind', W.ite, hy, if_false, wp_pure', W.theClass, hkc, hkind, Option.some.injEq, exists_eq_left']
  refine W.newArray_of hkc hkind hl hh h1 h2 rfl fun acts' => ?_
  have h := hq acts'
  rw [← arrV_new] at h
  exact h
theorem zm_make2 {cA comp cc : ClassId} {kA kc : Class} {x y : Int32} {N K : Nat} (hk : s.vm.classes[cA]? = some kA) (hkind : kA.kind = .array comp (.array .int)) (hkc : s.vm.classes[comp]? = some kc) (hkindc : kc.kind = .array cc .int) (hx : ¬ x < 0) (hy : ¬ y < 0) (hN : x.toNatClampNeg = N) (hK : y.toNatClampNeg = K)
    (hl1 : ¬ N > e.platform.arrayLengthLimit) (hh1 : ¬ N * componentBytes (.array .int) > e.platform.maxHeapBytes) (hl2 : ¬ K > e.platform.arrayLengthLimit) (hh2 : ¬ K * componentBytes .int > e.platform.maxHeapBytes) (hc : s.heap.size + 1 + N ≤ e.platform.maxCells) (hs : s.slotsUsed + N + N * K ≤ e.platform.maxSlots)
    {Q : Addr → Pre} (hq : ∀ d' acts', Q s.heap.size d' acts' (zm_s s cA comp N K N)) : wp (multianewarray.make cA [x, y]) Q E e d acts s := by
  have hfind : ([y].find? (· < 0)) = none := by simp [hy]
  rw [multianewarray.make]
  simp only [wp_bind', W.ite, hx, if_false, wp_pure', W.theClass, hk, hkind, Option.some.injEq, exists_eq_left', hN]
  refine W.newArray_of hk hkind hl1 hh1 (by omega) (by have := Nat.zero_le (N * K); omega) rfl fun acts1 => ?_
  simp only [hfind]
  rw [ite_self, wp_bind', Std.Legacy.Range.forIn_eq_forIn_range']
  have hsz : ([:N] : Std.Legacy.Range).size = N := by simp [Std.Legacy.Range.size]
  rw [hsz]
  show wp (forIn (List.range' 0 N 1) PUnit.unit _) _ E e d acts1 _
  refine wp_forIn_inv (fun rest s' => ∃ i, i ≤ N ∧ rest = List.range' i (N - i) ∧ s' = zm_s s cA comp N K i) _ _ ⟨0, Nat.zero_le _, rfl, ?_⟩ ?_ ?_
  · show _ = s.pushCell (zm_o cA s.heap.size N 0)
    rw [show zm_o cA s.heap.size N 0 = arrV cA N (fun _ => .null) from rfl, ← arrV_new]
  · rintro q rest s' d' acts' Q' ⟨i, hi, hl, rfl⟩ hnext
    have hlt : i < N := Nat.lt_of_not_le fun h => by rw [show N - i = 0 by omega] at hl; cases hl
    rw [show N - i = (N - (i + 1)) + 1 by omega, List.range'_succ] at hl
    obtain ⟨rfl, hrest⟩ := List.cons.inj hl
    obtain ⟨f1, f2, f3, f4, -, -⟩ := zm_f s cA comp N K q
    have hmul : (q + 1) * K ≤ N * K := Nat.mul_le_mul_right K hlt
    rw [Nat.succ_mul] at hmul
    simp only [wp_bind']
    refine zm_make1 (by rw [f3]; exact hkc) hkindc hy hK hl2 hh2 (by omega) (by omega) fun acts2 => ?_
    simp only [wp_bind', W.writeLoc, wp_pure']
    have hq2 : s.heap.size < (zm_s s cA comp N K q).heap.size := by omega
    refine ⟨zm_o cA s.heap.size N q, by rw [State.heap_pushCell_of_lt (h := hq2)]; exact f2, (fun h => by cases h), by rw [show (zm_o cA s.heap.size N q).slots.size = N from arrV_size _ _ _]; exact hlt, ?_, hnext _ _ _ ⟨q + 1, hlt, hrest, ?_⟩⟩
    · show State.fitsSlot _ cA .none q _ = true
      simp [State.fitsSlot, State.slotType?, f3, hk, hkind, fits]
    · rw [f1, zm_o_s]
      rfl
  · rintro s' d' acts' ⟨i, hi, hl, rfl⟩
    have hiN : i = N := by
      rcases Nat.lt_or_ge i N with h | h
      · rw [show N - i = (N - (i + 1)) + 1 by omega, List.range'_succ] at hl
        cases hl
      · omega
    subst hiN
    simp only [wp_pure']
    exact hq _ _
end ZM
theorem zm_W {p : Program} {l : Launch} {e : Env} {R : Room} {s : State} {m : MethodId} {args : Array Value} {below : List Frame} {meth : Method} {c : Code} {H : Heap} {locs : List Loc} {cells slots : Nat} {Q : State → Prop} {cc : ByteArray} (hexec : p.tables.exec = Jvm.exec) (hb : c.code = cc) {own : String} {index : Nat} (hown : s.vm.findClass own = some m.cls) (hclink : (Cond.classLink own index "[[I").before args s = true) (harr : (Cond.arrayClass .int).before args s = true)
    {comp cA : ClassId} {kA : Class} (a1 : s.vm.findClass "[I" = some comp) (a2 : s.vm.findClass "[[I" = some cA) (a3 : s.vm.classes[cA]? = some kA) (a4 : kA.kind = .array comp (.array .int))
    {g : JFrame} (hg : g.method = m) (hdg : decode cc g.pc = .ok (.multianewarray index 2, 4)) {x y : Int32} {rest : List Value} (hstack : g.stack = .int y :: .int x :: rest) {N K : Nat} (hx : ¬ x < 0) (hy : ¬ y < 0) (hN : x.toNatClampNeg = N) (hK : y.toNatClampNeg = K) (hN1 : N ≤ 1000) (hK1 : K ≤ 1000) (hcells : cells + (1 + N) ≤ R.cells) (hslots : slots + (N + N * K) ≤ R.slots)
    (kk : ∀ (H' : Heap) (L : List Loc), (∀ q ∈ L, q.base = H.size) → H'.size = H.size + 1 + N → (∀ q : Nat, q < H.size → H'[q]? = H[q]?) → H'[H.size]? = some (zm_o cA H.size N N) → (∀ j, j < N → H'[H.size + 1 + j]? = some (arrV comp K (fun _ => .int 0))) →
      W p l e R s m args below meth c H' (locs ++ L) (cells + (1 + N)) (slots + (N + N * K)) Q { g with pc := g.pc + 4, stack := .ref H.size :: rest }) : W p l e R s m args below meth c H locs cells slots Q g := by
  intro T hT X
  subst hT
  subst hg
  have hpl : e.platform.magicAccessors = ({} : Platform).magicAccessors := by rw [X.admits.platform]
  obtain ⟨comp', kC, cc', hcomp', hkC, hkindC⟩ := Cond.arrayClass_spec harr
  have ecomp : comp' = comp := Option.some.inj (hcomp'.symm.trans a1)
  subst ecomp
  obtain ⟨c0, hfc0, hcl⟩ := Cond.classLink_spec hown hclink e.platform hpl
  have ec0 : c0 = cA := Option.some.inj (hfc0.symm.trans a2)
  subst ec0
  obtain ⟨hg1, hwarm1, hready1⟩ := State.classEntry (e := e) X.warmed hcl
  generalize T.vm.noted g.method.cls index (.cls c0) = vm1 at hg1 hwarm1 hready1
  obtain ⟨kA1, hkA1, heA⟩ := hwarm1.alike.2.2 _ _ a3
  obtain ⟨kC1, hkC1, heC⟩ := hwarm1.alike.2.2 _ _ hkC
  have X1 := X.noted hwarm1
  obtain ⟨hr1, hr2⟩ := X.roomAbove hcells hslots
  obtain ⟨L, hL, XF⟩ := zm_stand X1 c0 comp' N K N
  obtain ⟨f1, f2, f3, f4, f5, f6⟩ := zm_f (T.setVm vm1) c0 comp' N K N
  rw [show cells + 1 + N = cells + (1 + N) by omega, show slots + N + N * K = slots + (N + N * K) by omega] at XF
  obtain ⟨t, b1, b2⟩ := kk (zm_s (T.setVm vm1) c0 comp' N K N).heap L hL f1 f5 f2 f6 (zm_s (T.setVm vm1) c0 comp' N K N) rfl XF
  refine ⟨t, ?_, b2⟩
  have hl1 : ¬ N > e.platform.arrayLengthLimit := by rw [Launch.admits_arrayLengthLimit X.admits]; omega
  have hh1 : ¬ N * componentBytes (.array .int) > e.platform.maxHeapBytes := by
    rw [Launch.admits_maxHeapBytes X.admits]
    show ¬ N * 4 > 536870912
    omega
  have hl2 : ¬ K > e.platform.arrayLengthLimit := by rw [Launch.admits_arrayLengthLimit X.admits]; omega
  have hh2 : ¬ K * componentBytes .int > e.platform.maxHeapBytes := by
    rw [Launch.admits_maxHeapBytes X.admits]
    show ¬ K * 4 > 536870912
    omega
  jvm_step X.here [hexec, hb, hdg]
  simp only [multianewarray.sem, wp_bind', W.resolveClassAt_links (State.method?_setTop g X.here.top) hg1]
  rw [W.popN, if_neg (by decide)]
  refine ⟨g, State.topJava?_setTop' (s := T.setVm vm1) g X.here.top, [.int x, .int y], rest, rfl, hstack, ?_⟩
  simp only [List.mapM_cons, List.mapM_nil, wp_bind', wp_pure']
  refine zm_make2 (N := N) (K := K) hkA1 (by rw [heA]; exact a4) hkC1 (by rw [heC]; exact hkindC) hx hy hN hK hl1 hh1 hl2 hh2 (by show T.heap.size + 1 + _ ≤ _; omega) (by show T.slotsUsed + _ + _ ≤ _; omega) (fun d' acts' => ?_)
  have eS : ((T.setTop g).setVm vm1).setTop { g with stack := rest } = (T.setVm vm1).setTop { g with stack := rest } := by
    show ((T.setVm vm1).setTop g).setTop _ = _
    rw [State.setTop_setTop]
  rw [eS, zm_top]
  simp only [wp_bind', W.mark, W.pushRef, State.topJava?_setTop' _ XF.here.top, Option.some.injEq, exists_eq_left', State.setTop_setTop, State.heap_setTop]
  intro acts2
  simp [jvm, XF.here.top]
  exact b1
/-- the memory behind it -/
def zm_g (g : zz_G) (n N : Nat) : zz_G := fun a b => if n < a ∧ a ≤ n + N then 0 else g a b
def zm_r (r : zz_R) (n N : Nat) : zz_R := fun a b => if a = n then (if b < N then some (n + 1 + b) else none) else r a b
theorem zz_multi {C : zz_C} {M : zz_M} {d mc ms kc ks pc : Nat} {L : List (Option Value)} {st : List Value} {g : zz_G} {r : zz_R} {n : Nat} {Q : zz_Q} {x y : Int32} {N K ix : Nat} (hx : ¬ x < 0) (hy : ¬ y < 0) (hN : x.toNatClampNeg = N) (hK : y.toNatClampNeg = K) (hN1 : N ≤ 1000) (hK1 : K ≤ 1000) (hn : n + 1 + N < 900 ∧ (n + 1 + N < 38 ∨ 38 < n)) (hs : zz_sh n = (2, 3, N)) (hsr : ∀ j, j < N → zz_sh (n + 1 + j) = (1, 0, K)) (hcl : Cond.classLink M.1.cls ix "[[I" ∈ zz_tbl) (hac : Cond.arrayClass .int ∈ zz_tbl) (hmc : kc + (1 + N) ≤ mc) (hms : ks + (N + N * K) ≤ ms) (hd : decode M.2.1 pc = .ok (.multianewarray ix 2, 4))
    (kk : zz_Z C M d mc ms (kc + (1 + N)) (ks + (N + N * K)) (pc + 4) L (.ref n :: st) (zm_g g n N) (zm_r r n N) (n + 1 + N) Q) : zz_Z C M d mc ms kc ks pc L (.int y :: .int x :: st) g r n Q := by
  intro p e s m args below meth c H locs ls hF hW hl hL
  obtain ⟨comp, cA, kA, f1, f2, f3, f4⟩ := hF.2.2.1.2.2.2.2.1
  have e3 : C.2.2.2.2 3 = cA := Option.some.inj ((show s.vm.findClass _ = some (C.2.2.2.2 3) from (hF.2.2.1.1.2 3 _ rfl).2).symm.trans f2)
  have e0 : C.2.2.2.2 0 = comp := Option.some.inj ((show s.vm.findClass _ = some (C.2.2.2.2 0) from (hF.2.2.1.1.2 0 _ rfl).2).symm.trans f1)
  refine zm_W hF.1.1 hF.1.2.1 hF.1.2.2.2.2.2.1 (hF.2.1 _ hcl) (hF.2.1 _ hac) f1 f2 f3 f4 rfl hd rfl hx hy hN hK hN1 hK1 hmc hms fun H1 L1 hL1 z1 o1 e1 i1 => ?_
  have hsz := hW.1
  obtain ⟨w1, w2, w3⟩ := hW.2.1
  have hb : zz_b (zm_r r n N) = zz_b r := zz_b_cg (funext fun b => if_neg (by omega))
  have hps : ∀ j, j ≤ N → zz_ps (n + j) = n + j + zz_b r := by
    intro j hj
    unfold zz_ps
    rcases hn.2 with q | q
    · have e : zz_b r = 0 := by
        rcases zz_b_01 r with e | e
        · exact e
        · have := w3 e
          omega
      rw [e, if_pos (by omega)]
      rfl
    · have e : zz_b r = 1 := by
        rcases zz_b_01 r with e | e
        · have := w2 e
          omega
        · exact e
      rw [e, if_neg (by omega), if_neg (by omega)]
  have hp0 : zz_ps n = n + zz_b r := hps 0 (Nat.zero_le _)
  have hpj : ∀ j, j < N → zz_ps (n + 1 + j) = n + 1 + j + zz_b r := fun j hj => by
    have := hps (1 + j) (by omega)
    rw [← Nat.add_assoc] at this
    exact this
  have h38 : n ≠ 38 ∨ zz_b r = 1 := Or.inl (by omega)
  have hW1 : zz_W C (zm_g g n N) (zm_r r n N) (n + 1 + N) H1 := by
    refine ⟨by rw [hb, z1, hsz]; omega, ⟨by omega, fun q => ?_, fun q => ?_⟩, fun k hk => ?_, fun q hq => ?_⟩
    · rw [hb] at q
      have := w2 q
      omega
    · rw [hb] at q
      have := w3 q
      omega
    · by_cases q : k = n
      · subst q
        rw [hs, hp0, ← hsz]
        show H1[H.size]? = some (arrV (C.2.2.2.2 3) N (fun i => va_rf ((zm_r r k N k i).map (zz_A C))))
        rw [e1, e3]
        show some (arrV cA N _) = _
        congr 2
        funext j
        have hj : zm_r r k N k j = if j < N then some (k + 1 + j) else none := if_pos rfl
        rw [hj]
        by_cases hjN : j < N
        · rw [if_pos hjN, if_pos hjN]
          show Value.ref _ = Value.ref (zz_A C (k + 1 + j))
          rw [zz_low (by omega), hpj j hjN]
          exact congrArg Value.ref (show H.size + 1 + j = zz_S C + (k + 1 + j + zz_b r) by omega)
        · rw [if_neg hjN, if_neg hjN]
          rfl
      · by_cases q2 : n < k ∧ k ≤ n + N
        · obtain ⟨j, rfl⟩ : ∃ j, k = n + 1 + j := ⟨k - (n + 1), by omega⟩
          rw [hsr j (by omega), hpj j (by omega)]
          have hi := i1 j (by omega)
          rw [hsz, show zz_S C + (n + zz_b r) + 1 + j = zz_S C + (n + 1 + j + zz_b r) by omega] at hi
          show H1[zz_S C + (n + 1 + j + zz_b r)]? = some (arrV (C.2.2.2.2 0) K (fun i => .int (zm_g g n N (n + 1 + j) i)))
          rw [hi, e0, show (fun i => Value.int (zm_g g n N (n + 1 + j) i)) = fun _ => Value.int 0 from funext fun i => by rw [show zm_g g n N (n + 1 + j) i = 0 from if_pos (by omega)]]
        · have hk' : zz_md r n k := by
            unfold zz_md at hk ⊢
            rw [hb] at hk
            omega
          have hl9 := hW.psl hk'
          rw [show zm_g g n N k = g k from funext fun b => if_neg q2, show zm_r r n N k = r k from funext fun b => if_neg q]
          exact (hW.2.2.1 k hk').kept (o1 _ (by show zz_S C + zz_ps k < H.size; omega))
    · rw [o1 q (by omega)]
      exact hW.2.2.2 q hq
  have h := kk p e s m args below meth c H1 (locs ++ L1) ls hF hW1 (t_lL hl fun q hq => by rw [hL1 q hq]; show zz_S C ≤ H.size; omega) hL
  rw [zz_stn hW h38] at h
  exact h
