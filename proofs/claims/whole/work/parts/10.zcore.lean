/-! THE LOGIC: a method over a memory of numbered cells. A cell's number k stands for the address (size of the heap at the law's start) + k; all cells are made in one order, so numbers and shapes are fixed. -/
abbrev zz_G : Type := Nat → Nat → Int32
abbrev zz_R : Type := Nat → Nat → Option Nat
/-- launch, heap at the law's start, addresses of what stood there (strings, tables), numbers of classes, of array classes -/
abbrev zz_C : Type := Launch × Heap × (Nat → Nat) × va_G × (Nat → ClassId)
abbrev zz_M : Type := MethodName × ByteArray × Nat × Option FieldType
abbrev zz_Q : Type := Option Value → zz_G → zz_R → Nat → Prop
def zz_S (C : zz_C) : Nat := C.2.1.size
/-- where a number lies, counted from the law's start: the Reader's bytes (999) are made behind cell 37, ahead of cell 38 -/
def zz_ps (k : Nat) : Nat := if k < 38 then k else if k = 999 then 38 else k + 1
/-- 1 when the bytes are made (then 998's first place says so), else 0 -/
def zz_b (r : Nat → Nat → Option Nat) : Nat := if r 998 0 = none then 0 else 1
theorem zz_b_01 (r : Nat → Nat → Option Nat) : zz_b r = 0 ∨ zz_b r = 1 := by
  unfold zz_b
  by_cases h : r 998 0 = none
  · exact Or.inl (if_pos h)
  · exact Or.inr (if_neg h)
theorem zz_b_1 {r : Nat → Nat → Option Nat} {x : Nat} (h : r 998 0 = some x) : zz_b r = 1 := if_neg (by rw [h]; exact fun q => by cases q)
theorem zz_b_cg {r r' : Nat → Nat → Option Nat} (h : r' 998 = r 998) : zz_b r' = zz_b r := by
  unfold zz_b
  rw [h]
/-- cell k is made -/
def zz_md (r : Nat → Nat → Option Nat) (n k : Nat) : Prop := k < n ∨ (k = 999 ∧ zz_b r = 1)
theorem zz_ps_ne {a k : Nat} (ha : a < 990 ∨ a = 999) (hk : k < 990 ∨ k = 999) (h : a ≠ k) : zz_ps a ≠ zz_ps k := by
  unfold zz_ps
  split <;> split <;> (try split) <;> (try split) <;> omega
def zz_A (C : zz_C) (k : Nat) : Nat := if k < 1000000 then zz_S C + zz_ps k else C.2.2.1 (k - 1000000)
def zz_v (C : zz_C) : Value → Value
  | .ref k => .ref (zz_A C k)
  | v => v
theorem zz_cat (C : zz_C) (v : Value) : (zz_v C v).category = v.category := by cases v <;> rfl
theorem zz_cats (C : zz_C) (st : List Value) : ((st.map (zz_v C)).map fun v => v.category) = st.map fun v => v.category := by
  rw [List.map_map]
  exact List.map_congr_left fun v _ => zz_cat C v
theorem zz_low {C : zz_C} {k : Nat} (h : k < 1000000) : zz_A C k = zz_S C + zz_ps k := if_pos h
def zz_shB : List (Nat × Nat × Nat) := [(0, 0, 15), (1, 0, 5), (2, 3, 6), (1, 0, 5), (1, 0, 5), (1, 0, 5), (1, 0, 5), (1, 0, 5), (1, 0, 5), (2, 3, 10), (1, 0, 6), (1, 0, 6), (1, 0, 6), (1, 0, 6), (1, 0, 6), (1, 0, 6), (1, 0, 6), (1, 0, 6), (1, 0, 6), (1, 0, 6), (1, 0, 50), (2, 1, 2), (0, 8, 2), (1, 0, 50), (0, 8, 2), (1, 0, 50), (1, 0, 20)]
def zz_shl : List (Nat × Nat × Nat) := [(0, 11, 11)] ++ zz_shB ++ [(1, 0, 6), (2, 2, 7), (0, 10, 0), (0, 4, 0), (0, 1, 0), (0, 2, 0), (0, 6, 0), (0, 3, 0), (0, 7, 0), (0, 5, 5), (0, 8, 2), (1, 0, 50), (1, 0, 50), (0, 9, 4), (1, 0, 40), (2, 3, 4), (1, 0, 40), (1, 0, 40), (1, 0, 40), (1, 0, 40), (1, 0, 4), (1, 0, 4),
  (0, 12, 23), (1, 0, 276), (1, 0, 276), (1, 0, 276), (1, 0, 6), (1, 0, 4), (1, 0, 4), (1, 0, 160), (1, 0, 40), (1, 0, 40)] ++ zz_shB
/-- the shape of cell k: (0, class, fields), (1, 0, length) an array of ints, (2, kind, length) one of references -/
def zz_sh (k : Nat) : Nat × Nat × Nat := zz_shl.getD k (if k = 999 then (1, 0, 50) else (9, 0, 0))
/-- which fields are references -/
def zz_fr (ci j : Nat) : Bool := match ci with
  | 0 => j == 0 || j == 6 || j == 8 || j == 10 || j == 12 || j == 13
  | 5 => j == 0 || j == 1 || j == 4
  | 8 => j == 0
  | 9 => j == 0
  | 11 => !(j == 2)
  | 12 => j == 0 || j == 1 || j == 2 || j == 5 || j == 14 || j == 15 || j == 16 || j == 17 || j == 18
  | _ => false
def zz_fv (C : zz_C) (b : Bool) (x : Int32) (o : Option Nat) : Value := if b = true then va_rf (o.map (zz_A C)) else .int x
def zz_cel (C : zz_C) (sh : Nat × Nat × Nat) (g : Nat → Int32) (r : Nat → Option Nat) : va_E :=
  if sh.1 = 0 then .inr (sh.2.1, (List.range sh.2.2).map fun j => zz_fv C (zz_fr sh.2.1 j) (g j) (r j))
  else if sh.1 = 1 then .inl (C.2.2.2.2 0, sh.2.2, .inl g)
  else .inl (C.2.2.2.2 sh.2.1, sh.2.2, .inr (.inr (.inr (.inr fun j => (r j).map (zz_A C)))))
/-- the heap holds n cells with these numbers and references; what stood there before stands -/
def zz_W (C : zz_C) (g : zz_G) (r : zz_R) (n : Nat) (H : Heap) : Prop :=
  H.size = zz_S C + (n + zz_b r) ∧ (n < 990 ∧ (zz_b r = 0 → n ≤ 38) ∧ (zz_b r = 1 → 38 ≤ n)) ∧ (∀ k, zz_md r n k → va_at C.2.2.2.1 vwCl (zz_S C + zz_ps k, zz_cel C (zz_sh k) (g k) (r k)) H) ∧ ∀ q, q < zz_S C → H[q]? = C.2.1[q]?
def zz_ty (C : zz_C) : List (ClassId × FieldType) := [(C.2.2.2.2 0, .int), (C.2.2.2.2 1, .object "SixFigures$Text"), (C.2.2.2.2 2, .object "SixFigures$Way"), (C.2.2.2.2 3, .array .int)]
def zz_tbl : List Cond := lw_tbl.filter goodWord
theorem zz_in {w : Cond} (i : Nat) (h : lw_tbl[i]? = some w) (hg : goodWord w = true) : w ∈ zz_tbl := List.mem_filter.mpr ⟨List.mem_of_getElem? h, hg⟩
def zz_old (C : zz_C) : Nat → Prop := fun q => zz_S C ≤ q
/-- what stood there before: tables, strings -/
def zz_ext (C : zz_C) (U : State) : Prop :=
  (va_Z "SixFigures" "RULE_LEAST" "[I" (.ref (C.2.2.1 0)) (zz_old C) U C.2.1 ∧ va_Z "SixFigures" "RULE_MOST" "[I" (.ref (C.2.2.1 1)) (zz_old C) U C.2.1 ∧ va_Z "SixFigures" "ABOVE" "[I" (.ref (C.2.2.1 2)) (zz_old C) U C.2.1 ∧ va_Z "java/lang/String" "COMPACT_STRINGS" "Z" (.int 1) (zz_old C) U C.2.1) ∧
  (va_T .int (C.2.2.1 0) 5 (fun j => .int (([1, 1, 1, 1, 0] : List Int32).getD j 0)) (zz_old C) U C.2.1 ∧ va_T .int (C.2.2.1 1) 5 (fun j => .int (([6, 300, 9, 9999, 1] : List Int32).getD j 0)) (zz_old C) U C.2.1 ∧ va_T .int (C.2.2.1 2) 7 (fun j => .int (([-1, 0, 0, 0, 1, 2, 3] : List Int32).getD j 0)) (zz_old C) U C.2.1) ∧
  vk_S 3 [3, 3, 0] [[109, 107, 115], [102, 103, 119], []] (fun i => C.2.2.1 (10 + i)) (fun i => C.2.2.1 (20 + i)) (zz_old C) U C.2.1 ∧
  (vk_R "SixFigures" 146 "mks" (C.2.2.1 10) U ∧ vk_R "SixFigures" 148 "fgw" (C.2.2.1 11) U ∧ vk_R "SixFigures$Reader" 29 "" (C.2.2.1 12) U)
def zz_nest : List (String × Nat × MethodName) := [("SixFigures", 29, yX10_init), ("SixFigures", 32, yX4_init), ("SixFigures", 35, yX1_init), ("SixFigures", 38, yX2_init), ("SixFigures", 41, yX6_init), ("SixFigures", 44, yX3_init), ("SixFigures", 47, yX7_init), ("SixFigures", 54, yX5_init), ("SixFigures", 64, yX9_init), ("SixFigures", 9, yX0_init), ("SixFigures$Book", 53, yX8_init), ("SixFigures$Card", 1, yX10_init), ("SixFigures$CodeList", 1, yX10_init), ("SixFigures$Grid", 1, yX1_init), ("SixFigures$Phone", 1, yX10_init), ("SixFigures$Reader", 17, yX8_init), ("SixFigures$Shared", 1, yX4_init), ("SixFigures$Spare", 1, yX2_init)]
/-- rows of rows of ints: the class [[I is one over [I -/
def zz_AI (U : State) : Prop := ∃ (comp cA : ClassId) (kA : Class), U.vm.findClass "[I" = some comp ∧ U.vm.findClass "[[I" = some cA ∧ U.vm.classes[cA]? = some kA ∧ kA.kind = .array comp (.array .int)
theorem zz_AI.moved {u U : State} (hvm : u.vm.Alike U.vm) (h : zz_AI u) : zz_AI U := by
  obtain ⟨comp, cA, kA, h1, h2, h3, h4⟩ := h
  obtain ⟨k', hk', he⟩ := hvm.2.2 _ _ h3
  exact ⟨comp, cA, k', by rw [hvm.findClass]; exact h1, by rw [hvm.findClass]; exact h2, hk', by rw [he]; exact h4⟩
/-- the script's cell (30) is an array of ints -/
def zz_X (C : zz_C) (U : State) : Prop := ∃ scr, C.2.1[C.2.2.1 30]? = some scr ∧ U.isArrayOf scr .int
theorem zz_X.moved {C : zz_C} {u U : State} (hvm : u.vm.Alike U.vm) (h : zz_X C u) : zz_X C U := by
  obtain ⟨scr, h0, hv, k, hk, comp, hkind⟩ := h
  obtain ⟨k', hk', he⟩ := hvm.2.2 _ _ hk
  exact ⟨scr, h0, hv, k', hk', comp, by rw [he]; exact hkind⟩
def zz_cst : List String := ["SixFigures$Phone", "SixFigures$Card", "SixFigures$CodeList", "SixFigures$Shared", "SixFigures$Grid", "SixFigures$Spare"]
def zz_K (C : zz_C) (U : State) : Prop := va_K C.2.2.2.1 vwCl (zz_ty C) U ∧ (∀ q ∈ zz_nest, va_Nw (.methodLinkNest q.1 q.2.1 q.2.2 "SixFigures") U) ∧ zz_ext C U ∧ (va_AO "SixFigures$Text" U ∧ va_AO "SixFigures$Way" U) ∧ zz_AI U ∧ (∀ q ∈ zz_cst, va_Nw (.castable q "SixFigures$Way") U) ∧ zz_X C U
theorem zz_ext.warm {C : zz_C} {s U : State} (hW : s.WarmedH U.vm) (h : zz_ext C s) : zz_ext C U := by
  obtain ⟨⟨a1, a2, a3, a4⟩, ⟨b1, b2, b3⟩, c1, d1, d2, d3⟩ := h
  exact ⟨⟨a1.moved hW.alike, a2.moved hW.alike, a3.moved hW.alike, a4.moved hW.alike⟩, ⟨b1.moved hW.alike, b2.moved hW.alike, b3.moved hW.alike⟩, c1.moved hW.alike, d1.warm hW, d2.warm hW, d3.warm hW⟩
theorem zz_K.warm {C : zz_C} {s U : State} (hW : s.WarmedH U.vm) (h : zz_K C s) : zz_K C U :=
  ⟨va_K.moved hW.alike h.1, fun q hq => va_Nw.warmM hW (h.2.1 q hq), h.2.2.1.warm hW, ⟨h.2.2.2.1.1.moved hW.alike, h.2.2.2.1.2.moved hW.alike⟩, h.2.2.2.2.1.moved hW.alike, fun q hq => va_Nw.warmC hW (h.2.2.2.2.2.1 q hq), h.2.2.2.2.2.2.moved hW.alike⟩
theorem zz_ext.same {C : zz_C} {u U : State} (hv : u.vm = U.vm) (h : zz_ext C u) : zz_ext C U := by
  obtain ⟨⟨a1, a2, a3, a4⟩, ⟨b1, b2, b3⟩, c1, d1, d2, d3⟩ := h
  have hA : u.vm.Alike U.vm := by rw [hv]; exact Vm.Alike.refl _
  exact ⟨⟨a1.moved hA, a2.moved hA, a3.moved hA, a4.moved hA⟩, ⟨b1.moved hA, b2.moved hA, b3.moved hA⟩, c1.moved hA, d1.same hv.symm, d2.same hv.symm, d3.same hv.symm⟩
theorem zz_K.same {C : zz_C} {u U : State} (hv : u.vm = U.vm) (h : zz_K C u) : zz_K C U := by
  have hA : u.vm.Alike U.vm := by rw [hv]; exact Vm.Alike.refl _
  exact ⟨va_K.moved hA h.1, fun q hq => va_Nw.same rfl hv (h.2.1 q hq), h.2.2.1.same hv, ⟨h.2.2.2.1.1.moved hA, h.2.2.2.1.2.moved hA⟩, h.2.2.2.2.1.moved hA, fun q hq => va_Nw.same rfl hv (h.2.2.2.2.2.1 q hq), h.2.2.2.2.2.2.moved hA⟩
def zz_ws (M : zz_M) : List Cond := Cond.code M.1 M.2.1 M.2.2.1 M.2.2.2 :: zz_tbl
def zz_rm (d mc ms : Nat) : Room := { frames := d, cells := mc, slots := ms, locals := 40 * d }
def zz_F (C : zz_C) (M : zz_M) (p : Program) (s : State) (m : MethodId) (args : Array Value) (meth : Method) (c : Code) : Prop :=
  (p.tables.exec = Jvm.exec ∧ c.code = M.2.1 ∧ meth.sig.returnType = M.2.2.2 ∧ meth.locks = false ∧ c.maxLocals = M.2.2.1 ∧ s.vm.findClass M.1.cls = some m.cls ∧ meth.name = M.1.name) ∧ (∀ w ∈ zz_tbl, w.before args s = true) ∧ zz_K C s ∧ zz_S C ≤ s.heap.size ∧ ∀ q, q < zz_S C → s.heap[q]? = C.2.1[q]?
def zz_l (C : zz_C) (ls : Array Slot) (nL : Nat) (L : List (Option Value)) : Prop := ls.size = nL ∧ lv_wf ls ∧ ∀ (i : Nat) (v : Value), L[i]? = some (some v) → ls[i]? = some (Slot.val (zz_v C v))
def zz_end (C : zz_C) (Q : zz_Q) : Array Value → State → Outcome → State → Prop := fun _ _ oc t => ∃ v g r n, oc = .returned (v.map (zz_v C)) ∧ Q v g r n ∧ zz_W C g r n t.heap
/-- METHOD M, at pc, locals L, stack st, memory (g, r, n): it comes to its end, and Q holds there. d: frames that may lie above; mc, ms: cells and slots it may make; kc, ks: made so far -/
def zz_Z (C : zz_C) (M : zz_M) (d mc ms kc ks pc : Nat) (L : List (Option Value)) (st : List Value) (g : zz_G) (r : zz_R) (n : Nat) (Q : zz_Q) : Prop :=
  ∀ (p : Program) (e : Env) (s : State) (m : MethodId) (args : Array Value) (below : List Frame) (meth : Method) (c : Code) (H : Heap) (locs : List Loc) (ls : Array Slot),
    zz_F C M p s m args meth c → zz_W C g r n H → (∀ q ∈ locs, zz_old C q.base) → zz_l C ls M.2.2.1 L →
    W p C.1 e (zz_rm d mc ms) s m args below meth c H locs kc ks (MQ below (zz_end C Q) args s mc ms (zz_old C)) (F0 m pc ls (st.map (zz_v C)))
/-- a call of M with these arguments in this memory -/
def zz_T (C : zz_C) (M : zz_M) (d mc ms : Nat) (as : List Value) (g : zz_G) (r : zz_R) (n : Nat) (Q : zz_Q) : Prop :=
  Met C.1 M.1 (zz_ws M) (zz_rm d mc ms) (va_Pc (as.map (zz_v C)) (fun U => zz_W C g r n U.heap ∧ zz_K C U)) (zz_end C Q) mc ms (zz_old C)
/-- the locals at a method's entry -/
def zz_e : List Value → List (Option Value)
  | [] => []
  | v :: t => if v.category = 2 then some v :: none :: zz_e t else some v :: zz_e t
theorem zz_e_args (C : zz_C) : ∀ (as : List Value) (b i : Nat) (v : Value), (zz_e as)[i]? = some (some v) → (b + i, zz_v C v) ∈ lv_args b (as.map (zz_v C)) := by
  intro as
  induction as with
  | nil => intro b i v h; simp [zz_e] at h
  | cons a t ih =>
    intro b i v h
    rw [List.map_cons, lv_args, zz_cat]
    by_cases hc : a.category = 2
    · rw [if_pos hc]
      simp only [zz_e, if_pos hc] at h
      match i, h with
      | 0, h =>
        simp only [List.getElem?_cons_zero, Option.some.injEq] at h
        subst h
        exact List.mem_cons_self
      | 1, h => simp at h
      | i + 2, h =>
        have h2 := ih (b + 2) i v (by simpa using h)
        rw [show b + 2 + i = b + (i + 2) by omega] at h2
        exact List.mem_cons_of_mem _ h2
    · rw [if_neg hc]
      simp only [zz_e, if_neg hc] at h
      match i, h with
      | 0, h =>
        simp only [List.getElem?_cons_zero, Option.some.injEq] at h
        subst h
        exact List.mem_cons_self
      | i + 1, h =>
        have h2 := ih (b + 1) i v (by simpa using h)
        rw [show b + 1 + i = b + (i + 1) by omega] at h2
        exact List.mem_cons_of_mem _ h2
theorem zz_l_entry (C : zz_C) (as : List Value) {nL : Nat} {L : List (Option Value)} (hL : L = zz_e as ++ List.replicate (nL - (zz_e as).length) none) (hn : (lg_sl (as.map (zz_v C))).length ≤ nL) :
    zz_l C ((lg_sl (as.map (zz_v C)) ++ List.replicate (nL - (lg_sl (as.map (zz_v C))).length) Slot.unset).toArray) nL L := by
  have h := lv_entry (as.map (zz_v C)) hn
  refine ⟨h.1, h.2.1, fun i v hi => ?_⟩
  rw [hL] at hi
  by_cases hlt : i < (zz_e as).length
  · rw [List.getElem?_append_left hlt] at hi
    have := zz_e_args C as 0 i v hi
    rw [Nat.zero_add] at this
    exact h.2.2 _ this
  · rw [List.getElem?_append_right (Nat.le_of_not_lt hlt)] at hi
    have := List.mem_of_getElem? hi
    rw [List.mem_replicate] at this
    cases this.2
/-- a method's contract out of the walk of its body -/
theorem zz_T.of {C : zz_C} {M : zz_M} {d mc ms : Nat} {as : List Value} {g : zz_G} {r : zz_R} {n : Nat} {Q : zz_Q} (L : List (Option Value)) (hp : plainName M.1.cls = true) (hL : L = zz_e as ++ List.replicate (M.2.2.1 - (zz_e as).length) none) (hn : (as.map fun v => v.category).sum ≤ M.2.2.1)
    (h : zz_Z C M d mc ms 0 0 0 L [] g r n Q) : zz_T C M d mc ms as g r n Q := by
  refine Met.ofW (cc := M.2.1) (maxL := M.2.2.1) (ret := M.2.2.2) hp rfl ?_
  intro p e s m args below meth c s₁ B hml hv
  obtain ⟨rfl, hW, hK⟩ := hv
  have hts := atoms_spec (ws := zz_ws M) B.pre
  have hl : (lg_sl (as.map (zz_v C))).length ≤ M.2.2.1 := by
    have e : ∀ l : List Value, (lg_sl (l.map (zz_v C))).length = (l.map fun v => v.category).sum := by
      intro l
      induction l with
      | nil => rfl
      | cons a t ih =>
        simp only [lg_sl, List.map_cons, List.flatMap_cons, List.length_append, List.sum_cons] at ih ⊢
        rw [ih, zz_cat]
        rcases lv_cat a with h | h <;> simp [h]
    rw [e]
    exact hn
  rw [lg_entry_eq]
  exact h p e s m _ below meth c s.heap [] _ ⟨⟨B.exec, B.bytes, B.returns, B.notSynchronized, hml, findClass_of_methodNamed B.named, (name_of_methodNamed B.named B.method).1⟩, fun w hw => hts w (List.mem_cons_of_mem _ hw), hK, by rw [hW.1]; exact Nat.le_add_right _ _, hW.2.2.2⟩ hW (fun q hq => by cases hq) (zz_l_entry C as hL hl)
