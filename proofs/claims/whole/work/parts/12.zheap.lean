/-! rows of the logic that read or write cells -/
def zz_u (g : zz_G) (k j : Nat) (x : Int32) : zz_G := fun a b => if a = k ∧ b = j then x else g a b
def zz_ur (r : zz_R) (k j : Nat) (o : Option Nat) : zz_R := fun a b => if a = k ∧ b = j then o else r a b
theorem zz_u_same (g : zz_G) (k j : Nat) (x : Int32) : zz_u g k j x k j = x := if_pos ⟨rfl, rfl⟩
theorem zz_u_ne1 (g : zz_G) {k j a b : Nat} (x : Int32) (h : a ≠ k) : zz_u g k j x a b = g a b := if_neg fun q => h q.1
theorem zz_u_ne2 (g : zz_G) {k j a b : Nat} (x : Int32) (h : b ≠ j) : zz_u g k j x a b = g a b := if_neg fun q => h q.2
theorem zz_u_row (g : zz_G) {k j a : Nat} (x : Int32) (h : a ≠ k) : zz_u g k j x a = g a := funext fun b => zz_u_ne1 g x h
theorem zz_ur_row (r : zz_R) {k j a : Nat} (o : Option Nat) (h : a ≠ k) : zz_ur r k j o a = r a := funext fun b => if_neg fun q => h q.1
theorem zz_W.dom {C : zz_C} {g : zz_G} {r : zz_R} {n : Nat} {H : Heap} (h : zz_W C g r n H) {k : Nat} (hk : zz_md r n k) : k < 990 ∨ k = 999 := by
  rcases hk with q | q
  · exact Or.inl (Nat.lt_trans q h.2.1.1)
  · exact Or.inr q.1
theorem zz_W.atm {C : zz_C} {g : zz_G} {r : zz_R} {n : Nat} {H : Heap} (h : zz_W C g r n H) {k : Nat} (hk : zz_md r n k) {sh : Nat × Nat × Nat} (hs : zz_sh k = sh) : va_at C.2.2.2.1 vwCl (zz_S C + zz_ps k, zz_cel C sh (g k) (r k)) H := hs ▸ h.2.2.1 k hk
theorem zz_W.at {C : zz_C} {g : zz_G} {r : zz_R} {n : Nat} {H : Heap} (h : zz_W C g r n H) {k : Nat} (hk : k < n) {sh : Nat × Nat × Nat} (hs : zz_sh k = sh) : va_at C.2.2.2.1 vwCl (zz_S C + zz_ps k, zz_cel C sh (g k) (r k)) H := h.atm (Or.inl hk) hs
theorem zz_W.lowm {C : zz_C} {g : zz_G} {r : zz_R} {n : Nat} {H : Heap} (h : zz_W C g r n H) {k : Nat} (hk : zz_md r n k) : zz_A C k = zz_S C + zz_ps k := zz_low (by have := h.dom hk; omega)
theorem zz_W.low {C : zz_C} {g : zz_G} {r : zz_R} {n : Nat} {H : Heap} (h : zz_W C g r n H) {k : Nat} (hk : k < n) : zz_A C k = zz_S C + zz_ps k := h.lowm (Or.inl hk)
theorem zz_W.obj {C : zz_C} {g : zz_G} {r : zz_R} {n : Nat} {H : Heap} (h : zz_W C g r n H) {k ci N : Nat} (hk : k < n) (hs : zz_sh k = (0, ci, N)) : ∃ rr : vw_C, vwCl[ci]? = some rr ∧ t_OB (zz_A C k) (C.2.2.2.1.1 ci) rr.2.2 (C.2.2.2.1.2 ci) H (vp_V ((List.range N).map fun j => zz_fv C (zz_fr ci j) (g k j) (r k j))) := by
  rw [h.low hk]
  exact h.at hk hs
theorem zz_W.intsm {C : zz_C} {g : zz_G} {r : zz_R} {n : Nat} {H : Heap} (h : zz_W C g r n H) {k N : Nat} (hk : zz_md r n k) (hs : zz_sh k = (1, 0, N)) : H[zz_A C k]? = some (arrV (C.2.2.2.2 0) N (fun j => .int (g k j))) := by
  rw [h.lowm hk]
  exact h.atm hk hs
theorem zz_W.ints {C : zz_C} {g : zz_G} {r : zz_R} {n : Nat} {H : Heap} (h : zz_W C g r n H) {k N : Nat} (hk : k < n) (hs : zz_sh k = (1, 0, N)) : H[zz_A C k]? = some (arrV (C.2.2.2.2 0) N (fun j => .int (g k j))) := by
  rw [h.low hk]
  exact h.at hk hs
theorem zz_W.refs {C : zz_C} {g : zz_G} {r : zz_R} {n : Nat} {H : Heap} (h : zz_W C g r n H) {k t N : Nat} (hk : k < n) (hs : zz_sh k = (2, t, N)) : H[zz_A C k]? = some (arrV (C.2.2.2.2 t) N (fun j => va_rf ((r k j).map (zz_A C)))) := by
  rw [h.low hk]
  exact h.at hk hs
/-- one cell written -/
theorem zz_W.putm {C : zz_C} {g g' : zz_G} {r r' : zz_R} {n : Nat} {H H1 : Heap} (h : zz_W C g r n H) {k : Nat} (hk : zz_md r n k) (hz : H1.size = H.size) (ho : ∀ q : Nat, q ≠ zz_A C k → H1[q]? = H[q]?) (hg : ∀ a, a ≠ k → g' a = g a) (hr : ∀ a, a ≠ k → r' a = r a) (hc : va_at C.2.2.2.1 vwCl (zz_A C k, zz_cel C (zz_sh k) (g' k) (r' k)) H1) : zz_W C g' r' n H1 := by
  have hlow := h.lowm hk
  have hdk := h.dom hk
  have hb : zz_b r' = zz_b r := zz_b_cg (hr 998 (by omega))
  refine ⟨by rw [hb]; exact hz.trans h.1, by rw [hb]; exact h.2.1, fun a ha => ?_, fun q hq => ?_⟩
  · by_cases hak : a = k
    · subst hak
      rw [← hlow]
      exact hc
    · rw [hg a hak, hr a hak]
      have ha' : zz_md r n a := by
        unfold zz_md at ha ⊢
        rw [hb] at ha
        exact ha
      have hps := zz_ps_ne (h.dom ha') hdk hak
      exact (h.2.2.1 a ha').kept (ho _ (by rw [hlow]; show zz_S C + zz_ps a ≠ zz_S C + zz_ps k; omega))
  · rw [ho q (by rw [hlow]; omega)]
    exact h.2.2.2 q hq
theorem zz_W.put {C : zz_C} {g g' : zz_G} {r r' : zz_R} {n : Nat} {H H1 : Heap} (h : zz_W C g r n H) {k : Nat} (hk : k < n) (hz : H1.size = H.size) (ho : ∀ q : Nat, q ≠ zz_A C k → H1[q]? = H[q]?) (hg : ∀ a, a ≠ k → g' a = g a) (hr : ∀ a, a ≠ k → r' a = r a) (hc : va_at C.2.2.2.1 vwCl (zz_A C k, zz_cel C (zz_sh k) (g' k) (r' k)) H1) : zz_W C g' r' n H1 := h.putm (Or.inl hk) hz ho hg hr hc
/-- what the tables say of a class, of a field's name in a class's pool -/
def zz_CF (ci : Nat) (Cn : String) (T : u_T) (N : Nat) (ty : Nat → FieldType) : Prop := vwCl[ci]? = some (Cn, T, N) ∧ (∀ w ∈ u_ws Cn T N, w ∈ zz_tbl) ∧ (∀ k, k < N → parseFieldDescriptor (T k).2.2.1 = some (ty k)) ∧ (∀ a, a < N → ∀ b, b < N → a ≠ b → (T a).2.1 ≠ (T b).2.1)
def zz_FL (own : String) (ix ci j N : Nat) (t : FieldType) (fin : Bool) : Prop := ∃ (Cn : String) (T : u_T) (ty : Nat → FieldType), zz_CF ci Cn T N ty ∧ j < N ∧ Cond.fieldLink own ix (T j).1 (T j).2.1 (T j).2.2.1 ∈ zz_tbl ∧ ty j = t ∧ (T j).2.2.2 = fin ∧ (T j).1 = Cn
theorem zz_range {α : Type} {N j : Nat} (f : Nat → α) (h : j < N) : ((List.range N).map f)[j]? = some (f j) := by rw [List.getElem?_map, List.getElem?_range h]; rfl
section ZH
variable {C : zz_C} {M : zz_M} {d mc ms kc ks pc : Nat} {L : List (Option Value)} {st : List Value} {g : zz_G} {r : zz_R} {n : Nat} {Q : zz_Q}
variable {x : Int32} {a k j ci N ix : Nat} {t : FieldType} {fin : Bool}
theorem zz_get (hfl : zz_FL M.1.cls ix ci j N t fin) (hs : zz_sh k = (0, ci, N)) (hk : k < n) {v : Value} (hv : zz_fv C (zz_fr ci j) (g k j) (r k j) = zz_v C v) (hd : decode M.2.1 pc = .ok (.getfield ix, 3)) (kk : zz_Z C M d mc ms kc ks (pc + 3) L (v :: st) g r n Q) : zz_Z C M d mc ms kc ks pc L (.ref k :: st) g r n Q := by
  intro p e s m args below meth c H locs ls hF hW hl hL
  obtain ⟨Cn, T, ty, ⟨hc, hin, hty, hnm⟩, hj, hlink, -, -, -⟩ := hfl
  obtain ⟨rr, h1, cell, q1, q2, q3, q4⟩ := hW.obj hk hs
  have hrr : rr = (Cn, T, N) := Option.some.inj (h1.symm.trans hc)
  subst hrr
  obtain ⟨hS, hfc, kC, hkC, hkind⟩ := hF.2.2.1.1.1 ci _ hc
  obtain ⟨cf, kf, fi, f, hi, hsl⟩ := hS j hj
  refine W.getf (v := zz_v C v) hF.1.1 hF.1.2.1 hF.1.2.2.2.2.2.1 (hF.2.1 _ hlink) hi (u_facts hfc hkC (u_lays hF.2.1 hin hj) hi).1 q1 (by rw [q3]; exact fun h => by cases h) ?_ rfl rfl hd (kk p e s m args below meth c H locs ls hF hW hl hL)
  rw [hsl, q4 j hj]
  show some (vp_V _ j) = _
  simp only [vp_V, List.getD_eq_getElem?_getD, zz_range _ hj, Option.getD_some, hv]
theorem zz_getI (hfl : zz_FL M.1.cls ix ci j N t fin) (hs : zz_sh k = (0, ci, N)) (hf : zz_fr ci j = false) (hk : k < n) (hd : decode M.2.1 pc = .ok (.getfield ix, 3)) (kk : zz_Z C M d mc ms kc ks (pc + 3) L (.int (g k j) :: st) g r n Q) : zz_Z C M d mc ms kc ks pc L (.ref k :: st) g r n Q :=
  zz_get hfl hs hk (v := .int (g k j)) (by rw [hf]; rfl) hd kk
theorem zz_getR (hfl : zz_FL M.1.cls ix ci j N t fin) (hs : zz_sh k = (0, ci, N)) (hf : zz_fr ci j = true) (hk : k < n) (hr : r k j = some a) (hd : decode M.2.1 pc = .ok (.getfield ix, 3)) (kk : zz_Z C M d mc ms kc ks (pc + 3) L (.ref a :: st) g r n Q) : zz_Z C M d mc ms kc ks pc L (.ref k :: st) g r n Q :=
  zz_get hfl hs hk (v := .ref a) (by rw [hf, hr]; rfl) hd kk
theorem zz_getN (hfl : zz_FL M.1.cls ix ci j N t fin) (hs : zz_sh k = (0, ci, N)) (hf : zz_fr ci j = true) (hk : k < n) (hr : r k j = none) (hd : decode M.2.1 pc = .ok (.getfield ix, 3)) (kk : zz_Z C M d mc ms kc ks (pc + 3) L (.null :: st) g r n Q) : zz_Z C M d mc ms kc ks pc L (.ref k :: st) g r n Q :=
  zz_get hfl hs hk (v := .null) (by rw [hf, hr]; rfl) hd kk
/-- a field written: what the cell becomes -/
theorem zz_fld {cell : Cell} {iS : Nat → Nat} {f f' : Nat → Value} {w : Value} (hN : ∀ i, i < N → cell.slots[iS i]? = some (vp_V ((List.range N).map f) i)) (hap : ∀ a b, a < N → b < N → a ≠ b → iS a ≠ iS b) (hj : j < N) (hw : f' j = w) (ho : ∀ i, i ≠ j → f' i = f i) : ∀ i, i < N → (cell.setSlot (iS j) w).slots[iS i]? = some (vp_V ((List.range N).map f') i) := by
  intro i hi
  rw [t_set hN hap hj w i hi]
  by_cases hij : i = j
  · subst hij
    simp [updV, vp_V, zz_range _ hi, hw]
  · simp [updV, vp_V, hij, zz_range _ hi, ho i hij]
theorem zz_put {g' : zz_G} {r' : zz_R} {v : Value} (hfl : zz_FL M.1.cls ix ci j N t fin) (hs : zz_sh k = (0, ci, N)) (hk : k < n) (hfin : fin = false ∨ (M.1.name = "<init>" ∧ ∃ Cn T, vwCl[ci]? = some (Cn, T, N) ∧ Cn = M.1.cls)) (hn : Jvm.narrow t (zz_v C v) = zz_v C v) (hfit : fits t (zz_v C v) = true)
    (hv : zz_fv C (zz_fr ci j) (g' k j) (r' k j) = zz_v C v) (hg1 : ∀ a, a ≠ k → g' a = g a) (hr1 : ∀ a, a ≠ k → r' a = r a) (hg2 : ∀ i, i ≠ j → g' k i = g k i) (hr2 : ∀ i, i ≠ j → r' k i = r k i)
    (hd : decode M.2.1 pc = .ok (.putfield ix, 3)) (kk : zz_Z C M d mc ms kc ks (pc + 3) L st g' r' n Q) : zz_Z C M d mc ms kc ks pc L (v :: .ref k :: st) g r n Q := by
  intro p e s m args below meth c H locs ls hF hW hl hL
  obtain ⟨Cn, T, ty, ⟨hc, hin, hty, hnm⟩, hj, hlink, htj, hfj, hcl⟩ := hfl
  have hap := va_apart (own := M.1.cls) hF.2.1 hin ty hty hnm hF.2.2.1.1 hc
  obtain ⟨rr, h1, cell, q1, q2, q3, q4⟩ := hW.obj hk hs
  have hrr : rr = (Cn, T, N) := Option.some.inj (h1.symm.trans hc)
  subst hrr
  obtain ⟨hS, hfc, kC, hkC, hkind⟩ := hF.2.2.1.1.1 ci _ hc
  obtain ⟨cf, kf, fi, f, hi, hsl⟩ := hS j hj
  have hst := (u_facts hfc hkC (u_lays hF.2.1 hin hj) hi).1
  have hlay := hF.2.1 _ (hin _ (u_in_lay hj))
  have hpd := hty j hj
  rw [htj] at hpd
  have hold : zz_old C (zz_A C k) := by rw [hW.low hk]; exact Nat.le_add_right _ _
  have fin_kk : ∀ H' : Heap, H'[zz_A C k]? = some (cell.setSlot f.slot (zz_v C v)) → H'.size = H.size → (∀ q, q ≠ zz_A C k → H'[q]? = H[q]?) → W p C.1 e (zz_rm d mc ms) s m args below meth c H' (locs ++ [⟨zz_A C k, f.slot⟩]) kc ks (MQ below (zz_end C Q) args s mc ms (zz_old C)) (F0 m (pc + 3) ls (st.map (zz_v C))) := by
    intro H' e1 e2 e3
    refine kk p e s m args below meth c H' _ ls hF (hW.put hk e2 e3 hg1 hr1 ?_) (t_lc hl hold) hL
    rw [hs]
    refine ⟨_, hc, _, e1, q2, q3, ?_⟩
    rw [hsl]
    exact zz_fld q4 hap hj hv (fun i hij => by rw [hg2 i hij, hr2 i hij])
  by_cases hfb : (T j).2.2.2 = true
  · rcases hfin with h0 | ⟨h0, Cn', T', h0c, h0e⟩
    · rw [hfj, h0] at hfb
      cases hfb
    · unfold u_lay at hlay
      rw [if_pos hfb] at hlay
      have hcn : Cn = M.1.cls := by
        have := Option.some.inj (hc.symm.trans h0c)
        rw [← h0e]
        exact congrArg Prod.fst this
      have hcf : m.cls = cf := by
        obtain ⟨_, _, c', _, _, _, -, -, hf', -, -, -, hown2, -⟩ := Cond.laysFinal_spec hlay
        have e1 : c' = cf := by have := hi.symm.trans hf'; simp at this; exact this.1.symm
        rw [hcl, hcn] at hown2
        rw [← e1]
        exact Option.some.inj (hF.1.2.2.2.2.2.1.symm.trans hown2)
      have h6 := u_fits hfc hkC hkind (Or.inr hlay) hi hpd hn hfit
      exact W.putFinK hF.1.1 hF.1.2.1 hF.1.2.2.2.2.2.1 (hF.2.1 _ hlink) hi hst hcf (hF.1.2.2.2.2.2.2.trans h0) (by rw [q2]; exact h6) q1 q3 (by rw [hsl]; exact k2_hasslot (q4 j hj)) rfl rfl hd fin_kk
  · unfold u_lay at hlay
    rw [if_neg hfb] at hlay
    have h6 := u_store hfc hkC hkind hlay hi hpd hn hfit
    exact W.putK hF.1.1 hF.1.2.1 (f := f) ⟨hF.1.2.2.2.2.2.1, hF.2.1 _ hlink, ⟨_, _, _, hi⟩, hst⟩ (by rw [q2]; exact h6) q1 q3 (by rw [hsl]; exact k2_hasslot (q4 j hj)) rfl rfl hd fin_kk
theorem zz_putI (hfl : zz_FL M.1.cls ix ci j N .int false) (hs : zz_sh k = (0, ci, N)) (hf : zz_fr ci j = false) (hk : k < n) (hd : decode M.2.1 pc = .ok (.putfield ix, 3)) (kk : zz_Z C M d mc ms kc ks (pc + 3) L st (zz_u g k j x) r n Q) : zz_Z C M d mc ms kc ks pc L (.int x :: .ref k :: st) g r n Q :=
  zz_put (v := .int x) hfl hs hk (Or.inl rfl) rfl rfl (by rw [hf, zz_u_same]; rfl) (fun a h => zz_u_row g x h) (fun _ _ => rfl) (fun i h => zz_u_ne2 g x h) (fun _ _ => rfl) hd kk
theorem zz_putZ (hfl : zz_FL M.1.cls ix ci j N .boolean false) (hs : zz_sh k = (0, ci, N)) (hf : zz_fr ci j = false) (hk : k < n) (hx : x = 0 ∨ x = 1) (hd : decode M.2.1 pc = .ok (.putfield ix, 3)) (kk : zz_Z C M d mc ms kc ks (pc + 3) L st (zz_u g k j x) r n Q) : zz_Z C M d mc ms kc ks pc L (.int x :: .ref k :: st) g r n Q :=
  zz_put (v := .int x) hfl hs hk (Or.inl rfl) (by rcases hx with rfl | rfl <;> rfl) (by rcases hx with rfl | rfl <;> rfl) (by rw [hf, zz_u_same]; rfl) (fun a h => zz_u_row g x h) (fun _ _ => rfl) (fun i h => zz_u_ne2 g x h) (fun _ _ => rfl) hd kk
theorem zz_putR (hfl : zz_FL M.1.cls ix ci j N t fin) (hs : zz_sh k = (0, ci, N)) (hf : zz_fr ci j = true) (hk : k < n) (hfin : fin = false ∨ (M.1.name = "<init>" ∧ ∃ Cn T, vwCl[ci]? = some (Cn, T, N) ∧ Cn = M.1.cls)) (hn : Jvm.narrow t (.ref (zz_A C a)) = .ref (zz_A C a)) (hfit : fits t (.ref (zz_A C a)) = true) (hd : decode M.2.1 pc = .ok (.putfield ix, 3)) (kk : zz_Z C M d mc ms kc ks (pc + 3) L st g (zz_ur r k j (some a)) n Q) : zz_Z C M d mc ms kc ks pc L (.ref a :: .ref k :: st) g r n Q :=
  zz_put (v := .ref a) hfl hs hk hfin hn hfit (by rw [hf]; show va_rf ((zz_ur r k j (some a) k j).map (zz_A C)) = _; rw [show zz_ur r k j (some a) k j = some a from if_pos ⟨rfl, rfl⟩]; rfl) (fun _ _ => rfl) (fun b h => zz_ur_row r (some a) h) (fun _ _ => rfl) (fun i h => if_neg fun q => h q.2) hd kk
theorem zz_putN (hfl : zz_FL M.1.cls ix ci j N t fin) (hs : zz_sh k = (0, ci, N)) (hf : zz_fr ci j = true) (hk : k < n) (hfin : fin = false ∨ (M.1.name = "<init>" ∧ ∃ Cn T, vwCl[ci]? = some (Cn, T, N) ∧ Cn = M.1.cls)) (hn : Jvm.narrow t .null = .null) (hfit : fits t .null = true) (hd : decode M.2.1 pc = .ok (.putfield ix, 3)) (kk : zz_Z C M d mc ms kc ks (pc + 3) L st g (zz_ur r k j none) n Q) : zz_Z C M d mc ms kc ks pc L (.null :: .ref k :: st) g r n Q :=
  zz_put (v := .null) hfl hs hk hfin hn hfit (by rw [hf]; show va_rf ((zz_ur r k j none k j).map (zz_A C)) = _; rw [show zz_ur r k j none k j = none from if_pos ⟨rfl, rfl⟩]; rfl) (fun _ _ => rfl) (fun b h => zz_ur_row r none h) (fun _ _ => rfl) (fun i h => if_neg fun q => h q.2) hd kk
/-- arrays of ints: the index is the number j -/
theorem zz_idx {i : Int32} (h0 : ¬ i < 0) (hj : i.toNatClampNeg = j) (hlt : j < N) (z : Nat → Value) (cA : ClassId) : ¬ (i < 0 ∨ (arrV cA N z).slots.size ≤ i.toNatClampNeg) := by
  rw [arrV_size, hj]
  intro q
  rcases q with q | q
  · exact h0 q
  · omega
theorem zz_iald {i : Int32} (j : Nat) (hj : i.toNatClampNeg = j) (h0 : ¬ i < 0) (hlt : j < N) (hs : zz_sh k = (1, 0, N)) (hk : k < n) (hd : decode M.2.1 pc = .ok (.iaload, 1)) (kk : zz_Z C M d mc ms kc ks (pc + 1) L (.int (g k j) :: st) g r n Q) : zz_Z C M d mc ms kc ks pc L (.int i :: .ref k :: st) g r n Q := by
  intro p e s m args below meth c H locs ls hF hW hl hL
  exact W.iald (v := .int (g k j)) hF.1.1 hF.1.2.1 (hW.ints hk hs) ((hF.2.2.1.1.2 0 _ rfl).1 N (fun j => .int (g k j))) (fun q => by cases q) (zz_idx h0 hj hlt _ _) (by rw [hj, arrV_read _ _ hlt]) rfl rfl hd (kk p e s m args below meth c H locs ls hF hW hl hL)
/-- the Reader's bytes -/
theorem zz_iald9 {i : Int32} (hb : zz_b r = 1) (j : Nat) (hj : i.toNatClampNeg = j) (h0 : ¬ i < 0) (hlt : j < 50) (hd : decode M.2.1 pc = .ok (.iaload, 1)) (kk : zz_Z C M d mc ms kc ks (pc + 1) L (.int (g 999 j) :: st) g r n Q) : zz_Z C M d mc ms kc ks pc L (.int i :: .ref 999 :: st) g r n Q := by
  intro p e s m args below meth c H locs ls hF hW hl hL
  exact W.iald (v := .int (g 999 j)) hF.1.1 hF.1.2.1 (hW.intsm (k := 999) (Or.inr ⟨rfl, hb⟩) rfl) ((hF.2.2.1.1.2 0 _ rfl).1 50 (fun j => .int (g 999 j))) (fun q => by cases q) (zz_idx h0 hj hlt _ _) (by rw [hj, arrV_read _ _ hlt]) rfl rfl hd (kk p e s m args below meth c H locs ls hF hW hl hL)
theorem zz_alen9 (hb : zz_b r = 1) (hd : decode M.2.1 pc = .ok (.arraylength, 1)) (kk : zz_Z C M d mc ms kc ks (pc + 1) L (.int 50 :: st) g r n Q) : zz_Z C M d mc ms kc ks pc L (.ref 999 :: st) g r n Q := by
  intro p e s m args below meth c H locs ls hF hW hl hL
  exact W.alen (n := (50 : Int32)) hF.1.1 hF.1.2.1 (hW.intsm (k := 999) (Or.inr ⟨rfl, hb⟩) rfl) ((hF.2.2.1.1.2 0 _ rfl).1 50 (fun j => .int (g 999 j))) (by rw [arrV_size] <;> rfl) rfl rfl hd (kk p e s m args below meth c H locs ls hF hW hl hL)
theorem zz_iast {i : Int32} (j : Nat) (hj : i.toNatClampNeg = j) (h0 : ¬ i < 0) (hlt : j < N) (hs : zz_sh k = (1, 0, N)) (hk : k < n) (hd : decode M.2.1 pc = .ok (.iastore, 1)) (kk : zz_Z C M d mc ms kc ks (pc + 1) L st (zz_u g k j x) r n Q) : zz_Z C M d mc ms kc ks pc L (.int x :: .int i :: .ref k :: st) g r n Q := by
  intro p e s m args below meth c H locs ls hF hW hl hL
  have hold : zz_old C (zz_A C k) := by rw [hW.low hk]; exact Nat.le_add_right _ _
  refine W.iast (x := x) hF.1.1 hF.1.2.1 (hW.ints hk hs) ((hF.2.2.1.1.2 0 _ rfl).1 N (fun j => .int (g k j))) (fun q => by cases q) (zz_idx h0 hj hlt _ _) rfl rfl hd fun H' e1 e2 e3 => ?_
  refine kk p e s m args below meth c H' _ ls hF (hW.put hk e2 e3 (fun a h => zz_u_row g x h) (fun _ _ => rfl) ?_) (t_lc hl hold) hL
  rw [hs]
  show H'[zz_A C k]? = some (arrV _ N (fun i => .int (zz_u g k j x k i)))
  rw [e1, hj, arrV_store]
  congr 2
  funext q
  by_cases hq : q = j
  · subst hq
    simp [updV, zz_u_same]
  · simp [updV, hq, zz_u_ne2 g x hq]
theorem zz_alenI (hs : zz_sh k = (1, 0, N)) (hk : k < n) {v : Int32} (hv : Int32.ofNat N = v) (hd : decode M.2.1 pc = .ok (.arraylength, 1)) (kk : zz_Z C M d mc ms kc ks (pc + 1) L (.int v :: st) g r n Q) : zz_Z C M d mc ms kc ks pc L (.ref k :: st) g r n Q := by
  intro p e s m args below meth c H locs ls hF hW hl hL
  subst hv
  exact W.alen (n := Int32.ofNat N) hF.1.1 hF.1.2.1 (hW.ints hk hs) ((hF.2.2.1.1.2 0 _ rfl).1 N (fun j => .int (g k j))) (by rw [arrV_size] <;> rfl) rfl rfl hd (kk p e s m args below meth c H locs ls hF hW hl hL)
/-- arrays of references: kinds 1 (Text), 2 (Way), 3 (int[]) -/
theorem zz_aald {i : Int32} {tk : Nat} (j : Nat) (hj : i.toNatClampNeg = j) (h0 : ¬ i < 0) (hlt : j < N) (htk : tk = 1 ∨ tk = 2 ∨ tk = 3) (hs : zz_sh k = (2, tk, N)) (hk : k < n) (hr : r k j = some a) (hd : decode M.2.1 pc = .ok (.aaload, 1)) (kk : zz_Z C M d mc ms kc ks (pc + 1) L (.ref a :: st) g r n Q) : zz_Z C M d mc ms kc ks pc L (.int i :: .ref k :: st) g r n Q := by
  intro p e s m args below meth c H locs ls hF hW hl hL
  have hv : (arrV (C.2.2.2.2 tk) N (fun j => va_rf ((r k j).map (zz_A C)))).slots[i.toNatClampNeg]? = some (.ref (zz_A C a)) := by
    rw [hj, arrV_read _ _ hlt, hr]
    rfl
  have kk' := kk p e s m args below meth c H locs ls hF hW hl hL
  rcases htk with h | h | h <;> subst h
  · exact W.aald (v := .ref (zz_A C a)) (ty := .object "SixFigures$Text") hF.1.1 hF.1.2.1 (hW.refs hk hs) ((hF.2.2.1.1.2 1 _ rfl).1 N _) rfl (fun q => by cases q) (zz_idx h0 hj hlt _ _) hv rfl rfl hd kk'
  · exact W.aald (v := .ref (zz_A C a)) (ty := .object "SixFigures$Way") hF.1.1 hF.1.2.1 (hW.refs hk hs) ((hF.2.2.1.1.2 2 _ rfl).1 N _) rfl (fun q => by cases q) (zz_idx h0 hj hlt _ _) hv rfl rfl hd kk'
  · exact W.aald (v := .ref (zz_A C a)) (ty := .array .int) hF.1.1 hF.1.2.1 (hW.refs hk hs) ((hF.2.2.1.1.2 3 _ rfl).1 N _) rfl (fun q => by cases q) (zz_idx h0 hj hlt _ _) hv rfl rfl hd kk'
end ZH
