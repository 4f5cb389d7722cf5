theorem zz_vx (C : zz_C) (i : Nat) : zz_v C (.ref (1000000 + i)) = .ref (C.2.2.1 i) := by
  show Value.ref (zz_A C (1000000 + i)) = _
  unfold zz_A
  rw [if_neg (by omega), Nat.add_sub_cancel_left]
section ZG
variable {C : zz_C} {M M' : zz_M} {d mc ms mc' ms' kc ks pc : Nat} {L : List (Option Value)} {st : List Value} {g : zz_G} {r : zz_R} {n : Nat} {Q Q' : zz_Q}
variable {k ci N ix na : Nat}
/-- a static field that holds a table -/
theorem zz_gs {i : Nat} {nm : String} (hz : ∀ U, zz_ext C U → va_Z "SixFigures" nm "[I" (.ref (C.2.2.1 i)) (zz_old C) U C.2.1) (hlink : Cond.fieldLink M.1.cls ix "SixFigures" nm "[I" ∈ zz_tbl) (hd : decode M.2.1 pc = .ok (.getstatic ix, 3)) (kk : zz_Z C M d mc ms kc ks (pc + 3) L (.ref (1000000 + i) :: st) g r n Q) : zz_Z C M d mc ms kc ks pc L st g r n Q := by
  intro p e s m args below meth c H locs ls hF hW hl hL
  obtain ⟨cf, kf, fi, f, a, cell, h1, h2, h3, h4, h5, h6, h7, h8⟩ := hz s hF.2.2.1.2.2.1
  have hkk := kk p e s m args below meth c H locs ls hF hW hl hL
  rw [List.map_cons, zz_vx] at hkk
  exact W.gets hF.1.1 hF.1.2.1 hF.1.2.2.2.2.2.1 (hF.2.1 _ hlink) h1 h2 h3 h4 (by rw [hW.2.2.2 a (Array.getElem?_eq_some_iff.mp h5).1]; exact h5) (fun e => by rw [e] at h6; cases h6) h7 rfl hd hkk
/-- a table's number -/
theorem zz_tald {i : Nat} {l : List Int32} (hT : ∀ U, zz_ext C U → va_T .int (C.2.2.1 i) N (fun j => .int (l.getD j 0)) (zz_old C) U C.2.1) {x : Int32} (j : Nat) (ej : x = nI j) (hlt : j < N) (hN : N ≤ 1000) (hd : decode M.2.1 pc = .ok (.iaload, 1)) (kk : zz_Z C M d mc ms kc ks (pc + 1) L (.int (l.getD j 0) :: st) g r n Q) : zz_Z C M d mc ms kc ks pc L (.int x :: .ref (1000000 + i) :: st) g r n Q := by
  intro p e s m args below meth c H locs ls hF hW hl hL
  obtain ⟨cell, h1, h2, h3, h4, h5, h6, h7⟩ := hT s hF.2.2.1.2.2.1
  have hkk := kk p e s m args below meth c H locs ls hF hW hl hL
  rw [List.map_cons, List.map_cons, zz_vx]
  have hc := zz_ixc ej (by omega)
  refine W.iald (v := .int (l.getD j 0)) hF.1.1 hF.1.2.1 (by rw [hW.2.2.2 _ (Array.getElem?_eq_some_iff.mp h1).1]; exact h1) h2 h3 ?_ (by rw [hc]; exact h6 j hlt) rfl rfl hd hkk
  intro z9
  rcases z9 with z9 | z9
  · exact zz_ixn ej (by omega) z9
  · rw [hc] at z9; omega
theorem zz_tlen {i : Nat} {l : List Int32} (hT : ∀ U, zz_ext C U → va_T .int (C.2.2.1 i) N (fun j => .int (l.getD j 0)) (zz_old C) U C.2.1) {v : Int32} (hv : Int32.ofNat N = v) (hd : decode M.2.1 pc = .ok (.arraylength, 1)) (kk : zz_Z C M d mc ms kc ks (pc + 1) L (.int v :: st) g r n Q) : zz_Z C M d mc ms kc ks pc L (.ref (1000000 + i) :: st) g r n Q := by
  intro p e s m args below meth c H locs ls hF hW hl hL
  obtain ⟨cell, h1, h2, h3, h4, h5, h6, h7⟩ := hT s hF.2.2.1.2.2.1
  have hkk := kk p e s m args below meth c H locs ls hF hW hl hL
  rw [List.map_cons, zz_vx]
  subst hv
  exact W.alen (n := Int32.ofNat N) hF.1.1 hF.1.2.1 (by rw [hW.2.2.2 _ (Array.getElem?_eq_some_iff.mp h1).1]; exact h1) h2 h5 rfl rfl hd hkk
theorem zz_ldcS {i : Nat} {tx : String} (hR : ∀ U, zz_ext C U → vk_R M.1.cls ix tx (C.2.2.1 i) U) (hd : decode M.2.1 pc = .ok (.ldc ix, 2)) (kk : zz_Z C M d mc ms kc ks (pc + 2) L (.ref (1000000 + i) :: st) g r n Q) : zz_Z C M d mc ms kc ks pc L st g r n Q := by
  intro p e s m args below meth c H locs ls hF hW hl hL
  have hkk := kk p e s m args below meth c H locs ls hF hW hl hL
  rw [List.map_cons, zz_vx] at hkk
  exact va_ldcS hF.1.1 hF.1.2.1 hF.1.2.2.2.2.2.1 (hR s hF.2.2.1.2.2.1) hd hkk
theorem zz_ldcw {v : Int32} (hd : decode M.2.1 pc = .ok (.ldc_w ix, 3)) (hc : Cond.constant M.1.cls ix v ∈ zz_tbl) (kk : zz_Z C M d mc ms kc ks (pc + 3) L (.int v :: st) g r n Q) : zz_Z C M d mc ms kc ks pc L st g r n Q := by
  intro p e s m args below meth c H locs ls hF hW hl hL
  exact lv_ldcw hF.1.1 hF.1.2.1 hF.1.2.2.2.2.2.1 (hF.2.1 _ hc) hd (kk p e s m args below meth c H locs ls hF hW hl hL)
/-- a method that the receiver's class selects -/
def zz_CU (own : String) (ix ci N na : Nat) (x : MethodName) (M : zz_M) : Prop := ∃ (owner Cn : String) (T : u_T) (b0 : ByteArray) (m0 : Nat) (r0 : Option FieldType), vwCl[ci]? = some (Cn, T, N) ∧ (Cond.methodLink own ix x ∈ zz_tbl ∧ Cond.sameMethod x.cls owner x.name x.desc ∈ zz_tbl ∧ Cond.instanceMethod ⟨owner, x.name, x.desc⟩ ∈ zz_tbl ∧ Cond.selects Cn x M.1 ∈ zz_tbl ∧ Cond.instanceMethod M.1 ∈ zz_tbl ∧ Cond.initialized M.1.cls ∈ zz_tbl ∧ Cond.code M.1 M.2.1 M.2.2.1 M.2.2.2 ∈ zz_tbl ∧ Cond.code ⟨owner, x.name, x.desc⟩ b0 m0 r0 ∈ zz_tbl) ∧ (owner ≠ "java/lang/invoke/MethodHandle" ∧ owner ≠ "java/lang/invoke/VarHandle" ∧ (parseMethodDescriptor x.desc).map (fun d => d.parameters.length) = some na) ∧ M.2.2.1 ≤ 21
theorem zz_callUg {x : MethodName} {as : List Value} (hcl : zz_CU M.1.cls ix ci N na x M') (hna : as.length = na) (hs : zz_sh k = (0, ci, N)) (hk : k < n) (hcat : (st.map fun v => v.category).sum ≤ 8) (hmc : kc + mc' ≤ mc) (hms : ks + ms' ≤ ms) (hd : decode M.2.1 pc = .ok (.invokevirtual ix, 3)) (hT : zz_T C M' d mc' ms' (.ref k :: as) g r n Q')
    (kk : ∀ v g' r' n', Q' v g' r' n' → zz_Z C M (d + 1) mc ms (kc + mc') (ks + ms') (pc + 3) L (v.toList ++ st) g' r' n' Q) : zz_Z C M (d + 1) mc ms kc ks pc L (as.reverse ++ .ref k :: st) g r n Q := by
  intro p e s m args below meth c H locs ls hF hW hl hL
  obtain ⟨owner, Cn, T, b0, m0, r0, hci, ⟨w1, w2, w3, w4, w5, w6, w7, w8⟩, hmh, hml⟩ := hcl
  have hst : (as.reverse ++ Value.ref k :: st).map (zz_v C) = (as.map (zz_v C)).reverse ++ .ref (zz_A C k) :: st.map (zz_v C) := by rw [List.map_append, List.map_reverse]; rfl
  rw [hst]
  refine zz_back (va_runU (C := Cn) (owner := owner) (x := x) (As := as.map (zz_v C)) (n := na) (nL := M.2.2.1) ⟨hF.1.1, hF.1.2.1, hF.1.2.2.2.2.1, hF.1.2.2.2.2.2.1, hF.2.1⟩ hT
    (va_cwO na hF.2.1 (zz_good fun w hw => ?_) rfl rfl rfl w8 hmh (zz_room hml))
    ⟨zz_blind (as := .ref k :: as), ?_, fun U hU hW1 => ⟨rfl, by rw [hU]; exact hW, hF.2.2.1.warm hW1⟩⟩ rfl (by rw [List.length_map]; exact hna) hL.1 rfl (lv_room (by rw [zz_cats]; exact hcat)) hd ⟨hmc, hms⟩) hl ?_
  · rcases List.mem_append.mp hw with h | h
    · simp only [List.mem_cons, List.not_mem_nil, or_false] at h
      rcases h with rfl | rfl | rfl | rfl | rfl | rfl
      · exact w1
      · exact w2
      · exact w3
      · exact w4
      · exact w5
      · exact w6
    · exact zz_ws_in w7 w h
  · obtain ⟨rr, h1, cell, q1, q2, q3, -⟩ := hW.obj hk hs
    exact ⟨cell, q1, by rw [q3]; rfl, by rw [q2]; exact (hF.2.2.1.1.1 ci _ hci).2.1⟩
  · intro v g' r' n' H1 locs1 hq hW1 hl1
    have := kk v g' r' n' hq p e s m args below meth c H1 locs1 ls hF hW1 hl1 hL
    rw [List.map_append] at this
    have e2 : (v.toList).map (zz_v C) = (v.map (zz_v C)).toList := by cases v <;> rfl
    rw [e2] at this
    exact this
end ZG
/-! super calls: the reference names x through the superclass, which may only inherit it -/
theorem zz_subc {vm : Vm} {a b c : ClassId} {k : Class} (hk : vm.classes[a]? = some k) (hs : k.super = some b) (hb : b = c) : vm.isSubclass a c = true := by
  subst hb
  have h1 : vm.classes.size ≠ 0 := fun h => by
    have := (Array.getElem?_eq_some_iff.mp hk).1
    omega
  obtain ⟨z, hz⟩ := Nat.exists_eq_succ_of_ne_zero h1
  unfold Vm.isSubclass
  rw [hz]
  simp [Vm.isSubclassAux, hk, hs]
section ZP
variable {p : Program} {l : Launch} {e : Env} {R : Room} {s : State} {m : MethodId} {args : Array Value} {below : List Frame} {meth : Method} {c : Code} {H : Heap} {locs : List Loc} {cells slots : Nat}
theorem zz_runSU {x y : MethodName} {bytes cc : ByteArray} {maxL nL mc ms n index : Nat} {ret : Option FieldType} {ws : List Cond} {rm : Room} {Pc : Array Value → State → Prop} {Qc : Array Value → State → Outcome → State → Prop} {free : Addr → Prop} {Ts : List Cond} {own C : String} {cC : ClassId} {b : Addr} {As rest : List Value} {g : JFrame}
    (hat : ClassAt s C cC) (S : CallFix p m c cc nL s args Ts own) (hM : Met l y ws rm Pc Qc mc ms free)
    (cw1 : rm.cells = mc ∧ rm.slots = ms ∧ rm.frames + 1 ≤ R.frames ∧ 8 + (maxL + 11) + rm.locals ≤ R.locals ∧ (∀ w ∈ ws, ∀ (a' : Array Value) (U : State), s.WarmedH U.vm → w.before a' U = true) ∧ Cond.code y bytes maxL ret ∈ ws)
    (hy : y.name = x.name ∧ y.desc = x.desc) (hlink : (Cond.methodLink own index x).before args s = true) (hsame : (Cond.sameMethod x.cls y.cls x.name x.desc).before args s = true) (hsup : (Cond.superclass own x.cls).before args s = true) (hsup2 : x.cls = y.cls ∨ (Cond.superclass x.cls y.cls).before args s = true)
    (hinst : (Cond.instanceMethod y).before args s = true) (hini : (Cond.initialized y.cls).before args s = true) (hcode : (Cond.code y bytes maxL ret).before args s = true) (hno : x.name ≠ "<init>") (hlen : ∀ sig, parseMethodDescriptor y.desc = some sig → n = sig.parameters.length) (hp : PreV s H C b Pc As)
    (hg : g.method = m) (hn : As.length = n) (hsize : g.locals.size = nL) (hstack : g.stack = As.reverse ++ .ref b :: rest) (hW : 2 * g.monitorRoom + (rest.map fun v => v.category).sum ≤ 8) (hdg : decode cc g.pc = .ok (.invokespecial index, 3)) (hf : cells + mc ≤ R.cells ∧ slots + ms ≤ R.slots) :
    va_Run p l e R s m args below meth c H locs cells slots mc ms g rest (Qc (Value.ref b :: As).toArray) (free) := by
  obtain ⟨hrc, hrs, hfr, hlo, hws, hcw⟩ := cw1
  have hK : Back l R p e below s args y 3 8 (PreOf R mc ms Pc) (PostOf Qc mc ms free) := back_of (bytes := bytes) (maxL := maxL) (ret := ret) hM hp.1 hrc hrs hfr hlo hws hcw (fun a' U hW => word_at hW (Or.inl (by first | rfl | simp [Cond.onTables, Cond.keeps, Cond.steady])) hini)
  obtain ⟨hx, hb, hml, ho, -⟩ := S
  obtain ⟨-, ⟨cellB, hcB, hoB, hclB⟩, hPc⟩ := hp
  obtain ⟨hfc, kB, hkB, -⟩ := hat
  cases hfc.symm.trans hclB
  intro T hT X
  obtain ⟨mk, methM, hnamed, hmethM, hstM, habM⟩ := Cond.instanceMethod_spec hinst
  obtain ⟨methM', cM, hmethM', -, -, -, -, -, -, hsigM⟩ := Cond.code_spec hnamed hcode
  cases hmethM.symm.trans hmethM'
  obtain ⟨ps, dk, kp, hps, hdk, hkp, hsuper, -, -, hnid⟩ := Cond.superclass_spec ho hsup
  have hnm : s.methodNamed? ⟨y.cls, x.name, x.desc⟩ = some mk := by rw [← hy.1, ← hy.2]; exact hnamed
  have hsub : s.vm.isSubclass ps mk.cls = true := by
    rcases hsup2 with h2 | h2
    · have hpm : ps = mk.cls := Option.some.inj (hps.symm.trans (by rw [h2]; exact findClass_of_methodNamed hnamed))
      rw [hpm]
      simp [Vm.isSubclass, Vm.isSubclassAux]
    · obtain ⟨ps2, dk2, kp2, hps2, hdk2, hkp2, hsuper2, -, -, hnid2⟩ := Cond.superclass_spec hps h2
      exact zz_subc hdk2 hsuper2 (Option.some.inj (hps2.symm.trans (findClass_of_methodNamed hnamed)))
  obtain ⟨vm₁, X₁, hstep₁⟩ := X.invokespecialUp hx ho hlink hsame hnm hmethM hstM habM hno hdk hnid hps hsuper hsub (a := b) (cell := cellB) (by rw [hT]; exact hcB)
    (fun z h => by rw [h] at hoB; cases hoB) hkB (g := g) hg (argsL := As) (rest := rest) (hn.trans (hlen _ hsigM)) hstack (by rw [hb]; exact hdg)
  obtain ⟨v, ⟨U', l2, c2, s2⟩, X', ⟨g', mk', t, Lo, e1, e2, hq, h1, hL, h2, h3⟩, hsteps⟩ := hK m meth c ⟨T.setVm vm₁, locs, cells, slots⟩ { g with stack := rest } (.invokespecial index) mk (Value.ref b :: As).toArray X₁ hg (hsize.trans hml.symm) (by rw [hb]; exact hdg) hW (X₁.named hnamed) ⟨hf.1, hf.2, hPc (T.setVm vm₁) hT X₁.warmed⟩
  dsimp only [Pt.U, Pt.locs, Pt.cells, Pt.slots] at X' e1 e2 h1 h2 h3 hsteps
  subst h1; subst h2; subst h3
  exact ⟨v, (T.setVm vm₁).calling g' mk' (Value.ref b :: As).toArray, t, U', Lo, hT, X', hL, e1, e2, hq, fun target h => hstep₁ _ (by rw [doInvoke_state]; exact hsteps.trans h)⟩
end ZP
section ZQ
variable {C : zz_C} {M M' : zz_M} {d mc ms mc' ms' kc ks pc : Nat} {L : List (Option Value)} {st : List Value} {g : zz_G} {r : zz_R} {n : Nat} {Q Q' : zz_Q}
variable {k ci N ix na : Nat}
def zz_CP (own : String) (ix na : Nat) (x : MethodName) (M : zz_M) : Prop := (Cond.methodLink own ix x ∈ zz_tbl ∧ Cond.sameMethod x.cls M.1.cls x.name x.desc ∈ zz_tbl ∧ Cond.superclass own x.cls ∈ zz_tbl ∧ (x.cls = M.1.cls ∨ Cond.superclass x.cls M.1.cls ∈ zz_tbl) ∧ Cond.instanceMethod M.1 ∈ zz_tbl ∧ Cond.initialized M.1.cls ∈ zz_tbl ∧ Cond.code M.1 M.2.1 M.2.2.1 M.2.2.2 ∈ zz_tbl) ∧ (M.1.name = x.name ∧ M.1.desc = x.desc) ∧ x.name ≠ "<init>" ∧ (parseMethodDescriptor M.1.desc).map (fun d => d.parameters.length) = some na ∧ M.2.2.1 ≤ 21
theorem zz_callPg {x : MethodName} {as : List Value} (hcl : zz_CP M.1.cls ix na x M') (hna : as.length = na) {Cn : String} {T : u_T} (hci : vwCl[ci]? = some (Cn, T, N)) (hs : zz_sh k = (0, ci, N)) (hk : k < n) (hcat : (st.map fun v => v.category).sum ≤ 8) (hmc : kc + mc' ≤ mc) (hms : ks + ms' ≤ ms) (hd : decode M.2.1 pc = .ok (.invokespecial ix, 3)) (hT : zz_T C M' d mc' ms' (.ref k :: as) g r n Q')
    (kk : ∀ v g' r' n', Q' v g' r' n' → zz_Z C M (d + 1) mc ms (kc + mc') (ks + ms') (pc + 3) L (v.toList ++ st) g' r' n' Q) : zz_Z C M (d + 1) mc ms kc ks pc L (as.reverse ++ .ref k :: st) g r n Q := by
  intro p e s m args below meth c H locs ls hF hW hl hL
  obtain ⟨⟨w1, w2, w3, w4, w5, w6, w7⟩, hy, hno, hpd, hml⟩ := hcl
  have hst : (as.reverse ++ Value.ref k :: st).map (zz_v C) = (as.map (zz_v C)).reverse ++ .ref (zz_A C k) :: st.map (zz_v C) := by rw [List.map_append, List.map_reverse]; rfl
  rw [hst]
  obtain ⟨rr, h1, cell, q1, q2, q3, -⟩ := hW.obj hk hs
  have hat := (hF.2.2.1.1.1 ci _ hci).2
  refine zz_back (zz_runSU (x := x) (C := Cn) (As := as.map (zz_v C)) (n := na) (nL := M.2.2.1) (bytes := M'.2.1) (maxL := M'.2.2.1) (ret := M'.2.2.2) hat ⟨hF.1.1, hF.1.2.1, hF.1.2.2.2.2.1, hF.1.2.2.2.2.2.1, hF.2.1⟩ hT
    ⟨rfl, rfl, (zz_room hml).1, (zz_room hml).2, pay_in hF.2.1 (zz_good (zz_ws_in w7)), List.mem_cons_self⟩ hy (hF.2.1 _ w1) (hF.2.1 _ w2) (hF.2.1 _ w3) (w4.elim Or.inl fun h => Or.inr (hF.2.1 _ h)) (hF.2.1 _ w5) (hF.2.1 _ w6) (hF.2.1 _ w7) hno (fun sig h => ?_)
    ⟨zz_blind (as := .ref k :: as), ⟨cell, q1, by rw [q3]; rfl, by rw [q2]; exact hat.1⟩, fun U hU hW1 => ⟨rfl, by rw [hU]; exact hW, hF.2.2.1.warm hW1⟩⟩ rfl (by rw [List.length_map]; exact hna) hL.1 rfl (lv_room (by rw [zz_cats]; exact hcat)) hd ⟨hmc, hms⟩) hl ?_
  · rw [h] at hpd
    exact (Option.some.inj hpd).symm
  · intro v g' r' n' H1 locs1 hq hW1 hl1
    have := kk v g' r' n' hq p e s m args below meth c H1 locs1 ls hF hW1 hl1 hL
    rw [List.map_append] at this
    have e2 : (v.toList).map (zz_v C) = (v.map (zz_v C)).toList := by cases v <;> rfl
    rw [e2] at this
    exact this
end ZQ
