/-! switches: a row a count of entries -/
def zz_swok (pc : Nat) (dflt lo hi : Int) (offs : Array Int) (ks : List (Int32 × Nat)) (td : Nat) : Bool :=
  decide (offs.size = ks.length) && decide (hi = lo + ks.length - 1) && decide ((pc : Int) + dflt = (td : Int)) && (List.range ks.length).all (fun i => decide ((ks.getD i (0, 0)).1.toInt = lo + i) && decide ((pc : Int) + offs.getD i 0 = ((ks.getD i (0, 0)).2 : Int)))
theorem zz_tswg {C : zz_C} {M : zz_M} {d mc ms kc ks pc : Nat} {L : List (Option Value)} {st : List Value} {g : zz_G} {r : zz_R} {n : Nat} {Q : zz_Q} {x : Int32} {dflt lo hi : Int} {offs : Array Int} {len : Nat} (es : List (Int32 × Nat)) (td : Nat) (hd : decode M.2.1 pc = .ok (.tableswitch dflt lo hi offs, len)) (hok : zz_swok pc dflt lo hi offs es td = true)
    (hin : ∀ q ∈ es, x = q.1 → zz_Z C M d mc ms kc ks q.2 L st g r n Q) (hout : (∀ q ∈ es, ¬ x = q.1) → zz_Z C M d mc ms kc ks td L st g r n Q) : zz_Z C M d mc ms kc ks pc L (.int x :: st) g r n Q := by
  simp only [zz_swok, Bool.and_eq_true, decide_eq_true_eq, List.all_eq_true, List.mem_range] at hok
  obtain ⟨⟨⟨h1, h2⟩, h3⟩, h4⟩ := hok
  have ent : ∀ i, i < es.length → (es.getD i (0, 0)) ∈ es := fun i hi => by
    rw [List.getD_eq_getElem?_getD, List.getElem?_eq_getElem hi, Option.getD_some]
    exact List.getElem_mem hi
  by_cases hlo : x.toInt < lo
  · refine zz_tableOut td hd (Or.inl hlo) h3 (hout fun q hq e => ?_)
    obtain ⟨i, hi, e2⟩ := List.getElem_of_mem hq
    have h5 := (h4 i hi).1
    rw [List.getD_eq_getElem?_getD, List.getElem?_eq_getElem hi, Option.getD_some, e2, ← e] at h5
    omega
  · by_cases hhi : hi < x.toInt
    · refine zz_tableOut td hd (Or.inr hhi) h3 (hout fun q hq e => ?_)
      obtain ⟨i, hi, e2⟩ := List.getElem_of_mem hq
      have h5 := (h4 i hi).1
      rw [List.getD_eq_getElem?_getD, List.getElem?_eq_getElem hi, Option.getD_some, e2, ← e] at h5
      omega
    · have hi0 : (x.toInt - lo).toNat < es.length := by omega
      have h5 := h4 _ hi0
      refine zz_tableIn (es.getD (x.toInt - lo).toNat (0, 0)).2 hd hlo hhi (off := offs.getD (x.toInt - lo).toNat 0) ?_ h5.2 (hin _ (ent _ hi0) ?_)
      · rw [Array.getD_eq_getD_getElem?, Array.getElem?_eq_getElem (by omega), Option.getD_some]
      · apply Int32.toInt_inj.mp
        rw [h5.1]
        omega
theorem zz_tsw3 {C : zz_C} {M : zz_M} {d mc ms kc ks pc : Nat} {L : List (Option Value)} {st : List Value} {g : zz_G} {r : zz_R} {n : Nat} {Q : zz_Q} {x : Int32} {dflt lo hi : Int} {offs : Array Int} {len : Nat} (v0 v1 v2 : Int32) (t0 t1 t2 td : Nat) (hd : decode M.2.1 pc = .ok (.tableswitch dflt lo hi offs, len)) (hok : zz_swok pc dflt lo hi offs [(v0, t0), (v1, t1), (v2, t2)] td = true) (k0 : x = v0 → zz_Z C M d mc ms kc ks t0 L st g r n Q) (k1 : x = v1 → zz_Z C M d mc ms kc ks t1 L st g r n Q) (k2 : x = v2 → zz_Z C M d mc ms kc ks t2 L st g r n Q) (kd : ¬ x = v0 → ¬ x = v1 → ¬ x = v2 → zz_Z C M d mc ms kc ks td L st g r n Q) : zz_Z C M d mc ms kc ks pc L (.int x :: st) g r n Q :=
  zz_tswg [(v0, t0), (v1, t1), (v2, t2)] td hd hok (List.forall_mem_cons.mpr ⟨k0, List.forall_mem_cons.mpr ⟨k1, List.forall_mem_cons.mpr ⟨k2, fun _ h => absurd h List.not_mem_nil⟩⟩⟩) (fun hall => by
    have ho : ∀ v t, (v, t) ∈ [(v0, t0), (v1, t1), (v2, t2)] → ¬ x = v := fun v t h => hall (v, t) h
    exact kd (ho v0 t0 (by simp)) (ho v1 t1 (by simp)) (ho v2 t2 (by simp)))
theorem zz_tsw4 {C : zz_C} {M : zz_M} {d mc ms kc ks pc : Nat} {L : List (Option Value)} {st : List Value} {g : zz_G} {r : zz_R} {n : Nat} {Q : zz_Q} {x : Int32} {dflt lo hi : Int} {offs : Array Int} {len : Nat} (v0 v1 v2 v3 : Int32) (t0 t1 t2 t3 td : Nat) (hd : decode M.2.1 pc = .ok (.tableswitch dflt lo hi offs, len)) (hok : zz_swok pc dflt lo hi offs [(v0, t0), (v1, t1), (v2, t2), (v3, t3)] td = true) (k0 : x = v0 → zz_Z C M d mc ms kc ks t0 L st g r n Q) (k1 : x = v1 → zz_Z C M d mc ms kc ks t1 L st g r n Q) (k2 : x = v2 → zz_Z C M d mc ms kc ks t2 L st g r n Q) (k3 : x = v3 → zz_Z C M d mc ms kc ks t3 L st g r n Q) (kd : ¬ x = v0 → ¬ x = v1 → ¬ x = v2 → ¬ x = v3 → zz_Z C M d mc ms kc ks td L st g r n Q) : zz_Z C M d mc ms kc ks pc L (.int x :: st) g r n Q :=
  zz_tswg [(v0, t0), (v1, t1), (v2, t2), (v3, t3)] td hd hok (List.forall_mem_cons.mpr ⟨k0, List.forall_mem_cons.mpr ⟨k1, List.forall_mem_cons.mpr ⟨k2, List.forall_mem_cons.mpr ⟨k3, fun _ h => absurd h List.not_mem_nil⟩⟩⟩⟩) (fun hall => by
    have ho : ∀ v t, (v, t) ∈ [(v0, t0), (v1, t1), (v2, t2), (v3, t3)] → ¬ x = v := fun v t h => hall (v, t) h
    exact kd (ho v0 t0 (by simp)) (ho v1 t1 (by simp)) (ho v2 t2 (by simp)) (ho v3 t3 (by simp)))
theorem zz_tsw5 {C : zz_C} {M : zz_M} {d mc ms kc ks pc : Nat} {L : List (Option Value)} {st : List Value} {g : zz_G} {r : zz_R} {n : Nat} {Q : zz_Q} {x : Int32} {dflt lo hi : Int} {offs : Array Int} {len : Nat} (v0 v1 v2 v3 v4 : Int32) (t0 t1 t2 t3 t4 td : Nat) (hd : decode M.2.1 pc = .ok (.tableswitch dflt lo hi offs, len)) (hok : zz_swok pc dflt lo hi offs [(v0, t0), (v1, t1), (v2, t2), (v3, t3), (v4, t4)] td = true) (k0 : x = v0 → zz_Z C M d mc ms kc ks t0 L st g r n Q) (k1 : x = v1 → zz_Z C M d mc ms kc ks t1 L st g r n Q) (k2 : x = v2 → zz_Z C M d mc ms kc ks t2 L st g r n Q) (k3 : x = v3 → zz_Z C M d mc ms kc ks t3 L st g r n Q) (k4 : x = v4 → zz_Z C M d mc ms kc ks t4 L st g r n Q) (kd : ¬ x = v0 → ¬ x = v1 → ¬ x = v2 → ¬ x = v3 → ¬ x = v4 → zz_Z C M d mc ms kc ks td L st g r n Q) : zz_Z C M d mc ms kc ks pc L (.int x :: st) g r n Q :=
  zz_tswg [(v0, t0), (v1, t1), (v2, t2), (v3, t3), (v4, t4)] td hd hok (List.forall_mem_cons.mpr ⟨k0, List.forall_mem_cons.mpr ⟨k1, List.forall_mem_cons.mpr ⟨k2, List.forall_mem_cons.mpr ⟨k3, List.forall_mem_cons.mpr ⟨k4, fun _ h => absurd h List.not_mem_nil⟩⟩⟩⟩⟩) (fun hall => by
    have ho : ∀ v t, (v, t) ∈ [(v0, t0), (v1, t1), (v2, t2), (v3, t3), (v4, t4)] → ¬ x = v := fun v t h => hall (v, t) h
    exact kd (ho v0 t0 (by simp)) (ho v1 t1 (by simp)) (ho v2 t2 (by simp)) (ho v3 t3 (by simp)) (ho v4 t4 (by simp)))
theorem zz_tsw15 {C : zz_C} {M : zz_M} {d mc ms kc ks pc : Nat} {L : List (Option Value)} {st : List Value} {g : zz_G} {r : zz_R} {n : Nat} {Q : zz_Q} {x : Int32} {dflt lo hi : Int} {offs : Array Int} {len : Nat} (v0 v1 v2 v3 v4 v5 v6 v7 v8 v9 v10 v11 v12 v13 v14 : Int32) (t0 t1 t2 t3 t4 t5 t6 t7 t8 t9 t10 t11 t12 t13 t14 td : Nat) (hd : decode M.2.1 pc = .ok (.tableswitch dflt lo hi offs, len)) (hok : zz_swok pc dflt lo hi offs [(v0, t0), (v1, t1), (v2, t2), (v3, t3), (v4, t4), (v5, t5), (v6, t6), (v7, t7), (v8, t8), (v9, t9), (v10, t10), (v11, t11), (v12, t12), (v13, t13), (v14, t14)] td = true) (k0 : x = v0 → zz_Z C M d mc ms kc ks t0 L st g r n Q) (k1 : x = v1 → zz_Z C M d mc ms kc ks t1 L st g r n Q) (k2 : x = v2 → zz_Z C M d mc ms kc ks t2 L st g r n Q) (k3 : x = v3 → zz_Z C M d mc ms kc ks t3 L st g r n Q) (k4 : x = v4 → zz_Z C M d mc ms kc ks t4 L st g r n Q) (k5 : x = v5 → zz_Z C M d mc ms kc ks t5 L st g r n Q) (k6 : x = v6 → zz_Z C M d mc ms kc ks t6 L st g r n Q) (k7 : x = v7 → zz_Z C M d mc ms kc ks t7 L st g r n Q) (k8 : x = v8 → zz_Z C M d mc ms kc ks t8 L st g r n Q) (k9 : x = v9 → zz_Z C M d mc ms kc ks t9 L st g r n Q) (k10 : x = v10 → zz_Z C M d mc ms kc ks t10 L st g r n Q) (k11 : x = v11 → zz_Z C M d mc ms kc ks t11 L st g r n Q) (k12 : x = v12 → zz_Z C M d mc ms kc ks t12 L st g r n Q) (k13 : x = v13 → zz_Z C M d mc ms kc ks t13 L st g r n Q) (k14 : x = v14 → zz_Z C M d mc ms kc ks t14 L st g r n Q) (kd : ¬ x = v0 → ¬ x = v1 → ¬ x = v2 → ¬ x = v3 → ¬ x = v4 → ¬ x = v5 → ¬ x = v6 → ¬ x = v7 → ¬ x = v8 → ¬ x = v9 → ¬ x = v10 → ¬ x = v11 → ¬ x = v12 → ¬ x = v13 → ¬ x = v14 → zz_Z C M d mc ms kc ks td L st g r n Q) : zz_Z C M d mc ms kc ks pc L (.int x :: st) g r n Q :=
  zz_tswg [(v0, t0), (v1, t1), (v2, t2), (v3, t3), (v4, t4), (v5, t5), (v6, t6), (v7, t7), (v8, t8), (v9, t9), (v10, t10), (v11, t11), (v12, t12), (v13, t13), (v14, t14)] td hd hok (List.forall_mem_cons.mpr ⟨k0, List.forall_mem_cons.mpr ⟨k1, List.forall_mem_cons.mpr ⟨k2, List.forall_mem_cons.mpr ⟨k3, List.forall_mem_cons.mpr ⟨k4, List.forall_mem_cons.mpr ⟨k5, List.forall_mem_cons.mpr ⟨k6, List.forall_mem_cons.mpr ⟨k7, List.forall_mem_cons.mpr ⟨k8, List.forall_mem_cons.mpr ⟨k9, List.forall_mem_cons.mpr ⟨k10, List.forall_mem_cons.mpr ⟨k11, List.forall_mem_cons.mpr ⟨k12, List.forall_mem_cons.mpr ⟨k13, List.forall_mem_cons.mpr ⟨k14, fun _ h => absurd h List.not_mem_nil⟩⟩⟩⟩⟩⟩⟩⟩⟩⟩⟩⟩⟩⟩⟩) (fun hall => by
    have ho : ∀ v t, (v, t) ∈ [(v0, t0), (v1, t1), (v2, t2), (v3, t3), (v4, t4), (v5, t5), (v6, t6), (v7, t7), (v8, t8), (v9, t9), (v10, t10), (v11, t11), (v12, t12), (v13, t13), (v14, t14)] → ¬ x = v := fun v t h => hall (v, t) h
    exact kd (ho v0 t0 (by simp)) (ho v1 t1 (by simp)) (ho v2 t2 (by simp)) (ho v3 t3 (by simp)) (ho v4 t4 (by simp)) (ho v5 t5 (by simp)) (ho v6 t6 (by simp)) (ho v7 t7 (by simp)) (ho v8 t8 (by simp)) (ho v9 t9 (by simp)) (ho v10 t10 (by simp)) (ho v11 t11 (by simp)) (ho v12 t12 (by simp)) (ho v13 t13 (by simp)) (ho v14 t14 (by simp)))
def zz_lsok (pc : Nat) (ps : List (Int × Int)) (es : List (Int32 × Nat)) : Bool := decide (ps.length = es.length) && (List.range es.length).all (fun i => decide ((es.getD i (0, 0)).1.toInt = (ps.getD i (0, 0)).1) && decide ((pc : Int) + (ps.getD i (0, 0)).2 = ((es.getD i (0, 0)).2 : Int)))
theorem zz_lswoff (pc : Nat) (dflt : Int) (x : Int32) : ∀ (ps : List (Int × Int)) (es : List (Int32 × Nat)), zz_lsok pc ps es = true → (∃ q ∈ es, x = q.1 ∧ (pc : Int) + Op.lookupswitch.offset ps dflt x.toInt = (q.2 : Int)) ∨ ((∀ q ∈ es, ¬ x = q.1) ∧ Op.lookupswitch.offset ps dflt x.toInt = dflt) := by
  intro ps
  induction ps with
  | nil =>
    intro es h
    cases es with
    | nil => exact Or.inr ⟨fun q hq => absurd hq List.not_mem_nil, rfl⟩
    | cons e t => simp [zz_lsok] at h
  | cons p ps ih =>
    intro es h
    cases es with
    | nil => simp [zz_lsok] at h
    | cons e t =>
      simp only [zz_lsok, Bool.and_eq_true, decide_eq_true_eq, List.all_eq_true, List.mem_range, List.length_cons] at h
      obtain ⟨h1, h2⟩ := h
      have h0 := h2 0 (by omega)
      simp only [List.getD_cons_zero] at h0
      have ht : zz_lsok pc ps t = true := by
        simp only [zz_lsok, Bool.and_eq_true, decide_eq_true_eq, List.all_eq_true, List.mem_range]
        refine ⟨by omega, fun i hi => ?_⟩
        have := h2 (i + 1) (by omega)
        simpa only [List.getD_cons_succ] using this
      obtain ⟨pa, po⟩ := p
      by_cases hx : x = e.1
      · refine Or.inl ⟨e, List.mem_cons_self, hx, ?_⟩
        rw [Op.lookupswitch.offset_cons, if_pos (by rw [hx]; exact h0.1.symm)]
        exact h0.2
      · have hne : ¬ pa = x.toInt := fun q => hx (Int32.toInt_inj.mp (by rw [h0.1]; exact q.symm))
        rcases ih t ht with ⟨q, hq, e1, e2⟩ | ⟨a1, a2⟩
        · refine Or.inl ⟨q, List.mem_cons_of_mem _ hq, e1, ?_⟩
          rw [Op.lookupswitch.offset_cons, if_neg hne]
          exact e2
        · refine Or.inr ⟨fun q hq => (List.mem_cons.mp hq).elim (fun e1 => e1 ▸ hx) (a1 q), ?_⟩
          rw [Op.lookupswitch.offset_cons, if_neg hne]
          exact a2
theorem zz_lsw {C : zz_C} {M : zz_M} {d mc ms kc ks pc : Nat} {L : List (Option Value)} {st : List Value} {g : zz_G} {r : zz_R} {n : Nat} {Q : zz_Q} {x : Int32} {dflt : Int} {ps : Array (Int × Int)} {len : Nat} (es : List (Int32 × Nat)) (td : Nat) (hd : decode M.2.1 pc = .ok (.lookupswitch dflt ps, len)) (hp : (ps.toList.zip (ps.toList.drop 1)).all (fun (a, next) => a.1 < next.1) = true) (hok : zz_lsok pc ps.toList es = true) (htd : (pc : Int) + dflt = (td : Int))
    (hin : ∀ q ∈ es, x = q.1 → zz_Z C M d mc ms kc ks q.2 L st g r n Q) (hout : (∀ q ∈ es, ¬ x = q.1) → zz_Z C M d mc ms kc ks td L st g r n Q) : zz_Z C M d mc ms kc ks pc L (.int x :: st) g r n Q := by
  rcases zz_lswoff pc dflt x ps.toList es hok with ⟨q, hq, e1, e2⟩ | ⟨a1, a2⟩
  · exact zz_lookup q.2 hd hp rfl e2 (hin q hq e1)
  · exact zz_lookup td hd hp a2 htd (hout a1)
