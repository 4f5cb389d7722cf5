theorem vk_S.cg {N : Nat} {len : List Nat} {byt : List (List Int32)} {adK adV adK' adV' : Nat → Nat} {A : Nat → Prop} {U : State} {H : Heap} (h : vk_S N len byt adK adV A U H) (e1 : ∀ i, i < N → adK' i = adK i) (e2 : ∀ i, i < N → adV' i = adV i) : vk_S N len byt adK' adV' A U H :=
  ⟨fun i hi => by rw [e1 i hi, e2 i hi]; exact h.1 i hi, fun i j hi hj e => h.2 i j hi hj (by rw [← e1 i hi, ← e1 j hj]; exact e)⟩
theorem law_kn {s : State} {args : Array Value} (hts : ∀ w ∈ zz_tbl, w.before args s = true) : ∃ (dC : Nat → ClassId) (dI : Nat → Nat → Nat), ∀ (k : Nat) (q : vw_C), vwCl[k]? = some q → u_Kn s q.1 q.2.1 q.2.2 (dC k) (dI k) := by
  obtain ⟨c0, i0, h0⟩ := u_known (C := RX0) (T := TX0) (N := 15) (n := 15) hts cf_X0.2.1 (hts _ ki_X0)
  obtain ⟨c1, i1, h1⟩ := u_known (C := RX1) (T := TX1) (N := 0) (n := 0) hts cf_X1.2.1 (hts _ ki_X1)
  obtain ⟨c2, i2, h2⟩ := u_known (C := RX2) (T := TX2) (N := 0) (n := 0) hts cf_X2.2.1 (hts _ ki_X2)
  obtain ⟨c3, i3, h3⟩ := u_known (C := RX3) (T := TX3) (N := 0) (n := 0) hts cf_X3.2.1 (hts _ ki_X3)
  obtain ⟨c4, i4, h4⟩ := u_known (C := RX4) (T := TX4) (N := 0) (n := 0) hts cf_X4.2.1 (hts _ ki_X4)
  obtain ⟨c5, i5, h5⟩ := u_known (C := RX5) (T := TX5) (N := 5) (n := 5) hts cf_X5.2.1 (hts _ ki_X5)
  obtain ⟨c6, i6, h6⟩ := u_known (C := RX6) (T := TX6) (N := 0) (n := 0) hts cf_X6.2.1 (hts _ ki_X6)
  obtain ⟨c7, i7, h7⟩ := u_known (C := RX7) (T := TX7) (N := 0) (n := 0) hts cf_X7.2.1 (hts _ ki_X7)
  obtain ⟨c8, i8, h8⟩ := u_known (C := RX8) (T := TX8) (N := 2) (n := 2) hts cf_X8.2.1 (hts _ ki_X8)
  obtain ⟨c9, i9, h9⟩ := u_known (C := RX9) (T := TX9) (N := 4) (n := 4) hts cf_X9.2.1 (hts _ ki_X9)
  obtain ⟨c10, i10, h10⟩ := u_known (C := RX10) (T := TX10) (N := 0) (n := 0) hts cf_X10.2.1 (hts _ ki_X10)
  obtain ⟨c11, i11, h11⟩ := u_known (C := RX11) (T := TX11) (N := 11) (n := 11) hts cf_X11.2.1 (hts _ ki_X11)
  obtain ⟨c12, i12, h12⟩ := u_known (C := RX12) (T := TX12) (N := 23) (n := 23) hts cf_X12.2.1 (hts _ ki_X12)
  refine ⟨fun k => if k = 0 then c0 else if k = 1 then c1 else if k = 2 then c2 else if k = 3 then c3 else if k = 4 then c4 else if k = 5 then c5 else if k = 6 then c6 else if k = 7 then c7 else if k = 8 then c8 else if k = 9 then c9 else if k = 10 then c10 else if k = 11 then c11 else c12, fun k => if k = 0 then i0 else if k = 1 then i1 else if k = 2 then i2 else if k = 3 then i3 else if k = 4 then i4 else if k = 5 then i5 else if k = 6 then i6 else if k = 7 then i7 else if k = 8 then i8 else if k = 9 then i9 else if k = 10 then i10 else if k = 11 then i11 else i12, fun k q hq => ?_⟩
  have hk : k < 13 := (List.getElem?_eq_some_iff.mp hq).1
  rcases (show k = 0 ∨ k = 1 ∨ k = 2 ∨ k = 3 ∨ k = 4 ∨ k = 5 ∨ k = 6 ∨ k = 7 ∨ k = 8 ∨ k = 9 ∨ k = 10 ∨ k = 11 ∨ k = 12 by omega) with rfl | rfl | rfl | rfl | rfl | rfl | rfl | rfl | rfl | rfl | rfl | rfl | rfl
  · have e : (RX0, TX0, 15) = q := Option.some.inj hq
    subst e
    exact h0
  · have e : (RX1, TX1, 0) = q := Option.some.inj hq
    subst e
    exact h1
  · have e : (RX2, TX2, 0) = q := Option.some.inj hq
    subst e
    exact h2
  · have e : (RX3, TX3, 0) = q := Option.some.inj hq
    subst e
    exact h3
  · have e : (RX4, TX4, 0) = q := Option.some.inj hq
    subst e
    exact h4
  · have e : (RX5, TX5, 5) = q := Option.some.inj hq
    subst e
    exact h5
  · have e : (RX6, TX6, 0) = q := Option.some.inj hq
    subst e
    exact h6
  · have e : (RX7, TX7, 0) = q := Option.some.inj hq
    subst e
    exact h7
  · have e : (RX8, TX8, 2) = q := Option.some.inj hq
    subst e
    exact h8
  · have e : (RX9, TX9, 4) = q := Option.some.inj hq
    subst e
    exact h9
  · have e : (RX10, TX10, 0) = q := Option.some.inj hq
    subst e
    exact h10
  · have e : (RX11, TX11, 11) = q := Option.some.inj hq
    subst e
    exact h11
  · have e : (RX12, TX12, 23) = q := Option.some.inj hq
    subst e
    exact h12
theorem law_t_RULE_LEAST {s : State} {b : Nat} {A : Nat → Prop} (hs : ∀ c ∈ flatC (Jvm.Cond.and given_1 narrow_1), c.before #[Value.ref b] s = true) (hA : ∀ a : Nat, a < s.heap.size → ¬ A a) : ∃ t : Nat, (Term.static "SixFigures" "RULE_LEAST" "[I").eval #[Value.ref b] s none [] s = some (.ref t) ∧ va_T .int t 5 (fun j => .int (([1, 1, 1, 1, 0] : List Int32).getD j 0)) A s s.heap := by
  refine va_Tof (by decide) (hs (Cond.arrayOf (.static "SixFigures" "RULE_LEAST" "[I") .int) (by decide +kernel)) (va_eqt (hs (Cond.eq (.length (.static "SixFigures" "RULE_LEAST" "[I")) (.int 5)) (by decide +kernel))) (fun j hj => ?_) hA
  rcases (show j = 0 ∨ j = 1 ∨ j = 2 ∨ j = 3 ∨ j = 4 by omega) with rfl | rfl | rfl | rfl | rfl
  · exact va_eqt (hs (Cond.eq (.elem (.static "SixFigures" "RULE_LEAST" "[I") (.int 0)) (.int 1)) (by decide +kernel))
  · exact va_eqt (hs (Cond.eq (.elem (.static "SixFigures" "RULE_LEAST" "[I") (.int 1)) (.int 1)) (by decide +kernel))
  · exact va_eqt (hs (Cond.eq (.elem (.static "SixFigures" "RULE_LEAST" "[I") (.int 2)) (.int 1)) (by decide +kernel))
  · exact va_eqt (hs (Cond.eq (.elem (.static "SixFigures" "RULE_LEAST" "[I") (.int 3)) (.int 1)) (by decide +kernel))
  · exact va_eqt (hs (Cond.eq (.elem (.static "SixFigures" "RULE_LEAST" "[I") (.int 4)) (.int 0)) (by decide +kernel))
theorem law_t_RULE_MOST {s : State} {b : Nat} {A : Nat → Prop} (hs : ∀ c ∈ flatC (Jvm.Cond.and given_1 narrow_1), c.before #[Value.ref b] s = true) (hA : ∀ a : Nat, a < s.heap.size → ¬ A a) : ∃ t : Nat, (Term.static "SixFigures" "RULE_MOST" "[I").eval #[Value.ref b] s none [] s = some (.ref t) ∧ va_T .int t 5 (fun j => .int (([6, 300, 9, 9999, 1] : List Int32).getD j 0)) A s s.heap := by
  refine va_Tof (by decide) (hs (Cond.arrayOf (.static "SixFigures" "RULE_MOST" "[I") .int) (by decide +kernel)) (va_eqt (hs (Cond.eq (.length (.static "SixFigures" "RULE_MOST" "[I")) (.int 5)) (by decide +kernel))) (fun j hj => ?_) hA
  rcases (show j = 0 ∨ j = 1 ∨ j = 2 ∨ j = 3 ∨ j = 4 by omega) with rfl | rfl | rfl | rfl | rfl
  · exact va_eqt (hs (Cond.eq (.elem (.static "SixFigures" "RULE_MOST" "[I") (.int 0)) (.int 6)) (by decide +kernel))
  · exact va_eqt (hs (Cond.eq (.elem (.static "SixFigures" "RULE_MOST" "[I") (.int 1)) (.int 300)) (by decide +kernel))
  · exact va_eqt (hs (Cond.eq (.elem (.static "SixFigures" "RULE_MOST" "[I") (.int 2)) (.int 9)) (by decide +kernel))
  · exact va_eqt (hs (Cond.eq (.elem (.static "SixFigures" "RULE_MOST" "[I") (.int 3)) (.int 9999)) (by decide +kernel))
  · exact va_eqt (hs (Cond.eq (.elem (.static "SixFigures" "RULE_MOST" "[I") (.int 4)) (.int 1)) (by decide +kernel))
theorem law_t_ABOVE {s : State} {b : Nat} {A : Nat → Prop} (hs : ∀ c ∈ flatC (Jvm.Cond.and given_1 narrow_1), c.before #[Value.ref b] s = true) (hA : ∀ a : Nat, a < s.heap.size → ¬ A a) : ∃ t : Nat, (Term.static "SixFigures" "ABOVE" "[I").eval #[Value.ref b] s none [] s = some (.ref t) ∧ va_T .int t 7 (fun j => .int (([-1, 0, 0, 0, 1, 2, 3] : List Int32).getD j 0)) A s s.heap := by
  refine va_Tof (by decide) (hs (Cond.arrayOf (.static "SixFigures" "ABOVE" "[I") .int) (by decide +kernel)) (va_eqt (hs (Cond.eq (.length (.static "SixFigures" "ABOVE" "[I")) (.int 7)) (by decide +kernel))) (fun j hj => ?_) hA
  rcases (show j = 0 ∨ j = 1 ∨ j = 2 ∨ j = 3 ∨ j = 4 ∨ j = 5 ∨ j = 6 by omega) with rfl | rfl | rfl | rfl | rfl | rfl | rfl
  · exact va_eqt (hs (Cond.eq (.elem (.static "SixFigures" "ABOVE" "[I") (.int 0)) (.int (-1))) (by decide +kernel))
  · exact va_eqt (hs (Cond.eq (.elem (.static "SixFigures" "ABOVE" "[I") (.int 1)) (.int 0)) (by decide +kernel))
  · exact va_eqt (hs (Cond.eq (.elem (.static "SixFigures" "ABOVE" "[I") (.int 2)) (.int 0)) (by decide +kernel))
  · exact va_eqt (hs (Cond.eq (.elem (.static "SixFigures" "ABOVE" "[I") (.int 3)) (.int 0)) (by decide +kernel))
  · exact va_eqt (hs (Cond.eq (.elem (.static "SixFigures" "ABOVE" "[I") (.int 4)) (.int 1)) (by decide +kernel))
  · exact va_eqt (hs (Cond.eq (.elem (.static "SixFigures" "ABOVE" "[I") (.int 5)) (.int 2)) (by decide +kernel))
  · exact va_eqt (hs (Cond.eq (.elem (.static "SixFigures" "ABOVE" "[I") (.int 6)) (.int 3)) (by decide +kernel))
def law_tm (i : Nat) : Term := if i = 0 then .string "SixFigures" 146 else if i = 1 then .string "SixFigures" 148 else .string "SixFigures$Reader" 29
theorem law_strs {s : State} {b : Nat} {A : Nat → Prop} (hs : ∀ c ∈ flatC (Jvm.Cond.and given_1 narrow_1), c.before #[Value.ref b] s = true) (hA : ∀ a : Nat, a < s.heap.size → ¬ A a) : ∃ adK adV : Nat → Nat, vk_S 3 [3, 3, 0] [[109, 107, 115], [102, 103, 119], []] adK adV A s s.heap ∧ ∀ i : Nat, i < 3 → (law_tm i).eval #[Value.ref b] s none [] s = some (.ref (adK i)) := by
  refine vk_Sof (fun i hi => ?_) (fun i hi => ?_) (fun i hi => ?_) (fun i hi => ?_) (fun i hi => ?_) (fun i hi j hj => ?_) (fun i j hi hj hij => ?_) hA
  · rcases (show i = 0 ∨ i = 1 ∨ i = 2 by omega) with rfl | rfl | rfl <;> decide
  · rcases (show i = 0 ∨ i = 1 ∨ i = 2 by omega) with rfl | rfl | rfl
    · exact hs (Cond.exactly (.string "SixFigures" 146) "java/lang/String") (by decide +kernel)
    · exact hs (Cond.exactly (.string "SixFigures" 148) "java/lang/String") (by decide +kernel)
    · exact hs (Cond.exactly (.string "SixFigures$Reader" 29) "java/lang/String") (by decide +kernel)
  · rcases (show i = 0 ∨ i = 1 ∨ i = 2 by omega) with rfl | rfl | rfl
    · exact hs (Cond.eq (.field (.string "SixFigures" 146) "java/lang/String" "coder" "B") (.int 0)) (by decide +kernel)
    · exact hs (Cond.eq (.field (.string "SixFigures" 148) "java/lang/String" "coder" "B") (.int 0)) (by decide +kernel)
    · exact hs (Cond.eq (.field (.string "SixFigures$Reader" 29) "java/lang/String" "coder" "B") (.int 0)) (by decide +kernel)
  · rcases (show i = 0 ∨ i = 1 ∨ i = 2 by omega) with rfl | rfl | rfl
    · exact hs (Cond.arrayOf (.field (.string "SixFigures" 146) "java/lang/String" "value" "[B") .byte) (by decide +kernel)
    · exact hs (Cond.arrayOf (.field (.string "SixFigures" 148) "java/lang/String" "value" "[B") .byte) (by decide +kernel)
    · exact hs (Cond.arrayOf (.field (.string "SixFigures$Reader" 29) "java/lang/String" "value" "[B") .byte) (by decide +kernel)
  · rcases (show i = 0 ∨ i = 1 ∨ i = 2 by omega) with rfl | rfl | rfl
    · exact hs (Cond.eq (.length (.field (.string "SixFigures" 146) "java/lang/String" "value" "[B")) (.int 3)) (by decide +kernel)
    · exact hs (Cond.eq (.length (.field (.string "SixFigures" 148) "java/lang/String" "value" "[B")) (.int 3)) (by decide +kernel)
    · exact hs (Cond.eq (.length (.field (.string "SixFigures$Reader" 29) "java/lang/String" "value" "[B")) (.int 0)) (by decide +kernel)
  · rcases (show i = 0 ∨ i = 1 ∨ i = 2 by omega) with rfl | rfl | rfl
    · have hj3 : j < 3 := hj
      rcases (show j = 0 ∨ j = 1 ∨ j = 2 by omega) with rfl | rfl | rfl
      · exact hs (Cond.eq (.elem (.field (.string "SixFigures" 146) "java/lang/String" "value" "[B") (.int 0)) (.int 109)) (by decide +kernel)
      · exact hs (Cond.eq (.elem (.field (.string "SixFigures" 146) "java/lang/String" "value" "[B") (.int 1)) (.int 107)) (by decide +kernel)
      · exact hs (Cond.eq (.elem (.field (.string "SixFigures" 146) "java/lang/String" "value" "[B") (.int 2)) (.int 115)) (by decide +kernel)
    · have hj3 : j < 3 := hj
      rcases (show j = 0 ∨ j = 1 ∨ j = 2 by omega) with rfl | rfl | rfl
      · exact hs (Cond.eq (.elem (.field (.string "SixFigures" 148) "java/lang/String" "value" "[B") (.int 0)) (.int 102)) (by decide +kernel)
      · exact hs (Cond.eq (.elem (.field (.string "SixFigures" 148) "java/lang/String" "value" "[B") (.int 1)) (.int 103)) (by decide +kernel)
      · exact hs (Cond.eq (.elem (.field (.string "SixFigures" 148) "java/lang/String" "value" "[B") (.int 2)) (.int 119)) (by decide +kernel)
    · exact absurd hj (Nat.not_lt_zero j)
  · rcases (show i = 0 ∨ i = 1 ∨ i = 2 by omega) with rfl | rfl | rfl <;> rcases (show j = 0 ∨ j = 1 ∨ j = 2 by omega) with rfl | rfl | rfl
    · exact absurd rfl hij
    · exact Or.inl (hs (Cond.not (Cond.eq (.string "SixFigures" 146) (.string "SixFigures" 148))) (by decide +kernel))
    · exact Or.inr (hs (Cond.not (Cond.eq (.string "SixFigures$Reader" 29) (.string "SixFigures" 146))) (by decide +kernel))
    · exact Or.inr (hs (Cond.not (Cond.eq (.string "SixFigures" 146) (.string "SixFigures" 148))) (by decide +kernel))
    · exact absurd rfl hij
    · exact Or.inr (hs (Cond.not (Cond.eq (.string "SixFigures$Reader" 29) (.string "SixFigures" 148))) (by decide +kernel))
    · exact Or.inl (hs (Cond.not (Cond.eq (.string "SixFigures$Reader" 29) (.string "SixFigures" 146))) (by decide +kernel))
    · exact Or.inl (hs (Cond.not (Cond.eq (.string "SixFigures$Reader" 29) (.string "SixFigures" 148))) (by decide +kernel))
    · exact absurd rfl hij
theorem law_nest {s : State} {args : Array Value} (hts : ∀ w ∈ lw_tbl, w.before args s = true) : ∀ q ∈ zz_nest, va_Nw (.methodLinkNest q.1 q.2.1 q.2.2 "SixFigures") s := by
  unfold zz_nest
  refine List.forall_mem_cons.mpr ⟨va_Nw.of rfl (hts (Cond.methodLinkNest "SixFigures" 29 yX10_init "SixFigures") (List.mem_of_getElem? (i := 181) (by decide +kernel))), ?_⟩
  refine List.forall_mem_cons.mpr ⟨va_Nw.of rfl (hts (Cond.methodLinkNest "SixFigures" 32 yX4_init "SixFigures") (List.mem_of_getElem? (i := 188) (by decide +kernel))), ?_⟩
  refine List.forall_mem_cons.mpr ⟨va_Nw.of rfl (hts (Cond.methodLinkNest "SixFigures" 35 yX1_init "SixFigures") (List.mem_of_getElem? (i := 195) (by decide +kernel))), ?_⟩
  refine List.forall_mem_cons.mpr ⟨va_Nw.of rfl (hts (Cond.methodLinkNest "SixFigures" 38 yX2_init "SixFigures") (List.mem_of_getElem? (i := 202) (by decide +kernel))), ?_⟩
  refine List.forall_mem_cons.mpr ⟨va_Nw.of rfl (hts (Cond.methodLinkNest "SixFigures" 41 yX6_init "SixFigures") (List.mem_of_getElem? (i := 209) (by decide +kernel))), ?_⟩
  refine List.forall_mem_cons.mpr ⟨va_Nw.of rfl (hts (Cond.methodLinkNest "SixFigures" 44 yX3_init "SixFigures") (List.mem_of_getElem? (i := 216) (by decide +kernel))), ?_⟩
  refine List.forall_mem_cons.mpr ⟨va_Nw.of rfl (hts (Cond.methodLinkNest "SixFigures" 47 yX7_init "SixFigures") (List.mem_of_getElem? (i := 223) (by decide +kernel))), ?_⟩
  refine List.forall_mem_cons.mpr ⟨va_Nw.of rfl (hts (Cond.methodLinkNest "SixFigures" 54 yX5_init "SixFigures") (List.mem_of_getElem? (i := 230) (by decide +kernel))), ?_⟩
  refine List.forall_mem_cons.mpr ⟨va_Nw.of rfl (hts (Cond.methodLinkNest "SixFigures" 64 yX9_init "SixFigures") (List.mem_of_getElem? (i := 258) (by decide +kernel))), ?_⟩
  refine List.forall_mem_cons.mpr ⟨va_Nw.of rfl (hts (Cond.methodLinkNest "SixFigures" 9 yX0_init "SixFigures") (List.mem_of_getElem? (i := 94) (by decide +kernel))), ?_⟩
  refine List.forall_mem_cons.mpr ⟨va_Nw.of rfl (hts (Cond.methodLinkNest "SixFigures$Book" 53 yX8_init "SixFigures") (List.mem_of_getElem? (i := 103) (by decide +kernel))), ?_⟩
  refine List.forall_mem_cons.mpr ⟨va_Nw.of rfl (hts (Cond.methodLinkNest "SixFigures$Card" 1 yX10_init "SixFigures") (List.mem_of_getElem? (i := 198) (by decide +kernel))), ?_⟩
  refine List.forall_mem_cons.mpr ⟨va_Nw.of rfl (hts (Cond.methodLinkNest "SixFigures$CodeList" 1 yX10_init "SixFigures") (List.mem_of_getElem? (i := 205) (by decide +kernel))), ?_⟩
  refine List.forall_mem_cons.mpr ⟨va_Nw.of rfl (hts (Cond.methodLinkNest "SixFigures$Grid" 1 yX1_init "SixFigures") (List.mem_of_getElem? (i := 219) (by decide +kernel))), ?_⟩
  refine List.forall_mem_cons.mpr ⟨va_Nw.of rfl (hts (Cond.methodLinkNest "SixFigures$Phone" 1 yX10_init "SixFigures") (List.mem_of_getElem? (i := 191) (by decide +kernel))), ?_⟩
  refine List.forall_mem_cons.mpr ⟨va_Nw.of rfl (hts (Cond.methodLinkNest "SixFigures$Reader" 17 yX8_init "SixFigures") (List.mem_of_getElem? (i := 235) (by decide +kernel))), ?_⟩
  refine List.forall_mem_cons.mpr ⟨va_Nw.of rfl (hts (Cond.methodLinkNest "SixFigures$Shared" 1 yX4_init "SixFigures") (List.mem_of_getElem? (i := 212) (by decide +kernel))), ?_⟩
  refine List.forall_mem_cons.mpr ⟨va_Nw.of rfl (hts (Cond.methodLinkNest "SixFigures$Spare" 1 yX2_init "SixFigures") (List.mem_of_getElem? (i := 226) (by decide +kernel))), ?_⟩
  exact fun _ h => absurd h List.not_mem_nil
theorem law_cst {s : State} {args : Array Value} (hts : ∀ w ∈ lw_tbl, w.before args s = true) : ∀ q ∈ zz_cst, va_Nw (.castable q "SixFigures$Way") s := by
  unfold zz_cst
  refine List.forall_mem_cons.mpr ⟨va_Nw.of rfl (hts (Cond.castable "SixFigures$Phone" "SixFigures$Way") (List.mem_of_getElem? (i := 1322) (by decide +kernel))), ?_⟩
  refine List.forall_mem_cons.mpr ⟨va_Nw.of rfl (hts (Cond.castable "SixFigures$Card" "SixFigures$Way") (List.mem_of_getElem? (i := 1323) (by decide +kernel))), ?_⟩
  refine List.forall_mem_cons.mpr ⟨va_Nw.of rfl (hts (Cond.castable "SixFigures$CodeList" "SixFigures$Way") (List.mem_of_getElem? (i := 1324) (by decide +kernel))), ?_⟩
  refine List.forall_mem_cons.mpr ⟨va_Nw.of rfl (hts (Cond.castable "SixFigures$Shared" "SixFigures$Way") (List.mem_of_getElem? (i := 1325) (by decide +kernel))), ?_⟩
  refine List.forall_mem_cons.mpr ⟨va_Nw.of rfl (hts (Cond.castable "SixFigures$Grid" "SixFigures$Way") (List.mem_of_getElem? (i := 1326) (by decide +kernel))), ?_⟩
  refine List.forall_mem_cons.mpr ⟨va_Nw.of rfl (hts (Cond.castable "SixFigures$Spare" "SixFigures$Way") (List.mem_of_getElem? (i := 1327) (by decide +kernel))), ?_⟩
  exact fun _ h => absurd h List.not_mem_nil
theorem law_world {s : State} {b L : Nat} {xs : Nat → Int32} (l : Launch) (hts : ∀ w ∈ lw_tbl, w.before #[Value.ref b] s = true) (hX : va_X b L xs s s.heap) (hgv : (Jvm.Cond.and given_1 narrow_1).before #[Value.ref b] s = true) : ∃ (ad : Nat → Nat) (D : va_G) (cA : Nat → ClassId), ad 30 = b ∧ zz_K (l, s.heap, ad, D, cA) s := by
  have hs := flat_of_before _ hgv
  have hA : ∀ a : Nat, a < s.heap.size → ¬ (fun q : Nat => s.heap.size ≤ q) a := fun a h => Nat.not_le.mpr h
  obtain ⟨dC, dI, hKc⟩ := law_kn (s := s) (args := #[Value.ref b]) fun w hw => hts w (List.mem_filter.mp hw).1
  obtain ⟨t0, e0, T0⟩ := law_t_RULE_LEAST (A := fun q : Nat => s.heap.size ≤ q) hs hA
  obtain ⟨t1, e1, T1⟩ := law_t_RULE_MOST (A := fun q : Nat => s.heap.size ≤ q) hs hA
  obtain ⟨t2, e2, T2⟩ := law_t_ABOVE (A := fun q : Nat => s.heap.size ≤ q) hs hA
  obtain ⟨adK, adV, hS, hK⟩ := law_strs (A := fun q : Nat => s.heap.size ≤ q) hs hA
  obtain ⟨cI, kI, compI, a1, a2, a3⟩ := Cond.arrayClass_spec (hts (Cond.arrayClass .int) (List.mem_of_getElem? (i := 116) (by decide +kernel)))
  have oT := (hts (Cond.arrayOver (.object "SixFigures$Text")) (List.mem_of_getElem? (i := 101) (by decide +kernel)))
  have oW := (hts (Cond.arrayOver (.object "SixFigures$Way")) (List.mem_of_getElem? (i := 179) (by decide +kernel)))
  obtain ⟨compT, cT, kT, b1, -, b3, b4, b5⟩ := Cond.arrayOver_spec oT
  obtain ⟨compW, cW, kW, d1, -, d3, d4, d5⟩ := Cond.arrayOver_spec oW
  obtain ⟨compA, cA, kA, f1, -, f3, f4, f5⟩ := arrayOverA_spec (hts (Cond.arrayOver (.array .int)) (List.mem_of_getElem? (i := 99) (by decide +kernel)))
  refine ⟨fun i => if i = 0 then t0 else if i = 1 then t1 else if i = 2 then t2 else if i < 20 then adK (i - 10) else if i < 30 then adV (i - 20) else b, (dC, dI), fun i => if i = 0 then cI else if i = 1 then cT else if i = 2 then cW else cA, rfl, ⟨⟨hKc, fun k q hq => ?_⟩, law_nest hts, ⟨⟨?_, ?_, ?_, ?_⟩, ⟨T0, T1, T2⟩, ?_, ?_, ?_, ?_⟩, ⟨va_AO.of oT, va_AO.of oW⟩, ⟨compA, cA, kA, f1, f5, f3, f4⟩, law_cst hts, ?_⟩⟩
  · have hk : k < 4 := (List.getElem?_eq_some_iff.mp hq).1
    rcases (show k = 0 ∨ k = 1 ∨ k = 2 ∨ k = 3 by omega) with rfl | rfl | rfl | rfl
    · have e : (cI, FieldType.int) = q := Option.some.inj hq
      subst e
      exact ⟨fun n z => ⟨(fun k h => by cases h), kI, a2, compI, a3⟩, a1⟩
    · have e : (cT, FieldType.object "SixFigures$Text") = q := Option.some.inj hq
      subst e
      exact ⟨fun n z => ⟨(fun k h => by cases h), kT, b3, compT, b4⟩, kT, compT, b3, b4, b1, b5⟩
    · have e : (cW, FieldType.object "SixFigures$Way") = q := Option.some.inj hq
      subst e
      exact ⟨fun n z => ⟨(fun k h => by cases h), kW, d3, compW, d4⟩, kW, compW, d3, d4, d1, d5⟩
    · have e : (cA, FieldType.array .int) = q := Option.some.inj hq
      subst e
      exact ⟨fun n z => ⟨(fun k h => by cases h), kA, f3, compA, f4⟩, f5⟩
  · exact va_Zof (hts (Cond.laysStatic "SixFigures" "RULE_LEAST" "[I") (List.mem_of_getElem? (i := 320) (by decide +kernel))) (hts (Cond.initialized "SixFigures") (List.mem_of_getElem? (i := 63) (by decide +kernel))) e0 hA
  · exact va_Zof (hts (Cond.laysStatic "SixFigures" "RULE_MOST" "[I") (List.mem_of_getElem? (i := 322) (by decide +kernel))) (hts (Cond.initialized "SixFigures") (List.mem_of_getElem? (i := 63) (by decide +kernel))) e1 hA
  · exact va_Zof (hts (Cond.laysStatic "SixFigures" "ABOVE" "[I") (List.mem_of_getElem? (i := 438) (by decide +kernel))) (hts (Cond.initialized "SixFigures") (List.mem_of_getElem? (i := 63) (by decide +kernel))) e2 hA
  · exact va_Zof (hts (Cond.laysStatic "java/lang/String" "COMPACT_STRINGS" "Z") (List.mem_of_getElem? (i := 504) (by decide +kernel))) (hts (Cond.initialized "java/lang/String") (List.mem_of_getElem? (i := 78) (by decide +kernel))) (va_eqt (hs (Cond.eq (.static "java/lang/String" "COMPACT_STRINGS" "Z") (.int 1)) (by decide +kernel))) hA
  · refine hS.cg (fun i hi => ?_) (fun i hi => ?_)
    · rcases (show i = 0 ∨ i = 1 ∨ i = 2 by omega) with rfl | rfl | rfl <;> rfl
    · rcases (show i = 0 ∨ i = 1 ∨ i = 2 by omega) with rfl | rfl | rfl <;> rfl
  · exact vk_R.of (hts (Cond.stringRef "SixFigures" 146 "mks") (List.mem_of_getElem? (i := 450) (by decide +kernel))) (hK 0 (by decide))
  · exact vk_R.of (hts (Cond.stringRef "SixFigures" 148 "fgw") (List.mem_of_getElem? (i := 451) (by decide +kernel))) (hK 1 (by decide))
  · exact vk_R.of (hts (Cond.stringRef "SixFigures$Reader" 29 "") (List.mem_of_getElem? (i := 236) (by decide +kernel))) (hK 2 (by decide))
  · obtain ⟨scr, x1, x2, -⟩ := hX
    exact ⟨scr, x1, x2⟩