theorem xb_t_st {R R' : Nat → Int32} {u : Nat} {sz sz' : Int32} {st st' : Nat → Int32} (h5 : R' (5 + u) = R (5 + u)) (ht : ∀ k, k < 50 → R' (176 + 50 * u + k) = R (176 + 50 * u + k)) (es : sz' = sz) (et : ∀ j, j < 50 → st' j = st j) (h : xb_t R u sz st) : xb_t R' u sz' st' := by
  have h2 := xb_t_cg2 (R' := R') h5 ht h
  rcases h2 with ⟨a, b⟩ | ⟨len, cs, a1, a2, a3, a4, a5, a6, a7⟩
  · exact Or.inl ⟨a, es.trans b⟩
  · exact Or.inr ⟨len, cs, a1, a2, a3, a4, a5, es.trans a6, fun i hi => (et i (by omega)).trans (a7 i hi)⟩
theorem zz_cp_at (g : zz_G) {a b m j : Nat} (h : j < m) : zz_cp g a b m b j = g a j := if_pos ⟨rfl, h⟩
theorem zz_cp_ne (g : zz_G) {a b m x : Nat} (h : x ≠ b) : zz_cp g a b m x = g x := funext fun j => if_neg fun z => h z.1
theorem x_image {S g g1 g' : zz_G} {r r1 : zz_R} {n0 : Nat} (hx : x_rel S g r n0) (hg : ∀ k, k < 60 → g1 k = g k) (hr1 : xr r1) (h10 : r1 10 = r 10) (hk : xk r1) (h01 : r1 0 1 = some 60) {pp pq : Nat → Nat} (hpp : ∀ c, c < 10 → pp c < 10 ∧ r1 69 c = some (70 + pp c)) (hinj : ∀ c c', c < 10 → c' < 10 → pp c = pp c' → c = c') (hpq : ∀ c, c < 10 → pq c < 10 ∧ r1 10 c = some (11 + pq c)) (hpc : ∀ c j, c < 10 → j < 6 → S 51 (46 + 6 * c + j) = g (11 + pq c) j) (hpi : ∀ c c', c < 10 → c' < 10 → pq c = pq c' → c = c') (hb : bk_60 pp pq g1 g') : x_rel (zz_u (zz_cp S 51 52 276) 50 3 1) g' r1 87 := by
  obtain ⟨b1, b2, b3, b4, b5, b6, b7, b8⟩ := hb
  have eg : ∀ k, k < 60 → g' k = g k := fun k hk => (b1 k (Or.inl hk)).trans (hg k hk)
  have es : ∀ a b, a ≠ 52 → ¬ (a = 50 ∧ b = 3) → zz_u (zz_cp S 51 52 276) 50 3 1 a b = S a b := fun a b h1 h2 => by
    rw [show zz_u (zz_cp S 51 52 276) 50 3 1 a b = zz_cp S 51 52 276 a b from if_neg h2, zz_cp_ne S h1]
  have e52 : ∀ j, j < 276 → zz_u (zz_cp S 51 52 276) 50 3 1 52 j = S 51 j := fun j hj => by
    rw [zz_u_ne1 _ _ (by decide)]
    exact zz_cp_at S hj
  have s := fun k j (hk : k < 60) => congrFun (hg k hk) j
  refine ⟨hr1, fun q hq i hi => ?_, ⟨pq, fun c hc => ?_, hpi, fun c j hc hj => ?_⟩, fun u hu => ?_, Or.inr ⟨?_, h01, rfl, hk, ⟨?_, fun j hj => ?_, fun w j hw hj => ?_, fun j hj => ?_, fun j hj => ?_⟩, ⟨pp, fun c hc => ?_, hinj, fun c j hc hj => ?_⟩, fun u hu => ?_⟩⟩
  · have dj : ∀ q ∈ xq_l, q.1 < 60 ∧ q.2.2.2.1 ≠ 52 ∧ (q.2.2.2.1 = 50 → 4 ≤ q.2.2.2.2) := by decide
    obtain ⟨d1, d2, d3⟩ := dj q hq
    rw [eg _ d1, es _ _ d2 (fun z => by have := d3 z.1; omega)]
    exact hx.2.1 q hq i hi
  · exact hpq c hc
  · have := (hpq c hc).1
    show g' (11 + pq c) j = _
    rw [eg _ (by omega), es _ _ (by decide) (by omega)]
    exact (hpc c j hc hj).symm
  · rw [eg _ (by omega), eg _ (by omega)]
    exact xb_t_cg2 (es _ _ (by decide) (by omega)) (fun k hk => es _ _ (by decide) (by omega)) (hx.2.2.2.1 u hu)
  · rw [zz_u_same]
    decide
  · obtain ⟨p1, p2, p3, p4, p5, p7, p9, p11, p14⟩ := b2
    rw [e52 _ (by decide), e52 _ (by decide), e52 _ (by decide), e52 _ (by decide), e52 _ (by decide), e52 _ (by decide), e52 _ (by decide), e52 _ (by decide), e52 _ (by decide), p1, p2, p3, p4, p5, p7, p9, p11, p14, hg 1 (by decide)]
    exact ⟨(x_s0 hx).symm, (x_s1 hx).symm, (x_s2 hx).symm, (x_s3 hx).symm, (x_s4 hx).symm, (x_s7 hx).symm, (x_s13 hx).symm, (x_s14 hx).symm, (x_s15 hx).symm⟩
  · rw [e52 _ (by omega), b3 j hj, hg 2 (by decide)]
    exact (x_dr hx hj).symm
  · rw [e52 _ (by omega), b4 w j hw hj, hg _ (by omega)]
    exact (x_wy hx hw hj).symm
  · rw [e52 _ (by omega), b6 j hj, hg 21 (by decide)]
    exact (x_tp hx hj).symm
  · rw [e52 _ (by omega), b8 j hj, hg 27 (by decide)]
    exact (x_wt hx hj).symm
  · exact hpp c hc
  · have := (hpq c hc).1
    show g' (70 + pp c) j = _
    rw [e52 _ (by omega), b5 c j hc hj, hg _ (by omega)]
    exact (hpc c j hc hj).symm
  · refine xb_t_st (e52 _ (by omega)) (fun k hk => e52 _ (by omega)) ?_ (fun j hj => ?_) (hx.2.2.2.1 u hu)
    · rw [(b7 u hu).1, hg _ (by omega)]
    · rw [(b7 u hu).2 j hj, hg _ (by omega)]
theorem x_restore {S g g' : zz_G} {r : zz_R} {n : Nat} (hx : x_rel S g r n) (h3 : ¬ S 50 3 = 0) {pp pq : Nat → Nat} (hpp : ∀ c, c < 10 → pp c < 10 ∧ r 10 c = some (11 + pp c)) (hinj : ∀ c c', c < 10 → c' < 10 → pp c = pp c' → c = c') (hpq : ∀ c, c < 10 → pq c < 10 ∧ r 69 c = some (70 + pq c)) (hpc : ∀ c j, c < 10 → j < 6 → g (70 + pq c) j = S 52 (46 + 6 * c + j)) (hb : bk_1 pp pq g g') : x_rel (zz_cp S 52 51 276) g' r n := by
  obtain ⟨b1, b2, b3, b4, b5, b6, b7, b8⟩ := hb
  have e51 : ∀ j, j < 276 → zz_cp S 52 51 276 51 j = S 52 j := fun j hj => zz_cp_at S hj
  have es : ∀ a, a ≠ 51 → zz_cp S 52 51 276 a = S a := fun a h => zz_cp_ne S h
  have eg : ∀ k, 28 ≤ k → g' k = g k := fun k hk => b1 k (Or.inr hk)
  rcases hx.2.2.2.2 with ⟨q, -⟩ | ⟨k1, k2, k3, k4, ⟨m1, m2, m3, m4, m5⟩, k6, k7⟩
  · exact absurd q h3
  obtain ⟨p1, p2, p3, p4, p5, p7, p9, p11, p14⟩ := b2
  obtain ⟨n1, n5, n7, n11, n14, n9, n2, n3, n4⟩ := m1
  refine ⟨hx.1, fun q hq i hi => ?_, ⟨pp, hpp, hinj, fun c j hc hj => ?_⟩, fun u hu => ?_, Or.inr ⟨by rw [es 50 (by decide)]; exact k1, k2, k3, k4, ?_, ?_, fun u hu => ?_⟩⟩
  · have hq0 := hq
    simp only [xq_l, List.mem_cons, List.not_mem_nil, or_false] at hq
    rcases hq with rfl | rfl | rfl | rfl | rfl | rfl | rfl | rfl | rfl | rfl | rfl | rfl | rfl | rfl | rfl | rfl | rfl | rfl | rfl | rfl | rfl | rfl | rfl | rfl | rfl | rfl
    · replace hi : i < 1 := hi
      show g' 1 (1 + i) = zz_cp S 52 51 276 51 (0 + i)
      obtain rfl : i = 0 := by omega
      exact (p1.trans n1).trans (e51 0 (by decide)).symm
    · replace hi : i < 1 := hi
      show g' 1 (5 + i) = zz_cp S 52 51 276 51 (1 + i)
      obtain rfl : i = 0 := by omega
      exact (p5.trans n5).trans (e51 1 (by decide)).symm
    · replace hi : i < 1 := hi
      show g' 1 (7 + i) = zz_cp S 52 51 276 51 (2 + i)
      obtain rfl : i = 0 := by omega
      exact (p7.trans n7).trans (e51 2 (by decide)).symm
    · replace hi : i < 1 := hi
      show g' 1 (11 + i) = zz_cp S 52 51 276 51 (3 + i)
      obtain rfl : i = 0 := by omega
      exact (p11.trans n11).trans (e51 3 (by decide)).symm
    · replace hi : i < 1 := hi
      show g' 1 (14 + i) = zz_cp S 52 51 276 51 (4 + i)
      obtain rfl : i = 0 := by omega
      exact (p14.trans n14).trans (e51 4 (by decide)).symm
    · replace hi : i < 1 := hi
      show g' 1 (9 + i) = zz_cp S 52 51 276 51 (7 + i)
      obtain rfl : i = 0 := by omega
      exact (p9.trans n9).trans (e51 7 (by decide)).symm
    · replace hi : i < 3 := hi
      show g' 1 (2 + i) = zz_cp S 52 51 276 51 (13 + i)
      rcases (show i = 0 ∨ i = 1 ∨ i = 2 by omega) with e | e | e <;> subst e
      · exact (p2.trans n2).trans (e51 13 (by decide)).symm
      · exact (p3.trans n3).trans (e51 14 (by decide)).symm
      · exact (p4.trans n4).trans (e51 15 (by decide)).symm
    · replace hi : i < 5 := hi
      show g' 2 (0 + i) = zz_cp S 52 51 276 51 (8 + i)
      rw [Nat.zero_add, e51 _ (by omega), b3 i hi]
      exact m2 i hi
    · replace hi : i < 5 := hi
      show g' 4 (0 + i) = zz_cp S 52 51 276 51 (16 + i)
      rw [Nat.zero_add, e51 _ (by omega)]
      exact (b4 0 i (by decide) hi).trans (m3 0 i (by decide) hi)
    · replace hi : i < 5 := hi
      show g' 5 (0 + i) = zz_cp S 52 51 276 51 (21 + i)
      rw [Nat.zero_add, e51 _ (by omega)]
      exact (b4 1 i (by decide) hi).trans (m3 1 i (by decide) hi)
    · replace hi : i < 5 := hi
      show g' 6 (0 + i) = zz_cp S 52 51 276 51 (26 + i)
      rw [Nat.zero_add, e51 _ (by omega)]
      exact (b4 2 i (by decide) hi).trans (m3 2 i (by decide) hi)
    · replace hi : i < 5 := hi
      show g' 7 (0 + i) = zz_cp S 52 51 276 51 (31 + i)
      rw [Nat.zero_add, e51 _ (by omega)]
      exact (b4 3 i (by decide) hi).trans (m3 3 i (by decide) hi)
    · replace hi : i < 5 := hi
      show g' 8 (0 + i) = zz_cp S 52 51 276 51 (36 + i)
      rw [Nat.zero_add, e51 _ (by omega)]
      exact (b4 4 i (by decide) hi).trans (m3 4 i (by decide) hi)
    · replace hi : i < 5 := hi
      show g' 9 (0 + i) = zz_cp S 52 51 276 51 (41 + i)
      rw [Nat.zero_add, e51 _ (by omega)]
      exact (b4 5 i (by decide) hi).trans (m3 5 i (by decide) hi)
    · replace hi : i < 50 := hi
      show g' 21 (0 + i) = zz_cp S 52 51 276 51 (106 + i)
      rw [Nat.zero_add, e51 _ (by omega), b6 i hi]
      exact m4 i hi
    · replace hi : i < 20 := hi
      show g' 27 (0 + i) = zz_cp S 52 51 276 51 (156 + i)
      rw [Nat.zero_add, e51 _ (by omega), b8 i hi]
      exact m5 i hi
    · replace hi : i < 6 := hi
      show g' 28 (0 + i) = zz_cp S 52 51 276 54 (0 + i)
      rw [es 54 (by decide), b1 28 (by decide)]
      exact hx.2.1 _ hq0 i hi
    · replace hi : i < 4 := hi
      show g' 48 (0 + i) = zz_cp S 52 51 276 55 (0 + i)
      rw [es 55 (by decide), b1 48 (by decide)]
      exact hx.2.1 _ hq0 i hi
    · replace hi : i < 4 := hi
      show g' 49 (0 + i) = zz_cp S 52 51 276 56 (0 + i)
      rw [es 56 (by decide), b1 49 (by decide)]
      exact hx.2.1 _ hq0 i hi
    · replace hi : i < 40 := hi
      show g' 44 (0 + i) = zz_cp S 52 51 276 57 (0 + i)
      rw [es 57 (by decide), b1 44 (by decide)]
      exact hx.2.1 _ hq0 i hi
    · replace hi : i < 40 := hi
      show g' 45 (0 + i) = zz_cp S 52 51 276 57 (40 + i)
      rw [es 57 (by decide), b1 45 (by decide)]
      exact hx.2.1 _ hq0 i hi
    · replace hi : i < 40 := hi
      show g' 46 (0 + i) = zz_cp S 52 51 276 57 (80 + i)
      rw [es 57 (by decide), b1 46 (by decide)]
      exact hx.2.1 _ hq0 i hi
    · replace hi : i < 40 := hi
      show g' 47 (0 + i) = zz_cp S 52 51 276 57 (120 + i)
      rw [es 57 (by decide), b1 47 (by decide)]
      exact hx.2.1 _ hq0 i hi
    · replace hi : i < 1 := hi
      show g' 0 (2 + i) = zz_cp S 52 51 276 50 (4 + i)
      rw [es 50 (by decide), b1 0 (by decide)]
      exact hx.2.1 _ hq0 i hi
    · replace hi : i < 1 := hi
      show g' 41 (1 + i) = zz_cp S 52 51 276 50 (19 + i)
      rw [es 50 (by decide), b1 41 (by decide)]
      exact hx.2.1 _ hq0 i hi
    · replace hi : i < 40 := hi
      show g' 42 (0 + i) = zz_cp S 52 51 276 59 (0 + i)
      rw [es 59 (by decide), b1 42 (by decide)]
      exact hx.2.1 _ hq0 i hi
  · show g' (11 + pp c) j = _
    rw [e51 _ (by omega), b5 c j hc hj]
    exact hpc c j hc hj
  · refine xb_t_st (e51 _ (by omega)) (fun k hk => e51 _ (by omega)) (b7 u hu).1 (fun j hj => (b7 u hu).2 j hj) (k7 u hu)
  · rw [es 52 (by decide)]
    unfold xk_P
    rw [eg 60 (by omega), eg 61 (by omega), eg 80 (by omega), eg 86 (by omega)]
    exact ⟨⟨n1, n5, n7, n11, n14, n9, n2, n3, n4⟩, m2, fun w j hw hj => by rw [eg _ (by omega)]; exact m3 w j hw hj, m4, m5⟩
  · obtain ⟨pi, c1, c2, c3⟩ := k6
    refine ⟨pi, c1, c2, fun c j hc hj => ?_⟩
    rw [es 52 (by decide), eg _ (by omega)]
    exact c3 c j hc hj
  · rw [es 52 (by decide), eg _ (by omega), eg _ (by omega)]
    exact k7 u hu
set_option maxRecDepth 100000 in
set_option maxHeartbeats 4000000 in
theorem r0_X11_restore {C : zz_C} {d n : Nat} {g : zz_G} {r : zz_R} {Q : zz_Q} {S : zz_G} (hx : x_rel S g r n) (hS : S 50 3 = 0) (h01 : r 0 1 = none) (h : x_o g Q (sp_restore S)) : zz_T C mi_X11_restore (d + 3) 0 0 [.ref 0] g r n Q := by
  have hn := hx.nn
  have hr := hx.1
  refine zz_T.of [some (.ref 0)] (by decide +kernel) rfl (Nat.le_of_ble_eq_true rfl) ?_
  refine zz_aload_0 dX11_restore_0 ?_
  refine zz_getN fl_X11_16 rfl rfl (Nat.lt_of_lt_of_le (by decide) hn) h01 dX11_restore_1 ?_
  refine zz_ifnonnullN dX11_restore_4 ?_
  refine zz_aload_0 dX11_restore_7 ?_
  refine zz_iconst (2) dX11_restore_8 (by decide) ?_
  refine zz_callV1i cv_X11_86 rfl (Nat.lt_of_lt_of_le (by decide) hn) (Nat.le_of_ble_eq_true rfl) (by decide) (by decide) dX11_restore_9 (t_X11_error hn hr 2 rfl (by decide) ⟨_, rfl, ?_⟩)
  refine zz_iret rfl dX11_restore_12 (by decide) (by decide) ?_
  rw [sp_restore, if_pos hS] at h
  exact x_er hx (by decide) h

set_option maxRecDepth 100000 in
set_option maxHeartbeats 4000000 in
theorem r1_X11_restore {C : zz_C} {d n : Nat} {g : zz_G} {r : zz_R} {Q : zz_Q} {S : zz_G} (hx : x_rel S g r n) (hS : ¬ S 50 3 = 0) (h01 : r 0 1 = some 60) (hn8 : 87 ≤ n) (hk4 : xk r) (h6 : xb_c 60 (S 52) g r) (h : x_o g Q (sp_restore S)) : zz_T C mi_X11_restore (d + 3) 0 0 [.ref 0] g r n Q := by
  have hn := hx.nn
  have hr := hx.1
  obtain ⟨pp, c1, c2, c3⟩ := hx.2.2.1
  obtain ⟨pq, d1, d2, d3⟩ := h6
  refine zz_T.of [some (.ref 0)] (by decide +kernel) rfl (Nat.le_of_ble_eq_true rfl) ?_
  refine zz_aload_0 dX11_restore_0 ?_
  refine zz_getR fl_X11_16 rfl rfl (Nat.lt_of_lt_of_le (by decide) hn) h01 dX11_restore_1 ?_
  refine zz_ifnonnull 13 dX11_restore_4 (by decide) ?_
  refine zz_aload_0 dX11_restore_13 ?_
  refine zz_getR fl_X11_10 rfl rfl (Nat.lt_of_lt_of_le (by decide) hn) (xr_0_0 hr) dX11_restore_14 ?_
  refine zz_aload_0 dX11_restore_17 ?_
  refine zz_getR fl_X11_16 rfl rfl (Nat.lt_of_lt_of_le (by decide) hn) h01 dX11_restore_18 ?_
  refine zz_callV1v cv_X11_309 rfl (Nat.lt_of_lt_of_le (by decide) hn) (Nat.le_of_ble_eq_true rfl) (by decide) (by decide) dX11_restore_21 (t_X0_copyFrom_1 hn8 hr hk4 c1 c2 d1 (fun g1_21 b1_21 => ⟨rfl, ?_⟩))
  refine zz_aload_0 dX11_restore_24 ?_
  refine zz_getR fl_X11_10 rfl rfl (Nat.lt_of_lt_of_le (by decide) hn) (xr_0_0 hr) dX11_restore_25 ?_
  refine zz_getI fl_X11_110 rfl rfl (Nat.lt_of_lt_of_le (by decide) hn) dX11_restore_28 ?_
  refine zz_iret rfl dX11_restore_31 (by decide) (by decide) ?_
  rw [sp_restore, if_neg hS] at h
  have hxr := x_restore hx hS c1 c2 d1 d3 b1_21
  have ev : g1_21 1 1 = S 52 0 := (x_s0 hxr).symm.trans (zz_cp_at S (by decide))
  rw [ev]
  exact h _ _ _ hxr (fun k q1 q2 => b1_21.1 k (by omega))

theorem t_X11_restore {C : zz_C} {d n : Nat} {g : zz_G} {r : zz_R} {Q : zz_Q} {S : zz_G} (hx : x_rel S g r n) (h : x_o g Q (sp_restore S)) : zz_T C mi_X11_restore (d + 3) 0 0 [.ref 0] g r n Q := by
  rcases hx.2.2.2.2 with ⟨k1, k2, k3⟩ | ⟨k1, k2, k3, k4, k5, k6, k7⟩
  · exact r0_X11_restore hx k1 k2 h
  · exact r1_X11_restore hx k1 k2 (by omega) k4 k6 h
set_option maxRecDepth 100000 in
set_option maxHeartbeats 4000000 in
theorem e_X11_image {C : zz_C} {d kc ks : Nat} {r : zz_R} {Q : zz_Q} {S g0 g : zz_G} {r0 : zz_R} {n0 : Nat} (hx : x_rel S g0 r0 n0) (hg : ∀ k, k < 60 → g k = g0 k) (hr : xr r) (h10 : r 10 = r0 10) (hk4 : xk r) (h01 : r 0 1 = some 60) {pp : Nat → Nat} (d1 : ∀ c, c < 10 → pp c < 10 ∧ r 69 c = some (70 + pp c)) (d2 : ∀ c c', c < 10 → c' < 10 → pp c = pp c' → c = c') (hn8 : 87 ≤ 87) (hkc : kc ≤ 27) (hks : ks ≤ 302) (h : x_o g0 Q (sp_image S)) : zz_Z C mi_X11_image (d + 3) 27 302 kc ks 18 [some (.ref 0)] [] g r 87 Q := by
  obtain ⟨pq, c1', c2, c3'⟩ := hx.2.2.1
  have c1 : ∀ c, c < 10 → pq c < 10 ∧ r 10 c = some (11 + pq c) := fun c hc => by rw [h10]; exact c1' c hc
  have c3 : ∀ c j, c < 10 → j < 6 → S 51 (46 + 6 * c + j) = g0 (11 + pq c) j := fun c j hc hj => (c3' c j hc hj).symm
  refine zz_aload_0 dX11_image_18 ?_
  refine zz_getR fl_X11_16 rfl rfl (Nat.lt_of_lt_of_le (by decide) hn8) h01 dX11_image_19 ?_
  refine zz_aload_0 dX11_image_22 ?_
  refine zz_getR fl_X11_10 rfl rfl (Nat.lt_of_lt_of_le (by decide) hn8) (xr_0_0 hr) dX11_image_23 ?_
  refine zz_callV1v cv_X11_309 rfl (Nat.lt_of_lt_of_le (by decide) hn8) (Nat.le_of_ble_eq_true rfl) (Nat.le_trans (Nat.le_of_eq (Nat.add_zero _)) hkc) (Nat.le_trans (Nat.le_of_eq (Nat.add_zero _)) hks) dX11_image_26 (t_X0_copyFrom_60 hn8 hr hk4 d1 d2 c1 (fun g1_26 b1_26 => ⟨rfl, ?_⟩))
  refine zz_aload_0 dX11_image_29 ?_
  refine zz_dup dX11_image_30 rfl ?_
  refine zz_getI fl_X11_19 rfl rfl (Nat.lt_of_lt_of_le (by decide) hn8) dX11_image_31 ?_
  refine zz_iconst (1) dX11_image_34 (by decide) ?_
  refine zz_iadd dX11_image_35 ?_
  refine zz_putI fl_X11_19 rfl rfl (Nat.lt_of_lt_of_le (by decide) hn8) dX11_image_36 ?_
  refine zz_aload_0 dX11_image_39 ?_
  refine zz_getI fl_X11_19 rfl rfl (Nat.lt_of_lt_of_le (by decide) hn8) dX11_image_40 ?_
  refine zz_iret rfl dX11_image_43 hkc hks ?_
  rw [zz_u_same]
  have hxi := x_image hx hg hr h10 hk4 h01 d1 d2 c1 c3 c2 b1_26
  have e02 : g1_26 0 2 = S 50 4 := (b1_26.1 0 (by omega) ▸ congrFun (hg 0 (by decide)) 2).trans (x_im hx).symm
  rw [e02]
  have hF := (x_F.rf hxi).im (x := S 50 4 + 1)
  exact h _ _ _ hF.1 (fun k q1 q2 => (hF.2 k q1 q2).trans ((b1_26.1 k (by omega)).trans (hg k q2)))

set_option maxRecDepth 100000 in
set_option maxHeartbeats 4000000 in
theorem i0_X11_image {C : zz_C} {d : Nat} {g : zz_G} {r : zz_R} {Q : zz_Q} {S : zz_G} (hx : x_rel S g r 60) (h01 : r 0 1 = none) (h : x_o g Q (sp_image S)) : zz_T C mi_X11_image (d + 3) 27 302 [.ref 0] g r 60 Q := by
  refine zz_T.of [some (.ref 0)] (by decide +kernel) rfl (Nat.le_of_ble_eq_true rfl) ?_
  refine zz_aload_0 dX11_image_0 ?_
  refine zz_getN fl_X11_16 rfl rfl (by decide) h01 dX11_image_1 ?_
  refine zz_ifnonnullN dX11_image_4 ?_
  refine zz_aload_0 dX11_image_7 ?_
  refine zz_newO cf_X0 dv_X0 kl_X11_7 ki_X0 kn_X0 (by decide) rfl (by decide) (by decide) dX11_image_8 ?_
  refine zz_dup dX11_image_11 rfl ?_
  refine zz_callI0 (Or.inl kc_X11_9) (Nat.le_of_ble_eq_true rfl) (by decide) (by decide) dX11_image_12 (t_X0_init_60 (fun g1 r1 hb9 => ⟨rfl, ?_⟩))
  refine zz_putR fl_X11_16 rfl rfl (by decide) (Or.inl rfl) rfl rfl dX11_image_15 ?_
  obtain ⟨b0, b1, b2, b3, b4, -⟩ := hb9
  have er : ∀ k j, (k < 60 ∨ k = 998) → ¬ (k = 0 ∧ j = 1) → zz_ur r1 0 1 (some 60) k j = r k j := fun k j hk hj => by
    rw [show zz_ur r1 0 1 (some 60) k j = r1 k j from if_neg hj, (b0 k hk).2, zz_nr_row _ (by omega)]
  have er2 : ∀ k, k ≠ 0 → zz_ur r1 0 1 (some 60) k = r1 k := fun k hk => zz_ur_row _ _ hk
  have dr : ∀ q ∈ xr_l, (q.1 < 60 ∨ q.1 = 998) ∧ ¬ (q.1 = 0 ∧ q.2.1 = 1) := by decide
  have hk9 : xk (zz_ur r1 0 1 (some 60)) := by
    intro q hq
    simp only [xk_l, List.mem_cons, List.not_mem_nil, or_false] at hq
    rcases hq with rfl | rfl | rfl | rfl | rfl | rfl | rfl | rfl | rfl | rfl | rfl | rfl | rfl | rfl | rfl | rfl
    · exact b1.1
    · exact b1.2.1
    · exact b1.2.2.1
    · exact b1.2.2.2.1
    · exact b1.2.2.2.2.1
    · exact b1.2.2.2.2.2
    · exact b2 0 (by decide)
    · exact b2 1 (by decide)
    · exact b2 2 (by decide)
    · exact b2 3 (by decide)
    · exact b2 4 (by decide)
    · exact b2 5 (by decide)
    · exact b4.1
    · exact b4.2.1
    · exact b4.2.2.1
    · exact b4.2.2.2
  exact e_X11_image (d := d) hx (fun k hk => (b0 k (Or.inl hk)).1.trans (zz_n0_row _ (by omega))) (fun q hq => by rw [er _ _ (dr q hq).1 (dr q hq).2]; exact hx.1 q hq) (funext fun j => er 10 j (by decide) (by omega)) hk9 (if_pos ⟨rfl, rfl⟩) (pp := fun c => c) (fun c hc => ⟨hc, by rw [er2 69 (by decide)]; exact b3 c hc⟩) (fun c c' _ _ e => e) (by omega) (by decide) (by decide) h

set_option maxRecDepth 100000 in
set_option maxHeartbeats 4000000 in
theorem i1_X11_image {C : zz_C} {d : Nat} {g : zz_G} {r : zz_R} {Q : zz_Q} {S : zz_G} (hx : x_rel S g r 87) (h01 : r 0 1 = some 60) (hk4 : xk r) (h6 : xb_c 60 (S 52) g r) (h : x_o g Q (sp_image S)) : zz_T C mi_X11_image (d + 3) 27 302 [.ref 0] g r 87 Q := by
  have hn := hx.nn
  obtain ⟨pp, c1, c2, c3⟩ := h6
  refine zz_T.of [some (.ref 0)] (by decide +kernel) rfl (Nat.le_of_ble_eq_true rfl) ?_
  refine zz_aload_0 dX11_image_0 ?_
  refine zz_getR fl_X11_16 rfl rfl (Nat.lt_of_lt_of_le (by decide) hn) h01 dX11_image_1 ?_
  refine zz_ifnonnull 18 dX11_image_4 (by decide) ?_
  exact e_X11_image (d := d) hx (fun _ _ => rfl) hx.1 rfl hk4 h01 c1 c2 (by omega) (by omega) (by omega) h

theorem t_X11_image {C : zz_C} {d n : Nat} {g : zz_G} {r : zz_R} {Q : zz_Q} {S : zz_G} (hx : x_rel S g r n) (h : x_o g Q (sp_image S)) : zz_T C mi_X11_image (d + 3) 27 302 [.ref 0] g r n Q := by
  rcases hx.2.2.2.2 with ⟨k1, k2, k3⟩ | ⟨k1, k2, k3, k4, k5, k6, k7⟩
  · subst k3
    exact i0_X11_image hx k2 h
  · subst k3
    exact i1_X11_image hx k2 k4 k6 h