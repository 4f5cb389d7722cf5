/-! THE CLASS AGAINST THE STATE S: plain places by blocks (class cell, first place, how many, cell of S, first place there); codes and texts apart -/
def xq_l : List (Nat × Nat × Nat × Nat × Nat) := [(1, 1, 1, 51, 0), (1, 5, 1, 51, 1), (1, 7, 1, 51, 2), (1, 11, 1, 51, 3), (1, 14, 1, 51, 4), (1, 9, 1, 51, 7), (1, 2, 3, 51, 13), (2, 0, 5, 51, 8), (4, 0, 5, 51, 16), (5, 0, 5, 51, 21), (6, 0, 5, 51, 26), (7, 0, 5, 51, 31), (8, 0, 5, 51, 36), (9, 0, 5, 51, 41), (21, 0, 50, 51, 106), (27, 0, 20, 51, 156), (28, 0, 6, 54, 0), (48, 0, 4, 55, 0), (49, 0, 4, 56, 0), (44, 0, 40, 57, 0), (45, 0, 40, 57, 40), (46, 0, 40, 57, 80), (47, 0, 40, 57, 120), (0, 2, 1, 50, 4), (41, 1, 1, 50, 19), (42, 0, 40, 59, 0)]
/-- two blocks are the same, or apart on both sides -/
def xq_ap (p q : Nat × Nat × Nat × Nat × Nat) : Bool := decide (p = q) || ((decide (p.1 ≠ q.1) || decide (p.2.1 + p.2.2.1 ≤ q.2.1) || decide (q.2.1 + q.2.2.1 ≤ p.2.1)) && (decide (p.2.2.2.1 ≠ q.2.2.2.1) || decide (p.2.2.2.2 + p.2.2.1 ≤ q.2.2.2.2) || decide (q.2.2.2.2 + q.2.2.1 ≤ p.2.2.2.2)))
theorem xq_all : xq_l.all (fun p => xq_l.all (fun q => xq_ap p q)) = true := by decide +kernel
def xq_P (S g : zz_G) : Prop := ∀ q ∈ xq_l, ∀ i, i < q.2.2.1 → g q.1 (q.2.1 + i) = S q.2.2.2.1 (q.2.2.2.2 + i)
theorem xq_u {S g : zz_G} {x : Int32} (h : xq_P S g) (p : Nat × Nat × Nat × Nat × Nat) (hp : p ∈ xq_l) (i : Nat) (hi : i < p.2.2.1) : xq_P (zz_u S p.2.2.2.1 (p.2.2.2.2 + i) x) (zz_u g p.1 (p.2.1 + i) x) := by
  intro q hq j hj
  have hap := List.all_eq_true.mp (List.all_eq_true.mp xq_all p hp) q hq
  simp only [xq_ap, Bool.or_eq_true, Bool.and_eq_true, decide_eq_true_eq] at hap
  rcases hap with e | ⟨e1, e2⟩
  · subst e
    by_cases hij : j = i
    · subst hij
      rw [zz_u_same, zz_u_same]
    · rw [zz_u_ne2 _ _ (by omega), zz_u_ne2 _ _ (by omega)]
      exact h p hp j hj
  · have n1 : ¬ (q.1 = p.1 ∧ q.2.1 + j = p.2.1 + i) := by
      rintro ⟨z1, z2⟩
      rcases e1 with (e1 | e1) | e1
      · exact e1 z1.symm
      · omega
      · omega
    have n2 : ¬ (q.2.2.2.1 = p.2.2.2.1 ∧ q.2.2.2.2 + j = p.2.2.2.2 + i) := by
      rintro ⟨z1, z2⟩
      rcases e2 with (e2 | e2) | e2
      · exact e2 z1.symm
      · omega
      · omega
    rw [show zz_u g p.1 (p.2.1 + i) x q.1 (q.2.1 + j) = g q.1 (q.2.1 + j) from if_neg n1, show zz_u S p.2.2.2.1 (p.2.2.2.2 + i) x q.2.2.2.1 (q.2.2.2.2 + j) = S q.2.2.2.1 (q.2.2.2.2 + j) from if_neg n2]
    exact h q hq j hj
/-- the codes of a book at b: their rows may have changed places -/
def xb_c (b : Nat) (R : Nat → Int32) (g : zz_G) (r : zz_R) : Prop := ∃ pi : Nat → Nat, (∀ c, c < 10 → pi c < 10 ∧ r (b + 9) c = some (b + 10 + pi c)) ∧ (∀ c c', c < 10 → c' < 10 → pi c = pi c' → c = c') ∧ ∀ c j, c < 10 → j < 6 → g (b + 10 + pi c) j = R (46 + 6 * c + j)
/-- a text of a book: no steps, or those that reading its bytes gives -/
def xb_t (R : Nat → Int32) (u : Nat) (sz : Int32) (st : Nat → Int32) : Prop := (R (5 + u) < 0 ∧ sz = 0) ∨ ∃ (len : Nat) (cs : List Int32), len ≤ 50 ∧ R (5 + u) = nI len ∧ (∀ x y z : Int32, (pz_run (pz_b R u len) u x y z).1 = true ∧ (pz_run (pz_b R u len) u x y z).2.2.2 = cs) ∧ 0 < cs.length ∧ cs.length ≤ 50 ∧ sz = nI cs.length ∧ ∀ i, i < cs.length → st i = cs.getD i 0
/-- the kept book at 60 against a row -/
def xk_P (R : Nat → Int32) (g : zz_G) : Prop := (g 60 1 = R 0 ∧ g 60 5 = R 1 ∧ g 60 7 = R 2 ∧ g 60 11 = R 3 ∧ g 60 14 = R 4 ∧ g 60 9 = R 7 ∧ g 60 2 = R 13 ∧ g 60 3 = R 14 ∧ g 60 4 = R 15) ∧ (∀ j, j < 5 → g 61 j = R (8 + j)) ∧ (∀ w j, w < 6 → j < 5 → g (63 + w) j = R (16 + 5 * w + j)) ∧ (∀ j, j < 50 → g 80 j = R (106 + j)) ∧ ∀ j, j < 20 → g 86 j = R (156 + j)
def x_rel (S g : zz_G) (r : zz_R) (n : Nat) : Prop := xr r ∧ xq_P S g ∧ xb_c 1 (S 51) g r ∧ (∀ u, u < 2 → xb_t (S 51) u (g (23 + 2 * u) 1) (g (24 + 2 * u))) ∧
  ((S 50 3 = 0 ∧ r 0 1 = none ∧ n = 60) ∨ (¬ S 50 3 = 0 ∧ r 0 1 = some 60 ∧ n = 87 ∧ xk r ∧ xk_P (S 52) g ∧ xb_c 60 (S 52) g r ∧ ∀ u, u < 2 → xb_t (S 52) u (g (82 + 2 * u) 1) (g (83 + 2 * u))))
/-- an end of a call of the class: answer and state as sp says; the model's cells stand -/
def x_o (g : zz_G) (Q : zz_Q) (sp : Int32 × zz_G) : Prop := ∀ g' r' n', x_rel sp.2 g' r' n' → (∀ k, 50 ≤ k → k < 60 → g' k = g k) → Q (some (.int sp.1)) g' r' n'
theorem x_rel.at {S g : zz_G} {r : zz_R} {n : Nat} (h : x_rel S g r n) (p : Nat × Nat × Nat × Nat × Nat) (hp : p ∈ xq_l) (i : Nat) (hi : i < p.2.2.1) : g p.1 (p.2.1 + i) = S p.2.2.2.1 (p.2.2.2.2 + i) := h.2.1 p hp i hi
theorem x_rel.nn {S g : zz_G} {r : zz_R} {n : Nat} (h : x_rel S g r n) : 60 ≤ n := by
  rcases h.2.2.2.2 with q | q
  · omega
  · omega
theorem pz_b_congr {R R' : Nat → Int32} {u len : Nat} (h : ∀ j, 176 ≤ j → R' j = R j) : pz_b R' u len = pz_b R u len := funext fun k => by
  unfold pz_b
  rw [h _ (by omega)]
theorem xb_t_congr {R R' : Nat → Int32} {u : Nat} {sz : Int32} {st : Nat → Int32} (h5 : R' (5 + u) = R (5 + u)) (ht : ∀ j, 176 ≤ j → R' j = R j) (h : xb_t R u sz st) : xb_t R' u sz st := by
  unfold xb_t at h ⊢
  rw [h5]
  simp only [pz_b_congr ht]
  exact h
/-- a plain place written on both sides -/
theorem x_rel.u {S g : zz_G} {r : zz_R} {n : Nat} {x : Int32} (h : x_rel S g r n) (p : Nat × Nat × Nat × Nat × Nat) (hp : p ∈ xq_l) (i : Nat) (hi : i < p.2.2.1) : x_rel (zz_u S p.2.2.2.1 (p.2.2.2.2 + i) x) (zz_u g p.1 (p.2.1 + i) x) r n := by
  obtain ⟨h1, h2, h3, h4, h5⟩ := h
  have dj : ∀ q ∈ xq_l, (q.1 < 11 ∨ 20 < q.1) ∧ (q.1 < 23 ∨ 26 < q.1) ∧ q.1 < 60 ∧ ¬ q.2.2.2.1 = 52 ∧ (q.2.2.2.1 = 50 → 4 ≤ q.2.2.2.2) ∧ (q.2.2.2.1 = 51 → (q.2.2.2.2 + q.2.2.1 ≤ 5 ∨ (7 ≤ q.2.2.2.2 ∧ q.2.2.2.2 + q.2.2.1 ≤ 46) ∨ (106 ≤ q.2.2.2.2 ∧ q.2.2.2.2 + q.2.2.1 ≤ 176))) := by decide
  obtain ⟨d1, d2, d3, d4, d5, d6⟩ := dj p hp
  have eg : ∀ k, (11 ≤ k ∧ k ≤ 20) ∨ (23 ≤ k ∧ k ≤ 26) ∨ 60 ≤ k → zz_u g p.1 (p.2.1 + i) x k = g k := fun k hk => zz_u_row g x (by omega)
  have e51 : ∀ j, j = 5 ∨ j = 6 ∨ (46 ≤ j ∧ j < 106) ∨ 176 ≤ j → zz_u S p.2.2.2.1 (p.2.2.2.2 + i) x 51 j = S 51 j := by
    intro j hj
    by_cases hs : p.2.2.2.1 = 51
    · have := d6 hs
      exact zz_u_ne2 S x (by omega)
    · exact zz_u_ne1 S x (Ne.symm hs)
  have e52 : zz_u S p.2.2.2.1 (p.2.2.2.2 + i) x 52 = S 52 := zz_u_row S x (Ne.symm d4)
  have e50 : zz_u S p.2.2.2.1 (p.2.2.2.2 + i) x 50 3 = S 50 3 := by
    by_cases hs : p.2.2.2.1 = 50
    · have := d5 hs
      exact zz_u_ne2 S x (by omega)
    · exact zz_u_ne1 S x (Ne.symm hs)
  refine ⟨h1, xq_u h2 p hp i hi, ?_, fun u hu => ?_, ?_⟩
  · obtain ⟨pi, c1, c2, c3⟩ := h3
    refine ⟨pi, c1, c2, fun c j hc hj => ?_⟩
    have := (c1 c hc).1
    rw [eg _ (by omega), e51 _ (by omega)]
    exact c3 c j hc hj
  · rw [eg (23 + 2 * u) (by omega), eg (24 + 2 * u) (by omega)]
    exact xb_t_congr (e51 _ (by omega)) (fun j hj => e51 j (by omega)) (h4 u hu)
  · rw [e50, e52]
    rcases h5 with h5 | ⟨k1, k2, k3, k4, k5, k6, k7⟩
    · exact Or.inl h5
    · refine Or.inr ⟨k1, k2, k3, k4, ?_, ?_, fun u hu => ?_⟩
      · obtain ⟨m1, m2, m3, m4, m5⟩ := k5
        refine ⟨?_, fun j hj => ?_, fun w j hw hj => ?_, fun j hj => ?_, fun j hj => ?_⟩
        · rw [eg 60 (by omega)]
          exact m1
        · rw [eg 61 (by omega)]
          exact m2 j hj
        · rw [eg (63 + w) (by omega)]
          exact m3 w j hw hj
        · rw [eg 80 (by omega)]
          exact m4 j hj
        · rw [eg 86 (by omega)]
          exact m5 j hj
      · obtain ⟨pi, c1, c2, c3⟩ := k6
        refine ⟨pi, c1, c2, fun c j hc hj => ?_⟩
        rw [eg _ (by omega)]
        exact c3 c j hc hj
      · rw [eg (82 + 2 * u) (by omega), eg (83 + 2 * u) (by omega)]
        exact k7 u hu
