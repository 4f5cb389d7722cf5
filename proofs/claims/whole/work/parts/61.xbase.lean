theorem xm_way : ∀ w : Fin 6, (4 + w.1, 0, 5, 51, 16 + 5 * w.1) ∈ xq_l := by decide
theorem xm_sheet : ∀ w : Fin 4, (44 + w.1, 0, 40, 57, 40 * w.1) ∈ xq_l := by decide
section XR
variable {S g : zz_G} {r : zz_R} {n : Nat}

theorem x_s0 (h : x_rel S g r n) : S 51 0 = g 1 1 := (h.at (1, 1, 1, 51, 0) (by decide) 0 (by decide)).symm
theorem x_s1 (h : x_rel S g r n) : S 51 1 = g 1 5 := (h.at (1, 5, 1, 51, 1) (by decide) 0 (by decide)).symm
theorem x_s2 (h : x_rel S g r n) : S 51 2 = g 1 7 := (h.at (1, 7, 1, 51, 2) (by decide) 0 (by decide)).symm
theorem x_s3 (h : x_rel S g r n) : S 51 3 = g 1 11 := (h.at (1, 11, 1, 51, 3) (by decide) 0 (by decide)).symm
theorem x_s4 (h : x_rel S g r n) : S 51 4 = g 1 14 := (h.at (1, 14, 1, 51, 4) (by decide) 0 (by decide)).symm
theorem x_s7 (h : x_rel S g r n) : S 51 7 = g 1 9 := (h.at (1, 9, 1, 51, 7) (by decide) 0 (by decide)).symm
theorem x_s13 (h : x_rel S g r n) : S 51 13 = g 1 2 := (h.at (1, 2, 3, 51, 13) (by decide) 0 (by decide)).symm
theorem x_s14 (h : x_rel S g r n) : S 51 14 = g 1 3 := (h.at (1, 2, 3, 51, 13) (by decide) 1 (by decide)).symm
theorem x_s15 (h : x_rel S g r n) : S 51 15 = g 1 4 := (h.at (1, 2, 3, 51, 13) (by decide) 2 (by decide)).symm
theorem x_s8 (h : x_rel S g r n) : S 51 8 = g 2 0 := (h.at (2, 0, 5, 51, 8) (by decide) 0 (by decide)).symm
theorem x_s9 (h : x_rel S g r n) : S 51 9 = g 2 1 := (h.at (2, 0, 5, 51, 8) (by decide) 1 (by decide)).symm
theorem x_s10 (h : x_rel S g r n) : S 51 10 = g 2 2 := (h.at (2, 0, 5, 51, 8) (by decide) 2 (by decide)).symm
theorem x_s11 (h : x_rel S g r n) : S 51 11 = g 2 3 := (h.at (2, 0, 5, 51, 8) (by decide) 3 (by decide)).symm
theorem x_s12 (h : x_rel S g r n) : S 51 12 = g 2 4 := (h.at (2, 0, 5, 51, 8) (by decide) 4 (by decide)).symm
theorem x_dr (h : x_rel S g r n) {j : Nat} (hj : j < 5) : S 51 (8 + j) = g 2 j := by
  have := h.at (2, 0, 5, 51, 8) (by decide) j hj
  rw [Nat.zero_add] at this
  exact this.symm
theorem x_tp (h : x_rel S g r n) {j : Nat} (hj : j < 50) : S 51 (106 + j) = g 21 j := by
  have := h.at (21, 0, 50, 51, 106) (by decide) j hj
  rw [Nat.zero_add] at this
  exact this.symm
theorem x_wt (h : x_rel S g r n) {j : Nat} (hj : j < 20) : S 51 (156 + j) = g 27 j := by
  have := h.at (27, 0, 20, 51, 156) (by decide) j hj
  rw [Nat.zero_add] at this
  exact this.symm
theorem x_er0 (h : x_rel S g r n) {j : Nat} (hj : j < 6) : S 54 j = g 28 j := by
  have := h.at (28, 0, 6, 54, 0) (by decide) j hj
  simp only [Nat.zero_add] at this
  exact this.symm
theorem x_sb (h : x_rel S g r n) {j : Nat} (hj : j < 4) : S 55 j = g 48 j := by
  have := h.at (48, 0, 4, 55, 0) (by decide) j hj
  simp only [Nat.zero_add] at this
  exact this.symm
theorem x_sz (h : x_rel S g r n) {j : Nat} (hj : j < 4) : S 56 j = g 49 j := by
  have := h.at (49, 0, 4, 56, 0) (by decide) j hj
  simp only [Nat.zero_add] at this
  exact this.symm
theorem x_tr (h : x_rel S g r n) {j : Nat} (hj : j < 40) : S 59 j = g 42 j := by
  have := h.at (42, 0, 40, 59, 0) (by decide) j hj
  simp only [Nat.zero_add] at this
  exact this.symm
theorem x_tm (h : x_rel S g r n) : S 50 19 = g 41 1 := (h.at (41, 1, 1, 50, 19) (by decide) 0 (by decide)).symm
theorem x_im (h : x_rel S g r n) : S 50 4 = g 0 2 := (h.at (0, 2, 1, 50, 4) (by decide) 0 (by decide)).symm
theorem x_wy (h : x_rel S g r n) {w j : Nat} (hw : w < 6) (hj : j < 5) : S 51 (16 + 5 * w + j) = g (4 + w) j := by
  have := h.at _ (xm_way ⟨w, hw⟩) j hj
  simp only [Nat.zero_add] at this
  exact this.symm
theorem x_wy0 (h : x_rel S g r n) {w : Nat} (hw : w < 6) : S 51 (16 + 5 * w) = g (4 + w) 0 := x_wy h (j := 0) hw (by decide)
theorem x_sh (h : x_rel S g r n) {w j : Nat} (hw : w < 4) (hj : j < 40) : S 57 (40 * w + j) = g (44 + w) j := by
  have := h.at _ (xm_sheet ⟨w, hw⟩) j hj
  simp only [Nat.zero_add] at this
  exact this.symm
end XR
/-- since g: the class's memory holds S', the model's cells stand -/
def x_F (g g' : zz_G) (r : zz_R) (n : Nat) (S' : zz_G) : Prop := x_rel S' g' r n ∧ ∀ k, 50 ≤ k → k < 60 → g' k = g k
theorem x_F.rf {S g : zz_G} {r : zz_R} {n : Nat} (h : x_rel S g r n) : x_F g g r n S := ⟨h, fun _ _ _ => rfl⟩
theorem x_o.e {g g' : zz_G} {r' : zz_R} {n' : Nat} {Q : zz_Q} {sp : Int32 × zz_G} (h : x_o g Q sp) (hF : x_F g g' r' n' sp.2) : Q (some (.int sp.1)) g' r' n' := h g' r' n' hF.1 hF.2
theorem x_F.u {g g' S' : zz_G} {r : zz_R} {n : Nat} {x : Int32} (h : x_F g g' r n S') (p : Nat × Nat × Nat × Nat × Nat) (hp : p ∈ xq_l) (i : Nat) (hi : i < p.2.2.1) : x_F g (zz_u g' p.1 (p.2.1 + i) x) r n (zz_u S' p.2.2.2.1 (p.2.2.2.2 + i) x) := by
  refine ⟨h.1.u p hp i hi, fun k h1 h2 => ?_⟩
  have : p.1 < 50 := (by decide : ∀ q ∈ xq_l, q.1 < 50) p hp
  rw [zz_u_row g' x (by omega)]
  exact h.2 k h1 h2
section XW
variable {g g' S' : zz_G} {r : zz_R} {n : Nat} {x : Int32}
theorem x_F.s0 (h : x_F g g' r n S') : x_F g (zz_u g' 1 1 x) r n (zz_u S' 51 0 x) := h.u (1, 1, 1, 51, 0) (by decide) 0 (by decide)
theorem x_F.s1 (h : x_F g g' r n S') : x_F g (zz_u g' 1 5 x) r n (zz_u S' 51 1 x) := h.u (1, 5, 1, 51, 1) (by decide) 0 (by decide)
theorem x_F.s2 (h : x_F g g' r n S') : x_F g (zz_u g' 1 7 x) r n (zz_u S' 51 2 x) := h.u (1, 7, 1, 51, 2) (by decide) 0 (by decide)
theorem x_F.s3 (h : x_F g g' r n S') : x_F g (zz_u g' 1 11 x) r n (zz_u S' 51 3 x) := h.u (1, 11, 1, 51, 3) (by decide) 0 (by decide)
theorem x_F.s4 (h : x_F g g' r n S') : x_F g (zz_u g' 1 14 x) r n (zz_u S' 51 4 x) := h.u (1, 14, 1, 51, 4) (by decide) 0 (by decide)
theorem x_F.s7 (h : x_F g g' r n S') : x_F g (zz_u g' 1 9 x) r n (zz_u S' 51 7 x) := h.u (1, 9, 1, 51, 7) (by decide) 0 (by decide)
theorem x_F.s13 (h : x_F g g' r n S') : x_F g (zz_u g' 1 2 x) r n (zz_u S' 51 13 x) := h.u (1, 2, 3, 51, 13) (by decide) 0 (by decide)
theorem x_F.s14 (h : x_F g g' r n S') : x_F g (zz_u g' 1 3 x) r n (zz_u S' 51 14 x) := h.u (1, 2, 3, 51, 13) (by decide) 1 (by decide)
theorem x_F.s15 (h : x_F g g' r n S') : x_F g (zz_u g' 1 4 x) r n (zz_u S' 51 15 x) := h.u (1, 2, 3, 51, 13) (by decide) 2 (by decide)
theorem x_F.dr (h : x_F g g' r n S') {j : Nat} (hj : j < 5) : x_F g (zz_u g' 2 j x) r n (zz_u S' 51 (8 + j) x) := by
  have := h.u (x := x) (2, 0, 5, 51, 8) (by decide) j hj
  simp only [Nat.zero_add] at this
  exact this
theorem x_F.tp (h : x_F g g' r n S') {j : Nat} (hj : j < 50) : x_F g (zz_u g' 21 j x) r n (zz_u S' 51 (106 + j) x) := by
  have := h.u (x := x) (21, 0, 50, 51, 106) (by decide) j hj
  simp only [Nat.zero_add] at this
  exact this
theorem x_F.wt (h : x_F g g' r n S') {j : Nat} (hj : j < 20) : x_F g (zz_u g' 27 j x) r n (zz_u S' 51 (156 + j) x) := by
  have := h.u (x := x) (27, 0, 20, 51, 156) (by decide) j hj
  simp only [Nat.zero_add] at this
  exact this
theorem x_F.er (h : x_F g g' r n S') {j : Nat} (hj : j < 6) : x_F g (zz_u g' 28 j x) r n (zz_u S' 54 j x) := by
  have := h.u (x := x) (28, 0, 6, 54, 0) (by decide) j hj
  simp only [Nat.zero_add] at this
  exact this
theorem x_F.sb (h : x_F g g' r n S') {j : Nat} (hj : j < 4) : x_F g (zz_u g' 48 j x) r n (zz_u S' 55 j x) := by
  have := h.u (x := x) (48, 0, 4, 55, 0) (by decide) j hj
  simp only [Nat.zero_add] at this
  exact this
theorem x_F.sz (h : x_F g g' r n S') {j : Nat} (hj : j < 4) : x_F g (zz_u g' 49 j x) r n (zz_u S' 56 j x) := by
  have := h.u (x := x) (49, 0, 4, 56, 0) (by decide) j hj
  simp only [Nat.zero_add] at this
  exact this
theorem x_F.tr (h : x_F g g' r n S') {j : Nat} (hj : j < 40) : x_F g (zz_u g' 42 j x) r n (zz_u S' 59 j x) := by
  have := h.u (x := x) (42, 0, 40, 59, 0) (by decide) j hj
  simp only [Nat.zero_add] at this
  exact this
theorem x_F.tm (h : x_F g g' r n S') : x_F g (zz_u g' 41 1 x) r n (zz_u S' 50 19 x) := h.u (41, 1, 1, 50, 19) (by decide) 0 (by decide)
theorem x_F.im (h : x_F g g' r n S') : x_F g (zz_u g' 0 2 x) r n (zz_u S' 50 4 x) := h.u (0, 2, 1, 50, 4) (by decide) 0 (by decide)
theorem x_F.wy (h : x_F g g' r n S') {w j : Nat} (hw : w < 6) (hj : j < 5) : x_F g (zz_u g' (4 + w) j x) r n (zz_u S' 51 (16 + 5 * w + j) x) := by
  have := h.u (x := x) _ (xm_way ⟨w, hw⟩) j hj
  simp only [Nat.zero_add] at this
  exact this
theorem x_F.sh (h : x_F g g' r n S') {w j : Nat} (hw : w < 4) (hj : j < 40) : x_F g (zz_u g' (44 + w) j x) r n (zz_u S' 57 (40 * w + j) x) := by
  have := h.u (x := x) _ (xm_sheet ⟨w, hw⟩) j hj
  simp only [Nat.zero_add] at this
  exact this
end XW
theorem x_er {S g : zz_G} {r : zz_R} {n e : Nat} {Q : zz_Q} (hx : x_rel S g r n) (he : e < 6) (h : x_o g Q (sp_err S e)) : Q (some (.int (-1000000000 - nI e))) (zz_u g 28 e (g 28 e + 1)) r n := by
  refine h.e (sp := sp_err S e) ?_
  show x_F _ _ _ _ (zz_u S 54 e (S 54 e + 1))
  rw [x_er0 hx he]
  exact (x_F.rf hx).er he
/-- cells that the relation does not look at: the stack, the reader -/
def xj (g g' : zz_G) : Prop := ∀ k, k ≠ 40 → g' k = g k
theorem xj.rf {g : zz_G} : xj g g := fun _ _ => rfl
theorem xj.tr {g g' g'' : zz_G} (h : xj g g') (h2 : xj g' g'') : xj g g'' := fun k hk => (h2 k hk).trans (h k hk)
theorem xj.u {g g' : zz_G} {j : Nat} {x : Int32} (h : xj g g') : xj g (zz_u g' 40 j x) := fun k hk => (zz_u_row g' x hk).trans (h k hk)
/-- the relation looks at the cells below 29 and from 41 on, 37 to 39 not -/
theorem x_rel.cg {S g g' : zz_G} {r : zz_R} {n : Nat} (h : x_rel S g r n) (e : ∀ k, (k < 37 ∨ (40 < k ∧ k < 999)) → g' k = g k) : x_rel S g' r n := by
  obtain ⟨h1, h2, h3, h4, h5⟩ := h
  have dj : ∀ q ∈ xq_l, q.1 < 37 ∨ (40 < q.1 ∧ q.1 < 999) := by decide
  refine ⟨h1, fun q hq i hi => ?_, ?_, fun u hu => ?_, ?_⟩
  · rw [e _ (dj q hq)]
    exact h2 q hq i hi
  · obtain ⟨pi, c1, c2, c3⟩ := h3
    refine ⟨pi, c1, c2, fun c j hc hj => ?_⟩
    have := (c1 c hc).1
    rw [e _ (by omega)]
    exact c3 c j hc hj
  · rw [e _ (by omega), e _ (by omega)]
    exact h4 u hu
  · rcases h5 with h5 | ⟨k1, k2, k3, k4, k5, k6, k7⟩
    · exact Or.inl h5
    · refine Or.inr ⟨k1, k2, k3, k4, ?_, ?_, fun u hu => ?_⟩
      · unfold xk_P at k5 ⊢
        rw [e 60 (by omega), e 61 (by omega), e 80 (by omega), e 86 (by omega)]
        exact ⟨k5.1, k5.2.1, fun w j hw hj => by rw [e _ (by omega)]; exact k5.2.2.1 w j hw hj, k5.2.2.2⟩
      · obtain ⟨pi, c1, c2, c3⟩ := k6
        refine ⟨pi, c1, c2, fun c j hc hj => ?_⟩
        have := (c1 c hc).1
        rw [e _ (by omega)]
        exact c3 c j hc hj
      · rw [e _ (by omega), e _ (by omega)]
        exact k7 u hu
theorem x_rel.j {S g g' : zz_G} {r : zz_R} {n : Nat} (h : x_rel S g r n) (e : xj g g') : x_rel S g' r n := h.cg fun k hk => e k (by omega)
theorem x_F.j {g g1 g' S' : zz_G} {r : zz_R} {n : Nat} (h : x_F g g1 r n S') (e : xj g1 g') : x_F g g' r n S' := ⟨h.1.j e, fun k h1 h2 => (e k (by omega)).trans (h.2 k h1 h2)⟩