def wk (j : Nat) (x : Int32) : Prop := ((j = 0 → wi x 0 999999) ∧ (j = 2 → wi x 0 6) ∧ (j = 3 → wi x 0 50) ∧ (j = 4 → wi x 0 20) ∧ (j = 7 → wi x 0 10) ∧ (j = 8 → wi x 1 6) ∧ (j = 9 → wi x 1 300) ∧ (j = 10 → wi x 1 9) ∧ (j = 11 → wi x 0 9999)) ∧ (∀ w, w < 6 → (j = 16 + 5 * w → wi x 0 6) ∧ (j = 16 + 5 * w + 1 → wi x 0 9) ∧ (j = 16 + 5 * w + 2 → wi x 0 99) ∧ (j = 16 + 5 * w + 3 → wi x 0 5) ∧ (j = 16 + 5 * w + 4 → wi x 0 1)) ∧ ∀ i, i < 50 → j = 106 + i → wi x 0 255
theorem wi_u {S : zz_G} {j i lo hi : Nat} {x : Int32} (h : wi (S 51 i) lo hi) (hx : j = i → wi x lo hi) : wi (zz_u S 51 j x 51 i) lo hi := by
  by_cases e : i = j
  · subst e
    rw [zz_u_same]
    exact hx rfl
  · rw [zz_u_ne2 _ _ e]
    exact h
theorem wr_u {S : zz_G} {j : Nat} {x : Int32} (h : wr (S 51)) (hk : wk j x) : wr (zz_u S 51 j x 51) := by
  obtain ⟨⟨a0, a2, a3, a4, a7, a8, a9, a10, a11⟩, b, c⟩ := h
  obtain ⟨⟨k0, k2, k3, k4, k7, k8, k9, k10, k11⟩, kb, kc⟩ := hk
  refine ⟨⟨wi_u a0 k0, wi_u a2 k2, wi_u a3 k3, wi_u a4 k4, wi_u a7 k7, wi_u a8 k8, wi_u a9 k9, wi_u a10 k10, wi_u a11 k11⟩, fun w hw => ?_, fun i hi => wi_u (c i hi) (kc i hi)⟩
  obtain ⟨b0, b1, b2, b3, b4⟩ := b w hw
  obtain ⟨q0, q1, q2, q3, q4⟩ := kb w hw
  exact ⟨wi_u b0 q0, wi_u b1 q1, wi_u b2 q2, wi_u b3 q3, wi_u b4 q4⟩
theorem wr_cgx {R R' : Nat → Int32} (h : wr R) (e : ∀ j, (j ≤ 11 ∧ j ≠ 1 ∧ j ≠ 5 ∧ j ≠ 6) ∨ (16 ≤ j ∧ j < 46) ∨ (106 ≤ j ∧ j < 156) → R' j = R j) : wr R' := by
  obtain ⟨⟨a0, a2, a3, a4, a7, a8, a9, a10, a11⟩, b, c⟩ := h
  refine ⟨⟨?_, ?_, ?_, ?_, ?_, ?_, ?_, ?_, ?_⟩, fun w hw => ?_, fun j hj => ?_⟩
  · rw [e _ (by decide)]; exact a0
  · rw [e _ (by decide)]; exact a2
  · rw [e _ (by decide)]; exact a3
  · rw [e _ (by decide)]; exact a4
  · rw [e _ (by decide)]; exact a7
  · rw [e _ (by decide)]; exact a8
  · rw [e _ (by decide)]; exact a9
  · rw [e _ (by decide)]; exact a10
  · rw [e _ (by decide)]; exact a11
  · unfold ww
    rw [e _ (by omega), e _ (by omega), e _ (by omega), e _ (by omega), e _ (by omega)]
    exact b w hw
  · rw [e _ (by omega)]
    exact c j hj
theorem wk_free {j : Nat} {x : Int32} (hj : j = 1 ∨ j = 5 ∨ j = 6 ∨ (12 ≤ j ∧ j < 16) ∨ (46 ≤ j ∧ j < 106) ∨ 156 ≤ j) : wk j x := ⟨⟨(fun e => absurd e (by omega)), (fun e => absurd e (by omega)), (fun e => absurd e (by omega)), (fun e => absurd e (by omega)), (fun e => absurd e (by omega)), (fun e => absurd e (by omega)), (fun e => absurd e (by omega)), (fun e => absurd e (by omega)), (fun e => absurd e (by omega))⟩, fun w hw => ⟨fun e => absurd e (by omega), fun e => absurd e (by omega), fun e => absurd e (by omega), fun e => absurd e (by omega), fun e => absurd e (by omega)⟩, fun i hi e => absurd e (by omega)⟩
theorem wk_0 {x : Int32} (hx : wi x 0 999999) : wk 0 x := ⟨⟨fun _ => hx, (fun e => absurd e (by omega)), (fun e => absurd e (by omega)), (fun e => absurd e (by omega)), (fun e => absurd e (by omega)), (fun e => absurd e (by omega)), (fun e => absurd e (by omega)), (fun e => absurd e (by omega)), (fun e => absurd e (by omega))⟩, fun w hw => ⟨fun e => absurd e (by omega), fun e => absurd e (by omega), fun e => absurd e (by omega), fun e => absurd e (by omega), fun e => absurd e (by omega)⟩, fun i hi e => absurd e (by omega)⟩
theorem wk_2 {x : Int32} (hx : wi x 0 6) : wk 2 x := ⟨⟨(fun e => absurd e (by omega)), fun _ => hx, (fun e => absurd e (by omega)), (fun e => absurd e (by omega)), (fun e => absurd e (by omega)), (fun e => absurd e (by omega)), (fun e => absurd e (by omega)), (fun e => absurd e (by omega)), (fun e => absurd e (by omega))⟩, fun w hw => ⟨fun e => absurd e (by omega), fun e => absurd e (by omega), fun e => absurd e (by omega), fun e => absurd e (by omega), fun e => absurd e (by omega)⟩, fun i hi e => absurd e (by omega)⟩
theorem wk_3 {x : Int32} (hx : wi x 0 50) : wk 3 x := ⟨⟨(fun e => absurd e (by omega)), (fun e => absurd e (by omega)), fun _ => hx, (fun e => absurd e (by omega)), (fun e => absurd e (by omega)), (fun e => absurd e (by omega)), (fun e => absurd e (by omega)), (fun e => absurd e (by omega)), (fun e => absurd e (by omega))⟩, fun w hw => ⟨fun e => absurd e (by omega), fun e => absurd e (by omega), fun e => absurd e (by omega), fun e => absurd e (by omega), fun e => absurd e (by omega)⟩, fun i hi e => absurd e (by omega)⟩
theorem wk_4 {x : Int32} (hx : wi x 0 20) : wk 4 x := ⟨⟨(fun e => absurd e (by omega)), (fun e => absurd e (by omega)), (fun e => absurd e (by omega)), fun _ => hx, (fun e => absurd e (by omega)), (fun e => absurd e (by omega)), (fun e => absurd e (by omega)), (fun e => absurd e (by omega)), (fun e => absurd e (by omega))⟩, fun w hw => ⟨fun e => absurd e (by omega), fun e => absurd e (by omega), fun e => absurd e (by omega), fun e => absurd e (by omega), fun e => absurd e (by omega)⟩, fun i hi e => absurd e (by omega)⟩
theorem wk_7 {x : Int32} (hx : wi x 0 10) : wk 7 x := ⟨⟨(fun e => absurd e (by omega)), (fun e => absurd e (by omega)), (fun e => absurd e (by omega)), (fun e => absurd e (by omega)), fun _ => hx, (fun e => absurd e (by omega)), (fun e => absurd e (by omega)), (fun e => absurd e (by omega)), (fun e => absurd e (by omega))⟩, fun w hw => ⟨fun e => absurd e (by omega), fun e => absurd e (by omega), fun e => absurd e (by omega), fun e => absurd e (by omega), fun e => absurd e (by omega)⟩, fun i hi e => absurd e (by omega)⟩
theorem wk_8 {x : Int32} (hx : wi x 1 6) : wk 8 x := ⟨⟨(fun e => absurd e (by omega)), (fun e => absurd e (by omega)), (fun e => absurd e (by omega)), (fun e => absurd e (by omega)), (fun e => absurd e (by omega)), fun _ => hx, (fun e => absurd e (by omega)), (fun e => absurd e (by omega)), (fun e => absurd e (by omega))⟩, fun w hw => ⟨fun e => absurd e (by omega), fun e => absurd e (by omega), fun e => absurd e (by omega), fun e => absurd e (by omega), fun e => absurd e (by omega)⟩, fun i hi e => absurd e (by omega)⟩
theorem wk_9 {x : Int32} (hx : wi x 1 300) : wk 9 x := ⟨⟨(fun e => absurd e (by omega)), (fun e => absurd e (by omega)), (fun e => absurd e (by omega)), (fun e => absurd e (by omega)), (fun e => absurd e (by omega)), (fun e => absurd e (by omega)), fun _ => hx, (fun e => absurd e (by omega)), (fun e => absurd e (by omega))⟩, fun w hw => ⟨fun e => absurd e (by omega), fun e => absurd e (by omega), fun e => absurd e (by omega), fun e => absurd e (by omega), fun e => absurd e (by omega)⟩, fun i hi e => absurd e (by omega)⟩
theorem wk_10 {x : Int32} (hx : wi x 1 9) : wk 10 x := ⟨⟨(fun e => absurd e (by omega)), (fun e => absurd e (by omega)), (fun e => absurd e (by omega)), (fun e => absurd e (by omega)), (fun e => absurd e (by omega)), (fun e => absurd e (by omega)), (fun e => absurd e (by omega)), fun _ => hx, (fun e => absurd e (by omega))⟩, fun w hw => ⟨fun e => absurd e (by omega), fun e => absurd e (by omega), fun e => absurd e (by omega), fun e => absurd e (by omega), fun e => absurd e (by omega)⟩, fun i hi e => absurd e (by omega)⟩
theorem wk_11 {x : Int32} (hx : wi x 0 9999) : wk 11 x := ⟨⟨(fun e => absurd e (by omega)), (fun e => absurd e (by omega)), (fun e => absurd e (by omega)), (fun e => absurd e (by omega)), (fun e => absurd e (by omega)), (fun e => absurd e (by omega)), (fun e => absurd e (by omega)), (fun e => absurd e (by omega)), fun _ => hx⟩, fun w hw => ⟨fun e => absurd e (by omega), fun e => absurd e (by omega), fun e => absurd e (by omega), fun e => absurd e (by omega), fun e => absurd e (by omega)⟩, fun i hi e => absurd e (by omega)⟩
theorem wk_w0 {v : Nat} {x : Int32} (hv : v < 6) (hx : wi x 0 6) : wk (16 + 5 * v) x := ⟨⟨(fun e => absurd e (by omega)), (fun e => absurd e (by omega)), (fun e => absurd e (by omega)), (fun e => absurd e (by omega)), (fun e => absurd e (by omega)), (fun e => absurd e (by omega)), (fun e => absurd e (by omega)), (fun e => absurd e (by omega)), (fun e => absurd e (by omega))⟩, fun w hw => ⟨fun _ => hx, fun e => absurd e (by omega), fun e => absurd e (by omega), fun e => absurd e (by omega), fun e => absurd e (by omega)⟩, fun i hi e => absurd e (by omega)⟩
theorem wk_w1 {v : Nat} {x : Int32} (hv : v < 6) (hx : wi x 0 9) : wk (16 + 5 * v + 1) x := ⟨⟨(fun e => absurd e (by omega)), (fun e => absurd e (by omega)), (fun e => absurd e (by omega)), (fun e => absurd e (by omega)), (fun e => absurd e (by omega)), (fun e => absurd e (by omega)), (fun e => absurd e (by omega)), (fun e => absurd e (by omega)), (fun e => absurd e (by omega))⟩, fun w hw => ⟨fun e => absurd e (by omega), fun _ => hx, fun e => absurd e (by omega), fun e => absurd e (by omega), fun e => absurd e (by omega)⟩, fun i hi e => absurd e (by omega)⟩
theorem wk_w2 {v : Nat} {x : Int32} (hv : v < 6) (hx : wi x 0 99) : wk (16 + 5 * v + 2) x := ⟨⟨(fun e => absurd e (by omega)), (fun e => absurd e (by omega)), (fun e => absurd e (by omega)), (fun e => absurd e (by omega)), (fun e => absurd e (by omega)), (fun e => absurd e (by omega)), (fun e => absurd e (by omega)), (fun e => absurd e (by omega)), (fun e => absurd e (by omega))⟩, fun w hw => ⟨fun e => absurd e (by omega), fun e => absurd e (by omega), fun _ => hx, fun e => absurd e (by omega), fun e => absurd e (by omega)⟩, fun i hi e => absurd e (by omega)⟩
theorem wk_w3 {v : Nat} {x : Int32} (hv : v < 6) (hx : wi x 0 5) : wk (16 + 5 * v + 3) x := ⟨⟨(fun e => absurd e (by omega)), (fun e => absurd e (by omega)), (fun e => absurd e (by omega)), (fun e => absurd e (by omega)), (fun e => absurd e (by omega)), (fun e => absurd e (by omega)), (fun e => absurd e (by omega)), (fun e => absurd e (by omega)), (fun e => absurd e (by omega))⟩, fun w hw => ⟨fun e => absurd e (by omega), fun e => absurd e (by omega), fun e => absurd e (by omega), fun _ => hx, fun e => absurd e (by omega)⟩, fun i hi e => absurd e (by omega)⟩
theorem wk_w4 {v : Nat} {x : Int32} (hv : v < 6) (hx : wi x 0 1) : wk (16 + 5 * v + 4) x := ⟨⟨(fun e => absurd e (by omega)), (fun e => absurd e (by omega)), (fun e => absurd e (by omega)), (fun e => absurd e (by omega)), (fun e => absurd e (by omega)), (fun e => absurd e (by omega)), (fun e => absurd e (by omega)), (fun e => absurd e (by omega)), (fun e => absurd e (by omega))⟩, fun w hw => ⟨fun e => absurd e (by omega), fun e => absurd e (by omega), fun e => absurd e (by omega), fun e => absurd e (by omega), fun _ => hx⟩, fun i hi e => absurd e (by omega)⟩
theorem wk_t {v : Nat} {x : Int32} (hv : v < 50) (hx : wi x 0 255) : wk (106 + v) x := ⟨⟨(fun e => absurd e (by omega)), (fun e => absurd e (by omega)), (fun e => absurd e (by omega)), (fun e => absurd e (by omega)), (fun e => absurd e (by omega)), (fun e => absurd e (by omega)), (fun e => absurd e (by omega)), (fun e => absurd e (by omega)), (fun e => absurd e (by omega))⟩, fun w hw => ⟨fun e => absurd e (by omega), fun e => absurd e (by omega), fun e => absurd e (by omega), fun e => absurd e (by omega), fun e => absurd e (by omega)⟩, fun _ _ _ => hx⟩
def iv (S : zz_G) (m : Nat) : Prop := wr (S 51) ∧ (∀ s : Nat, s < 4 → ∃ z : Nat, z ≤ 40 ∧ S 56 s = nI z) ∧ vt S ∧ (∃ q : Nat, q ≤ m ∧ S 51 15 = nI q) ∧ (¬ S 50 3 = 0 → wr (S 52) ∧ ∃ q : Nat, q ≤ m ∧ S 52 15 = nI q)
theorem iv.p {S : zz_G} {m : Nat} (h : iv S m) : iv S (m + 1) := by
  obtain ⟨h1, h2, h3, ⟨q, hq, eq⟩, h5⟩ := h
  refine ⟨h1, h2, h3, ⟨q, by omega, eq⟩, fun h => ?_⟩
  obtain ⟨a, q', hq', eq'⟩ := h5 h
  exact ⟨a, q', by omega, eq'⟩
theorem iv.cg {S S' : zz_G} {m : Nat} (h : iv S m) (e51 : S' 51 = S 51) (e52 : S' 52 = S 52) (e56 : S' 56 = S 56) (e3 : S' 50 3 = S 50 3) (e19 : vt S') : iv S' m := by
  obtain ⟨h1, h2, h3, h4, h5⟩ := h
  unfold iv
  rw [e51, e52, e56, e3]
  exact ⟨h1, h2, e19, h4, h5⟩
theorem iv.o {S : zz_G} {m a b : Nat} {x : Int32} (h : iv S m) (ha : a ≠ 50 ∧ a ≠ 51 ∧ a ≠ 52 ∧ a ≠ 56) : iv (zz_u S a b x) m :=
  h.cg (zz_u_row _ _ (by omega)) (zz_u_row _ _ (by omega)) (zz_u_row _ _ (by omega)) (zz_u_ne1 _ _ (by omega)) (by obtain ⟨tw, h4, e⟩ := h.2.2.1; exact ⟨tw, h4, (zz_u_ne1 _ _ (by omega)).trans e⟩)
theorem iv.er {S : zz_G} {m : Nat} (h : iv S m) (e : Nat) : iv (sp_err S e).2 (m + 1) := h.p.o (by decide)
theorem iv.r51 {S S' : zz_G} {m m' : Nat} (h : iv S m) (hm : m ≤ m') (e : ∀ a, a ≠ 51 → S' a = S a) (hW : wr (S' 51)) (h15 : ∃ q : Nat, q ≤ m' ∧ S' 51 15 = nI q) : iv S' m' := by
  obtain ⟨h1, h2, ⟨tw, h4, et⟩, -, h5⟩ := h
  refine ⟨hW, ?_, ⟨tw, h4, by rw [e 50 (by decide)]; exact et⟩, h15, ?_⟩
  · rw [e 56 (by decide)]
    exact h2
  · rw [e 50 (by decide), e 52 (by decide)]
    intro h3
    obtain ⟨a, q, hq, eq⟩ := h5 h3
    exact ⟨a, q, by omega, eq⟩
theorem iv.u {S : zz_G} {m j : Nat} {x : Int32} (h : iv S m) (hk : wk j x) (hj : j ≠ 15) : iv (zz_u S 51 j x) m := by
  obtain ⟨q, hq, eq⟩ := h.2.2.2.1
  exact h.r51 (Nat.le_refl _) (fun a ha => zz_u_row _ _ ha) (wr_u h.1 hk) ⟨q, hq, (zz_u_ne2 _ _ (Ne.symm hj)).trans eq⟩
theorem wi_in {v a b : Int32} {lo hi : Nat} (c : ¬ (v < a ∨ b < v)) (ha : a = nI lo) (hb : b = nI hi) (hh : hi ≤ 10000) (hl : lo ≤ 10000) : wi v lo hi := zz_in0 ha hb hh hl (fun z => c (Or.inl z)) (fun z => c (Or.inr z))
theorem wi_ten {v : Int32} (h : wi v 0 69) : wi (v / 10) 0 6 ∧ wi (v - v / 10 * 10) 0 9 := by
  obtain ⟨a, -, ha, rfl⟩ := h
  rw [show (10 : Int32) = nI 10 from rfl, pk_rem (by omega) (by decide) (by decide), pk_div (by omega) (by decide) (by decide)]
  exact ⟨⟨a / 10, by omega, by omega, rfl⟩, ⟨a % 10, by omega, by omega, rfl⟩⟩
theorem iv_isw {S : zz_G} {m : Nat} {v : Int32} (h : iv S m) (hw : sp_isw S v) : ∃ w : Nat, w < 6 ∧ v = nI w ∧ v.toNatClampNeg = w := by
  obtain ⟨mw, -, hmw6, hmw⟩ := h.1.1.2.1
  obtain ⟨w, hw2, ew⟩ := zz_nat (Int32.not_lt.mp hw.1) (by rw [← hmw]; exact hw.2) (by omega)
  exact ⟨w, by omega, ew, by rw [ew]; exact ix_w (by omega)⟩
theorem iv_rule {S : zz_G} {m : Nat} {what v : Int32} (h : iv S m) : iv (sp_rule S what v).2 (m + 1) := by
  unfold sp_rule
  by_cases e0 : what = 0
  · rw [if_pos e0]
    by_cases c : v < 1 ∨ 6 < v
    · rw [if_pos c]
      exact h.er _
    · rw [if_neg c]
      exact h.p.u (wk_8 (wi_in c rfl rfl (by decide) (by decide))) (by decide)
  rw [if_neg e0]
  by_cases e1 : what = 1
  · rw [if_pos e1]
    by_cases c : v < 1 ∨ 300 < v
    · rw [if_pos c]
      exact h.er _
    · rw [if_neg c]
      exact h.p.u (wk_9 (wi_in c rfl rfl (by decide) (by decide))) (by decide)
  rw [if_neg e1]
  by_cases e2 : what = 2
  · rw [if_pos e2]
    by_cases c : v < 1 ∨ 9 < v
    · rw [if_pos c]
      exact h.er _
    · rw [if_neg c]
      exact h.p.u (wk_10 (wi_in c rfl rfl (by decide) (by decide))) (by decide)
  rw [if_neg e2]
  by_cases e3 : what = 3
  · rw [if_pos e3]
    by_cases c : v < 1 ∨ 9999 < v
    · rw [if_pos c]
      exact h.er _
    · rw [if_neg c]
      exact h.p.u (wk_11 (by obtain ⟨q, q1, q2, q3⟩ := wi_in c rfl rfl (by decide) (by decide) (lo := 1) (hi := 9999); exact ⟨q, by omega, q2, q3⟩)) (by decide)
  rw [if_neg e3]
  by_cases e4 : what = 4
  · rw [if_pos e4]
    by_cases c : v < 0 ∨ 1 < v
    · rw [if_pos c]
      exact h.er _
    · rw [if_neg c]
      exact h.p.u (wk_free (by decide)) (by decide)
  rw [if_neg e4]
  exact h.er _
theorem iv_way {S : zz_G} {m : Nat} {km far place : Int32} (h : iv S m) : iv (sp_way S km far place).2 (m + 1) := by
  unfold sp_way
  by_cases c1 : km < 0 ∨ 69 < km
  · rw [if_pos c1]
    exact h.er _
  rw [if_neg c1]
  by_cases c2 : far < 0 ∨ 99 < far
  · rw [if_pos c2]
    exact h.er _
  rw [if_neg c2]
  by_cases c3 : place < 0 ∨ 5 < place
  · rw [if_pos c3]
    exact h.er _
  rw [if_neg c3]
  by_cases c4 : S 51 2 = 6
  · rw [if_pos c4]
    exact h.er _
  rw [if_neg c4]
  obtain ⟨mw, -, hmw6, hmw⟩ := h.1.1.2.1
  have hlt : mw < 6 := by
    rcases Nat.lt_or_ge mw 6 with q | q
    · exact q
    · exact absurd (by rw [hmw, show mw = 6 by omega]; rfl) c4
  rw [hmw, ix_w (by omega), nI_1]
  obtain ⟨t1, t2⟩ := wi_ten (wi_in c1 rfl rfl (by decide) (by decide))
  exact (((((h.p.u (wk_w0 hlt t1) (by omega)).u (wk_w1 hlt t2) (by omega)).u (wk_w2 hlt (wi_in c2 rfl rfl (by decide) (by decide))) (by omega)).u (wk_w3 hlt (wi_in c3 rfl rfl (by decide) (by decide))) (by omega)).u (wk_w4 hlt ⟨0, by decide, by decide, rfl⟩) (by omega)).u (wk_2 ⟨mw + 1, by omega, by omega, rfl⟩) (by decide)
theorem iv_become {S : zz_G} {m : Nat} {v km : Int32} (h : iv S m) : iv (sp_become S v km).2 (m + 1) := by
  unfold sp_become
  by_cases c1 : ¬ sp_isw S v
  · rw [if_pos c1]
    exact h.er _
  rw [if_neg c1]
  by_cases c2 : km < 0 ∨ 69 < km
  · rw [if_pos c2]
    exact h.er _
  rw [if_neg c2]
  obtain ⟨w, hw, -, ew⟩ := iv_isw h (Classical.not_not.mp c1)
  rw [ew]
  obtain ⟨t1, t2⟩ := wi_ten (wi_in c2 rfl rfl (by decide) (by decide))
  exact (h.p.u (wk_w1 hw t2) (by omega)).u (wk_w0 hw t1) (by omega)
theorem iv_change {S : zz_G} {m : Nat} {v what x : Int32} (h : iv S m) : iv (sp_change S v what x).2 (m + 1) := by
  unfold sp_change
  by_cases c : sp_isw S v ∧ sp_chok what x
  · rw [if_pos c]
    obtain ⟨w, hw, -, ew⟩ := iv_isw h c.1
    rw [ew]
    have hc := c.2
    unfold sp_chok at hc
    by_cases e0 : what = 0
    · rw [if_pos e0] at hc
      rw [e0]
      exact h.p.u (wk_w2 hw (wi_in hc rfl rfl (by decide) (by decide))) (by omega)
    · rw [if_neg e0] at hc
      by_cases e1 : what = 1
      · rw [if_pos e1] at hc
        rw [e1]
        exact h.p.u (wk_w3 hw (wi_in hc rfl rfl (by decide) (by decide))) (by omega)
      · rw [if_neg e1] at hc
        rw [hc.1]
        exact h.p.u (wk_w4 hw (wi_in hc.2 rfl rfl (by decide) (by decide))) (by omega)
  · rw [if_neg c]
    exact h.er _
theorem sp_byte_n (word : Int64) (k : Nat) : wi (sp_byte word k) 0 255 := by
  have hle : ((word >>> ((8 * nI k).toInt64 &&& 63)).toBitVec &&& 255#64).toNat ≤ 255 := by
    rw [BitVec.toNat_and]
    exact Nat.and_le_right
  refine ⟨_, Nat.zero_le _, hle, ?_⟩
  apply Int32.toBitVec_inj.mp
  apply BitVec.eq_of_toNat_eq
  rw [pk_tn (by omega)]
  unfold sp_byte
  rw [Int64.toBitVec_toInt32, BitVec.signExtend_eq_setWidth_of_le _ (by decide), Int64.toBitVec_and, BitVec.toNat_setWidth]
  exact Nat.mod_eq_of_lt (by
    have : ((word >>> ((8 * nI k).toInt64 &&& 63)).toBitVec &&& 255#64).toNat ≤ 255 := hle
    show ((word >>> ((8 * nI k).toInt64 &&& 63)).toBitVec &&& 255#64).toNat < 2 ^ 32
    omega)
theorem iv_fd {S : zz_G} {m t : Nat} {word : Int64} (h : iv S m) : ∀ k, t + k ≤ 50 → iv (sp_fd S t word k) m
  | 0, _ => h
  | k + 1, hk => by
    have ih := iv_fd (t := t) (word := word) h k (by omega)
    show iv (zz_u (zz_u (sp_fd S t word k) 51 (106 + t + k) (sp_byte word k)) 51 3 (nI (t + k + 1))) m
    rw [Nat.add_assoc 106 t k]
    exact (ih.u (wk_t (by omega) (sp_byte_n word k)) (by omega)).u (wk_3 ⟨t + k + 1, by omega, by omega, rfl⟩) (by decide)
theorem iv_feed {S : zz_G} {m : Nat} {word : Int64} {v : Int32} (h : iv S m) : iv (sp_feed S word v).2 (m + 1) := by
  unfold sp_feed
  by_cases c : v < 1 ∨ 8 < v
  · rw [if_pos c]
    exact h.er _
  rw [if_neg c]
  by_cases c2 : S 51 3 + v ≤ 50
  · rw [if_pos c2]
    obtain ⟨t, -, ht, et⟩ := h.1.1.2.2.1
    obtain ⟨b, -, hb, eb⟩ := wi_in c rfl rfl (by decide) (by decide) (lo := 1) (hi := 8)
    rw [et, eb, nI_add] at c2
    have := zz_gei (b := t + b) (a := 50) c2 (by omega) (by omega)
    rw [et, eb, ix_w (by omega), ix_w (by omega)]
    exact iv_fd h.p b this
  · rw [if_neg c2]
    exact h.er _
theorem iv_text {S : zz_G} {m : Nat} {v : Int32} (h : iv S m) : iv (sp_text S v).2 (m + 1) := by
  unfold sp_text
  by_cases c : v < 0 ∨ 1 < v
  · rw [if_pos c]
    exact h.er _
  rw [if_neg c]
  obtain ⟨u, -, hu, eu⟩ := wi_in c rfl rfl (by decide) (by decide) (lo := 0) (hi := 1)
  rw [show v.toNatClampNeg = u from by rw [eu]; exact ix_w (by omega)]
  unfold sp_textT
  have hz : wi (0 : Int32) 0 50 := ⟨0, by decide, by decide, rfl⟩
  by_cases c2 : (pz_run (pz_b (sp_tx S u 51) u (S 51 3).toNatClampNeg) u 1 1 1).1 = true ∧ (pz_run (pz_b (sp_tx S u 51) u (S 51 3).toNatClampNeg) u 1 1 1).2.1 = (S 51 3).toNatClampNeg
  · rw [if_pos c2]
    have es : ∀ a b, ¬ (a = 51 ∧ (b = 5 + u ∨ (176 + 50 * u ≤ b ∧ b < 176 + 50 * u + 50))) → sp_tx S u a b = S a b := fun a b hb => by
      unfold sp_tx zz_u sp_tc
      rw [if_neg (by omega), if_neg (by omega)]
    have h2 : iv (sp_tx S u) (m + 1) := by
      obtain ⟨q, hq, eq⟩ := h.2.2.2.1
      exact h.r51 (by omega) (fun a ha => funext fun b => es a b (by omega)) (wr_cgx h.1 (fun j hj => es 51 j (by omega))) ⟨q, by omega, (es 51 15 (by omega)).trans eq⟩
    exact h2.u (wk_3 hz) (by decide)
  · rw [if_neg c2]
    exact h.p.u (wk_3 hz) (by decide)
theorem iv_lo {S S' : zz_G} {m t : Nat} (h : iv S m) (hl : lo_k S S') (ht : t ≤ 999999) (e0 : S' 51 0 = nI t) : iv S' m := by
  obtain ⟨q, hq, eq⟩ := h.2.2.2.1
  exact h.r51 (Nat.le_refl _) (fun a ha => funext fun b => hl.1 a b (fun z => ha z.1)) (lok_ww hl h.1 ht e0) ⟨q, hq, (hl.1 51 15 (by omega)).trans eq⟩
theorem lo_rf {S : zz_G} {m : Nat} (h : iv S m) : lo_k S S := by
  obtain ⟨cw, -, hc, ec⟩ := h.1.1.2.2.2.2.1
  exact ⟨fun _ _ _ => rfl, cw, hc, ec⟩
theorem iv_ask {S : zz_G} {m : Nat} {v : Int32} (h : iv S m) : iv (sp_ask S v).2 (m + 1) := by
  unfold sp_ask
  by_cases c1 : ¬ sp_isw S v
  · rw [if_pos c1]
    exact h.er _
  rw [if_neg c1]
  by_cases c2 : S 51 (16 + 5 * v.toNatClampNeg + 4) = 1
  · rw [if_pos c2]
    exact h.er _
  rw [if_neg c2]
  obtain ⟨t, -, ht, et⟩ := h.1.1.1
  obtain ⟨cw, -, hc, ec⟩ := h.1.1.2.2.2.2.1
  exact iv_lo h.p (lo_rf h).asks ht ((sp_asks_0 hc ec).trans et)
theorem iv_loose {S : zz_G} {m : Nat} {v : Int32} (h : iv S m) : iv (sp_loose S v).2 (m + 1) := by
  unfold sp_loose
  by_cases c : v < 1 ∨ 60 < v
  · rw [if_pos c]
    exact h.er _
  rw [if_neg c]
  by_cases c2 : S 51 0 + v ≤ 999999
  · rw [if_pos c2]
    obtain ⟨t, -, ht, et⟩ := h.1.1.1
    obtain ⟨cw, -, hc, ec⟩ := h.1.1.2.2.2.2.1
    obtain ⟨b, -, hb, eb⟩ := wi_in c rfl rfl (by decide) (by decide) (lo := 1) (hi := 60)
    rw [et, eb, nI_add] at c2
    have h9 : t + b ≤ 999999 := (nI_leI (a := t + b) (b := 999999) (by omega) (by omega)).mp c2
    rw [eb, ix_w (by omega)]
    exact iv_lo h.p (lo_k.lo hc ec b) h9 (sp_lo_0 hc ec et b)
  · rw [if_neg c2]
    exact h.er _
theorem iv_pass {S : zz_G} {m : Nat} {v : Int32} (h : iv S m) : iv (sp_pass S v).2 (m + 1) := by
  unfold sp_pass
  by_cases c : v < 1 ∨ 9999 < v
  · rw [if_pos c]
    exact h.er _
  rw [if_neg c]
  by_cases c2 : S 51 0 + v ≤ 999999
  · rw [if_pos c2]
    obtain ⟨t, -, ht, et⟩ := h.1.1.1
    obtain ⟨b, -, hb, eb⟩ := wi_in c rfl rfl (by decide) (by decide) (lo := 1) (hi := 9999)
    rw [et, eb, nI_add] at c2 ⊢
    have h9 : t + b ≤ 999999 := (nI_leI (a := t + b) (b := 999999) (by omega) (by omega)).mp c2
    exact h.p.u (wk_0 ⟨t + b, by omega, h9, rfl⟩) (by decide)
  · rw [if_neg c2]
    exact h.er _
theorem iv_enter {S : zz_G} {m : Nat} {v : Int32} (h : iv S m) (hm : m < 9999) : iv (sp_enter S v).2 (m + 1) := by
  unfold sp_enter
  by_cases c : v < 0 ∨ 999999 < v
  · rw [if_pos c]
    exact h.er _
  rw [if_neg c]
  by_cases c1 : S 51 0 < S 51 14
  · rw [if_pos c1]
    exact h.er _
  rw [if_neg c1]
  by_cases c2 : S 51 0 + 2 ≤ 999999
  · rw [if_pos c2]
    obtain ⟨t, -, ht, et⟩ := h.1.1.1
    obtain ⟨cw, -, hc, ec⟩ := h.1.1.2.2.2.2.1
    have h9 : t + 2 ≤ 999999 := by
      rw [et, show (2 : Int32) = nI 2 from rfl, nI_add] at c2
      exact (nI_leI (a := t + 2) (b := 999999) (by omega) (by omega)).mp c2
    have h2 : iv (zz_u S 51 0 (S 51 0 + 2)) m := by
      rw [et, show (2 : Int32) = nI 2 from rfl, nI_add]
      exact h.u (wk_0 ⟨t + 2, by omega, h9, rfl⟩) (by decide)
    generalize zz_u S 51 0 (S 51 0 + 2) = S2 at h2 ⊢
    rw [ec, ix_w (by omega)]
    by_cases c3 : sp_ec (S2 51) v cw 0 < cw
    · rw [if_pos c3]
      unfold sp_ent1
      generalize sp_ec (S2 51) v cw 0 = K at c3 ⊢
      obtain ⟨q, hq, eq⟩ := h2.2.2.2.1
      have e15 : sp_held (S2 51 15 + 1) 0 9999 = nI (q + 1) := by
        rw [eq, nI_1]
        unfold sp_held
        rw [if_pos (nI_pos' (by omega)), if_pos (show nI (q + 1) ≤ 9999 from (nI_leI (a := q + 1) (b := 9999) (by omega) (by omega)).mpr (by omega))]
      have h3 : iv (zz_u S2 51 (46 + 6 * K + 5) 1) m := h2.u (wk_free (by omega)) (by omega)
      have h4 : iv (zz_u (zz_u S2 51 (46 + 6 * K + 5) 1) 51 15 (sp_held (S2 51 15 + 1) 0 9999)) (m + 1) := by
        rw [e15]
        exact h3.r51 (by omega) (fun a ha => zz_u_row _ _ ha) (wr_u h3.1 (wk_free (by omega))) ⟨q + 1, by omega, zz_u_same _ _ _ _⟩
      exact h4.u (wk_free (by omega)) (by omega)
    · rw [if_neg c3]
      unfold sp_ent0
      by_cases c4 : S2 51 13 + 1 < S2 51 10
      · rw [if_pos c4]
        exact h2.p.u (wk_free (by omega)) (by omega)
      · rw [if_neg c4]
        exact ((h2.p.u (wk_free (by omega)) (by omega)).u (wk_free (by omega)) (by omega)).u (wk_free (by omega)) (by omega)
  · rw [if_neg c2]
    exact h.er _
theorem iv_seed {S : zz_G} {m : Nat} {v : Int32} (h : iv S m) : iv (sp_seed S v).2 (m + 1) := h.p.u (wk_free (by omega)) (by decide)
theorem iv_rans {S : zz_G} {m : Nat} (l : List Int32) (h : iv S m) : iv (sp_rans S l) m :=
  h.cg (funext fun b => sp_rans_f (by decide) (by omega) l S) (funext fun b => sp_rans_f (by decide) (by omega) l S) (funext fun b => sp_rans_f (by decide) (by omega) l S) (sp_rans_f (by decide) (by omega) l S) (sp_rans_t l S h.2.2.1)
theorem iv_voice {S : zz_G} {m : Nat} {v act x : Int32} (h : iv S m) : iv (sp_voice S v act x).2 (m + 1) := by
  unfold sp_voice
  by_cases c1 : ¬ sp_isw S v
  · rw [if_pos c1]
    exact h.er _
  rw [if_neg c1]
  by_cases c2 : act < 0 ∨ 3 < act
  · rw [if_pos c2]
    exact h.er _
  rw [if_neg c2]
  have h2 : iv (zz_u S 50 19 0) (m + 1) := h.p.cg (zz_u_row _ _ (by decide)) (zz_u_row _ _ (by decide)) (zz_u_row _ _ (by decide)) (zz_u_ne2 _ _ (by decide)) ⟨0, by decide, zz_u_same _ _ _ _⟩
  unfold sp_voiceT
  by_cases e0 : act = 0
  · rw [if_pos e0]
    exact iv_rans _ h2
  rw [if_neg e0]
  by_cases e1 : act = 1
  · rw [if_pos e1]
    exact iv_rans _ h2
  rw [if_neg e1]
  by_cases e2 : act = 2
  · rw [if_pos e2]
    exact iv_rans _ h2
  rw [if_neg e2]
  exact iv_rans _ h2
theorem iv_sheet {S : zz_G} {m : Nat} {v b x : Int32} (h : iv S m) : iv (sp_sheet S v b x).2 (m + 1) := by
  unfold sp_sheet
  by_cases c1 : sp_nosh v
  · rw [if_pos c1]
    exact h.er _
  rw [if_neg c1]
  by_cases c2 : ¬ sp_sb b
  · rw [if_pos c2]
    exact h.er _
  rw [if_neg c2]
  by_cases c3 : ¬ b = 0 ∧ ¬ 0 ≤ x
  · rw [if_pos c3]
    exact h.er _
  rw [if_neg c3]
  by_cases c4 : ¬ b = 0 ∧ ¬ x ≤ 40
  · rw [if_pos c4]
    exact h.er _
  rw [if_neg c4]
  unfold sp_sheetT
  obtain ⟨h1, h2, h3, h4, h5⟩ := h.p
  have hs : ∃ z : Nat, z ≤ 40 ∧ (if b = 0 then (0 : Int32) else x) = nI z := by
    by_cases e : b = 0
    · exact ⟨0, by decide, if_pos e⟩
    · rw [if_neg e]
      exact zz_natle (Classical.not_not.mp fun z => c3 ⟨e, z⟩) (show x ≤ nI 40 from Classical.not_not.mp fun z => c4 ⟨e, z⟩) (by decide)
  generalize (if b = 0 then (0 : Int32) else x) = y at hs ⊢
  generalize v.toNatClampNeg = s
  have e0 : ∀ a, a ≠ 55 → a ≠ 56 → a ≠ 57 → sp_zero (zz_u (zz_u S 55 s b) 56 s y) s 40 a = S a := fun a q1 q2 q3 => by
    rw [show sp_zero (zz_u (zz_u S 55 s b) 56 s y) s 40 a = zz_u (zz_u S 55 s b) 56 s y a from funext fun j => if_neg (fun z => q3 z.1), zz_u_row _ _ q2, zz_u_row _ _ q1]
  show iv (sp_zero (zz_u (zz_u S 55 s b) 56 s y) s 40) (m + 1)
  unfold iv vt
  rw [e0 51 (by decide) (by decide) (by decide), e0 52 (by decide) (by decide) (by decide), e0 50 (by decide) (by decide) (by decide)]
  refine ⟨h1, fun i hi => ?_, h3, h4, h5⟩
  rw [show sp_zero (zz_u (zz_u S 55 s b) 56 s y) s 40 56 i = zz_u (zz_u S 55 s b) 56 s y 56 i from if_neg (fun z => absurd z.1 (by decide))]
  by_cases e : i = s
  · subst e
    rw [zz_u_same]
    exact hs
  · rw [zz_u_ne2 _ _ e, zz_u_ne1 _ _ (by decide)]
    exact h2 i hi
theorem iv_put {S : zz_G} {m : Nat} {v i x : Int32} (h : iv S m) : iv (sp_put S v i x).2 (m + 1) := by
  unfold sp_put
  by_cases c1 : sp_nosh v
  · rw [if_pos c1]
    exact h.er _
  rw [if_neg c1]
  by_cases c2 : S 55 v.toNatClampNeg = 0
  · rw [if_pos c2]
    exact h.er _
  rw [if_neg c2]
  by_cases c3 : ¬ i < 0 ∧ i < S 56 v.toNatClampNeg
  · rw [if_pos c3]
    exact h.p.o (by decide)
  · rw [if_neg c3]
    exact h.er _
theorem iv_mv {S : zz_G} {m p q k : Nat} (h : iv S m) : iv (sp_mv S p q k) m := by
  have e : ∀ a, a ≠ 57 → sp_mv S p q k a = S a := fun a ha => funext fun b => if_neg (fun z => ha z.1)
  exact h.cg (e _ (by decide)) (e _ (by decide)) (e _ (by decide)) (by rw [e 50 (by decide)]) (by unfold vt; rw [e 50 (by decide)]; exact h.2.2.1)
theorem iv_move {S : zz_G} {m : Nat} {s i u j x : Int32} (h : iv S m) : iv (sp_move S s i u j x).2 (m + 1) := by
  unfold sp_move
  by_cases c1 : sp_nosh s
  · rw [if_pos c1]
    exact h.er _
  rw [if_neg c1]
  by_cases c2 : sp_nosh u
  · rw [if_pos c2]
    exact h.er _
  rw [if_neg c2]
  by_cases c3 : S 55 s.toNatClampNeg = 0
  · rw [if_pos c3]
    exact h.er _
  rw [if_neg c3]
  by_cases c4 : S 55 u.toNatClampNeg = 0
  · rw [if_pos c4]
    exact h.er _
  rw [if_neg c4]
  by_cases c5 : S 55 s.toNatClampNeg = S 55 u.toNatClampNeg
  · rw [if_pos c5]
    by_cases c6 : x < 0
    · rw [if_pos c6]
      exact h.er _
    rw [if_neg c6]
    by_cases c7 : i < 0
    · rw [if_pos c7]
      exact h.er _
    rw [if_neg c7]
    by_cases c8 : j < 0
    · rw [if_pos c8]
      exact h.er _
    rw [if_neg c8]
    by_cases c9 : S 56 s.toNatClampNeg - x < i
    · rw [if_pos c9]
      exact h.er _
    rw [if_neg c9]
    by_cases c10 : j ≤ S 56 u.toNatClampNeg - x
    · rw [if_pos c10]
      exact iv_mv h.p
    · rw [if_neg c10]
      exact h.er _
  · rw [if_neg c5]
    exact h.er _
theorem frk_ok {S : zz_G} {s mm z : Nat} : ∀ f w, (∀ i, i < w → i < mm ∧ ¬ (S 57 (40 * s + i) < 0 ∨ 99 < S 57 (40 * s + i))) → ∀ i, i < sp_frk S s mm z f w → i < mm ∧ ¬ (S 57 (40 * s + i) < 0 ∨ 99 < S 57 (40 * s + i))
  | 0, w, h => h
  | f + 1, w, h => by
    rw [sp_frk]
    by_cases c : w < z ∧ w < mm ∧ ¬ (S 57 (40 * s + w) < 0 ∨ 99 < S 57 (40 * s + w))
    · rw [if_pos c]
      refine frk_ok f (w + 1) (fun i hi => ?_)
      rcases Nat.lt_or_ge i w with q | q
      · exact h i q
      · obtain rfl : i = w := by omega
        exact c.2
    · rw [if_neg c]
      exact h
theorem iv_frw {S : zz_G} {m s : Nat} (h : iv S m) : ∀ k, k ≤ 6 → (∀ i, i < k → ¬ (S 57 (40 * s + i) < 0 ∨ 99 < S 57 (40 * s + i))) → iv (sp_frw S s k) m
  | 0, _, _ => h
  | k + 1, hk, hv => by
    rw [sp_frw]
    exact (iv_frw h k (by omega) (fun i hi => hv i (by omega))).u (wk_w2 (by omega) (wi_in (hv k (by omega)) rfl rfl (by decide) (by decide))) (by omega)
theorem iv_fars {S : zz_G} {m : Nat} {v : Int32} (h : iv S m) : iv (sp_fars S v).2 (m + 1) := by
  unfold sp_fars
  by_cases c1 : sp_nosh v
  · rw [if_pos c1]
    exact h.er _
  rw [if_neg c1]
  by_cases c2 : S 55 v.toNatClampNeg = 0
  · rw [if_pos c2]
    exact h.er _
  rw [if_neg c2]
  obtain ⟨mw, -, hmw6, hmw⟩ := h.1.1.2.1
  rw [hmw, ix_w (by omega)]
  have hk := frk_ok (S := S) (s := v.toNatClampNeg) (mm := mw) (z := (S 56 v.toNatClampNeg).toNatClampNeg) mw 0 (fun i hi => absurd hi (Nat.not_lt_zero _))
  generalize sp_frk S v.toNatClampNeg mw (S 56 v.toNatClampNeg).toNatClampNeg mw 0 = K at hk ⊢
  refine iv_frw h.p K ?_ (fun i hi => (hk i hi).2)
  rcases Nat.lt_or_ge 6 K with q | q
  · have := (hk 6 q).1
    omega
  · exact q
theorem iv_image {S : zz_G} {m : Nat} (h : iv S m) : iv (sp_image S).2 (m + 1) := by
  unfold sp_image
  show iv (zz_u (zz_u (zz_cp S 51 52 276) 50 3 1) 50 4 (S 50 4 + 1)) (m + 1)
  obtain ⟨h1, h2, ⟨tw, h4, et⟩, ⟨q, hq, eq⟩, h5⟩ := h
  have e : ∀ a, a ≠ 50 → a ≠ 52 → zz_u (zz_u (zz_cp S 51 52 276) 50 3 1) 50 4 (S 50 4 + 1) a = S a := fun a q1 q2 => by
    rw [zz_u_row _ _ q1, zz_u_row _ _ q1, zz_cp_ne S q2]
  have e52 : ∀ j, j < 276 → zz_u (zz_u (zz_cp S 51 52 276) 50 3 1) 50 4 (S 50 4 + 1) 52 j = S 51 j := fun j hj => by
    rw [zz_u_ne1 _ _ (by decide), zz_u_ne1 _ _ (by decide)]
    exact zz_cp_at S hj
  refine ⟨by rw [e 51 (by decide) (by decide)]; exact h1, by rw [e 56 (by decide) (by decide)]; exact h2, ⟨tw, h4, ?_⟩, ⟨q, by omega, by rw [e 51 (by decide) (by decide)]; exact eq⟩, fun _ => ⟨wr_cgx h1 (fun j hj => e52 j (by omega)), q, by omega, (e52 15 (by decide)).trans eq⟩⟩
  rw [zz_u_ne2 _ _ (by decide), zz_u_ne2 _ _ (by decide), zz_cp_ne S (by decide)]
  exact et
theorem iv_restore {S : zz_G} {m : Nat} (h : iv S m) : iv (sp_restore S).2 (m + 1) := by
  unfold sp_restore
  by_cases c : S 50 3 = 0
  · rw [if_pos c]
    exact h.er _
  rw [if_neg c]
  obtain ⟨a, q, hq, eq⟩ := h.2.2.2.2 c
  exact h.r51 (by omega) (fun b hb => zz_cp_ne S hb) (wr_cgx a (fun j hj => zz_cp_at S (by omega))) ⟨q, by omega, (show zz_cp S 52 51 276 51 15 = S 52 15 from zz_cp_at S (by decide)).trans eq⟩
theorem iv_tell {S : zz_G} {m : Nat} {v : Int32} (h : iv S m) : iv (sp_tell S v).2 (m + 1) := by
  unfold sp_tell
  by_cases c : S 51 4 = 20
  · rw [if_pos c]
    exact h.er _
  rw [if_neg c]
  obtain ⟨t, -, ht, et⟩ := h.1.1.2.2.2.1
  have hlt : t < 20 := by
    rcases Nat.lt_or_ge t 20 with q | q
    · exact q
    · exact absurd (by rw [et, show t = 20 by omega]; rfl) c
  rw [et, ix_w (by omega), nI_1]
  exact (h.p.u (wk_free (by omega)) (by omega)).u (wk_4 ⟨t + 1, by omega, by omega, rfl⟩) (by decide)
theorem iv_check {S : zz_G} {m : Nat} (h : iv S m) : iv (sp_check S).2 (m + 1) := h.p.u (wk_4 ⟨0, by decide, by decide, rfl⟩) (by decide)
/-- the state stays, or an error is counted -/
def pu (S : zz_G) (q : Int32 × zz_G) : Prop := q.2 = S ∨ ∃ e, q = sp_err S e
theorem pu.ite {S : zz_G} {c : Prop} [Decidable c] {a b : Int32 × zz_G} (ha : pu S a) (hb : pu S b) : pu S (if c then a else b) := by
  by_cases h : c
  · rw [if_pos h]
    exact ha
  · rw [if_neg h]
    exact hb
theorem pu.er {S : zz_G} (e : Nat) : pu S (sp_err S e) := Or.inr ⟨e, rfl⟩
theorem pu.rf {S : zz_G} {x : Int32} : pu S (x, S) := Or.inl rfl
theorem pu.kp {S : zz_G} {q : Int32 × zz_G} {m : Nat} (h : pu S q) (hi : iv S m) : iv q.2 (m + 1) := by
  rcases h with h | ⟨e, h⟩
  · rw [h]
    exact hi.p
  · rw [h]
    exact hi.er e
theorem iv_ofWay {S : zz_G} {m : Nat} {v what : Int32} (h : iv S m) : iv (sp_ofWay S v what).2 (m + 1) := by
  refine pu.kp ?_ h
  unfold sp_ofWay
  repeat (first | with_reducible refine pu.ite ?_ ?_ | with_reducible exact pu.rf | with_reducible exact pu.er _)
theorem iv_as {S : zz_G} {m : Nat} {v kind : Int32} (h : iv S m) : iv (sp_asT S v kind).2 (m + 1) := by
  refine pu.kp ?_ h
  unfold sp_asT
  repeat (first | with_reducible refine pu.ite ?_ ?_ | with_reducible exact pu.rf | with_reducible exact pu.er _)
theorem iv_law {S : zz_G} {m : Nat} {v x y z : Int32} (h : iv S m) : iv (sp_lawT S v x y z).2 (m + 1) := by
  refine pu.kp ?_ h
  unfold sp_lawT
  repeat (first | with_reducible refine pu.ite ?_ ?_ | with_reducible exact pu.rf | with_reducible exact pu.er _)
theorem iv_ofCode {S : zz_G} {m : Nat} {v what : Int32} (h : iv S m) : iv (sp_ofCode S v what).2 (m + 1) := by
  refine pu.kp ?_ h
  unfold sp_ofCode
  repeat (first | with_reducible refine pu.ite ?_ ?_ | with_reducible exact pu.rf | with_reducible exact pu.er _)
theorem iv_fetched {S : zz_G} {m : Nat} {v what : Int32} (h : iv S m) : iv (sp_fetched S v what).2 (m + 1) := by
  refine pu.kp ?_ h
  unfold sp_fetched
  repeat (first | with_reducible refine pu.ite ?_ ?_ | with_reducible exact pu.rf | with_reducible exact pu.er _)
theorem iv_holdFor {S : zz_G} {m : Nat} {v : Int32} (h : iv S m) : iv (sp_holdFor S v).2 (m + 1) := by
  refine pu.kp ?_ h
  unfold sp_holdFor
  repeat (first | with_reducible refine pu.ite ?_ ?_ | with_reducible exact pu.rf | with_reducible exact pu.er _)
theorem iv_fastest {S : zz_G} {m : Nat} {what : Int32} (h : iv S m) : iv (sp_fastest S what).2 (m + 1) := by
  refine pu.kp ?_ h
  unfold sp_fastest
  repeat (first | with_reducible refine pu.ite ?_ ?_ | with_reducible exact pu.rf | with_reducible exact pu.er _)
theorem iv_figuresFor {S : zz_G} {m : Nat} {v : Int32} (h : iv S m) : iv (sp_figuresFor S v).2 (m + 1) := by
  refine pu.kp ?_ h
  unfold sp_figuresFor
  repeat (first | with_reducible refine pu.ite ?_ ?_ | with_reducible exact pu.rf | with_reducible exact pu.er _)
theorem iv_counting {S : zz_G} {m : Nat} (h : iv S m) : iv (sp_counting S).2 (m + 1) := by
  refine pu.kp ?_ h
  unfold sp_counting
  repeat (first | with_reducible refine pu.ite ?_ ?_ | with_reducible exact pu.rf | with_reducible exact pu.er _)
theorem iv_crossed {S : zz_G} {m : Nat} (h : iv S m) : iv (sp_crossed S).2 (m + 1) := by
  refine pu.kp ?_ h
  unfold sp_crossed
  repeat (first | with_reducible refine pu.ite ?_ ?_ | with_reducible exact pu.rf | with_reducible exact pu.er _)
theorem iv_atOnce {S : zz_G} {m : Nat} {v what : Int32} (h : iv S m) : iv (sp_atOnce S v what).2 (m + 1) := by
  refine pu.kp ?_ h
  unfold sp_atOnce
  repeat (first | with_reducible refine pu.ite ?_ ?_ | with_reducible exact pu.rf | with_reducible exact pu.er _)
theorem iv_together {S : zz_G} {m : Nat} (h : iv S m) : iv (sp_together S).2 (m + 1) := by
  refine pu.kp ?_ h
  unfold sp_together
  repeat (first | with_reducible refine pu.ite ?_ ?_ | with_reducible exact pu.rf | with_reducible exact pu.er _)
theorem iv_waitFor {S : zz_G} {m : Nat} (h : iv S m) : iv (sp_waitFor S).2 (m + 1) := by
  refine pu.kp ?_ h
  unfold sp_waitFor
  repeat (first | with_reducible refine pu.ite ?_ ?_ | with_reducible exact pu.rf | with_reducible exact pu.er _)
theorem iv_which {S : zz_G} {m : Nat} {v : Int32} (h : iv S m) : iv (sp_which S v).2 (m + 1) := by
  refine pu.kp ?_ h
  unfold sp_which
  repeat (first | with_reducible refine pu.ite ?_ ?_ | with_reducible exact pu.rf | with_reducible exact pu.er _)
theorem iv_guess {S : zz_G} {m : Nat} {p : Int32} (h : iv S m) : iv (sp_guess S p).2 (m + 1) := by
  refine pu.kp ?_ h
  unfold sp_guess
  repeat (first | with_reducible refine pu.ite ?_ ?_ | with_reducible exact pu.rf | with_reducible exact pu.er _)
theorem iv_odds {S : zz_G} {m : Nat} {v p : Int32} (h : iv S m) : iv (sp_odds S v p).2 (m + 1) := by
  refine pu.kp ?_ h
  unfold sp_odds
  repeat (first | with_reducible refine pu.ite ?_ ?_ | with_reducible exact pu.rf | with_reducible exact pu.er _)
theorem iv_trace {S : zz_G} {m : Nat} {v : Int32} (h : iv S m) : iv (sp_trace S v).2 (m + 1) := by
  refine pu.kp ?_ h
  unfold sp_trace
  repeat (first | with_reducible refine pu.ite ?_ ?_ | with_reducible exact pu.rf | with_reducible exact pu.er _)
theorem iv_judge {S : zz_G} {m : Nat} {v : Int32} (h : iv S m) : iv (sp_judge S v).2 (m + 1) := by
  refine pu.kp ?_ h
  unfold sp_judge
  repeat (first | with_reducible refine pu.ite ?_ ?_ | with_reducible exact pu.rf | with_reducible exact pu.er _)
theorem iv_count {S : zz_G} {m : Nat} {v : Int32} (h : iv S m) : iv (sp_count S v).2 (m + 1) := by
  refine pu.kp ?_ h
  unfold sp_count
  repeat (first | with_reducible refine pu.ite ?_ ?_ | with_reducible exact pu.rf | with_reducible exact pu.er _)
theorem iv_told {S : zz_G} {m : Nat} {v : Int32} (h : iv S m) : iv (sp_told S v).2 (m + 1) := by
  refine pu.kp ?_ h
  unfold sp_told
  repeat (first | with_reducible refine pu.ite ?_ ?_ | with_reducible exact pu.rf | with_reducible exact pu.er _)