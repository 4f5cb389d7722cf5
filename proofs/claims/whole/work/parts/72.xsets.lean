/-- how many ways lie at a place, not lost -/
def wa (R : Nat → Int32) (p : Nat) : Nat → Nat
  | 0 => 0
  | w + 1 => wa R p w + (if R (16 + 5 * w + 4) = 0 ∧ R (16 + 5 * w + 3) = nI p then 1 else 0)
def lwn (R : Nat → Int32) (s : Int32) (m : Nat) : Nat → Nat
  | 0 => 0
  | p + 1 => lwn R s m p + (if (s >>> (nI p &&& 31)) &&& 1 = 0 then wa R p m else 0)
def tg (R : Nat → Int32) (m : Nat) : Nat → Int32
  | 0 => 0
  | p + 1 => tg R m p ||| (if 2 ≤ wa R p m then 1 <<< (nI p &&& 31) else 0)
theorem wa_le {R : Nat → Int32} {p : Nat} : ∀ m, wa R p m ≤ m
  | 0 => Nat.le_refl _
  | m + 1 => by
    have := wa_le (R := R) (p := p) m
    rw [wa]
    split <;> omega
theorem wa_s {R : Nat → Int32} {p p0 m : Nat} (e : R (16 + 5 * m + 3) = nI p0) (h0 : p0 ≤ 5) (hp : p ≤ 5) : wa R p (m + 1) = wa R p m + (if R (16 + 5 * m + 4) = 0 ∧ p = p0 then 1 else 0) := by
  rw [wa, e]
  by_cases h : p = p0
  · subst h
    by_cases hl : R (16 + 5 * m + 4) = 0
    · rw [if_pos ⟨hl, rfl⟩, if_pos ⟨hl, rfl⟩]
    · rw [if_neg (fun z9 => hl z9.1), if_neg (fun z9 => hl z9.1)]
  · rw [if_neg (fun z9 => h ((nI_eq (by omega) (by omega)).mp z9.2).symm), if_neg (fun z9 => h z9.2)]
theorem lwn_k {j p0 x a a' : Nat} {l : Prop} [Decidable l] (B : Nat → Prop) [DecidablePred B] (h : a' = a + (if l ∧ j = p0 then 1 else 0)) : x + (if l ∧ p0 < j ∧ B p0 then 1 else 0) + (if B j then a' else 0) = x + (if B j then a else 0) + (if l ∧ p0 < j + 1 ∧ B p0 then 1 else 0) := by
  by_cases hl : l
  · by_cases hj : j = p0
    · subst hj
      rw [if_pos ⟨hl, rfl⟩] at h
      rw [if_neg (show ¬ (l ∧ j < j ∧ B j) from fun z => Nat.lt_irrefl _ z.2.1)]
      by_cases hb : B j
      · rw [if_pos hb, if_pos hb, if_pos (show l ∧ j < j + 1 ∧ B j from ⟨hl, by omega, hb⟩)]
        omega
      · rw [if_neg hb, if_neg hb, if_neg (show ¬ (l ∧ j < j + 1 ∧ B j) from fun z => hb z.2.2)]
    · rw [if_neg (show ¬ (l ∧ j = p0) from fun z => hj z.2), Nat.add_zero] at h
      have e : (l ∧ p0 < j ∧ B p0) ↔ (l ∧ p0 < j + 1 ∧ B p0) := ⟨fun z => ⟨z.1, by omega, z.2.2⟩, fun z => ⟨z.1, by omega, z.2.2⟩⟩
      by_cases hz : l ∧ p0 < j ∧ B p0
      · rw [if_pos hz, if_pos (e.mp hz), h]
        omega
      · rw [if_neg hz, if_neg (fun z => hz (e.mpr z)), h]
        omega
  · rw [if_neg (show ¬ (l ∧ j = p0) from fun z => hl z.1), Nat.add_zero] at h
    rw [if_neg (show ¬ (l ∧ p0 < j ∧ B p0) from fun z => hl z.1), if_neg (show ¬ (l ∧ p0 < j + 1 ∧ B p0) from fun z => hl z.1), h]
    rfl
theorem lwn_s {R : Nat → Int32} {s : Int32} {p0 m : Nat} (e : R (16 + 5 * m + 3) = nI p0) (h0 : p0 ≤ 5) : ∀ j, j ≤ 6 → lwn R s (m + 1) j = lwn R s m j + (if R (16 + 5 * m + 4) = 0 ∧ p0 < j ∧ (s >>> (nI p0 &&& 31)) &&& 1 = 0 then 1 else 0)
  | 0, _ => by rw [if_neg (by omega)]; rfl
  | j + 1, hj => by
    rw [lwn, lwn, lwn_s e h0 j (by omega)]
    exact lwn_k (fun p => (s >>> (nI p &&& 31)) &&& 1 = 0) (wa_s e h0 (by omega))
theorem lwn_z {R : Nat → Int32} {s : Int32} : ∀ j, lwn R s 0 j = 0
  | 0 => rfl
  | j + 1 => by
    rw [lwn, lwn_z j, wa]
    split <;> rfl
theorem lwn_lb {R : Nat → Int32} {s : Int32} : ∀ m, m ≤ 6 → (∀ w, w < 6 → ww R w) → sp_lb R s m = nI (lwn R s m 6)
  | 0, _, _ => by rw [lwn_z]; rfl
  | m + 1, hm, hW => by
    obtain ⟨p0, -, h0, e⟩ := (hW m (by omega)).2.2.2.1
    rw [lwn_s e h0 6 (by omega), sp_lb, lwn_lb m (by omega) hW]
    by_cases hx : sp_lx R s m
    · have hx2 := hx
      rw [sp_lx, e] at hx2
      rw [if_pos hx, if_pos ⟨hx2.1, by omega, hx2.2⟩, nI_1]
    · have hx2 := hx
      rw [sp_lx, e] at hx2
      rw [if_neg hx, if_neg (fun z9 => hx2 ⟨z9.1, z9.2.2⟩), Int32.add_zero, Nat.add_zero]
def bx (b : Bool) (p : Nat) : Int32 := if b then 1 <<< (nI p &&& 31) else 0
def os6 (a0 a1 a2 a3 a4 a5 : Bool) : Int32 := ((((((0 ||| bx a0 0) ||| bx a1 1) ||| bx a2 2) ||| bx a3 3) ||| bx a4 4) ||| bx a5 5)
def os (A : Nat → Bool) : Int32 := os6 (A 0) (A 1) (A 2) (A 3) (A 4) (A 5)
def pk6 (a0 a1 a2 a3 a4 a5 : Bool) : Nat → Bool
  | 0 => a0
  | 1 => a1
  | 2 => a2
  | 3 => a3
  | 4 => a4
  | _ => a5
theorem os6_and : ∀ (p : Fin 6) (a0 a1 a2 a3 a4 a5 : Bool), os6 a0 a1 a2 a3 a4 a5 &&& 1 <<< (nI p.1 &&& 31) = bx (pk6 a0 a1 a2 a3 a4 a5 p.1) p.1 := by decide +kernel
theorem os6_or : ∀ (p : Fin 6) (a0 a1 a2 a3 a4 a5 : Bool), os6 a0 a1 a2 a3 a4 a5 ||| 1 <<< (nI p.1 &&& 31) = os6 (a0 || p.1 == 0) (a1 || p.1 == 1) (a2 || p.1 == 2) (a3 || p.1 == 3) (a4 || p.1 == 4) (a5 || p.1 == 5) := by decide +kernel
theorem os_and (A : Nat → Bool) : ∀ p, p < 6 → os A &&& 1 <<< (nI p &&& 31) = bx (A p) p
  | 0, _ => os6_and 0 _ _ _ _ _ _
  | 1, _ => os6_and 1 _ _ _ _ _ _
  | 2, _ => os6_and 2 _ _ _ _ _ _
  | 3, _ => os6_and 3 _ _ _ _ _ _
  | 4, _ => os6_and 4 _ _ _ _ _ _
  | 5, _ => os6_and 5 _ _ _ _ _ _
  | p + 6, h => by omega
theorem os_or (A : Nat → Bool) (p : Nat) (hp : p < 6) : os A ||| 1 <<< (nI p &&& 31) = os (fun q => A q || p == q) := os6_or ⟨p, hp⟩ _ _ _ _ _ _
theorem os_cg {A B : Nat → Bool} (h : ∀ q, q < 6 → A q = B q) : os A = os B := by
  unfold os
  rw [h 0 (by decide), h 1 (by decide), h 2 (by decide), h 3 (by decide), h 4 (by decide), h 5 (by decide)]
theorem to_os {R : Nat → Int32} : ∀ m, m ≤ 6 → (∀ w, w < 6 → ww R w) → sp_to R m = os (fun q => decide (1 ≤ wa R q m)) ∧ sp_ts R m = os (fun q => decide (2 ≤ wa R q m))
  | 0, _, _ => by
    have h1 : os (fun q => decide (1 ≤ wa R q 0)) = os (fun _ => false) := os_cg fun q _ => rfl
    have h2 : os (fun q => decide (2 ≤ wa R q 0)) = os (fun _ => false) := os_cg fun q _ => rfl
    rw [h1, h2]
    exact ⟨show (0 : Int32) = os (fun _ => false) by decide +kernel, show (0 : Int32) = os (fun _ => false) by decide +kernel⟩
  | m + 1, hm, hW => by
    obtain ⟨i1, i2⟩ := to_os m (by omega) hW
    obtain ⟨p0, -, h0, e⟩ := (hW m (by omega)).2.2.2.1
    rw [sp_to, sp_ts, sp_tp, i1, i2, e]
    by_cases hl : R (16 + 5 * m + 4) = 0
    · rw [if_pos hl, os_or _ p0 (by omega), os_and _ p0 (by omega)]
      refine ⟨os_cg fun q hq => ?_, ?_⟩
      · rw [wa_s e h0 (by omega)]
        by_cases h : q = p0
        · subst h
          rw [if_pos ⟨hl, rfl⟩]
          simp
        · rw [if_neg (fun z9 => h z9.2), Nat.add_zero, show (p0 == q) = false from by simp [Ne.symm h], Bool.or_false]
      · by_cases h1 : 1 ≤ wa R p0 m
        · rw [show decide (1 ≤ wa R p0 m) = true from decide_eq_true h1, bx, if_pos rfl, os_or _ p0 (by omega)]
          refine os_cg fun q hq => ?_
          rw [wa_s e h0 (by omega)]
          by_cases h : q = p0
          · subst h
            rw [if_pos ⟨hl, rfl⟩]
            simp [h1]
          · rw [if_neg (fun z9 => h z9.2), Nat.add_zero, show (p0 == q) = false from by simp [Ne.symm h], Bool.or_false]
        · rw [show decide (1 ≤ wa R p0 m) = false from decide_eq_false h1, bx, if_neg (by decide), Int32.or_zero]
          refine os_cg fun q hq => ?_
          rw [wa_s e h0 (by omega)]
          by_cases h : q = p0
          · subst h
            rw [if_pos ⟨hl, rfl⟩, decide_eq_false (by omega), decide_eq_false (by omega)]
          · rw [if_neg (fun z9 => h z9.2), Nat.add_zero]
    · rw [if_neg hl, Int32.or_zero, Int32.and_zero, Int32.or_zero]
      refine ⟨os_cg fun q hq => ?_, os_cg fun q hq => ?_⟩
      · rw [wa_s e h0 (by omega), if_neg (fun z9 => hl z9.1), Nat.add_zero]
      · rw [wa_s e h0 (by omega), if_neg (fun z9 => hl z9.1), Nat.add_zero]
theorem tg_bx {R : Nat → Int32} {m p : Nat} : (if 2 ≤ wa R p m then (1 : Int32) <<< (nI p &&& 31) else 0) = bx (decide (2 ≤ wa R p m)) p := by
  unfold bx
  by_cases h : 2 ≤ wa R p m
  · rw [if_pos h, if_pos (decide_eq_true h)]
  · rw [if_neg h, if_neg (by rw [decide_eq_false h]; decide)]
theorem tg_ts {R : Nat → Int32} {m : Nat} (hm : m ≤ 6) (hW : ∀ w, w < 6 → ww R w) : tg R m 6 = sp_ts R m := by
  rw [(to_os m hm hW).2]
  simp only [tg, tg_bx]
  rfl
/-! the least set of places, upwards and downwards -/
def fb (s : Nat) : Nat := (sp_bc s).toNatClampNeg
theorem fb_all : ∀ s : Fin 64, sp_bc s.1 = nI (fb s.1) ∧ fb s.1 ≤ 6 ∧ (fb s.1 = 6 → s.1 = 63) := by decide +kernel
def cb (R : Nat → Int32) (v : Int32) (m : Nat) : Nat → Nat
  | 0 => 63
  | k + 1 => if sp_bc k < sp_bc (cb R v m k) ∧ sp_lb R (nI k) m ≤ v then k else cb R v m k
theorem cb_lt {R : Nat → Int32} {v : Int32} {m : Nat} : ∀ k, k ≤ 64 → cb R v m k < 64
  | 0, _ => show 63 < 64 by decide
  | k + 1, h => by
    rw [cb]
    split
    · omega
    · exact cb_lt k (by omega)
theorem fb_lt {a b : Nat} (ha : a < 64) (hb : b < 64) : sp_bc a < sp_bc b ↔ fb a < fb b := by
  have h1 := fb_all ⟨a, ha⟩
  have h2 := fb_all ⟨b, hb⟩
  simp only at h1 h2
  rw [h1.1, h2.1, nI_ltI (by omega) (by omega)]
theorem fb_le {a b : Nat} (ha : a < 64) (hb : b < 64) : sp_bc a ≤ sp_bc b ↔ fb a ≤ fb b := by
  have h1 := fb_all ⟨a, ha⟩
  have h2 := fb_all ⟨b, hb⟩
  simp only at h1 h2
  rw [h1.1, h2.1, nI_leI (by omega) (by omega)]
abbrev lx (x s : Nat) : Prop := fb x < fb s ∨ (fb x = fb s ∧ x ≤ s)
theorem cb_ok {R : Nat → Int32} {v : Int32} {m : Nat} (h63 : sp_lb R (nI 63) m ≤ v) : ∀ k, k ≤ 64 → sp_lb R (nI (cb R v m k)) m ≤ v ∧ (cb R v m k < k ∨ cb R v m k = 63) ∧ ∀ s, s < k → sp_lb R (nI s) m ≤ v → lx (cb R v m k) s
  | 0, _ => ⟨h63, Or.inr rfl, fun s hs => by omega⟩
  | k + 1, hk => by
    obtain ⟨i1, i2, i3⟩ := cb_ok h63 k (by omega)
    have hlt := cb_lt (R := R) (v := v) (m := m) k (by omega)
    rw [cb]
    by_cases h : sp_bc k < sp_bc (cb R v m k) ∧ sp_lb R (nI k) m ≤ v
    · rw [if_pos h]
      have h1 := (fb_lt (by omega) hlt).mp h.1
      refine ⟨h.2, Or.inl (by omega), fun s hs hp => ?_⟩
      rcases Nat.lt_or_ge s k with q | q
      · have := i3 s q hp
        unfold lx at this ⊢
        omega
      · obtain rfl : s = k := by omega
        exact Or.inr ⟨rfl, Nat.le_refl _⟩
    · rw [if_neg h]
      refine ⟨i1, by omega, fun s hs hp => ?_⟩
      rcases Nat.lt_or_ge s k with q | q
      · exact i3 s q hp
      · obtain rfl : s = k := by omega
        have h1 : ¬ fb s < fb (cb R v m s) := fun z9 => h ⟨(fb_lt (by omega) hlt).mpr z9, hp⟩
        rcases i2 with i2 | i2
        · unfold lx
          omega
        · rw [i2] at h1 ⊢
          have h63b : fb 63 = 6 := by decide +kernel
          have hs6 := fb_all ⟨s, by omega⟩
          simp only at hs6
          unfold lx
          rw [h63b] at h1 ⊢
          have h6 := hs6.2.1
          by_cases he : fb s = 6
          · have := hs6.2.2 he
            omega
          · omega
theorem ao_ok {R : Nat → Int32} {v : Int32} {m : Nat} (h63 : sp_lb R (nI 63) m ≤ v) : ∀ k, k ≤ 64 → sp_lb R (nI (sp_ao R v m k)) m ≤ v ∧ ∀ s, s < 64 → 64 - k ≤ s → sp_lb R (nI s) m ≤ v → lx (sp_ao R v m k) s
  | 0, _ => ⟨h63, fun s hs hs2 => by omega⟩
  | k + 1, hk => by
    obtain ⟨i1, i3⟩ := ao_ok h63 k (by omega)
    have hlt := sp_ao_lt (R := R) (v := v) (m := m) k
    rw [sp_ao]
    by_cases h : sp_lb R (nI (63 - k)) m ≤ v ∧ sp_bc (63 - k) ≤ sp_bc (sp_ao R v m k)
    · rw [if_pos h]
      have h1 := (fb_le (by omega) hlt).mp h.2
      refine ⟨h.1, fun s hs hs2 hp => ?_⟩
      rcases Nat.lt_or_ge s (64 - k) with q | q
      · obtain rfl : s = 63 - k := by omega
        exact Or.inr ⟨rfl, Nat.le_refl _⟩
      · have := i3 s hs q hp
        unfold lx at this ⊢
        omega
    · rw [if_neg h]
      refine ⟨i1, fun s hs hs2 hp => ?_⟩
      rcases Nat.lt_or_ge s (64 - k) with q | q
      · obtain rfl : s = 63 - k := by omega
        have h1 : ¬ fb (63 - k) ≤ fb (sp_ao R v m k) := fun z9 => h ⟨hp, (fb_le (by omega) hlt).mpr z9⟩
        unfold lx
        omega
      · exact i3 s hs q hp
theorem cb_ao {R : Nat → Int32} {v : Int32} {m : Nat} (h63 : sp_lb R (nI 63) m ≤ v) : cb R v m 64 = sp_ao R v m 64 := by
  obtain ⟨a1, a2, a3⟩ := cb_ok h63 64 (by omega)
  obtain ⟨b1, b3⟩ := ao_ok h63 64 (by omega)
  have l1 := cb_lt (R := R) (v := v) (m := m) 64 (by omega)
  have l2 := sp_ao_lt (R := R) (v := v) (m := m) 64
  have h1 := a3 _ l2 b1
  have h2 := b3 _ l1 (by omega) a1
  unfold lx at h1 h2
  omega
theorem lb_63 {R : Nat → Int32} : ∀ m, m ≤ 6 → (∀ w, w < 6 → ww R w) → sp_lb R (nI 63) m = 0
  | 0, _, _ => rfl
  | m + 1, hm, hW => by
    obtain ⟨p0, -, h0, e⟩ := (hW m (by omega)).2.2.2.1
    rw [sp_lb, lb_63 m (by omega) hW, if_neg (fun z9 => ?_)]
    · rfl
    · have := z9.2
      rw [e] at this
      exact (by decide +kernel : ∀ p : Fin 6, ¬ (nI 63 >>> (nI p.1 &&& 31)) &&& 1 = 0) ⟨p0, by omega⟩ this
set_option maxRecDepth 100000 in
set_option maxHeartbeats 4000000 in
theorem l_X11_waysAt {C : zz_C} {d n : Nat} {g : zz_G} {r : zz_R} {Q : zz_Q} {S : zz_G} (hx : x_rel S g r n) (mw : Nat) (hmw : S 51 2 = nI mw) (hmw6 : mw ≤ 6) {v : Int32} (p : Nat) (ep : v = nI p) (h : Q (some (.int (nI (wa (S 51) p mw)))) g r n) : ∀ (k : Nat) (q : Nat), q ≤ mw → mw - q < k → zz_Z C mi_X11_waysAt (d + 1) 0 0 0 0 4 [some (.ref 0), some (.int v), some (.int (nI (wa (S 51) p q))), some (.int (nI q))] [] g r n Q := by
  intro k
  induction k with
  | zero => intro q hq hk; exact absurd hk (by omega)
  | succ k ih =>
    intro q hq hk
    have hn := hx.nn
    have hr := hx.1
    have hmw1 : g 1 7 = nI mw := (x_s2 hx).symm.trans hmw
    refine zz_iload_3 dX11_waysAt_4 ?_
    refine zz_aload_0 dX11_waysAt_5 ?_
    refine zz_getR fl_X11_10 rfl rfl (Nat.lt_of_lt_of_le (by decide) hn) (xr_0_0 hr) dX11_waysAt_6 ?_
    refine zz_getI fl_X11_101 rfl rfl (Nat.lt_of_lt_of_le (by decide) hn) dX11_waysAt_9 ?_
    refine zz_icmp_ge 47 dX11_waysAt_12 (by decide) (fun c_12 => ?_) (fun c_12 => ?_)
    · skip
      refine zz_iload_2 dX11_waysAt_47 ?_
      refine zz_iret rfl dX11_waysAt_48 (by decide) (by decide) ?_
      rw [hmw1] at c_12
      have := zz_gei c_12 (by omega) (by omega)
      obtain rfl : q = mw := by omega
      exact h
    · skip
      rw [hmw1] at c_12
      have hlt := zz_lti c_12 (by omega) (by omega)
      refine zz_aload_0 dX11_waysAt_15 ?_
      refine zz_iload_3 dX11_waysAt_16 ?_
      refine zz_callV1i cv_X11_225 rfl (Nat.lt_of_lt_of_le (by decide) hn) (Nat.le_of_ble_eq_true rfl) (by decide) (by decide) dX11_waysAt_17 (t_X11_isLost hn hr q (by omega) rfl (fun c_17 => ⟨_, rfl, ?_⟩) (fun c_17 => ⟨_, rfl, ?_⟩))
      · skip
        refine zz_if_ne 41 dX11_waysAt_20 (by decide) (fun _ => ?_) (fun h => absurd h (by decide))
        refine zz_iinc_3 (1) dX11_waysAt_41 rfl rfl (by decide) ?_
        refine zz_goto 4 dX11_waysAt_44 (by decide) ?_
        rw [show wa (S 51) p q = wa (S 51) p (q + 1) from by rw [wa, if_neg (fun z9 => c_17 (by rw [← x_wy hx (by omega) (by decide)]; exact z9.1)), Nat.add_zero], nI_1]
        exact ih (q + 1) (by omega) (by omega)
      · skip
        refine zz_if_ne 41 dX11_waysAt_20 (by decide) (fun h => absurd h (by decide)) (fun _ => ?_)
        refine zz_aload_0 dX11_waysAt_23 ?_
        refine zz_getR fl_X11_10 rfl rfl (Nat.lt_of_lt_of_le (by decide) hn) (xr_0_0 hr) dX11_waysAt_24 ?_
        refine zz_getR fl_X11_104 rfl rfl (Nat.lt_of_lt_of_le (by decide) hn) (xr_1_6 hr) dX11_waysAt_27 ?_
        refine zz_iload_3 dX11_waysAt_30 ?_
        refine zz_aaN q rfl (by omega) (by decide) (by decide) rfl (Nat.lt_of_lt_of_le (by decide) hn) (xr_way hr q (by omega)) dX11_waysAt_31 ?_
        refine zz_iconst (3) dX11_waysAt_32 (by decide) ?_
        refine zz_iald 3 (by decide) (by decide) (by decide) (xs_way q (by omega)) (by omega) dX11_waysAt_33 ?_
        refine zz_iload_1 dX11_waysAt_34 ?_
        refine zz_icmp_ne 41 dX11_waysAt_35 (by decide) (fun c_35 => ?_) (fun c_35 => ?_)
        · skip
          refine zz_iinc_3 (1) dX11_waysAt_41 rfl rfl (by decide) ?_
          refine zz_goto 4 dX11_waysAt_44 (by decide) ?_
          first
            | (rw [show nI (wa (S 51) p q) + 1 = nI (wa (S 51) p (q + 1)) from by rw [wa, if_pos ⟨by rw [x_wy hx (by omega) (by decide)]; exact c_17, by rw [x_wy hx (by omega) (by decide), ← ep]; exact c_35⟩, nI_1], nI_1]; exact ih (q + 1) (by omega) (by omega))
            | (rw [show wa (S 51) p q = wa (S 51) p (q + 1) from by rw [wa, if_neg (fun z9 => c_35 (by rw [← x_wy hx (by omega) (by decide), ep]; exact z9.2)), Nat.add_zero], nI_1]; exact ih (q + 1) (by omega) (by omega))
        · skip
          refine zz_iinc_2 (1) dX11_waysAt_38 rfl rfl (by decide) ?_
          refine zz_iinc_3 (1) dX11_waysAt_41 rfl rfl (by decide) ?_
          refine zz_goto 4 dX11_waysAt_44 (by decide) ?_
          first
            | (rw [show nI (wa (S 51) p q) + 1 = nI (wa (S 51) p (q + 1)) from by rw [wa, if_pos ⟨by rw [x_wy hx (by omega) (by decide)]; exact c_17, by rw [x_wy hx (by omega) (by decide), ← ep]; exact c_35⟩, nI_1], nI_1]; exact ih (q + 1) (by omega) (by omega))
            | (rw [show wa (S 51) p q = wa (S 51) p (q + 1) from by rw [wa, if_neg (fun z9 => c_35 (by rw [← x_wy hx (by omega) (by decide), ep]; exact z9.2)), Nat.add_zero], nI_1]; exact ih (q + 1) (by omega) (by omega))

set_option maxRecDepth 100000 in
set_option maxHeartbeats 4000000 in
theorem t_X11_waysAt {C : zz_C} {d n : Nat} {g : zz_G} {r : zz_R} {Q : zz_Q} {S : zz_G} (hx : x_rel S g r n) (mw : Nat) (hmw : S 51 2 = nI mw) (hmw6 : mw ≤ 6) {v : Int32} (p : Nat) (ep : v = nI p) (h : Q (some (.int (nI (wa (S 51) p mw)))) g r n) : zz_T C mi_X11_waysAt (d + 1) 0 0 [.ref 0, .int v] g r n Q := by
  refine zz_T.of [some (.ref 0), some (.int v), none, none] (by decide +kernel) rfl (Nat.le_of_ble_eq_true rfl) ?_
  refine zz_iconst (0) dX11_waysAt_0 (by decide) ?_
  refine zz_istore_2 dX11_waysAt_1 rfl rfl ?_
  refine zz_iconst (0) dX11_waysAt_2 (by decide) ?_
  refine zz_istore_3 dX11_waysAt_3 rfl rfl ?_
  exact l_X11_waysAt (d := d) hx mw hmw hmw6 p ep h 7 0 (by omega) (by omega)

set_option maxRecDepth 100000 in
set_option maxHeartbeats 4000000 in
theorem l_X11_together {C : zz_C} {d n : Nat} {g : zz_G} {r : zz_R} {Q : zz_Q} {S : zz_G} (hx : x_rel S g r n) (mw : Nat) (hmw : S 51 2 = nI mw) (hmw6 : mw ≤ 6) (h : x_o g Q (tg (S 51) mw 6, S)) : ∀ (k : Nat) (q : Nat), q ≤ 6 → 6 - q < k → zz_Z C mi_X11_together (d + 2) 0 0 0 0 4 [some (.ref 0), some (.int (tg (S 51) mw q)), some (.int (nI q))] [] g r n Q := by
  intro k
  induction k with
  | zero => intro q hq hk; exact absurd hk (by omega)
  | succ k ih =>
    intro q hq hk
    have hn := hx.nn
    have hr := hx.1
    refine zz_iload_2 dX11_together_4 ?_
    refine zz_bipush (6) dX11_together_5 (by decide) ?_
    refine zz_icmp_ge 31 dX11_together_7 (by decide) (fun c_7 => ?_) (fun c_7 => ?_)
    · skip
      refine zz_iload_1 dX11_together_31 ?_
      refine zz_iret rfl dX11_together_32 (by decide) (by decide) ?_
      have := zz_gei (b := 6) c_7 (by omega) (by omega)
      obtain rfl : q = 6 := by omega
      exact h.e (x_F.rf hx)
    · skip
      have hlt := zz_lti (b := 6) c_7 (by omega) (by omega)
      have hwl := wa_le (R := S 51) (p := q) mw
      refine zz_aload_0 dX11_together_10 ?_
      refine zz_iload_2 dX11_together_11 ?_
      refine zz_callV1i cv_X11_256 rfl (Nat.lt_of_lt_of_le (by decide) hn) (Nat.le_of_ble_eq_true rfl) (by decide) (by decide) dX11_together_12 (t_X11_waysAt hx mw hmw hmw6 q rfl ⟨_, rfl, ?_⟩)
      refine zz_iconst (2) dX11_together_15 (by decide) ?_
      refine zz_icmp_lt 25 dX11_together_16 (by decide) (fun c_16 => ?_) (fun c_16 => ?_)
      · skip
        refine zz_iinc_2 (1) dX11_together_25 rfl rfl (by decide) ?_
        refine zz_goto 4 dX11_together_28 (by decide) ?_
        first
          | (rw [show tg (S 51) mw q = tg (S 51) mw (q + 1) from by rw [tg, if_neg (fun z9 => absurd ((nI_ltI (b := 2) (by omega) (by omega)).mp c_16) (by omega)), Int32.or_zero], nI_1]; exact ih (q + 1) (by omega) (by omega))
          | (rw [show tg (S 51) mw q ||| 1 <<< (nI q &&& 31) = tg (S 51) mw (q + 1) from by rw [tg, if_pos (Nat.not_lt.mp fun z9 => c_16 (nI_lt (b := 2) z9 (by omega)))], nI_1]; exact ih (q + 1) (by omega) (by omega))
      · skip
        refine zz_iload_1 dX11_together_19 ?_
        refine zz_iconst (1) dX11_together_20 (by decide) ?_
        refine zz_iload_2 dX11_together_21 ?_
        refine zz_ishl dX11_together_22 ?_
        refine zz_ior dX11_together_23 ?_
        refine zz_istore_1 dX11_together_24 rfl rfl ?_
        refine zz_iinc_2 (1) dX11_together_25 rfl rfl (by decide) ?_
        refine zz_goto 4 dX11_together_28 (by decide) ?_
        first
          | (rw [show tg (S 51) mw q = tg (S 51) mw (q + 1) from by rw [tg, if_neg (fun z9 => absurd ((nI_ltI (b := 2) (by omega) (by omega)).mp c_16) (by omega)), Int32.or_zero], nI_1]; exact ih (q + 1) (by omega) (by omega))
          | (rw [show tg (S 51) mw q ||| 1 <<< (nI q &&& 31) = tg (S 51) mw (q + 1) from by rw [tg, if_pos (Nat.not_lt.mp fun z9 => c_16 (nI_lt (b := 2) z9 (by omega)))], nI_1]; exact ih (q + 1) (by omega) (by omega))

set_option maxRecDepth 100000 in
set_option maxHeartbeats 4000000 in
theorem t_X11_together {C : zz_C} {d n : Nat} {g : zz_G} {r : zz_R} {Q : zz_Q} {S : zz_G} (hx : x_rel S g r n) (mw : Nat) (hmw : S 51 2 = nI mw) (hmw6 : mw ≤ 6) (hW : wr (S 51)) (h : x_o g Q (sp_together S)) : zz_T C mi_X11_together (d + 2) 0 0 [.ref 0] g r n Q := by
  have hn := hx.nn
  have hr := hx.1
  refine zz_T.of [some (.ref 0), none, none] (by decide +kernel) rfl (Nat.le_of_ble_eq_true rfl) ?_
  refine zz_iconst (0) dX11_together_0 (by decide) ?_
  refine zz_istore_1 dX11_together_1 rfl rfl ?_
  refine zz_iconst (0) dX11_together_2 (by decide) ?_
  refine zz_istore_2 dX11_together_3 rfl rfl ?_
  rw [sp_together, hmw, ix_w (by omega), ← tg_ts hmw6 hW.2.1] at h
  exact l_X11_together (d := d) hx mw hmw hmw6 h 7 0 (by omega) (by omega)

set_option maxRecDepth 100000 in
set_option maxHeartbeats 4000000 in
theorem l_X11_leftWithout {C : zz_C} {d n : Nat} {g : zz_G} {r : zz_R} {Q : zz_Q} {S : zz_G} (hx : x_rel S g r n) (mw : Nat) (hmw : S 51 2 = nI mw) (hmw6 : mw ≤ 6) {v : Int32} (h : Q (some (.int (nI (lwn (S 51) v mw 6)))) g r n) : ∀ (k : Nat) (q : Nat), q ≤ 6 → 6 - q < k → zz_Z C mi_X11_leftWithout (d + 2) 0 0 0 0 4 [some (.ref 0), some (.int v), some (.int (nI (lwn (S 51) v mw q))), some (.int (nI q))] [] g r n Q := by
  intro k
  induction k with
  | zero => intro q hq hk; exact absurd hk (by omega)
  | succ k ih =>
    intro q hq hk
    have hn := hx.nn
    have hr := hx.1
    refine zz_iload_3 dX11_leftWithout_4 ?_
    refine zz_bipush (6) dX11_leftWithout_5 (by decide) ?_
    refine zz_icmp_ge 32 dX11_leftWithout_7 (by decide) (fun c_7 => ?_) (fun c_7 => ?_)
    · skip
      refine zz_iload_2 dX11_leftWithout_32 ?_
      refine zz_iret rfl dX11_leftWithout_33 (by decide) (by decide) ?_
      have := zz_gei (b := 6) c_7 (by omega) (by omega)
      obtain rfl : q = 6 := by omega
      exact h
    · skip
      have hlt := zz_lti (b := 6) c_7 (by omega) (by omega)
      refine zz_iload_1 dX11_leftWithout_10 ?_
      refine zz_iload_3 dX11_leftWithout_11 ?_
      refine zz_ishr dX11_leftWithout_12 ?_
      refine zz_iconst (1) dX11_leftWithout_13 (by decide) ?_
      refine zz_iand dX11_leftWithout_14 ?_
      refine zz_if_ne 26 dX11_leftWithout_15 (by decide) (fun c_15 => ?_) (fun c_15 => ?_)
      · skip
        refine zz_iinc_3 (1) dX11_leftWithout_26 rfl rfl (by decide) ?_
        refine zz_goto 4 dX11_leftWithout_29 (by decide) ?_
        first
          | (rw [show lwn (S 51) v mw q = lwn (S 51) v mw (q + 1) from by rw [lwn, if_neg c_15, Nat.add_zero], nI_1]; exact ih (q + 1) (by omega) (by omega))
          | (rw [nI_add, show lwn (S 51) v mw q + wa (S 51) q mw = lwn (S 51) v mw (q + 1) from by rw [lwn, if_pos c_15], nI_1]; exact ih (q + 1) (by omega) (by omega))
      · skip
        refine zz_iload_2 dX11_leftWithout_18 ?_
        refine zz_aload_0 dX11_leftWithout_19 ?_
        refine zz_iload_3 dX11_leftWithout_20 ?_
        refine zz_callV1i cv_X11_256 rfl (Nat.lt_of_lt_of_le (by decide) hn) (Nat.le_of_ble_eq_true rfl) (by decide) (by decide) dX11_leftWithout_21 (t_X11_waysAt hx mw hmw hmw6 q rfl ⟨_, rfl, ?_⟩)
        refine zz_iadd dX11_leftWithout_24 ?_
        refine zz_istore_2 dX11_leftWithout_25 rfl rfl ?_
        refine zz_iinc_3 (1) dX11_leftWithout_26 rfl rfl (by decide) ?_
        refine zz_goto 4 dX11_leftWithout_29 (by decide) ?_
        first
          | (rw [show lwn (S 51) v mw q = lwn (S 51) v mw (q + 1) from by rw [lwn, if_neg c_15, Nat.add_zero], nI_1]; exact ih (q + 1) (by omega) (by omega))
          | (rw [nI_add, show lwn (S 51) v mw q + wa (S 51) q mw = lwn (S 51) v mw (q + 1) from by rw [lwn, if_pos c_15], nI_1]; exact ih (q + 1) (by omega) (by omega))

set_option maxRecDepth 100000 in
set_option maxHeartbeats 4000000 in
theorem t_X11_leftWithout {C : zz_C} {d n : Nat} {g : zz_G} {r : zz_R} {Q : zz_Q} {S : zz_G} (hx : x_rel S g r n) (mw : Nat) (hmw : S 51 2 = nI mw) (hmw6 : mw ≤ 6) {v : Int32} (h : Q (some (.int (nI (lwn (S 51) v mw 6)))) g r n) : zz_T C mi_X11_leftWithout (d + 2) 0 0 [.ref 0, .int v] g r n Q := by
  refine zz_T.of [some (.ref 0), some (.int v), none, none] (by decide +kernel) rfl (Nat.le_of_ble_eq_true rfl) ?_
  refine zz_iconst (0) dX11_leftWithout_0 (by decide) ?_
  refine zz_istore_2 dX11_leftWithout_1 rfl rfl ?_
  refine zz_iconst (0) dX11_leftWithout_2 (by decide) ?_
  refine zz_istore_3 dX11_leftWithout_3 rfl rfl ?_
  exact l_X11_leftWithout (d := d) hx mw hmw hmw6 h 7 0 (by omega) (by omega)

set_option maxRecDepth 100000 in
set_option maxHeartbeats 4000000 in
theorem l_X11_atOnce {C : zz_C} {d n : Nat} {g : zz_G} {r : zz_R} {Q : zz_Q} {S : zz_G} (hx : x_rel S g r n) (hW : wr (S 51)) (mw : Nat) (hmw : S 51 2 = nI mw) (hmw6 : mw ≤ 6) {v what : Int32} (N : Nat) (hN : N = 64) (h : x_o g Q (if what = 0 then sp_bc (cb (S 51) v mw N) else nI (cb (S 51) v mw N), S)) : ∀ (k : Nat) (q : Nat), q ≤ N → N - q < k → zz_Z C mi_X11_atOnce (d + 3) 0 0 0 0 29 [some (.ref 0), some (.int v), some (.int what), some (.int (nI (cb (S 51) v mw q))), some (.int (nI q))] [] g r n Q := by
  intro k
  induction k with
  | zero => intro q hq hk; exact absurd hk (by omega)
  | succ k ih =>
    intro q hq hk
    have hn := hx.nn
    have hr := hx.1
    have hcl := cb_lt (R := S 51) (v := v) (m := mw) q (by omega)
    refine zz_iload_4 dX11_atOnce_29 ?_
    refine zz_bipush (64) dX11_atOnce_31 (by decide) ?_
    refine zz_icmp_ge 67 dX11_atOnce_33 (by decide) (fun c_33 => ?_) (fun c_33 => ?_)
    · skip
      refine zz_iload_2 dX11_atOnce_67 ?_
      refine zz_if_ne 78 dX11_atOnce_68 (by decide) (fun c_68 => ?_) (fun c_68 => ?_)
      · skip
        refine zz_iload_3 dX11_atOnce_78 ?_
        refine zz_iret rfl dX11_atOnce_79 (by decide) (by decide) ?_
        have := zz_gei (b := 64) c_33 (by omega) (by omega)
        obtain rfl : q = N := by omega
        first
          | (rw [if_pos c_68] at h; exact h.e (x_F.rf hx))
          | (rw [if_neg c_68] at h; exact h.e (x_F.rf hx))
      · skip
        refine zz_iload_3 dX11_atOnce_71 ?_
        refine zz_callS1i cs_X11_248 (Nat.le_of_ble_eq_true rfl) (by decide) (by decide) dX11_atOnce_72 (t_J6_bitCount_0f7a4 (cb (S 51) v mw q) hcl rfl ⟨_, rfl, ?_⟩)
        refine zz_goto 79 dX11_atOnce_75 (by decide) ?_
        refine zz_iret rfl dX11_atOnce_79 (by decide) (by decide) ?_
        have := zz_gei (b := 64) c_33 (by omega) (by omega)
        obtain rfl : q = N := by omega
        first
          | (rw [if_pos c_68] at h; exact h.e (x_F.rf hx))
          | (rw [if_neg c_68] at h; exact h.e (x_F.rf hx))
    · skip
      have hlt := zz_lti (b := 64) c_33 (by omega) (by omega)
      refine zz_iload_4 dX11_atOnce_36 ?_
      refine zz_callS1i cs_X11_248 (Nat.le_of_ble_eq_true rfl) (by decide) (by decide) dX11_atOnce_38 (t_J6_bitCount_0f7a4 q (by omega) rfl ⟨_, rfl, ?_⟩)
      refine zz_iload_3 dX11_atOnce_41 ?_
      refine zz_callS1i cs_X11_248 (Nat.le_of_ble_eq_true rfl) (by decide) (by decide) dX11_atOnce_42 (t_J6_bitCount_0f7a4 (cb (S 51) v mw q) hcl rfl ⟨_, rfl, ?_⟩)
      refine zz_icmp_ge 61 dX11_atOnce_45 (by decide) (fun c_45 => ?_) (fun c_45 => ?_)
      · skip
        refine zz_iinc_4 (1) dX11_atOnce_61 rfl rfl (by decide) ?_
        refine zz_goto 29 dX11_atOnce_64 (by decide) ?_
        rw [show cb (S 51) v mw q = cb (S 51) v mw (q + 1) from by rw [cb, if_neg (fun z9 => absurd c_45 (Int32.not_le.mpr z9.1))], nI_1]
        exact ih (q + 1) (by omega) (by omega)
      · skip
        refine zz_aload_0 dX11_atOnce_48 ?_
        refine zz_iload_4 dX11_atOnce_49 ?_
        refine zz_callV1i cv_X11_253 rfl (Nat.lt_of_lt_of_le (by decide) hn) (Nat.le_of_ble_eq_true rfl) (by decide) (by decide) dX11_atOnce_51 (t_X11_leftWithout hx mw hmw hmw6 ⟨_, rfl, ?_⟩)
        refine zz_iload_1 dX11_atOnce_54 ?_
        refine zz_icmp_gt 61 dX11_atOnce_55 (by decide) (fun c_55 => ?_) (fun c_55 => ?_)
        · skip
          refine zz_iinc_4 (1) dX11_atOnce_61 rfl rfl (by decide) ?_
          refine zz_goto 29 dX11_atOnce_64 (by decide) ?_
          first
            | (rw [show cb (S 51) v mw q = cb (S 51) v mw (q + 1) from by rw [cb, if_neg (fun z9 => absurd c_55 (Int32.not_lt.mpr (by rw [← lwn_lb mw hmw6 hW.2.1]; exact z9.2)))], nI_1]; exact ih (q + 1) (by omega) (by omega))
            | (have e9 : cb (S 51) v mw (q + 1) = q := by rw [cb, if_pos ⟨Int32.not_le.mp c_45, by rw [lwn_lb mw hmw6 hW.2.1]; exact Int32.not_lt.mp c_55⟩]
               have ih9 := ih (q + 1) (by omega) (by omega)
               rw [e9] at ih9
               rw [nI_1]
               exact ih9)
        · skip
          refine zz_iload_4 dX11_atOnce_58 ?_
          refine zz_istore_3 dX11_atOnce_60 rfl rfl ?_
          refine zz_iinc_4 (1) dX11_atOnce_61 rfl rfl (by decide) ?_
          refine zz_goto 29 dX11_atOnce_64 (by decide) ?_
          first
            | (rw [show cb (S 51) v mw q = cb (S 51) v mw (q + 1) from by rw [cb, if_neg (fun z9 => absurd c_55 (Int32.not_lt.mpr (by rw [← lwn_lb mw hmw6 hW.2.1]; exact z9.2)))], nI_1]; exact ih (q + 1) (by omega) (by omega))
            | (have e9 : cb (S 51) v mw (q + 1) = q := by rw [cb, if_pos ⟨Int32.not_le.mp c_45, by rw [lwn_lb mw hmw6 hW.2.1]; exact Int32.not_lt.mp c_55⟩]
               have ih9 := ih (q + 1) (by omega) (by omega)
               rw [e9] at ih9
               rw [nI_1]
               exact ih9)

set_option maxRecDepth 100000 in
set_option maxHeartbeats 4000000 in
theorem t_X11_atOnce {C : zz_C} {d n : Nat} {g : zz_G} {r : zz_R} {Q : zz_Q} {S : zz_G} (hx : x_rel S g r n) {v what : Int32} (mw : Nat) (hmw : S 51 2 = nI mw) (hmw6 : mw ≤ 6) (hW : wr (S 51)) (h : x_o g Q (sp_atOnce S v what)) : zz_T C mi_X11_atOnce (d + 3) 0 0 [.ref 0, .int v, .int what] g r n Q := by
  have hn := hx.nn
  have hr := hx.1
  refine zz_T.of [some (.ref 0), some (.int v), some (.int what), none, none] (by decide +kernel) rfl (Nat.le_of_ble_eq_true rfl) ?_
  refine zz_iload_1 dX11_atOnce_0 ?_
  refine zz_bipush (6) dX11_atOnce_1 (by decide) ?_
  refine zz_callS2i cs_X11_93 (Nat.le_of_ble_eq_true rfl) (by decide) (by decide) dX11_atOnce_3 (t_X11_within (fun a_3 b_3 => ⟨_, rfl, ?_⟩) (fun o_3 => ⟨_, rfl, ?_⟩))
  · skip
    refine zz_if_eq 17 dX11_atOnce_6 (by decide) (fun h => absurd h (by decide)) (fun _ => ?_)
    refine zz_iload_2 dX11_atOnce_9 ?_
    refine zz_iconst (1) dX11_atOnce_10 (by decide) ?_
    refine zz_callS2i cs_X11_93 (Nat.le_of_ble_eq_true rfl) (by decide) (by decide) dX11_atOnce_11 (t_X11_within (fun a_11 b_11 => ⟨_, rfl, ?_⟩) (fun o_11 => ⟨_, rfl, ?_⟩))
    · skip
      refine zz_if_ne 23 dX11_atOnce_14 (by decide) (fun _ => ?_) (fun h => absurd h (by decide))
      refine zz_bipush (63) dX11_atOnce_23 (by decide) ?_
      refine zz_istore_3 dX11_atOnce_25 rfl rfl ?_
      refine zz_iconst (0) dX11_atOnce_26 (by decide) ?_
      refine zz_istore_4 dX11_atOnce_27 rfl rfl ?_
      rw [sp_atOnce, if_neg (fun z9 => z9.elim a_3 b_3), if_neg (fun z9 => z9.elim a_11 b_11), hmw, ix_w (by omega), ← cb_ao (by rw [lb_63 mw hmw6 hW.2.1]; exact Int32.not_lt.mp a_3)] at h
      exact l_X11_atOnce (d := d) hx hW mw hmw hmw6 64 rfl h 65 0 (by omega) (by omega)
    · skip
      refine zz_if_ne 23 dX11_atOnce_14 (by decide) (fun h => absurd h (by decide)) (fun _ => ?_)
      refine zz_aload_0 dX11_atOnce_17 ?_
      refine zz_iconst (1) dX11_atOnce_18 (by decide) ?_
      refine zz_callV1i cv_X11_86 rfl (Nat.lt_of_lt_of_le (by decide) hn) (Nat.le_of_ble_eq_true rfl) (by decide) (by decide) dX11_atOnce_19 (t_X11_error hn hr 1 rfl (by decide) ⟨_, rfl, ?_⟩)
      refine zz_iret rfl dX11_atOnce_22 (by decide) (by decide) ?_
      first
        | (rw [sp_atOnce, if_pos o_3] at h; exact x_er hx (by decide) h)
        | (rw [sp_atOnce, if_neg (fun z9 => z9.elim a_3 b_3), if_pos o_11] at h; exact x_er hx (by decide) h)
  · skip
    refine zz_if_eq 17 dX11_atOnce_6 (by decide) (fun _ => ?_) (fun h => absurd h (by decide))
    refine zz_aload_0 dX11_atOnce_17 ?_
    refine zz_iconst (1) dX11_atOnce_18 (by decide) ?_
    refine zz_callV1i cv_X11_86 rfl (Nat.lt_of_lt_of_le (by decide) hn) (Nat.le_of_ble_eq_true rfl) (by decide) (by decide) dX11_atOnce_19 (t_X11_error hn hr 1 rfl (by decide) ⟨_, rfl, ?_⟩)
    refine zz_iret rfl dX11_atOnce_22 (by decide) (by decide) ?_
    first
      | (rw [sp_atOnce, if_pos o_3] at h; exact x_er hx (by decide) h)
      | (rw [sp_atOnce, if_neg (fun z9 => z9.elim a_3 b_3), if_pos o_11] at h; exact x_er hx (by decide) h)
