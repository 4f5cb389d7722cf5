theorem sp_held_n {v : Int32} {h : Nat} (hh : h < 1000) : ∃ m, m ≤ h ∧ sp_held v 0 (nI h) = nI m := by
  unfold sp_held
  by_cases h1 : 0 ≤ v
  · rw [if_pos h1]
    by_cases h2 : v ≤ nI h
    · rw [if_pos h2]
      exact zz_natle h1 h2 (by omega)
    · rw [if_neg h2]
      exact ⟨h, Nat.le_refl _, rfl⟩
  · rw [if_neg h1]
    exact ⟨0, Nat.zero_le _, rfl⟩
theorem sp_law_n (R : Nat → Int32) (u : Nat) (x y z : Int32) : ∃ m, m ≤ 300 ∧ sp_law R u x y z = nI m := by
  unfold sp_law
  by_cases h1 : R (5 + u) < 0
  · rw [if_pos h1]
    by_cases h2 : u = 0
    · rw [if_pos h2]
      exact sp_held_n (h := 300) (by decide)
    · rw [if_neg h2]
      by_cases h3 : 60 < x
      · rw [if_pos h3]
        exact ⟨1, by decide, rfl⟩
      · rw [if_neg h3]
        exact ⟨0, by decide, rfl⟩
  · rw [if_neg h1]
    by_cases h2 : u = 0
    · rw [if_pos h2]
      exact sp_held_n (h := 300) (by decide)
    · rw [if_neg h2]
      obtain ⟨m, h3, h4⟩ := sp_held_n (v := sp_val R u x y z) (h := 1) (by decide)
      exact ⟨m, by omega, h4⟩
theorem la_v_n {v m : Int32} {a b : Nat} (ha : a ≤ 300) (hb : b ≤ 9) (ev : v = nI a) (em : m = nI b) : ∀ k, k < 7 → ∃ l, l ≤ 309 ∧ la_v v m k = nI l
  | 0, _ => ⟨a, by omega, ev⟩
  | 1, _ => ⟨a, by omega, ev⟩
  | 2, _ => ⟨0, by omega, rfl⟩
  | 3, _ => ⟨a / 2, by omega, by rw [la_v, ev]; exact pk_div (d := 2) (by omega) (by decide) (by decide)⟩
  | 4, _ => ⟨a + b, by omega, by rw [la_v, ev, em, nI_add]⟩
  | 5, _ => ⟨1, by omega, rfl⟩
  | 6, _ => ⟨0, by omega, rfl⟩
  | k + 7, h => by omega
theorem sp_late_n {R : Nat → Int32} {w : Nat} {s : Int32} (h : ww R w) : ∃ l, l ≤ 309 ∧ sp_late R w s = nI l := by
  obtain ⟨k, -, hk, ek⟩ := h.1
  obtain ⟨b, -, hb, eb⟩ := h.2.1
  obtain ⟨a, ha, ea⟩ := sp_law_n R 0 (R (16 + 5 * w + 1)) (R (16 + 5 * w)) (s - s / 60 * 60)
  rw [sp_late_k k (by omega) ek]
  exact la_v_n ha hb ea eb k (by omega)
theorem li_v_n {v : Int32} {a : Nat} (ha : a ≤ 300) (ev : v = nI a) : ∀ k, k < 7 → ∃ l, l ≤ 9999 ∧ li_v v k = nI l
  | 0, _ => ⟨a, by omega, ev⟩
  | 1, _ => ⟨a, by omega, ev⟩
  | 2, _ => ⟨a, by omega, ev⟩
  | 3, _ => ⟨10 * a, by omega, by rw [li_v, ev]; exact pk_mul 10 a⟩
  | 4, _ => ⟨a / 2, by omega, by rw [li_v, ev]; exact pk_div (d := 2) (by omega) (by decide) (by decide)⟩
  | 5, _ => ⟨a, by omega, ev⟩
  | 6, _ => ⟨9999, by omega, rfl⟩
  | k + 7, h => by omega
theorem sp_lasts_n {R : Nat → Int32} {w a : Nat} (h : ww R w) (ha : a ≤ 300) : ∃ l, l ≤ 9999 ∧ sp_lasts R w (nI a) = nI l := by
  obtain ⟨k, -, hk, ek⟩ := h.1
  rw [sp_lasts_k k (by omega) ek]
  exact li_v_n ha rfl k (by omega)
/-- the seconds from asking till entered, as the class works them out -/
def sp_sec (R : Nat → Int32) (w : Nat) (s : Int32) : Int32 := (if R (16 + 5 * w + 2) + R (16 + 5 * w + 2) < sp_late R w s + R (16 + 5 * w + 2) then sp_late R w s + R (16 + 5 * w + 2) else R (16 + 5 * w + 2) + R (16 + 5 * w + 2)) + 2
theorem sp_sec_n {R : Nat → Int32} {w t : Nat} (h : ww R w) (ht : t ≤ 2000000) : ∃ q, q ≤ 500 ∧ sp_sec R w (nI t) = nI (q + 2) ∧ sp_back R w (nI t) = nI (t + q) := by
  obtain ⟨f, -, hf, ef⟩ := h.2.2.1
  obtain ⟨l, hl, el⟩ := sp_late_n (s := nI t) h
  unfold sp_sec sp_back
  rw [ef, el, show (2 : Int32) = nI 2 from rfl, nI_add, nI_add, pk_mul, nI_add, nI_add, nI_add]
  by_cases hc : f + f < l + f
  · refine ⟨l + f, by omega, ?_, ?_⟩
    · rw [if_pos (nI_lt hc (by omega)), nI_add]
    · rw [if_neg (nI_nlt (by omega) (by omega)), Nat.add_assoc]
  · refine ⟨f + f, by omega, ?_, ?_⟩
    · rw [if_neg (nI_nlt (by omega) (by omega)), nI_add]
    · by_cases h2 : l < f
      · rw [if_pos (nI_lt (by omega) (by omega))]
        congr 1
        omega
      · rw [if_neg (nI_nlt (by omega) (by omega))]
        congr 1
        omega
theorem sp_takes_sec {R : Nat → Int32} {w : Nat} (h : wr R) (hw : w < 6) : sp_takes R w = sp_sec R w (R 0) := by
  obtain ⟨t, -, ht, et⟩ := h.1.1
  obtain ⟨q, hq, e1, e2⟩ := sp_sec_n (t := t) (h.2.1 w hw) (by omega)
  rw [sp_takes, et, e1, e2, show (2 : Int32) = nI 2 from rfl, nI_add, pk_sub (by omega)]
  congr 1
  omega
theorem sp_in_sec {R : Nat → Int32} {w t a : Nat} (h : ww R w) (ht : t ≤ 2000000) (ha : a ≤ 300) : sp_in R w (nI t) (nI a) ↔ (¬ sp_lasts R w (nI a) < sp_sec R w (nI t)) ∧ (¬ nI t + sp_sec R w (nI t) - 2 < R 14) ∧ sp_law R 1 (R (16 + 5 * w + 2)) (R 8) (R 13) = 0 := by
  obtain ⟨q, hq, e1, e2⟩ := sp_sec_n (t := t) h ht
  obtain ⟨l, hl, el⟩ := sp_lasts_n h ha
  unfold sp_in
  rw [e1, e2, el, show (2 : Int32) = nI 2 from rfl, nI_add, nI_add, nI_add, show t + (q + 2) = (t + q) + 2 by omega, pk_sub (by omega), Nat.add_sub_cancel, Int32.not_lt, Int32.not_lt, nI_leI (by omega) (by omega), nI_leI (by omega) (by omega)]
  constructor
  · rintro ⟨h1, h2, h3⟩
    exact ⟨by omega, h1, h3⟩
  · rintro ⟨h1, h2, h3⟩
    exact ⟨h2, by omega, h3⟩
set_option maxRecDepth 100000 in
set_option maxHeartbeats 4000000 in
theorem t_X11_refusalOfAsking {C : zz_C} {d n : Nat} {g : zz_G} {r : zz_R} {Q : zz_Q} {S : zz_G} (hx : x_rel S g r n) (hW : wr (S 51)) (mw : Nat) (hmw : S 51 2 = nI mw) (hmw6 : mw ≤ 6) {v : Int32} (h1 : ¬ sp_isw S v → Q (some (.int 1)) g r n) (h3 : ∀ w : Nat, w < 6 → v = nI w → sp_isw S v → S 51 (16 + 5 * w + 4) = 1 → Q (some (.int 3)) g r n) (h0 : ∀ w : Nat, w < 6 → v = nI w → sp_isw S v → ¬ S 51 (16 + 5 * w + 4) = 1 → Q (some (.int 0)) g r n) : zz_T C mi_X11_refusalOfAsking (d + 1) 0 0 [.ref 0, .int v] g r n Q := by
  refine zz_T.of [some (.ref 0), some (.int v)] (by decide +kernel) rfl (Nat.le_of_ble_eq_true rfl) ?_
  have hn := hx.nn
  have hr := hx.1
  have hmw1 : g 1 7 = nI mw := (x_s2 hx).symm.trans hmw
  refine zz_aload_0 dX11_refusalOfAsking_0 ?_
  refine zz_iload_1 dX11_refusalOfAsking_1 ?_
  refine zz_callV1i cv_X11_107 rfl (Nat.lt_of_lt_of_le (by decide) hn) (Nat.le_of_ble_eq_true rfl) (by decide) (by decide) dX11_refusalOfAsking_2 (t_X11_isWay hn hr mw hmw1 hmw6 (fun w_2 hw_2 ew_2 => ⟨_, rfl, ?_⟩) (fun nw_2 => ⟨_, rfl, ?_⟩))
  · skip
    subst ew_2
    have ia_2 := sp_isw_a (w := w_2) (Nat.lt_of_lt_of_le hw_2 hmw6)
    have ib_2 := sp_isw_b hmw hmw6 hw_2
    refine zz_if_ne 10 dX11_refusalOfAsking_5 (by decide) (fun _ => ?_) (fun h => absurd h (by decide))
    refine zz_aload_0 dX11_refusalOfAsking_10 ?_
    refine zz_iload_1 dX11_refusalOfAsking_11 ?_
    refine zz_callV1i cv_X11_225 rfl (Nat.lt_of_lt_of_le (by decide) hn) (Nat.le_of_ble_eq_true rfl) (by decide) (by decide) dX11_refusalOfAsking_12 (t_X11_isLost hn hr w_2 (by omega) rfl (fun c_12 => ⟨_, rfl, ?_⟩) (fun c_12 => ⟨_, rfl, ?_⟩))
    · skip
      refine zz_if_eq 22 dX11_refusalOfAsking_15 (by decide) (fun h => absurd h (by decide)) (fun _ => ?_)
      refine zz_iconst (3) dX11_refusalOfAsking_18 (by decide) ?_
      refine zz_goto 23 dX11_refusalOfAsking_19 (by decide) ?_
      refine zz_iret rfl dX11_refusalOfAsking_23 (by decide) (by decide) ?_
      obtain ⟨q, -, hq, eq⟩ := (hW.2.1 w_2 (by omega)).2.2.2.2
      rw [← x_wy hx (by omega) (by decide), eq] at c_12
      exact h3 w_2 (by omega) rfl ⟨ia_2, ib_2⟩ (by rw [eq]; rcases (show q = 0 ∨ q = 1 by omega) with rfl | rfl; exact absurd rfl c_12; rfl)
    · skip
      refine zz_if_eq 22 dX11_refusalOfAsking_15 (by decide) (fun _ => ?_) (fun h => absurd h (by decide))
      refine zz_iconst (0) dX11_refusalOfAsking_22 (by decide) ?_
      refine zz_iret rfl dX11_refusalOfAsking_23 (by decide) (by decide) ?_
      exact h0 w_2 (by omega) rfl ⟨ia_2, ib_2⟩ (by rw [x_wy hx (by omega) (by decide), c_12]; decide)
  · skip
    have ic_2 := sp_isw_c hmw hmw6 nw_2
    refine zz_if_ne 10 dX11_refusalOfAsking_5 (by decide) (fun h => absurd h (by decide)) (fun _ => ?_)
    refine zz_iconst (1) dX11_refusalOfAsking_8 (by decide) ?_
    refine zz_iret rfl dX11_refusalOfAsking_9 (by decide) (by decide) ?_
    exact h1 ic_2

set_option maxRecDepth 100000 in
set_option maxHeartbeats 4000000 in
theorem t_X11_secondsToEnter {C : zz_C} {d n : Nat} {g : zz_G} {r : zz_R} {Q : zz_Q} {S : zz_G} (hx : x_rel S g r n) (hW : wr (S 51)) {v s : Int32} (w : Nat) (hw : w < 6) (ev : v = nI w) (h : ∀ g', xj g g' → Q (some (.int (sp_sec (S 51) w s))) g' r n) : zz_T C mi_X11_secondsToEnter (d + 4) 0 0 [.ref 0, .int v, .int s] g r n Q := by
  refine zz_T.of [some (.ref 0), some (.int v), some (.int s), none] (by decide +kernel) rfl (Nat.le_of_ble_eq_true rfl) ?_
  have hn := hx.nn
  have hr := hx.1
  refine zz_aload_0 dX11_secondsToEnter_0 ?_
  refine zz_getR fl_X11_10 rfl rfl (Nat.lt_of_lt_of_le (by decide) hn) (xr_0_0 hr) dX11_secondsToEnter_1 ?_
  refine zz_getR fl_X11_104 rfl rfl (Nat.lt_of_lt_of_le (by decide) hn) (xr_1_6 hr) dX11_secondsToEnter_4 ?_
  refine zz_iload_1 dX11_secondsToEnter_7 ?_
  refine zz_aaN w ev hw (by decide) (by decide) rfl (Nat.lt_of_lt_of_le (by decide) hn) (xr_way hr w hw) dX11_secondsToEnter_8 ?_
  refine zz_iconst (2) dX11_secondsToEnter_9 (by decide) ?_
  refine zz_iald 2 (by decide) (by decide) (by decide) (xs_way w hw) (by omega) dX11_secondsToEnter_10 ?_
  refine zz_istore_3 dX11_secondsToEnter_11 rfl rfl ?_
  refine zz_iload_3 dX11_secondsToEnter_12 ?_
  refine zz_iload_3 dX11_secondsToEnter_13 ?_
  refine zz_iadd dX11_secondsToEnter_14 ?_
  refine zz_aload_0 dX11_secondsToEnter_15 ?_
  refine zz_iload_1 dX11_secondsToEnter_16 ?_
  refine zz_iload_2 dX11_secondsToEnter_17 ?_
  refine zz_callV2i cv_X11_113 rfl (Nat.lt_of_lt_of_le (by decide) hn) (Nat.le_of_ble_eq_true rfl) (by decide) (by decide) dX11_secondsToEnter_18 (t_X11_lateAt hx hW w hw ev (fun g1_18 j1_18 => ⟨_, rfl, ?_⟩))
  refine zz_iload_3 dX11_secondsToEnter_21 ?_
  refine zz_iadd dX11_secondsToEnter_22 ?_
  refine zz_mmax cs_X11_186 (Nat.le_of_ble_eq_true rfl) (by decide) (by decide) dX11_secondsToEnter_23 ?_
  refine zz_iconst (2) dX11_secondsToEnter_26 (by decide) ?_
  refine zz_iadd dX11_secondsToEnter_27 ?_
  refine zz_iret rfl dX11_secondsToEnter_28 (by decide) (by decide) ?_
  have h2 := h _ j1_18
  rw [sp_sec, x_wy hx hw (by decide)] at h2
  exact h2

set_option maxRecDepth 100000 in
set_option maxHeartbeats 4000000 in
theorem t_X11_isEntered {C : zz_C} {d n : Nat} {g : zz_G} {r : zz_R} {Q : zz_Q} {S : zz_G} (hx : x_rel S g r n) (hW : wr (S 51)) {v s : Int32} (w : Nat) (hw : w < 6) (ev : v = nI w) (h1 : ¬ s - 2 < S 51 14 → sp_law (S 51) 1 (S 51 (16 + 5 * w + 2)) (S 51 8) (S 51 13) = 0 → ∀ g', xj g g' → Q (some (.int 1)) g' r n) (h0 : ¬ (¬ s - 2 < S 51 14 ∧ sp_law (S 51) 1 (S 51 (16 + 5 * w + 2)) (S 51 8) (S 51 13) = 0) → ∀ g', xj g g' → Q (some (.int 0)) g' r n) : zz_T C mi_X11_isEntered (d + 3) 0 0 [.ref 0, .int v, .int s] g r n Q := by
  refine zz_T.of [some (.ref 0), some (.int v), some (.int s)] (by decide +kernel) rfl (Nat.le_of_ble_eq_true rfl) ?_
  have hn := hx.nn
  have hr := hx.1
  refine zz_iload_2 dX11_isEntered_0 ?_
  refine zz_iconst (2) dX11_isEntered_1 (by decide) ?_
  refine zz_isub dX11_isEntered_2 ?_
  refine zz_aload_0 dX11_isEntered_3 ?_
  refine zz_getR fl_X11_10 rfl rfl (Nat.lt_of_lt_of_le (by decide) hn) (xr_0_0 hr) dX11_isEntered_4 ?_
  refine zz_getI fl_X11_205 rfl rfl (Nat.lt_of_lt_of_le (by decide) hn) dX11_isEntered_7 ?_
  refine zz_icmp_lt 52 dX11_isEntered_10 (by decide) (fun c_10 => ?_) (fun c_10 => ?_)
  · skip
    refine zz_iconst (0) dX11_isEntered_52 (by decide) ?_
    refine zz_zret rfl (by rfl) dX11_isEntered_53 (by decide) (by decide) ?_
    rw [← x_s14 hx] at c_10
    exact h0 (fun z9 => z9.1 c_10) _ xj.rf
  · skip
    rw [← x_s14 hx] at c_10
    refine zz_aload_0 dX11_isEntered_13 ?_
    refine zz_iconst (1) dX11_isEntered_14 (by decide) ?_
    refine zz_aload_0 dX11_isEntered_15 ?_
    refine zz_getR fl_X11_10 rfl rfl (Nat.lt_of_lt_of_le (by decide) hn) (xr_0_0 hr) dX11_isEntered_16 ?_
    refine zz_getR fl_X11_104 rfl rfl (Nat.lt_of_lt_of_le (by decide) hn) (xr_1_6 hr) dX11_isEntered_19 ?_
    refine zz_iload_1 dX11_isEntered_22 ?_
    refine zz_aaN w ev hw (by decide) (by decide) rfl (Nat.lt_of_lt_of_le (by decide) hn) (xr_way hr w hw) dX11_isEntered_23 ?_
    refine zz_iconst (2) dX11_isEntered_24 (by decide) ?_
    refine zz_iald 2 (by decide) (by decide) (by decide) (xs_way w hw) (by omega) dX11_isEntered_25 ?_
    refine zz_aload_0 dX11_isEntered_26 ?_
    refine zz_getR fl_X11_10 rfl rfl (Nat.lt_of_lt_of_le (by decide) hn) (xr_0_0 hr) dX11_isEntered_27 ?_
    refine zz_getR fl_X11_90 rfl rfl (Nat.lt_of_lt_of_le (by decide) hn) (xr_1_0 hr) dX11_isEntered_30 ?_
    refine zz_iconst (0) dX11_isEntered_33 (by decide) ?_
    refine zz_iald 0 (by decide) (by decide) (by decide) rfl (Nat.lt_of_lt_of_le (by decide) hn) dX11_isEntered_34 ?_
    refine zz_aload_0 dX11_isEntered_35 ?_
    refine zz_getR fl_X11_10 rfl rfl (Nat.lt_of_lt_of_le (by decide) hn) (xr_0_0 hr) dX11_isEntered_36 ?_
    refine zz_getI fl_X11_214 rfl rfl (Nat.lt_of_lt_of_le (by decide) hn) dX11_isEntered_39 ?_
    refine zz_callV4i cv_X11_129 rfl (Nat.lt_of_lt_of_le (by decide) hn) (Nat.le_of_ble_eq_true rfl) (by decide) (by decide) dX11_isEntered_42 (t_X11_gives hx 1 (by decide) rfl (fun g1_42 j1_42 => ⟨_, rfl, ?_⟩))
    rw [← x_wy hx hw (by decide), ← x_s8 hx, ← x_s13 hx]
    refine zz_if_ne 52 dX11_isEntered_45 (by decide) (fun c_45 => ?_) (fun c_45 => ?_)
    · skip
      refine zz_iconst (0) dX11_isEntered_52 (by decide) ?_
      refine zz_zret rfl (by rfl) dX11_isEntered_53 (by decide) (by decide) ?_
      exact h0 (fun z9 => c_45 z9.2) _ j1_42
    · skip
      refine zz_iconst (1) dX11_isEntered_48 (by decide) ?_
      refine zz_goto 53 dX11_isEntered_49 (by decide) ?_
      refine zz_zret rfl (by rfl) dX11_isEntered_53 (by decide) (by decide) ?_
      exact h1 c_10 c_45 _ j1_42

set_option maxRecDepth 100000 in
set_option maxHeartbeats 4000000 in
theorem t_X11_getsIn {C : zz_C} {d n : Nat} {g : zz_G} {r : zz_R} {Q : zz_Q} {S : zz_G} (hx : x_rel S g r n) (hW : wr (S 51)) {v s : Int32} (w t : Nat) (hw : w < 6) (ev : v = nI w) (hs : s = nI t) (ht : t ≤ 2000000) (h1 : sp_in (S 51) w s (S 51 9) → ∀ g', xj g g' → Q (some (.int 1)) g' r n) (h0 : ¬ sp_in (S 51) w s (S 51 9) → ∀ g', xj g g' → Q (some (.int 0)) g' r n) : zz_T C mi_X11_getsIn (d + 5) 0 0 [.ref 0, .int v, .int s] g r n Q := by
  refine zz_T.of [some (.ref 0), some (.int v), some (.int s), none] (by decide +kernel) rfl (Nat.le_of_ble_eq_true rfl) ?_
  have hn := hx.nn
  have hr := hx.1
  obtain ⟨hd, hd1, hd3, ehd⟩ := hW.1.2.2.2.2.2.2.1
  have key := sp_in_sec (t := t) (a := hd) (hW.2.1 w hw) ht hd3
  rw [← ehd, ← hs] at key
  refine zz_aload_0 dX11_getsIn_0 ?_
  refine zz_iload_1 dX11_getsIn_1 ?_
  refine zz_iload_2 dX11_getsIn_2 ?_
  refine zz_callV2i cv_X11_239 rfl (Nat.lt_of_lt_of_le (by decide) hn) (Nat.le_of_ble_eq_true rfl) (by decide) (by decide) dX11_getsIn_3 (t_X11_secondsToEnter hx hW w hw ev (fun g1_3 j1_3 => ⟨_, rfl, ?_⟩))
  have hx2 := hx.j j1_3
  refine zz_istore_3 dX11_getsIn_6 rfl rfl ?_
  refine zz_iload_3 dX11_getsIn_7 ?_
  refine zz_aload_0 dX11_getsIn_8 ?_
  refine zz_iload_1 dX11_getsIn_9 ?_
  refine zz_aload_0 dX11_getsIn_10 ?_
  refine zz_getR fl_X11_10 rfl rfl (Nat.lt_of_lt_of_le (by decide) hn) (xr_0_0 hr) dX11_getsIn_11 ?_
  refine zz_getR fl_X11_90 rfl rfl (Nat.lt_of_lt_of_le (by decide) hn) (xr_1_0 hr) dX11_getsIn_14 ?_
  refine zz_iconst (1) dX11_getsIn_17 (by decide) ?_
  refine zz_iald 1 (by decide) (by decide) (by decide) rfl (Nat.lt_of_lt_of_le (by decide) hn) dX11_getsIn_18 ?_
  refine zz_callV2i cv_X11_117 rfl (Nat.lt_of_lt_of_le (by decide) hn) (Nat.le_of_ble_eq_true rfl) (by decide) (by decide) dX11_getsIn_19 (t_X11_lastsWith hx2 hW w hw ev ⟨_, rfl, ?_⟩)
  rw [← x_s9 hx2]
  refine zz_icmp_gt 40 dX11_getsIn_22 (by decide) (fun c_22 => ?_) (fun c_22 => ?_)
  · skip
    refine zz_iconst (0) dX11_getsIn_40 (by decide) ?_
    refine zz_zret rfl (by rfl) dX11_getsIn_41 (by decide) (by decide) ?_
    exact h0 (fun z9 => (key.mp z9).1 c_22) _ j1_3
  · skip
    refine zz_aload_0 dX11_getsIn_25 ?_
    refine zz_iload_1 dX11_getsIn_26 ?_
    refine zz_iload_2 dX11_getsIn_27 ?_
    refine zz_iload_3 dX11_getsIn_28 ?_
    refine zz_iadd dX11_getsIn_29 ?_
    refine zz_callV2i cv_X11_245 rfl (Nat.lt_of_lt_of_le (by decide) hn) (Nat.le_of_ble_eq_true rfl) (by decide) (by decide) dX11_getsIn_30 (t_X11_isEntered hx2 hW w hw ev (fun e_30 l_30 g1_30 j1_30 => ⟨_, rfl, ?_⟩) (fun e_30 g1_30 j1_30 => ⟨_, rfl, ?_⟩))
    · skip
      refine zz_if_eq 40 dX11_getsIn_33 (by decide) (fun h => absurd h (by decide)) (fun _ => ?_)
      refine zz_iconst (1) dX11_getsIn_36 (by decide) ?_
      refine zz_goto 41 dX11_getsIn_37 (by decide) ?_
      refine zz_zret rfl (by rfl) dX11_getsIn_41 (by decide) (by decide) ?_
      exact h1 (key.mpr ⟨c_22, e_30, l_30⟩) _ (j1_3.tr j1_30)
    · skip
      refine zz_if_eq 40 dX11_getsIn_33 (by decide) (fun _ => ?_) (fun h => absurd h (by decide))
      refine zz_iconst (0) dX11_getsIn_40 (by decide) ?_
      refine zz_zret rfl (by rfl) dX11_getsIn_41 (by decide) (by decide) ?_
      exact h0 (fun z9 => e_30 (key.mp z9).2) _ (j1_3.tr j1_30)

set_option maxRecDepth 100000 in
set_option maxHeartbeats 4000000 in
theorem t_X11_fetched {C : zz_C} {d n : Nat} {g : zz_G} {r : zz_R} {Q : zz_Q} {S : zz_G} (hx : x_rel S g r n) {v what : Int32} (mw : Nat) (hmw : S 51 2 = nI mw) (hmw6 : mw ≤ 6) (hW : wr (S 51)) (h : x_o g Q (sp_fetched S v what)) : zz_T C mi_X11_fetched (d + 6) 0 0 [.ref 0, .int v, .int what] g r n Q := by
  have hn := hx.nn
  have hr := hx.1
  have hmw1 : g 1 7 = nI mw := (x_s2 hx).symm.trans hmw
  obtain ⟨t0, ht00, ht0, et0⟩ := hW.1.1
  refine zz_T.of [some (.ref 0), some (.int v), some (.int what), none] (by decide +kernel) rfl (Nat.le_of_ble_eq_true rfl) ?_
  refine zz_iload_2 dX11_fetched_0 ?_
  refine zz_iconst (1) dX11_fetched_1 (by decide) ?_
  refine zz_callS2i cs_X11_93 (Nat.le_of_ble_eq_true rfl) (by decide) (by decide) dX11_fetched_2 (t_X11_within (fun a_2 b_2 => ⟨_, rfl, ?_⟩) (fun o_2 => ⟨_, rfl, ?_⟩))
  · skip
    refine zz_if_eq 16 dX11_fetched_5 (by decide) (fun h => absurd h (by decide)) (fun _ => ?_)
    refine zz_aload_0 dX11_fetched_8 ?_
    refine zz_iload_1 dX11_fetched_9 ?_
    refine zz_callV1i cv_X11_189 rfl (Nat.lt_of_lt_of_le (by decide) hn) (Nat.le_of_ble_eq_true rfl) (by decide) (by decide) dX11_fetched_10 (t_X11_refusalOfAsking hx hW mw hmw hmw6 (fun nw_10 => ⟨_, rfl, ?_⟩) (fun w_10 hw_10 ew_10 iw_10 l_10 => ⟨_, rfl, ?_⟩) (fun w_10 hw_10 ew_10 iw_10 l_10 => ⟨_, rfl, ?_⟩))
    · skip
      refine zz_goto 17 dX11_fetched_13 (by decide) ?_
      refine zz_istore_3 dX11_fetched_17 rfl rfl ?_
      refine zz_iload_3 dX11_fetched_18 ?_
      refine zz_if_eq 28 dX11_fetched_19 (by decide) (fun h => absurd h (by decide)) (fun _ => ?_)
      refine zz_aload_0 dX11_fetched_22 ?_
      refine zz_iload_3 dX11_fetched_23 ?_
      refine zz_callV1i cv_X11_86 rfl (Nat.lt_of_lt_of_le (by decide) hn) (Nat.le_of_ble_eq_true rfl) (by decide) (by decide) dX11_fetched_24 (t_X11_error hn hr 1 rfl (by decide) ⟨_, rfl, ?_⟩)
      refine zz_iret rfl dX11_fetched_27 (by decide) (by decide) ?_
      first
        | (rw [sp_fetched, if_pos nw_10] at h; exact x_er hx (by decide) h)
        | (rw [sp_fetched, if_neg (fun z9 => z9 iw_10), if_neg (fun z9 => z9.elim a_2 b_2), ix_w (by omega), if_pos l_10] at h; exact x_er hx (by decide) h)
    · skip
      subst ew_10
      refine zz_goto 17 dX11_fetched_13 (by decide) ?_
      refine zz_istore_3 dX11_fetched_17 rfl rfl ?_
      refine zz_iload_3 dX11_fetched_18 ?_
      refine zz_if_eq 28 dX11_fetched_19 (by decide) (fun h => absurd h (by decide)) (fun _ => ?_)
      refine zz_aload_0 dX11_fetched_22 ?_
      refine zz_iload_3 dX11_fetched_23 ?_
      refine zz_callV1i cv_X11_86 rfl (Nat.lt_of_lt_of_le (by decide) hn) (Nat.le_of_ble_eq_true rfl) (by decide) (by decide) dX11_fetched_24 (t_X11_error hn hr 3 rfl (by decide) ⟨_, rfl, ?_⟩)
      refine zz_iret rfl dX11_fetched_27 (by decide) (by decide) ?_
      first
        | (rw [sp_fetched, if_pos nw_10] at h; exact x_er hx (by decide) h)
        | (rw [sp_fetched, if_neg (fun z9 => z9 iw_10), if_neg (fun z9 => z9.elim a_2 b_2), ix_w (by omega), if_pos l_10] at h; exact x_er hx (by decide) h)
    · skip
      subst ew_10
      refine zz_goto 17 dX11_fetched_13 (by decide) ?_
      refine zz_istore_3 dX11_fetched_17 rfl rfl ?_
      refine zz_iload_3 dX11_fetched_18 ?_
      refine zz_if_eq 28 dX11_fetched_19 (by decide) (fun _ => ?_) (fun h => absurd h (by decide))
      refine zz_iload_2 dX11_fetched_28 ?_
      refine zz_iconst (1) dX11_fetched_29 (by decide) ?_
      refine zz_icmp_ne 46 dX11_fetched_30 (by decide) (fun c_30 => ?_) (fun c_30 => ?_)
      · skip
        refine zz_aload_0 dX11_fetched_46 ?_
        refine zz_iload_1 dX11_fetched_47 ?_
        refine zz_aload_0 dX11_fetched_48 ?_
        refine zz_getR fl_X11_10 rfl rfl (Nat.lt_of_lt_of_le (by decide) hn) (xr_0_0 hr) dX11_fetched_49 ?_
        refine zz_getI fl_X11_110 rfl rfl (Nat.lt_of_lt_of_le (by decide) hn) dX11_fetched_52 ?_
        refine zz_callV2i cv_X11_242 rfl (Nat.lt_of_lt_of_le (by decide) hn) (Nat.le_of_ble_eq_true rfl) (by decide) (by decide) dX11_fetched_55 (t_X11_getsIn hx hW w_10 t0 hw_10 rfl (by rw [← x_s0 hx]; exact et0) (by omega) (fun y_55 g1_55 j1_55 => ⟨_, rfl, ?_⟩) (fun y_55 g1_55 j1_55 => ⟨_, rfl, ?_⟩))
        · skip
          refine zz_if_eq 65 dX11_fetched_58 (by decide) (fun h => absurd h (by decide)) (fun _ => ?_)
          refine zz_iconst (1) dX11_fetched_61 (by decide) ?_
          refine zz_goto 66 dX11_fetched_62 (by decide) ?_
          refine zz_iret rfl dX11_fetched_66 (by decide) (by decide) ?_
          rw [sp_fetched, if_neg (fun z9 => z9 iw_10), if_neg (fun z9 => z9.elim a_2 b_2), ix_w (by omega), if_neg l_10, if_neg c_30] at h
          rw [← x_s0 hx] at y_55
          rw [if_pos y_55] at h
          exact h.e ((x_F.rf hx).j j1_55)
        · skip
          refine zz_if_eq 65 dX11_fetched_58 (by decide) (fun _ => ?_) (fun h => absurd h (by decide))
          refine zz_iconst (0) dX11_fetched_65 (by decide) ?_
          refine zz_iret rfl dX11_fetched_66 (by decide) (by decide) ?_
          rw [sp_fetched, if_neg (fun z9 => z9 iw_10), if_neg (fun z9 => z9.elim a_2 b_2), ix_w (by omega), if_neg l_10, if_neg c_30] at h
          rw [← x_s0 hx] at y_55
          rw [if_neg y_55] at h
          exact h.e ((x_F.rf hx).j j1_55)
      · skip
        refine zz_aload_0 dX11_fetched_33 ?_
        refine zz_iload_1 dX11_fetched_34 ?_
        refine zz_aload_0 dX11_fetched_35 ?_
        refine zz_getR fl_X11_10 rfl rfl (Nat.lt_of_lt_of_le (by decide) hn) (xr_0_0 hr) dX11_fetched_36 ?_
        refine zz_getI fl_X11_110 rfl rfl (Nat.lt_of_lt_of_le (by decide) hn) dX11_fetched_39 ?_
        refine zz_callV2i cv_X11_239 rfl (Nat.lt_of_lt_of_le (by decide) hn) (Nat.le_of_ble_eq_true rfl) (by decide) (by decide) dX11_fetched_42 (t_X11_secondsToEnter hx hW w_10 hw_10 rfl (fun g1_42 j1_42 => ⟨_, rfl, ?_⟩))
        refine zz_iret rfl dX11_fetched_45 (by decide) (by decide) ?_
        rw [sp_fetched, if_neg (fun z9 => z9 iw_10), if_neg (fun z9 => z9.elim a_2 b_2), ix_w (by omega), if_neg l_10, if_pos c_30, sp_takes_sec hW hw_10, x_s0 hx] at h
        exact h.e ((x_F.rf hx).j j1_42)
  · skip
    refine zz_if_eq 16 dX11_fetched_5 (by decide) (fun _ => ?_) (fun h => absurd h (by decide))
    refine zz_iconst (1) dX11_fetched_16 (by decide) ?_
    refine zz_istore_3 dX11_fetched_17 rfl rfl ?_
    refine zz_iload_3 dX11_fetched_18 ?_
    refine zz_if_eq 28 dX11_fetched_19 (by decide) (fun h => absurd h (by decide)) (fun _ => ?_)
    refine zz_aload_0 dX11_fetched_22 ?_
    refine zz_iload_3 dX11_fetched_23 ?_
    refine zz_callV1i cv_X11_86 rfl (Nat.lt_of_lt_of_le (by decide) hn) (Nat.le_of_ble_eq_true rfl) (by decide) (by decide) dX11_fetched_24 (t_X11_error hn hr 1 rfl (by decide) ⟨_, rfl, ?_⟩)
    refine zz_iret rfl dX11_fetched_27 (by decide) (by decide) ?_
    by_cases hq : sp_isw S v
    · rw [sp_fetched, if_neg (fun z9 => z9 hq), if_pos o_2] at h
      exact x_er hx (by decide) h
    · rw [sp_fetched, if_pos hq] at h
      exact x_er hx (by decide) h
