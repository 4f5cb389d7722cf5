/-! WHAT THE SYSTEM IS: the numbers of the reference's rows, as a function S (51 row, 52 kept, 54 found, 55 bits, 56 sizes, 57 sheets, 59 traced; 50: 3 isKept, 4 images, 19 tracedMany), and what each call answers and leaves -/
def ms_k (k j : Nat) : Bool := k == 51 || k == 52 || k == 54 || k == 55 || k == 56 || k == 57 || k == 59 || (k == 50 && (j == 3 || j == 4 || j == 19))
def ms_S (g : zz_G) : zz_G := fun k j => if ms_k k j = true then g k j else 0
theorem ms_at {g : zz_G} {k j : Nat} (h : ms_k k j = true) : ms_S g k j = g k j := if_pos h
theorem ms_51 (g : zz_G) (j : Nat) : ms_S g 51 j = g 51 j := ms_at rfl
theorem ms_54 (g : zz_G) (j : Nat) : ms_S g 54 j = g 54 j := ms_at rfl
theorem ms_u {g : zz_G} {k j : Nat} (x : Int32) (h : ms_k k j = true) : ms_S (zz_u g k j x) = zz_u (ms_S g) k j x := by
  funext a b
  by_cases e : a = k ∧ b = j
  · obtain ⟨rfl, rfl⟩ := e
    simp [ms_S, zz_u, h]
  · simp [ms_S, zz_u, e]
theorem ms_j {g : zz_G} {k j : Nat} (x : Int32) (h : ms_k k j = false) : ms_S (zz_u g k j x) = ms_S g := by
  funext a b
  by_cases e : a = k ∧ b = j
  · obtain ⟨rfl, rfl⟩ := e
    simp [ms_S, h]
  · simp [ms_S, zz_u, e]
/-- g' holds S'; nothing but the model's cells has changed since g -/
def ms_F (g g' S' : zz_G) : Prop := ms_S g' = S' ∧ ∀ k, k < 50 ∨ 60 ≤ k → g' k = g k
theorem ms_F.rf {g : zz_G} : ms_F g g (ms_S g) := ⟨rfl, fun _ _ => rfl⟩
theorem ms_F.u {g g' S' : zz_G} {k j : Nat} {x : Int32} (h : ms_F g g' S') (hm : ms_k k j = true) (hk : 50 ≤ k ∧ k < 60) : ms_F g (zz_u g' k j x) (zz_u S' k j x) := by
  refine ⟨by rw [ms_u x hm, h.1], fun a ha => ?_⟩
  rw [zz_u_row g' x (by omega)]
  exact h.2 a ha
theorem ms_F.j {g g' S' : zz_G} {k j : Nat} {x : Int32} (h : ms_F g g' S') (hm : ms_k k j = false) (hk : 50 ≤ k ∧ k < 60) : ms_F g (zz_u g' k j x) S' := by
  refine ⟨by rw [ms_j x hm, h.1], fun a ha => ?_⟩
  rw [zz_u_row g' x (by omega)]
  exact h.2 a ha
theorem ms_F.tr {g g' g'' S' S'' : zz_G} (h : ms_F g g' S') (h2 : ms_F g' g'' S'') : ms_F g g'' S'' := ⟨h2.1, fun k hk => (h2.2 k hk).trans (h.2 k hk)⟩
/-- an end of a call of the model: answer and state as sp says -/
def ms_o (g : zz_G) (r : zz_R) (n : Nat) (Q : zz_Q) (sp : Int32 × zz_G) : Prop := ∀ g', ms_F g g' sp.2 → Q (some (.int sp.1)) g' r n
/-! TEXTS: reading one from byte k on gives (well so far, where it stands, the value, the steps) -/
abbrev pz_T : Type := Bool × Nat × Int32 × List Int32
def pz_b (R : Nat → Int32) (u len k : Nat) : Int32 := if k < len then R (176 + 50 * u + k) else -1
def pz_num (b : Nat → Int32) : Nat → Nat → Int32 → Nat × Int32
  | 0, k, v => (k, v)
  | n + 1, k, v => if b k < 48 ∨ 57 < b k then (k, v) else pz_num b n (k + 1) (10 * v + b k - 48)
abbrev pz_is (lv : Nat) (c : Int32) : Prop := (lv = 0 ∧ c = 124) ∨ (lv = 1 ∧ c = 38) ∨ (lv = 2 ∧ (c = 60 ∨ c = 61 ∨ c = 62)) ∨ (lv = 3 ∧ (c = 43 ∨ c = 45)) ∨ (4 ≤ lv ∧ (c = 42 ∨ c = 47 ∨ c = 37))
def pz_op (c v w : Int32) : Int32 :=
  if c = 124 then (if ¬ v = 0 ∨ ¬ w = 0 then 1 else 0) else if c = 38 then (if ¬ v = 0 ∧ ¬ w = 0 then 1 else 0) else if c = 60 then (if v < w then 1 else 0) else if c = 61 then (if v = w then 1 else 0) else if c = 62 then (if w < v then 1 else 0)
  else if c = 43 then v + w else if c = 45 then v - w else if c = 42 then v * w else if w = 0 then 0 else if c = 47 then v / w else v - v / w * w
def pz_lp (b : Nat → Int32) (step : Nat → pz_T) (lv : Nat) : Nat → Nat → Int32 → List Int32 → pz_T
  | 0, k, v, cs => (true, k, v, cs)
  | f + 1, k, v, cs => if pz_is lv (b k) then (if (step (k + 1)).1 = true then pz_lp b step lv f (step (k + 1)).2.1 (pz_op (b k) v (step (k + 1)).2.2.1) (cs ++ ((step (k + 1)).2.2.2 ++ [-(b k)])) else (false, (step (k + 1)).2.1, 0, [])) else (true, k, v, cs)
def pz_lv (b : Nat → Int32) (step : Nat → pz_T) (lv k : Nat) : pz_T := if (step k).1 = true then pz_lp b step lv (if lv = 2 then 1 else 50) (step k).2.1 (step k).2.2.1 (step k).2.2.2 else (false, (step k).2.1, 0, [])
/-- the levels over an operand's reader: 5 - i of them -/
def pz_up (b : Nat → Int32) (f : Nat → pz_T) : Nat → Nat → pz_T
  | 0 => f
  | i + 1 => pz_lv b (pz_up b f i) (4 - i)
def pz_nm (u i : Nat) : Int32 := if u = 0 then (if i = 0 then 109 else if i = 1 then 107 else 115) else (if i = 0 then 102 else if i = 1 then 103 else 119)
def pz_base (b : Nat → Int32) (u : Nat) (x y z : Int32) (k : Nat) : pz_T :=
  if b k < 48 ∨ 57 < b k then (if b k = pz_nm u 0 then (true, k + 1, x, [-1]) else if b k = pz_nm u 1 then (true, k + 1, y, [-2]) else if b k = pz_nm u 2 then (true, k + 1, z, [-3]) else (false, k, 0, []))
  else (true, (pz_num b 4 k 0).1, (pz_num b 4 k 0).2, [(pz_num b 4 k 0).2])
/-- an operand, with room for so many more NOTs and brackets -/
def pz_f (b : Nat → Int32) (u : Nat) (x y z : Int32) : Nat → Nat → pz_T
  | 0, k => if b k = 33 ∨ b k = 40 then (false, k, 0, []) else pz_base b u x y z k
  | i + 1, k => if b k = 33 then (if (pz_f b u x y z i (k + 1)).1 = true then (true, (pz_f b u x y z i (k + 1)).2.1, (if (pz_f b u x y z i (k + 1)).2.2.1 = 0 then 1 else 0), (pz_f b u x y z i (k + 1)).2.2.2 ++ [-33]) else (false, (pz_f b u x y z i (k + 1)).2.1, 0, []))
    else if b k = 40 then (if (pz_up b (pz_f b u x y z i) 5 (k + 1)).1 = true ∧ b (pz_up b (pz_f b u x y z i) 5 (k + 1)).2.1 = 41 then (true, (pz_up b (pz_f b u x y z i) 5 (k + 1)).2.1 + 1, (pz_up b (pz_f b u x y z i) 5 (k + 1)).2.2.1, (pz_up b (pz_f b u x y z i) 5 (k + 1)).2.2.2) else (false, (pz_up b (pz_f b u x y z i) 5 (k + 1)).2.1, 0, []))
    else pz_base b u x y z k
def pz_run (b : Nat → Int32) (u : Nat) (x y z : Int32) : pz_T := pz_up b (pz_f b u x y z 5) 5 0
/-! what is worked out of the row -/
def sp_held (v lo hi : Int32) : Int32 := if lo ≤ v then (if v ≤ hi then v else hi) else lo
def sp_val (R : Nat → Int32) (u : Nat) (x y z : Int32) : Int32 := (pz_run (pz_b R u (R (5 + u)).toNatClampNeg) u x y z).2.2.1
def sp_law (R : Nat → Int32) (u : Nat) (x y z : Int32) : Int32 := if R (5 + u) < 0 then (if u = 0 then sp_held (3 + x) 0 300 else if 60 < x then 1 else 0) else sp_held (sp_val R u x y z) 0 (if u = 0 then 300 else 1)
def sp_late (R : Nat → Int32) (w : Nat) (s : Int32) : Int32 :=
  if R (16 + 5 * w) = 2 ∨ R (16 + 5 * w) = 6 then 0 else if R (16 + 5 * w) = 5 then 1 else if R (16 + 5 * w) = 3 then sp_law R 0 (R (16 + 5 * w + 1)) (R (16 + 5 * w)) (s - s / 60 * 60) / 2
  else if R (16 + 5 * w) = 4 then sp_law R 0 (R (16 + 5 * w + 1)) (R (16 + 5 * w)) (s - s / 60 * 60) + R (16 + 5 * w + 1) else sp_law R 0 (R (16 + 5 * w + 1)) (R (16 + 5 * w)) (s - s / 60 * 60)
def sp_lasts (R : Nat → Int32) (w : Nat) (hold : Int32) : Int32 := if R (16 + 5 * w) = 3 then 10 * hold else if R (16 + 5 * w) = 4 then hold / 2 else if R (16 + 5 * w) = 6 then 9999 else hold
def sp_tn : Nat → Int32
  | 0 => 1
  | k + 1 => sp_tn k * 10
abbrev sp_counts (R : Nat → Int32) (c : Nat) : Prop := R (46 + 6 * c + 5) = 0 ∧ ¬ (R 0 < R (46 + 6 * c + 3) ∨ R (46 + 6 * c + 4) < R 0) ∧ (R 12 = 0 ∨ nI c = R 7 - 1)
def sp_back (R : Nat → Int32) (w : Nat) (s : Int32) : Int32 := if s + sp_late R w s + R (16 + 5 * w + 2) < s + 2 * R (16 + 5 * w + 2) then s + 2 * R (16 + 5 * w + 2) else s + sp_late R w s + R (16 + 5 * w + 2)
abbrev sp_in (R : Nat → Int32) (w : Nat) (s hold : Int32) : Prop := R 14 ≤ sp_back R w s ∧ sp_back R w s + 2 ≤ s + sp_lasts R w hold ∧ sp_law R 1 (R (16 + 5 * w + 2)) (R 8) (R 13) = 0
/-! the calls -/
def sp_err (S : zz_G) (e : Nat) : Int32 × zz_G := (-1000000000 - nI e, zz_u S 54 e (S 54 e + 1))
abbrev sp_isw (S : zz_G) (w : Int32) : Prop := ¬ w < 0 ∧ w < S 51 2
def sp_set (S : zz_G) (j : Nat) (v : Int32) : Int32 × zz_G := (S 51 j, zz_u S 51 j v)
def sp_rule (S : zz_G) (what v : Int32) : Int32 × zz_G :=
  if what = 0 then (if v < 1 ∨ 6 < v then sp_err S 1 else sp_set S 8 v) else if what = 1 then (if v < 1 ∨ 300 < v then sp_err S 1 else sp_set S 9 v) else if what = 2 then (if v < 1 ∨ 9 < v then sp_err S 1 else sp_set S 10 v)
  else if what = 3 then (if v < 1 ∨ 9999 < v then sp_err S 1 else sp_set S 11 v) else if what = 4 then (if v < 0 ∨ 1 < v then sp_err S 1 else sp_set S 12 v) else sp_err S 1
def sp_way (S : zz_G) (km far place : Int32) : Int32 × zz_G :=
  if km < 0 ∨ 69 < km then sp_err S 1 else if far < 0 ∨ 99 < far then sp_err S 1 else if place < 0 ∨ 5 < place then sp_err S 1 else if S 51 2 = 6 then sp_err S 4
  else (S 51 2, zz_u (zz_u (zz_u (zz_u (zz_u (zz_u S 51 (16 + 5 * (S 51 2).toNatClampNeg + 0) (km / 10)) 51 (16 + 5 * (S 51 2).toNatClampNeg + 1) (km - km / 10 * 10)) 51 (16 + 5 * (S 51 2).toNatClampNeg + 2) far) 51 (16 + 5 * (S 51 2).toNatClampNeg + 3) place) 51 (16 + 5 * (S 51 2).toNatClampNeg + 4) 0) 51 2 (S 51 2 + 1))
def sp_ofWay (S : zz_G) (w what : Int32) : Int32 × zz_G :=
  if ¬ sp_isw S w then sp_err S 1 else if what < 0 ∨ 6 < what then sp_err S 1 else if what < 5 then (S 51 (16 + 5 * w.toNatClampNeg + what.toNatClampNeg), S) else if what = 5 then (sp_late (S 51) w.toNatClampNeg (S 51 0), S) else (sp_lasts (S 51) w.toNatClampNeg (S 51 9), S)
abbrev sp_chok (what v : Int32) : Prop := if what = 0 then ¬ (v < 0 ∨ 99 < v) else if what = 1 then ¬ (v < 0 ∨ 5 < v) else what = 2 ∧ ¬ (v < 0 ∨ 1 < v)
def sp_change (S : zz_G) (w what v : Int32) : Int32 × zz_G := if sp_isw S w ∧ sp_chok what v then sp_set S (16 + 5 * w.toNatClampNeg + 2 + what.toNatClampNeg) v else sp_err S 1
def sp_become (S : zz_G) (w km : Int32) : Int32 × zz_G :=
  if ¬ sp_isw S w then sp_err S 1 else if km < 0 ∨ 69 < km then sp_err S 1 else (S 51 (16 + 5 * w.toNatClampNeg), zz_u (zz_u S 51 (16 + 5 * w.toNatClampNeg + 1) (km - km / 10 * 10)) 51 (16 + 5 * w.toNatClampNeg) (km / 10))
def sp_above (k : Int32) : Int32 := if k = 0 then -1 else if k ≤ 3 then 0 else k - 3
abbrev sp_under (k kind : Int32) : Prop := k = kind ∨ sp_above k = kind ∨ sp_above (sp_above k) = kind
def sp_asT (S : zz_G) (w kind : Int32) : Int32 × zz_G := if ¬ sp_isw S w then sp_err S 1 else if kind < 0 ∨ 6 < kind then sp_err S 1 else if sp_under (S 51 (16 + 5 * w.toNatClampNeg)) kind then (S 51 (16 + 5 * w.toNatClampNeg + 1), S) else sp_err S 5
def sp_lawT (S : zz_G) (use x y z : Int32) : Int32 × zz_G := if use < 0 ∨ 1 < use then sp_err S 1 else (sp_law (S 51) use.toNatClampNeg x y z, S)
def sp_seed (S : zz_G) (v : Int32) : Int32 × zz_G := (S 51 1, zz_u S 51 1 v)
def sp_pass (S : zz_G) (v : Int32) : Int32 × zz_G := if v < 1 ∨ 9999 < v then sp_err S 1 else if S 51 0 + v ≤ 999999 then (S 51 0 + v, zz_u S 51 0 (S 51 0 + v)) else sp_err S 3
abbrev sp_isc (S : zz_G) (c : Int32) : Prop := ¬ c < 0 ∧ c < S 51 7
def sp_ofCode (S : zz_G) (c what : Int32) : Int32 × zz_G := if ¬ sp_isc S c then sp_err S 1 else if what < 0 ∨ 6 < what then sp_err S 1 else if what < 6 then (S 51 (46 + 6 * c.toNatClampNeg + what.toNatClampNeg), S) else (if sp_counts (S 51) c.toNatClampNeg then 1 else 0, S)
def sp_tell (S : zz_G) (v : Int32) : Int32 × zz_G := if S 51 4 = 20 then sp_err S 4 else (S 51 4 + 1, zz_u (zz_u S 51 (156 + (S 51 4).toNatClampNeg) v) 51 4 (S 51 4 + 1))
def sp_told (S : zz_G) (k : Int32) : Int32 × zz_G := if k < 1 ∨ 5 < k then sp_err S 1 else (S 54 k.toNatClampNeg, S)
def sp_trace (S : zz_G) (i : Int32) : Int32 × zz_G := if ¬ i < 0 ∧ i < S 50 19 then (S 59 i.toNatClampNeg, S) else sp_err S 2
abbrev sp_nosh (s : Int32) : Prop := s < 0 ∨ 3 < s
def sp_nar (bits v : Int32) : Int32 := if bits = 8 then v.toInt8.toInt32 else if bits = 16 then v.toInt16.toInt32 else v
def sp_put (S : zz_G) (s i v : Int32) : Int32 × zz_G := if sp_nosh s then sp_err S 1 else if S 55 s.toNatClampNeg = 0 then sp_err S 2 else if ¬ i < 0 ∧ i < S 56 s.toNatClampNeg then (1, zz_u S 57 (40 * s.toNatClampNeg + i.toNatClampNeg) (sp_nar (S 55 s.toNatClampNeg) v)) else sp_err S 1
def sp_ask0 (S : zz_G) (w : Int32) : Nat := if ¬ sp_isw S w then 1 else if S 51 (16 + 5 * w.toNatClampNeg + 4) = 1 then 3 else 0
def sp_takes (R : Nat → Int32) (w : Nat) : Int32 := sp_back R w (R 0) + 2 - R 0
def sp_fetched (S : zz_G) (w what : Int32) : Int32 × zz_G := if ¬ sp_isw S w then sp_err S 1 else if what < 0 ∨ 1 < what then sp_err S 1 else if S 51 (16 + 5 * w.toNatClampNeg + 4) = 1 then sp_err S 3 else if what = 1 then (sp_takes (S 51) w.toNatClampNeg, S) else (if sp_in (S 51) w.toNatClampNeg (S 51 0) (S 51 9) then 1 else 0, S)
def sp_count (S : zz_G) (v : Int32) : Int32 × zz_G :=
  if v = 0 then (S 51 2, S) else if v = 1 then (S 51 7, S) else if v = 2 then (S 51 0, S) else if v = 3 then (S 51 13, S) else if v = 4 then (S 51 14, S) else if v = 5 then (S 51 15, S) else if v = 6 then (S 51 8, S) else if v = 7 then (S 51 9, S) else if v = 8 then (S 51 10, S) else if v = 9 then (S 51 11, S) else if v = 10 then (S 51 12, S)
  else if v = 11 then (S 51 3, S) else if v = 12 then (S 51 4, S) else if v = 13 then (S 50 19, S) else if v = 14 then (S 51 1, S) else sp_err S 1
