/-! TEXTS as steps: what doing the steps gives; steps do not hang on what the names stand for -/
def ex1 (x y z c : Int32) (st : List Int32) : List Int32 :=
  if c < -3 then (if c = -33 then (match st with | [] => [] | v :: t => (if v = 0 then 1 else 0) :: t) else (match st with | w :: v :: t => pz_op (-c) v w :: t | l => l)) else (if c = -1 then x else if c = -2 then y else if c = -3 then z else c) :: st
def ex (x y z : Int32) : List Int32 → List Int32 → List Int32
  | [], st => st
  | c :: cs, st => ex x y z cs (ex1 x y z c st)
theorem ex_app (x y z : Int32) : ∀ (a b st : List Int32), ex x y z (a ++ b) st = ex x y z b (ex x y z a st) := by
  intro a
  induction a with
  | nil => intro b st; rfl
  | cons c a ih => intro b st; exact ih b _
theorem ex1_op {x y z c : Int32} {lv : Nat} (h : pz_is lv c) (v w : Int32) (st : List Int32) : ex1 x y z (-c) (w :: v :: st) = pz_op c v w :: st := by
  have : -c < -3 ∧ ¬ -c = -33 ∧ -(-c) = c := by
    rcases h with ⟨_, h⟩ | ⟨_, h⟩ | ⟨_, h | h | h⟩ | ⟨_, h | h⟩ | ⟨_, h | h | h⟩ <;> subst h <;> decide
  rw [ex1, if_pos this.1, if_neg this.2.1]
  show pz_op (- -c) v w :: st = _
  rw [this.2.2]
def pz_gd (x y z : Int32) (step : Nat → pz_T) : Prop := ∀ k, (step k).1 = true → ∀ st, ex x y z (step k).2.2.2 st = (step k).2.2.1 :: st
theorem pz_num_n {b : Nat → Int32} : ∀ (f k v : Nat), v ≤ 9999 → (v + 1) * 10 ^ f ≤ 10000 → ∃ t : Nat, t ≤ 9999 ∧ (pz_num b f k (nI v)).2 = nI t := by
  intro f
  induction f with
  | zero => intro k v h1 _; exact ⟨v, h1, rfl⟩
  | succ f ih =>
    intro k v h1 h2
    rw [pz_num]
    split
    · exact ⟨v, h1, rfl⟩
    · rename_i hd
      obtain ⟨c, c1, c2, ec⟩ := zz_in0 (lo := 48) (hi := 57) rfl rfl (by decide) (by decide) (fun q => hd (Or.inl q)) (fun q => hd (Or.inr q))
      have e : 10 * nI v + b k - 48 = nI (10 * v + (c - 48)) := by
        rw [ec, show (10 : Int32) = nI 10 from rfl, show (48 : Int32) = nI 48 from rfl, pk_mul, nI_add, pk_sub (by omega)]
        congr 1
        omega
      rw [e]
      have hp : 10 ^ f ≥ 1 := Nat.pos_of_ne_zero (by simp)
      have h3 : (10 * v + (c - 48) + 1) * 10 ^ f ≤ 10000 := by
        have : (10 * v + (c - 48) + 1) * 10 ^ f ≤ (10 * v + 10) * 10 ^ f := Nat.mul_le_mul_right _ (by omega)
        have e2 : (10 * v + 10) * 10 ^ f = (v + 1) * 10 ^ (f + 1) := by
          rw [Nat.pow_succ, show 10 * v + 10 = (v + 1) * 10 by omega, Nat.mul_assoc, Nat.mul_comm 10]
        omega
      refine ih (k + 1) _ ?_ h3
      have : (10 * v + (c - 48) + 1) * 1 ≤ (10 * v + (c - 48) + 1) * 10 ^ f := Nat.mul_le_mul_left _ hp
      omega
theorem ex1_num {x y z : Int32} {t : Nat} (h : t ≤ 9999) (st : List Int32) : ex1 x y z (nI t) st = nI t :: st := by
  have hp : ¬ nI t < 0 := nI_pos (by omega)
  have h1 : ¬ nI t < -3 := fun q => hp (Int32.lt_trans q (by decide))
  have hne : ∀ c : Int32, c < 0 → ¬ nI t = c := fun c hc e => hp (by rw [e]; exact hc)
  unfold ex1
  rw [if_neg h1, if_neg (hne _ (by decide)), if_neg (hne _ (by decide)), if_neg (hne _ (by decide))]
theorem pz_base_gd {b : Nat → Int32} {u : Nat} {x y z : Int32} : pz_gd x y z (pz_base b u x y z) := by
  intro k hk st
  unfold pz_base at hk ⊢
  by_cases hd : b k < 48 ∨ 57 < b k
  · rw [if_pos hd] at hk ⊢
    by_cases h0 : b k = pz_nm u 0
    · rw [if_pos h0]
      rfl
    · rw [if_neg h0] at hk ⊢
      by_cases h1 : b k = pz_nm u 1
      · rw [if_pos h1]
        rfl
      · rw [if_neg h1] at hk ⊢
        by_cases h2 : b k = pz_nm u 2
        · rw [if_pos h2]
          rfl
        · rw [if_neg h2] at hk
          cases hk
  · rw [if_neg hd]
    obtain ⟨t, ht, e⟩ := pz_num_n (b := b) 4 k 0 (by decide) (by decide)
    show ex1 x y z (pz_num b 4 k 0).2 st = (pz_num b 4 k 0).2 :: st
    rw [show (pz_num b 4 k 0).2 = nI t from e]
    exact ex1_num ht st
theorem pz_lp_gd {b : Nat → Int32} {x y z : Int32} {step : Nat → pz_T} {lv : Nat} (hs : pz_gd x y z step) : ∀ (f k : Nat) (v : Int32) (cs : List Int32), (∀ st, ex x y z cs st = v :: st) → (pz_lp b step lv f k v cs).1 = true → ∀ st, ex x y z (pz_lp b step lv f k v cs).2.2.2 st = (pz_lp b step lv f k v cs).2.2.1 :: st := by
  intro f
  induction f with
  | zero => intro k v cs h _; exact h
  | succ f ih =>
    intro k v cs h hk
    rw [pz_lp] at hk ⊢
    by_cases hi : pz_is lv (b k)
    · rw [if_pos hi] at hk ⊢
      by_cases hg : (step (k + 1)).1 = true
      · rw [if_pos hg] at hk ⊢
        refine ih _ _ _ (fun st => ?_) hk
        rw [ex_app, h, ex_app, hs _ hg]
        exact ex1_op hi _ _ _
      · rw [if_neg hg] at hk
        cases hk
    · rw [if_neg hi]
      exact h
theorem pz_lv_gd {b : Nat → Int32} {x y z : Int32} {step : Nat → pz_T} {lv : Nat} (hs : pz_gd x y z step) : pz_gd x y z (pz_lv b step lv) := by
  intro k hk
  unfold pz_lv at hk ⊢
  by_cases hg : (step k).1 = true
  · rw [if_pos hg] at hk ⊢
    exact pz_lp_gd hs _ _ _ _ (hs k hg) hk
  · rw [if_neg hg] at hk
    cases hk
theorem pz_up_gd {b : Nat → Int32} {x y z : Int32} {f : Nat → pz_T} (hf : pz_gd x y z f) : ∀ i, pz_gd x y z (pz_up b f i)
  | 0 => hf
  | i + 1 => pz_lv_gd (pz_up_gd hf i)
theorem pz_f_gd {b : Nat → Int32} {u : Nat} {x y z : Int32} : ∀ i, pz_gd x y z (pz_f b u x y z i) := by
  intro i
  induction i with
  | zero =>
    intro k hk
    rw [pz_f] at hk ⊢
    by_cases h : b k = 33 ∨ b k = 40
    · rw [if_pos h] at hk
      cases hk
    · rw [if_neg h] at hk ⊢
      exact pz_base_gd k hk
  | succ i ih =>
    intro k hk st
    rw [pz_f] at hk ⊢
    by_cases h1 : b k = 33
    · rw [if_pos h1] at hk ⊢
      by_cases hg : (pz_f b u x y z i (k + 1)).1 = true
      · rw [if_pos hg]
        show ex x y z (_ ++ [-33]) st = _
        rw [ex_app, ih _ hg]
        rfl
      · rw [if_neg hg] at hk
        cases hk
    · rw [if_neg h1] at hk ⊢
      by_cases h2 : b k = 40
      · rw [if_pos h2] at hk ⊢
        by_cases hg : (pz_up b (pz_f b u x y z i) 5 (k + 1)).1 = true ∧ b (pz_up b (pz_f b u x y z i) 5 (k + 1)).2.1 = 41
        · rw [if_pos hg]
          exact pz_up_gd ih 5 _ hg.1 st
        · rw [if_neg hg] at hk
          cases hk
      · rw [if_neg h2] at hk ⊢
        exact pz_base_gd k hk st
theorem pz_run_gd {b : Nat → Int32} {u : Nat} {x y z : Int32} (h : (pz_run b u x y z).1 = true) (st : List Int32) : ex x y z (pz_run b u x y z).2.2.2 st = (pz_run b u x y z).2.2.1 :: st := pz_up_gd (pz_f_gd 5) 5 0 h st
/-! steps and ends do not hang on the names' values -/
abbrev pz_e (p q : pz_T) : Prop := p.1 = q.1 ∧ p.2.1 = q.2.1 ∧ p.2.2.2 = q.2.2.2
theorem pz_lp_e {b : Nat → Int32} {s1 s2 : Nat → pz_T} {lv : Nat} (h : ∀ k, pz_e (s1 k) (s2 k)) : ∀ (f k : Nat) (v w : Int32) (cs : List Int32), pz_e (pz_lp b s1 lv f k v cs) (pz_lp b s2 lv f k w cs) := by
  intro f
  induction f with
  | zero => intro k v w cs; exact ⟨rfl, rfl, rfl⟩
  | succ f ih =>
    intro k v w cs
    rw [pz_lp, pz_lp]
    by_cases hi : pz_is lv (b k)
    · rw [if_pos hi, if_pos hi]
      obtain ⟨a1, a2, a3⟩ := h (k + 1)
      by_cases hg : (s1 (k + 1)).1 = true
      · have hg2 : (s2 (k + 1)).1 = true := a1.symm.trans hg
        rw [if_pos hg, if_pos hg2, a2, a3]
        exact ih _ _ _ _
      · have hg2 : ¬ (s2 (k + 1)).1 = true := fun q => hg (a1.trans q)
        rw [if_neg hg, if_neg hg2]
        exact ⟨rfl, a2, rfl⟩
    · rw [if_neg hi, if_neg hi]
      exact ⟨rfl, rfl, rfl⟩
theorem pz_lv_e {b : Nat → Int32} {s1 s2 : Nat → pz_T} {lv : Nat} (h : ∀ k, pz_e (s1 k) (s2 k)) (k : Nat) : pz_e (pz_lv b s1 lv k) (pz_lv b s2 lv k) := by
  unfold pz_lv
  obtain ⟨a1, a2, a3⟩ := h k
  by_cases hg : (s1 k).1 = true
  · have hg2 : (s2 k).1 = true := a1.symm.trans hg
    rw [if_pos hg, if_pos hg2, a2, a3]
    exact pz_lp_e h _ _ _ _ _
  · have hg2 : ¬ (s2 k).1 = true := fun q => hg (a1.trans q)
    rw [if_neg hg, if_neg hg2]
    exact ⟨rfl, a2, rfl⟩
theorem pz_up_e {b : Nat → Int32} {s1 s2 : Nat → pz_T} (h : ∀ k, pz_e (s1 k) (s2 k)) : ∀ i k, pz_e (pz_up b s1 i k) (pz_up b s2 i k)
  | 0, k => h k
  | i + 1, k => pz_lv_e (pz_up_e h i) k
theorem pz_base_e {b : Nat → Int32} {u : Nat} {x y z x' y' z' : Int32} (k : Nat) : pz_e (pz_base b u x y z k) (pz_base b u x' y' z' k) := by
  unfold pz_base
  by_cases hd : b k < 48 ∨ 57 < b k
  · rw [if_pos hd, if_pos hd]
    by_cases h0 : b k = pz_nm u 0
    · rw [if_pos h0, if_pos h0]
      exact ⟨rfl, rfl, rfl⟩
    · rw [if_neg h0, if_neg h0]
      by_cases h1 : b k = pz_nm u 1
      · rw [if_pos h1, if_pos h1]
        exact ⟨rfl, rfl, rfl⟩
      · rw [if_neg h1, if_neg h1]
        by_cases h2 : b k = pz_nm u 2
        · rw [if_pos h2, if_pos h2]
          exact ⟨rfl, rfl, rfl⟩
        · rw [if_neg h2, if_neg h2]
          exact ⟨rfl, rfl, rfl⟩
  · rw [if_neg hd, if_neg hd]
    exact ⟨rfl, rfl, rfl⟩
theorem pz_f_e {b : Nat → Int32} {u : Nat} {x y z x' y' z' : Int32} : ∀ i k, pz_e (pz_f b u x y z i k) (pz_f b u x' y' z' i k) := by
  intro i
  induction i with
  | zero =>
    intro k
    rw [pz_f, pz_f]
    by_cases h : b k = 33 ∨ b k = 40
    · rw [if_pos h, if_pos h]
      exact ⟨rfl, rfl, rfl⟩
    · rw [if_neg h, if_neg h]
      exact pz_base_e k
  | succ i ih =>
    intro k
    rw [pz_f, pz_f]
    by_cases h1 : b k = 33
    · rw [if_pos h1, if_pos h1]
      obtain ⟨a1, a2, a3⟩ := ih (k + 1)
      by_cases hg : (pz_f b u x y z i (k + 1)).1 = true
      · have hg2 : (pz_f b u x' y' z' i (k + 1)).1 = true := a1.symm.trans hg
        rw [if_pos hg, if_pos hg2]
        exact ⟨rfl, a2, congrArg (· ++ [-33]) a3⟩
      · have hg2 : ¬ (pz_f b u x' y' z' i (k + 1)).1 = true := fun q => hg (a1.trans q)
        rw [if_neg hg, if_neg hg2]
        exact ⟨rfl, a2, rfl⟩
    · rw [if_neg h1, if_neg h1]
      by_cases h2 : b k = 40
      · rw [if_pos h2, if_pos h2]
        obtain ⟨a1, a2, a3⟩ := pz_up_e (b := b) ih 5 (k + 1)
        by_cases hg : (pz_up b (pz_f b u x y z i) 5 (k + 1)).1 = true ∧ b (pz_up b (pz_f b u x y z i) 5 (k + 1)).2.1 = 41
        · rw [if_pos hg, if_pos ⟨a1 ▸ hg.1, a2 ▸ hg.2⟩]
          exact ⟨rfl, congrArg (· + 1) a2, a3⟩
        · rw [if_neg hg, if_neg (fun q => hg ⟨a1.trans q.1, by rw [a2]; exact q.2⟩)]
          exact ⟨rfl, a2, rfl⟩
      · rw [if_neg h2, if_neg h2]
        exact pz_base_e k
theorem pz_run_e {b : Nat → Int32} {u : Nat} (x y z x' y' z' : Int32) : pz_e (pz_run b u x y z) (pz_run b u x' y' z') := pz_up_e (fun k => pz_f_e 5 k) 5 0
/-! how many steps -/
def pz_ln (step : Nat → pz_T) : Prop := ∀ k, (step k).1 = true → 0 < (step k).2.2.2.length ∧ k + (step k).2.2.2.length ≤ (step k).2.1
theorem pz_num_mono {b : Nat → Int32} : ∀ (f k : Nat) (v : Int32), k ≤ (pz_num b f k v).1 := by
  intro f
  induction f with
  | zero => intro k v; exact Nat.le_refl _
  | succ f ih =>
    intro k v
    rw [pz_num]
    split
    · exact Nat.le_refl _
    · exact Nat.le_trans (Nat.le_succ k) (ih _ _)
theorem pz_base_ln {b : Nat → Int32} {u : Nat} {x y z : Int32} : pz_ln (pz_base b u x y z) := by
  intro k hk
  unfold pz_base at hk ⊢
  by_cases hd : b k < 48 ∨ 57 < b k
  · rw [if_pos hd] at hk ⊢
    by_cases h0 : b k = pz_nm u 0
    · rw [if_pos h0]
      exact ⟨Nat.one_pos, Nat.le_refl _⟩
    · rw [if_neg h0] at hk ⊢
      by_cases h1 : b k = pz_nm u 1
      · rw [if_pos h1]
        exact ⟨Nat.one_pos, Nat.le_refl _⟩
      · rw [if_neg h1] at hk ⊢
        by_cases h2 : b k = pz_nm u 2
        · rw [if_pos h2]
          exact ⟨Nat.one_pos, Nat.le_refl _⟩
        · rw [if_neg h2] at hk
          cases hk
  · rw [if_neg hd]
    refine ⟨Nat.one_pos, ?_⟩
    show k + 1 ≤ (pz_num b 4 k 0).1
    rw [pz_num, if_neg hd]
    exact pz_num_mono _ _ _
theorem pz_lp_ln {b : Nat → Int32} {step : Nat → pz_T} {lv : Nat} (hs : pz_ln step) : ∀ (f k : Nat) (v : Int32) (cs : List Int32) (k0 : Nat), 0 < cs.length → k0 + cs.length ≤ k → (pz_lp b step lv f k v cs).1 = true → 0 < (pz_lp b step lv f k v cs).2.2.2.length ∧ k0 + (pz_lp b step lv f k v cs).2.2.2.length ≤ (pz_lp b step lv f k v cs).2.1 := by
  intro f
  induction f with
  | zero => intro k v cs k0 h0 h1 _; exact ⟨h0, h1⟩
  | succ f ih =>
    intro k v cs k0 h0 h1 hk
    rw [pz_lp] at hk ⊢
    by_cases hi : pz_is lv (b k)
    · rw [if_pos hi] at hk ⊢
      by_cases hg : (step (k + 1)).1 = true
      · rw [if_pos hg] at hk ⊢
        obtain ⟨a1, a2⟩ := hs _ hg
        refine ih _ _ _ k0 ?_ ?_ hk
        · simp only [List.length_append]
          omega
        · simp only [List.length_append, List.length_cons, List.length_nil]
          omega
      · rw [if_neg hg] at hk
        cases hk
    · rw [if_neg hi]
      exact ⟨h0, h1⟩
theorem pz_lv_ln {b : Nat → Int32} {step : Nat → pz_T} {lv : Nat} (hs : pz_ln step) : pz_ln (pz_lv b step lv) := by
  intro k hk
  unfold pz_lv at hk ⊢
  by_cases hg : (step k).1 = true
  · rw [if_pos hg] at hk ⊢
    obtain ⟨a1, a2⟩ := hs k hg
    exact pz_lp_ln hs _ _ _ _ k a1 a2 hk
  · rw [if_neg hg] at hk
    cases hk
theorem pz_up_ln {b : Nat → Int32} {f : Nat → pz_T} (hf : pz_ln f) : ∀ i, pz_ln (pz_up b f i)
  | 0 => hf
  | i + 1 => pz_lv_ln (pz_up_ln hf i)
theorem pz_f_ln {b : Nat → Int32} {u : Nat} {x y z : Int32} : ∀ i, pz_ln (pz_f b u x y z i) := by
  intro i
  induction i with
  | zero =>
    intro k hk
    rw [pz_f] at hk ⊢
    by_cases h : b k = 33 ∨ b k = 40
    · rw [if_pos h] at hk
      cases hk
    · rw [if_neg h] at hk ⊢
      exact pz_base_ln k hk
  | succ i ih =>
    intro k hk
    rw [pz_f] at hk ⊢
    by_cases h1 : b k = 33
    · rw [if_pos h1] at hk ⊢
      by_cases hg : (pz_f b u x y z i (k + 1)).1 = true
      · rw [if_pos hg]
        obtain ⟨a1, a2⟩ := ih _ hg
        refine ⟨?_, ?_⟩
        · simp only [List.length_append]
          omega
        · simp only [List.length_append, List.length_cons, List.length_nil]
          omega
      · rw [if_neg hg] at hk
        cases hk
    · rw [if_neg h1] at hk ⊢
      by_cases h2 : b k = 40
      · rw [if_pos h2] at hk ⊢
        by_cases hg : (pz_up b (pz_f b u x y z i) 5 (k + 1)).1 = true ∧ b (pz_up b (pz_f b u x y z i) 5 (k + 1)).2.1 = 41
        · rw [if_pos hg]
          obtain ⟨a1, a2⟩ := pz_up_ln (b := b) ih 5 _ hg.1
          refine ⟨a1, ?_⟩
          show k + (pz_up b (pz_f b u x y z i) 5 (k + 1)).2.2.2.length ≤ (pz_up b (pz_f b u x y z i) 5 (k + 1)).2.1 + 1
          omega
        · rw [if_neg hg] at hk
          cases hk
      · rw [if_neg h2] at hk ⊢
        exact pz_base_ln k hk
theorem pz_run_ln {b : Nat → Int32} {u : Nat} {x y z : Int32} (h : (pz_run b u x y z).1 = true) : 0 < (pz_run b u x y z).2.2.2.length ∧ (pz_run b u x y z).2.2.2.length ≤ (pz_run b u x y z).2.1 := by
  have := pz_up_ln (b := b) (pz_f_ln (u := u) (x := x) (y := y) (z := z) 5) 5 0 h
  rw [Nat.zero_add] at this
  exact this
