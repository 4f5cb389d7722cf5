/-! the references that stand still: the class (cells 0 to 49), the model (50 to 59); kept: the image of the class (60 to 86) -/
def xr_l : List (Nat × Nat × Nat) := [(0, 0, 1), (0, 3, 28), (0, 4, 29), (0, 5, 37), (0, 6, 40), (0, 7, 41), (0, 8, 43), (0, 9, 48), (0, 10, 49), (1, 0, 2), (1, 6, 3), (1, 8, 10), (1, 10, 21), (1, 12, 22), (1, 13, 27), (3, 0, 4), (3, 1, 5), (3, 2, 6), (3, 3, 7), (3, 4, 8), (3, 5, 9), (22, 0, 23), (22, 1, 25), (23, 0, 24), (25, 0, 26), (29, 0, 30), (29, 1, 31), (29, 2, 32), (29, 3, 33), (29, 4, 34), (29, 5, 35), (29, 6, 36), (37, 0, 999), (37, 1, 38), (38, 0, 39), (41, 0, 42), (43, 0, 44), (43, 1, 45), (43, 2, 46), (43, 3, 47), (50, 0, 51), (50, 1, 52), (50, 2, 53), (50, 5, 54), (50, 14, 55), (50, 15, 56), (50, 16, 57), (50, 17, 58), (50, 18, 59), (998, 0, 0)]
def xr (r : zz_R) : Prop := ∀ q ∈ xr_l, r q.1 q.2.1 = some q.2.2
theorem xr_0_0 {r : zz_R} (h : xr r) : r 0 0 = some 1 := h (0, 0, 1) (by decide)
theorem xr_0_3 {r : zz_R} (h : xr r) : r 0 3 = some 28 := h (0, 3, 28) (by decide)
theorem xr_0_4 {r : zz_R} (h : xr r) : r 0 4 = some 29 := h (0, 4, 29) (by decide)
theorem xr_0_5 {r : zz_R} (h : xr r) : r 0 5 = some 37 := h (0, 5, 37) (by decide)
theorem xr_0_6 {r : zz_R} (h : xr r) : r 0 6 = some 40 := h (0, 6, 40) (by decide)
theorem xr_0_7 {r : zz_R} (h : xr r) : r 0 7 = some 41 := h (0, 7, 41) (by decide)
theorem xr_0_8 {r : zz_R} (h : xr r) : r 0 8 = some 43 := h (0, 8, 43) (by decide)
theorem xr_0_9 {r : zz_R} (h : xr r) : r 0 9 = some 48 := h (0, 9, 48) (by decide)
theorem xr_0_10 {r : zz_R} (h : xr r) : r 0 10 = some 49 := h (0, 10, 49) (by decide)
theorem xr_1_0 {r : zz_R} (h : xr r) : r 1 0 = some 2 := h (1, 0, 2) (by decide)
theorem xr_1_6 {r : zz_R} (h : xr r) : r 1 6 = some 3 := h (1, 6, 3) (by decide)
theorem xr_1_8 {r : zz_R} (h : xr r) : r 1 8 = some 10 := h (1, 8, 10) (by decide)
theorem xr_1_10 {r : zz_R} (h : xr r) : r 1 10 = some 21 := h (1, 10, 21) (by decide)
theorem xr_1_12 {r : zz_R} (h : xr r) : r 1 12 = some 22 := h (1, 12, 22) (by decide)
theorem xr_1_13 {r : zz_R} (h : xr r) : r 1 13 = some 27 := h (1, 13, 27) (by decide)
theorem xr_3_0 {r : zz_R} (h : xr r) : r 3 0 = some 4 := h (3, 0, 4) (by decide)
theorem xr_3_1 {r : zz_R} (h : xr r) : r 3 1 = some 5 := h (3, 1, 5) (by decide)
theorem xr_3_2 {r : zz_R} (h : xr r) : r 3 2 = some 6 := h (3, 2, 6) (by decide)
theorem xr_3_3 {r : zz_R} (h : xr r) : r 3 3 = some 7 := h (3, 3, 7) (by decide)
theorem xr_3_4 {r : zz_R} (h : xr r) : r 3 4 = some 8 := h (3, 4, 8) (by decide)
theorem xr_3_5 {r : zz_R} (h : xr r) : r 3 5 = some 9 := h (3, 5, 9) (by decide)
theorem xr_22_0 {r : zz_R} (h : xr r) : r 22 0 = some 23 := h (22, 0, 23) (by decide)
theorem xr_22_1 {r : zz_R} (h : xr r) : r 22 1 = some 25 := h (22, 1, 25) (by decide)
theorem xr_23_0 {r : zz_R} (h : xr r) : r 23 0 = some 24 := h (23, 0, 24) (by decide)
theorem xr_25_0 {r : zz_R} (h : xr r) : r 25 0 = some 26 := h (25, 0, 26) (by decide)
theorem xr_29_0 {r : zz_R} (h : xr r) : r 29 0 = some 30 := h (29, 0, 30) (by decide)
theorem xr_29_1 {r : zz_R} (h : xr r) : r 29 1 = some 31 := h (29, 1, 31) (by decide)
theorem xr_29_2 {r : zz_R} (h : xr r) : r 29 2 = some 32 := h (29, 2, 32) (by decide)
theorem xr_29_3 {r : zz_R} (h : xr r) : r 29 3 = some 33 := h (29, 3, 33) (by decide)
theorem xr_29_4 {r : zz_R} (h : xr r) : r 29 4 = some 34 := h (29, 4, 34) (by decide)
theorem xr_29_5 {r : zz_R} (h : xr r) : r 29 5 = some 35 := h (29, 5, 35) (by decide)
theorem xr_29_6 {r : zz_R} (h : xr r) : r 29 6 = some 36 := h (29, 6, 36) (by decide)
theorem xr_37_0 {r : zz_R} (h : xr r) : r 37 0 = some 999 := h (37, 0, 999) (by decide)
theorem xr_37_1 {r : zz_R} (h : xr r) : r 37 1 = some 38 := h (37, 1, 38) (by decide)
theorem xr_38_0 {r : zz_R} (h : xr r) : r 38 0 = some 39 := h (38, 0, 39) (by decide)
theorem xr_41_0 {r : zz_R} (h : xr r) : r 41 0 = some 42 := h (41, 0, 42) (by decide)
theorem xr_43_0 {r : zz_R} (h : xr r) : r 43 0 = some 44 := h (43, 0, 44) (by decide)
theorem xr_43_1 {r : zz_R} (h : xr r) : r 43 1 = some 45 := h (43, 1, 45) (by decide)
theorem xr_43_2 {r : zz_R} (h : xr r) : r 43 2 = some 46 := h (43, 2, 46) (by decide)
theorem xr_43_3 {r : zz_R} (h : xr r) : r 43 3 = some 47 := h (43, 3, 47) (by decide)
theorem xr_50_0 {r : zz_R} (h : xr r) : r 50 0 = some 51 := h (50, 0, 51) (by decide)
theorem xr_50_1 {r : zz_R} (h : xr r) : r 50 1 = some 52 := h (50, 1, 52) (by decide)
theorem xr_50_2 {r : zz_R} (h : xr r) : r 50 2 = some 53 := h (50, 2, 53) (by decide)
theorem xr_50_5 {r : zz_R} (h : xr r) : r 50 5 = some 54 := h (50, 5, 54) (by decide)
theorem xr_50_14 {r : zz_R} (h : xr r) : r 50 14 = some 55 := h (50, 14, 55) (by decide)
theorem xr_50_15 {r : zz_R} (h : xr r) : r 50 15 = some 56 := h (50, 15, 56) (by decide)
theorem xr_50_16 {r : zz_R} (h : xr r) : r 50 16 = some 57 := h (50, 16, 57) (by decide)
theorem xr_50_17 {r : zz_R} (h : xr r) : r 50 17 = some 58 := h (50, 17, 58) (by decide)
theorem xr_50_18 {r : zz_R} (h : xr r) : r 50 18 = some 59 := h (50, 18, 59) (by decide)
theorem xr_998_0 {r : zz_R} (h : xr r) : r 998 0 = some 0 := h (998, 0, 0) (by decide)
def xk_l : List (Nat × Nat × Nat) := [(60, 0, 61), (60, 6, 62), (60, 8, 69), (60, 10, 80), (60, 12, 81), (60, 13, 86), (62, 0, 63), (62, 1, 64), (62, 2, 65), (62, 3, 66), (62, 4, 67), (62, 5, 68), (81, 0, 82), (81, 1, 84), (82, 0, 83), (84, 0, 85)]
def xk (r : zz_R) : Prop := ∀ q ∈ xk_l, r q.1 q.2.1 = some q.2.2
theorem xk_60_0 {r : zz_R} (h : xk r) : r 60 0 = some 61 := h (60, 0, 61) (by decide)
theorem xk_60_6 {r : zz_R} (h : xk r) : r 60 6 = some 62 := h (60, 6, 62) (by decide)
theorem xk_60_8 {r : zz_R} (h : xk r) : r 60 8 = some 69 := h (60, 8, 69) (by decide)
theorem xk_60_10 {r : zz_R} (h : xk r) : r 60 10 = some 80 := h (60, 10, 80) (by decide)
theorem xk_60_12 {r : zz_R} (h : xk r) : r 60 12 = some 81 := h (60, 12, 81) (by decide)
theorem xk_60_13 {r : zz_R} (h : xk r) : r 60 13 = some 86 := h (60, 13, 86) (by decide)
theorem xk_62_0 {r : zz_R} (h : xk r) : r 62 0 = some 63 := h (62, 0, 63) (by decide)
theorem xk_62_1 {r : zz_R} (h : xk r) : r 62 1 = some 64 := h (62, 1, 64) (by decide)
theorem xk_62_2 {r : zz_R} (h : xk r) : r 62 2 = some 65 := h (62, 2, 65) (by decide)
theorem xk_62_3 {r : zz_R} (h : xk r) : r 62 3 = some 66 := h (62, 3, 66) (by decide)
theorem xk_62_4 {r : zz_R} (h : xk r) : r 62 4 = some 67 := h (62, 4, 67) (by decide)
theorem xk_62_5 {r : zz_R} (h : xk r) : r 62 5 = some 68 := h (62, 5, 68) (by decide)
theorem xk_81_0 {r : zz_R} (h : xk r) : r 81 0 = some 82 := h (81, 0, 82) (by decide)
theorem xk_81_1 {r : zz_R} (h : xk r) : r 81 1 = some 84 := h (81, 1, 84) (by decide)
theorem xk_82_0 {r : zz_R} (h : xk r) : r 82 0 = some 83 := h (82, 0, 83) (by decide)
theorem xk_84_0 {r : zz_R} (h : xk r) : r 84 0 = some 85 := h (84, 0, 85) (by decide)
theorem xr_way {r : zz_R} (h : xr r) : ∀ w : Nat, w < 6 → r 3 w = some (4 + w)
  | 0, _ => h (3, 0, 4) (by decide)
  | 1, _ => h (3, 1, 5) (by decide)
  | 2, _ => h (3, 2, 6) (by decide)
  | 3, _ => h (3, 3, 7) (by decide)
  | 4, _ => h (3, 4, 8) (by decide)
  | 5, _ => h (3, 5, 9) (by decide)
  | w + 6, hw => absurd hw (by omega)
theorem xr_sheet {r : zz_R} (h : xr r) : ∀ w : Nat, w < 4 → r 43 w = some (44 + w)
  | 0, _ => h (43, 0, 44) (by decide)
  | 1, _ => h (43, 1, 45) (by decide)
  | 2, _ => h (43, 2, 46) (by decide)
  | 3, _ => h (43, 3, 47) (by decide)
  | w + 4, hw => absurd hw (by omega)
theorem xr_kind {r : zz_R} (h : xr r) : ∀ w : Nat, w < 7 → r 29 w = some (30 + w)
  | 0, _ => h (29, 0, 30) (by decide)
  | 1, _ => h (29, 1, 31) (by decide)
  | 2, _ => h (29, 2, 32) (by decide)
  | 3, _ => h (29, 3, 33) (by decide)
  | 4, _ => h (29, 4, 34) (by decide)
  | 5, _ => h (29, 5, 35) (by decide)
  | 6, _ => h (29, 6, 36) (by decide)
  | w + 7, hw => absurd hw (by omega)
theorem xr_text {r : zz_R} (h : xr r) : ∀ w : Nat, w < 2 → r 22 w = some (23 + 2 * w)
  | 0, _ => h (22, 0, 23) (by decide)
  | 1, _ => h (22, 1, 25) (by decide)
  | w + 2, hw => absurd hw (by omega)
theorem xs_way : ∀ w : Nat, w < 6 → zz_sh (4 + w) = (1, 0, 5) := by decide
theorem xs_code : ∀ w : Nat, w < 10 → zz_sh (11 + w) = (1, 0, 6) := by decide
theorem xs_sheet : ∀ w : Nat, w < 4 → zz_sh (44 + w) = (1, 0, 40) := by decide
theorem xs_text : ∀ w : Nat, w < 2 → zz_sh (23 + 2 * w) = (0, 8, 2) := by decide
theorem xs_step : ∀ w : Nat, w < 2 → zz_sh (24 + 2 * w) = (1, 0, 50) := by decide
/-- an index that is a number -/
theorem zz_ixc {i : Int32} {j : Nat} (e : i = nI j) (h : j < 2147483648) : i.toNatClampNeg = j := by rw [e]; exact nI_clamp h
theorem zz_ixn {i : Int32} {j : Nat} (e : i = nI j) (h : j < 2147483648) : ¬ i < 0 := by rw [e]; exact nI_pos h
section ZN
variable {C : zz_C} {M : zz_M} {d mc ms kc ks pc : Nat} {L : List (Option Value)} {st : List Value} {g : zz_G} {r : zz_R} {n : Nat} {Q : zz_Q}
variable {x i : Int32} {a k N : Nat}
theorem zz_iaN (j : Nat) (e : i = nI j) (hlt : j < N) (hN : N ≤ 1000) (hs : zz_sh k = (1, 0, N)) (hk : k < n) (hd : decode M.2.1 pc = .ok (.iaload, 1)) (kk : zz_Z C M d mc ms kc ks (pc + 1) L (.int (g k j) :: st) g r n Q) : zz_Z C M d mc ms kc ks pc L (.int i :: .ref k :: st) g r n Q :=
  zz_iald j (zz_ixc e (by omega)) (zz_ixn e (by omega)) hlt hs hk hd kk
theorem zz_iaN9 (hb : zz_b r = 1) (j : Nat) (e : i = nI j) (hlt : j < 50) (hd : decode M.2.1 pc = .ok (.iaload, 1)) (kk : zz_Z C M d mc ms kc ks (pc + 1) L (.int (g 999 j) :: st) g r n Q) : zz_Z C M d mc ms kc ks pc L (.int i :: .ref 999 :: st) g r n Q :=
  zz_iald9 hb j (zz_ixc e (by omega)) (zz_ixn e (by omega)) hlt hd kk
theorem zz_isN (j : Nat) (e : i = nI j) (hlt : j < N) (hN : N ≤ 1000) (hs : zz_sh k = (1, 0, N)) (hk : k < n) (hd : decode M.2.1 pc = .ok (.iastore, 1)) (kk : zz_Z C M d mc ms kc ks (pc + 1) L st (zz_u g k j x) r n Q) : zz_Z C M d mc ms kc ks pc L (.int x :: .int i :: .ref k :: st) g r n Q :=
  zz_iast j (zz_ixc e (by omega)) (zz_ixn e (by omega)) hlt hs hk hd kk
theorem zz_aaN {tk : Nat} (j : Nat) (e : i = nI j) (hlt : j < N) (hN : N ≤ 1000) (htk : tk = 1 ∨ tk = 2 ∨ tk = 3) (hs : zz_sh k = (2, tk, N)) (hk : k < n) (hr : r k j = some a) (hd : decode M.2.1 pc = .ok (.aaload, 1)) (kk : zz_Z C M d mc ms kc ks (pc + 1) L (.ref a :: st) g r n Q) : zz_Z C M d mc ms kc ks pc L (.int i :: .ref k :: st) g r n Q :=
  zz_aald j (zz_ixc e (by omega)) (zz_ixn e (by omega)) hlt htk hs hk hr hd kk
end ZN
/-- a number that lies in 0 .. m - 1 -/
theorem zz_nat {x : Int32} (h0 : 0 ≤ x) {m : Nat} (h : x < nI m) (hm : m < 2147483648) : ∃ w : Nat, w < m ∧ x = nI w := by
  obtain ⟨j, hj, rfl⟩ := nI_of (x := x) (by rw [Int32.not_lt]; exact h0)
  exact ⟨j, (nI_ltI hj hm).mp h, rfl⟩
theorem zz_natle {x : Int32} (h0 : 0 ≤ x) {m : Nat} (h : x ≤ nI m) (hm : m < 2147483648) : ∃ w : Nat, w ≤ m ∧ x = nI w := by
  obtain ⟨j, hj, rfl⟩ := nI_of (x := x) (by rw [Int32.not_lt]; exact h0)
  exact ⟨j, (nI_leI hj hm).mp h, rfl⟩
