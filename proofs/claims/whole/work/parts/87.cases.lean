abbrev mi_L : zz_M := (yL_law, cL_law, 4, some .boolean)
section
variable {C : zz_C} {M : zz_M} {d mc ms kc ks pc : Nat} {L : List (Option Value)} {st : List Value} {g : zz_G} {r : zz_R} {n : Nat} {Q : zz_Q}
/-- the script -/
def zz_sx (C : zz_C) (Ls : Nat) (xs : Nat → Int32) : Prop := ∃ scr, C.2.1[C.2.2.1 30]? = some scr ∧ scr.vm ≠ .unknown ∧ scr.slots.size = Ls ∧ ∀ j, j < Ls → scr.slots[j]? = some (.int (xs j))
theorem zz_sld {Ls : Nat} {xs : Nat → Int32} (hs : zz_sx C Ls xs) {x : Int32} (j : Nat) (ej : x = nI j) (hlt : j < Ls) (hN : Ls ≤ 3072) (hd : decode M.2.1 pc = .ok (.iaload, 1)) (kk : zz_Z C M d mc ms kc ks (pc + 1) L (.int (xs j) :: st) g r n Q) : zz_Z C M d mc ms kc ks pc L (.int x :: .ref (1000000 + 30) :: st) g r n Q := by
  intro p e s m args below meth c H locs ls hF hW hl hL
  obtain ⟨cell, h1, h2, h3, h4⟩ := hs
  obtain ⟨scr, q1, q2⟩ := hF.2.2.1.2.2.2.2.2.2
  have he : scr = cell := Option.some.inj (q1.symm.trans h1)
  subst he
  have hkk := kk p e s m args below meth c H locs ls hF hW hl hL
  rw [List.map_cons, List.map_cons, zz_vx]
  have hc := zz_ixc ej (by omega)
  refine W.iald (v := .int (xs j)) hF.1.1 hF.1.2.1 (by rw [hW.2.2.2 _ (Array.getElem?_eq_some_iff.mp h1).1]; exact h1) q2 h2 ?_ (by rw [hc]; exact h4 j hlt) rfl rfl hd hkk
  intro z9
  rcases z9 with z9 | z9
  · exact zz_ixn ej (by omega) z9
  · rw [hc] at z9; omega
theorem zz_slen {Ls : Nat} {xs : Nat → Int32} (hs : zz_sx C Ls xs) (hd : decode M.2.1 pc = .ok (.arraylength, 1)) (kk : zz_Z C M d mc ms kc ks (pc + 1) L (.int (nI Ls) :: st) g r n Q) : zz_Z C M d mc ms kc ks pc L (.ref (1000000 + 30) :: st) g r n Q := by
  intro p e s m args below meth c H locs ls hF hW hl hL
  obtain ⟨cell, h1, h2, h3, h4⟩ := hs
  obtain ⟨scr, q1, q2⟩ := hF.2.2.1.2.2.2.2.2.2
  have he : scr = cell := Option.some.inj (q1.symm.trans h1)
  subst he
  have hkk := kk p e s m args below meth c H locs ls hF hW hl hL
  rw [List.map_cons, zz_vx]
  exact W.alen (n := nI Ls) hF.1.1 hF.1.2.1 (by rw [hW.2.2.2 _ (Array.getElem?_eq_some_iff.mp h1).1]; exact h1) q2 (by rw [h3]; rfl) rfl rfl hd hkk
theorem zz_widen {kc' ks' : Nat} (h1 : kc ≤ kc') (h2 : ks ≤ ks') (kk : zz_Z C M d mc ms kc' ks' pc L st g r n Q) : zz_Z C M d mc ms kc ks pc L st g r n Q := by
  intro p e s m args below meth c H locs ls hF hW hl hL
  exact W.widen h1 h2 (kk p e s m args below meth c H locs ls hF hW hl hL)
end
theorem sx_i {i k : Nat} : nI i + nI k = nI (i + k) := (Int32.ofNat_add i k).symm
theorem ms_o.mk {S g : zz_G} {r : zz_R} {n : Nat} {Q : zz_Q} {sp : zz_G → Int32 × zz_G} (hS : ms_S g = S) (h : ∀ g', ms_F g g' (sp S).2 → Q (some (.int (sp S).1)) g' r n) : ms_o g r n Q (sp (ms_S g)) := by
  subst hS
  exact h
theorem ms_S_cg {g g' : zz_G} (h : ∀ k, 50 ≤ k → k < 60 → g' k = g k) : ms_S g' = ms_S g := by
  funext k j
  by_cases e : ms_k k j = true
  · rw [ms_at e, ms_at e]
    have hk : 50 ≤ k ∧ k < 60 := by
      simp only [ms_k, Bool.or_eq_true, Bool.and_eq_true, beq_iff_eq] at e
      omega
    rw [h k hk.1 hk.2]
  · unfold ms_S
    rw [if_neg e, if_neg e]
theorem x_rel.cm {S g g' : zz_G} {r : zz_R} {n : Nat} (h : x_rel S g r n) (e : ∀ k, k < 50 ∨ 60 ≤ k → g' k = g k) : x_rel S g' r n := by
  obtain ⟨h1, h2, h3, h4, h5⟩ := h
  have hb : ∀ (b : Nat) (R : Nat → Int32), (b = 1 ∨ b = 60) → xb_c b R g r → xb_c b R g' r := by
    intro b R hb hc
    obtain ⟨pi, a1, a2, a3⟩ := hc
    refine ⟨pi, a1, a2, fun c j hc hj => ?_⟩
    have hp := (a1 c hc).1
    rw [e _ (by omega)]
    exact a3 c j hc hj
  refine ⟨h1, ?_, hb _ _ (Or.inl rfl) h3, fun u hu => ?_, ?_⟩
  · intro q hq i hi
    have hq5 : q.1 < 50 := of_decide_eq_true (List.all_eq_true.mp (show xq_l.all (fun p => decide (p.1 < 50)) = true by decide +kernel) q hq)
    rw [e _ (Or.inl hq5)]
    exact h2 q hq i hi
  · rw [e (23 + 2 * u) (by omega), e (24 + 2 * u) (by omega)]
    exact h4 u hu
  · rcases h5 with q | ⟨a1, a2, a3, a4, a5, a6, a7⟩
    · exact Or.inl q
    · refine Or.inr ⟨a1, a2, a3, a4, ?_, hb _ _ (Or.inr rfl) a6, fun u hu => ?_⟩
      · obtain ⟨b1, b2, b3, b4, b5⟩ := a5
        refine ⟨?_, ?_, fun w j hw hj => ?_, ?_, ?_⟩
        · rw [e 60 (by decide)]
          exact b1
        · rw [e 61 (by decide)]
          exact b2
        · rw [e (63 + w) (by omega)]
          exact b3 w j hw hj
        · rw [e 80 (by decide)]
          exact b4
        · rw [e 86 (by decide)]
          exact b5
      · rw [e (82 + 2 * u) (by omega), e (83 + 2 * u) (by omega)]
        exact a7 u hu
theorem x_tx_ok {S g : zz_G} {r : zz_R} {n : Nat} (h : x_rel S g r n) (u : Nat) (hu : u < 2) : tx_ok (S 51) u := by
  rcases h.2.2.2.1 u hu with q | ⟨len, cs, a1, a2, a3, -⟩
  · exact Or.inl q.1
  · exact Or.inr ⟨len, a1, a2, fun x y z => (a3 x y z).1⟩
/-- what the calls of one entry need -/
theorem k_need {S g : zz_G} {r : zz_R} {n j : Nat} (hx : x_rel S g r n) (hv : iv S j) : wr (S 51) ∧ (∃ mw, S 51 2 = nI mw ∧ mw ≤ 6) ∧ (∃ cw, S 51 7 = nI cw ∧ cw ≤ 10) ∧ (∃ fw, S 51 8 = nI fw ∧ fw ≤ 6) ∧ (∃ kw, S 51 10 = nI kw ∧ 0 < kw ∧ kw ≤ 9) ∧ (∃ tp, S 51 3 = nI tp ∧ tp ≤ 50) ∧ (∃ tw, S 51 4 = nI tw ∧ tw ≤ 20) ∧ (∃ vw, S 50 19 = nI vw ∧ vw ≤ 40) ∧ (∀ w : Nat, w < 6 → ∃ j : Nat, j < 7 ∧ S 51 (16 + 5 * w) = nI j) ∧ (∀ s : Nat, s < 4 → ∃ z : Nat, z ≤ 40 ∧ S 56 s = nI z) ∧ tx_ok (S 51) 0 ∧ tx_ok (S 51) 1 := by
  have hW := hv.1
  obtain ⟨⟨-, ⟨a2, -, b2, c2⟩, ⟨a3, -, b3, c3⟩, ⟨a4, -, b4, c4⟩, ⟨a7, -, b7, c7⟩, ⟨a8, -, b8, c8⟩, -, ⟨a10, d10, b10, c10⟩, -⟩, w, -⟩ := hW
  obtain ⟨vw, hvw, evw⟩ := hv.2.2.1
  refine ⟨hv.1, ⟨a2, c2, b2⟩, ⟨a7, c7, b7⟩, ⟨a8, c8, b8⟩, ⟨a10, c10, d10, b10⟩, ⟨a3, c3, b3⟩, ⟨a4, c4, b4⟩, ⟨vw, evw, hvw⟩, fun q hq => ?_, hv.2.1, x_tx_ok hx 0 (by decide), x_tx_ok hx 1 (by decide)⟩
  obtain ⟨z, -, hz, ez⟩ := (w q hq).1
  exact ⟨z, by omega, ez⟩
set_option maxHeartbeats 1000000 in
theorem k_rule {C : zz_C} {d n kc ks i j Ls : Nat} {xs : Nat → Int32} {S g : zz_G} {r : zz_R} {Q : zz_Q} (hs : zz_sx C Ls xs) (hi : i + 6 ≤ Ls) (hL : Ls ≤ 3072) (hc : kc + 27 ≤ 600000) (hk : ks + 302 ≤ 7302250) (hj : j < 9999) (hx : x_rel S g r n) (hS : ms_S g = S) (hv : iv S j) (hZ : ∀ S' g' r' n', x_rel S' g' r' n' → ms_S g' = S' → iv S' (j + 1) → zz_Z C mi_L (d + 60) 600000 7302250 (kc + 27) (ks + 302) 1348 [some (.ref (1000000 + 30)), some (.ref 0), some (.ref 50), some (.int (nI i))] [] g' r' n' Q) : zz_Z C mi_L (d + 60) 600000 7302250 kc ks 208 [some (.ref (1000000 + 30)), some (.ref 0), some (.ref 50), some (.int (nI i))] [] g r n Q := by
  obtain ⟨hW, ⟨mw, emw, hmw6⟩, ⟨cw, ecw, hcw6⟩, ⟨fw, efw, hfw6⟩, ⟨kw, ekw, hkw0, hkw9⟩, ⟨tp, etp, htp5⟩, ⟨tw, etw, htw20⟩, ⟨vw, evw, hvw⟩, hkd, hz, hT0, hT1⟩ := k_need hx hv
  refine zz_aload_1 dL_law_208 ?_
  refine zz_aload_0 dL_law_209 ?_
  refine zz_iload_3 dL_law_210 ?_
  refine zz_iconst 1 dL_law_211 (by decide) ?_
  refine zz_iadd dL_law_212 ?_
  refine zz_sld hs (i + 1) (show nI i + 1 = nI (i + 1) from sx_i) (by omega) hL dL_law_213 ?_
  refine zz_aload_0 dL_law_214 ?_
  refine zz_iload_3 dL_law_215 ?_
  refine zz_iconst 2 dL_law_216 (by decide) ?_
  refine zz_iadd dL_law_217 ?_
  refine zz_sld hs (i + 2) (show nI i + 2 = nI (i + 2) from sx_i) (by omega) hL dL_law_218 ?_
  refine zz_callV2i cv_L_13 rfl (Nat.lt_of_lt_of_le (by decide) hx.nn) (Nat.le_of_ble_eq_true rfl) (by omega) (by omega) dL_law_219 (t_X11_rule hx  fun g1 r1 n1 hx1 hk1 => ⟨_, rfl, ?_⟩)
  have hS1 : ms_S g1 = S := (ms_S_cg hk1).trans hS
  have h51 : ∀ j, g1 51 j = S 51 j := fun j => by rw [← hS1, ms_51]
  refine zz_aload_2 dL_law_222 ?_
  refine zz_aload_0 dL_law_223 ?_
  refine zz_iload_3 dL_law_224 ?_
  refine zz_iconst 1 dL_law_225 (by decide) ?_
  refine zz_iadd dL_law_226 ?_
  refine zz_sld hs (i + 1) (show nI i + 1 = nI (i + 1) from sx_i) (by omega) hL dL_law_227 ?_
  refine zz_aload_0 dL_law_228 ?_
  refine zz_iload_3 dL_law_229 ?_
  refine zz_iconst 2 dL_law_230 (by decide) ?_
  refine zz_iadd dL_law_231 ?_
  refine zz_sld hs (i + 2) (show nI i + 2 = nI (i + 2) from sx_i) (by omega) hL dL_law_232 ?_
  refine zz_callV2i cv_L_17 rfl (Nat.lt_of_lt_of_le (by decide) hx1.nn) (Nat.le_of_ble_eq_true rfl) (by omega) (by omega) dL_law_233 (t_X12_rule hx1.nn hx1.1  (ms_o.mk (sp := fun S => sp_rule S (xs (i + 1)) (xs (i + 2))) hS1 fun g2 hF2 => ⟨_, rfl, ?_⟩))
  refine zz_icmp_eq 1348 dL_law_236 (by decide) (fun _ => ?_) (fun h => absurd rfl h)
  exact zz_widen (kc' := kc + 27) (ks' := ks + 302) (by omega) (by omega) (hZ _ _ _ _ (hx1.cm hF2.2) hF2.1 (iv_rule hv))
set_option maxHeartbeats 1000000 in
theorem k_way {C : zz_C} {d n kc ks i j Ls : Nat} {xs : Nat → Int32} {S g : zz_G} {r : zz_R} {Q : zz_Q} (hs : zz_sx C Ls xs) (hi : i + 6 ≤ Ls) (hL : Ls ≤ 3072) (hc : kc + 27 ≤ 600000) (hk : ks + 302 ≤ 7302250) (hj : j < 9999) (hx : x_rel S g r n) (hS : ms_S g = S) (hv : iv S j) (hZ : ∀ S' g' r' n', x_rel S' g' r' n' → ms_S g' = S' → iv S' (j + 1) → zz_Z C mi_L (d + 60) 600000 7302250 (kc + 27) (ks + 302) 1348 [some (.ref (1000000 + 30)), some (.ref 0), some (.ref 50), some (.int (nI i))] [] g' r' n' Q) : zz_Z C mi_L (d + 60) 600000 7302250 kc ks 241 [some (.ref (1000000 + 30)), some (.ref 0), some (.ref 50), some (.int (nI i))] [] g r n Q := by
  obtain ⟨hW, ⟨mw, emw, hmw6⟩, ⟨cw, ecw, hcw6⟩, ⟨fw, efw, hfw6⟩, ⟨kw, ekw, hkw0, hkw9⟩, ⟨tp, etp, htp5⟩, ⟨tw, etw, htw20⟩, ⟨vw, evw, hvw⟩, hkd, hz, hT0, hT1⟩ := k_need hx hv
  refine zz_aload_1 dL_law_241 ?_
  refine zz_aload_0 dL_law_242 ?_
  refine zz_iload_3 dL_law_243 ?_
  refine zz_iconst 1 dL_law_244 (by decide) ?_
  refine zz_iadd dL_law_245 ?_
  refine zz_sld hs (i + 1) (show nI i + 1 = nI (i + 1) from sx_i) (by omega) hL dL_law_246 ?_
  refine zz_aload_0 dL_law_247 ?_
  refine zz_iload_3 dL_law_248 ?_
  refine zz_iconst 2 dL_law_249 (by decide) ?_
  refine zz_iadd dL_law_250 ?_
  refine zz_sld hs (i + 2) (show nI i + 2 = nI (i + 2) from sx_i) (by omega) hL dL_law_251 ?_
  refine zz_aload_0 dL_law_252 ?_
  refine zz_iload_3 dL_law_253 ?_
  refine zz_iconst 3 dL_law_254 (by decide) ?_
  refine zz_iadd dL_law_255 ?_
  refine zz_sld hs (i + 3) (show nI i + 3 = nI (i + 3) from sx_i) (by omega) hL dL_law_256 ?_
  refine zz_callV3i cv_L_18 rfl (Nat.lt_of_lt_of_le (by decide) hx.nn) (Nat.le_of_ble_eq_true rfl) (by omega) (by omega) dL_law_257 (t_X11_way hx mw emw hmw6 fun g1 r1 n1 hx1 hk1 => ⟨_, rfl, ?_⟩)
  have hS1 : ms_S g1 = S := (ms_S_cg hk1).trans hS
  have h51 : ∀ j, g1 51 j = S 51 j := fun j => by rw [← hS1, ms_51]
  have xmw := (h51 2).trans emw
  refine zz_aload_2 dL_law_260 ?_
  refine zz_aload_0 dL_law_261 ?_
  refine zz_iload_3 dL_law_262 ?_
  refine zz_iconst 1 dL_law_263 (by decide) ?_
  refine zz_iadd dL_law_264 ?_
  refine zz_sld hs (i + 1) (show nI i + 1 = nI (i + 1) from sx_i) (by omega) hL dL_law_265 ?_
  refine zz_aload_0 dL_law_266 ?_
  refine zz_iload_3 dL_law_267 ?_
  refine zz_iconst 2 dL_law_268 (by decide) ?_
  refine zz_iadd dL_law_269 ?_
  refine zz_sld hs (i + 2) (show nI i + 2 = nI (i + 2) from sx_i) (by omega) hL dL_law_270 ?_
  refine zz_aload_0 dL_law_271 ?_
  refine zz_iload_3 dL_law_272 ?_
  refine zz_iconst 3 dL_law_273 (by decide) ?_
  refine zz_iadd dL_law_274 ?_
  refine zz_sld hs (i + 3) (show nI i + 3 = nI (i + 3) from sx_i) (by omega) hL dL_law_275 ?_
  refine zz_callV3i cv_L_22 rfl (Nat.lt_of_lt_of_le (by decide) hx1.nn) (Nat.le_of_ble_eq_true rfl) (by omega) (by omega) dL_law_276 (t_X12_way hx1.nn hx1.1 mw xmw hmw6 (ms_o.mk (sp := fun S => sp_way S (xs (i + 1)) (xs (i + 2)) (xs (i + 3))) hS1 fun g2 hF2 => ⟨_, rfl, ?_⟩))
  refine zz_icmp_eq 1348 dL_law_279 (by decide) (fun _ => ?_) (fun h => absurd rfl h)
  exact zz_widen (kc' := kc + 27) (ks' := ks + 302) (by omega) (by omega) (hZ _ _ _ _ (hx1.cm hF2.2) hF2.1 (iv_way hv))
set_option maxHeartbeats 1000000 in
theorem k_ofWay {C : zz_C} {d n kc ks i j Ls : Nat} {xs : Nat → Int32} {S g : zz_G} {r : zz_R} {Q : zz_Q} (hs : zz_sx C Ls xs) (hi : i + 6 ≤ Ls) (hL : Ls ≤ 3072) (hc : kc + 27 ≤ 600000) (hk : ks + 302 ≤ 7302250) (hj : j < 9999) (hx : x_rel S g r n) (hS : ms_S g = S) (hv : iv S j) (hZ : ∀ S' g' r' n', x_rel S' g' r' n' → ms_S g' = S' → iv S' (j + 1) → zz_Z C mi_L (d + 60) 600000 7302250 (kc + 27) (ks + 302) 1348 [some (.ref (1000000 + 30)), some (.ref 0), some (.ref 50), some (.int (nI i))] [] g' r' n' Q) : zz_Z C mi_L (d + 60) 600000 7302250 kc ks 284 [some (.ref (1000000 + 30)), some (.ref 0), some (.ref 50), some (.int (nI i))] [] g r n Q := by
  obtain ⟨hW, ⟨mw, emw, hmw6⟩, ⟨cw, ecw, hcw6⟩, ⟨fw, efw, hfw6⟩, ⟨kw, ekw, hkw0, hkw9⟩, ⟨tp, etp, htp5⟩, ⟨tw, etw, htw20⟩, ⟨vw, evw, hvw⟩, hkd, hz, hT0, hT1⟩ := k_need hx hv
  refine zz_aload_1 dL_law_284 ?_
  refine zz_aload_0 dL_law_285 ?_
  refine zz_iload_3 dL_law_286 ?_
  refine zz_iconst 1 dL_law_287 (by decide) ?_
  refine zz_iadd dL_law_288 ?_
  refine zz_sld hs (i + 1) (show nI i + 1 = nI (i + 1) from sx_i) (by omega) hL dL_law_289 ?_
  refine zz_aload_0 dL_law_290 ?_
  refine zz_iload_3 dL_law_291 ?_
  refine zz_iconst 2 dL_law_292 (by decide) ?_
  refine zz_iadd dL_law_293 ?_
  refine zz_sld hs (i + 2) (show nI i + 2 = nI (i + 2) from sx_i) (by omega) hL dL_law_294 ?_
  refine zz_callV2i cv_L_23 rfl (Nat.lt_of_lt_of_le (by decide) hx.nn) (Nat.le_of_ble_eq_true rfl) (by omega) (by omega) dL_law_295 (t_X11_ofWay hx mw emw hmw6 hW fun g1 r1 n1 hx1 hk1 => ⟨_, rfl, ?_⟩)
  have hS1 : ms_S g1 = S := (ms_S_cg hk1).trans hS
  have h51 : ∀ j, g1 51 j = S 51 j := fun j => by rw [← hS1, ms_51]
  have xmw := (h51 2).trans emw
  have f51 : g1 51 = S 51 := funext h51
  rw [← f51] at hT0
  rw [← f51] at hT1
  refine zz_aload_2 dL_law_298 ?_
  refine zz_aload_0 dL_law_299 ?_
  refine zz_iload_3 dL_law_300 ?_
  refine zz_iconst 1 dL_law_301 (by decide) ?_
  refine zz_iadd dL_law_302 ?_
  refine zz_sld hs (i + 1) (show nI i + 1 = nI (i + 1) from sx_i) (by omega) hL dL_law_303 ?_
  refine zz_aload_0 dL_law_304 ?_
  refine zz_iload_3 dL_law_305 ?_
  refine zz_iconst 2 dL_law_306 (by decide) ?_
  refine zz_iadd dL_law_307 ?_
  refine zz_sld hs (i + 2) (show nI i + 2 = nI (i + 2) from sx_i) (by omega) hL dL_law_308 ?_
  refine zz_callV2i cv_L_26 rfl (Nat.lt_of_lt_of_le (by decide) hx1.nn) (Nat.le_of_ble_eq_true rfl) (by omega) (by omega) dL_law_309 (t_X12_ofWay hx1.nn hx1.1 mw xmw hmw6 hT0 hT1 (ms_o.mk (sp := fun S => sp_ofWay S (xs (i + 1)) (xs (i + 2))) hS1 fun g2 hF2 => ⟨_, rfl, ?_⟩))
  refine zz_icmp_eq 1348 dL_law_312 (by decide) (fun _ => ?_) (fun h => absurd rfl h)
  exact zz_widen (kc' := kc + 27) (ks' := ks + 302) (by omega) (by omega) (hZ _ _ _ _ (hx1.cm hF2.2) hF2.1 (iv_ofWay hv))
set_option maxHeartbeats 1000000 in
theorem k_change {C : zz_C} {d n kc ks i j Ls : Nat} {xs : Nat → Int32} {S g : zz_G} {r : zz_R} {Q : zz_Q} (hs : zz_sx C Ls xs) (hi : i + 6 ≤ Ls) (hL : Ls ≤ 3072) (hc : kc + 27 ≤ 600000) (hk : ks + 302 ≤ 7302250) (hj : j < 9999) (hx : x_rel S g r n) (hS : ms_S g = S) (hv : iv S j) (hZ : ∀ S' g' r' n', x_rel S' g' r' n' → ms_S g' = S' → iv S' (j + 1) → zz_Z C mi_L (d + 60) 600000 7302250 (kc + 27) (ks + 302) 1348 [some (.ref (1000000 + 30)), some (.ref 0), some (.ref 50), some (.int (nI i))] [] g' r' n' Q) : zz_Z C mi_L (d + 60) 600000 7302250 kc ks 317 [some (.ref (1000000 + 30)), some (.ref 0), some (.ref 50), some (.int (nI i))] [] g r n Q := by
  obtain ⟨hW, ⟨mw, emw, hmw6⟩, ⟨cw, ecw, hcw6⟩, ⟨fw, efw, hfw6⟩, ⟨kw, ekw, hkw0, hkw9⟩, ⟨tp, etp, htp5⟩, ⟨tw, etw, htw20⟩, ⟨vw, evw, hvw⟩, hkd, hz, hT0, hT1⟩ := k_need hx hv
  refine zz_aload_1 dL_law_317 ?_
  refine zz_aload_0 dL_law_318 ?_
  refine zz_iload_3 dL_law_319 ?_
  refine zz_iconst 1 dL_law_320 (by decide) ?_
  refine zz_iadd dL_law_321 ?_
  refine zz_sld hs (i + 1) (show nI i + 1 = nI (i + 1) from sx_i) (by omega) hL dL_law_322 ?_
  refine zz_aload_0 dL_law_323 ?_
  refine zz_iload_3 dL_law_324 ?_
  refine zz_iconst 2 dL_law_325 (by decide) ?_
  refine zz_iadd dL_law_326 ?_
  refine zz_sld hs (i + 2) (show nI i + 2 = nI (i + 2) from sx_i) (by omega) hL dL_law_327 ?_
  refine zz_aload_0 dL_law_328 ?_
  refine zz_iload_3 dL_law_329 ?_
  refine zz_iconst 3 dL_law_330 (by decide) ?_
  refine zz_iadd dL_law_331 ?_
  refine zz_sld hs (i + 3) (show nI i + 3 = nI (i + 3) from sx_i) (by omega) hL dL_law_332 ?_
  refine zz_callV3i cv_L_27 rfl (Nat.lt_of_lt_of_le (by decide) hx.nn) (Nat.le_of_ble_eq_true rfl) (by omega) (by omega) dL_law_333 (t_X11_change hx mw emw hmw6 fun g1 r1 n1 hx1 hk1 => ⟨_, rfl, ?_⟩)
  have hS1 : ms_S g1 = S := (ms_S_cg hk1).trans hS
  have h51 : ∀ j, g1 51 j = S 51 j := fun j => by rw [← hS1, ms_51]
  have xmw := (h51 2).trans emw
  refine zz_aload_2 dL_law_336 ?_
  refine zz_aload_0 dL_law_337 ?_
  refine zz_iload_3 dL_law_338 ?_
  refine zz_iconst 1 dL_law_339 (by decide) ?_
  refine zz_iadd dL_law_340 ?_
  refine zz_sld hs (i + 1) (show nI i + 1 = nI (i + 1) from sx_i) (by omega) hL dL_law_341 ?_
  refine zz_aload_0 dL_law_342 ?_
  refine zz_iload_3 dL_law_343 ?_
  refine zz_iconst 2 dL_law_344 (by decide) ?_
  refine zz_iadd dL_law_345 ?_
  refine zz_sld hs (i + 2) (show nI i + 2 = nI (i + 2) from sx_i) (by omega) hL dL_law_346 ?_
  refine zz_aload_0 dL_law_347 ?_
  refine zz_iload_3 dL_law_348 ?_
  refine zz_iconst 3 dL_law_349 (by decide) ?_
  refine zz_iadd dL_law_350 ?_
  refine zz_sld hs (i + 3) (show nI i + 3 = nI (i + 3) from sx_i) (by omega) hL dL_law_351 ?_
  refine zz_callV3i cv_L_30 rfl (Nat.lt_of_lt_of_le (by decide) hx1.nn) (Nat.le_of_ble_eq_true rfl) (by omega) (by omega) dL_law_352 (t_X12_change hx1.nn hx1.1 mw xmw hmw6 (ms_o.mk (sp := fun S => sp_change S (xs (i + 1)) (xs (i + 2)) (xs (i + 3))) hS1 fun g2 hF2 => ⟨_, rfl, ?_⟩))
  refine zz_icmp_eq 1348 dL_law_355 (by decide) (fun _ => ?_) (fun h => absurd rfl h)
  exact zz_widen (kc' := kc + 27) (ks' := ks + 302) (by omega) (by omega) (hZ _ _ _ _ (hx1.cm hF2.2) hF2.1 (iv_change hv))
set_option maxHeartbeats 1000000 in
theorem k_become {C : zz_C} {d n kc ks i j Ls : Nat} {xs : Nat → Int32} {S g : zz_G} {r : zz_R} {Q : zz_Q} (hs : zz_sx C Ls xs) (hi : i + 6 ≤ Ls) (hL : Ls ≤ 3072) (hc : kc + 27 ≤ 600000) (hk : ks + 302 ≤ 7302250) (hj : j < 9999) (hx : x_rel S g r n) (hS : ms_S g = S) (hv : iv S j) (hZ : ∀ S' g' r' n', x_rel S' g' r' n' → ms_S g' = S' → iv S' (j + 1) → zz_Z C mi_L (d + 60) 600000 7302250 (kc + 27) (ks + 302) 1348 [some (.ref (1000000 + 30)), some (.ref 0), some (.ref 50), some (.int (nI i))] [] g' r' n' Q) : zz_Z C mi_L (d + 60) 600000 7302250 kc ks 360 [some (.ref (1000000 + 30)), some (.ref 0), some (.ref 50), some (.int (nI i))] [] g r n Q := by
  obtain ⟨hW, ⟨mw, emw, hmw6⟩, ⟨cw, ecw, hcw6⟩, ⟨fw, efw, hfw6⟩, ⟨kw, ekw, hkw0, hkw9⟩, ⟨tp, etp, htp5⟩, ⟨tw, etw, htw20⟩, ⟨vw, evw, hvw⟩, hkd, hz, hT0, hT1⟩ := k_need hx hv
  refine zz_aload_1 dL_law_360 ?_
  refine zz_aload_0 dL_law_361 ?_
  refine zz_iload_3 dL_law_362 ?_
  refine zz_iconst 1 dL_law_363 (by decide) ?_
  refine zz_iadd dL_law_364 ?_
  refine zz_sld hs (i + 1) (show nI i + 1 = nI (i + 1) from sx_i) (by omega) hL dL_law_365 ?_
  refine zz_aload_0 dL_law_366 ?_
  refine zz_iload_3 dL_law_367 ?_
  refine zz_iconst 2 dL_law_368 (by decide) ?_
  refine zz_iadd dL_law_369 ?_
  refine zz_sld hs (i + 2) (show nI i + 2 = nI (i + 2) from sx_i) (by omega) hL dL_law_370 ?_
  refine zz_callV2i cv_L_31 rfl (Nat.lt_of_lt_of_le (by decide) hx.nn) (Nat.le_of_ble_eq_true rfl) (by omega) (by omega) dL_law_371 (t_X11_become hx mw emw hmw6 fun g1 r1 n1 hx1 hk1 => ⟨_, rfl, ?_⟩)
  have hS1 : ms_S g1 = S := (ms_S_cg hk1).trans hS
  have h51 : ∀ j, g1 51 j = S 51 j := fun j => by rw [← hS1, ms_51]
  have xmw := (h51 2).trans emw
  refine zz_aload_2 dL_law_374 ?_
  refine zz_aload_0 dL_law_375 ?_
  refine zz_iload_3 dL_law_376 ?_
  refine zz_iconst 1 dL_law_377 (by decide) ?_
  refine zz_iadd dL_law_378 ?_
  refine zz_sld hs (i + 1) (show nI i + 1 = nI (i + 1) from sx_i) (by omega) hL dL_law_379 ?_
  refine zz_aload_0 dL_law_380 ?_
  refine zz_iload_3 dL_law_381 ?_
  refine zz_iconst 2 dL_law_382 (by decide) ?_
  refine zz_iadd dL_law_383 ?_
  refine zz_sld hs (i + 2) (show nI i + 2 = nI (i + 2) from sx_i) (by omega) hL dL_law_384 ?_
  refine zz_callV2i cv_L_34 rfl (Nat.lt_of_lt_of_le (by decide) hx1.nn) (Nat.le_of_ble_eq_true rfl) (by omega) (by omega) dL_law_385 (t_X12_become hx1.nn hx1.1 mw xmw hmw6 (ms_o.mk (sp := fun S => sp_become S (xs (i + 1)) (xs (i + 2))) hS1 fun g2 hF2 => ⟨_, rfl, ?_⟩))
  refine zz_icmp_eq 1348 dL_law_388 (by decide) (fun _ => ?_) (fun h => absurd rfl h)
  exact zz_widen (kc' := kc + 27) (ks' := ks + 302) (by omega) (by omega) (hZ _ _ _ _ (hx1.cm hF2.2) hF2.1 (iv_become hv))
set_option maxHeartbeats 1000000 in
theorem k_as {C : zz_C} {d n kc ks i j Ls : Nat} {xs : Nat → Int32} {S g : zz_G} {r : zz_R} {Q : zz_Q} (hs : zz_sx C Ls xs) (hi : i + 6 ≤ Ls) (hL : Ls ≤ 3072) (hc : kc + 27 ≤ 600000) (hk : ks + 302 ≤ 7302250) (hj : j < 9999) (hx : x_rel S g r n) (hS : ms_S g = S) (hv : iv S j) (hZ : ∀ S' g' r' n', x_rel S' g' r' n' → ms_S g' = S' → iv S' (j + 1) → zz_Z C mi_L (d + 60) 600000 7302250 (kc + 27) (ks + 302) 1348 [some (.ref (1000000 + 30)), some (.ref 0), some (.ref 50), some (.int (nI i))] [] g' r' n' Q) : zz_Z C mi_L (d + 60) 600000 7302250 kc ks 393 [some (.ref (1000000 + 30)), some (.ref 0), some (.ref 50), some (.int (nI i))] [] g r n Q := by
  obtain ⟨hW, ⟨mw, emw, hmw6⟩, ⟨cw, ecw, hcw6⟩, ⟨fw, efw, hfw6⟩, ⟨kw, ekw, hkw0, hkw9⟩, ⟨tp, etp, htp5⟩, ⟨tw, etw, htw20⟩, ⟨vw, evw, hvw⟩, hkd, hz, hT0, hT1⟩ := k_need hx hv
  refine zz_aload_1 dL_law_393 ?_
  refine zz_aload_0 dL_law_394 ?_
  refine zz_iload_3 dL_law_395 ?_
  refine zz_iconst 1 dL_law_396 (by decide) ?_
  refine zz_iadd dL_law_397 ?_
  refine zz_sld hs (i + 1) (show nI i + 1 = nI (i + 1) from sx_i) (by omega) hL dL_law_398 ?_
  refine zz_aload_0 dL_law_399 ?_
  refine zz_iload_3 dL_law_400 ?_
  refine zz_iconst 2 dL_law_401 (by decide) ?_
  refine zz_iadd dL_law_402 ?_
  refine zz_sld hs (i + 2) (show nI i + 2 = nI (i + 2) from sx_i) (by omega) hL dL_law_403 ?_
  refine zz_callV2i cv_L_35 rfl (Nat.lt_of_lt_of_le (by decide) hx.nn) (Nat.le_of_ble_eq_true rfl) (by omega) (by omega) dL_law_404 (t_X11_as hx mw emw hmw6 hkd fun g1 r1 n1 hx1 hk1 => ⟨_, rfl, ?_⟩)
  have hS1 : ms_S g1 = S := (ms_S_cg hk1).trans hS
  have h51 : ∀ j, g1 51 j = S 51 j := fun j => by rw [← hS1, ms_51]
  have xmw := (h51 2).trans emw
  have hkd1 : ∀ w : Nat, w < 6 → ∃ j : Nat, j < 7 ∧ g1 51 (16 + 5 * w) = nI j := fun w hw => by rw [h51]; exact hkd w hw
  refine zz_aload_2 dL_law_407 ?_
  refine zz_aload_0 dL_law_408 ?_
  refine zz_iload_3 dL_law_409 ?_
  refine zz_iconst 1 dL_law_410 (by decide) ?_
  refine zz_iadd dL_law_411 ?_
  refine zz_sld hs (i + 1) (show nI i + 1 = nI (i + 1) from sx_i) (by omega) hL dL_law_412 ?_
  refine zz_aload_0 dL_law_413 ?_
  refine zz_iload_3 dL_law_414 ?_
  refine zz_iconst 2 dL_law_415 (by decide) ?_
  refine zz_iadd dL_law_416 ?_
  refine zz_sld hs (i + 2) (show nI i + 2 = nI (i + 2) from sx_i) (by omega) hL dL_law_417 ?_
  refine zz_callV2i cv_L_38 rfl (Nat.lt_of_lt_of_le (by decide) hx1.nn) (Nat.le_of_ble_eq_true rfl) (by omega) (by omega) dL_law_418 (t_X12_as hx1.nn hx1.1 mw xmw hmw6 hkd1 (ms_o.mk (sp := fun S => sp_asT S (xs (i + 1)) (xs (i + 2))) hS1 fun g2 hF2 => ⟨_, rfl, ?_⟩))
  refine zz_icmp_eq 1348 dL_law_421 (by decide) (fun _ => ?_) (fun h => absurd rfl h)
  exact zz_widen (kc' := kc + 27) (ks' := ks + 302) (by omega) (by omega) (hZ _ _ _ _ (hx1.cm hF2.2) hF2.1 (iv_as hv))
set_option maxHeartbeats 1000000 in
theorem k_feed {C : zz_C} {d n kc ks i j Ls : Nat} {xs : Nat → Int32} {S g : zz_G} {r : zz_R} {Q : zz_Q} (hs : zz_sx C Ls xs) (hi : i + 6 ≤ Ls) (hL : Ls ≤ 3072) (hc : kc + 27 ≤ 600000) (hk : ks + 302 ≤ 7302250) (hj : j < 9999) (hx : x_rel S g r n) (hS : ms_S g = S) (hv : iv S j) (hZ : ∀ S' g' r' n', x_rel S' g' r' n' → ms_S g' = S' → iv S' (j + 1) → zz_Z C mi_L (d + 60) 600000 7302250 (kc + 27) (ks + 302) 1348 [some (.ref (1000000 + 30)), some (.ref 0), some (.ref 50), some (.int (nI i))] [] g' r' n' Q) : zz_Z C mi_L (d + 60) 600000 7302250 kc ks 426 [some (.ref (1000000 + 30)), some (.ref 0), some (.ref 50), some (.int (nI i))] [] g r n Q := by
  obtain ⟨hW, ⟨mw, emw, hmw6⟩, ⟨cw, ecw, hcw6⟩, ⟨fw, efw, hfw6⟩, ⟨kw, ekw, hkw0, hkw9⟩, ⟨tp, etp, htp5⟩, ⟨tw, etw, htw20⟩, ⟨vw, evw, hvw⟩, hkd, hz, hT0, hT1⟩ := k_need hx hv
  refine zz_aload_1 dL_law_426 ?_
  refine zz_aload_0 dL_law_427 ?_
  refine zz_iload_3 dL_law_428 ?_
  refine zz_iconst 1 dL_law_429 (by decide) ?_
  refine zz_iadd dL_law_430 ?_
  refine zz_sld hs (i + 1) (show nI i + 1 = nI (i + 1) from sx_i) (by omega) hL dL_law_431 ?_
  refine zz_i2l dL_law_432 ?_
  refine zz_bipush 32 dL_law_433 (by decide) ?_
  refine zz_lshl dL_law_435 ?_
  refine zz_aload_0 dL_law_436 ?_
  refine zz_iload_3 dL_law_437 ?_
  refine zz_iconst 2 dL_law_438 (by decide) ?_
  refine zz_iadd dL_law_439 ?_
  refine zz_sld hs (i + 2) (show nI i + 2 = nI (i + 2) from sx_i) (by omega) hL dL_law_440 ?_
  refine zz_i2l dL_law_441 ?_
  refine zz_ldc2 dL_law_442 ct_L_39 ?_
  refine zz_land dL_law_445 ?_
  refine zz_lor dL_law_446 ?_
  refine zz_aload_0 dL_law_447 ?_
  refine zz_iload_3 dL_law_448 ?_
  refine zz_iconst 3 dL_law_449 (by decide) ?_
  refine zz_iadd dL_law_450 ?_
  refine zz_sld hs (i + 3) (show nI i + 3 = nI (i + 3) from sx_i) (by omega) hL dL_law_451 ?_
  refine zz_callV2i cv_L_41 rfl (Nat.lt_of_lt_of_le (by decide) hx.nn) (Nat.le_of_ble_eq_true rfl) (by omega) (by omega) dL_law_452 (t_X11_feed hx tp etp htp5 fun g1 r1 n1 hx1 hk1 => ⟨_, rfl, ?_⟩)
  have hS1 : ms_S g1 = S := (ms_S_cg hk1).trans hS
  have h51 : ∀ j, g1 51 j = S 51 j := fun j => by rw [← hS1, ms_51]
  have xtp := (h51 3).trans etp
  refine zz_aload_2 dL_law_455 ?_
  refine zz_aload_0 dL_law_456 ?_
  refine zz_iload_3 dL_law_457 ?_
  refine zz_iconst 1 dL_law_458 (by decide) ?_
  refine zz_iadd dL_law_459 ?_
  refine zz_sld hs (i + 1) (show nI i + 1 = nI (i + 1) from sx_i) (by omega) hL dL_law_460 ?_
  refine zz_i2l dL_law_461 ?_
  refine zz_bipush 32 dL_law_462 (by decide) ?_
  refine zz_lshl dL_law_464 ?_
  refine zz_aload_0 dL_law_465 ?_
  refine zz_iload_3 dL_law_466 ?_
  refine zz_iconst 2 dL_law_467 (by decide) ?_
  refine zz_iadd dL_law_468 ?_
  refine zz_sld hs (i + 2) (show nI i + 2 = nI (i + 2) from sx_i) (by omega) hL dL_law_469 ?_
  refine zz_i2l dL_law_470 ?_
  refine zz_ldc2 dL_law_471 ct_L_39 ?_
  refine zz_land dL_law_474 ?_
  refine zz_lor dL_law_475 ?_
  refine zz_aload_0 dL_law_476 ?_
  refine zz_iload_3 dL_law_477 ?_
  refine zz_iconst 3 dL_law_478 (by decide) ?_
  refine zz_iadd dL_law_479 ?_
  refine zz_sld hs (i + 3) (show nI i + 3 = nI (i + 3) from sx_i) (by omega) hL dL_law_480 ?_
  refine zz_callV2i cv_L_45 rfl (Nat.lt_of_lt_of_le (by decide) hx1.nn) (Nat.le_of_ble_eq_true rfl) (by omega) (by omega) dL_law_481 (t_X12_feed hx1.nn hx1.1 tp xtp htp5 (ms_o.mk (sp := fun S => sp_feed S (((xs (i + 1)).toInt64 <<< ((32 : Int32).toInt64 &&& 63)) ||| ((xs (i + 2)).toInt64 &&& (4294967295 : Int64))) (xs (i + 3))) hS1 fun g2 hF2 => ⟨_, rfl, ?_⟩))
  refine zz_icmp_eq 1348 dL_law_484 (by decide) (fun _ => ?_) (fun h => absurd rfl h)
  exact zz_widen (kc' := kc + 27) (ks' := ks + 302) (by omega) (by omega) (hZ _ _ _ _ (hx1.cm hF2.2) hF2.1 (iv_feed hv))
set_option maxHeartbeats 1000000 in
theorem k_text {C : zz_C} {d n kc ks i j Ls : Nat} {xs : Nat → Int32} {S g : zz_G} {r : zz_R} {Q : zz_Q} (hs : zz_sx C Ls xs) (hi : i + 6 ≤ Ls) (hL : Ls ≤ 3072) (hc : kc + 27 ≤ 600000) (hk : ks + 302 ≤ 7302250) (hj : j < 9999) (hx : x_rel S g r n) (hS : ms_S g = S) (hv : iv S j) (hZ : ∀ S' g' r' n', x_rel S' g' r' n' → ms_S g' = S' → iv S' (j + 1) → zz_Z C mi_L (d + 60) 600000 7302250 (kc + 27) (ks + 302) 1348 [some (.ref (1000000 + 30)), some (.ref 0), some (.ref 50), some (.int (nI i))] [] g' r' n' Q) : zz_Z C mi_L (d + 60) 600000 7302250 kc ks 489 [some (.ref (1000000 + 30)), some (.ref 0), some (.ref 50), some (.int (nI i))] [] g r n Q := by
  obtain ⟨hW, ⟨mw, emw, hmw6⟩, ⟨cw, ecw, hcw6⟩, ⟨fw, efw, hfw6⟩, ⟨kw, ekw, hkw0, hkw9⟩, ⟨tp, etp, htp5⟩, ⟨tw, etw, htw20⟩, ⟨vw, evw, hvw⟩, hkd, hz, hT0, hT1⟩ := k_need hx hv
  refine zz_aload_1 dL_law_489 ?_
  refine zz_aload_0 dL_law_490 ?_
  refine zz_iload_3 dL_law_491 ?_
  refine zz_iconst 1 dL_law_492 (by decide) ?_
  refine zz_iadd dL_law_493 ?_
  refine zz_sld hs (i + 1) (show nI i + 1 = nI (i + 1) from sx_i) (by omega) hL dL_law_494 ?_
  refine zz_callV1i cv_L_46 rfl (Nat.lt_of_lt_of_le (by decide) hx.nn) (Nat.le_of_ble_eq_true rfl) (by omega) (by omega) dL_law_495 (t_X11_text hx hW fun g1 r1 n1 hx1 hk1 => ⟨_, rfl, ?_⟩)
  have hS1 : ms_S g1 = S := (ms_S_cg hk1).trans hS
  have h51 : ∀ j, g1 51 j = S 51 j := fun j => by rw [← hS1, ms_51]
  have xtp := (h51 3).trans etp
  refine zz_aload_2 dL_law_498 ?_
  refine zz_aload_0 dL_law_499 ?_
  refine zz_iload_3 dL_law_500 ?_
  refine zz_iconst 1 dL_law_501 (by decide) ?_
  refine zz_iadd dL_law_502 ?_
  refine zz_sld hs (i + 1) (show nI i + 1 = nI (i + 1) from sx_i) (by omega) hL dL_law_503 ?_
  refine zz_callV1i cv_L_50 rfl (Nat.lt_of_lt_of_le (by decide) hx1.nn) (Nat.le_of_ble_eq_true rfl) (by omega) (by omega) dL_law_504 (t_X12_text hx1.nn hx1.1 tp xtp htp5 (ms_o.mk (sp := fun S => sp_text S (xs (i + 1))) hS1 fun g2 hF2 => ⟨_, rfl, ?_⟩))
  refine zz_icmp_eq 1348 dL_law_507 (by decide) (fun _ => ?_) (fun h => absurd rfl h)
  exact zz_widen (kc' := kc + 27) (ks' := ks + 302) (by omega) (by omega) (hZ _ _ _ _ (hx1.cm hF2.2) hF2.1 (iv_text hv))
set_option maxHeartbeats 1000000 in
theorem k_law {C : zz_C} {d n kc ks i j Ls : Nat} {xs : Nat → Int32} {S g : zz_G} {r : zz_R} {Q : zz_Q} (hs : zz_sx C Ls xs) (hi : i + 6 ≤ Ls) (hL : Ls ≤ 3072) (hc : kc + 27 ≤ 600000) (hk : ks + 302 ≤ 7302250) (hj : j < 9999) (hx : x_rel S g r n) (hS : ms_S g = S) (hv : iv S j) (hZ : ∀ S' g' r' n', x_rel S' g' r' n' → ms_S g' = S' → iv S' (j + 1) → zz_Z C mi_L (d + 60) 600000 7302250 (kc + 27) (ks + 302) 1348 [some (.ref (1000000 + 30)), some (.ref 0), some (.ref 50), some (.int (nI i))] [] g' r' n' Q) : zz_Z C mi_L (d + 60) 600000 7302250 kc ks 512 [some (.ref (1000000 + 30)), some (.ref 0), some (.ref 50), some (.int (nI i))] [] g r n Q := by
  obtain ⟨hW, ⟨mw, emw, hmw6⟩, ⟨cw, ecw, hcw6⟩, ⟨fw, efw, hfw6⟩, ⟨kw, ekw, hkw0, hkw9⟩, ⟨tp, etp, htp5⟩, ⟨tw, etw, htw20⟩, ⟨vw, evw, hvw⟩, hkd, hz, hT0, hT1⟩ := k_need hx hv
  refine zz_aload_1 dL_law_512 ?_
  refine zz_aload_0 dL_law_513 ?_
  refine zz_iload_3 dL_law_514 ?_
  refine zz_iconst 1 dL_law_515 (by decide) ?_
  refine zz_iadd dL_law_516 ?_
  refine zz_sld hs (i + 1) (show nI i + 1 = nI (i + 1) from sx_i) (by omega) hL dL_law_517 ?_
  refine zz_aload_0 dL_law_518 ?_
  refine zz_iload_3 dL_law_519 ?_
  refine zz_iconst 2 dL_law_520 (by decide) ?_
  refine zz_iadd dL_law_521 ?_
  refine zz_sld hs (i + 2) (show nI i + 2 = nI (i + 2) from sx_i) (by omega) hL dL_law_522 ?_
  refine zz_aload_0 dL_law_523 ?_
  refine zz_iload_3 dL_law_524 ?_
  refine zz_iconst 3 dL_law_525 (by decide) ?_
  refine zz_iadd dL_law_526 ?_
  refine zz_sld hs (i + 3) (show nI i + 3 = nI (i + 3) from sx_i) (by omega) hL dL_law_527 ?_
  refine zz_aload_0 dL_law_528 ?_
  refine zz_iload_3 dL_law_529 ?_
  refine zz_iconst 4 dL_law_530 (by decide) ?_
  refine zz_iadd dL_law_531 ?_
  refine zz_sld hs (i + 4) (show nI i + 4 = nI (i + 4) from sx_i) (by omega) hL dL_law_532 ?_
  refine zz_callV4i cv_L_51 rfl (Nat.lt_of_lt_of_le (by decide) hx.nn) (Nat.le_of_ble_eq_true rfl) (by omega) (by omega) dL_law_533 (t_X11_law hx  fun g1 r1 n1 hx1 hk1 => ⟨_, rfl, ?_⟩)
  have hS1 : ms_S g1 = S := (ms_S_cg hk1).trans hS
  have h51 : ∀ j, g1 51 j = S 51 j := fun j => by rw [← hS1, ms_51]
  have f51 : g1 51 = S 51 := funext h51
  rw [← f51] at hT0
  rw [← f51] at hT1
  refine zz_aload_2 dL_law_536 ?_
  refine zz_aload_0 dL_law_537 ?_
  refine zz_iload_3 dL_law_538 ?_
  refine zz_iconst 1 dL_law_539 (by decide) ?_
  refine zz_iadd dL_law_540 ?_
  refine zz_sld hs (i + 1) (show nI i + 1 = nI (i + 1) from sx_i) (by omega) hL dL_law_541 ?_
  refine zz_aload_0 dL_law_542 ?_
  refine zz_iload_3 dL_law_543 ?_
  refine zz_iconst 2 dL_law_544 (by decide) ?_
  refine zz_iadd dL_law_545 ?_
  refine zz_sld hs (i + 2) (show nI i + 2 = nI (i + 2) from sx_i) (by omega) hL dL_law_546 ?_
  refine zz_aload_0 dL_law_547 ?_
  refine zz_iload_3 dL_law_548 ?_
  refine zz_iconst 3 dL_law_549 (by decide) ?_
  refine zz_iadd dL_law_550 ?_
  refine zz_sld hs (i + 3) (show nI i + 3 = nI (i + 3) from sx_i) (by omega) hL dL_law_551 ?_
  refine zz_aload_0 dL_law_552 ?_
  refine zz_iload_3 dL_law_553 ?_
  refine zz_iconst 4 dL_law_554 (by decide) ?_
  refine zz_iadd dL_law_555 ?_
  refine zz_sld hs (i + 4) (show nI i + 4 = nI (i + 4) from sx_i) (by omega) hL dL_law_556 ?_
  refine zz_callV4i cv_L_55 rfl (Nat.lt_of_lt_of_le (by decide) hx1.nn) (Nat.le_of_ble_eq_true rfl) (by omega) (by omega) dL_law_557 (t_X12_law hx1.nn hx1.1 hT0 hT1 (ms_o.mk (sp := fun S => sp_lawT S (xs (i + 1)) (xs (i + 2)) (xs (i + 3)) (xs (i + 4))) hS1 fun g2 hF2 => ⟨_, rfl, ?_⟩))
  refine zz_icmp_eq 1348 dL_law_560 (by decide) (fun _ => ?_) (fun h => absurd rfl h)
  exact zz_widen (kc' := kc + 27) (ks' := ks + 302) (by omega) (by omega) (hZ _ _ _ _ (hx1.cm hF2.2) hF2.1 (iv_law hv))
set_option maxHeartbeats 1000000 in
theorem k_ask {C : zz_C} {d n kc ks i j Ls : Nat} {xs : Nat → Int32} {S g : zz_G} {r : zz_R} {Q : zz_Q} (hs : zz_sx C Ls xs) (hi : i + 6 ≤ Ls) (hL : Ls ≤ 3072) (hc : kc + 27 ≤ 600000) (hk : ks + 302 ≤ 7302250) (hj : j < 9999) (hx : x_rel S g r n) (hS : ms_S g = S) (hv : iv S j) (hZ : ∀ S' g' r' n', x_rel S' g' r' n' → ms_S g' = S' → iv S' (j + 1) → zz_Z C mi_L (d + 60) 600000 7302250 (kc + 27) (ks + 302) 1348 [some (.ref (1000000 + 30)), some (.ref 0), some (.ref 50), some (.int (nI i))] [] g' r' n' Q) : zz_Z C mi_L (d + 60) 600000 7302250 kc ks 565 [some (.ref (1000000 + 30)), some (.ref 0), some (.ref 50), some (.int (nI i))] [] g r n Q := by
  obtain ⟨hW, ⟨mw, emw, hmw6⟩, ⟨cw, ecw, hcw6⟩, ⟨fw, efw, hfw6⟩, ⟨kw, ekw, hkw0, hkw9⟩, ⟨tp, etp, htp5⟩, ⟨tw, etw, htw20⟩, ⟨vw, evw, hvw⟩, hkd, hz, hT0, hT1⟩ := k_need hx hv
  refine zz_aload_1 dL_law_565 ?_
  refine zz_aload_0 dL_law_566 ?_
  refine zz_iload_3 dL_law_567 ?_
  refine zz_iconst 1 dL_law_568 (by decide) ?_
  refine zz_iadd dL_law_569 ?_
  refine zz_sld hs (i + 1) (show nI i + 1 = nI (i + 1) from sx_i) (by omega) hL dL_law_570 ?_
  refine zz_callV1i cv_L_56 rfl (Nat.lt_of_lt_of_le (by decide) hx.nn) (Nat.le_of_ble_eq_true rfl) (by omega) (by omega) dL_law_571 (t_X11_ask hx hW mw emw hmw6 cw ecw hcw6 fun g1 r1 n1 hx1 hk1 => ⟨_, rfl, ?_⟩)
  have hS1 : ms_S g1 = S := (ms_S_cg hk1).trans hS
  have h51 : ∀ j, g1 51 j = S 51 j := fun j => by rw [← hS1, ms_51]
  have xmw := (h51 2).trans emw
  have xcw := (h51 7).trans ecw
  have xfw := (h51 8).trans efw
  have f51 : g1 51 = S 51 := funext h51
  rw [← f51] at hT0
  refine zz_aload_2 dL_law_574 ?_
  refine zz_aload_0 dL_law_575 ?_
  refine zz_iload_3 dL_law_576 ?_
  refine zz_iconst 1 dL_law_577 (by decide) ?_
  refine zz_iadd dL_law_578 ?_
  refine zz_sld hs (i + 1) (show nI i + 1 = nI (i + 1) from sx_i) (by omega) hL dL_law_579 ?_
  refine zz_callV1i cv_L_59 rfl (Nat.lt_of_lt_of_le (by decide) hx1.nn) (Nat.le_of_ble_eq_true rfl) (by omega) (by omega) dL_law_580 (t_X12_ask hx1.nn hx1.1 mw xmw hmw6 cw xcw hcw6 fw xfw hfw6 hT0 (ms_o.mk (sp := fun S => sp_ask S (xs (i + 1))) hS1 fun g2 hF2 => ⟨_, rfl, ?_⟩))
  refine zz_icmp_eq 1348 dL_law_583 (by decide) (fun _ => ?_) (fun h => absurd rfl h)
  exact zz_widen (kc' := kc + 27) (ks' := ks + 302) (by omega) (by omega) (hZ _ _ _ _ (hx1.cm hF2.2) hF2.1 (iv_ask hv))
set_option maxHeartbeats 1000000 in
theorem k_ofCode {C : zz_C} {d n kc ks i j Ls : Nat} {xs : Nat → Int32} {S g : zz_G} {r : zz_R} {Q : zz_Q} (hs : zz_sx C Ls xs) (hi : i + 6 ≤ Ls) (hL : Ls ≤ 3072) (hc : kc + 27 ≤ 600000) (hk : ks + 302 ≤ 7302250) (hj : j < 9999) (hx : x_rel S g r n) (hS : ms_S g = S) (hv : iv S j) (hZ : ∀ S' g' r' n', x_rel S' g' r' n' → ms_S g' = S' → iv S' (j + 1) → zz_Z C mi_L (d + 60) 600000 7302250 (kc + 27) (ks + 302) 1348 [some (.ref (1000000 + 30)), some (.ref 0), some (.ref 50), some (.int (nI i))] [] g' r' n' Q) : zz_Z C mi_L (d + 60) 600000 7302250 kc ks 588 [some (.ref (1000000 + 30)), some (.ref 0), some (.ref 50), some (.int (nI i))] [] g r n Q := by
  obtain ⟨hW, ⟨mw, emw, hmw6⟩, ⟨cw, ecw, hcw6⟩, ⟨fw, efw, hfw6⟩, ⟨kw, ekw, hkw0, hkw9⟩, ⟨tp, etp, htp5⟩, ⟨tw, etw, htw20⟩, ⟨vw, evw, hvw⟩, hkd, hz, hT0, hT1⟩ := k_need hx hv
  refine zz_aload_1 dL_law_588 ?_
  refine zz_aload_0 dL_law_589 ?_
  refine zz_iload_3 dL_law_590 ?_
  refine zz_iconst 1 dL_law_591 (by decide) ?_
  refine zz_iadd dL_law_592 ?_
  refine zz_sld hs (i + 1) (show nI i + 1 = nI (i + 1) from sx_i) (by omega) hL dL_law_593 ?_
  refine zz_aload_0 dL_law_594 ?_
  refine zz_iload_3 dL_law_595 ?_
  refine zz_iconst 2 dL_law_596 (by decide) ?_
  refine zz_iadd dL_law_597 ?_
  refine zz_sld hs (i + 2) (show nI i + 2 = nI (i + 2) from sx_i) (by omega) hL dL_law_598 ?_
  refine zz_callV2i cv_L_60 rfl (Nat.lt_of_lt_of_le (by decide) hx.nn) (Nat.le_of_ble_eq_true rfl) (by omega) (by omega) dL_law_599 (t_X11_ofCode hx cw ecw hcw6 fun g1 r1 n1 hx1 hk1 => ⟨_, rfl, ?_⟩)
  have hS1 : ms_S g1 = S := (ms_S_cg hk1).trans hS
  have h51 : ∀ j, g1 51 j = S 51 j := fun j => by rw [← hS1, ms_51]
  have xcw := (h51 7).trans ecw
  refine zz_aload_2 dL_law_602 ?_
  refine zz_aload_0 dL_law_603 ?_
  refine zz_iload_3 dL_law_604 ?_
  refine zz_iconst 1 dL_law_605 (by decide) ?_
  refine zz_iadd dL_law_606 ?_
  refine zz_sld hs (i + 1) (show nI i + 1 = nI (i + 1) from sx_i) (by omega) hL dL_law_607 ?_
  refine zz_aload_0 dL_law_608 ?_
  refine zz_iload_3 dL_law_609 ?_
  refine zz_iconst 2 dL_law_610 (by decide) ?_
  refine zz_iadd dL_law_611 ?_
  refine zz_sld hs (i + 2) (show nI i + 2 = nI (i + 2) from sx_i) (by omega) hL dL_law_612 ?_
  refine zz_callV2i cv_L_63 rfl (Nat.lt_of_lt_of_le (by decide) hx1.nn) (Nat.le_of_ble_eq_true rfl) (by omega) (by omega) dL_law_613 (t_X12_ofCode hx1.nn hx1.1 cw xcw hcw6 (ms_o.mk (sp := fun S => sp_ofCode S (xs (i + 1)) (xs (i + 2))) hS1 fun g2 hF2 => ⟨_, rfl, ?_⟩))
  refine zz_icmp_eq 1348 dL_law_616 (by decide) (fun _ => ?_) (fun h => absurd rfl h)
  exact zz_widen (kc' := kc + 27) (ks' := ks + 302) (by omega) (by omega) (hZ _ _ _ _ (hx1.cm hF2.2) hF2.1 (iv_ofCode hv))
set_option maxHeartbeats 1000000 in
theorem k_enter {C : zz_C} {d n kc ks i j Ls : Nat} {xs : Nat → Int32} {S g : zz_G} {r : zz_R} {Q : zz_Q} (hs : zz_sx C Ls xs) (hi : i + 6 ≤ Ls) (hL : Ls ≤ 3072) (hc : kc + 27 ≤ 600000) (hk : ks + 302 ≤ 7302250) (hj : j < 9999) (hx : x_rel S g r n) (hS : ms_S g = S) (hv : iv S j) (hZ : ∀ S' g' r' n', x_rel S' g' r' n' → ms_S g' = S' → iv S' (j + 1) → zz_Z C mi_L (d + 60) 600000 7302250 (kc + 27) (ks + 302) 1348 [some (.ref (1000000 + 30)), some (.ref 0), some (.ref 50), some (.int (nI i))] [] g' r' n' Q) : zz_Z C mi_L (d + 60) 600000 7302250 kc ks 621 [some (.ref (1000000 + 30)), some (.ref 0), some (.ref 50), some (.int (nI i))] [] g r n Q := by
  obtain ⟨hW, ⟨mw, emw, hmw6⟩, ⟨cw, ecw, hcw6⟩, ⟨fw, efw, hfw6⟩, ⟨kw, ekw, hkw0, hkw9⟩, ⟨tp, etp, htp5⟩, ⟨tw, etw, htw20⟩, ⟨vw, evw, hvw⟩, hkd, hz, hT0, hT1⟩ := k_need hx hv
  have hin : ∃ m : Nat, m < 9999 ∧ S 51 15 = nI m := by
    obtain ⟨q, hq, eq⟩ := hv.2.2.2.1
    exact ⟨q, by omega, eq⟩
  refine zz_aload_1 dL_law_621 ?_
  refine zz_aload_0 dL_law_622 ?_
  refine zz_iload_3 dL_law_623 ?_
  refine zz_iconst 1 dL_law_624 (by decide) ?_
  refine zz_iadd dL_law_625 ?_
  refine zz_sld hs (i + 1) (show nI i + 1 = nI (i + 1) from sx_i) (by omega) hL dL_law_626 ?_
  refine zz_callV1i cv_L_64 rfl (Nat.lt_of_lt_of_le (by decide) hx.nn) (Nat.le_of_ble_eq_true rfl) (by omega) (by omega) dL_law_627 (t_X11_enter hx cw ecw hcw6 hin fun g1 r1 n1 hx1 hk1 => ⟨_, rfl, ?_⟩)
  have hS1 : ms_S g1 = S := (ms_S_cg hk1).trans hS
  have h51 : ∀ j, g1 51 j = S 51 j := fun j => by rw [← hS1, ms_51]
  have xcw := (h51 7).trans ecw
  refine zz_aload_2 dL_law_630 ?_
  refine zz_aload_0 dL_law_631 ?_
  refine zz_iload_3 dL_law_632 ?_
  refine zz_iconst 1 dL_law_633 (by decide) ?_
  refine zz_iadd dL_law_634 ?_
  refine zz_sld hs (i + 1) (show nI i + 1 = nI (i + 1) from sx_i) (by omega) hL dL_law_635 ?_
  refine zz_callV1i cv_L_67 rfl (Nat.lt_of_lt_of_le (by decide) hx1.nn) (Nat.le_of_ble_eq_true rfl) (by omega) (by omega) dL_law_636 (t_X12_enter hx1.nn hx1.1 cw xcw hcw6 (ms_o.mk (sp := fun S => sp_enter S (xs (i + 1))) hS1 fun g2 hF2 => ⟨_, rfl, ?_⟩))
  refine zz_icmp_eq 1348 dL_law_639 (by decide) (fun _ => ?_) (fun h => absurd rfl h)
  exact zz_widen (kc' := kc + 27) (ks' := ks + 302) (by omega) (by omega) (hZ _ _ _ _ (hx1.cm hF2.2) hF2.1 (iv_enter hv hj))
set_option maxHeartbeats 1000000 in
theorem k_pass {C : zz_C} {d n kc ks i j Ls : Nat} {xs : Nat → Int32} {S g : zz_G} {r : zz_R} {Q : zz_Q} (hs : zz_sx C Ls xs) (hi : i + 6 ≤ Ls) (hL : Ls ≤ 3072) (hc : kc + 27 ≤ 600000) (hk : ks + 302 ≤ 7302250) (hj : j < 9999) (hx : x_rel S g r n) (hS : ms_S g = S) (hv : iv S j) (hZ : ∀ S' g' r' n', x_rel S' g' r' n' → ms_S g' = S' → iv S' (j + 1) → zz_Z C mi_L (d + 60) 600000 7302250 (kc + 27) (ks + 302) 1348 [some (.ref (1000000 + 30)), some (.ref 0), some (.ref 50), some (.int (nI i))] [] g' r' n' Q) : zz_Z C mi_L (d + 60) 600000 7302250 kc ks 644 [some (.ref (1000000 + 30)), some (.ref 0), some (.ref 50), some (.int (nI i))] [] g r n Q := by
  obtain ⟨hW, ⟨mw, emw, hmw6⟩, ⟨cw, ecw, hcw6⟩, ⟨fw, efw, hfw6⟩, ⟨kw, ekw, hkw0, hkw9⟩, ⟨tp, etp, htp5⟩, ⟨tw, etw, htw20⟩, ⟨vw, evw, hvw⟩, hkd, hz, hT0, hT1⟩ := k_need hx hv
  refine zz_aload_1 dL_law_644 ?_
  refine zz_aload_0 dL_law_645 ?_
  refine zz_iload_3 dL_law_646 ?_
  refine zz_iconst 1 dL_law_647 (by decide) ?_
  refine zz_iadd dL_law_648 ?_
  refine zz_sld hs (i + 1) (show nI i + 1 = nI (i + 1) from sx_i) (by omega) hL dL_law_649 ?_
  refine zz_callV1i cv_L_68 rfl (Nat.lt_of_lt_of_le (by decide) hx.nn) (Nat.le_of_ble_eq_true rfl) (by omega) (by omega) dL_law_650 (t_X11_pass hx  fun g1 r1 n1 hx1 hk1 => ⟨_, rfl, ?_⟩)
  have hS1 : ms_S g1 = S := (ms_S_cg hk1).trans hS
  have h51 : ∀ j, g1 51 j = S 51 j := fun j => by rw [← hS1, ms_51]
  refine zz_aload_2 dL_law_653 ?_
  refine zz_aload_0 dL_law_654 ?_
  refine zz_iload_3 dL_law_655 ?_
  refine zz_iconst 1 dL_law_656 (by decide) ?_
  refine zz_iadd dL_law_657 ?_
  refine zz_sld hs (i + 1) (show nI i + 1 = nI (i + 1) from sx_i) (by omega) hL dL_law_658 ?_
  refine zz_callV1i cv_L_71 rfl (Nat.lt_of_lt_of_le (by decide) hx1.nn) (Nat.le_of_ble_eq_true rfl) (by omega) (by omega) dL_law_659 (t_X12_pass hx1.nn hx1.1  (ms_o.mk (sp := fun S => sp_pass S (xs (i + 1))) hS1 fun g2 hF2 => ⟨_, rfl, ?_⟩))
  refine zz_icmp_eq 1348 dL_law_662 (by decide) (fun _ => ?_) (fun h => absurd rfl h)
  exact zz_widen (kc' := kc + 27) (ks' := ks + 302) (by omega) (by omega) (hZ _ _ _ _ (hx1.cm hF2.2) hF2.1 (iv_pass hv))
set_option maxHeartbeats 1000000 in
theorem k_loose {C : zz_C} {d n kc ks i j Ls : Nat} {xs : Nat → Int32} {S g : zz_G} {r : zz_R} {Q : zz_Q} (hs : zz_sx C Ls xs) (hi : i + 6 ≤ Ls) (hL : Ls ≤ 3072) (hc : kc + 27 ≤ 600000) (hk : ks + 302 ≤ 7302250) (hj : j < 9999) (hx : x_rel S g r n) (hS : ms_S g = S) (hv : iv S j) (hZ : ∀ S' g' r' n', x_rel S' g' r' n' → ms_S g' = S' → iv S' (j + 1) → zz_Z C mi_L (d + 60) 600000 7302250 (kc + 27) (ks + 302) 1348 [some (.ref (1000000 + 30)), some (.ref 0), some (.ref 50), some (.int (nI i))] [] g' r' n' Q) : zz_Z C mi_L (d + 60) 600000 7302250 kc ks 667 [some (.ref (1000000 + 30)), some (.ref 0), some (.ref 50), some (.int (nI i))] [] g r n Q := by
  obtain ⟨hW, ⟨mw, emw, hmw6⟩, ⟨cw, ecw, hcw6⟩, ⟨fw, efw, hfw6⟩, ⟨kw, ekw, hkw0, hkw9⟩, ⟨tp, etp, htp5⟩, ⟨tw, etw, htw20⟩, ⟨vw, evw, hvw⟩, hkd, hz, hT0, hT1⟩ := k_need hx hv
  refine zz_aload_1 dL_law_667 ?_
  refine zz_aload_0 dL_law_668 ?_
  refine zz_iload_3 dL_law_669 ?_
  refine zz_iconst 1 dL_law_670 (by decide) ?_
  refine zz_iadd dL_law_671 ?_
  refine zz_sld hs (i + 1) (show nI i + 1 = nI (i + 1) from sx_i) (by omega) hL dL_law_672 ?_
  refine zz_callV1i cv_L_72 rfl (Nat.lt_of_lt_of_le (by decide) hx.nn) (Nat.le_of_ble_eq_true rfl) (by omega) (by omega) dL_law_673 (t_X11_loose hx hW mw emw hmw6 cw ecw hcw6 fun g1 r1 n1 hx1 hk1 => ⟨_, rfl, ?_⟩)
  have hS1 : ms_S g1 = S := (ms_S_cg hk1).trans hS
  have h51 : ∀ j, g1 51 j = S 51 j := fun j => by rw [← hS1, ms_51]
  have xmw := (h51 2).trans emw
  have xcw := (h51 7).trans ecw
  have xfw := (h51 8).trans efw
  have f51 : g1 51 = S 51 := funext h51
  rw [← f51] at hT0
  refine zz_aload_2 dL_law_676 ?_
  refine zz_aload_0 dL_law_677 ?_
  refine zz_iload_3 dL_law_678 ?_
  refine zz_iconst 1 dL_law_679 (by decide) ?_
  refine zz_iadd dL_law_680 ?_
  refine zz_sld hs (i + 1) (show nI i + 1 = nI (i + 1) from sx_i) (by omega) hL dL_law_681 ?_
  refine zz_callV1i cv_L_75 rfl (Nat.lt_of_lt_of_le (by decide) hx1.nn) (Nat.le_of_ble_eq_true rfl) (by omega) (by omega) dL_law_682 (t_X12_loose hx1.nn hx1.1 mw xmw hmw6 cw xcw hcw6 fw xfw hfw6 hT0 (ms_o.mk (sp := fun S => sp_loose S (xs (i + 1))) hS1 fun g2 hF2 => ⟨_, rfl, ?_⟩))
  refine zz_icmp_eq 1348 dL_law_685 (by decide) (fun _ => ?_) (fun h => absurd rfl h)
  exact zz_widen (kc' := kc + 27) (ks' := ks + 302) (by omega) (by omega) (hZ _ _ _ _ (hx1.cm hF2.2) hF2.1 (iv_loose hv))
set_option maxHeartbeats 1000000 in
theorem k_fetched {C : zz_C} {d n kc ks i j Ls : Nat} {xs : Nat → Int32} {S g : zz_G} {r : zz_R} {Q : zz_Q} (hs : zz_sx C Ls xs) (hi : i + 6 ≤ Ls) (hL : Ls ≤ 3072) (hc : kc + 27 ≤ 600000) (hk : ks + 302 ≤ 7302250) (hj : j < 9999) (hx : x_rel S g r n) (hS : ms_S g = S) (hv : iv S j) (hZ : ∀ S' g' r' n', x_rel S' g' r' n' → ms_S g' = S' → iv S' (j + 1) → zz_Z C mi_L (d + 60) 600000 7302250 (kc + 27) (ks + 302) 1348 [some (.ref (1000000 + 30)), some (.ref 0), some (.ref 50), some (.int (nI i))] [] g' r' n' Q) : zz_Z C mi_L (d + 60) 600000 7302250 kc ks 690 [some (.ref (1000000 + 30)), some (.ref 0), some (.ref 50), some (.int (nI i))] [] g r n Q := by
  obtain ⟨hW, ⟨mw, emw, hmw6⟩, ⟨cw, ecw, hcw6⟩, ⟨fw, efw, hfw6⟩, ⟨kw, ekw, hkw0, hkw9⟩, ⟨tp, etp, htp5⟩, ⟨tw, etw, htw20⟩, ⟨vw, evw, hvw⟩, hkd, hz, hT0, hT1⟩ := k_need hx hv
  refine zz_aload_1 dL_law_690 ?_
  refine zz_aload_0 dL_law_691 ?_
  refine zz_iload_3 dL_law_692 ?_
  refine zz_iconst 1 dL_law_693 (by decide) ?_
  refine zz_iadd dL_law_694 ?_
  refine zz_sld hs (i + 1) (show nI i + 1 = nI (i + 1) from sx_i) (by omega) hL dL_law_695 ?_
  refine zz_aload_0 dL_law_696 ?_
  refine zz_iload_3 dL_law_697 ?_
  refine zz_iconst 2 dL_law_698 (by decide) ?_
  refine zz_iadd dL_law_699 ?_
  refine zz_sld hs (i + 2) (show nI i + 2 = nI (i + 2) from sx_i) (by omega) hL dL_law_700 ?_
  refine zz_callV2i cv_L_76 rfl (Nat.lt_of_lt_of_le (by decide) hx.nn) (Nat.le_of_ble_eq_true rfl) (by omega) (by omega) dL_law_701 (t_X11_fetched hx mw emw hmw6 hW fun g1 r1 n1 hx1 hk1 => ⟨_, rfl, ?_⟩)
  have hS1 : ms_S g1 = S := (ms_S_cg hk1).trans hS
  have h51 : ∀ j, g1 51 j = S 51 j := fun j => by rw [← hS1, ms_51]
  have xmw := (h51 2).trans emw
  have f51 : g1 51 = S 51 := funext h51
  rw [← f51] at hT0
  rw [← f51] at hT1
  refine zz_aload_2 dL_law_704 ?_
  refine zz_aload_0 dL_law_705 ?_
  refine zz_iload_3 dL_law_706 ?_
  refine zz_iconst 1 dL_law_707 (by decide) ?_
  refine zz_iadd dL_law_708 ?_
  refine zz_sld hs (i + 1) (show nI i + 1 = nI (i + 1) from sx_i) (by omega) hL dL_law_709 ?_
  refine zz_aload_0 dL_law_710 ?_
  refine zz_iload_3 dL_law_711 ?_
  refine zz_iconst 2 dL_law_712 (by decide) ?_
  refine zz_iadd dL_law_713 ?_
  refine zz_sld hs (i + 2) (show nI i + 2 = nI (i + 2) from sx_i) (by omega) hL dL_law_714 ?_
  refine zz_callV2i cv_L_79 rfl (Nat.lt_of_lt_of_le (by decide) hx1.nn) (Nat.le_of_ble_eq_true rfl) (by omega) (by omega) dL_law_715 (t_X12_fetched hx1.nn hx1.1 mw xmw hmw6 hT0 hT1 (ms_o.mk (sp := fun S => sp_fetched S (xs (i + 1)) (xs (i + 2))) hS1 fun g2 hF2 => ⟨_, rfl, ?_⟩))
  refine zz_icmp_eq 1348 dL_law_718 (by decide) (fun _ => ?_) (fun h => absurd rfl h)
  exact zz_widen (kc' := kc + 27) (ks' := ks + 302) (by omega) (by omega) (hZ _ _ _ _ (hx1.cm hF2.2) hF2.1 (iv_fetched hv))
set_option maxHeartbeats 1000000 in
theorem k_holdFor {C : zz_C} {d n kc ks i j Ls : Nat} {xs : Nat → Int32} {S g : zz_G} {r : zz_R} {Q : zz_Q} (hs : zz_sx C Ls xs) (hi : i + 6 ≤ Ls) (hL : Ls ≤ 3072) (hc : kc + 27 ≤ 600000) (hk : ks + 302 ≤ 7302250) (hj : j < 9999) (hx : x_rel S g r n) (hS : ms_S g = S) (hv : iv S j) (hZ : ∀ S' g' r' n', x_rel S' g' r' n' → ms_S g' = S' → iv S' (j + 1) → zz_Z C mi_L (d + 60) 600000 7302250 (kc + 27) (ks + 302) 1348 [some (.ref (1000000 + 30)), some (.ref 0), some (.ref 50), some (.int (nI i))] [] g' r' n' Q) : zz_Z C mi_L (d + 60) 600000 7302250 kc ks 723 [some (.ref (1000000 + 30)), some (.ref 0), some (.ref 50), some (.int (nI i))] [] g r n Q := by
  obtain ⟨hW, ⟨mw, emw, hmw6⟩, ⟨cw, ecw, hcw6⟩, ⟨fw, efw, hfw6⟩, ⟨kw, ekw, hkw0, hkw9⟩, ⟨tp, etp, htp5⟩, ⟨tw, etw, htw20⟩, ⟨vw, evw, hvw⟩, hkd, hz, hT0, hT1⟩ := k_need hx hv
  refine zz_aload_1 dL_law_723 ?_
  refine zz_aload_0 dL_law_724 ?_
  refine zz_iload_3 dL_law_725 ?_
  refine zz_iconst 1 dL_law_726 (by decide) ?_
  refine zz_iadd dL_law_727 ?_
  refine zz_sld hs (i + 1) (show nI i + 1 = nI (i + 1) from sx_i) (by omega) hL dL_law_728 ?_
  refine zz_callV1i cv_L_80 rfl (Nat.lt_of_lt_of_le (by decide) hx.nn) (Nat.le_of_ble_eq_true rfl) (by omega) (by omega) dL_law_729 (t_X11_holdFor hx mw emw hmw6 hW fun g1 r1 n1 hx1 hk1 => ⟨_, rfl, ?_⟩)
  have hS1 : ms_S g1 = S := (ms_S_cg hk1).trans hS
  have h51 : ∀ j, g1 51 j = S 51 j := fun j => by rw [← hS1, ms_51]
  have xmw := (h51 2).trans emw
  have f51 : g1 51 = S 51 := funext h51
  rw [← f51] at hT0
  rw [← f51] at hT1
  refine zz_aload_2 dL_law_732 ?_
  refine zz_aload_0 dL_law_733 ?_
  refine zz_iload_3 dL_law_734 ?_
  refine zz_iconst 1 dL_law_735 (by decide) ?_
  refine zz_iadd dL_law_736 ?_
  refine zz_sld hs (i + 1) (show nI i + 1 = nI (i + 1) from sx_i) (by omega) hL dL_law_737 ?_
  refine zz_callV1i cv_L_83 rfl (Nat.lt_of_lt_of_le (by decide) hx1.nn) (Nat.le_of_ble_eq_true rfl) (by omega) (by omega) dL_law_738 (t_X12_holdFor hx1.nn hx1.1 mw xmw hmw6 hT0 hT1 (ms_o.mk (sp := fun S => sp_holdFor S (xs (i + 1))) hS1 fun g2 hF2 => ⟨_, rfl, ?_⟩))
  refine zz_icmp_eq 1348 dL_law_741 (by decide) (fun _ => ?_) (fun h => absurd rfl h)
  exact zz_widen (kc' := kc + 27) (ks' := ks + 302) (by omega) (by omega) (hZ _ _ _ _ (hx1.cm hF2.2) hF2.1 (iv_holdFor hv))
set_option maxHeartbeats 1000000 in
theorem k_fastest {C : zz_C} {d n kc ks i j Ls : Nat} {xs : Nat → Int32} {S g : zz_G} {r : zz_R} {Q : zz_Q} (hs : zz_sx C Ls xs) (hi : i + 6 ≤ Ls) (hL : Ls ≤ 3072) (hc : kc + 27 ≤ 600000) (hk : ks + 302 ≤ 7302250) (hj : j < 9999) (hx : x_rel S g r n) (hS : ms_S g = S) (hv : iv S j) (hZ : ∀ S' g' r' n', x_rel S' g' r' n' → ms_S g' = S' → iv S' (j + 1) → zz_Z C mi_L (d + 60) 600000 7302250 (kc + 27) (ks + 302) 1348 [some (.ref (1000000 + 30)), some (.ref 0), some (.ref 50), some (.int (nI i))] [] g' r' n' Q) : zz_Z C mi_L (d + 60) 600000 7302250 kc ks 746 [some (.ref (1000000 + 30)), some (.ref 0), some (.ref 50), some (.int (nI i))] [] g r n Q := by
  obtain ⟨hW, ⟨mw, emw, hmw6⟩, ⟨cw, ecw, hcw6⟩, ⟨fw, efw, hfw6⟩, ⟨kw, ekw, hkw0, hkw9⟩, ⟨tp, etp, htp5⟩, ⟨tw, etw, htw20⟩, ⟨vw, evw, hvw⟩, hkd, hz, hT0, hT1⟩ := k_need hx hv
  refine zz_aload_1 dL_law_746 ?_
  refine zz_aload_0 dL_law_747 ?_
  refine zz_iload_3 dL_law_748 ?_
  refine zz_iconst 1 dL_law_749 (by decide) ?_
  refine zz_iadd dL_law_750 ?_
  refine zz_sld hs (i + 1) (show nI i + 1 = nI (i + 1) from sx_i) (by omega) hL dL_law_751 ?_
  refine zz_callV1i cv_L_84 rfl (Nat.lt_of_lt_of_le (by decide) hx.nn) (Nat.le_of_ble_eq_true rfl) (by omega) (by omega) dL_law_752 (t_X11_fastest hx mw emw hmw6 hW fun g1 r1 n1 hx1 hk1 => ⟨_, rfl, ?_⟩)
  have hS1 : ms_S g1 = S := (ms_S_cg hk1).trans hS
  have h51 : ∀ j, g1 51 j = S 51 j := fun j => by rw [← hS1, ms_51]
  have xmw := (h51 2).trans emw
  have f51 : g1 51 = S 51 := funext h51
  rw [← f51] at hT0
  rw [← f51] at hT1
  refine zz_aload_2 dL_law_755 ?_
  refine zz_aload_0 dL_law_756 ?_
  refine zz_iload_3 dL_law_757 ?_
  refine zz_iconst 1 dL_law_758 (by decide) ?_
  refine zz_iadd dL_law_759 ?_
  refine zz_sld hs (i + 1) (show nI i + 1 = nI (i + 1) from sx_i) (by omega) hL dL_law_760 ?_
  refine zz_callV1i cv_L_87 rfl (Nat.lt_of_lt_of_le (by decide) hx1.nn) (Nat.le_of_ble_eq_true rfl) (by omega) (by omega) dL_law_761 (t_X12_fastest hx1.nn hx1.1 mw xmw hmw6 hT0 hT1 (ms_o.mk (sp := fun S => sp_fastest S (xs (i + 1))) hS1 fun g2 hF2 => ⟨_, rfl, ?_⟩))
  refine zz_icmp_eq 1348 dL_law_764 (by decide) (fun _ => ?_) (fun h => absurd rfl h)
  exact zz_widen (kc' := kc + 27) (ks' := ks + 302) (by omega) (by omega) (hZ _ _ _ _ (hx1.cm hF2.2) hF2.1 (iv_fastest hv))
set_option maxHeartbeats 1000000 in
theorem k_figuresFor {C : zz_C} {d n kc ks i j Ls : Nat} {xs : Nat → Int32} {S g : zz_G} {r : zz_R} {Q : zz_Q} (hs : zz_sx C Ls xs) (hi : i + 6 ≤ Ls) (hL : Ls ≤ 3072) (hc : kc + 27 ≤ 600000) (hk : ks + 302 ≤ 7302250) (hj : j < 9999) (hx : x_rel S g r n) (hS : ms_S g = S) (hv : iv S j) (hZ : ∀ S' g' r' n', x_rel S' g' r' n' → ms_S g' = S' → iv S' (j + 1) → zz_Z C mi_L (d + 60) 600000 7302250 (kc + 27) (ks + 302) 1348 [some (.ref (1000000 + 30)), some (.ref 0), some (.ref 50), some (.int (nI i))] [] g' r' n' Q) : zz_Z C mi_L (d + 60) 600000 7302250 kc ks 769 [some (.ref (1000000 + 30)), some (.ref 0), some (.ref 50), some (.int (nI i))] [] g r n Q := by
  obtain ⟨hW, ⟨mw, emw, hmw6⟩, ⟨cw, ecw, hcw6⟩, ⟨fw, efw, hfw6⟩, ⟨kw, ekw, hkw0, hkw9⟩, ⟨tp, etp, htp5⟩, ⟨tw, etw, htw20⟩, ⟨vw, evw, hvw⟩, hkd, hz, hT0, hT1⟩ := k_need hx hv
  refine zz_aload_1 dL_law_769 ?_
  refine zz_aload_0 dL_law_770 ?_
  refine zz_iload_3 dL_law_771 ?_
  refine zz_iconst 1 dL_law_772 (by decide) ?_
  refine zz_iadd dL_law_773 ?_
  refine zz_sld hs (i + 1) (show nI i + 1 = nI (i + 1) from sx_i) (by omega) hL dL_law_774 ?_
  refine zz_callV1i cv_L_88 rfl (Nat.lt_of_lt_of_le (by decide) hx.nn) (Nat.le_of_ble_eq_true rfl) (by omega) (by omega) dL_law_775 (t_X11_figuresFor hx  fun g1 r1 n1 hx1 hk1 => ⟨_, rfl, ?_⟩)
  have hS1 : ms_S g1 = S := (ms_S_cg hk1).trans hS
  have h51 : ∀ j, g1 51 j = S 51 j := fun j => by rw [← hS1, ms_51]
  refine zz_aload_2 dL_law_778 ?_
  refine zz_aload_0 dL_law_779 ?_
  refine zz_iload_3 dL_law_780 ?_
  refine zz_iconst 1 dL_law_781 (by decide) ?_
  refine zz_iadd dL_law_782 ?_
  refine zz_sld hs (i + 1) (show nI i + 1 = nI (i + 1) from sx_i) (by omega) hL dL_law_783 ?_
  refine zz_callV1i cv_L_91 rfl (Nat.lt_of_lt_of_le (by decide) hx1.nn) (Nat.le_of_ble_eq_true rfl) (by omega) (by omega) dL_law_784 (t_X12_figuresFor hx1.nn hx1.1  (ms_o.mk (sp := fun S => sp_figuresFor S (xs (i + 1))) hS1 fun g2 hF2 => ⟨_, rfl, ?_⟩))
  refine zz_icmp_eq 1348 dL_law_787 (by decide) (fun _ => ?_) (fun h => absurd rfl h)
  exact zz_widen (kc' := kc + 27) (ks' := ks + 302) (by omega) (by omega) (hZ _ _ _ _ (hx1.cm hF2.2) hF2.1 (iv_figuresFor hv))
set_option maxHeartbeats 1000000 in
theorem k_counting {C : zz_C} {d n kc ks i j Ls : Nat} {xs : Nat → Int32} {S g : zz_G} {r : zz_R} {Q : zz_Q} (hs : zz_sx C Ls xs) (hi : i + 6 ≤ Ls) (hL : Ls ≤ 3072) (hc : kc + 27 ≤ 600000) (hk : ks + 302 ≤ 7302250) (hj : j < 9999) (hx : x_rel S g r n) (hS : ms_S g = S) (hv : iv S j) (hZ : ∀ S' g' r' n', x_rel S' g' r' n' → ms_S g' = S' → iv S' (j + 1) → zz_Z C mi_L (d + 60) 600000 7302250 (kc + 27) (ks + 302) 1348 [some (.ref (1000000 + 30)), some (.ref 0), some (.ref 50), some (.int (nI i))] [] g' r' n' Q) : zz_Z C mi_L (d + 60) 600000 7302250 kc ks 792 [some (.ref (1000000 + 30)), some (.ref 0), some (.ref 50), some (.int (nI i))] [] g r n Q := by
  obtain ⟨hW, ⟨mw, emw, hmw6⟩, ⟨cw, ecw, hcw6⟩, ⟨fw, efw, hfw6⟩, ⟨kw, ekw, hkw0, hkw9⟩, ⟨tp, etp, htp5⟩, ⟨tw, etw, htw20⟩, ⟨vw, evw, hvw⟩, hkd, hz, hT0, hT1⟩ := k_need hx hv
  refine zz_aload_1 dL_law_792 ?_
  refine zz_callV0i cv_L_92 rfl (Nat.lt_of_lt_of_le (by decide) hx.nn) (Nat.le_of_ble_eq_true rfl) (by omega) (by omega) dL_law_793 (t_X11_counting hx cw ecw hcw6 fun g1 r1 n1 hx1 hk1 => ⟨_, rfl, ?_⟩)
  have hS1 : ms_S g1 = S := (ms_S_cg hk1).trans hS
  have h51 : ∀ j, g1 51 j = S 51 j := fun j => by rw [← hS1, ms_51]
  have xcw := (h51 7).trans ecw
  refine zz_aload_2 dL_law_796 ?_
  refine zz_callV0i cv_L_96 rfl (Nat.lt_of_lt_of_le (by decide) hx1.nn) (Nat.le_of_ble_eq_true rfl) (by omega) (by omega) dL_law_797 (t_X12_counting hx1.nn hx1.1 cw xcw hcw6 (ms_o.mk (sp := fun S => sp_counting S ) hS1 fun g2 hF2 => ⟨_, rfl, ?_⟩))
  refine zz_icmp_eq 1348 dL_law_800 (by decide) (fun _ => ?_) (fun h => absurd rfl h)
  exact zz_widen (kc' := kc + 27) (ks' := ks + 302) (by omega) (by omega) (hZ _ _ _ _ (hx1.cm hF2.2) hF2.1 (iv_counting hv))
set_option maxHeartbeats 1000000 in
theorem k_crossed {C : zz_C} {d n kc ks i j Ls : Nat} {xs : Nat → Int32} {S g : zz_G} {r : zz_R} {Q : zz_Q} (hs : zz_sx C Ls xs) (hi : i + 6 ≤ Ls) (hL : Ls ≤ 3072) (hc : kc + 27 ≤ 600000) (hk : ks + 302 ≤ 7302250) (hj : j < 9999) (hx : x_rel S g r n) (hS : ms_S g = S) (hv : iv S j) (hZ : ∀ S' g' r' n', x_rel S' g' r' n' → ms_S g' = S' → iv S' (j + 1) → zz_Z C mi_L (d + 60) 600000 7302250 (kc + 27) (ks + 302) 1348 [some (.ref (1000000 + 30)), some (.ref 0), some (.ref 50), some (.int (nI i))] [] g' r' n' Q) : zz_Z C mi_L (d + 60) 600000 7302250 kc ks 805 [some (.ref (1000000 + 30)), some (.ref 0), some (.ref 50), some (.int (nI i))] [] g r n Q := by
  obtain ⟨hW, ⟨mw, emw, hmw6⟩, ⟨cw, ecw, hcw6⟩, ⟨fw, efw, hfw6⟩, ⟨kw, ekw, hkw0, hkw9⟩, ⟨tp, etp, htp5⟩, ⟨tw, etw, htw20⟩, ⟨vw, evw, hvw⟩, hkd, hz, hT0, hT1⟩ := k_need hx hv
  refine zz_aload_1 dL_law_805 ?_
  refine zz_callV0i cv_L_97 rfl (Nat.lt_of_lt_of_le (by decide) hx.nn) (Nat.le_of_ble_eq_true rfl) (by omega) (by omega) dL_law_806 (t_X11_crossed hx cw ecw hcw6 fun g1 r1 n1 hx1 hk1 => ⟨_, rfl, ?_⟩)
  have hS1 : ms_S g1 = S := (ms_S_cg hk1).trans hS
  have h51 : ∀ j, g1 51 j = S 51 j := fun j => by rw [← hS1, ms_51]
  have xcw := (h51 7).trans ecw
  refine zz_aload_2 dL_law_809 ?_
  refine zz_callV0i cv_L_100 rfl (Nat.lt_of_lt_of_le (by decide) hx1.nn) (Nat.le_of_ble_eq_true rfl) (by omega) (by omega) dL_law_810 (t_X12_crossed hx1.nn hx1.1 cw xcw hcw6 (ms_o.mk (sp := fun S => sp_crossed S ) hS1 fun g2 hF2 => ⟨_, rfl, ?_⟩))
  refine zz_icmp_eq 1348 dL_law_813 (by decide) (fun _ => ?_) (fun h => absurd rfl h)
  exact zz_widen (kc' := kc + 27) (ks' := ks + 302) (by omega) (by omega) (hZ _ _ _ _ (hx1.cm hF2.2) hF2.1 (iv_crossed hv))
set_option maxHeartbeats 1000000 in
theorem k_atOnce {C : zz_C} {d n kc ks i j Ls : Nat} {xs : Nat → Int32} {S g : zz_G} {r : zz_R} {Q : zz_Q} (hs : zz_sx C Ls xs) (hi : i + 6 ≤ Ls) (hL : Ls ≤ 3072) (hc : kc + 27 ≤ 600000) (hk : ks + 302 ≤ 7302250) (hj : j < 9999) (hx : x_rel S g r n) (hS : ms_S g = S) (hv : iv S j) (hZ : ∀ S' g' r' n', x_rel S' g' r' n' → ms_S g' = S' → iv S' (j + 1) → zz_Z C mi_L (d + 60) 600000 7302250 (kc + 27) (ks + 302) 1348 [some (.ref (1000000 + 30)), some (.ref 0), some (.ref 50), some (.int (nI i))] [] g' r' n' Q) : zz_Z C mi_L (d + 60) 600000 7302250 kc ks 818 [some (.ref (1000000 + 30)), some (.ref 0), some (.ref 50), some (.int (nI i))] [] g r n Q := by
  obtain ⟨hW, ⟨mw, emw, hmw6⟩, ⟨cw, ecw, hcw6⟩, ⟨fw, efw, hfw6⟩, ⟨kw, ekw, hkw0, hkw9⟩, ⟨tp, etp, htp5⟩, ⟨tw, etw, htw20⟩, ⟨vw, evw, hvw⟩, hkd, hz, hT0, hT1⟩ := k_need hx hv
  refine zz_aload_1 dL_law_818 ?_
  refine zz_aload_0 dL_law_819 ?_
  refine zz_iload_3 dL_law_820 ?_
  refine zz_iconst 1 dL_law_821 (by decide) ?_
  refine zz_iadd dL_law_822 ?_
  refine zz_sld hs (i + 1) (show nI i + 1 = nI (i + 1) from sx_i) (by omega) hL dL_law_823 ?_
  refine zz_aload_0 dL_law_824 ?_
  refine zz_iload_3 dL_law_825 ?_
  refine zz_iconst 2 dL_law_826 (by decide) ?_
  refine zz_iadd dL_law_827 ?_
  refine zz_sld hs (i + 2) (show nI i + 2 = nI (i + 2) from sx_i) (by omega) hL dL_law_828 ?_
  refine zz_callV2i cv_L_101 rfl (Nat.lt_of_lt_of_le (by decide) hx.nn) (Nat.le_of_ble_eq_true rfl) (by omega) (by omega) dL_law_829 (t_X11_atOnce hx mw emw hmw6 hW fun g1 r1 n1 hx1 hk1 => ⟨_, rfl, ?_⟩)
  have hS1 : ms_S g1 = S := (ms_S_cg hk1).trans hS
  have h51 : ∀ j, g1 51 j = S 51 j := fun j => by rw [← hS1, ms_51]
  have xmw := (h51 2).trans emw
  refine zz_aload_2 dL_law_832 ?_
  refine zz_aload_0 dL_law_833 ?_
  refine zz_iload_3 dL_law_834 ?_
  refine zz_iconst 1 dL_law_835 (by decide) ?_
  refine zz_iadd dL_law_836 ?_
  refine zz_sld hs (i + 1) (show nI i + 1 = nI (i + 1) from sx_i) (by omega) hL dL_law_837 ?_
  refine zz_aload_0 dL_law_838 ?_
  refine zz_iload_3 dL_law_839 ?_
  refine zz_iconst 2 dL_law_840 (by decide) ?_
  refine zz_iadd dL_law_841 ?_
  refine zz_sld hs (i + 2) (show nI i + 2 = nI (i + 2) from sx_i) (by omega) hL dL_law_842 ?_
  refine zz_callV2i cv_L_104 rfl (Nat.lt_of_lt_of_le (by decide) hx1.nn) (Nat.le_of_ble_eq_true rfl) (by omega) (by omega) dL_law_843 (t_X12_atOnce hx1.nn hx1.1 mw xmw hmw6 (ms_o.mk (sp := fun S => sp_atOnce S (xs (i + 1)) (xs (i + 2))) hS1 fun g2 hF2 => ⟨_, rfl, ?_⟩))
  refine zz_icmp_eq 1348 dL_law_846 (by decide) (fun _ => ?_) (fun h => absurd rfl h)
  exact zz_widen (kc' := kc + 27) (ks' := ks + 302) (by omega) (by omega) (hZ _ _ _ _ (hx1.cm hF2.2) hF2.1 (iv_atOnce hv))
set_option maxHeartbeats 1000000 in
theorem k_together {C : zz_C} {d n kc ks i j Ls : Nat} {xs : Nat → Int32} {S g : zz_G} {r : zz_R} {Q : zz_Q} (hs : zz_sx C Ls xs) (hi : i + 6 ≤ Ls) (hL : Ls ≤ 3072) (hc : kc + 27 ≤ 600000) (hk : ks + 302 ≤ 7302250) (hj : j < 9999) (hx : x_rel S g r n) (hS : ms_S g = S) (hv : iv S j) (hZ : ∀ S' g' r' n', x_rel S' g' r' n' → ms_S g' = S' → iv S' (j + 1) → zz_Z C mi_L (d + 60) 600000 7302250 (kc + 27) (ks + 302) 1348 [some (.ref (1000000 + 30)), some (.ref 0), some (.ref 50), some (.int (nI i))] [] g' r' n' Q) : zz_Z C mi_L (d + 60) 600000 7302250 kc ks 851 [some (.ref (1000000 + 30)), some (.ref 0), some (.ref 50), some (.int (nI i))] [] g r n Q := by
  obtain ⟨hW, ⟨mw, emw, hmw6⟩, ⟨cw, ecw, hcw6⟩, ⟨fw, efw, hfw6⟩, ⟨kw, ekw, hkw0, hkw9⟩, ⟨tp, etp, htp5⟩, ⟨tw, etw, htw20⟩, ⟨vw, evw, hvw⟩, hkd, hz, hT0, hT1⟩ := k_need hx hv
  refine zz_aload_1 dL_law_851 ?_
  refine zz_callV0i cv_L_105 rfl (Nat.lt_of_lt_of_le (by decide) hx.nn) (Nat.le_of_ble_eq_true rfl) (by omega) (by omega) dL_law_852 (t_X11_together hx mw emw hmw6 hW fun g1 r1 n1 hx1 hk1 => ⟨_, rfl, ?_⟩)
  have hS1 : ms_S g1 = S := (ms_S_cg hk1).trans hS
  have h51 : ∀ j, g1 51 j = S 51 j := fun j => by rw [← hS1, ms_51]
  have xmw := (h51 2).trans emw
  refine zz_aload_2 dL_law_855 ?_
  refine zz_callV0i cv_L_108 rfl (Nat.lt_of_lt_of_le (by decide) hx1.nn) (Nat.le_of_ble_eq_true rfl) (by omega) (by omega) dL_law_856 (t_X12_together hx1.nn hx1.1 mw xmw hmw6 (ms_o.mk (sp := fun S => sp_together S ) hS1 fun g2 hF2 => ⟨_, rfl, ?_⟩))
  refine zz_icmp_eq 1348 dL_law_859 (by decide) (fun _ => ?_) (fun h => absurd rfl h)
  exact zz_widen (kc' := kc + 27) (ks' := ks + 302) (by omega) (by omega) (hZ _ _ _ _ (hx1.cm hF2.2) hF2.1 (iv_together hv))
set_option maxHeartbeats 1000000 in
theorem k_waitFor {C : zz_C} {d n kc ks i j Ls : Nat} {xs : Nat → Int32} {S g : zz_G} {r : zz_R} {Q : zz_Q} (hs : zz_sx C Ls xs) (hi : i + 6 ≤ Ls) (hL : Ls ≤ 3072) (hc : kc + 27 ≤ 600000) (hk : ks + 302 ≤ 7302250) (hj : j < 9999) (hx : x_rel S g r n) (hS : ms_S g = S) (hv : iv S j) (hZ : ∀ S' g' r' n', x_rel S' g' r' n' → ms_S g' = S' → iv S' (j + 1) → zz_Z C mi_L (d + 60) 600000 7302250 (kc + 27) (ks + 302) 1348 [some (.ref (1000000 + 30)), some (.ref 0), some (.ref 50), some (.int (nI i))] [] g' r' n' Q) : zz_Z C mi_L (d + 60) 600000 7302250 kc ks 864 [some (.ref (1000000 + 30)), some (.ref 0), some (.ref 50), some (.int (nI i))] [] g r n Q := by
  obtain ⟨hW, ⟨mw, emw, hmw6⟩, ⟨cw, ecw, hcw6⟩, ⟨fw, efw, hfw6⟩, ⟨kw, ekw, hkw0, hkw9⟩, ⟨tp, etp, htp5⟩, ⟨tw, etw, htw20⟩, ⟨vw, evw, hvw⟩, hkd, hz, hT0, hT1⟩ := k_need hx hv
  refine zz_aload_1 dL_law_864 ?_
  refine zz_callV0i cv_L_109 rfl (Nat.lt_of_lt_of_le (by decide) hx.nn) (Nat.le_of_ble_eq_true rfl) (by omega) (by omega) dL_law_865 (t_X11_waitFor hx cw ecw hcw6 fun g1 r1 n1 hx1 hk1 => ⟨_, rfl, ?_⟩)
  have hS1 : ms_S g1 = S := (ms_S_cg hk1).trans hS
  have h51 : ∀ j, g1 51 j = S 51 j := fun j => by rw [← hS1, ms_51]
  have xcw := (h51 7).trans ecw
  refine zz_aload_2 dL_law_868 ?_
  refine zz_callV0i cv_L_112 rfl (Nat.lt_of_lt_of_le (by decide) hx1.nn) (Nat.le_of_ble_eq_true rfl) (by omega) (by omega) dL_law_869 (t_X12_waitFor hx1.nn hx1.1 cw xcw hcw6 (ms_o.mk (sp := fun S => sp_waitFor S ) hS1 fun g2 hF2 => ⟨_, rfl, ?_⟩))
  refine zz_icmp_eq 1348 dL_law_872 (by decide) (fun _ => ?_) (fun h => absurd rfl h)
  exact zz_widen (kc' := kc + 27) (ks' := ks + 302) (by omega) (by omega) (hZ _ _ _ _ (hx1.cm hF2.2) hF2.1 (iv_waitFor hv))
set_option maxHeartbeats 1000000 in
theorem k_which {C : zz_C} {d n kc ks i j Ls : Nat} {xs : Nat → Int32} {S g : zz_G} {r : zz_R} {Q : zz_Q} (hs : zz_sx C Ls xs) (hi : i + 6 ≤ Ls) (hL : Ls ≤ 3072) (hc : kc + 27 ≤ 600000) (hk : ks + 302 ≤ 7302250) (hj : j < 9999) (hx : x_rel S g r n) (hS : ms_S g = S) (hv : iv S j) (hZ : ∀ S' g' r' n', x_rel S' g' r' n' → ms_S g' = S' → iv S' (j + 1) → zz_Z C mi_L (d + 60) 600000 7302250 (kc + 27) (ks + 302) 1348 [some (.ref (1000000 + 30)), some (.ref 0), some (.ref 50), some (.int (nI i))] [] g' r' n' Q) : zz_Z C mi_L (d + 60) 600000 7302250 kc ks 877 [some (.ref (1000000 + 30)), some (.ref 0), some (.ref 50), some (.int (nI i))] [] g r n Q := by
  obtain ⟨hW, ⟨mw, emw, hmw6⟩, ⟨cw, ecw, hcw6⟩, ⟨fw, efw, hfw6⟩, ⟨kw, ekw, hkw0, hkw9⟩, ⟨tp, etp, htp5⟩, ⟨tw, etw, htw20⟩, ⟨vw, evw, hvw⟩, hkd, hz, hT0, hT1⟩ := k_need hx hv
  refine zz_aload_1 dL_law_877 ?_
  refine zz_aload_0 dL_law_878 ?_
  refine zz_iload_3 dL_law_879 ?_
  refine zz_iconst 1 dL_law_880 (by decide) ?_
  refine zz_iadd dL_law_881 ?_
  refine zz_sld hs (i + 1) (show nI i + 1 = nI (i + 1) from sx_i) (by omega) hL dL_law_882 ?_
  refine zz_callV1i cv_L_113 rfl (Nat.lt_of_lt_of_le (by decide) hx.nn) (Nat.le_of_ble_eq_true rfl) (by omega) (by omega) dL_law_883 (t_X11_which hx mw emw hmw6 hz hW fun g1 r1 n1 hx1 hk1 => ⟨_, rfl, ?_⟩)
  have hS1 : ms_S g1 = S := (ms_S_cg hk1).trans hS
  have h51 : ∀ j, g1 51 j = S 51 j := fun j => by rw [← hS1, ms_51]
  have xmw := (h51 2).trans emw
  have f51 : g1 51 = S 51 := funext h51
  rw [← f51] at hT0
  rw [← f51] at hT1
  have hz1 : ∀ s : Nat, s < 4 → ∃ z : Nat, z ≤ 40 ∧ g1 56 s = nI z := fun s q => by rw [← ms_at (g := g1) (k := 56) (j := s) rfl, hS1]; exact hz s q
  refine zz_aload_2 dL_law_886 ?_
  refine zz_aload_0 dL_law_887 ?_
  refine zz_iload_3 dL_law_888 ?_
  refine zz_iconst 1 dL_law_889 (by decide) ?_
  refine zz_iadd dL_law_890 ?_
  refine zz_sld hs (i + 1) (show nI i + 1 = nI (i + 1) from sx_i) (by omega) hL dL_law_891 ?_
  refine zz_callV1i cv_L_116 rfl (Nat.lt_of_lt_of_le (by decide) hx1.nn) (Nat.le_of_ble_eq_true rfl) (by omega) (by omega) dL_law_892 (t_X12_which hx1.nn hx1.1 mw xmw hmw6 hz1 hT0 hT1 (ms_o.mk (sp := fun S => sp_which S (xs (i + 1))) hS1 fun g2 hF2 => ⟨_, rfl, ?_⟩))
  refine zz_icmp_eq 1348 dL_law_895 (by decide) (fun _ => ?_) (fun h => absurd rfl h)
  exact zz_widen (kc' := kc + 27) (ks' := ks + 302) (by omega) (by omega) (hZ _ _ _ _ (hx1.cm hF2.2) hF2.1 (iv_which hv))
set_option maxHeartbeats 1000000 in
theorem k_guess {C : zz_C} {d n kc ks i j Ls : Nat} {xs : Nat → Int32} {S g : zz_G} {r : zz_R} {Q : zz_Q} (hs : zz_sx C Ls xs) (hi : i + 6 ≤ Ls) (hL : Ls ≤ 3072) (hc : kc + 27 ≤ 600000) (hk : ks + 302 ≤ 7302250) (hj : j < 9999) (hx : x_rel S g r n) (hS : ms_S g = S) (hv : iv S j) (hZ : ∀ S' g' r' n', x_rel S' g' r' n' → ms_S g' = S' → iv S' (j + 1) → zz_Z C mi_L (d + 60) 600000 7302250 (kc + 27) (ks + 302) 1348 [some (.ref (1000000 + 30)), some (.ref 0), some (.ref 50), some (.int (nI i))] [] g' r' n' Q) : zz_Z C mi_L (d + 60) 600000 7302250 kc ks 900 [some (.ref (1000000 + 30)), some (.ref 0), some (.ref 50), some (.int (nI i))] [] g r n Q := by
  obtain ⟨hW, ⟨mw, emw, hmw6⟩, ⟨cw, ecw, hcw6⟩, ⟨fw, efw, hfw6⟩, ⟨kw, ekw, hkw0, hkw9⟩, ⟨tp, etp, htp5⟩, ⟨tw, etw, htw20⟩, ⟨vw, evw, hvw⟩, hkd, hz, hT0, hT1⟩ := k_need hx hv
  refine zz_aload_1 dL_law_900 ?_
  refine zz_aload_0 dL_law_901 ?_
  refine zz_iload_3 dL_law_902 ?_
  refine zz_iconst 1 dL_law_903 (by decide) ?_
  refine zz_iadd dL_law_904 ?_
  refine zz_sld hs (i + 1) (show nI i + 1 = nI (i + 1) from sx_i) (by omega) hL dL_law_905 ?_
  refine zz_callV1i cv_L_117 rfl (Nat.lt_of_lt_of_le (by decide) hx.nn) (Nat.le_of_ble_eq_true rfl) (by omega) (by omega) dL_law_906 (t_X11_guess hx hW fun g1 r1 n1 hx1 hk1 => ⟨_, rfl, ?_⟩)
  have hS1 : ms_S g1 = S := (ms_S_cg hk1).trans hS
  have h51 : ∀ j, g1 51 j = S 51 j := fun j => by rw [← hS1, ms_51]
  have xfw := (h51 8).trans efw
  have xkw := (h51 10).trans ekw
  refine zz_aload_2 dL_law_909 ?_
  refine zz_aload_0 dL_law_910 ?_
  refine zz_iload_3 dL_law_911 ?_
  refine zz_iconst 1 dL_law_912 (by decide) ?_
  refine zz_iadd dL_law_913 ?_
  refine zz_sld hs (i + 1) (show nI i + 1 = nI (i + 1) from sx_i) (by omega) hL dL_law_914 ?_
  refine zz_callV1i cv_L_120 rfl (Nat.lt_of_lt_of_le (by decide) hx1.nn) (Nat.le_of_ble_eq_true rfl) (by omega) (by omega) dL_law_915 (t_X12_guess hx1.nn hx1.1 kw fw xkw hkw0 hkw9 xfw hfw6 (ms_o.mk (sp := fun S => sp_guess S (xs (i + 1))) hS1 fun g2 hF2 => ⟨_, rfl, ?_⟩))
  refine zz_icmp_eq 1348 dL_law_918 (by decide) (fun _ => ?_) (fun h => absurd rfl h)
  exact zz_widen (kc' := kc + 27) (ks' := ks + 302) (by omega) (by omega) (hZ _ _ _ _ (hx1.cm hF2.2) hF2.1 (iv_guess hv))
set_option maxHeartbeats 1000000 in
theorem k_odds {C : zz_C} {d n kc ks i j Ls : Nat} {xs : Nat → Int32} {S g : zz_G} {r : zz_R} {Q : zz_Q} (hs : zz_sx C Ls xs) (hi : i + 6 ≤ Ls) (hL : Ls ≤ 3072) (hc : kc + 27 ≤ 600000) (hk : ks + 302 ≤ 7302250) (hj : j < 9999) (hx : x_rel S g r n) (hS : ms_S g = S) (hv : iv S j) (hZ : ∀ S' g' r' n', x_rel S' g' r' n' → ms_S g' = S' → iv S' (j + 1) → zz_Z C mi_L (d + 60) 600000 7302250 (kc + 27) (ks + 302) 1348 [some (.ref (1000000 + 30)), some (.ref 0), some (.ref 50), some (.int (nI i))] [] g' r' n' Q) : zz_Z C mi_L (d + 60) 600000 7302250 kc ks 923 [some (.ref (1000000 + 30)), some (.ref 0), some (.ref 50), some (.int (nI i))] [] g r n Q := by
  obtain ⟨hW, ⟨mw, emw, hmw6⟩, ⟨cw, ecw, hcw6⟩, ⟨fw, efw, hfw6⟩, ⟨kw, ekw, hkw0, hkw9⟩, ⟨tp, etp, htp5⟩, ⟨tw, etw, htw20⟩, ⟨vw, evw, hvw⟩, hkd, hz, hT0, hT1⟩ := k_need hx hv
  refine zz_aload_1 dL_law_923 ?_
  refine zz_aload_0 dL_law_924 ?_
  refine zz_iload_3 dL_law_925 ?_
  refine zz_iconst 1 dL_law_926 (by decide) ?_
  refine zz_iadd dL_law_927 ?_
  refine zz_sld hs (i + 1) (show nI i + 1 = nI (i + 1) from sx_i) (by omega) hL dL_law_928 ?_
  refine zz_aload_0 dL_law_929 ?_
  refine zz_iload_3 dL_law_930 ?_
  refine zz_iconst 2 dL_law_931 (by decide) ?_
  refine zz_iadd dL_law_932 ?_
  refine zz_sld hs (i + 2) (show nI i + 2 = nI (i + 2) from sx_i) (by omega) hL dL_law_933 ?_
  refine zz_callV2i cv_L_121 rfl (Nat.lt_of_lt_of_le (by decide) hx.nn) (Nat.le_of_ble_eq_true rfl) (by omega) (by omega) dL_law_934 (t_X11_odds hx mw emw hmw6 hW fun g1 r1 n1 hx1 hk1 => ⟨_, rfl, ?_⟩)
  have hS1 : ms_S g1 = S := (ms_S_cg hk1).trans hS
  have h51 : ∀ j, g1 51 j = S 51 j := fun j => by rw [← hS1, ms_51]
  have xmw := (h51 2).trans emw
  have f51 : g1 51 = S 51 := funext h51
  rw [← f51] at hT0
  rw [← f51] at hT1
  refine zz_aload_2 dL_law_937 ?_
  refine zz_aload_0 dL_law_938 ?_
  refine zz_iload_3 dL_law_939 ?_
  refine zz_iconst 1 dL_law_940 (by decide) ?_
  refine zz_iadd dL_law_941 ?_
  refine zz_sld hs (i + 1) (show nI i + 1 = nI (i + 1) from sx_i) (by omega) hL dL_law_942 ?_
  refine zz_aload_0 dL_law_943 ?_
  refine zz_iload_3 dL_law_944 ?_
  refine zz_iconst 2 dL_law_945 (by decide) ?_
  refine zz_iadd dL_law_946 ?_
  refine zz_sld hs (i + 2) (show nI i + 2 = nI (i + 2) from sx_i) (by omega) hL dL_law_947 ?_
  refine zz_callV2i cv_L_124 rfl (Nat.lt_of_lt_of_le (by decide) hx1.nn) (Nat.le_of_ble_eq_true rfl) (by omega) (by omega) dL_law_948 (t_X12_odds hx1.nn hx1.1 mw xmw hmw6 hT0 hT1 (ms_o.mk (sp := fun S => sp_odds S (xs (i + 1)) (xs (i + 2))) hS1 fun g2 hF2 => ⟨_, rfl, ?_⟩))
  refine zz_icmp_eq 1348 dL_law_951 (by decide) (fun _ => ?_) (fun h => absurd rfl h)
  exact zz_widen (kc' := kc + 27) (ks' := ks + 302) (by omega) (by omega) (hZ _ _ _ _ (hx1.cm hF2.2) hF2.1 (iv_odds hv))
set_option maxHeartbeats 1000000 in
theorem k_seed {C : zz_C} {d n kc ks i j Ls : Nat} {xs : Nat → Int32} {S g : zz_G} {r : zz_R} {Q : zz_Q} (hs : zz_sx C Ls xs) (hi : i + 6 ≤ Ls) (hL : Ls ≤ 3072) (hc : kc + 27 ≤ 600000) (hk : ks + 302 ≤ 7302250) (hj : j < 9999) (hx : x_rel S g r n) (hS : ms_S g = S) (hv : iv S j) (hZ : ∀ S' g' r' n', x_rel S' g' r' n' → ms_S g' = S' → iv S' (j + 1) → zz_Z C mi_L (d + 60) 600000 7302250 (kc + 27) (ks + 302) 1348 [some (.ref (1000000 + 30)), some (.ref 0), some (.ref 50), some (.int (nI i))] [] g' r' n' Q) : zz_Z C mi_L (d + 60) 600000 7302250 kc ks 956 [some (.ref (1000000 + 30)), some (.ref 0), some (.ref 50), some (.int (nI i))] [] g r n Q := by
  obtain ⟨hW, ⟨mw, emw, hmw6⟩, ⟨cw, ecw, hcw6⟩, ⟨fw, efw, hfw6⟩, ⟨kw, ekw, hkw0, hkw9⟩, ⟨tp, etp, htp5⟩, ⟨tw, etw, htw20⟩, ⟨vw, evw, hvw⟩, hkd, hz, hT0, hT1⟩ := k_need hx hv
  refine zz_aload_1 dL_law_956 ?_
  refine zz_aload_0 dL_law_957 ?_
  refine zz_iload_3 dL_law_958 ?_
  refine zz_iconst 1 dL_law_959 (by decide) ?_
  refine zz_iadd dL_law_960 ?_
  refine zz_sld hs (i + 1) (show nI i + 1 = nI (i + 1) from sx_i) (by omega) hL dL_law_961 ?_
  refine zz_callV1i cv_L_125 rfl (Nat.lt_of_lt_of_le (by decide) hx.nn) (Nat.le_of_ble_eq_true rfl) (by omega) (by omega) dL_law_962 (t_X11_seed hx  fun g1 r1 n1 hx1 hk1 => ⟨_, rfl, ?_⟩)
  have hS1 : ms_S g1 = S := (ms_S_cg hk1).trans hS
  have h51 : ∀ j, g1 51 j = S 51 j := fun j => by rw [← hS1, ms_51]
  refine zz_aload_2 dL_law_965 ?_
  refine zz_aload_0 dL_law_966 ?_
  refine zz_iload_3 dL_law_967 ?_
  refine zz_iconst 1 dL_law_968 (by decide) ?_
  refine zz_iadd dL_law_969 ?_
  refine zz_sld hs (i + 1) (show nI i + 1 = nI (i + 1) from sx_i) (by omega) hL dL_law_970 ?_
  refine zz_callV1i cv_L_128 rfl (Nat.lt_of_lt_of_le (by decide) hx1.nn) (Nat.le_of_ble_eq_true rfl) (by omega) (by omega) dL_law_971 (t_X12_seed hx1.nn hx1.1  (ms_o.mk (sp := fun S => sp_seed S (xs (i + 1))) hS1 fun g2 hF2 => ⟨_, rfl, ?_⟩))
  refine zz_icmp_eq 1348 dL_law_974 (by decide) (fun _ => ?_) (fun h => absurd rfl h)
  exact zz_widen (kc' := kc + 27) (ks' := ks + 302) (by omega) (by omega) (hZ _ _ _ _ (hx1.cm hF2.2) hF2.1 (iv_seed hv))
set_option maxHeartbeats 1000000 in
theorem k_voice {C : zz_C} {d n kc ks i j Ls : Nat} {xs : Nat → Int32} {S g : zz_G} {r : zz_R} {Q : zz_Q} (hs : zz_sx C Ls xs) (hi : i + 6 ≤ Ls) (hL : Ls ≤ 3072) (hc : kc + 27 ≤ 600000) (hk : ks + 302 ≤ 7302250) (hj : j < 9999) (hx : x_rel S g r n) (hS : ms_S g = S) (hv : iv S j) (hZ : ∀ S' g' r' n', x_rel S' g' r' n' → ms_S g' = S' → iv S' (j + 1) → zz_Z C mi_L (d + 60) 600000 7302250 (kc + 27) (ks + 302) 1348 [some (.ref (1000000 + 30)), some (.ref 0), some (.ref 50), some (.int (nI i))] [] g' r' n' Q) : zz_Z C mi_L (d + 60) 600000 7302250 kc ks 979 [some (.ref (1000000 + 30)), some (.ref 0), some (.ref 50), some (.int (nI i))] [] g r n Q := by
  obtain ⟨hW, ⟨mw, emw, hmw6⟩, ⟨cw, ecw, hcw6⟩, ⟨fw, efw, hfw6⟩, ⟨kw, ekw, hkw0, hkw9⟩, ⟨tp, etp, htp5⟩, ⟨tw, etw, htw20⟩, ⟨vw, evw, hvw⟩, hkd, hz, hT0, hT1⟩ := k_need hx hv
  refine zz_aload_1 dL_law_979 ?_
  refine zz_aload_0 dL_law_980 ?_
  refine zz_iload_3 dL_law_981 ?_
  refine zz_iconst 1 dL_law_982 (by decide) ?_
  refine zz_iadd dL_law_983 ?_
  refine zz_sld hs (i + 1) (show nI i + 1 = nI (i + 1) from sx_i) (by omega) hL dL_law_984 ?_
  refine zz_aload_0 dL_law_985 ?_
  refine zz_iload_3 dL_law_986 ?_
  refine zz_iconst 2 dL_law_987 (by decide) ?_
  refine zz_iadd dL_law_988 ?_
  refine zz_sld hs (i + 2) (show nI i + 2 = nI (i + 2) from sx_i) (by omega) hL dL_law_989 ?_
  refine zz_aload_0 dL_law_990 ?_
  refine zz_iload_3 dL_law_991 ?_
  refine zz_iconst 3 dL_law_992 (by decide) ?_
  refine zz_iadd dL_law_993 ?_
  refine zz_sld hs (i + 3) (show nI i + 3 = nI (i + 3) from sx_i) (by omega) hL dL_law_994 ?_
  refine zz_callV3i cv_L_129 rfl (Nat.lt_of_lt_of_le (by decide) hx.nn) (Nat.le_of_ble_eq_true rfl) (by omega) (by omega) dL_law_995 (t_X11_voice hx hW mw emw hmw6 fun g1 r1 n1 hx1 hk1 => ⟨_, rfl, ?_⟩)
  have hS1 : ms_S g1 = S := (ms_S_cg hk1).trans hS
  have h51 : ∀ j, g1 51 j = S 51 j := fun j => by rw [← hS1, ms_51]
  have xmw := (h51 2).trans emw
  have hkd1 : ∀ w : Nat, w < 6 → ∃ j : Nat, j < 7 ∧ g1 51 (16 + 5 * w) = nI j := fun w hw => by rw [h51]; exact hkd w hw
  refine zz_aload_2 dL_law_998 ?_
  refine zz_aload_0 dL_law_999 ?_
  refine zz_iload_3 dL_law_1000 ?_
  refine zz_iconst 1 dL_law_1001 (by decide) ?_
  refine zz_iadd dL_law_1002 ?_
  refine zz_sld hs (i + 1) (show nI i + 1 = nI (i + 1) from sx_i) (by omega) hL dL_law_1003 ?_
  refine zz_aload_0 dL_law_1004 ?_
  refine zz_iload_3 dL_law_1005 ?_
  refine zz_iconst 2 dL_law_1006 (by decide) ?_
  refine zz_iadd dL_law_1007 ?_
  refine zz_sld hs (i + 2) (show nI i + 2 = nI (i + 2) from sx_i) (by omega) hL dL_law_1008 ?_
  refine zz_aload_0 dL_law_1009 ?_
  refine zz_iload_3 dL_law_1010 ?_
  refine zz_iconst 3 dL_law_1011 (by decide) ?_
  refine zz_iadd dL_law_1012 ?_
  refine zz_sld hs (i + 3) (show nI i + 3 = nI (i + 3) from sx_i) (by omega) hL dL_law_1013 ?_
  refine zz_callV3i cv_L_132 rfl (Nat.lt_of_lt_of_le (by decide) hx1.nn) (Nat.le_of_ble_eq_true rfl) (by omega) (by omega) dL_law_1014 (t_X12_voice hx1.nn hx1.1 mw xmw hmw6 hkd1 (ms_o.mk (sp := fun S => sp_voice S (xs (i + 1)) (xs (i + 2)) (xs (i + 3))) hS1 fun g2 hF2 => ⟨_, rfl, ?_⟩))
  refine zz_icmp_eq 1348 dL_law_1017 (by decide) (fun _ => ?_) (fun h => absurd rfl h)
  exact zz_widen (kc' := kc + 27) (ks' := ks + 302) (by omega) (by omega) (hZ _ _ _ _ (hx1.cm hF2.2) hF2.1 (iv_voice hv))
set_option maxHeartbeats 1000000 in
theorem k_trace {C : zz_C} {d n kc ks i j Ls : Nat} {xs : Nat → Int32} {S g : zz_G} {r : zz_R} {Q : zz_Q} (hs : zz_sx C Ls xs) (hi : i + 6 ≤ Ls) (hL : Ls ≤ 3072) (hc : kc + 27 ≤ 600000) (hk : ks + 302 ≤ 7302250) (hj : j < 9999) (hx : x_rel S g r n) (hS : ms_S g = S) (hv : iv S j) (hZ : ∀ S' g' r' n', x_rel S' g' r' n' → ms_S g' = S' → iv S' (j + 1) → zz_Z C mi_L (d + 60) 600000 7302250 (kc + 27) (ks + 302) 1348 [some (.ref (1000000 + 30)), some (.ref 0), some (.ref 50), some (.int (nI i))] [] g' r' n' Q) : zz_Z C mi_L (d + 60) 600000 7302250 kc ks 1022 [some (.ref (1000000 + 30)), some (.ref 0), some (.ref 50), some (.int (nI i))] [] g r n Q := by
  obtain ⟨hW, ⟨mw, emw, hmw6⟩, ⟨cw, ecw, hcw6⟩, ⟨fw, efw, hfw6⟩, ⟨kw, ekw, hkw0, hkw9⟩, ⟨tp, etp, htp5⟩, ⟨tw, etw, htw20⟩, ⟨vw, evw, hvw⟩, hkd, hz, hT0, hT1⟩ := k_need hx hv
  refine zz_aload_1 dL_law_1022 ?_
  refine zz_aload_0 dL_law_1023 ?_
  refine zz_iload_3 dL_law_1024 ?_
  refine zz_iconst 1 dL_law_1025 (by decide) ?_
  refine zz_iadd dL_law_1026 ?_
  refine zz_sld hs (i + 1) (show nI i + 1 = nI (i + 1) from sx_i) (by omega) hL dL_law_1027 ?_
  refine zz_callV1i cv_L_133 rfl (Nat.lt_of_lt_of_le (by decide) hx.nn) (Nat.le_of_ble_eq_true rfl) (by omega) (by omega) dL_law_1028 (t_X11_trace hx vw evw hvw fun g1 r1 n1 hx1 hk1 => ⟨_, rfl, ?_⟩)
  have hS1 : ms_S g1 = S := (ms_S_cg hk1).trans hS
  have h51 : ∀ j, g1 51 j = S 51 j := fun j => by rw [← hS1, ms_51]
  have xvw : g1 50 19 = nI vw := by rw [← evw, ← hS1, ms_at rfl]
  refine zz_aload_2 dL_law_1031 ?_
  refine zz_aload_0 dL_law_1032 ?_
  refine zz_iload_3 dL_law_1033 ?_
  refine zz_iconst 1 dL_law_1034 (by decide) ?_
  refine zz_iadd dL_law_1035 ?_
  refine zz_sld hs (i + 1) (show nI i + 1 = nI (i + 1) from sx_i) (by omega) hL dL_law_1036 ?_
  refine zz_callV1i cv_L_136 rfl (Nat.lt_of_lt_of_le (by decide) hx1.nn) (Nat.le_of_ble_eq_true rfl) (by omega) (by omega) dL_law_1037 (t_X12_trace hx1.nn hx1.1 vw xvw hvw (ms_o.mk (sp := fun S => sp_trace S (xs (i + 1))) hS1 fun g2 hF2 => ⟨_, rfl, ?_⟩))
  refine zz_icmp_eq 1348 dL_law_1040 (by decide) (fun _ => ?_) (fun h => absurd rfl h)
  exact zz_widen (kc' := kc + 27) (ks' := ks + 302) (by omega) (by omega) (hZ _ _ _ _ (hx1.cm hF2.2) hF2.1 (iv_trace hv))
set_option maxHeartbeats 1000000 in
theorem k_sheet {C : zz_C} {d n kc ks i j Ls : Nat} {xs : Nat → Int32} {S g : zz_G} {r : zz_R} {Q : zz_Q} (hs : zz_sx C Ls xs) (hi : i + 6 ≤ Ls) (hL : Ls ≤ 3072) (hc : kc + 27 ≤ 600000) (hk : ks + 302 ≤ 7302250) (hj : j < 9999) (hx : x_rel S g r n) (hS : ms_S g = S) (hv : iv S j) (hZ : ∀ S' g' r' n', x_rel S' g' r' n' → ms_S g' = S' → iv S' (j + 1) → zz_Z C mi_L (d + 60) 600000 7302250 (kc + 27) (ks + 302) 1348 [some (.ref (1000000 + 30)), some (.ref 0), some (.ref 50), some (.int (nI i))] [] g' r' n' Q) : zz_Z C mi_L (d + 60) 600000 7302250 kc ks 1045 [some (.ref (1000000 + 30)), some (.ref 0), some (.ref 50), some (.int (nI i))] [] g r n Q := by
  obtain ⟨hW, ⟨mw, emw, hmw6⟩, ⟨cw, ecw, hcw6⟩, ⟨fw, efw, hfw6⟩, ⟨kw, ekw, hkw0, hkw9⟩, ⟨tp, etp, htp5⟩, ⟨tw, etw, htw20⟩, ⟨vw, evw, hvw⟩, hkd, hz, hT0, hT1⟩ := k_need hx hv
  refine zz_aload_1 dL_law_1045 ?_
  refine zz_aload_0 dL_law_1046 ?_
  refine zz_iload_3 dL_law_1047 ?_
  refine zz_iconst 1 dL_law_1048 (by decide) ?_
  refine zz_iadd dL_law_1049 ?_
  refine zz_sld hs (i + 1) (show nI i + 1 = nI (i + 1) from sx_i) (by omega) hL dL_law_1050 ?_
  refine zz_aload_0 dL_law_1051 ?_
  refine zz_iload_3 dL_law_1052 ?_
  refine zz_iconst 2 dL_law_1053 (by decide) ?_
  refine zz_iadd dL_law_1054 ?_
  refine zz_sld hs (i + 2) (show nI i + 2 = nI (i + 2) from sx_i) (by omega) hL dL_law_1055 ?_
  refine zz_aload_0 dL_law_1056 ?_
  refine zz_iload_3 dL_law_1057 ?_
  refine zz_iconst 3 dL_law_1058 (by decide) ?_
  refine zz_iadd dL_law_1059 ?_
  refine zz_sld hs (i + 3) (show nI i + 3 = nI (i + 3) from sx_i) (by omega) hL dL_law_1060 ?_
  refine zz_callV3i cv_L_137 rfl (Nat.lt_of_lt_of_le (by decide) hx.nn) (Nat.le_of_ble_eq_true rfl) (by omega) (by omega) dL_law_1061 (t_X11_sheet hx  fun g1 r1 n1 hx1 hk1 => ⟨_, rfl, ?_⟩)
  have hS1 : ms_S g1 = S := (ms_S_cg hk1).trans hS
  have h51 : ∀ j, g1 51 j = S 51 j := fun j => by rw [← hS1, ms_51]
  refine zz_aload_2 dL_law_1064 ?_
  refine zz_aload_0 dL_law_1065 ?_
  refine zz_iload_3 dL_law_1066 ?_
  refine zz_iconst 1 dL_law_1067 (by decide) ?_
  refine zz_iadd dL_law_1068 ?_
  refine zz_sld hs (i + 1) (show nI i + 1 = nI (i + 1) from sx_i) (by omega) hL dL_law_1069 ?_
  refine zz_aload_0 dL_law_1070 ?_
  refine zz_iload_3 dL_law_1071 ?_
  refine zz_iconst 2 dL_law_1072 (by decide) ?_
  refine zz_iadd dL_law_1073 ?_
  refine zz_sld hs (i + 2) (show nI i + 2 = nI (i + 2) from sx_i) (by omega) hL dL_law_1074 ?_
  refine zz_aload_0 dL_law_1075 ?_
  refine zz_iload_3 dL_law_1076 ?_
  refine zz_iconst 3 dL_law_1077 (by decide) ?_
  refine zz_iadd dL_law_1078 ?_
  refine zz_sld hs (i + 3) (show nI i + 3 = nI (i + 3) from sx_i) (by omega) hL dL_law_1079 ?_
  refine zz_callV3i cv_L_140 rfl (Nat.lt_of_lt_of_le (by decide) hx1.nn) (Nat.le_of_ble_eq_true rfl) (by omega) (by omega) dL_law_1080 (t_X12_sheet hx1.nn hx1.1  (ms_o.mk (sp := fun S => sp_sheet S (xs (i + 1)) (xs (i + 2)) (xs (i + 3))) hS1 fun g2 hF2 => ⟨_, rfl, ?_⟩))
  refine zz_icmp_eq 1348 dL_law_1083 (by decide) (fun _ => ?_) (fun h => absurd rfl h)
  exact zz_widen (kc' := kc + 27) (ks' := ks + 302) (by omega) (by omega) (hZ _ _ _ _ (hx1.cm hF2.2) hF2.1 (iv_sheet hv))
set_option maxHeartbeats 1000000 in
theorem k_put {C : zz_C} {d n kc ks i j Ls : Nat} {xs : Nat → Int32} {S g : zz_G} {r : zz_R} {Q : zz_Q} (hs : zz_sx C Ls xs) (hi : i + 6 ≤ Ls) (hL : Ls ≤ 3072) (hc : kc + 27 ≤ 600000) (hk : ks + 302 ≤ 7302250) (hj : j < 9999) (hx : x_rel S g r n) (hS : ms_S g = S) (hv : iv S j) (hZ : ∀ S' g' r' n', x_rel S' g' r' n' → ms_S g' = S' → iv S' (j + 1) → zz_Z C mi_L (d + 60) 600000 7302250 (kc + 27) (ks + 302) 1348 [some (.ref (1000000 + 30)), some (.ref 0), some (.ref 50), some (.int (nI i))] [] g' r' n' Q) : zz_Z C mi_L (d + 60) 600000 7302250 kc ks 1088 [some (.ref (1000000 + 30)), some (.ref 0), some (.ref 50), some (.int (nI i))] [] g r n Q := by
  obtain ⟨hW, ⟨mw, emw, hmw6⟩, ⟨cw, ecw, hcw6⟩, ⟨fw, efw, hfw6⟩, ⟨kw, ekw, hkw0, hkw9⟩, ⟨tp, etp, htp5⟩, ⟨tw, etw, htw20⟩, ⟨vw, evw, hvw⟩, hkd, hz, hT0, hT1⟩ := k_need hx hv
  refine zz_aload_1 dL_law_1088 ?_
  refine zz_aload_0 dL_law_1089 ?_
  refine zz_iload_3 dL_law_1090 ?_
  refine zz_iconst 1 dL_law_1091 (by decide) ?_
  refine zz_iadd dL_law_1092 ?_
  refine zz_sld hs (i + 1) (show nI i + 1 = nI (i + 1) from sx_i) (by omega) hL dL_law_1093 ?_
  refine zz_aload_0 dL_law_1094 ?_
  refine zz_iload_3 dL_law_1095 ?_
  refine zz_iconst 2 dL_law_1096 (by decide) ?_
  refine zz_iadd dL_law_1097 ?_
  refine zz_sld hs (i + 2) (show nI i + 2 = nI (i + 2) from sx_i) (by omega) hL dL_law_1098 ?_
  refine zz_aload_0 dL_law_1099 ?_
  refine zz_iload_3 dL_law_1100 ?_
  refine zz_iconst 3 dL_law_1101 (by decide) ?_
  refine zz_iadd dL_law_1102 ?_
  refine zz_sld hs (i + 3) (show nI i + 3 = nI (i + 3) from sx_i) (by omega) hL dL_law_1103 ?_
  refine zz_callV3i cv_L_141 rfl (Nat.lt_of_lt_of_le (by decide) hx.nn) (Nat.le_of_ble_eq_true rfl) (by omega) (by omega) dL_law_1104 (t_X11_put hx hz fun g1 r1 n1 hx1 hk1 => ⟨_, rfl, ?_⟩)
  have hS1 : ms_S g1 = S := (ms_S_cg hk1).trans hS
  have h51 : ∀ j, g1 51 j = S 51 j := fun j => by rw [← hS1, ms_51]
  have hz1 : ∀ s : Nat, s < 4 → ∃ z : Nat, z ≤ 40 ∧ g1 56 s = nI z := fun s q => by rw [← ms_at (g := g1) (k := 56) (j := s) rfl, hS1]; exact hz s q
  refine zz_aload_2 dL_law_1107 ?_
  refine zz_aload_0 dL_law_1108 ?_
  refine zz_iload_3 dL_law_1109 ?_
  refine zz_iconst 1 dL_law_1110 (by decide) ?_
  refine zz_iadd dL_law_1111 ?_
  refine zz_sld hs (i + 1) (show nI i + 1 = nI (i + 1) from sx_i) (by omega) hL dL_law_1112 ?_
  refine zz_aload_0 dL_law_1113 ?_
  refine zz_iload_3 dL_law_1114 ?_
  refine zz_iconst 2 dL_law_1115 (by decide) ?_
  refine zz_iadd dL_law_1116 ?_
  refine zz_sld hs (i + 2) (show nI i + 2 = nI (i + 2) from sx_i) (by omega) hL dL_law_1117 ?_
  refine zz_aload_0 dL_law_1118 ?_
  refine zz_iload_3 dL_law_1119 ?_
  refine zz_iconst 3 dL_law_1120 (by decide) ?_
  refine zz_iadd dL_law_1121 ?_
  refine zz_sld hs (i + 3) (show nI i + 3 = nI (i + 3) from sx_i) (by omega) hL dL_law_1122 ?_
  refine zz_callV3i cv_L_144 rfl (Nat.lt_of_lt_of_le (by decide) hx1.nn) (Nat.le_of_ble_eq_true rfl) (by omega) (by omega) dL_law_1123 (t_X12_put hx1.nn hx1.1 hz1 (ms_o.mk (sp := fun S => sp_put S (xs (i + 1)) (xs (i + 2)) (xs (i + 3))) hS1 fun g2 hF2 => ⟨_, rfl, ?_⟩))
  refine zz_icmp_eq 1348 dL_law_1126 (by decide) (fun _ => ?_) (fun h => absurd rfl h)
  exact zz_widen (kc' := kc + 27) (ks' := ks + 302) (by omega) (by omega) (hZ _ _ _ _ (hx1.cm hF2.2) hF2.1 (iv_put hv))
set_option maxHeartbeats 1000000 in
theorem k_move {C : zz_C} {d n kc ks i j Ls : Nat} {xs : Nat → Int32} {S g : zz_G} {r : zz_R} {Q : zz_Q} (hs : zz_sx C Ls xs) (hi : i + 6 ≤ Ls) (hL : Ls ≤ 3072) (hc : kc + 27 ≤ 600000) (hk : ks + 302 ≤ 7302250) (hj : j < 9999) (hx : x_rel S g r n) (hS : ms_S g = S) (hv : iv S j) (hZ : ∀ S' g' r' n', x_rel S' g' r' n' → ms_S g' = S' → iv S' (j + 1) → zz_Z C mi_L (d + 60) 600000 7302250 (kc + 27) (ks + 302) 1348 [some (.ref (1000000 + 30)), some (.ref 0), some (.ref 50), some (.int (nI i))] [] g' r' n' Q) : zz_Z C mi_L (d + 60) 600000 7302250 kc ks 1131 [some (.ref (1000000 + 30)), some (.ref 0), some (.ref 50), some (.int (nI i))] [] g r n Q := by
  obtain ⟨hW, ⟨mw, emw, hmw6⟩, ⟨cw, ecw, hcw6⟩, ⟨fw, efw, hfw6⟩, ⟨kw, ekw, hkw0, hkw9⟩, ⟨tp, etp, htp5⟩, ⟨tw, etw, htw20⟩, ⟨vw, evw, hvw⟩, hkd, hz, hT0, hT1⟩ := k_need hx hv
  refine zz_aload_1 dL_law_1131 ?_
  refine zz_aload_0 dL_law_1132 ?_
  refine zz_iload_3 dL_law_1133 ?_
  refine zz_iconst 1 dL_law_1134 (by decide) ?_
  refine zz_iadd dL_law_1135 ?_
  refine zz_sld hs (i + 1) (show nI i + 1 = nI (i + 1) from sx_i) (by omega) hL dL_law_1136 ?_
  refine zz_aload_0 dL_law_1137 ?_
  refine zz_iload_3 dL_law_1138 ?_
  refine zz_iconst 2 dL_law_1139 (by decide) ?_
  refine zz_iadd dL_law_1140 ?_
  refine zz_sld hs (i + 2) (show nI i + 2 = nI (i + 2) from sx_i) (by omega) hL dL_law_1141 ?_
  refine zz_aload_0 dL_law_1142 ?_
  refine zz_iload_3 dL_law_1143 ?_
  refine zz_iconst 3 dL_law_1144 (by decide) ?_
  refine zz_iadd dL_law_1145 ?_
  refine zz_sld hs (i + 3) (show nI i + 3 = nI (i + 3) from sx_i) (by omega) hL dL_law_1146 ?_
  refine zz_aload_0 dL_law_1147 ?_
  refine zz_iload_3 dL_law_1148 ?_
  refine zz_iconst 4 dL_law_1149 (by decide) ?_
  refine zz_iadd dL_law_1150 ?_
  refine zz_sld hs (i + 4) (show nI i + 4 = nI (i + 4) from sx_i) (by omega) hL dL_law_1151 ?_
  refine zz_aload_0 dL_law_1152 ?_
  refine zz_iload_3 dL_law_1153 ?_
  refine zz_iconst 5 dL_law_1154 (by decide) ?_
  refine zz_iadd dL_law_1155 ?_
  refine zz_sld hs (i + 5) (show nI i + 5 = nI (i + 5) from sx_i) (by omega) hL dL_law_1156 ?_
  refine zz_callV5i cv_L_145 rfl (Nat.lt_of_lt_of_le (by decide) hx.nn) (Nat.le_of_ble_eq_true rfl) (by omega) (by omega) dL_law_1157 (t_X11_move hx hz fun g1 r1 n1 hx1 hk1 => ⟨_, rfl, ?_⟩)
  have hS1 : ms_S g1 = S := (ms_S_cg hk1).trans hS
  have h51 : ∀ j, g1 51 j = S 51 j := fun j => by rw [← hS1, ms_51]
  have hz1 : ∀ s : Nat, s < 4 → ∃ z : Nat, z ≤ 40 ∧ g1 56 s = nI z := fun s q => by rw [← ms_at (g := g1) (k := 56) (j := s) rfl, hS1]; exact hz s q
  refine zz_aload_2 dL_law_1160 ?_
  refine zz_aload_0 dL_law_1161 ?_
  refine zz_iload_3 dL_law_1162 ?_
  refine zz_iconst 1 dL_law_1163 (by decide) ?_
  refine zz_iadd dL_law_1164 ?_
  refine zz_sld hs (i + 1) (show nI i + 1 = nI (i + 1) from sx_i) (by omega) hL dL_law_1165 ?_
  refine zz_aload_0 dL_law_1166 ?_
  refine zz_iload_3 dL_law_1167 ?_
  refine zz_iconst 2 dL_law_1168 (by decide) ?_
  refine zz_iadd dL_law_1169 ?_
  refine zz_sld hs (i + 2) (show nI i + 2 = nI (i + 2) from sx_i) (by omega) hL dL_law_1170 ?_
  refine zz_aload_0 dL_law_1171 ?_
  refine zz_iload_3 dL_law_1172 ?_
  refine zz_iconst 3 dL_law_1173 (by decide) ?_
  refine zz_iadd dL_law_1174 ?_
  refine zz_sld hs (i + 3) (show nI i + 3 = nI (i + 3) from sx_i) (by omega) hL dL_law_1175 ?_
  refine zz_aload_0 dL_law_1176 ?_
  refine zz_iload_3 dL_law_1177 ?_
  refine zz_iconst 4 dL_law_1178 (by decide) ?_
  refine zz_iadd dL_law_1179 ?_
  refine zz_sld hs (i + 4) (show nI i + 4 = nI (i + 4) from sx_i) (by omega) hL dL_law_1180 ?_
  refine zz_aload_0 dL_law_1181 ?_
  refine zz_iload_3 dL_law_1182 ?_
  refine zz_iconst 5 dL_law_1183 (by decide) ?_
  refine zz_iadd dL_law_1184 ?_
  refine zz_sld hs (i + 5) (show nI i + 5 = nI (i + 5) from sx_i) (by omega) hL dL_law_1185 ?_
  refine zz_callV5i cv_L_149 rfl (Nat.lt_of_lt_of_le (by decide) hx1.nn) (Nat.le_of_ble_eq_true rfl) (by omega) (by omega) dL_law_1186 (t_X12_move hx1.nn hx1.1 hz1 (ms_o.mk (sp := fun S => sp_move S (xs (i + 1)) (xs (i + 2)) (xs (i + 3)) (xs (i + 4)) (xs (i + 5))) hS1 fun g2 hF2 => ⟨_, rfl, ?_⟩))
  refine zz_icmp_eq 1348 dL_law_1189 (by decide) (fun _ => ?_) (fun h => absurd rfl h)
  exact zz_widen (kc' := kc + 27) (ks' := ks + 302) (by omega) (by omega) (hZ _ _ _ _ (hx1.cm hF2.2) hF2.1 (iv_move hv))
set_option maxHeartbeats 1000000 in
theorem k_fars {C : zz_C} {d n kc ks i j Ls : Nat} {xs : Nat → Int32} {S g : zz_G} {r : zz_R} {Q : zz_Q} (hs : zz_sx C Ls xs) (hi : i + 6 ≤ Ls) (hL : Ls ≤ 3072) (hc : kc + 27 ≤ 600000) (hk : ks + 302 ≤ 7302250) (hj : j < 9999) (hx : x_rel S g r n) (hS : ms_S g = S) (hv : iv S j) (hZ : ∀ S' g' r' n', x_rel S' g' r' n' → ms_S g' = S' → iv S' (j + 1) → zz_Z C mi_L (d + 60) 600000 7302250 (kc + 27) (ks + 302) 1348 [some (.ref (1000000 + 30)), some (.ref 0), some (.ref 50), some (.int (nI i))] [] g' r' n' Q) : zz_Z C mi_L (d + 60) 600000 7302250 kc ks 1194 [some (.ref (1000000 + 30)), some (.ref 0), some (.ref 50), some (.int (nI i))] [] g r n Q := by
  obtain ⟨hW, ⟨mw, emw, hmw6⟩, ⟨cw, ecw, hcw6⟩, ⟨fw, efw, hfw6⟩, ⟨kw, ekw, hkw0, hkw9⟩, ⟨tp, etp, htp5⟩, ⟨tw, etw, htw20⟩, ⟨vw, evw, hvw⟩, hkd, hz, hT0, hT1⟩ := k_need hx hv
  refine zz_aload_1 dL_law_1194 ?_
  refine zz_aload_0 dL_law_1195 ?_
  refine zz_iload_3 dL_law_1196 ?_
  refine zz_iconst 1 dL_law_1197 (by decide) ?_
  refine zz_iadd dL_law_1198 ?_
  refine zz_sld hs (i + 1) (show nI i + 1 = nI (i + 1) from sx_i) (by omega) hL dL_law_1199 ?_
  refine zz_callV1i cv_L_150 rfl (Nat.lt_of_lt_of_le (by decide) hx.nn) (Nat.le_of_ble_eq_true rfl) (by omega) (by omega) dL_law_1200 (t_X11_fars hx mw emw hmw6 hz fun g1 r1 n1 hx1 hk1 => ⟨_, rfl, ?_⟩)
  have hS1 : ms_S g1 = S := (ms_S_cg hk1).trans hS
  have h51 : ∀ j, g1 51 j = S 51 j := fun j => by rw [← hS1, ms_51]
  have xmw := (h51 2).trans emw
  have hz1 : ∀ s : Nat, s < 4 → ∃ z : Nat, z ≤ 40 ∧ g1 56 s = nI z := fun s q => by rw [← ms_at (g := g1) (k := 56) (j := s) rfl, hS1]; exact hz s q
  refine zz_aload_2 dL_law_1203 ?_
  refine zz_aload_0 dL_law_1204 ?_
  refine zz_iload_3 dL_law_1205 ?_
  refine zz_iconst 1 dL_law_1206 (by decide) ?_
  refine zz_iadd dL_law_1207 ?_
  refine zz_sld hs (i + 1) (show nI i + 1 = nI (i + 1) from sx_i) (by omega) hL dL_law_1208 ?_
  refine zz_callV1i cv_L_153 rfl (Nat.lt_of_lt_of_le (by decide) hx1.nn) (Nat.le_of_ble_eq_true rfl) (by omega) (by omega) dL_law_1209 (t_X12_fars hx1.nn hx1.1 mw xmw hmw6 hz1 (ms_o.mk (sp := fun S => sp_fars S (xs (i + 1))) hS1 fun g2 hF2 => ⟨_, rfl, ?_⟩))
  refine zz_icmp_eq 1348 dL_law_1212 (by decide) (fun _ => ?_) (fun h => absurd rfl h)
  exact zz_widen (kc' := kc + 27) (ks' := ks + 302) (by omega) (by omega) (hZ _ _ _ _ (hx1.cm hF2.2) hF2.1 (iv_fars hv))
set_option maxHeartbeats 1000000 in
theorem k_judge {C : zz_C} {d n kc ks i j Ls : Nat} {xs : Nat → Int32} {S g : zz_G} {r : zz_R} {Q : zz_Q} (hs : zz_sx C Ls xs) (hi : i + 6 ≤ Ls) (hL : Ls ≤ 3072) (hc : kc + 27 ≤ 600000) (hk : ks + 302 ≤ 7302250) (hj : j < 9999) (hx : x_rel S g r n) (hS : ms_S g = S) (hv : iv S j) (hZ : ∀ S' g' r' n', x_rel S' g' r' n' → ms_S g' = S' → iv S' (j + 1) → zz_Z C mi_L (d + 60) 600000 7302250 (kc + 27) (ks + 302) 1348 [some (.ref (1000000 + 30)), some (.ref 0), some (.ref 50), some (.int (nI i))] [] g' r' n' Q) : zz_Z C mi_L (d + 60) 600000 7302250 kc ks 1217 [some (.ref (1000000 + 30)), some (.ref 0), some (.ref 50), some (.int (nI i))] [] g r n Q := by
  obtain ⟨hW, ⟨mw, emw, hmw6⟩, ⟨cw, ecw, hcw6⟩, ⟨fw, efw, hfw6⟩, ⟨kw, ekw, hkw0, hkw9⟩, ⟨tp, etp, htp5⟩, ⟨tw, etw, htw20⟩, ⟨vw, evw, hvw⟩, hkd, hz, hT0, hT1⟩ := k_need hx hv
  refine zz_aload_1 dL_law_1217 ?_
  refine zz_aload_0 dL_law_1218 ?_
  refine zz_iload_3 dL_law_1219 ?_
  refine zz_iconst 1 dL_law_1220 (by decide) ?_
  refine zz_iadd dL_law_1221 ?_
  refine zz_sld hs (i + 1) (show nI i + 1 = nI (i + 1) from sx_i) (by omega) hL dL_law_1222 ?_
  refine zz_callV1i cv_L_154 rfl (Nat.lt_of_lt_of_le (by decide) hx.nn) (Nat.le_of_ble_eq_true rfl) (by omega) (by omega) dL_law_1223 (t_X11_judge hx mw emw hmw6 hz fun g1 r1 n1 hx1 hk1 => ⟨_, rfl, ?_⟩)
  have hS1 : ms_S g1 = S := (ms_S_cg hk1).trans hS
  have h51 : ∀ j, g1 51 j = S 51 j := fun j => by rw [← hS1, ms_51]
  have xmw := (h51 2).trans emw
  have hz1 : ∀ s : Nat, s < 4 → ∃ z : Nat, z ≤ 40 ∧ g1 56 s = nI z := fun s q => by rw [← ms_at (g := g1) (k := 56) (j := s) rfl, hS1]; exact hz s q
  refine zz_aload_2 dL_law_1226 ?_
  refine zz_aload_0 dL_law_1227 ?_
  refine zz_iload_3 dL_law_1228 ?_
  refine zz_iconst 1 dL_law_1229 (by decide) ?_
  refine zz_iadd dL_law_1230 ?_
  refine zz_sld hs (i + 1) (show nI i + 1 = nI (i + 1) from sx_i) (by omega) hL dL_law_1231 ?_
  refine zz_callV1i cv_L_157 rfl (Nat.lt_of_lt_of_le (by decide) hx1.nn) (Nat.le_of_ble_eq_true rfl) (by omega) (by omega) dL_law_1232 (t_X12_judge hx1.nn hx1.1 mw xmw hmw6 hz1 (ms_o.mk (sp := fun S => sp_judge S (xs (i + 1))) hS1 fun g2 hF2 => ⟨_, rfl, ?_⟩))
  refine zz_icmp_eq 1348 dL_law_1235 (by decide) (fun _ => ?_) (fun h => absurd rfl h)
  exact zz_widen (kc' := kc + 27) (ks' := ks + 302) (by omega) (by omega) (hZ _ _ _ _ (hx1.cm hF2.2) hF2.1 (iv_judge hv))
set_option maxHeartbeats 1000000 in
theorem k_image {C : zz_C} {d n kc ks i j Ls : Nat} {xs : Nat → Int32} {S g : zz_G} {r : zz_R} {Q : zz_Q} (hs : zz_sx C Ls xs) (hi : i + 6 ≤ Ls) (hL : Ls ≤ 3072) (hc : kc + 27 ≤ 600000) (hk : ks + 302 ≤ 7302250) (hj : j < 9999) (hx : x_rel S g r n) (hS : ms_S g = S) (hv : iv S j) (hZ : ∀ S' g' r' n', x_rel S' g' r' n' → ms_S g' = S' → iv S' (j + 1) → zz_Z C mi_L (d + 60) 600000 7302250 (kc + 27) (ks + 302) 1348 [some (.ref (1000000 + 30)), some (.ref 0), some (.ref 50), some (.int (nI i))] [] g' r' n' Q) : zz_Z C mi_L (d + 60) 600000 7302250 kc ks 1240 [some (.ref (1000000 + 30)), some (.ref 0), some (.ref 50), some (.int (nI i))] [] g r n Q := by
  obtain ⟨hW, ⟨mw, emw, hmw6⟩, ⟨cw, ecw, hcw6⟩, ⟨fw, efw, hfw6⟩, ⟨kw, ekw, hkw0, hkw9⟩, ⟨tp, etp, htp5⟩, ⟨tw, etw, htw20⟩, ⟨vw, evw, hvw⟩, hkd, hz, hT0, hT1⟩ := k_need hx hv
  refine zz_aload_1 dL_law_1240 ?_
  refine zz_callV0i cv_L_158 rfl (Nat.lt_of_lt_of_le (by decide) hx.nn) (Nat.le_of_ble_eq_true rfl) (by omega) (by omega) dL_law_1241 (t_X11_image hx  fun g1 r1 n1 hx1 hk1 => ⟨_, rfl, ?_⟩)
  have hS1 : ms_S g1 = S := (ms_S_cg hk1).trans hS
  have h51 : ∀ j, g1 51 j = S 51 j := fun j => by rw [← hS1, ms_51]
  refine zz_aload_2 dL_law_1244 ?_
  refine zz_callV0i cv_L_161 rfl (Nat.lt_of_lt_of_le (by decide) hx1.nn) (Nat.le_of_ble_eq_true rfl) (by omega) (by omega) dL_law_1245 (t_X12_image hx1.nn hx1.1  (ms_o.mk (sp := fun S => sp_image S ) hS1 fun g2 hF2 => ⟨_, rfl, ?_⟩))
  refine zz_icmp_eq 1348 dL_law_1248 (by decide) (fun _ => ?_) (fun h => absurd rfl h)
  exact zz_widen (kc' := kc + 27) (ks' := ks + 302) (by omega) (by omega) (hZ _ _ _ _ (hx1.cm hF2.2) hF2.1 (iv_image hv))
set_option maxHeartbeats 1000000 in
theorem k_restore {C : zz_C} {d n kc ks i j Ls : Nat} {xs : Nat → Int32} {S g : zz_G} {r : zz_R} {Q : zz_Q} (hs : zz_sx C Ls xs) (hi : i + 6 ≤ Ls) (hL : Ls ≤ 3072) (hc : kc + 27 ≤ 600000) (hk : ks + 302 ≤ 7302250) (hj : j < 9999) (hx : x_rel S g r n) (hS : ms_S g = S) (hv : iv S j) (hZ : ∀ S' g' r' n', x_rel S' g' r' n' → ms_S g' = S' → iv S' (j + 1) → zz_Z C mi_L (d + 60) 600000 7302250 (kc + 27) (ks + 302) 1348 [some (.ref (1000000 + 30)), some (.ref 0), some (.ref 50), some (.int (nI i))] [] g' r' n' Q) : zz_Z C mi_L (d + 60) 600000 7302250 kc ks 1253 [some (.ref (1000000 + 30)), some (.ref 0), some (.ref 50), some (.int (nI i))] [] g r n Q := by
  obtain ⟨hW, ⟨mw, emw, hmw6⟩, ⟨cw, ecw, hcw6⟩, ⟨fw, efw, hfw6⟩, ⟨kw, ekw, hkw0, hkw9⟩, ⟨tp, etp, htp5⟩, ⟨tw, etw, htw20⟩, ⟨vw, evw, hvw⟩, hkd, hz, hT0, hT1⟩ := k_need hx hv
  refine zz_aload_1 dL_law_1253 ?_
  refine zz_callV0i cv_L_162 rfl (Nat.lt_of_lt_of_le (by decide) hx.nn) (Nat.le_of_ble_eq_true rfl) (by omega) (by omega) dL_law_1254 (t_X11_restore hx  fun g1 r1 n1 hx1 hk1 => ⟨_, rfl, ?_⟩)
  have hS1 : ms_S g1 = S := (ms_S_cg hk1).trans hS
  have h51 : ∀ j, g1 51 j = S 51 j := fun j => by rw [← hS1, ms_51]
  refine zz_aload_2 dL_law_1257 ?_
  refine zz_callV0i cv_L_165 rfl (Nat.lt_of_lt_of_le (by decide) hx1.nn) (Nat.le_of_ble_eq_true rfl) (by omega) (by omega) dL_law_1258 (t_X12_restore hx1.nn hx1.1  (ms_o.mk (sp := fun S => sp_restore S ) hS1 fun g2 hF2 => ⟨_, rfl, ?_⟩))
  refine zz_icmp_eq 1348 dL_law_1261 (by decide) (fun _ => ?_) (fun h => absurd rfl h)
  exact zz_widen (kc' := kc + 27) (ks' := ks + 302) (by omega) (by omega) (hZ _ _ _ _ (hx1.cm hF2.2) hF2.1 (iv_restore hv))
set_option maxHeartbeats 1000000 in
theorem k_tell {C : zz_C} {d n kc ks i j Ls : Nat} {xs : Nat → Int32} {S g : zz_G} {r : zz_R} {Q : zz_Q} (hs : zz_sx C Ls xs) (hi : i + 6 ≤ Ls) (hL : Ls ≤ 3072) (hc : kc + 27 ≤ 600000) (hk : ks + 302 ≤ 7302250) (hj : j < 9999) (hx : x_rel S g r n) (hS : ms_S g = S) (hv : iv S j) (hZ : ∀ S' g' r' n', x_rel S' g' r' n' → ms_S g' = S' → iv S' (j + 1) → zz_Z C mi_L (d + 60) 600000 7302250 (kc + 27) (ks + 302) 1348 [some (.ref (1000000 + 30)), some (.ref 0), some (.ref 50), some (.int (nI i))] [] g' r' n' Q) : zz_Z C mi_L (d + 60) 600000 7302250 kc ks 1266 [some (.ref (1000000 + 30)), some (.ref 0), some (.ref 50), some (.int (nI i))] [] g r n Q := by
  obtain ⟨hW, ⟨mw, emw, hmw6⟩, ⟨cw, ecw, hcw6⟩, ⟨fw, efw, hfw6⟩, ⟨kw, ekw, hkw0, hkw9⟩, ⟨tp, etp, htp5⟩, ⟨tw, etw, htw20⟩, ⟨vw, evw, hvw⟩, hkd, hz, hT0, hT1⟩ := k_need hx hv
  refine zz_aload_1 dL_law_1266 ?_
  refine zz_aload_0 dL_law_1267 ?_
  refine zz_iload_3 dL_law_1268 ?_
  refine zz_iconst 1 dL_law_1269 (by decide) ?_
  refine zz_iadd dL_law_1270 ?_
  refine zz_sld hs (i + 1) (show nI i + 1 = nI (i + 1) from sx_i) (by omega) hL dL_law_1271 ?_
  refine zz_callV1i cv_L_166 rfl (Nat.lt_of_lt_of_le (by decide) hx.nn) (Nat.le_of_ble_eq_true rfl) (by omega) (by omega) dL_law_1272 (t_X11_tell hx tw etw htw20 fun g1 r1 n1 hx1 hk1 => ⟨_, rfl, ?_⟩)
  have hS1 : ms_S g1 = S := (ms_S_cg hk1).trans hS
  have h51 : ∀ j, g1 51 j = S 51 j := fun j => by rw [← hS1, ms_51]
  have xtw := (h51 4).trans etw
  refine zz_aload_2 dL_law_1275 ?_
  refine zz_aload_0 dL_law_1276 ?_
  refine zz_iload_3 dL_law_1277 ?_
  refine zz_iconst 1 dL_law_1278 (by decide) ?_
  refine zz_iadd dL_law_1279 ?_
  refine zz_sld hs (i + 1) (show nI i + 1 = nI (i + 1) from sx_i) (by omega) hL dL_law_1280 ?_
  refine zz_callV1i cv_L_169 rfl (Nat.lt_of_lt_of_le (by decide) hx1.nn) (Nat.le_of_ble_eq_true rfl) (by omega) (by omega) dL_law_1281 (t_X12_tell hx1.nn hx1.1 tw xtw htw20 (ms_o.mk (sp := fun S => sp_tell S (xs (i + 1))) hS1 fun g2 hF2 => ⟨_, rfl, ?_⟩))
  refine zz_icmp_eq 1348 dL_law_1284 (by decide) (fun _ => ?_) (fun h => absurd rfl h)
  exact zz_widen (kc' := kc + 27) (ks' := ks + 302) (by omega) (by omega) (hZ _ _ _ _ (hx1.cm hF2.2) hF2.1 (iv_tell hv))
set_option maxHeartbeats 1000000 in
theorem k_check {C : zz_C} {d n kc ks i j Ls : Nat} {xs : Nat → Int32} {S g : zz_G} {r : zz_R} {Q : zz_Q} (hs : zz_sx C Ls xs) (hi : i + 6 ≤ Ls) (hL : Ls ≤ 3072) (hc : kc + 27 ≤ 600000) (hk : ks + 302 ≤ 7302250) (hj : j < 9999) (hx : x_rel S g r n) (hS : ms_S g = S) (hv : iv S j) (hZ : ∀ S' g' r' n', x_rel S' g' r' n' → ms_S g' = S' → iv S' (j + 1) → zz_Z C mi_L (d + 60) 600000 7302250 (kc + 27) (ks + 302) 1348 [some (.ref (1000000 + 30)), some (.ref 0), some (.ref 50), some (.int (nI i))] [] g' r' n' Q) : zz_Z C mi_L (d + 60) 600000 7302250 kc ks 1289 [some (.ref (1000000 + 30)), some (.ref 0), some (.ref 50), some (.int (nI i))] [] g r n Q := by
  obtain ⟨hW, ⟨mw, emw, hmw6⟩, ⟨cw, ecw, hcw6⟩, ⟨fw, efw, hfw6⟩, ⟨kw, ekw, hkw0, hkw9⟩, ⟨tp, etp, htp5⟩, ⟨tw, etw, htw20⟩, ⟨vw, evw, hvw⟩, hkd, hz, hT0, hT1⟩ := k_need hx hv
  refine zz_aload_1 dL_law_1289 ?_
  refine zz_callV0i cv_L_170 rfl (Nat.lt_of_lt_of_le (by decide) hx.nn) (Nat.le_of_ble_eq_true rfl) (by omega) (by omega) dL_law_1290 (t_X11_check hx mw emw hmw6 hW fun g1 r1 n1 hx1 hk1 => ⟨_, rfl, ?_⟩)
  have hS1 : ms_S g1 = S := (ms_S_cg hk1).trans hS
  have h51 : ∀ j, g1 51 j = S 51 j := fun j => by rw [← hS1, ms_51]
  have xmw := (h51 2).trans emw
  have xtw := (h51 4).trans etw
  have f51 : g1 51 = S 51 := funext h51
  rw [← f51] at hT0
  refine zz_aload_2 dL_law_1293 ?_
  refine zz_callV0i cv_L_173 rfl (Nat.lt_of_lt_of_le (by decide) hx1.nn) (Nat.le_of_ble_eq_true rfl) (by omega) (by omega) dL_law_1294 (t_X12_check hx1.nn hx1.1 mw xmw hmw6 hT0 tw xtw htw20 (ms_o.mk (sp := fun S => sp_check S ) hS1 fun g2 hF2 => ⟨_, rfl, ?_⟩))
  refine zz_icmp_eq 1348 dL_law_1297 (by decide) (fun _ => ?_) (fun h => absurd rfl h)
  exact zz_widen (kc' := kc + 27) (ks' := ks + 302) (by omega) (by omega) (hZ _ _ _ _ (hx1.cm hF2.2) hF2.1 (iv_check hv))
set_option maxHeartbeats 1000000 in
theorem k_count {C : zz_C} {d n kc ks i j Ls : Nat} {xs : Nat → Int32} {S g : zz_G} {r : zz_R} {Q : zz_Q} (hs : zz_sx C Ls xs) (hi : i + 6 ≤ Ls) (hL : Ls ≤ 3072) (hc : kc + 27 ≤ 600000) (hk : ks + 302 ≤ 7302250) (hj : j < 9999) (hx : x_rel S g r n) (hS : ms_S g = S) (hv : iv S j) (hZ : ∀ S' g' r' n', x_rel S' g' r' n' → ms_S g' = S' → iv S' (j + 1) → zz_Z C mi_L (d + 60) 600000 7302250 (kc + 27) (ks + 302) 1348 [some (.ref (1000000 + 30)), some (.ref 0), some (.ref 50), some (.int (nI i))] [] g' r' n' Q) : zz_Z C mi_L (d + 60) 600000 7302250 kc ks 1302 [some (.ref (1000000 + 30)), some (.ref 0), some (.ref 50), some (.int (nI i))] [] g r n Q := by
  obtain ⟨hW, ⟨mw, emw, hmw6⟩, ⟨cw, ecw, hcw6⟩, ⟨fw, efw, hfw6⟩, ⟨kw, ekw, hkw0, hkw9⟩, ⟨tp, etp, htp5⟩, ⟨tw, etw, htw20⟩, ⟨vw, evw, hvw⟩, hkd, hz, hT0, hT1⟩ := k_need hx hv
  refine zz_aload_1 dL_law_1302 ?_
  refine zz_aload_0 dL_law_1303 ?_
  refine zz_iload_3 dL_law_1304 ?_
  refine zz_iconst 1 dL_law_1305 (by decide) ?_
  refine zz_iadd dL_law_1306 ?_
  refine zz_sld hs (i + 1) (show nI i + 1 = nI (i + 1) from sx_i) (by omega) hL dL_law_1307 ?_
  refine zz_callV1i cv_L_174 rfl (Nat.lt_of_lt_of_le (by decide) hx.nn) (Nat.le_of_ble_eq_true rfl) (by omega) (by omega) dL_law_1308 (t_X11_count hx  fun g1 r1 n1 hx1 hk1 => ⟨_, rfl, ?_⟩)
  have hS1 : ms_S g1 = S := (ms_S_cg hk1).trans hS
  have h51 : ∀ j, g1 51 j = S 51 j := fun j => by rw [← hS1, ms_51]
  have xvw : g1 50 19 = nI vw := by rw [← evw, ← hS1, ms_at rfl]
  refine zz_aload_2 dL_law_1311 ?_
  refine zz_aload_0 dL_law_1312 ?_
  refine zz_iload_3 dL_law_1313 ?_
  refine zz_iconst 1 dL_law_1314 (by decide) ?_
  refine zz_iadd dL_law_1315 ?_
  refine zz_sld hs (i + 1) (show nI i + 1 = nI (i + 1) from sx_i) (by omega) hL dL_law_1316 ?_
  refine zz_callV1i cv_L_177 rfl (Nat.lt_of_lt_of_le (by decide) hx1.nn) (Nat.le_of_ble_eq_true rfl) (by omega) (by omega) dL_law_1317 (t_X12_count hx1.nn hx1.1 vw xvw (ms_o.mk (sp := fun S => sp_count S (xs (i + 1))) hS1 fun g2 hF2 => ⟨_, rfl, ?_⟩))
  refine zz_icmp_eq 1348 dL_law_1320 (by decide) (fun _ => ?_) (fun h => absurd rfl h)
  exact zz_widen (kc' := kc + 27) (ks' := ks + 302) (by omega) (by omega) (hZ _ _ _ _ (hx1.cm hF2.2) hF2.1 (iv_count hv))
set_option maxHeartbeats 1000000 in
theorem k_told {C : zz_C} {d n kc ks i j Ls : Nat} {xs : Nat → Int32} {S g : zz_G} {r : zz_R} {Q : zz_Q} (hs : zz_sx C Ls xs) (hi : i + 6 ≤ Ls) (hL : Ls ≤ 3072) (hc : kc + 27 ≤ 600000) (hk : ks + 302 ≤ 7302250) (hj : j < 9999) (hx : x_rel S g r n) (hS : ms_S g = S) (hv : iv S j) (hZ : ∀ S' g' r' n', x_rel S' g' r' n' → ms_S g' = S' → iv S' (j + 1) → zz_Z C mi_L (d + 60) 600000 7302250 (kc + 27) (ks + 302) 1348 [some (.ref (1000000 + 30)), some (.ref 0), some (.ref 50), some (.int (nI i))] [] g' r' n' Q) : zz_Z C mi_L (d + 60) 600000 7302250 kc ks 1325 [some (.ref (1000000 + 30)), some (.ref 0), some (.ref 50), some (.int (nI i))] [] g r n Q := by
  obtain ⟨hW, ⟨mw, emw, hmw6⟩, ⟨cw, ecw, hcw6⟩, ⟨fw, efw, hfw6⟩, ⟨kw, ekw, hkw0, hkw9⟩, ⟨tp, etp, htp5⟩, ⟨tw, etw, htw20⟩, ⟨vw, evw, hvw⟩, hkd, hz, hT0, hT1⟩ := k_need hx hv
  refine zz_aload_1 dL_law_1325 ?_
  refine zz_aload_0 dL_law_1326 ?_
  refine zz_iload_3 dL_law_1327 ?_
  refine zz_iconst 1 dL_law_1328 (by decide) ?_
  refine zz_iadd dL_law_1329 ?_
  refine zz_sld hs (i + 1) (show nI i + 1 = nI (i + 1) from sx_i) (by omega) hL dL_law_1330 ?_
  refine zz_callV1i cv_L_178 rfl (Nat.lt_of_lt_of_le (by decide) hx.nn) (Nat.le_of_ble_eq_true rfl) (by omega) (by omega) dL_law_1331 (t_X11_told hx  fun g1 r1 n1 hx1 hk1 => ⟨_, rfl, ?_⟩)
  have hS1 : ms_S g1 = S := (ms_S_cg hk1).trans hS
  have h51 : ∀ j, g1 51 j = S 51 j := fun j => by rw [← hS1, ms_51]
  refine zz_aload_2 dL_law_1334 ?_
  refine zz_aload_0 dL_law_1335 ?_
  refine zz_iload_3 dL_law_1336 ?_
  refine zz_iconst 1 dL_law_1337 (by decide) ?_
  refine zz_iadd dL_law_1338 ?_
  refine zz_sld hs (i + 1) (show nI i + 1 = nI (i + 1) from sx_i) (by omega) hL dL_law_1339 ?_
  refine zz_callV1i cv_L_181 rfl (Nat.lt_of_lt_of_le (by decide) hx1.nn) (Nat.le_of_ble_eq_true rfl) (by omega) (by omega) dL_law_1340 (t_X12_told hx1.nn hx1.1  (ms_o.mk (sp := fun S => sp_told S (xs (i + 1))) hS1 fun g2 hF2 => ⟨_, rfl, ?_⟩))
  refine zz_icmp_eq 1348 dL_law_1343 (by decide) (fun _ => ?_) (fun h => absurd rfl h)
  exact zz_widen (kc' := kc + 27) (ks' := ks + 302) (by omega) (by omega) (hZ _ _ _ _ (hx1.cm hF2.2) hF2.1 (iv_told hv))