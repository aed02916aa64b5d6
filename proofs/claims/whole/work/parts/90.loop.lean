set_option maxHeartbeats 4000000 in
set_option maxRecDepth 100000 in
theorem lw_loop (p : Program) (l : Launch) (e : Env) (s : State) (m : MethodId) (args : Array Value) (below : List Frame) (meth : Method) (c : Code) (dC : Nat → ClassId) (dI : Nat → Nat → Nat) (cI cL : ClassId) (qT : Nat) (A : Nat → Prop) (Q : State → Prop) (c0 : Cond) (S : CallFix p m c c_L_law 8 s args (c0 :: zB) "KiloFractionsLaw") (hK : va_K (dC, dI) zcl [(cI, .int), (cL, .long)] s) (hg : zG cI cL qT A s) (hA : ∀ q : Nat, s.heap.size ≤ q → A q) (hst : l.stackTraces = false) (bs L : Nat) (xs : Nat → Int32) (hX : va_X bs L xs s s.heap) (hbs : bs < s.heap.size) (hnA : ¬ A bs) (hL : L ≤ 2560) (k mo ou : Nat) (ws0 : va_W) (hI0 : lwInv cI cL k mo ou ws0) (hend : ∀ (k mo ou t : Nat) (ws2 : va_W), lwInv cI cL k mo ou ws2 → t ≤ 512 → ZZ p l e { frames := 12, cells := 1091, slots := 11859, locals := 430 } s m args below meth c (dC, dI) zcl A s.heap 8 (60 + t) (4000 + 6 * t) Q 1412 [(0, .ref bs), (1, .ref k), (2, .ref mo), (3, .ref ou), (4, .int (zI ((5 * t : Nat) : Int)))] [] ws2) : ZZ p l e { frames := 12, cells := 1091, slots := 11859, locals := 430 } s m args below meth c (dC, dI) zcl A s.heap 8 (60 + 0) (4000 + 6 * 0) Q 23 [(0, .ref bs), (1, .ref k), (2, .ref mo), (3, .ref ou), (4, .int (zI ((5 * 0 : Nat) : Int)))] [] ws0 := by
  refine z_loopC (σ := Nat × va_W) (I := fun z => z.1 ≤ 512 ∧ lwInv cI cL k mo ou z.2) (μ := fun z => 600 - z.1) (LV := fun z => [(0, .ref bs), (1, .ref k), (2, .ref mo), (3, .ref ou), (4, .int (zI ((5 * z.1 : Nat) : Int)))]) (WS := fun z => z.2) (CE := fun z => 60 + z.1) (SL := fun z => 4000 + 6 * z.1) (a := (0, ws0)) ⟨Nat.zero_le _, hI0⟩ ?_
  intro ⟨t, ws⟩ hI ih
  have ht0 : t ≤ 512 := hI.1
  have hI1 : lwInv cI cL k mo ou ws := hI.2
  show ZZ p l e { frames := 12, cells := 1091, slots := 11859, locals := 430 } s m args below meth c (dC, dI) zcl A s.heap 8 (60 + t) (4000 + 6 * t) Q 23 [(0, .ref bs), (1, .ref k), (2, .ref mo), (3, .ref ou), (4, .int (zI ((5 * t : Nat) : Int)))] [] ws
  have kk : 5 * t + 5 ≤ L → ∀ ws2 : va_W, lwInv cI cL k mo ou ws2 → ZZ p l e { frames := 12, cells := 1091, slots := 11859, locals := 430 } s m args below meth c (dC, dI) zcl A s.heap 8 (60 + t + 1) (4000 + 6 * t + 6) Q 1406 [(0, .ref bs), (1, .ref k), (2, .ref mo), (3, .ref ou), (4, .int (zI ((5 * t : Nat) : Int)))] [] ws2 := by
    intro ht ws2 hI2
    refine z_iinc (y := ((5 * (t + 1) : Nat) : Int)) (lv' := [(4, .int (zI ((5 * (t + 1) : Nat) : Int))), (0, .ref bs), (1, .ref k), (2, .ref mo), (3, .ref ou)]) S d_L_law_1406 4 rfl (by omega) (by decide) rfl ?_
    refine z_goto (tgt := 23) S d_L_law_1409 (by decide) ?_
    refine z_lv (lv' := [(0, .ref bs), (1, .ref k), (2, .ref mo), (3, .ref ou), (4, .int (zI ((5 * (t + 1) : Nat) : Int)))]) [1, 2, 3, 4, 0] rfl ?_
    refine z_widen (c2 := 60 + (t + 1)) (s2 := 4000 + 6 * (t + 1)) (by omega) (by omega) ?_
    exact ih (t + 1, ws2) ⟨by show t + 1 ≤ 512; omega, hI2⟩ (by show 600 - (t + 1) < 600 - t; omega)
  refine z_iload S d_L_law_23 4 rfl ?_
  refine z_aload_n S d_L_law_25 0 rfl ?_
  refine z_slen S hX hbs hnA d_L_law_26 ?_
  refine z_iconst S d_L_law_27 ?_
  refine z_isub S d_L_law_28 ?_
  refine z_icmp_gt (tgt := 1412) S d_L_law_29 (by decide) (by omega) (by omega) (fun hc => ?_) (fun hc => ?_)
  · exact hend k mo ou t ws hI1 ht0
  · have ht : 5 * t + 5 ≤ L := by omega
    obtain ⟨a0, ha0⟩ : ∃ z : Int, (xs (5 * t)).toInt = z := ⟨_, rfl⟩
    obtain ⟨z, hz⟩ : ∃ z : Int, (zI a0 &&& zI 31).toInt = z := ⟨_, rfl⟩
    have hzr := zI_r (zI a0 &&& zI 31)
    rw [hz] at hzr
    refine z_aload_n S d_L_law_32 0 rfl ?_
    refine z_iload S d_L_law_33 4 rfl ?_
    refine z_sald2 (x := a0) S hX hbs hnA (5 * t) rfl (by omega) hL ha0 d_L_law_35 ?_
    refine z_bipush S d_L_law_36 rfl ?_
    refine z_iand2 S hz d_L_law_38 ?_
    by_cases hin : 0 ≤ z ∧ z ≤ 16
    · rcases (show z = 0 ∨ z = 1 ∨ z = 2 ∨ z = 3 ∨ z = 4 ∨ z = 5 ∨ z = 6 ∨ z = 7 ∨ z = 8 ∨ z = 9 ∨ z = 10 ∨ z = 11 ∨ z = 12 ∨ z = 13 ∨ z = 14 ∨ z = 15 ∨ z = 16 by omega) with rfl | rfl | rfl | rfl | rfl | rfl | rfl | rfl | rfl | rfl | rfl | rfl | rfl | rfl | rfl | rfl | rfl
      · exact z_tsIn (off := 81) (tgt := 120) S d_L_law_39 hzr (by omega) (by omega) (by decide) (by decide) (lw_value p l e s m args below meth c dC dI cI cL qT A Q c0 S hK hg hA hst bs L xs hX hbs hnA hL k mo ou t ht ws hI1 (kk ht))
      · exact z_tsIn (off := 213) (tgt := 252) S d_L_law_39 hzr (by omega) (by omega) (by decide) (by decide) (lw_add p l e s m args below meth c dC dI cI cL qT A Q c0 S hK hg hA hst bs L xs hX hbs hnA hL k mo ou t ht ws hI1 (kk ht))
      · exact z_tsIn (off := 281) (tgt := 320) S d_L_law_39 hzr (by omega) (by omega) (by decide) (by decide) (lw_less p l e s m args below meth c dC dI cI cL qT A Q c0 S hK hg hA hst bs L xs hX hbs hnA hL k mo ou t ht ws hI1 (kk ht))
      · exact z_tsIn (off := 349) (tgt := 388) S d_L_law_39 hzr (by omega) (by omega) (by decide) (by decide) (lw_times p l e s m args below meth c dC dI cI cL qT A Q c0 S hK hg hA hst bs L xs hX hbs hnA hL k mo ou t ht ws hI1 (kk ht))
      · exact z_tsIn (off := 417) (tgt := 456) S d_L_law_39 hzr (by omega) (by omega) (by decide) (by decide) (lw_over p l e s m args below meth c dC dI cI cL qT A Q c0 S hK hg hA hst bs L xs hX hbs hnA hL k mo ou t ht ws hI1 (kk ht))
      · exact z_tsIn (off := 485) (tgt := 524) S d_L_law_39 hzr (by omega) (by omega) (by decide) (by decide) (lw_order p l e s m args below meth c dC dI cI cL qT A Q c0 S hK hg hA hst bs L xs hX hbs hnA hL k mo ou t ht ws hI1 (kk ht))
      · exact z_tsIn (off := 553) (tgt := 592) S d_L_law_39 hzr (by omega) (by omega) (by decide) (by decide) (lw_round p l e s m args below meth c dC dI cI cL qT A Q c0 S hK hg hA hst bs L xs hX hbs hnA hL k mo ou t ht ws hI1 (kk ht))
      · exact z_tsIn (off := 665) (tgt := 704) S d_L_law_39 hzr (by omega) (by omega) (by decide) (by decide) (lw_span p l e s m args below meth c dC dI cI cL qT A Q c0 S hK hg hA hst bs L xs hX hbs hnA hL k mo ou t ht ws hI1 (kk ht))
      · exact z_tsIn (off := 733) (tgt := 772) S d_L_law_39 hzr (by omega) (by omega) (by decide) (by decide) (lw_spanTimes p l e s m args below meth c dC dI cI cL qT A Q c0 S hK hg hA hst bs L xs hX hbs hnA hL k mo ou t ht ws hI1 (kk ht))
      · exact z_tsIn (off := 801) (tgt := 840) S d_L_law_39 hzr (by omega) (by omega) (by decide) (by decide) (lw_end p l e s m args below meth c dC dI cI cL qT A Q c0 S hK hg hA hst bs L xs hX hbs hnA hL k mo ou t ht ws hI1 (kk ht))
      · exact z_tsIn (off := 869) (tgt := 908) S d_L_law_39 hzr (by omega) (by omega) (by decide) (by decide) (lw_within p l e s m args below meth c dC dI cI cL qT A Q c0 S hK hg hA hst bs L xs hX hbs hnA hL k mo ou t ht ws hI1 (kk ht))
      · exact z_tsIn (off := 944) (tgt := 983) S d_L_law_39 hzr (by omega) (by omega) (by decide) (by decide) (lw_weight p l e s m args below meth c dC dI cI cL qT A Q c0 S hK hg hA hst bs L xs hX hbs hnA hL k mo ou t ht ws hI1 (kk ht))
      · exact z_tsIn (off := 1032) (tgt := 1071) S d_L_law_39 hzr (by omega) (by omega) (by decide) (by decide) (lw_share p l e s m args below meth c dC dI cI cL qT A Q c0 S hK hg hA hst bs L xs hX hbs hnA hL k mo ou t ht ws hI1 (kk ht))
      · exact z_tsIn (off := 1131) (tgt := 1170) S d_L_law_39 hzr (by omega) (by omega) (by decide) (by decide) (lw_giving p l e s m args below meth c dC dI cI cL qT A Q c0 S hK hg hA hst bs L xs hX hbs hnA hL k mo ou t ht ws hI1 (kk ht))
      · exact z_tsIn (off := 1187) (tgt := 1226) S d_L_law_39 hzr (by omega) (by omega) (by decide) (by decide) (lw_rest p l e s m args below meth c dC dI cI cL qT A Q c0 S hK hg hA hst bs L xs hX hbs hnA hL k mo ou t ht ws hI1 (kk ht))
      · exact z_tsIn (off := 1231) (tgt := 1270) S d_L_law_39 hzr (by omega) (by omega) (by decide) (by decide) (lw_sign p l e s m args below meth c dC dI cI cL qT A Q c0 S hK hg hA hst bs L xs hX hbs hnA hL k mo ou t ht ws hI1 (kk ht))
      · exact z_tsIn (off := 1287) (tgt := 1326) S d_L_law_39 hzr (by omega) (by omega) (by decide) (by decide) (lw_digit p l e s m args below meth c dC dI cI cL qT A Q c0 S hK hg hA hst bs L xs hX hbs hnA hL k mo ou t ht ws hI1 (kk ht))
    · exact z_tsOut (tgt := 1406) S d_L_law_39 hzr (by omega) (by decide) (z_widen (c2 := 60 + t + 1) (s2 := 4000 + 6 * t + 6) (by omega) (by omega) (kk ht ws hI1))
