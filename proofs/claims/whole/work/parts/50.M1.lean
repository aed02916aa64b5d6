def gth (a b c : Int) : Int := if a = 0 then 1 else if b = 0 then 2 else if c = 0 then 3 else 0
set_option maxHeartbeats 4000000 in
set_option maxRecDepth 100000 in
theorem s_M_thrown (l : Launch) (dC : Nat → ClassId) (dI : Nat → Nat → Nat) (cI cL : ClassId) (qT : Nat) (mo : Nat) (mw : Nat) (nv : Nat) (ma : Nat) (mb : Nat) (ns : Nat) (mlo : Nat) (mhi : Nat) (nw : Nat) (mwe : Nat) (mru : Nat) (mrd : Nat) (th : Int) (mg : Nat)  : Ct l y_M_thrown (Cond.code y_M_thrown c_M_thrown 1 (some .int) :: zB) { frames := 0, cells := 0, slots := 0, locals := 0 } (dC, dI) zcl [(cI, .int), (cL, .long)] (zG cI cL qT) [.ref mo] [oM mo th mw (nv : Int) mg ma mb (ns : Int) mlo mhi (nw : Int) mwe mru mrd] (fun rv wv => rv = .int (zI th) ∧ wv = [oM mo th mw (nv : Int) mg ma mb (ns : Int) mlo mhi (nw : Int) mwe mru mrd]) 0 0 := by
  refine Cm.ofZ (cc := c_M_thrown) (maxL := 1) (ret := (some .int)) (by decide) rfl (Nat.le_of_ble_eq_true rfl) rfl ?_
  intro p e s m below meth c A S hr hlo hnm hK hg hA hAe
  have hGok := zG_ok cI cL qT
  show ZZ _ _ _ _ _ _ _ _ _ _ _ _ _ _ _ _ _ _ 0 [(0, .ref mo)] [] [oM mo th mw (nv : Int) mg ma mb (ns : Int) mlo mhi (nw : Int) mwe mru mrd]
  refine z_aload_n S d_M_thrown_0 0 rfl ?_
  refine z_get S hK la_M 0 rfl rfl 0 (by decide) k_M_38 rfl d_M_thrown_1 ?_
  exact z_iret (w := [oM mo th mw (nv : Int) mg ma mb (ns : Int) mlo mhi (nw : Int) mwe mru mrd]) S hr hlo hAe d_M_thrown_4 [0] (by decide) rfl rfl ⟨Nat.le_refl _, Nat.le_refl _⟩ (⟨rfl, rfl⟩)
set_option maxHeartbeats 4000000 in
set_option maxRecDepth 100000 in
theorem s_M_goes (l : Launch) (dC : Nat → ClassId) (dI : Nat → Nat → Nat) (cI cL : ClassId) (qT : Nat) (mo : Nat) (mw : Nat) (nv : Nat) (ma : Nat) (mb : Nat) (ns : Nat) (mlo : Nat) (mhi : Nat) (nw : Nat) (mwe : Nat) (mru : Nat) (mrd : Nat) (th : Int) (mg : Nat) (g1 : Int) (g2 : Int) (g3 : Int) (hg1 : 0 ≤ g1 ∧ g1 ≤ 1) (hg2 : 0 ≤ g2 ∧ g2 ≤ 1) (hg3 : 0 ≤ g3 ∧ g3 ≤ 1) : Ct l y_M_goes (Cond.code y_M_goes c_M_goes 4 (some .boolean) :: zB) { frames := 0, cells := 0, slots := 0, locals := 0 } (dC, dI) zcl [(cI, .int), (cL, .long)] (zG cI cL qT) [.ref mo, .int (zI g1), .int (zI g2), .int (zI g3)] [oM mo th mw (nv : Int) mg ma mb (ns : Int) mlo mhi (nw : Int) mwe mru mrd] (fun rv wv => rv = .int (zI (b2 (gth g1 g2 g3 = 0))) ∧ wv = [oM mo (gth g1 g2 g3) mw (nv : Int) mg ma mb (ns : Int) mlo mhi (nw : Int) mwe mru mrd]) 0 0 := by
  refine Cm.ofZ (cc := c_M_goes) (maxL := 4) (ret := (some .boolean)) (by decide) rfl (Nat.le_of_ble_eq_true rfl) rfl ?_
  intro p e s m below meth c A S hr hlo hnm hK hg hA hAe
  have hGok := zG_ok cI cL qT
  show ZZ _ _ _ _ _ _ _ _ _ _ _ _ _ _ _ _ _ _ 0 [(0, .ref mo), (1, .int (zI g1)), (2, .int (zI g2)), (3, .int (zI g3))] [] [oM mo th mw (nv : Int) mg ma mb (ns : Int) mlo mhi (nw : Int) mwe mru mrd]
  refine z_aload_n S d_M_goes_0 0 rfl ?_
  refine z_iload_n S d_M_goes_1 1 rfl ?_
  refine z_if_ne (tgt := 9) S d_M_goes_2 (by decide) (by omega) (fun c1 => ?_) (fun c1 => ?_)
  · skip
    refine z_iload_n S d_M_goes_9 2 rfl ?_
    refine z_if_ne (tgt := 17) S d_M_goes_10 (by decide) (by omega) (fun c2 => ?_) (fun c2 => ?_)
    · skip
      refine z_iload_n S d_M_goes_17 3 rfl ?_
      refine z_if_ne (tgt := 25) S d_M_goes_18 (by decide) (by omega) (fun c3 => ?_) (fun c3 => ?_)
      · skip
        refine z_iconst S d_M_goes_25 ?_
        refine z_put (ws' := [oM mo 0 mw (nv : Int) mg ma mb (ns : Int) mlo mhi (nw : Int) mwe mru mrd]) S hK la_M ty_M tyok_M nm_M 0 rfl rfl 0 (by decide) k_M_38 rfl (ty := .int) (by decide +kernel) rfl rfl (Nat.le_of_ble_eq_true rfl) rfl d_M_goes_26 ?_
        refine z_aload_n S d_M_goes_29 0 rfl ?_
        refine z_get S hK la_M 0 rfl rfl 0 (by decide) k_M_38 rfl d_M_goes_30 ?_
        refine z_if_ne (tgt := 40) S d_M_goes_33 (by decide) (by omega) (fun c4 => ?_) (fun c4 => ?_)
        · skip
          exact absurd c4 (by omega)
        · skip
          refine z_iconst S d_M_goes_36 ?_
          refine z_goto (tgt := 41) S d_M_goes_37 (by decide) ?_
          have e : gth g1 g2 g3 = 0 := by unfold gth; rw [if_neg (by omega), if_neg (by omega), if_neg (by omega)]
          exact z_zret (w := [oM mo 0 mw (nv : Int) mg ma mb (ns : Int) mlo mhi (nw : Int) mwe mru mrd]) S hr hlo hAe (by first | exact Or.inl rfl | exact Or.inr rfl) d_M_goes_41 [0] (by decide) rfl rfl ⟨Nat.le_refl _, Nat.le_refl _⟩ (by rw [e, b2_t (P := (0 : Int) = 0) rfl]; exact ⟨rfl, rfl⟩)
      · skip
        refine z_iconst S d_M_goes_21 ?_
        refine z_goto (tgt := 26) S d_M_goes_22 (by decide) ?_
        refine z_put (ws' := [oM mo 3 mw (nv : Int) mg ma mb (ns : Int) mlo mhi (nw : Int) mwe mru mrd]) S hK la_M ty_M tyok_M nm_M 0 rfl rfl 0 (by decide) k_M_38 rfl (ty := .int) (by decide +kernel) rfl rfl (Nat.le_of_ble_eq_true rfl) rfl d_M_goes_26 ?_
        refine z_aload_n S d_M_goes_29 0 rfl ?_
        refine z_get S hK la_M 0 rfl rfl 0 (by decide) k_M_38 rfl d_M_goes_30 ?_
        refine z_if_ne (tgt := 40) S d_M_goes_33 (by decide) (by omega) (fun c5 => ?_) (fun c5 => ?_)
        · skip
          refine z_iconst S d_M_goes_40 ?_
          have e : gth g1 g2 g3 = 3 := by unfold gth; rw [if_neg (by omega), if_neg (by omega), if_pos (by omega)]
          exact z_zret (w := [oM mo 3 mw (nv : Int) mg ma mb (ns : Int) mlo mhi (nw : Int) mwe mru mrd]) S hr hlo hAe (by first | exact Or.inl rfl | exact Or.inr rfl) d_M_goes_41 [0] (by decide) rfl rfl ⟨Nat.le_refl _, Nat.le_refl _⟩ (by rw [e, b2_f (P := (3 : Int) = 0) (by decide)]; exact ⟨rfl, rfl⟩)
        · skip
          exact absurd c5 (by omega)
    · skip
      refine z_iconst S d_M_goes_13 ?_
      refine z_goto (tgt := 26) S d_M_goes_14 (by decide) ?_
      refine z_put (ws' := [oM mo 2 mw (nv : Int) mg ma mb (ns : Int) mlo mhi (nw : Int) mwe mru mrd]) S hK la_M ty_M tyok_M nm_M 0 rfl rfl 0 (by decide) k_M_38 rfl (ty := .int) (by decide +kernel) rfl rfl (Nat.le_of_ble_eq_true rfl) rfl d_M_goes_26 ?_
      refine z_aload_n S d_M_goes_29 0 rfl ?_
      refine z_get S hK la_M 0 rfl rfl 0 (by decide) k_M_38 rfl d_M_goes_30 ?_
      refine z_if_ne (tgt := 40) S d_M_goes_33 (by decide) (by omega) (fun c6 => ?_) (fun c6 => ?_)
      · skip
        refine z_iconst S d_M_goes_40 ?_
        have e : gth g1 g2 g3 = 2 := by unfold gth; rw [if_neg (by omega), if_pos (by omega)]
        exact z_zret (w := [oM mo 2 mw (nv : Int) mg ma mb (ns : Int) mlo mhi (nw : Int) mwe mru mrd]) S hr hlo hAe (by first | exact Or.inl rfl | exact Or.inr rfl) d_M_goes_41 [0] (by decide) rfl rfl ⟨Nat.le_refl _, Nat.le_refl _⟩ (by rw [e, b2_f (P := (2 : Int) = 0) (by decide)]; exact ⟨rfl, rfl⟩)
      · skip
        exact absurd c6 (by omega)
  · skip
    refine z_iconst S d_M_goes_5 ?_
    refine z_goto (tgt := 26) S d_M_goes_6 (by decide) ?_
    refine z_put (ws' := [oM mo 1 mw (nv : Int) mg ma mb (ns : Int) mlo mhi (nw : Int) mwe mru mrd]) S hK la_M ty_M tyok_M nm_M 0 rfl rfl 0 (by decide) k_M_38 rfl (ty := .int) (by decide +kernel) rfl rfl (Nat.le_of_ble_eq_true rfl) rfl d_M_goes_26 ?_
    refine z_aload_n S d_M_goes_29 0 rfl ?_
    refine z_get S hK la_M 0 rfl rfl 0 (by decide) k_M_38 rfl d_M_goes_30 ?_
    refine z_if_ne (tgt := 40) S d_M_goes_33 (by decide) (by omega) (fun c7 => ?_) (fun c7 => ?_)
    · skip
      refine z_iconst S d_M_goes_40 ?_
      have e : gth g1 g2 g3 = 1 := by unfold gth; rw [if_pos (by omega)]
      exact z_zret (w := [oM mo 1 mw (nv : Int) mg ma mb (ns : Int) mlo mhi (nw : Int) mwe mru mrd]) S hr hlo hAe (by first | exact Or.inl rfl | exact Or.inr rfl) d_M_goes_41 [0] (by decide) rfl rfl ⟨Nat.le_refl _, Nat.le_refl _⟩ (by rw [e, b2_f (P := (1 : Int) = 0) (by decide)]; exact ⟨rfl, rfl⟩)
    · skip
      exact absurd c7 (by omega)
set_option maxHeartbeats 4000000 in
set_option maxRecDepth 100000 in
theorem s_M_isValue (l : Launch) (dC : Nat → ClassId) (dI : Nat → Nat → Nat) (cI cL : ClassId) (qT : Nat) (mo : Nat) (mw : Nat) (nv : Nat) (ma : Nat) (mb : Nat) (ns : Nat) (mlo : Nat) (mhi : Nat) (nw : Nat) (mwe : Nat) (mru : Nat) (mrd : Nat) (th : Int) (mg : Nat) (u : Int) (hc : nv ≤ 100) (hu : -2147483648 ≤ u ∧ u < 2147483648) : Ct l y_M_isValue (Cond.code y_M_isValue c_M_isValue 2 (some .boolean) :: zB) { frames := 0, cells := 0, slots := 0, locals := 0 } (dC, dI) zcl [(cI, .int), (cL, .long)] (zG cI cL qT) [.ref mo, .int (zI u)] [oM mo th mw (nv : Int) mg ma mb (ns : Int) mlo mhi (nw : Int) mwe mru mrd] (fun rv wv => rv = .int (zI (b2 (0 ≤ u ∧ u < (nv : Int)))) ∧ wv = [oM mo th mw (nv : Int) mg ma mb (ns : Int) mlo mhi (nw : Int) mwe mru mrd]) 0 0 := by
  refine Cm.ofZ (cc := c_M_isValue) (maxL := 2) (ret := (some .boolean)) (by decide) rfl (Nat.le_of_ble_eq_true rfl) rfl ?_
  intro p e s m below meth c A S hr hlo hnm hK hg hA hAe
  have hGok := zG_ok cI cL qT
  show ZZ _ _ _ _ _ _ _ _ _ _ _ _ _ _ _ _ _ _ 0 [(0, .ref mo), (1, .int (zI u))] [] [oM mo th mw (nv : Int) mg ma mb (ns : Int) mlo mhi (nw : Int) mwe mru mrd]
  refine z_iload_n S d_M_isValue_0 1 rfl ?_
  refine z_if_lt (tgt := 16) S d_M_isValue_1 (by decide) (by omega) (fun c1 => ?_) (fun c1 => ?_)
  · skip
    refine z_iconst S d_M_isValue_16 ?_
    exact z_zret (w := [oM mo th mw (nv : Int) mg ma mb (ns : Int) mlo mhi (nw : Int) mwe mru mrd]) S hr hlo hAe (by first | exact Or.inl rfl | exact Or.inr rfl) d_M_isValue_17 [0] (by decide) rfl rfl ⟨Nat.le_refl _, Nat.le_refl _⟩ (⟨by rw [b2_f (by omega)], rfl⟩)
  · skip
    refine z_iload_n S d_M_isValue_4 1 rfl ?_
    refine z_aload_n S d_M_isValue_5 0 rfl ?_
    refine z_get S hK la_M 0 rfl rfl 2 (by decide) k_M_42 rfl d_M_isValue_6 ?_
    refine z_icmp_ge (tgt := 16) S d_M_isValue_9 (by decide) (by omega) (by omega) (fun c2 => ?_) (fun c2 => ?_)
    · skip
      refine z_iconst S d_M_isValue_16 ?_
      exact z_zret (w := [oM mo th mw (nv : Int) mg ma mb (ns : Int) mlo mhi (nw : Int) mwe mru mrd]) S hr hlo hAe (by first | exact Or.inl rfl | exact Or.inr rfl) d_M_isValue_17 [0] (by decide) rfl rfl ⟨Nat.le_refl _, Nat.le_refl _⟩ (⟨by rw [b2_f (by omega)], rfl⟩)
    · skip
      refine z_iconst S d_M_isValue_12 ?_
      refine z_goto (tgt := 17) S d_M_isValue_13 (by decide) ?_
      exact z_zret (w := [oM mo th mw (nv : Int) mg ma mb (ns : Int) mlo mhi (nw : Int) mwe mru mrd]) S hr hlo hAe (by first | exact Or.inl rfl | exact Or.inr rfl) d_M_isValue_17 [0] (by decide) rfl rfl ⟨Nat.le_refl _, Nat.le_refl _⟩ (⟨by rw [b2_t (by omega)], rfl⟩)
set_option maxHeartbeats 4000000 in
set_option maxRecDepth 100000 in
theorem s_M_isSpan (l : Launch) (dC : Nat → ClassId) (dI : Nat → Nat → Nat) (cI cL : ClassId) (qT : Nat) (mo : Nat) (mw : Nat) (nv : Nat) (ma : Nat) (mb : Nat) (ns : Nat) (mlo : Nat) (mhi : Nat) (nw : Nat) (mwe : Nat) (mru : Nat) (mrd : Nat) (th : Int) (mg : Nat) (u : Int) (hc : ns ≤ 30) (hu : -2147483648 ≤ u ∧ u < 2147483648) : Ct l y_M_isSpan (Cond.code y_M_isSpan c_M_isSpan 2 (some .boolean) :: zB) { frames := 0, cells := 0, slots := 0, locals := 0 } (dC, dI) zcl [(cI, .int), (cL, .long)] (zG cI cL qT) [.ref mo, .int (zI u)] [oM mo th mw (nv : Int) mg ma mb (ns : Int) mlo mhi (nw : Int) mwe mru mrd] (fun rv wv => rv = .int (zI (b2 (0 ≤ u ∧ u < (ns : Int)))) ∧ wv = [oM mo th mw (nv : Int) mg ma mb (ns : Int) mlo mhi (nw : Int) mwe mru mrd]) 0 0 := by
  refine Cm.ofZ (cc := c_M_isSpan) (maxL := 2) (ret := (some .boolean)) (by decide) rfl (Nat.le_of_ble_eq_true rfl) rfl ?_
  intro p e s m below meth c A S hr hlo hnm hK hg hA hAe
  have hGok := zG_ok cI cL qT
  show ZZ _ _ _ _ _ _ _ _ _ _ _ _ _ _ _ _ _ _ 0 [(0, .ref mo), (1, .int (zI u))] [] [oM mo th mw (nv : Int) mg ma mb (ns : Int) mlo mhi (nw : Int) mwe mru mrd]
  refine z_iload_n S d_M_isSpan_0 1 rfl ?_
  refine z_if_lt (tgt := 16) S d_M_isSpan_1 (by decide) (by omega) (fun c1 => ?_) (fun c1 => ?_)
  · skip
    refine z_iconst S d_M_isSpan_16 ?_
    exact z_zret (w := [oM mo th mw (nv : Int) mg ma mb (ns : Int) mlo mhi (nw : Int) mwe mru mrd]) S hr hlo hAe (by first | exact Or.inl rfl | exact Or.inr rfl) d_M_isSpan_17 [0] (by decide) rfl rfl ⟨Nat.le_refl _, Nat.le_refl _⟩ (⟨by rw [b2_f (by omega)], rfl⟩)
  · skip
    refine z_iload_n S d_M_isSpan_4 1 rfl ?_
    refine z_aload_n S d_M_isSpan_5 0 rfl ?_
    refine z_get S hK la_M 0 rfl rfl 6 (by decide) k_M_45 rfl d_M_isSpan_6 ?_
    refine z_icmp_ge (tgt := 16) S d_M_isSpan_9 (by decide) (by omega) (by omega) (fun c2 => ?_) (fun c2 => ?_)
    · skip
      refine z_iconst S d_M_isSpan_16 ?_
      exact z_zret (w := [oM mo th mw (nv : Int) mg ma mb (ns : Int) mlo mhi (nw : Int) mwe mru mrd]) S hr hlo hAe (by first | exact Or.inl rfl | exact Or.inr rfl) d_M_isSpan_17 [0] (by decide) rfl rfl ⟨Nat.le_refl _, Nat.le_refl _⟩ (⟨by rw [b2_f (by omega)], rfl⟩)
    · skip
      refine z_iconst S d_M_isSpan_12 ?_
      refine z_goto (tgt := 17) S d_M_isSpan_13 (by decide) ?_
      exact z_zret (w := [oM mo th mw (nv : Int) mg ma mb (ns : Int) mlo mhi (nw : Int) mwe mru mrd]) S hr hlo hAe (by first | exact Or.inl rfl | exact Or.inr rfl) d_M_isSpan_17 [0] (by decide) rfl rfl ⟨Nat.le_refl _, Nat.le_refl _⟩ (⟨by rw [b2_t (by omega)], rfl⟩)
set_option maxHeartbeats 4000000 in
set_option maxRecDepth 100000 in
theorem s_M_clear (l : Launch) (dC : Nat → ClassId) (dI : Nat → Nat → Nat) (cI cL : ClassId) (qT : Nat) (mo : Nat) (mw : Nat) (nv : Nat) (ma : Nat) (mb : Nat) (ns : Nat) (mlo : Nat) (mhi : Nat) (nw : Nat) (mwe : Nat) (mru : Nat) (mrd : Nat) (th : Int) (mg : Nat) (rr : Nat → Nat) (r : Nat) (hr8 : r < 8) : Cv l y_M_clear (Cond.code y_M_clear c_M_clear 3 none :: zB) { frames := 0, cells := 0, slots := 0, locals := 0 } (dC, dI) zcl [(cI, .int), (cL, .long)] (zG cI cL qT) [.ref mo, .int (zI (r : Int))] [oM mo th mw (nv : Int) mg ma mb (ns : Int) mlo mhi (nw : Int) mwe mru mrd, aL cL mw 160 (wkA rr)] (fun wv => wv = [oM mo th mw (nv : Int) mg ma mb (ns : Int) mlo mhi (nw : Int) mwe mru mrd, aL cL mw 160 (wkA (un rr r 0))]) 0 0 := by
  refine Cm.ofZ (cc := c_M_clear) (maxL := 3) (ret := none) (by decide) rfl (Nat.le_of_ble_eq_true rfl) rfl ?_
  intro p e s m below meth c A S hr hlo hnm hK hg hA hAe
  have hGok := zG_ok cI cL qT
  show ZZ _ _ _ _ _ _ _ _ _ _ _ _ _ _ _ _ _ _ 0 [(0, .ref mo), (1, .int (zI (r : Int)))] [] [oM mo th mw (nv : Int) mg ma mb (ns : Int) mlo mhi (nw : Int) mwe mru mrd, aL cL mw 160 (wkA rr)]
  refine z_iconst S d_M_clear_0 ?_
  refine z_istore_n (lv' := [(2, .int (zI 0)), (0, .ref mo), (1, .int (zI (r : Int)))]) S d_M_clear_1 rfl (by decide) rfl ?_
  refine z_lv (lv' := [(0, .ref mo), (1, .int (zI (r : Int))), (2, .int (zI 0))]) [1, 2, 0] rfl ?_
  refine z_wq (ws' := [oM mo th mw (nv : Int) mg ma mb (ns : Int) mlo mhi (nw : Int) mwe mru mrd, aL cL mw 160 (wkR rr r (mx (dg 1000000 0) (dg 1000000 (rr r)) 0))]) (by rw [mx_0, wkR_in]) ?_
  refine z_lq (lv' := [(0, .ref mo), (1, .int (zI (r : Int))), (2, .int (zI ((0 : Nat) : Int)))]) (congrArg (fun zzz : Int => ([(0, .ref mo), (1, .int (zI (r : Int))), (2, .int (zI zzz))] : List (Nat × Value))) (show (0 : Int) = ((0 : Nat) : Int) by omega)) ?_
  refine z_loop (I := fun (i : Nat) => (i ≤ 20)) (μ := fun (i : Nat) => 20 - i) (LV := fun (i : Nat) => [(0, .ref mo), (1, .int (zI (r : Int))), (2, .int (zI (i : Int)))]) (WS := fun (i : Nat) => [oM mo th mw (nv : Int) mg ma mb (ns : Int) mlo mhi (nw : Int) mwe mru mrd, aL cL mw 160 (wkR rr r (mx (dg 1000000 0) (dg 1000000 (rr r)) i))]) (a := 0) ?_ ?_
  · exact (show (0 ≤ 20) from by omega)
  · intro i hI ih2
    have hi : i ≤ 20 := hI
    show ZZ _ _ _ _ _ _ _ _ _ _ _ _ _ _ _ _ _ _ 2 [(0, .ref mo), (1, .int (zI (r : Int))), (2, .int (zI (i : Int)))] [] [oM mo th mw (nv : Int) mg ma mb (ns : Int) mlo mhi (nw : Int) mwe mru mrd, aL cL mw 160 (wkR rr r (mx (dg 1000000 0) (dg 1000000 (rr r)) i))]
    refine z_iload_n S d_M_clear_2 2 rfl ?_
    refine z_bipush S d_M_clear_3 rfl ?_
    refine z_icmp_ge (tgt := 26) S d_M_clear_5 (by decide) (by omega) (by omega) (fun c1 => ?_) (fun c1 => ?_)
    · skip
      refine z_wq (ws' := [oM mo th mw (nv : Int) mg ma mb (ns : Int) mlo mhi (nw : Int) mwe mru mrd, aL cL mw 160 (wkA (un rr r 0))]) (by rw [show i = 20 by omega, wkR_out (v := 0) (fun j hj => mx_lo hj)]) ?_
      exact z_vret (w := [oM mo th mw (nv : Int) mg ma mb (ns : Int) mlo mhi (nw : Int) mwe mru mrd, aL cL mw 160 (wkA (un rr r 0))]) S hr hlo hAe d_M_clear_26 [0, 1] (by decide) rfl rfl ⟨Nat.le_refl _, Nat.le_refl _⟩ (rfl)
    · skip
      refine z_aload_n S d_M_clear_8 0 rfl ?_
      refine z_get S hK la_M 0 rfl rfl 1 (by decide) k_M_7 rfl d_M_clear_9 ?_
      refine z_iload_n S d_M_clear_12 1 rfl ?_
      refine z_bipush S d_M_clear_13 rfl ?_
      refine z_imul S d_M_clear_15 ?_
      refine z_iload_n S d_M_clear_16 2 rfl ?_
      refine z_iadd S d_M_clear_17 ?_
      refine z_lconst (z := 0) S d_M_clear_18 rfl ?_
      refine z_last (f' := wkR rr r (mx (dg 1000000 0) (dg 1000000 (rr r)) (i + 1))) (ws' := [oM mo th mw (nv : Int) mg ma mb (ns : Int) mlo mhi (nw : Int) mwe mru mrd, aL cL mw 160 (wkR rr r (mx (dg 1000000 0) (dg 1000000 (rr r)) (i + 1)))]) S hK 1 1 rfl rfl (r * 20 + i) (by omega) (by omega) (by decide) (wkR_mx (by omega) (by rw [dg_zero]; rfl)) rfl d_M_clear_19 ?_
      refine z_iinc (y := ((i + 1 : Nat) : Int)) (lv' := [(2, .int (zI ((i + 1 : Nat) : Int))), (0, .ref mo), (1, .int (zI (r : Int)))]) S d_M_clear_20 2 rfl (by omega) (by decide) rfl ?_
      refine z_goto (tgt := 2) S d_M_clear_23 (by decide) ?_
      refine z_lv (lv' := [(0, .ref mo), (1, .int (zI (r : Int))), (2, .int (zI ((i + 1 : Nat) : Int)))]) [1, 2, 0] rfl ?_
      exact ih2 (i + 1) (show ((i + 1) ≤ 20) from by omega) (show 20 - (i + 1) < 20 - i from by omega)
set_option maxHeartbeats 4000000 in
set_option maxRecDepth 100000 in
theorem s_M_copy (l : Launch) (dC : Nat → ClassId) (dI : Nat → Nat → Nat) (cI cL : ClassId) (qT : Nat) (mo : Nat) (mw : Nat) (nv : Nat) (ma : Nat) (mb : Nat) (ns : Nat) (mlo : Nat) (mhi : Nat) (nw : Nat) (mwe : Nat) (mru : Nat) (mrd : Nat) (th : Int) (mg : Nat) (rr : Nat → Nat) (q : Nat) (r : Nat) (hq8 : q < 8) (hr8 : r < 8) : Cv l y_M_copy (Cond.code y_M_copy c_M_copy 4 none :: zB) { frames := 0, cells := 0, slots := 0, locals := 0 } (dC, dI) zcl [(cI, .int), (cL, .long)] (zG cI cL qT) [.ref mo, .int (zI (q : Int)), .int (zI (r : Int))] [oM mo th mw (nv : Int) mg ma mb (ns : Int) mlo mhi (nw : Int) mwe mru mrd, aL cL mw 160 (wkA rr)] (fun wv => wv = [oM mo th mw (nv : Int) mg ma mb (ns : Int) mlo mhi (nw : Int) mwe mru mrd, aL cL mw 160 (wkA (un rr r (rr q)))]) 0 0 := by
  refine Cm.ofZ (cc := c_M_copy) (maxL := 4) (ret := none) (by decide) rfl (Nat.le_of_ble_eq_true rfl) rfl ?_
  intro p e s m below meth c A S hr hlo hnm hK hg hA hAe
  have hGok := zG_ok cI cL qT
  show ZZ _ _ _ _ _ _ _ _ _ _ _ _ _ _ _ _ _ _ 0 [(0, .ref mo), (1, .int (zI (q : Int))), (2, .int (zI (r : Int)))] [] [oM mo th mw (nv : Int) mg ma mb (ns : Int) mlo mhi (nw : Int) mwe mru mrd, aL cL mw 160 (wkA rr)]
  refine z_iconst S d_M_copy_0 ?_
  refine z_istore_n (lv' := [(3, .int (zI 0)), (0, .ref mo), (1, .int (zI (q : Int))), (2, .int (zI (r : Int)))]) S d_M_copy_1 rfl (by decide) rfl ?_
  refine z_lv (lv' := [(0, .ref mo), (1, .int (zI (q : Int))), (2, .int (zI (r : Int))), (3, .int (zI 0))]) [1, 2, 3, 0] rfl ?_
  refine z_wq (ws' := [oM mo th mw (nv : Int) mg ma mb (ns : Int) mlo mhi (nw : Int) mwe mru mrd, aL cL mw 160 (wkR rr r (mx (dg 1000000 (rr q)) (dg 1000000 (rr r)) 0))]) (by rw [mx_0, wkR_in]) ?_
  refine z_lq (lv' := [(0, .ref mo), (1, .int (zI (q : Int))), (2, .int (zI (r : Int))), (3, .int (zI ((0 : Nat) : Int)))]) (congrArg (fun zzz : Int => ([(0, .ref mo), (1, .int (zI (q : Int))), (2, .int (zI (r : Int))), (3, .int (zI zzz))] : List (Nat × Value))) (show (0 : Int) = ((0 : Nat) : Int) by omega)) ?_
  refine z_loop (I := fun (i : Nat) => (i ≤ 20)) (μ := fun (i : Nat) => 20 - i) (LV := fun (i : Nat) => [(0, .ref mo), (1, .int (zI (q : Int))), (2, .int (zI (r : Int))), (3, .int (zI (i : Int)))]) (WS := fun (i : Nat) => [oM mo th mw (nv : Int) mg ma mb (ns : Int) mlo mhi (nw : Int) mwe mru mrd, aL cL mw 160 (wkR rr r (mx (dg 1000000 (rr q)) (dg 1000000 (rr r)) i))]) (a := 0) ?_ ?_
  · exact (show (0 ≤ 20) from by omega)
  · intro i hI ih2
    have hi : i ≤ 20 := hI
    show ZZ _ _ _ _ _ _ _ _ _ _ _ _ _ _ _ _ _ _ 2 [(0, .ref mo), (1, .int (zI (q : Int))), (2, .int (zI (r : Int))), (3, .int (zI (i : Int)))] [] [oM mo th mw (nv : Int) mg ma mb (ns : Int) mlo mhi (nw : Int) mwe mru mrd, aL cL mw 160 (wkR rr r (mx (dg 1000000 (rr q)) (dg 1000000 (rr r)) i))]
    refine z_iload_n S d_M_copy_2 3 rfl ?_
    refine z_bipush S d_M_copy_3 rfl ?_
    refine z_icmp_ge (tgt := 36) S d_M_copy_5 (by decide) (by omega) (by omega) (fun c1 => ?_) (fun c1 => ?_)
    · skip
      refine z_wq (ws' := [oM mo th mw (nv : Int) mg ma mb (ns : Int) mlo mhi (nw : Int) mwe mru mrd, aL cL mw 160 (wkA (un rr r (rr q)))]) (by rw [show i = 20 by omega, wkR_out (v := rr q) (fun j hj => mx_lo hj)]) ?_
      exact z_vret (w := [oM mo th mw (nv : Int) mg ma mb (ns : Int) mlo mhi (nw : Int) mwe mru mrd, aL cL mw 160 (wkA (un rr r (rr q)))]) S hr hlo hAe d_M_copy_36 [0, 1] (by decide) rfl rfl ⟨Nat.le_refl _, Nat.le_refl _⟩ (rfl)
    · skip
      refine z_aload_n S d_M_copy_8 0 rfl ?_
      refine z_get S hK la_M 0 rfl rfl 1 (by decide) k_M_7 rfl d_M_copy_9 ?_
      refine z_iload_n S d_M_copy_12 2 rfl ?_
      refine z_bipush S d_M_copy_13 rfl ?_
      refine z_imul S d_M_copy_15 ?_
      refine z_iload_n S d_M_copy_16 3 rfl ?_
      refine z_iadd S d_M_copy_17 ?_
      refine z_aload_n S d_M_copy_18 0 rfl ?_
      refine z_get S hK la_M 0 rfl rfl 1 (by decide) k_M_7 rfl d_M_copy_19 ?_
      refine z_iload_n S d_M_copy_22 1 rfl ?_
      refine z_bipush S d_M_copy_23 rfl ?_
      refine z_imul S d_M_copy_25 ?_
      refine z_iload_n S d_M_copy_26 3 rfl ?_
      refine z_iadd S d_M_copy_27 ?_
      refine z_lald (x := ((dg 1000000 (rr q) i : Nat) : Int)) S hK 1 1 rfl rfl (q * 20 + i) (by omega) (by omega) (by decide) (wkR_al (by omega) (mx_hi (Nat.le_refl _))) d_M_copy_28 ?_
      refine z_last (f' := wkR rr r (mx (dg 1000000 (rr q)) (dg 1000000 (rr r)) (i + 1))) (ws' := [oM mo th mw (nv : Int) mg ma mb (ns : Int) mlo mhi (nw : Int) mwe mru mrd, aL cL mw 160 (wkR rr r (mx (dg 1000000 (rr q)) (dg 1000000 (rr r)) (i + 1)))]) S hK 1 1 rfl rfl (r * 20 + i) (by omega) (by omega) (by decide) (wkR_mx (by omega) rfl) rfl d_M_copy_29 ?_
      refine z_iinc (y := ((i + 1 : Nat) : Int)) (lv' := [(3, .int (zI ((i + 1 : Nat) : Int))), (0, .ref mo), (1, .int (zI (q : Int))), (2, .int (zI (r : Int)))]) S d_M_copy_30 3 rfl (by omega) (by decide) rfl ?_
      refine z_goto (tgt := 2) S d_M_copy_33 (by decide) ?_
      refine z_lv (lv' := [(0, .ref mo), (1, .int (zI (q : Int))), (2, .int (zI (r : Int))), (3, .int (zI ((i + 1 : Nat) : Int)))]) [1, 2, 3, 0] rfl ?_
      exact ih2 (i + 1) (show ((i + 1) ≤ 20) from by omega) (show 20 - (i + 1) < 20 - i from by omega)
set_option maxHeartbeats 4000000 in
set_option maxRecDepth 100000 in
theorem s_M_top (l : Launch) (dC : Nat → ClassId) (dI : Nat → Nat → Nat) (cI cL : ClassId) (qT : Nat) (mo : Nat) (mw : Nat) (nv : Nat) (ma : Nat) (mb : Nat) (ns : Nat) (mlo : Nat) (mhi : Nat) (nw : Nat) (mwe : Nat) (mru : Nat) (mrd : Nat) (th : Int) (mg : Nat) (rr : Nat → Nat) (r : Nat) (hr8 : r < 8) : Ct l y_M_top (Cond.code y_M_top c_M_top 3 (some .int) :: zB) { frames := 0, cells := 0, slots := 0, locals := 0 } (dC, dI) zcl [(cI, .int), (cL, .long)] (zG cI cL qT) [.ref mo, .int (zI (r : Int))] [oM mo th mw (nv : Int) mg ma mb (ns : Int) mlo mhi (nw : Int) mwe mru mrd, aL cL mw 160 (wkA rr)] (fun rv wv => rv = .int (zI (((tp (rr r) : Nat) : Int) - 1)) ∧ wv = [oM mo th mw (nv : Int) mg ma mb (ns : Int) mlo mhi (nw : Int) mwe mru mrd, aL cL mw 160 (wkA rr)]) 0 0 := by
  refine Cm.ofZ (cc := c_M_top) (maxL := 3) (ret := (some .int)) (by decide) rfl (Nat.le_of_ble_eq_true rfl) rfl ?_
  intro p e s m below meth c A S hr hlo hnm hK hg hA hAe
  have hGok := zG_ok cI cL qT
  show ZZ _ _ _ _ _ _ _ _ _ _ _ _ _ _ _ _ _ _ 0 [(0, .ref mo), (1, .int (zI (r : Int)))] [] [oM mo th mw (nv : Int) mg ma mb (ns : Int) mlo mhi (nw : Int) mwe mru mrd, aL cL mw 160 (wkA rr)]
  refine z_bipush S d_M_top_0 rfl ?_
  refine z_istore_n (lv' := [(2, .int (zI 19)), (0, .ref mo), (1, .int (zI (r : Int)))]) S d_M_top_2 rfl (by decide) rfl ?_
  refine z_lv (lv' := [(0, .ref mo), (1, .int (zI (r : Int))), (2, .int (zI 19))]) [1, 2, 0] rfl ?_
  refine z_lq (lv' := [(0, .ref mo), (1, .int (zI (r : Int))), (2, .int (zI (((20 : Nat) : Int) - 1)))]) (congrArg (fun zzz : Int => ([(0, .ref mo), (1, .int (zI (r : Int))), (2, .int (zI zzz))] : List (Nat × Value))) (show (19 : Int) = ((20 : Nat) : Int) - 1 by omega)) ?_
  refine z_loop (I := fun (n : Nat) => (n ≤ 20) ∧ (tp (rr r) = ul (dg 1000000 (rr r)) n)) (μ := fun (n : Nat) => n) (LV := fun (n : Nat) => [(0, .ref mo), (1, .int (zI (r : Int))), (2, .int (zI ((n : Int) - 1)))]) (WS := fun (n : Nat) => [oM mo th mw (nv : Int) mg ma mb (ns : Int) mlo mhi (nw : Int) mwe mru mrd, aL cL mw 160 (wkA rr)]) (a := 20) ?_ ?_
  · exact (show (20 ≤ 20) ∧ (tp (rr r) = ul (dg 1000000 (rr r)) 20) from ⟨by omega, rfl⟩)
  · intro n hI ih3
    obtain ⟨hn, he⟩ : (n ≤ 20) ∧ (tp (rr r) = ul (dg 1000000 (rr r)) n) := hI
    show ZZ _ _ _ _ _ _ _ _ _ _ _ _ _ _ _ _ _ _ 3 [(0, .ref mo), (1, .int (zI (r : Int))), (2, .int (zI ((n : Int) - 1)))] [] [oM mo th mw (nv : Int) mg ma mb (ns : Int) mlo mhi (nw : Int) mwe mru mrd, aL cL mw 160 (wkA rr)]
    refine z_iload_n S d_M_top_3 2 rfl ?_
    refine z_if_lt (tgt := 29) S d_M_top_4 (by decide) (by omega) (fun c1 => ?_) (fun c1 => ?_)
    · skip
      refine z_iload_n S d_M_top_29 2 rfl ?_
      have h0 : n = 0 := by omega
      have h1 : tp (rr r) = 0 := by rw [he, h0]; rfl
      exact z_iret (w := [oM mo th mw (nv : Int) mg ma mb (ns : Int) mlo mhi (nw : Int) mwe mru mrd, aL cL mw 160 (wkA rr)]) S hr hlo hAe d_M_top_30 [0, 1] (by decide) rfl rfl ⟨Nat.le_refl _, Nat.le_refl _⟩ (⟨congrArg Value.int (zI_c (by omega)), rfl⟩)
    · skip
      have hdl := dg_lt (b := 1000000) (by decide) (rr r) (n - 1)
      refine z_aload_n S d_M_top_7 0 rfl ?_
      refine z_get S hK la_M 0 rfl rfl 1 (by decide) k_M_7 rfl d_M_top_8 ?_
      refine z_iload_n S d_M_top_11 1 rfl ?_
      refine z_bipush S d_M_top_12 rfl ?_
      refine z_imul S d_M_top_14 ?_
      refine z_iload_n S d_M_top_15 2 rfl ?_
      refine z_iadd S d_M_top_16 ?_
      refine z_lald (x := ((dg 1000000 (rr r) (n - 1) : Nat) : Int)) S hK 1 1 rfl rfl (r * 20 + (n - 1)) (by omega) (by omega) (by decide) (wkA_at rr (by omega)) d_M_top_17 ?_
      refine z_lconst (z := 0) S d_M_top_18 rfl ?_
      refine z_lcmp_ne (tgt := 29) S d_M_top_19 d_M_top_20 (by decide) (by omega) (by omega) (fun c2 => ?_) (fun c2 => ?_)
      · skip
        refine z_iload_n S d_M_top_29 2 rfl ?_
        have h1 : tp (rr r) = n := by rw [he]; exact ul_e (by omega) (by omega)
        exact z_iret (w := [oM mo th mw (nv : Int) mg ma mb (ns : Int) mlo mhi (nw : Int) mwe mru mrd, aL cL mw 160 (wkA rr)]) S hr hlo hAe d_M_top_30 [0, 1] (by decide) rfl rfl ⟨Nat.le_refl _, Nat.le_refl _⟩ (⟨congrArg Value.int (zI_c (by omega)), rfl⟩)
      · skip
        refine z_iinc (y := (n : Int) - 1 - 1) (lv' := [(2, .int (zI ((n : Int) - 1 - 1))), (0, .ref mo), (1, .int (zI (r : Int)))]) S d_M_top_23 2 rfl (by omega) (by decide) rfl ?_
        refine z_goto (tgt := 3) S d_M_top_26 (by decide) ?_
        refine z_lv (lv' := [(0, .ref mo), (1, .int (zI (r : Int))), (2, .int (zI ((n : Int) - 1 - 1)))]) [1, 2, 0] rfl ?_
        refine z_lq (lv' := [(0, .ref mo), (1, .int (zI (r : Int))), (2, .int (zI (((n - 1 : Nat) : Int) - 1)))]) (congrArg (fun zzz : Int => ([(0, .ref mo), (1, .int (zI (r : Int))), (2, .int (zI zzz))] : List (Nat × Value))) (show ((n : Int) - 1 - 1 : Int) = ((n - 1 : Nat) : Int) - 1 by omega)) ?_
        exact ih3 (n - 1) (show ((n - 1) ≤ 20) ∧ (tp (rr r) = ul (dg 1000000 (rr r)) (n - 1)) from ⟨by omega, by rw [he]; exact ul_pr (by omega) (by omega)⟩) (show (n - 1) < n from by omega)
set_option maxHeartbeats 4000000 in
set_option maxRecDepth 100000 in
theorem s_M_compare (l : Launch) (dC : Nat → ClassId) (dI : Nat → Nat → Nat) (cI cL : ClassId) (qT : Nat) (mo : Nat) (mw : Nat) (nv : Nat) (ma : Nat) (mb : Nat) (ns : Nat) (mlo : Nat) (mhi : Nat) (nw : Nat) (mwe : Nat) (mru : Nat) (mrd : Nat) (th : Int) (mg : Nat) (rr : Nat → Nat) (q : Nat) (r : Nat) (hq8 : q < 8) (hr8 : r < 8) (hq : rr q < 1000000 ^ 20) (hrr : rr r < 1000000 ^ 20) : Ct l y_M_compare (Cond.code y_M_compare c_M_compare 6 (some .int) :: zB) { frames := 0, cells := 0, slots := 0, locals := 0 } (dC, dI) zcl [(cI, .int), (cL, .long)] (zG cI cL qT) [.ref mo, .int (zI (q : Int)), .int (zI (r : Int))] [oM mo th mw (nv : Int) mg ma mb (ns : Int) mlo mhi (nw : Int) mwe mru mrd, aL cL mw 160 (wkA rr)] (fun rv wv => rv = .int (zI (cmpN (rr q) (rr r))) ∧ wv = [oM mo th mw (nv : Int) mg ma mb (ns : Int) mlo mhi (nw : Int) mwe mru mrd, aL cL mw 160 (wkA rr)]) 0 0 := by
  refine Cm.ofZ (cc := c_M_compare) (maxL := 6) (ret := (some .int)) (by decide) rfl (Nat.le_of_ble_eq_true rfl) rfl ?_
  intro p e s m below meth c A S hr hlo hnm hK hg hA hAe
  have hGok := zG_ok cI cL qT
  show ZZ _ _ _ _ _ _ _ _ _ _ _ _ _ _ _ _ _ _ 0 [(0, .ref mo), (1, .int (zI (q : Int))), (2, .int (zI (r : Int)))] [] [oM mo th mw (nv : Int) mg ma mb (ns : Int) mlo mhi (nw : Int) mwe mru mrd, aL cL mw 160 (wkA rr)]
  refine z_bipush S d_M_compare_0 rfl ?_
  refine z_istore_n (lv' := [(3, .int (zI 19)), (0, .ref mo), (1, .int (zI (q : Int))), (2, .int (zI (r : Int)))]) S d_M_compare_2 rfl (by decide) rfl ?_
  refine z_lv (lv' := [(0, .ref mo), (1, .int (zI (q : Int))), (2, .int (zI (r : Int))), (3, .int (zI 19))]) [1, 2, 3, 0] rfl ?_
  refine z_lq (lv' := [(0, .ref mo), (1, .int (zI (q : Int))), (2, .int (zI (r : Int))), (3, .int (zI ((19 : Nat) : Int)))]) (congrArg (fun zzz : Int => ([(0, .ref mo), (1, .int (zI (q : Int))), (2, .int (zI (r : Int))), (3, .int (zI zzz))] : List (Nat × Value))) (show (19 : Int) = ((19 : Nat) : Int) by omega)) ?_
  refine z_loop (I := fun (n : Nat) => (n ≤ 19) ∧ (rr q / 1000000 ^ (n + 1) = rr r / 1000000 ^ (n + 1))) (μ := fun (n : Nat) => n) (LV := fun (n : Nat) => [(0, .ref mo), (1, .int (zI (q : Int))), (2, .int (zI (r : Int))), (3, .int (zI (n : Int)))]) (WS := fun (n : Nat) => [oM mo th mw (nv : Int) mg ma mb (ns : Int) mlo mhi (nw : Int) mwe mru mrd, aL cL mw 160 (wkA rr)]) (a := 19) ?_ ?_
  · exact (show (19 ≤ 19) ∧ (rr q / 1000000 ^ (19 + 1) = rr r / 1000000 ^ (19 + 1)) from ⟨by omega, by rw [dv_z hq, dv_z hrr]⟩)
  · intro n hI ih3
    obtain ⟨hn, he⟩ : (n ≤ 19) ∧ (rr q / 1000000 ^ (n + 1) = rr r / 1000000 ^ (n + 1)) := hI
    show ZZ _ _ _ _ _ _ _ _ _ _ _ _ _ _ _ _ _ _ 3 [(0, .ref mo), (1, .int (zI (q : Int))), (2, .int (zI (r : Int))), (3, .int (zI (n : Int)))] [] [oM mo th mw (nv : Int) mg ma mb (ns : Int) mlo mhi (nw : Int) mwe mru mrd, aL cL mw 160 (wkA rr)]
    have l1 := dg_lt (b := 1000000) (by decide) (rr q) n
    have l2 := dg_lt (b := 1000000) (by decide) (rr r) n
    refine z_iload_n S d_M_compare_3 3 rfl ?_
    refine z_if_le (tgt := 39) S d_M_compare_4 (by decide) (by omega) (fun c1 => ?_) (fun c1 => ?_)
    · skip
      refine z_aload_n S d_M_compare_39 0 rfl ?_
      refine z_get S hK la_M 0 rfl rfl 1 (by decide) k_M_7 rfl d_M_compare_40 ?_
      refine z_iload_n S d_M_compare_43 1 rfl ?_
      refine z_bipush S d_M_compare_44 rfl ?_
      refine z_imul S d_M_compare_46 ?_
      refine z_iload_n S d_M_compare_47 3 rfl ?_
      refine z_iadd S d_M_compare_48 ?_
      refine z_lald (x := ((dg 1000000 (rr q) n : Nat) : Int)) S hK 1 1 rfl rfl (q * 20 + n) (by omega) (by omega) (by decide) (wkA_at rr (by omega)) d_M_compare_49 ?_
      refine z_aload_n S d_M_compare_50 0 rfl ?_
      refine z_get S hK la_M 0 rfl rfl 1 (by decide) k_M_7 rfl d_M_compare_51 ?_
      refine z_iload_n S d_M_compare_54 2 rfl ?_
      refine z_bipush S d_M_compare_55 rfl ?_
      refine z_imul S d_M_compare_57 ?_
      refine z_iload_n S d_M_compare_58 3 rfl ?_
      refine z_iadd S d_M_compare_59 ?_
      refine z_lald (x := ((dg 1000000 (rr r) n : Nat) : Int)) S hK 1 1 rfl rfl (r * 20 + n) (by omega) (by omega) (by decide) (wkA_at rr (by omega)) d_M_compare_60 ?_
      refine z_lsub S d_M_compare_61 ?_
      refine z_topl (fun x2 ex2 => ?_)
      refine z_lstore (lv' := [(4, .long (zL x2)), (0, .ref mo), (1, .int (zI (q : Int))), (2, .int (zI (r : Int))), (3, .int (zI (n : Int)))]) S d_M_compare_62 (by decide) rfl ?_
      refine z_lload S d_M_compare_64 0 rfl ?_
      refine z_lconst (z := 0) S d_M_compare_66 rfl ?_
      refine z_lcmp_ge (tgt := 75) S d_M_compare_67 d_M_compare_68 (by decide) (by omega) (by omega) (fun c3 => ?_) (fun c3 => ?_)
      · skip
        refine z_lload S d_M_compare_75 0 rfl ?_
        refine z_lconst (z := 0) S d_M_compare_77 rfl ?_
        refine z_lcmp_le (tgt := 86) S d_M_compare_78 d_M_compare_79 (by decide) (by omega) (by omega) (fun c4 => ?_) (fun c4 => ?_)
        · skip
          refine z_iconst S d_M_compare_86 ?_
          have h0 : n = 0 := by omega
          have hfin := cmp_dn6 (n := n + 1) (by omega) he (by rw [Nat.add_sub_cancel]; omega)
          rw [Nat.add_sub_cancel, h0, dv_0, dv_0] at hfin
          exact z_iret (w := [oM mo th mw (nv : Int) mg ma mb (ns : Int) mlo mhi (nw : Int) mwe mru mrd, aL cL mw 160 (wkA rr)]) S hr hlo hAe d_M_compare_87 [0, 1] (by decide) rfl rfl ⟨Nat.le_refl _, Nat.le_refl _⟩ (⟨by rw [cmpN_eq hfin], rfl⟩)
        · skip
          refine z_iconst S d_M_compare_82 ?_
          refine z_goto (tgt := 87) S d_M_compare_83 (by decide) ?_
          exact z_iret (w := [oM mo th mw (nv : Int) mg ma mb (ns : Int) mlo mhi (nw : Int) mwe mru mrd, aL cL mw 160 (wkA rr)]) S hr hlo hAe d_M_compare_87 [0, 1] (by decide) rfl rfl ⟨Nat.le_refl _, Nat.le_refl _⟩ (⟨by rw [cmpN_gt (cmp_dg6 (n := n + 1) (by omega) he.symm (by rw [Nat.add_sub_cancel]; omega))], rfl⟩)
      · skip
        refine z_iconst S d_M_compare_71 ?_
        refine z_goto (tgt := 87) S d_M_compare_72 (by decide) ?_
        exact z_iret (w := [oM mo th mw (nv : Int) mg ma mb (ns : Int) mlo mhi (nw : Int) mwe mru mrd, aL cL mw 160 (wkA rr)]) S hr hlo hAe d_M_compare_87 [0, 1] (by decide) rfl rfl ⟨Nat.le_refl _, Nat.le_refl _⟩ (⟨by rw [cmpN_lt (cmp_dg6 (n := n + 1) (by omega) he (by rw [Nat.add_sub_cancel]; omega))], rfl⟩)
    · skip
      refine z_aload_n S d_M_compare_7 0 rfl ?_
      refine z_get S hK la_M 0 rfl rfl 1 (by decide) k_M_7 rfl d_M_compare_8 ?_
      refine z_iload_n S d_M_compare_11 1 rfl ?_
      refine z_bipush S d_M_compare_12 rfl ?_
      refine z_imul S d_M_compare_14 ?_
      refine z_iload_n S d_M_compare_15 3 rfl ?_
      refine z_iadd S d_M_compare_16 ?_
      refine z_lald (x := ((dg 1000000 (rr q) n : Nat) : Int)) S hK 1 1 rfl rfl (q * 20 + n) (by omega) (by omega) (by decide) (wkA_at rr (by omega)) d_M_compare_17 ?_
      refine z_aload_n S d_M_compare_18 0 rfl ?_
      refine z_get S hK la_M 0 rfl rfl 1 (by decide) k_M_7 rfl d_M_compare_19 ?_
      refine z_iload_n S d_M_compare_22 2 rfl ?_
      refine z_bipush S d_M_compare_23 rfl ?_
      refine z_imul S d_M_compare_25 ?_
      refine z_iload_n S d_M_compare_26 3 rfl ?_
      refine z_iadd S d_M_compare_27 ?_
      refine z_lald (x := ((dg 1000000 (rr r) n : Nat) : Int)) S hK 1 1 rfl rfl (r * 20 + n) (by omega) (by omega) (by decide) (wkA_at rr (by omega)) d_M_compare_28 ?_
      refine z_lcmp_ne (tgt := 39) S d_M_compare_29 d_M_compare_30 (by decide) (by omega) (by omega) (fun c5 => ?_) (fun c5 => ?_)
      · skip
        refine z_aload_n S d_M_compare_39 0 rfl ?_
        refine z_get S hK la_M 0 rfl rfl 1 (by decide) k_M_7 rfl d_M_compare_40 ?_
        refine z_iload_n S d_M_compare_43 1 rfl ?_
        refine z_bipush S d_M_compare_44 rfl ?_
        refine z_imul S d_M_compare_46 ?_
        refine z_iload_n S d_M_compare_47 3 rfl ?_
        refine z_iadd S d_M_compare_48 ?_
        refine z_lald (x := ((dg 1000000 (rr q) n : Nat) : Int)) S hK 1 1 rfl rfl (q * 20 + n) (by omega) (by omega) (by decide) (wkA_at rr (by omega)) d_M_compare_49 ?_
        refine z_aload_n S d_M_compare_50 0 rfl ?_
        refine z_get S hK la_M 0 rfl rfl 1 (by decide) k_M_7 rfl d_M_compare_51 ?_
        refine z_iload_n S d_M_compare_54 2 rfl ?_
        refine z_bipush S d_M_compare_55 rfl ?_
        refine z_imul S d_M_compare_57 ?_
        refine z_iload_n S d_M_compare_58 3 rfl ?_
        refine z_iadd S d_M_compare_59 ?_
        refine z_lald (x := ((dg 1000000 (rr r) n : Nat) : Int)) S hK 1 1 rfl rfl (r * 20 + n) (by omega) (by omega) (by decide) (wkA_at rr (by omega)) d_M_compare_60 ?_
        refine z_lsub S d_M_compare_61 ?_
        refine z_topl (fun x6 ex6 => ?_)
        refine z_lstore (lv' := [(4, .long (zL x6)), (0, .ref mo), (1, .int (zI (q : Int))), (2, .int (zI (r : Int))), (3, .int (zI (n : Int)))]) S d_M_compare_62 (by decide) rfl ?_
        refine z_lload S d_M_compare_64 0 rfl ?_
        refine z_lconst (z := 0) S d_M_compare_66 rfl ?_
        refine z_lcmp_ge (tgt := 75) S d_M_compare_67 d_M_compare_68 (by decide) (by omega) (by omega) (fun c7 => ?_) (fun c7 => ?_)
        · skip
          refine z_lload S d_M_compare_75 0 rfl ?_
          refine z_lconst (z := 0) S d_M_compare_77 rfl ?_
          refine z_lcmp_le (tgt := 86) S d_M_compare_78 d_M_compare_79 (by decide) (by omega) (by omega) (fun c8 => ?_) (fun c8 => ?_)
          · skip
            refine z_iconst S d_M_compare_86 ?_
            have h0 : n = 0 := by omega
            have hfin := cmp_dn6 (n := n + 1) (by omega) he (by rw [Nat.add_sub_cancel]; omega)
            rw [Nat.add_sub_cancel, h0, dv_0, dv_0] at hfin
            exact z_iret (w := [oM mo th mw (nv : Int) mg ma mb (ns : Int) mlo mhi (nw : Int) mwe mru mrd, aL cL mw 160 (wkA rr)]) S hr hlo hAe d_M_compare_87 [0, 1] (by decide) rfl rfl ⟨Nat.le_refl _, Nat.le_refl _⟩ (⟨by rw [cmpN_eq hfin], rfl⟩)
          · skip
            refine z_iconst S d_M_compare_82 ?_
            refine z_goto (tgt := 87) S d_M_compare_83 (by decide) ?_
            exact z_iret (w := [oM mo th mw (nv : Int) mg ma mb (ns : Int) mlo mhi (nw : Int) mwe mru mrd, aL cL mw 160 (wkA rr)]) S hr hlo hAe d_M_compare_87 [0, 1] (by decide) rfl rfl ⟨Nat.le_refl _, Nat.le_refl _⟩ (⟨by rw [cmpN_gt (cmp_dg6 (n := n + 1) (by omega) he.symm (by rw [Nat.add_sub_cancel]; omega))], rfl⟩)
        · skip
          refine z_iconst S d_M_compare_71 ?_
          refine z_goto (tgt := 87) S d_M_compare_72 (by decide) ?_
          exact z_iret (w := [oM mo th mw (nv : Int) mg ma mb (ns : Int) mlo mhi (nw : Int) mwe mru mrd, aL cL mw 160 (wkA rr)]) S hr hlo hAe d_M_compare_87 [0, 1] (by decide) rfl rfl ⟨Nat.le_refl _, Nat.le_refl _⟩ (⟨by rw [cmpN_lt (cmp_dg6 (n := n + 1) (by omega) he (by rw [Nat.add_sub_cancel]; omega))], rfl⟩)
      · skip
        refine z_iinc (y := (n : Int) - 1) (lv' := [(3, .int (zI ((n : Int) - 1))), (0, .ref mo), (1, .int (zI (q : Int))), (2, .int (zI (r : Int)))]) S d_M_compare_33 3 rfl (by omega) (by decide) rfl ?_
        refine z_goto (tgt := 3) S d_M_compare_36 (by decide) ?_
        refine z_lv (lv' := [(0, .ref mo), (1, .int (zI (q : Int))), (2, .int (zI (r : Int))), (3, .int (zI ((n : Int) - 1)))]) [1, 2, 3, 0] rfl ?_
        refine z_lq (lv' := [(0, .ref mo), (1, .int (zI (q : Int))), (2, .int (zI (r : Int))), (3, .int (zI ((n - 1 : Nat) : Int)))]) (congrArg (fun zzz : Int => ([(0, .ref mo), (1, .int (zI (q : Int))), (2, .int (zI (r : Int))), (3, .int (zI zzz))] : List (Nat × Value))) (show ((n : Int) - 1 : Int) = ((n - 1 : Nat) : Int) by omega)) ?_
        exact ih3 (n - 1) (show ((n - 1) ≤ 19) ∧ (rr q / 1000000 ^ ((n - 1) + 1) = rr r / 1000000 ^ ((n - 1) + 1)) from ⟨by omega, by rw [show n - 1 + 1 = n by omega]; exact cmp_dn6 (n := n + 1) (by omega) he (by rw [Nat.add_sub_cancel]; omega)⟩) (show (n - 1) < n from by omega)
